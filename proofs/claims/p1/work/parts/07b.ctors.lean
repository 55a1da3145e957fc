abbrev cX6_init : ByteArray := prog_8_method_1_code
def yX6_init : MethodName := ⟨RX6, "<init>", "(LRealSolver$Numbers;LRealSolver$Ideal;)V"⟩
theorem dX6_init_0 : decode cX6_init 0 = .ok (.aload_n 0, 1) := by decide +kernel
theorem dX6_init_1 : decode cX6_init 1 = .ok (.invokespecial 3, 3) := by decide +kernel
theorem dX6_init_4 : decode cX6_init 4 = .ok (.aload_n 0, 1) := by decide +kernel
theorem dX6_init_5 : decode cX6_init 5 = .ok (.bipush 9, 2) := by decide +kernel
theorem dX6_init_7 : decode cX6_init 7 = .ok (.newarray .int, 2) := by decide +kernel
theorem dX6_init_9 : decode cX6_init 9 = .ok (.putfield 9, 3) := by decide +kernel
theorem dX6_init_12 : decode cX6_init 12 = .ok (.aload_n 0, 1) := by decide +kernel
theorem dX6_init_13 : decode cX6_init 13 = .ok (.bipush 27, 2) := by decide +kernel
theorem dX6_init_15 : decode cX6_init 15 = .ok (.bipush 10, 2) := by decide +kernel
theorem dX6_init_17 : decode cX6_init 17 = .ok (.multianewarray 15 2, 4) := by decide +kernel
theorem dX6_init_21 : decode cX6_init 21 = .ok (.putfield 17, 3) := by decide +kernel
theorem dX6_init_24 : decode cX6_init 24 = .ok (.aload_n 0, 1) := by decide +kernel
theorem dX6_init_25 : decode cX6_init 25 = .ok (.aload_n 1, 1) := by decide +kernel
theorem dX6_init_26 : decode cX6_init 26 = .ok (.putfield 20, 3) := by decide +kernel
theorem dX6_init_29 : decode cX6_init 29 = .ok (.aload_n 0, 1) := by decide +kernel
theorem dX6_init_30 : decode cX6_init 30 = .ok (.aload_n 2, 1) := by decide +kernel
theorem dX6_init_31 : decode cX6_init 31 = .ok (.putfield 24, 3) := by decide +kernel
theorem dX6_init_34 : decode cX6_init 34 = .ok (.return_, 1) := by decide +kernel
abbrev cX8_init : ByteArray := prog_10_method_1_code
def yX8_init : MethodName := ⟨RX8, "<init>", "(LRealSolver$Numbers;)V"⟩
theorem dX8_init_0 : decode cX8_init 0 = .ok (.aload_n 0, 1) := by decide +kernel
theorem dX8_init_1 : decode cX8_init 1 = .ok (.invokespecial 1, 3) := by decide +kernel
theorem dX8_init_4 : decode cX8_init 4 = .ok (.aload_n 0, 1) := by decide +kernel
theorem dX8_init_5 : decode cX8_init 5 = .ok (.new 7, 3) := by decide +kernel
theorem dX8_init_8 : decode cX8_init 8 = .ok (.dup, 1) := by decide +kernel
theorem dX8_init_9 : decode cX8_init 9 = .ok (.invokespecial 9, 3) := by decide +kernel
theorem dX8_init_12 : decode cX8_init 12 = .ok (.putfield 10, 3) := by decide +kernel
theorem dX8_init_15 : decode cX8_init 15 = .ok (.aload_n 0, 1) := by decide +kernel
theorem dX8_init_16 : decode cX8_init 16 = .ok (.new 7, 3) := by decide +kernel
theorem dX8_init_19 : decode cX8_init 19 = .ok (.dup, 1) := by decide +kernel
theorem dX8_init_20 : decode cX8_init 20 = .ok (.invokespecial 9, 3) := by decide +kernel
theorem dX8_init_23 : decode cX8_init 23 = .ok (.putfield 16, 3) := by decide +kernel
theorem dX8_init_26 : decode cX8_init 26 = .ok (.aload_n 0, 1) := by decide +kernel
theorem dX8_init_27 : decode cX8_init 27 = .ok (.new 7, 3) := by decide +kernel
theorem dX8_init_30 : decode cX8_init 30 = .ok (.dup, 1) := by decide +kernel
theorem dX8_init_31 : decode cX8_init 31 = .ok (.invokespecial 9, 3) := by decide +kernel
theorem dX8_init_34 : decode cX8_init 34 = .ok (.putfield 19, 3) := by decide +kernel
theorem dX8_init_37 : decode cX8_init 37 = .ok (.aload_n 0, 1) := by decide +kernel
theorem dX8_init_38 : decode cX8_init 38 = .ok (.bipush 10, 2) := by decide +kernel
theorem dX8_init_40 : decode cX8_init 40 = .ok (.newarray .long, 2) := by decide +kernel
theorem dX8_init_42 : decode cX8_init 42 = .ok (.putfield 22, 3) := by decide +kernel
theorem dX8_init_45 : decode cX8_init 45 = .ok (.aload_n 0, 1) := by decide +kernel
theorem dX8_init_46 : decode cX8_init 46 = .ok (.bipush 10, 2) := by decide +kernel
theorem dX8_init_48 : decode cX8_init 48 = .ok (.newarray .long, 2) := by decide +kernel
theorem dX8_init_50 : decode cX8_init 50 = .ok (.putfield 26, 3) := by decide +kernel
theorem dX8_init_53 : decode cX8_init 53 = .ok (.aload_n 0, 1) := by decide +kernel
theorem dX8_init_54 : decode cX8_init 54 = .ok (.aload_n 1, 1) := by decide +kernel
theorem dX8_init_55 : decode cX8_init 55 = .ok (.putfield 29, 3) := by decide +kernel
theorem dX8_init_58 : decode cX8_init 58 = .ok (.return_, 1) := by decide +kernel
abbrev cX10_init : ByteArray := prog_12_method_1_code
def yX10_init : MethodName := ⟨RX10, "<init>", "(LRealSolver$Numbers;LRealSolver$Quotient;)V"⟩
theorem dX10_init_0 : decode cX10_init 0 = .ok (.aload_n 0, 1) := by decide +kernel
theorem dX10_init_1 : decode cX10_init 1 = .ok (.invokespecial 3, 3) := by decide +kernel
theorem dX10_init_4 : decode cX10_init 4 = .ok (.aload_n 0, 1) := by decide +kernel
theorem dX10_init_5 : decode cX10_init 5 = .ok (.bipush 27, 2) := by decide +kernel
theorem dX10_init_7 : decode cX10_init 7 = .ok (.bipush 9, 2) := by decide +kernel
theorem dX10_init_9 : decode cX10_init 9 = .ok (.multianewarray 11 2, 4) := by decide +kernel
theorem dX10_init_13 : decode cX10_init 13 = .ok (.putfield 13, 3) := by decide +kernel
theorem dX10_init_16 : decode cX10_init 16 = .ok (.aload_n 0, 1) := by decide +kernel
theorem dX10_init_17 : decode cX10_init 17 = .ok (.bipush 9, 2) := by decide +kernel
theorem dX10_init_19 : decode cX10_init 19 = .ok (.bipush 9, 2) := by decide +kernel
theorem dX10_init_21 : decode cX10_init 21 = .ok (.multianewarray 11 2, 4) := by decide +kernel
theorem dX10_init_25 : decode cX10_init 25 = .ok (.putfield 18, 3) := by decide +kernel
theorem dX10_init_28 : decode cX10_init 28 = .ok (.aload_n 0, 1) := by decide +kernel
theorem dX10_init_29 : decode cX10_init 29 = .ok (.bipush 10, 2) := by decide +kernel
theorem dX10_init_31 : decode cX10_init 31 = .ok (.newarray .long, 2) := by decide +kernel
theorem dX10_init_33 : decode cX10_init 33 = .ok (.putfield 23, 3) := by decide +kernel
theorem dX10_init_36 : decode cX10_init 36 = .ok (.aload_n 0, 1) := by decide +kernel
theorem dX10_init_37 : decode cX10_init 37 = .ok (.bipush 9, 2) := by decide +kernel
theorem dX10_init_39 : decode cX10_init 39 = .ok (.newarray .long, 2) := by decide +kernel
theorem dX10_init_41 : decode cX10_init 41 = .ok (.putfield 27, 3) := by decide +kernel
theorem dX10_init_44 : decode cX10_init 44 = .ok (.aload_n 0, 1) := by decide +kernel
theorem dX10_init_45 : decode cX10_init 45 = .ok (.bipush 9, 2) := by decide +kernel
theorem dX10_init_47 : decode cX10_init 47 = .ok (.newarray .long, 2) := by decide +kernel
theorem dX10_init_49 : decode cX10_init 49 = .ok (.putfield 30, 3) := by decide +kernel
theorem dX10_init_52 : decode cX10_init 52 = .ok (.aload_n 0, 1) := by decide +kernel
theorem dX10_init_53 : decode cX10_init 53 = .ok (.aload_n 1, 1) := by decide +kernel
theorem dX10_init_54 : decode cX10_init 54 = .ok (.putfield 33, 3) := by decide +kernel
theorem dX10_init_57 : decode cX10_init 57 = .ok (.aload_n 0, 1) := by decide +kernel
theorem dX10_init_58 : decode cX10_init 58 = .ok (.aload_n 2, 1) := by decide +kernel
theorem dX10_init_59 : decode cX10_init 59 = .ok (.putfield 37, 3) := by decide +kernel
theorem dX10_init_62 : decode cX10_init 62 = .ok (.return_, 1) := by decide +kernel
abbrev cX9_init : ByteArray := prog_11_method_1_code
def yX9_init : MethodName := ⟨RX9, "<init>", "(LRealSolver$Numbers;LRealSolver$Ring;)V"⟩
theorem dX9_init_0 : decode cX9_init 0 = .ok (.aload_n 0, 1) := by decide +kernel
theorem dX9_init_1 : decode cX9_init 1 = .ok (.invokespecial 3, 3) := by decide +kernel
theorem dX9_init_4 : decode cX9_init 4 = .ok (.aload_n 0, 1) := by decide +kernel
theorem dX9_init_5 : decode cX9_init 5 = .ok (.new 9, 3) := by decide +kernel
theorem dX9_init_8 : decode cX9_init 8 = .ok (.dup, 1) := by decide +kernel
theorem dX9_init_9 : decode cX9_init 9 = .ok (.invokespecial 11, 3) := by decide +kernel
theorem dX9_init_12 : decode cX9_init 12 = .ok (.putfield 12, 3) := by decide +kernel
theorem dX9_init_15 : decode cX9_init 15 = .ok (.aload_n 0, 1) := by decide +kernel
theorem dX9_init_16 : decode cX9_init 16 = .ok (.bipush 9, 2) := by decide +kernel
theorem dX9_init_18 : decode cX9_init 18 = .ok (.newarray .int, 2) := by decide +kernel
theorem dX9_init_20 : decode cX9_init 20 = .ok (.putfield 18, 3) := by decide +kernel
theorem dX9_init_23 : decode cX9_init 23 = .ok (.aload_n 0, 1) := by decide +kernel
theorem dX9_init_24 : decode cX9_init 24 = .ok (.bipush 9, 2) := by decide +kernel
theorem dX9_init_26 : decode cX9_init 26 = .ok (.newarray .boolean, 2) := by decide +kernel
theorem dX9_init_28 : decode cX9_init 28 = .ok (.putfield 22, 3) := by decide +kernel
theorem dX9_init_31 : decode cX9_init 31 = .ok (.aload_n 0, 1) := by decide +kernel
theorem dX9_init_32 : decode cX9_init 32 = .ok (.bipush 9, 2) := by decide +kernel
theorem dX9_init_34 : decode cX9_init 34 = .ok (.newarray .int, 2) := by decide +kernel
theorem dX9_init_36 : decode cX9_init 36 = .ok (.putfield 26, 3) := by decide +kernel
theorem dX9_init_39 : decode cX9_init 39 = .ok (.aload_n 0, 1) := by decide +kernel
theorem dX9_init_40 : decode cX9_init 40 = .ok (.bipush 9, 2) := by decide +kernel
theorem dX9_init_42 : decode cX9_init 42 = .ok (.bipush 8, 2) := by decide +kernel
theorem dX9_init_44 : decode cX9_init 44 = .ok (.multianewarray 29 2, 4) := by decide +kernel
theorem dX9_init_48 : decode cX9_init 48 = .ok (.putfield 31, 3) := by decide +kernel
theorem dX9_init_51 : decode cX9_init 51 = .ok (.aload_n 0, 1) := by decide +kernel
theorem dX9_init_52 : decode cX9_init 52 = .ok (.bipush 10, 2) := by decide +kernel
theorem dX9_init_54 : decode cX9_init 54 = .ok (.newarray .int, 2) := by decide +kernel
theorem dX9_init_56 : decode cX9_init 56 = .ok (.putfield 34, 3) := by decide +kernel
theorem dX9_init_59 : decode cX9_init 59 = .ok (.aload_n 0, 1) := by decide +kernel
theorem dX9_init_60 : decode cX9_init 60 = .ok (.bipush 10, 2) := by decide +kernel
theorem dX9_init_62 : decode cX9_init 62 = .ok (.newarray .int, 2) := by decide +kernel
theorem dX9_init_64 : decode cX9_init 64 = .ok (.putfield 37, 3) := by decide +kernel
theorem dX9_init_67 : decode cX9_init 67 = .ok (.aload_n 0, 1) := by decide +kernel
theorem dX9_init_68 : decode cX9_init 68 = .ok (.aload_n 1, 1) := by decide +kernel
theorem dX9_init_69 : decode cX9_init 69 = .ok (.putfield 40, 3) := by decide +kernel
theorem dX9_init_72 : decode cX9_init 72 = .ok (.aload_n 0, 1) := by decide +kernel
theorem dX9_init_73 : decode cX9_init 73 = .ok (.aload_n 2, 1) := by decide +kernel
theorem dX9_init_74 : decode cX9_init 74 = .ok (.putfield 44, 3) := by decide +kernel
theorem dX9_init_77 : decode cX9_init 77 = .ok (.return_, 1) := by decide +kernel
def w_X6_init : List Cond := .code yX6_init cX6_init 3 none :: ([.methodLink RX6 3 objectInit, .instanceMethod objectInit, .code objectInit ⟨#[0xb1]⟩ 1 none, .arrayClass .int, .fieldLink RX6 9 "RealSolver$Quotient" "stairKey" "[I", .classLink RX6 15 "[[I", .fieldLink RX6 17 "RealSolver$Quotient" "column" "[[I", .fieldLink RX6 20 "RealSolver$Quotient" "numbers" "LRealSolver$Numbers;", .fieldLink RX6 24 "RealSolver$Quotient" "ideal" "LRealSolver$Ideal;"] ++ (wsX60 ++ ([] : List Cond)))
theorem in_X6_init_X6 : ∀ w ∈ wsX60, w ∈ w_X6_init := fun _ h => List.mem_cons_of_mem _ (List.mem_append_right _ (List.mem_append_left _ h))
set_option maxHeartbeats 4000000 in
set_option maxRecDepth 100000 in
theorem k_X6_init (l : Launch) (dC : Nat → ClassId) (dI : Nat → Nat → Nat) (h0 : Nat) (p1 : Nat) (p2 : Nat) (sz : Nat) : Met l yX6_init w_X6_init ({ frames := 1, cells := 29, slots := 306, locals := 12 }) (va_Pc [.ref h0, .ref p1, .ref p2] (fun U => U.heap.size = sz ∧ va_P (dC, dI) cls_ [(h0, .inr (5, [.null, .null, .int 0, .int 0, .int 0, .null, .null]))] U.heap ∧ va_K (dC, dI) cls_ [] U ∧ va_D (fun _ => True) [(h0, .inr (5, [.null, .null, .int 0, .int 0, .int 0, .null, .null]))] ∧ nx_ U)) (va_Qv (fun _ : Unit => True) (fun _ _ => True) (va_A [(h0, .inr (5, [.null, .null, .int 0, .int 0, .int 0, .null, .null]))] sz)) 29 306 (va_A [(h0, .inr (5, [.null, .null, .int 0, .int 0, .int 0, .null, .null]))] sz) := by
  refine Met.ofW (cc := cX6_init) (maxL := 3) (ret := none) (by decide) rfl ?_
  intro p e s m args below meth c s₁ B hml hv
  obtain ⟨rfl, hsz, hP, hK, hD0, hNx⟩ := hv
  have hx := B.exec
  have hb := B.bytes
  have hr := B.returns
  have hts := atoms_spec (ws := w_X6_init) B.pre
  have hown : s.vm.findClass RX6 = some m.cls := findClass_of_methodNamed B.named
  have hlocks := B.notSynchronized
  have hin : meth.name = "<init>" := (name_of_methodNamed B.named B.method).1
  subst hsz
  have hD := hD0.self (sz := s.heap.size)
  generalize hAe : va_A [(h0, .inr (5, [.null, .null, .int 0, .int 0, .int 0, .null, .null]))] s.heap.size = A at hD ⊢
  have hA : ∀ q : Nat, s.heap.size ≤ q → A q := fun q h => by rw [← hAe]; exact Or.inr h
  have hS : va_S A s.heap s.heap [] := va_S.rf
  have hP : va_P (dC, dI) cls_ [(h0, .inr (5, [.null, .null, .int 0, .int 0, .int 0, .null, .null]))] s.heap := hP
  have hl := lv_entry ([.ref h0, .ref p1, .ref p2]) (n := 3) (Nat.le_of_ble_eq_true rfl)
  rw [lg_entry_eq]
  generalize (lg_sl ([.ref h0, .ref p1, .ref p2]) ++ List.replicate (3 - (lg_sl ([.ref h0, .ref p1, .ref p2])).length) Slot.unset).toArray = ls at hl ⊢
  have hl : lv_has ls 3 [(0, .ref h0), (1, .ref p1), (2, .ref p2)] := hl
  refine lv_aload_n hx hb dX6_init_0 rfl (lv_at hl 0 rfl) ?_
  refine W.objInit hx hb hown (hts (.methodLink RX6 3 objectInit) (List.mem_of_getElem? (i := 1) rfl)) (hts (.instanceMethod objectInit) (List.mem_of_getElem? (i := 2) rfl)) (hts (.code objectInit ⟨#[0xb1]⟩ 1 none) (List.mem_of_getElem? (i := 3) rfl)) rfl (by rw [hml]; exact hl.1) rfl dX6_init_1 (Nat.le_of_ble_eq_true rfl) (Nat.le_of_ble_eq_true rfl) ?_
  refine W.eq (g2 := F0 m 4 ls []) rfl ?_
  refine lv_aload_n hx hb dX6_init_4 rfl (lv_at hl 0 rfl) ?_
  refine lv_bipush (v := 9) hx hb dX6_init_5 (by decide) ?_
  refine va_newa (atype := .int) (ty := .int) (N' := 9) (a0 := (9, .inl (fun _ => 0))) hx hb (hts (.arrayClass .int) (List.mem_of_getElem? (i := 4) rfl)) rfl hK hP hD hS hA (fun _ => rfl) (by decide) (by decide +kernel) (by decide +kernel) (Nat.le_of_ble_eq_true rfl) (Nat.le_of_ble_eq_true rfl) dX6_init_7 (fun q1 cA1 H hK hP hD hS => ?_)
  have hP := hP.sub (ws' := [(h0, .inr (5, [.null, .null, .int 0, .int 0, .int 0, .null, .null]))]) [0] rfl
  have hD := hD.sub (ws' := [(h0, .inr (5, [.null, .null, .int 0, .int 0, .int 0, .null, .null]))]) [0] (by decide) rfl
  have hK := hK.sub (tys' := []) [] rfl
  refine W.widen (k := 1) (n := 9) (Nat.le_of_ble_eq_true rfl) (Nat.le_of_ble_eq_true rfl) ?_
  refine va_putF (D := (dC, dI)) (ci := 5) (v := .ref q1) (ty := .array .int) (C := RX6) (T := TX6) (N := 7) hx hb hts in_X6_init_X6 tyX6 tyX6_ok nmX6 hown hK hP hD hS 0 rfl rfl 5 (by decide) (hts (.fieldLink RX6 9 "RealSolver$Quotient" "stairKey" "[I") (List.mem_of_getElem? (i := 5) rfl)) (fun _ h9 => h9) rfl hin rfl (by decide +kernel) rfl rfl (Nat.le_of_ble_eq_true rfl) dX6_init_9 (fun H locs hP hD hS => ?_)
  have hP : va_P (dC, dI) cls_ [(h0, .inr (5, [.null, .null, .int 0, .int 0, .int 0, .ref q1, .null]))] H := hP
  have hD : va_D A [(h0, .inr (5, [.null, .null, .int 0, .int 0, .int 0, .ref q1, .null]))] := hD
  refine lv_aload_n hx hb dX6_init_12 rfl (lv_at hl 0 rfl) ?_
  refine lv_bipush (v := 27) hx hb dX6_init_13 (by decide) ?_
  refine lv_bipush (v := 10) hx hb dX6_init_15 (by decide) ?_
  refine ax_mna (ty := .int) (N := 27) (K := 10) hx hb hown (hts (.classLink RX6 15 "[[I") (List.mem_of_getElem? (i := 6) rfl)) hNx.ai (hts (.arrayClass .int) (List.mem_of_getElem? (i := 4) rfl)) hP hD hS hA (by decide) (by decide) (by decide +kernel) (by decide +kernel) (by decide +kernel) (by decide +kernel) (by decide +kernel) rfl rfl (Nat.le_of_ble_eq_true rfl) (Nat.le_of_ble_eq_true rfl) dX6_init_17 (fun q2 H hP hD hS => ?_)
  refine W.widen (k := 29) (n := 306) (Nat.le_of_ble_eq_true rfl) (Nat.le_of_ble_eq_true rfl) ?_
  refine va_putF (D := (dC, dI)) (ci := 5) (v := .ref q2) (ty := .array (.array .int)) (C := RX6) (T := TX6) (N := 7) hx hb hts in_X6_init_X6 tyX6 tyX6_ok nmX6 hown hK hP hD hS 0 rfl rfl 6 (by decide) (hts (.fieldLink RX6 17 "RealSolver$Quotient" "column" "[[I") (List.mem_of_getElem? (i := 7) rfl)) (fun _ h9 => h9) rfl hin rfl (by decide +kernel) rfl rfl (Nat.le_of_ble_eq_true rfl) dX6_init_21 (fun H locs hP hD hS => ?_)
  have hP : va_P (dC, dI) cls_ [(h0, .inr (5, [.null, .null, .int 0, .int 0, .int 0, .ref q1, .ref q2]))] H := hP
  have hD : va_D A [(h0, .inr (5, [.null, .null, .int 0, .int 0, .int 0, .ref q1, .ref q2]))] := hD
  refine lv_aload_n hx hb dX6_init_24 rfl (lv_at hl 0 rfl) ?_
  refine lv_aload_n hx hb dX6_init_25 rfl (lv_at hl 1 rfl) ?_
  refine va_putF (D := (dC, dI)) (ci := 5) (v := .ref p1) (ty := .object "RealSolver$Numbers") (C := RX6) (T := TX6) (N := 7) hx hb hts in_X6_init_X6 tyX6 tyX6_ok nmX6 hown hK hP hD hS 0 rfl rfl 0 (by decide) (hts (.fieldLink RX6 20 "RealSolver$Quotient" "numbers" "LRealSolver$Numbers;") (List.mem_of_getElem? (i := 8) rfl)) (fun _ h9 => h9) rfl hin rfl (by decide +kernel) rfl rfl (Nat.le_of_ble_eq_true rfl) dX6_init_26 (fun H locs hP hD hS => ?_)
  have hP : va_P (dC, dI) cls_ [(h0, .inr (5, [.ref p1, .null, .int 0, .int 0, .int 0, .ref q1, .ref q2]))] H := hP
  have hD : va_D A [(h0, .inr (5, [.ref p1, .null, .int 0, .int 0, .int 0, .ref q1, .ref q2]))] := hD
  refine lv_aload_n hx hb dX6_init_29 rfl (lv_at hl 0 rfl) ?_
  refine lv_aload_n hx hb dX6_init_30 rfl (lv_at hl 2 rfl) ?_
  refine va_putF (D := (dC, dI)) (ci := 5) (v := .ref p2) (ty := .object "RealSolver$Ideal") (C := RX6) (T := TX6) (N := 7) hx hb hts in_X6_init_X6 tyX6 tyX6_ok nmX6 hown hK hP hD hS 0 rfl rfl 1 (by decide) (hts (.fieldLink RX6 24 "RealSolver$Quotient" "ideal" "LRealSolver$Ideal;") (List.mem_of_getElem? (i := 9) rfl)) (fun _ h9 => h9) rfl hin rfl (by decide +kernel) rfl rfl (Nat.le_of_ble_eq_true rfl) dX6_init_31 (fun H locs hP hD hS => ?_)
  have hP : va_P (dC, dI) cls_ [(h0, .inr (5, [.ref p1, .ref p2, .int 0, .int 0, .int 0, .ref q1, .ref q2]))] H := hP
  have hD : va_D A [(h0, .inr (5, [.ref p1, .ref p2, .int 0, .int 0, .int 0, .ref q1, .ref q2]))] := hD
  refine W.widen (k := 29) (n := 306) (Nat.le_of_ble_eq_true rfl) (Nat.le_of_ble_eq_true rfl) ?_
  exact W.vret hx hb hr (fun t ht hW => ⟨⟨(), rfl, trivial, trivial⟩, hS.F ht⟩) hS.2.2 dX6_init_34

def w_X8_init : List Cond := .code yX8_init cX8_init 2 none :: ([.methodLink RX8 1 objectInit, .instanceMethod objectInit, .code objectInit ⟨#[0xb1]⟩ 1 none, .classLink RX8 7 RX1, .instantiable RX1 3, .initialized RX1, .methodLink RX1 3 objectInit, .fieldLink RX1 9 "RealSolver$InT" "degree" "I", .arrayClass .int, .fieldLink RX1 15 "RealSolver$InT" "at" "[I", .code yX1_init cX1_init 1 none, .instanceMethod yX1_init, .fieldLink RX8 10 "RealSolver$Ring" "first" "LRealSolver$InT;", .fieldLink RX8 16 "RealSolver$Ring" "second" "LRealSolver$InT;", .fieldLink RX8 19 "RealSolver$Ring" "slope" "LRealSolver$InT;", .arrayClass .long, .fieldLink RX8 22 "RealSolver$Ring" "modFirst" "[J", .fieldLink RX8 26 "RealSolver$Ring" "modSecond" "[J", .fieldLink RX8 29 "RealSolver$Ring" "numbers" "LRealSolver$Numbers;"] ++ (wsX10 ++ (wsX80 ++ ([] : List Cond))))
theorem in_X8_init_X1 : ∀ w ∈ wsX10, w ∈ w_X8_init := fun _ h => List.mem_cons_of_mem _ (List.mem_append_right _ (List.mem_append_left _ h))
theorem in_X8_init_X8 : ∀ w ∈ wsX80, w ∈ w_X8_init := fun _ h => List.mem_cons_of_mem _ (List.mem_append_right _ (List.mem_append_right _ (List.mem_append_left _ h)))
set_option maxRecDepth 20000 in
theorem g_X8_init_X1_init_9 : GoodIn w_X8_init w_X1_init := goodIn_r _ [11, 7, 2, 3, 8, 9, 10, 20, 21, 22] (by decide +kernel) (by decide +kernel)
set_option maxHeartbeats 4000000 in
set_option maxRecDepth 100000 in
theorem k_X8_init (l : Launch) (dC : Nat → ClassId) (dI : Nat → Nat → Nat) (h0 : Nat) (p1 : Nat) (sz : Nat) : Met l yX8_init w_X8_init ({ frames := 2, cells := 8, slots := 59, locals := 32 }) (va_Pc [.ref h0, .ref p1] (fun U => U.heap.size = sz ∧ va_P (dC, dI) cls_ [(h0, .inr (7, [.null, .null, .null, .null, .null, .null]))] U.heap ∧ va_K (dC, dI) cls_ [] U ∧ va_D (fun _ => True) [(h0, .inr (7, [.null, .null, .null, .null, .null, .null]))] ∧ nx_ U)) (va_Qv (fun _ : Unit => True) (fun _ _ => True) (va_A [(h0, .inr (7, [.null, .null, .null, .null, .null, .null]))] sz)) 8 59 (va_A [(h0, .inr (7, [.null, .null, .null, .null, .null, .null]))] sz) := by
  refine Met.ofW (cc := cX8_init) (maxL := 2) (ret := none) (by decide) rfl ?_
  intro p e s m args below meth c s₁ B hml hv
  obtain ⟨rfl, hsz, hP, hK, hD0, hNx⟩ := hv
  have hx := B.exec
  have hb := B.bytes
  have hr := B.returns
  have hts := atoms_spec (ws := w_X8_init) B.pre
  have hown : s.vm.findClass RX8 = some m.cls := findClass_of_methodNamed B.named
  have hlocks := B.notSynchronized
  have hin : meth.name = "<init>" := (name_of_methodNamed B.named B.method).1
  subst hsz
  have hD := hD0.self (sz := s.heap.size)
  generalize hAe : va_A [(h0, .inr (7, [.null, .null, .null, .null, .null, .null]))] s.heap.size = A at hD ⊢
  have hA : ∀ q : Nat, s.heap.size ≤ q → A q := fun q h => by rw [← hAe]; exact Or.inr h
  have hS : va_S A s.heap s.heap [] := va_S.rf
  have hP : va_P (dC, dI) cls_ [(h0, .inr (7, [.null, .null, .null, .null, .null, .null]))] s.heap := hP
  have hl := lv_entry ([.ref h0, .ref p1]) (n := 2) (Nat.le_of_ble_eq_true rfl)
  rw [lg_entry_eq]
  generalize (lg_sl ([.ref h0, .ref p1]) ++ List.replicate (2 - (lg_sl ([.ref h0, .ref p1])).length) Slot.unset).toArray = ls at hl ⊢
  have hl : lv_has ls 2 [(0, .ref h0), (1, .ref p1)] := hl
  refine lv_aload_n hx hb dX8_init_0 rfl (lv_at hl 0 rfl) ?_
  refine W.objInit hx hb hown (hts (.methodLink RX8 1 objectInit) (List.mem_of_getElem? (i := 1) rfl)) (hts (.instanceMethod objectInit) (List.mem_of_getElem? (i := 2) rfl)) (hts (.code objectInit ⟨#[0xb1]⟩ 1 none) (List.mem_of_getElem? (i := 3) rfl)) rfl (by rw [hml]; exact hl.1) rfl dX8_init_1 (Nat.le_of_ble_eq_true rfl) (Nat.le_of_ble_eq_true rfl) ?_
  refine W.eq (g2 := F0 m 4 ls []) rfl ?_
  refine lv_aload_n hx hb dX8_init_4 rfl (lv_at hl 0 rfl) ?_
  refine va_new (ci := 1) (fs := [.int 0, .null, .int 0]) (C := RX1) (T := TX1) (N := 3) hx hb hts in_X8_init_X1 tyX1 tyX1_ok hown (hts (.classLink RX8 7 RX1) (List.mem_of_getElem? (i := 4) rfl)) (hts (.instantiable RX1 3) (List.mem_of_getElem? (i := 5) rfl)) (hts (.initialized RX1) (List.mem_of_getElem? (i := 6) rfl)) hK hP hD hS hA rfl df_X1 (Nat.le_of_ble_eq_true rfl) (Nat.le_of_ble_eq_true rfl) dX8_init_5 (fun q1 H hP hD hS => ?_)
  have hP : va_P (dC, dI) cls_ [(h0, .inr (7, [.null, .null, .null, .null, .null, .null])), (q1, .inr (1, [.int 0, .null, .int 0]))] H := hP
  have hD : va_D A [(h0, .inr (7, [.null, .null, .null, .null, .null, .null])), (q1, .inr (1, [.int 0, .null, .int 0]))] := hD
  refine W.widen (k := 1) (n := 3) (Nat.le_of_ble_eq_true rfl) (Nat.le_of_ble_eq_true rfl) ?_
  refine lv_dup hx hb dX8_init_8 rfl ?_
  have hPc := hP.sub (ws' := [(q1, .inr (1, [.int 0, .null, .int 0]))]) [1] rfl
  have hDc := hD.sub (ws' := [(q1, .inr (1, [.int 0, .null, .int 0]))]) [1] (by decide) rfl
  have hKc := hK.sub (tys' := []) [] rfl
  have hFc := va_free (wc := [(q1, .inr (1, [.int 0, .null, .int 0]))]) hD hS hA [1] rfl
  refine va_callv (va_runIN (As := []) (rest := [.ref q1, .ref h0]) ⟨hx, hb, hml, hown, hts⟩ (k_X1_init l dC dI q1 H.size) ⟨va_cnB 0 hts g_X8_init_X1_init_9 rfl rfl rfl hNx.ml_RX8_9 (hts (.initialized RX1) (List.mem_of_getElem? (i := 6) rfl)) (by decide +kernel) ⟨Nat.le_of_ble_eq_true rfl, Nat.le_of_ble_eq_true rfl⟩, rfl, hts (.instanceMethod yX1_init) (List.mem_of_getElem? (i := 12) rfl)⟩ ⟨fun a U g mk q => by obtain ⟨q0, q1, qP, qK, qD, qN⟩ := q; exact ⟨q0, q1, qP, va_K.moved (u := U) (U := U.calling g mk a) (Vm.Alike.refl U.vm) qK, qD, nx_.same rfl qN⟩, fun U hU hW => ⟨rfl, by rw [hU], by rw [hU]; exact hPc, va_K.moved hW.alike hKc, hDc.weaken (fun _ _ _ _ => trivial), nx_.warm hW hNx⟩⟩ rfl rfl hl.1 rfl (lv_room (Nat.le_of_ble_eq_true rfl)) dX8_init_9 ⟨Nat.le_of_ble_eq_true rfl, Nat.le_of_ble_eq_true rfl⟩) hS (fun q _ h => hFc q h) hFc (fun u t H1 locs ht hvm hw hB hz1 hk1 hS => ?_)
  try dsimp only at hw
  obtain ⟨z0_2, z1_2, z2_2, hP1, hK1, hD1⟩ := hB
  rw [ht] at hP1
  obtain ⟨hP, hD⟩ := va_join (wr := [(h0, .inr (7, [.null, .null, .null, .null, .null, .null]))]) (w1 := [(q1, .inr (1, [z0_2, z1_2, z2_2]))]) hP hD [1] [0] rfl rfl (by decide) (by decide) hk1 hFc hP1 hD1
  generalize H1 = H at hP hS ⊢
  have hP : va_P (dC, dI) cls_ [(h0, .inr (7, [.null, .null, .null, .null, .null, .null])), (q1, .inr (1, [z0_2, z1_2, z2_2]))] H := hP
  have hD : va_D A [(h0, .inr (7, [.null, .null, .null, .null, .null, .null])), (q1, .inr (1, [z0_2, z1_2, z2_2]))] := hD
  refine W.widen (k := 2) (n := 13) (Nat.le_of_ble_eq_true rfl) (Nat.le_of_ble_eq_true rfl) ?_
  refine va_putF (D := (dC, dI)) (ci := 7) (v := .ref q1) (ty := .object "RealSolver$InT") (C := RX8) (T := TX8) (N := 6) hx hb hts in_X8_init_X8 tyX8 tyX8_ok nmX8 hown hK hP hD hS 0 rfl rfl 1 (by decide) (hts (.fieldLink RX8 10 "RealSolver$Ring" "first" "LRealSolver$InT;") (List.mem_of_getElem? (i := 13) rfl)) (fun _ h9 => h9) rfl hin rfl (by decide +kernel) rfl rfl (Nat.le_of_ble_eq_true rfl) dX8_init_12 (fun H locs hP hD hS => ?_)
  have hP : va_P (dC, dI) cls_ [(h0, .inr (7, [.null, .ref q1, .null, .null, .null, .null])), (q1, .inr (1, [z0_2, z1_2, z2_2]))] H := hP
  have hD : va_D A [(h0, .inr (7, [.null, .ref q1, .null, .null, .null, .null])), (q1, .inr (1, [z0_2, z1_2, z2_2]))] := hD
  refine lv_aload_n hx hb dX8_init_15 rfl (lv_at hl 0 rfl) ?_
  refine va_new (ci := 1) (fs := [.int 0, .null, .int 0]) (C := RX1) (T := TX1) (N := 3) hx hb hts in_X8_init_X1 tyX1 tyX1_ok hown (hts (.classLink RX8 7 RX1) (List.mem_of_getElem? (i := 4) rfl)) (hts (.instantiable RX1 3) (List.mem_of_getElem? (i := 5) rfl)) (hts (.initialized RX1) (List.mem_of_getElem? (i := 6) rfl)) hK hP hD hS hA rfl df_X1 (Nat.le_of_ble_eq_true rfl) (Nat.le_of_ble_eq_true rfl) dX8_init_16 (fun q3 H hP hD hS => ?_)
  have hP : va_P (dC, dI) cls_ [(h0, .inr (7, [.null, .ref q1, .null, .null, .null, .null])), (q1, .inr (1, [z0_2, z1_2, z2_2])), (q3, .inr (1, [.int 0, .null, .int 0]))] H := hP
  have hD : va_D A [(h0, .inr (7, [.null, .ref q1, .null, .null, .null, .null])), (q1, .inr (1, [z0_2, z1_2, z2_2])), (q3, .inr (1, [.int 0, .null, .int 0]))] := hD
  refine W.widen (k := 3) (n := 16) (Nat.le_of_ble_eq_true rfl) (Nat.le_of_ble_eq_true rfl) ?_
  refine lv_dup hx hb dX8_init_19 rfl ?_
  have hPc := hP.sub (ws' := [(q3, .inr (1, [.int 0, .null, .int 0]))]) [2] rfl
  have hDc := hD.sub (ws' := [(q3, .inr (1, [.int 0, .null, .int 0]))]) [2] (by decide) rfl
  have hKc := hK.sub (tys' := []) [] rfl
  have hFc := va_free (wc := [(q3, .inr (1, [.int 0, .null, .int 0]))]) hD hS hA [2] rfl
  refine va_callv (va_runIN (As := []) (rest := [.ref q3, .ref h0]) ⟨hx, hb, hml, hown, hts⟩ (k_X1_init l dC dI q3 H.size) ⟨va_cnB 0 hts g_X8_init_X1_init_9 rfl rfl rfl hNx.ml_RX8_9 (hts (.initialized RX1) (List.mem_of_getElem? (i := 6) rfl)) (by decide +kernel) ⟨Nat.le_of_ble_eq_true rfl, Nat.le_of_ble_eq_true rfl⟩, rfl, hts (.instanceMethod yX1_init) (List.mem_of_getElem? (i := 12) rfl)⟩ ⟨fun a U g mk q => by obtain ⟨q0, q1, qP, qK, qD, qN⟩ := q; exact ⟨q0, q1, qP, va_K.moved (u := U) (U := U.calling g mk a) (Vm.Alike.refl U.vm) qK, qD, nx_.same rfl qN⟩, fun U hU hW => ⟨rfl, by rw [hU], by rw [hU]; exact hPc, va_K.moved hW.alike hKc, hDc.weaken (fun _ _ _ _ => trivial), nx_.warm hW hNx⟩⟩ rfl rfl hl.1 rfl (lv_room (Nat.le_of_ble_eq_true rfl)) dX8_init_20 ⟨Nat.le_of_ble_eq_true rfl, Nat.le_of_ble_eq_true rfl⟩) hS (fun q _ h => hFc q h) hFc (fun u t H1 locs ht hvm hw hB hz1 hk1 hS => ?_)
  try dsimp only at hw
  obtain ⟨z0_4, z1_4, z2_4, hP1, hK1, hD1⟩ := hB
  rw [ht] at hP1
  obtain ⟨hP, hD⟩ := va_join (wr := [(h0, .inr (7, [.null, .ref q1, .null, .null, .null, .null])), (q1, .inr (1, [z0_2, z1_2, z2_2]))]) (w1 := [(q3, .inr (1, [z0_4, z1_4, z2_4]))]) hP hD [2] [0, 1] rfl rfl (by decide) (by decide) hk1 hFc hP1 hD1
  generalize H1 = H at hP hS ⊢
  have hP : va_P (dC, dI) cls_ [(h0, .inr (7, [.null, .ref q1, .null, .null, .null, .null])), (q1, .inr (1, [z0_2, z1_2, z2_2])), (q3, .inr (1, [z0_4, z1_4, z2_4]))] H := hP
  have hD : va_D A [(h0, .inr (7, [.null, .ref q1, .null, .null, .null, .null])), (q1, .inr (1, [z0_2, z1_2, z2_2])), (q3, .inr (1, [z0_4, z1_4, z2_4]))] := hD
  refine W.widen (k := 4) (n := 26) (Nat.le_of_ble_eq_true rfl) (Nat.le_of_ble_eq_true rfl) ?_
  refine va_putF (D := (dC, dI)) (ci := 7) (v := .ref q3) (ty := .object "RealSolver$InT") (C := RX8) (T := TX8) (N := 6) hx hb hts in_X8_init_X8 tyX8 tyX8_ok nmX8 hown hK hP hD hS 0 rfl rfl 2 (by decide) (hts (.fieldLink RX8 16 "RealSolver$Ring" "second" "LRealSolver$InT;") (List.mem_of_getElem? (i := 14) rfl)) (fun _ h9 => h9) rfl hin rfl (by decide +kernel) rfl rfl (Nat.le_of_ble_eq_true rfl) dX8_init_23 (fun H locs hP hD hS => ?_)
  have hP : va_P (dC, dI) cls_ [(h0, .inr (7, [.null, .ref q1, .ref q3, .null, .null, .null])), (q1, .inr (1, [z0_2, z1_2, z2_2])), (q3, .inr (1, [z0_4, z1_4, z2_4]))] H := hP
  have hD : va_D A [(h0, .inr (7, [.null, .ref q1, .ref q3, .null, .null, .null])), (q1, .inr (1, [z0_2, z1_2, z2_2])), (q3, .inr (1, [z0_4, z1_4, z2_4]))] := hD
  refine lv_aload_n hx hb dX8_init_26 rfl (lv_at hl 0 rfl) ?_
  refine va_new (ci := 1) (fs := [.int 0, .null, .int 0]) (C := RX1) (T := TX1) (N := 3) hx hb hts in_X8_init_X1 tyX1 tyX1_ok hown (hts (.classLink RX8 7 RX1) (List.mem_of_getElem? (i := 4) rfl)) (hts (.instantiable RX1 3) (List.mem_of_getElem? (i := 5) rfl)) (hts (.initialized RX1) (List.mem_of_getElem? (i := 6) rfl)) hK hP hD hS hA rfl df_X1 (Nat.le_of_ble_eq_true rfl) (Nat.le_of_ble_eq_true rfl) dX8_init_27 (fun q5 H hP hD hS => ?_)
  have hP : va_P (dC, dI) cls_ [(h0, .inr (7, [.null, .ref q1, .ref q3, .null, .null, .null])), (q1, .inr (1, [z0_2, z1_2, z2_2])), (q3, .inr (1, [z0_4, z1_4, z2_4])), (q5, .inr (1, [.int 0, .null, .int 0]))] H := hP
  have hD : va_D A [(h0, .inr (7, [.null, .ref q1, .ref q3, .null, .null, .null])), (q1, .inr (1, [z0_2, z1_2, z2_2])), (q3, .inr (1, [z0_4, z1_4, z2_4])), (q5, .inr (1, [.int 0, .null, .int 0]))] := hD
  refine W.widen (k := 5) (n := 29) (Nat.le_of_ble_eq_true rfl) (Nat.le_of_ble_eq_true rfl) ?_
  refine lv_dup hx hb dX8_init_30 rfl ?_
  have hPc := hP.sub (ws' := [(q5, .inr (1, [.int 0, .null, .int 0]))]) [3] rfl
  have hDc := hD.sub (ws' := [(q5, .inr (1, [.int 0, .null, .int 0]))]) [3] (by decide) rfl
  have hKc := hK.sub (tys' := []) [] rfl
  have hFc := va_free (wc := [(q5, .inr (1, [.int 0, .null, .int 0]))]) hD hS hA [3] rfl
  refine va_callv (va_runIN (As := []) (rest := [.ref q5, .ref h0]) ⟨hx, hb, hml, hown, hts⟩ (k_X1_init l dC dI q5 H.size) ⟨va_cnB 0 hts g_X8_init_X1_init_9 rfl rfl rfl hNx.ml_RX8_9 (hts (.initialized RX1) (List.mem_of_getElem? (i := 6) rfl)) (by decide +kernel) ⟨Nat.le_of_ble_eq_true rfl, Nat.le_of_ble_eq_true rfl⟩, rfl, hts (.instanceMethod yX1_init) (List.mem_of_getElem? (i := 12) rfl)⟩ ⟨fun a U g mk q => by obtain ⟨q0, q1, qP, qK, qD, qN⟩ := q; exact ⟨q0, q1, qP, va_K.moved (u := U) (U := U.calling g mk a) (Vm.Alike.refl U.vm) qK, qD, nx_.same rfl qN⟩, fun U hU hW => ⟨rfl, by rw [hU], by rw [hU]; exact hPc, va_K.moved hW.alike hKc, hDc.weaken (fun _ _ _ _ => trivial), nx_.warm hW hNx⟩⟩ rfl rfl hl.1 rfl (lv_room (Nat.le_of_ble_eq_true rfl)) dX8_init_31 ⟨Nat.le_of_ble_eq_true rfl, Nat.le_of_ble_eq_true rfl⟩) hS (fun q _ h => hFc q h) hFc (fun u t H1 locs ht hvm hw hB hz1 hk1 hS => ?_)
  try dsimp only at hw
  obtain ⟨z0_6, z1_6, z2_6, hP1, hK1, hD1⟩ := hB
  rw [ht] at hP1
  obtain ⟨hP, hD⟩ := va_join (wr := [(h0, .inr (7, [.null, .ref q1, .ref q3, .null, .null, .null])), (q1, .inr (1, [z0_2, z1_2, z2_2])), (q3, .inr (1, [z0_4, z1_4, z2_4]))]) (w1 := [(q5, .inr (1, [z0_6, z1_6, z2_6]))]) hP hD [3] [0, 1, 2] rfl rfl (by decide) (by decide) hk1 hFc hP1 hD1
  generalize H1 = H at hP hS ⊢
  have hP : va_P (dC, dI) cls_ [(h0, .inr (7, [.null, .ref q1, .ref q3, .null, .null, .null])), (q1, .inr (1, [z0_2, z1_2, z2_2])), (q3, .inr (1, [z0_4, z1_4, z2_4])), (q5, .inr (1, [z0_6, z1_6, z2_6]))] H := hP
  have hD : va_D A [(h0, .inr (7, [.null, .ref q1, .ref q3, .null, .null, .null])), (q1, .inr (1, [z0_2, z1_2, z2_2])), (q3, .inr (1, [z0_4, z1_4, z2_4])), (q5, .inr (1, [z0_6, z1_6, z2_6]))] := hD
  refine W.widen (k := 6) (n := 39) (Nat.le_of_ble_eq_true rfl) (Nat.le_of_ble_eq_true rfl) ?_
  refine va_putF (D := (dC, dI)) (ci := 7) (v := .ref q5) (ty := .object "RealSolver$InT") (C := RX8) (T := TX8) (N := 6) hx hb hts in_X8_init_X8 tyX8 tyX8_ok nmX8 hown hK hP hD hS 0 rfl rfl 3 (by decide) (hts (.fieldLink RX8 19 "RealSolver$Ring" "slope" "LRealSolver$InT;") (List.mem_of_getElem? (i := 15) rfl)) (fun _ h9 => h9) rfl hin rfl (by decide +kernel) rfl rfl (Nat.le_of_ble_eq_true rfl) dX8_init_34 (fun H locs hP hD hS => ?_)
  have hP : va_P (dC, dI) cls_ [(h0, .inr (7, [.null, .ref q1, .ref q3, .ref q5, .null, .null])), (q1, .inr (1, [z0_2, z1_2, z2_2])), (q3, .inr (1, [z0_4, z1_4, z2_4])), (q5, .inr (1, [z0_6, z1_6, z2_6]))] H := hP
  have hD : va_D A [(h0, .inr (7, [.null, .ref q1, .ref q3, .ref q5, .null, .null])), (q1, .inr (1, [z0_2, z1_2, z2_2])), (q3, .inr (1, [z0_4, z1_4, z2_4])), (q5, .inr (1, [z0_6, z1_6, z2_6]))] := hD
  refine lv_aload_n hx hb dX8_init_37 rfl (lv_at hl 0 rfl) ?_
  refine lv_bipush (v := 10) hx hb dX8_init_38 (by decide) ?_
  refine va_newa (atype := .long) (ty := .long) (N' := 10) (a0 := (10, .inr (.inl (fun _ => 0)))) hx hb (hts (.arrayClass .long) (List.mem_of_getElem? (i := 16) rfl)) rfl hK hP hD hS hA (fun _ => rfl) (by decide) (by decide +kernel) (by decide +kernel) (Nat.le_of_ble_eq_true rfl) (Nat.le_of_ble_eq_true rfl) dX8_init_40 (fun q7 cA7 H hK hP hD hS => ?_)
  have hP := hP.sub (ws' := [(h0, .inr (7, [.null, .ref q1, .ref q3, .ref q5, .null, .null])), (q1, .inr (1, [z0_2, z1_2, z2_2])), (q3, .inr (1, [z0_4, z1_4, z2_4])), (q5, .inr (1, [z0_6, z1_6, z2_6]))]) [0, 1, 2, 3] rfl
  have hD := hD.sub (ws' := [(h0, .inr (7, [.null, .ref q1, .ref q3, .ref q5, .null, .null])), (q1, .inr (1, [z0_2, z1_2, z2_2])), (q3, .inr (1, [z0_4, z1_4, z2_4])), (q5, .inr (1, [z0_6, z1_6, z2_6]))]) [0, 1, 2, 3] (by decide) rfl
  have hK := hK.sub (tys' := []) [] rfl
  refine W.widen (k := 7) (n := 49) (Nat.le_of_ble_eq_true rfl) (Nat.le_of_ble_eq_true rfl) ?_
  refine va_putF (D := (dC, dI)) (ci := 7) (v := .ref q7) (ty := .array .long) (C := RX8) (T := TX8) (N := 6) hx hb hts in_X8_init_X8 tyX8 tyX8_ok nmX8 hown hK hP hD hS 0 rfl rfl 4 (by decide) (hts (.fieldLink RX8 22 "RealSolver$Ring" "modFirst" "[J") (List.mem_of_getElem? (i := 17) rfl)) (fun _ h9 => h9) rfl hin rfl (by decide +kernel) rfl rfl (Nat.le_of_ble_eq_true rfl) dX8_init_42 (fun H locs hP hD hS => ?_)
  have hP : va_P (dC, dI) cls_ [(h0, .inr (7, [.null, .ref q1, .ref q3, .ref q5, .ref q7, .null])), (q1, .inr (1, [z0_2, z1_2, z2_2])), (q3, .inr (1, [z0_4, z1_4, z2_4])), (q5, .inr (1, [z0_6, z1_6, z2_6]))] H := hP
  have hD : va_D A [(h0, .inr (7, [.null, .ref q1, .ref q3, .ref q5, .ref q7, .null])), (q1, .inr (1, [z0_2, z1_2, z2_2])), (q3, .inr (1, [z0_4, z1_4, z2_4])), (q5, .inr (1, [z0_6, z1_6, z2_6]))] := hD
  refine lv_aload_n hx hb dX8_init_45 rfl (lv_at hl 0 rfl) ?_
  refine lv_bipush (v := 10) hx hb dX8_init_46 (by decide) ?_
  refine va_newa (atype := .long) (ty := .long) (N' := 10) (a0 := (10, .inr (.inl (fun _ => 0)))) hx hb (hts (.arrayClass .long) (List.mem_of_getElem? (i := 16) rfl)) rfl hK hP hD hS hA (fun _ => rfl) (by decide) (by decide +kernel) (by decide +kernel) (Nat.le_of_ble_eq_true rfl) (Nat.le_of_ble_eq_true rfl) dX8_init_48 (fun q8 cA8 H hK hP hD hS => ?_)
  have hP := hP.sub (ws' := [(h0, .inr (7, [.null, .ref q1, .ref q3, .ref q5, .ref q7, .null])), (q1, .inr (1, [z0_2, z1_2, z2_2])), (q3, .inr (1, [z0_4, z1_4, z2_4])), (q5, .inr (1, [z0_6, z1_6, z2_6]))]) [0, 1, 2, 3] rfl
  have hD := hD.sub (ws' := [(h0, .inr (7, [.null, .ref q1, .ref q3, .ref q5, .ref q7, .null])), (q1, .inr (1, [z0_2, z1_2, z2_2])), (q3, .inr (1, [z0_4, z1_4, z2_4])), (q5, .inr (1, [z0_6, z1_6, z2_6]))]) [0, 1, 2, 3] (by decide) rfl
  have hK := hK.sub (tys' := []) [] rfl
  refine W.widen (k := 8) (n := 59) (Nat.le_of_ble_eq_true rfl) (Nat.le_of_ble_eq_true rfl) ?_
  refine va_putF (D := (dC, dI)) (ci := 7) (v := .ref q8) (ty := .array .long) (C := RX8) (T := TX8) (N := 6) hx hb hts in_X8_init_X8 tyX8 tyX8_ok nmX8 hown hK hP hD hS 0 rfl rfl 5 (by decide) (hts (.fieldLink RX8 26 "RealSolver$Ring" "modSecond" "[J") (List.mem_of_getElem? (i := 18) rfl)) (fun _ h9 => h9) rfl hin rfl (by decide +kernel) rfl rfl (Nat.le_of_ble_eq_true rfl) dX8_init_50 (fun H locs hP hD hS => ?_)
  have hP : va_P (dC, dI) cls_ [(h0, .inr (7, [.null, .ref q1, .ref q3, .ref q5, .ref q7, .ref q8])), (q1, .inr (1, [z0_2, z1_2, z2_2])), (q3, .inr (1, [z0_4, z1_4, z2_4])), (q5, .inr (1, [z0_6, z1_6, z2_6]))] H := hP
  have hD : va_D A [(h0, .inr (7, [.null, .ref q1, .ref q3, .ref q5, .ref q7, .ref q8])), (q1, .inr (1, [z0_2, z1_2, z2_2])), (q3, .inr (1, [z0_4, z1_4, z2_4])), (q5, .inr (1, [z0_6, z1_6, z2_6]))] := hD
  refine lv_aload_n hx hb dX8_init_53 rfl (lv_at hl 0 rfl) ?_
  refine lv_aload_n hx hb dX8_init_54 rfl (lv_at hl 1 rfl) ?_
  refine va_putF (D := (dC, dI)) (ci := 7) (v := .ref p1) (ty := .object "RealSolver$Numbers") (C := RX8) (T := TX8) (N := 6) hx hb hts in_X8_init_X8 tyX8 tyX8_ok nmX8 hown hK hP hD hS 0 rfl rfl 0 (by decide) (hts (.fieldLink RX8 29 "RealSolver$Ring" "numbers" "LRealSolver$Numbers;") (List.mem_of_getElem? (i := 19) rfl)) (fun _ h9 => h9) rfl hin rfl (by decide +kernel) rfl rfl (Nat.le_of_ble_eq_true rfl) dX8_init_55 (fun H locs hP hD hS => ?_)
  have hP : va_P (dC, dI) cls_ [(h0, .inr (7, [.ref p1, .ref q1, .ref q3, .ref q5, .ref q7, .ref q8])), (q1, .inr (1, [z0_2, z1_2, z2_2])), (q3, .inr (1, [z0_4, z1_4, z2_4])), (q5, .inr (1, [z0_6, z1_6, z2_6]))] H := hP
  have hD : va_D A [(h0, .inr (7, [.ref p1, .ref q1, .ref q3, .ref q5, .ref q7, .ref q8])), (q1, .inr (1, [z0_2, z1_2, z2_2])), (q3, .inr (1, [z0_4, z1_4, z2_4])), (q5, .inr (1, [z0_6, z1_6, z2_6]))] := hD
  refine W.widen (k := 8) (n := 59) (Nat.le_of_ble_eq_true rfl) (Nat.le_of_ble_eq_true rfl) ?_
  exact W.vret hx hb hr (fun t ht hW => ⟨⟨(), rfl, trivial, trivial⟩, hS.F ht⟩) hS.2.2 dX8_init_58

def w_X10_init : List Cond := .code yX10_init cX10_init 3 none :: ([.methodLink RX10 3 objectInit, .instanceMethod objectInit, .code objectInit ⟨#[0xb1]⟩ 1 none, .classLink RX10 11 "[[J", .arrayClass .long, .fieldLink RX10 13 "RealSolver$Shadow" "matrix" "[[J", .fieldLink RX10 18 "RealSolver$Shadow" "reduced" "[[J", .fieldLink RX10 23 "RealSolver$Shadow" "polynomial" "[J", .fieldLink RX10 27 "RealSolver$Shadow" "image" "[J", .fieldLink RX10 30 "RealSolver$Shadow" "next" "[J", .fieldLink RX10 33 "RealSolver$Shadow" "numbers" "LRealSolver$Numbers;", .fieldLink RX10 37 "RealSolver$Shadow" "quotient" "LRealSolver$Quotient;"] ++ (wsX100 ++ ([] : List Cond)))
theorem in_X10_init_X10 : ∀ w ∈ wsX100, w ∈ w_X10_init := fun _ h => List.mem_cons_of_mem _ (List.mem_append_right _ (List.mem_append_left _ h))
set_option maxHeartbeats 4000000 in
set_option maxRecDepth 100000 in
theorem k_X10_init (l : Launch) (dC : Nat → ClassId) (dI : Nat → Nat → Nat) (h0 : Nat) (p1 : Nat) (p2 : Nat) (sz : Nat) : Met l yX10_init w_X10_init ({ frames := 1, cells := 41, slots := 388, locals := 12 }) (va_Pc [.ref h0, .ref p1, .ref p2] (fun U => U.heap.size = sz ∧ va_P (dC, dI) cls_ [(h0, .inr (9, [.null, .null, .null, .null, .null, .null, .null]))] U.heap ∧ va_K (dC, dI) cls_ [] U ∧ va_D (fun _ => True) [(h0, .inr (9, [.null, .null, .null, .null, .null, .null, .null]))] ∧ nx_ U)) (va_Qv (fun _ : Unit => True) (fun _ _ => True) (va_A [(h0, .inr (9, [.null, .null, .null, .null, .null, .null, .null]))] sz)) 41 388 (va_A [(h0, .inr (9, [.null, .null, .null, .null, .null, .null, .null]))] sz) := by
  refine Met.ofW (cc := cX10_init) (maxL := 3) (ret := none) (by decide) rfl ?_
  intro p e s m args below meth c s₁ B hml hv
  obtain ⟨rfl, hsz, hP, hK, hD0, hNx⟩ := hv
  have hx := B.exec
  have hb := B.bytes
  have hr := B.returns
  have hts := atoms_spec (ws := w_X10_init) B.pre
  have hown : s.vm.findClass RX10 = some m.cls := findClass_of_methodNamed B.named
  have hlocks := B.notSynchronized
  have hin : meth.name = "<init>" := (name_of_methodNamed B.named B.method).1
  subst hsz
  have hD := hD0.self (sz := s.heap.size)
  generalize hAe : va_A [(h0, .inr (9, [.null, .null, .null, .null, .null, .null, .null]))] s.heap.size = A at hD ⊢
  have hA : ∀ q : Nat, s.heap.size ≤ q → A q := fun q h => by rw [← hAe]; exact Or.inr h
  have hS : va_S A s.heap s.heap [] := va_S.rf
  have hP : va_P (dC, dI) cls_ [(h0, .inr (9, [.null, .null, .null, .null, .null, .null, .null]))] s.heap := hP
  have hl := lv_entry ([.ref h0, .ref p1, .ref p2]) (n := 3) (Nat.le_of_ble_eq_true rfl)
  rw [lg_entry_eq]
  generalize (lg_sl ([.ref h0, .ref p1, .ref p2]) ++ List.replicate (3 - (lg_sl ([.ref h0, .ref p1, .ref p2])).length) Slot.unset).toArray = ls at hl ⊢
  have hl : lv_has ls 3 [(0, .ref h0), (1, .ref p1), (2, .ref p2)] := hl
  refine lv_aload_n hx hb dX10_init_0 rfl (lv_at hl 0 rfl) ?_
  refine W.objInit hx hb hown (hts (.methodLink RX10 3 objectInit) (List.mem_of_getElem? (i := 1) rfl)) (hts (.instanceMethod objectInit) (List.mem_of_getElem? (i := 2) rfl)) (hts (.code objectInit ⟨#[0xb1]⟩ 1 none) (List.mem_of_getElem? (i := 3) rfl)) rfl (by rw [hml]; exact hl.1) rfl dX10_init_1 (Nat.le_of_ble_eq_true rfl) (Nat.le_of_ble_eq_true rfl) ?_
  refine W.eq (g2 := F0 m 4 ls []) rfl ?_
  refine lv_aload_n hx hb dX10_init_4 rfl (lv_at hl 0 rfl) ?_
  refine lv_bipush (v := 27) hx hb dX10_init_5 (by decide) ?_
  refine lv_bipush (v := 9) hx hb dX10_init_7 (by decide) ?_
  refine ax_mna (ty := .long) (N := 27) (K := 9) hx hb hown (hts (.classLink RX10 11 "[[J") (List.mem_of_getElem? (i := 4) rfl)) hNx.al (hts (.arrayClass .long) (List.mem_of_getElem? (i := 5) rfl)) hP hD hS hA (by decide) (by decide) (by decide +kernel) (by decide +kernel) (by decide +kernel) (by decide +kernel) (by decide +kernel) rfl rfl (Nat.le_of_ble_eq_true rfl) (Nat.le_of_ble_eq_true rfl) dX10_init_9 (fun q1 H hP hD hS => ?_)
  refine W.widen (k := 28) (n := 270) (Nat.le_of_ble_eq_true rfl) (Nat.le_of_ble_eq_true rfl) ?_
  refine va_putF (D := (dC, dI)) (ci := 9) (v := .ref q1) (ty := .array (.array .long)) (C := RX10) (T := TX10) (N := 7) hx hb hts in_X10_init_X10 tyX10 tyX10_ok nmX10 hown hK hP hD hS 0 rfl rfl 2 (by decide) (hts (.fieldLink RX10 13 "RealSolver$Shadow" "matrix" "[[J") (List.mem_of_getElem? (i := 6) rfl)) (fun _ h9 => h9) rfl hin rfl (by decide +kernel) rfl rfl (Nat.le_of_ble_eq_true rfl) dX10_init_13 (fun H locs hP hD hS => ?_)
  have hP : va_P (dC, dI) cls_ [(h0, .inr (9, [.null, .null, .ref q1, .null, .null, .null, .null]))] H := hP
  have hD : va_D A [(h0, .inr (9, [.null, .null, .ref q1, .null, .null, .null, .null]))] := hD
  refine lv_aload_n hx hb dX10_init_16 rfl (lv_at hl 0 rfl) ?_
  refine lv_bipush (v := 9) hx hb dX10_init_17 (by decide) ?_
  refine lv_bipush (v := 9) hx hb dX10_init_19 (by decide) ?_
  refine ax_mna (ty := .long) (N := 9) (K := 9) hx hb hown (hts (.classLink RX10 11 "[[J") (List.mem_of_getElem? (i := 4) rfl)) hNx.al (hts (.arrayClass .long) (List.mem_of_getElem? (i := 5) rfl)) hP hD hS hA (by decide) (by decide) (by decide +kernel) (by decide +kernel) (by decide +kernel) (by decide +kernel) (by decide +kernel) rfl rfl (Nat.le_of_ble_eq_true rfl) (Nat.le_of_ble_eq_true rfl) dX10_init_21 (fun q2 H hP hD hS => ?_)
  refine W.widen (k := 38) (n := 360) (Nat.le_of_ble_eq_true rfl) (Nat.le_of_ble_eq_true rfl) ?_
  refine va_putF (D := (dC, dI)) (ci := 9) (v := .ref q2) (ty := .array (.array .long)) (C := RX10) (T := TX10) (N := 7) hx hb hts in_X10_init_X10 tyX10 tyX10_ok nmX10 hown hK hP hD hS 0 rfl rfl 3 (by decide) (hts (.fieldLink RX10 18 "RealSolver$Shadow" "reduced" "[[J") (List.mem_of_getElem? (i := 7) rfl)) (fun _ h9 => h9) rfl hin rfl (by decide +kernel) rfl rfl (Nat.le_of_ble_eq_true rfl) dX10_init_25 (fun H locs hP hD hS => ?_)
  have hP : va_P (dC, dI) cls_ [(h0, .inr (9, [.null, .null, .ref q1, .ref q2, .null, .null, .null]))] H := hP
  have hD : va_D A [(h0, .inr (9, [.null, .null, .ref q1, .ref q2, .null, .null, .null]))] := hD
  refine lv_aload_n hx hb dX10_init_28 rfl (lv_at hl 0 rfl) ?_
  refine lv_bipush (v := 10) hx hb dX10_init_29 (by decide) ?_
  refine va_newa (atype := .long) (ty := .long) (N' := 10) (a0 := (10, .inr (.inl (fun _ => 0)))) hx hb (hts (.arrayClass .long) (List.mem_of_getElem? (i := 5) rfl)) rfl hK hP hD hS hA (fun _ => rfl) (by decide) (by decide +kernel) (by decide +kernel) (Nat.le_of_ble_eq_true rfl) (Nat.le_of_ble_eq_true rfl) dX10_init_31 (fun q3 cA3 H hK hP hD hS => ?_)
  have hP := hP.sub (ws' := [(h0, .inr (9, [.null, .null, .ref q1, .ref q2, .null, .null, .null]))]) [0] rfl
  have hD := hD.sub (ws' := [(h0, .inr (9, [.null, .null, .ref q1, .ref q2, .null, .null, .null]))]) [0] (by decide) rfl
  have hK := hK.sub (tys' := []) [] rfl
  refine W.widen (k := 39) (n := 370) (Nat.le_of_ble_eq_true rfl) (Nat.le_of_ble_eq_true rfl) ?_
  refine va_putF (D := (dC, dI)) (ci := 9) (v := .ref q3) (ty := .array .long) (C := RX10) (T := TX10) (N := 7) hx hb hts in_X10_init_X10 tyX10 tyX10_ok nmX10 hown hK hP hD hS 0 rfl rfl 4 (by decide) (hts (.fieldLink RX10 23 "RealSolver$Shadow" "polynomial" "[J") (List.mem_of_getElem? (i := 8) rfl)) (fun _ h9 => h9) rfl hin rfl (by decide +kernel) rfl rfl (Nat.le_of_ble_eq_true rfl) dX10_init_33 (fun H locs hP hD hS => ?_)
  have hP : va_P (dC, dI) cls_ [(h0, .inr (9, [.null, .null, .ref q1, .ref q2, .ref q3, .null, .null]))] H := hP
  have hD : va_D A [(h0, .inr (9, [.null, .null, .ref q1, .ref q2, .ref q3, .null, .null]))] := hD
  refine lv_aload_n hx hb dX10_init_36 rfl (lv_at hl 0 rfl) ?_
  refine lv_bipush (v := 9) hx hb dX10_init_37 (by decide) ?_
  refine va_newa (atype := .long) (ty := .long) (N' := 9) (a0 := (9, .inr (.inl (fun _ => 0)))) hx hb (hts (.arrayClass .long) (List.mem_of_getElem? (i := 5) rfl)) rfl hK hP hD hS hA (fun _ => rfl) (by decide) (by decide +kernel) (by decide +kernel) (Nat.le_of_ble_eq_true rfl) (Nat.le_of_ble_eq_true rfl) dX10_init_39 (fun q4 cA4 H hK hP hD hS => ?_)
  have hP := hP.sub (ws' := [(h0, .inr (9, [.null, .null, .ref q1, .ref q2, .ref q3, .null, .null]))]) [0] rfl
  have hD := hD.sub (ws' := [(h0, .inr (9, [.null, .null, .ref q1, .ref q2, .ref q3, .null, .null]))]) [0] (by decide) rfl
  have hK := hK.sub (tys' := []) [] rfl
  refine W.widen (k := 40) (n := 379) (Nat.le_of_ble_eq_true rfl) (Nat.le_of_ble_eq_true rfl) ?_
  refine va_putF (D := (dC, dI)) (ci := 9) (v := .ref q4) (ty := .array .long) (C := RX10) (T := TX10) (N := 7) hx hb hts in_X10_init_X10 tyX10 tyX10_ok nmX10 hown hK hP hD hS 0 rfl rfl 5 (by decide) (hts (.fieldLink RX10 27 "RealSolver$Shadow" "image" "[J") (List.mem_of_getElem? (i := 9) rfl)) (fun _ h9 => h9) rfl hin rfl (by decide +kernel) rfl rfl (Nat.le_of_ble_eq_true rfl) dX10_init_41 (fun H locs hP hD hS => ?_)
  have hP : va_P (dC, dI) cls_ [(h0, .inr (9, [.null, .null, .ref q1, .ref q2, .ref q3, .ref q4, .null]))] H := hP
  have hD : va_D A [(h0, .inr (9, [.null, .null, .ref q1, .ref q2, .ref q3, .ref q4, .null]))] := hD
  refine lv_aload_n hx hb dX10_init_44 rfl (lv_at hl 0 rfl) ?_
  refine lv_bipush (v := 9) hx hb dX10_init_45 (by decide) ?_
  refine va_newa (atype := .long) (ty := .long) (N' := 9) (a0 := (9, .inr (.inl (fun _ => 0)))) hx hb (hts (.arrayClass .long) (List.mem_of_getElem? (i := 5) rfl)) rfl hK hP hD hS hA (fun _ => rfl) (by decide) (by decide +kernel) (by decide +kernel) (Nat.le_of_ble_eq_true rfl) (Nat.le_of_ble_eq_true rfl) dX10_init_47 (fun q5 cA5 H hK hP hD hS => ?_)
  have hP := hP.sub (ws' := [(h0, .inr (9, [.null, .null, .ref q1, .ref q2, .ref q3, .ref q4, .null]))]) [0] rfl
  have hD := hD.sub (ws' := [(h0, .inr (9, [.null, .null, .ref q1, .ref q2, .ref q3, .ref q4, .null]))]) [0] (by decide) rfl
  have hK := hK.sub (tys' := []) [] rfl
  refine W.widen (k := 41) (n := 388) (Nat.le_of_ble_eq_true rfl) (Nat.le_of_ble_eq_true rfl) ?_
  refine va_putF (D := (dC, dI)) (ci := 9) (v := .ref q5) (ty := .array .long) (C := RX10) (T := TX10) (N := 7) hx hb hts in_X10_init_X10 tyX10 tyX10_ok nmX10 hown hK hP hD hS 0 rfl rfl 6 (by decide) (hts (.fieldLink RX10 30 "RealSolver$Shadow" "next" "[J") (List.mem_of_getElem? (i := 10) rfl)) (fun _ h9 => h9) rfl hin rfl (by decide +kernel) rfl rfl (Nat.le_of_ble_eq_true rfl) dX10_init_49 (fun H locs hP hD hS => ?_)
  have hP : va_P (dC, dI) cls_ [(h0, .inr (9, [.null, .null, .ref q1, .ref q2, .ref q3, .ref q4, .ref q5]))] H := hP
  have hD : va_D A [(h0, .inr (9, [.null, .null, .ref q1, .ref q2, .ref q3, .ref q4, .ref q5]))] := hD
  refine lv_aload_n hx hb dX10_init_52 rfl (lv_at hl 0 rfl) ?_
  refine lv_aload_n hx hb dX10_init_53 rfl (lv_at hl 1 rfl) ?_
  refine va_putF (D := (dC, dI)) (ci := 9) (v := .ref p1) (ty := .object "RealSolver$Numbers") (C := RX10) (T := TX10) (N := 7) hx hb hts in_X10_init_X10 tyX10 tyX10_ok nmX10 hown hK hP hD hS 0 rfl rfl 0 (by decide) (hts (.fieldLink RX10 33 "RealSolver$Shadow" "numbers" "LRealSolver$Numbers;") (List.mem_of_getElem? (i := 11) rfl)) (fun _ h9 => h9) rfl hin rfl (by decide +kernel) rfl rfl (Nat.le_of_ble_eq_true rfl) dX10_init_54 (fun H locs hP hD hS => ?_)
  have hP : va_P (dC, dI) cls_ [(h0, .inr (9, [.ref p1, .null, .ref q1, .ref q2, .ref q3, .ref q4, .ref q5]))] H := hP
  have hD : va_D A [(h0, .inr (9, [.ref p1, .null, .ref q1, .ref q2, .ref q3, .ref q4, .ref q5]))] := hD
  refine lv_aload_n hx hb dX10_init_57 rfl (lv_at hl 0 rfl) ?_
  refine lv_aload_n hx hb dX10_init_58 rfl (lv_at hl 2 rfl) ?_
  refine va_putF (D := (dC, dI)) (ci := 9) (v := .ref p2) (ty := .object "RealSolver$Quotient") (C := RX10) (T := TX10) (N := 7) hx hb hts in_X10_init_X10 tyX10 tyX10_ok nmX10 hown hK hP hD hS 0 rfl rfl 1 (by decide) (hts (.fieldLink RX10 37 "RealSolver$Shadow" "quotient" "LRealSolver$Quotient;") (List.mem_of_getElem? (i := 12) rfl)) (fun _ h9 => h9) rfl hin rfl (by decide +kernel) rfl rfl (Nat.le_of_ble_eq_true rfl) dX10_init_59 (fun H locs hP hD hS => ?_)
  have hP : va_P (dC, dI) cls_ [(h0, .inr (9, [.ref p1, .ref p2, .ref q1, .ref q2, .ref q3, .ref q4, .ref q5]))] H := hP
  have hD : va_D A [(h0, .inr (9, [.ref p1, .ref p2, .ref q1, .ref q2, .ref q3, .ref q4, .ref q5]))] := hD
  refine W.widen (k := 41) (n := 388) (Nat.le_of_ble_eq_true rfl) (Nat.le_of_ble_eq_true rfl) ?_
  exact W.vret hx hb hr (fun t ht hW => ⟨⟨(), rfl, trivial, trivial⟩, hS.F ht⟩) hS.2.2 dX10_init_62

def w_X9_init : List Cond := .code yX9_init cX9_init 3 none :: ([.methodLink RX9 3 objectInit, .instanceMethod objectInit, .code objectInit ⟨#[0xb1]⟩ 1 none, .classLink RX9 9 RX1, .instantiable RX1 3, .initialized RX1, .methodLink RX1 3 objectInit, .fieldLink RX1 9 "RealSolver$InT" "degree" "I", .arrayClass .int, .fieldLink RX1 15 "RealSolver$InT" "at" "[I", .code yX1_init cX1_init 1 none, .instanceMethod yX1_init, .fieldLink RX9 12 "RealSolver$Roots" "of" "LRealSolver$InT;", .fieldLink RX9 18 "RealSolver$Roots" "level" "[I", .arrayClass .boolean, .fieldLink RX9 22 "RealSolver$Roots" "met" "[Z", .fieldLink RX9 26 "RealSolver$Roots" "side" "[I", .classLink RX9 29 "[[I", .fieldLink RX9 31 "RealSolver$Roots" "floor" "[[I", .fieldLink RX9 34 "RealSolver$Roots" "moved" "[I", .fieldLink RX9 37 "RealSolver$Roots" "turned" "[I", .fieldLink RX9 40 "RealSolver$Roots" "numbers" "LRealSolver$Numbers;", .fieldLink RX9 44 "RealSolver$Roots" "ring" "LRealSolver$Ring;"] ++ (wsX10 ++ (wsX90 ++ ([] : List Cond))))
theorem in_X9_init_X1 : ∀ w ∈ wsX10, w ∈ w_X9_init := fun _ h => List.mem_cons_of_mem _ (List.mem_append_right _ (List.mem_append_left _ h))
theorem in_X9_init_X9 : ∀ w ∈ wsX90, w ∈ w_X9_init := fun _ h => List.mem_cons_of_mem _ (List.mem_append_right _ (List.mem_append_right _ (List.mem_append_left _ h)))
set_option maxRecDepth 20000 in
theorem g_X9_init_X1_init_11 : GoodIn w_X9_init w_X1_init := goodIn_r _ [11, 7, 2, 3, 8, 9, 10, 24, 25, 26] (by decide +kernel) (by decide +kernel)
set_option maxHeartbeats 4000000 in
set_option maxRecDepth 100000 in
theorem k_X9_init (l : Launch) (dC : Nat → ClassId) (dI : Nat → Nat → Nat) (h0 : Nat) (p1 : Nat) (p2 : Nat) (sz : Nat) : Met l yX9_init w_X9_init ({ frames := 2, cells := 17, slots := 141, locals := 32 }) (va_Pc [.ref h0, .ref p1, .ref p2] (fun U => U.heap.size = sz ∧ va_P (dC, dI) cls_ [(h0, .inr (8, [.null, .null, .null, .int 0, .null, .null, .null, .null, .null, .null]))] U.heap ∧ va_K (dC, dI) cls_ [] U ∧ va_D (fun _ => True) [(h0, .inr (8, [.null, .null, .null, .int 0, .null, .null, .null, .null, .null, .null]))] ∧ nx_ U)) (va_Qv (fun _ : Unit => True) (fun _ t => ∃ (z0 : Value) (z1 : Value) (z2 : Value) (z3 : Value) (z4 : Value) (z5 : Value) (z6 : Value) (z7 : Value) (z8 : Value) (z9 : Value), va_P (dC, dI) cls_ [(h0, .inr (8, [z0, z1, z2, z3, z4, z5, z6, z7, z8, z9]))] t.heap ∧ va_K (dC, dI) cls_ [] t ∧ va_D (va_A [(h0, .inr (8, [.null, .null, .null, .int 0, .null, .null, .null, .null, .null, .null]))] sz) [(h0, .inr (8, [z0, z1, z2, z3, z4, z5, z6, z7, z8, z9]))]) (va_A [(h0, .inr (8, [.null, .null, .null, .int 0, .null, .null, .null, .null, .null, .null]))] sz)) 17 141 (va_A [(h0, .inr (8, [.null, .null, .null, .int 0, .null, .null, .null, .null, .null, .null]))] sz) := by
  refine Met.ofW (cc := cX9_init) (maxL := 3) (ret := none) (by decide) rfl ?_
  intro p e s m args below meth c s₁ B hml hv
  obtain ⟨rfl, hsz, hP, hK, hD0, hNx⟩ := hv
  have hx := B.exec
  have hb := B.bytes
  have hr := B.returns
  have hts := atoms_spec (ws := w_X9_init) B.pre
  have hown : s.vm.findClass RX9 = some m.cls := findClass_of_methodNamed B.named
  have hlocks := B.notSynchronized
  have hin : meth.name = "<init>" := (name_of_methodNamed B.named B.method).1
  subst hsz
  have hD := hD0.self (sz := s.heap.size)
  generalize hAe : va_A [(h0, .inr (8, [.null, .null, .null, .int 0, .null, .null, .null, .null, .null, .null]))] s.heap.size = A at hD ⊢
  have hA : ∀ q : Nat, s.heap.size ≤ q → A q := fun q h => by rw [← hAe]; exact Or.inr h
  have hS : va_S A s.heap s.heap [] := va_S.rf
  have hP : va_P (dC, dI) cls_ [(h0, .inr (8, [.null, .null, .null, .int 0, .null, .null, .null, .null, .null, .null]))] s.heap := hP
  have hl := lv_entry ([.ref h0, .ref p1, .ref p2]) (n := 3) (Nat.le_of_ble_eq_true rfl)
  rw [lg_entry_eq]
  generalize (lg_sl ([.ref h0, .ref p1, .ref p2]) ++ List.replicate (3 - (lg_sl ([.ref h0, .ref p1, .ref p2])).length) Slot.unset).toArray = ls at hl ⊢
  have hl : lv_has ls 3 [(0, .ref h0), (1, .ref p1), (2, .ref p2)] := hl
  refine lv_aload_n hx hb dX9_init_0 rfl (lv_at hl 0 rfl) ?_
  refine W.objInit hx hb hown (hts (.methodLink RX9 3 objectInit) (List.mem_of_getElem? (i := 1) rfl)) (hts (.instanceMethod objectInit) (List.mem_of_getElem? (i := 2) rfl)) (hts (.code objectInit ⟨#[0xb1]⟩ 1 none) (List.mem_of_getElem? (i := 3) rfl)) rfl (by rw [hml]; exact hl.1) rfl dX9_init_1 (Nat.le_of_ble_eq_true rfl) (Nat.le_of_ble_eq_true rfl) ?_
  refine W.eq (g2 := F0 m 4 ls []) rfl ?_
  refine lv_aload_n hx hb dX9_init_4 rfl (lv_at hl 0 rfl) ?_
  refine va_new (ci := 1) (fs := [.int 0, .null, .int 0]) (C := RX1) (T := TX1) (N := 3) hx hb hts in_X9_init_X1 tyX1 tyX1_ok hown (hts (.classLink RX9 9 RX1) (List.mem_of_getElem? (i := 4) rfl)) (hts (.instantiable RX1 3) (List.mem_of_getElem? (i := 5) rfl)) (hts (.initialized RX1) (List.mem_of_getElem? (i := 6) rfl)) hK hP hD hS hA rfl df_X1 (Nat.le_of_ble_eq_true rfl) (Nat.le_of_ble_eq_true rfl) dX9_init_5 (fun q1 H hP hD hS => ?_)
  have hP : va_P (dC, dI) cls_ [(h0, .inr (8, [.null, .null, .null, .int 0, .null, .null, .null, .null, .null, .null])), (q1, .inr (1, [.int 0, .null, .int 0]))] H := hP
  have hD : va_D A [(h0, .inr (8, [.null, .null, .null, .int 0, .null, .null, .null, .null, .null, .null])), (q1, .inr (1, [.int 0, .null, .int 0]))] := hD
  refine W.widen (k := 1) (n := 3) (Nat.le_of_ble_eq_true rfl) (Nat.le_of_ble_eq_true rfl) ?_
  refine lv_dup hx hb dX9_init_8 rfl ?_
  have hPc := hP.sub (ws' := [(q1, .inr (1, [.int 0, .null, .int 0]))]) [1] rfl
  have hDc := hD.sub (ws' := [(q1, .inr (1, [.int 0, .null, .int 0]))]) [1] (by decide) rfl
  have hKc := hK.sub (tys' := []) [] rfl
  have hFc := va_free (wc := [(q1, .inr (1, [.int 0, .null, .int 0]))]) hD hS hA [1] rfl
  refine va_callv (va_runIN (As := []) (rest := [.ref q1, .ref h0]) ⟨hx, hb, hml, hown, hts⟩ (k_X1_init l dC dI q1 H.size) ⟨va_cnB 0 hts g_X9_init_X1_init_11 rfl rfl rfl hNx.ml_RX9_11 (hts (.initialized RX1) (List.mem_of_getElem? (i := 6) rfl)) (by decide +kernel) ⟨Nat.le_of_ble_eq_true rfl, Nat.le_of_ble_eq_true rfl⟩, rfl, hts (.instanceMethod yX1_init) (List.mem_of_getElem? (i := 12) rfl)⟩ ⟨fun a U g mk q => by obtain ⟨q0, q1, qP, qK, qD, qN⟩ := q; exact ⟨q0, q1, qP, va_K.moved (u := U) (U := U.calling g mk a) (Vm.Alike.refl U.vm) qK, qD, nx_.same rfl qN⟩, fun U hU hW => ⟨rfl, by rw [hU], by rw [hU]; exact hPc, va_K.moved hW.alike hKc, hDc.weaken (fun _ _ _ _ => trivial), nx_.warm hW hNx⟩⟩ rfl rfl hl.1 rfl (lv_room (Nat.le_of_ble_eq_true rfl)) dX9_init_9 ⟨Nat.le_of_ble_eq_true rfl, Nat.le_of_ble_eq_true rfl⟩) hS (fun q _ h => hFc q h) hFc (fun u t H1 locs ht hvm hw hB hz1 hk1 hS => ?_)
  try dsimp only at hw
  obtain ⟨z0_2, z1_2, z2_2, hP1, hK1, hD1⟩ := hB
  rw [ht] at hP1
  obtain ⟨hP, hD⟩ := va_join (wr := [(h0, .inr (8, [.null, .null, .null, .int 0, .null, .null, .null, .null, .null, .null]))]) (w1 := [(q1, .inr (1, [z0_2, z1_2, z2_2]))]) hP hD [1] [0] rfl rfl (by decide) (by decide) hk1 hFc hP1 hD1
  generalize H1 = H at hP hS ⊢
  have hP : va_P (dC, dI) cls_ [(h0, .inr (8, [.null, .null, .null, .int 0, .null, .null, .null, .null, .null, .null])), (q1, .inr (1, [z0_2, z1_2, z2_2]))] H := hP
  have hD : va_D A [(h0, .inr (8, [.null, .null, .null, .int 0, .null, .null, .null, .null, .null, .null])), (q1, .inr (1, [z0_2, z1_2, z2_2]))] := hD
  refine W.widen (k := 2) (n := 13) (Nat.le_of_ble_eq_true rfl) (Nat.le_of_ble_eq_true rfl) ?_
  refine va_put (D := (dC, dI)) (ci := 8) (v := .ref q1) (ty := .object "RealSolver$InT") (C := RX9) (T := TX9) (N := 10) hx hb hts in_X9_init_X9 tyX9 tyX9_ok nmX9 hown hK hP hD hS 0 rfl rfl 2 (by decide) (hts (.fieldLink RX9 12 "RealSolver$Roots" "of" "LRealSolver$InT;") (List.mem_of_getElem? (i := 13) rfl)) (fun _ h9 => h9) rfl (by decide +kernel) rfl rfl (Nat.le_of_ble_eq_true rfl) dX9_init_12 (fun H locs hP hD hS => ?_)
  have hP : va_P (dC, dI) cls_ [(h0, .inr (8, [.null, .null, .ref q1, .int 0, .null, .null, .null, .null, .null, .null])), (q1, .inr (1, [z0_2, z1_2, z2_2]))] H := hP
  have hD : va_D A [(h0, .inr (8, [.null, .null, .ref q1, .int 0, .null, .null, .null, .null, .null, .null])), (q1, .inr (1, [z0_2, z1_2, z2_2]))] := hD
  refine lv_aload_n hx hb dX9_init_15 rfl (lv_at hl 0 rfl) ?_
  refine lv_bipush (v := 9) hx hb dX9_init_16 (by decide) ?_
  refine va_newa (atype := .int) (ty := .int) (N' := 9) (a0 := (9, .inl (fun _ => 0))) hx hb (hts (.arrayClass .int) (List.mem_of_getElem? (i := 9) rfl)) rfl hK hP hD hS hA (fun _ => rfl) (by decide) (by decide +kernel) (by decide +kernel) (Nat.le_of_ble_eq_true rfl) (Nat.le_of_ble_eq_true rfl) dX9_init_18 (fun q3 cA3 H hK hP hD hS => ?_)
  have hP := hP.sub (ws' := [(h0, .inr (8, [.null, .null, .ref q1, .int 0, .null, .null, .null, .null, .null, .null])), (q1, .inr (1, [z0_2, z1_2, z2_2]))]) [0, 1] rfl
  have hD := hD.sub (ws' := [(h0, .inr (8, [.null, .null, .ref q1, .int 0, .null, .null, .null, .null, .null, .null])), (q1, .inr (1, [z0_2, z1_2, z2_2]))]) [0, 1] (by decide) rfl
  have hK := hK.sub (tys' := []) [] rfl
  refine W.widen (k := 3) (n := 22) (Nat.le_of_ble_eq_true rfl) (Nat.le_of_ble_eq_true rfl) ?_
  refine va_putF (D := (dC, dI)) (ci := 8) (v := .ref q3) (ty := .array .int) (C := RX9) (T := TX9) (N := 10) hx hb hts in_X9_init_X9 tyX9 tyX9_ok nmX9 hown hK hP hD hS 0 rfl rfl 4 (by decide) (hts (.fieldLink RX9 18 "RealSolver$Roots" "level" "[I") (List.mem_of_getElem? (i := 14) rfl)) (fun _ h9 => h9) rfl hin rfl (by decide +kernel) rfl rfl (Nat.le_of_ble_eq_true rfl) dX9_init_20 (fun H locs hP hD hS => ?_)
  have hP : va_P (dC, dI) cls_ [(h0, .inr (8, [.null, .null, .ref q1, .int 0, .ref q3, .null, .null, .null, .null, .null])), (q1, .inr (1, [z0_2, z1_2, z2_2]))] H := hP
  have hD : va_D A [(h0, .inr (8, [.null, .null, .ref q1, .int 0, .ref q3, .null, .null, .null, .null, .null])), (q1, .inr (1, [z0_2, z1_2, z2_2]))] := hD
  refine lv_aload_n hx hb dX9_init_23 rfl (lv_at hl 0 rfl) ?_
  refine lv_bipush (v := 9) hx hb dX9_init_24 (by decide) ?_
  refine va_newa (atype := .boolean) (ty := .boolean) (N' := 9) (a0 := (9, .inl (fun _ => 0))) hx hb (hts (.arrayClass .boolean) (List.mem_of_getElem? (i := 15) rfl)) rfl hK hP hD hS hA (fun _ => rfl) (by decide) (by decide +kernel) (by decide +kernel) (Nat.le_of_ble_eq_true rfl) (Nat.le_of_ble_eq_true rfl) dX9_init_26 (fun q4 cA4 H hK hP hD hS => ?_)
  have hP := hP.sub (ws' := [(h0, .inr (8, [.null, .null, .ref q1, .int 0, .ref q3, .null, .null, .null, .null, .null])), (q1, .inr (1, [z0_2, z1_2, z2_2]))]) [0, 1] rfl
  have hD := hD.sub (ws' := [(h0, .inr (8, [.null, .null, .ref q1, .int 0, .ref q3, .null, .null, .null, .null, .null])), (q1, .inr (1, [z0_2, z1_2, z2_2]))]) [0, 1] (by decide) rfl
  have hK := hK.sub (tys' := []) [] rfl
  refine W.widen (k := 4) (n := 31) (Nat.le_of_ble_eq_true rfl) (Nat.le_of_ble_eq_true rfl) ?_
  refine va_putF (D := (dC, dI)) (ci := 8) (v := .ref q4) (ty := .array .boolean) (C := RX9) (T := TX9) (N := 10) hx hb hts in_X9_init_X9 tyX9 tyX9_ok nmX9 hown hK hP hD hS 0 rfl rfl 5 (by decide) (hts (.fieldLink RX9 22 "RealSolver$Roots" "met" "[Z") (List.mem_of_getElem? (i := 16) rfl)) (fun _ h9 => h9) rfl hin rfl (by decide +kernel) rfl rfl (Nat.le_of_ble_eq_true rfl) dX9_init_28 (fun H locs hP hD hS => ?_)
  have hP : va_P (dC, dI) cls_ [(h0, .inr (8, [.null, .null, .ref q1, .int 0, .ref q3, .ref q4, .null, .null, .null, .null])), (q1, .inr (1, [z0_2, z1_2, z2_2]))] H := hP
  have hD : va_D A [(h0, .inr (8, [.null, .null, .ref q1, .int 0, .ref q3, .ref q4, .null, .null, .null, .null])), (q1, .inr (1, [z0_2, z1_2, z2_2]))] := hD
  refine lv_aload_n hx hb dX9_init_31 rfl (lv_at hl 0 rfl) ?_
  refine lv_bipush (v := 9) hx hb dX9_init_32 (by decide) ?_
  refine va_newa (atype := .int) (ty := .int) (N' := 9) (a0 := (9, .inl (fun _ => 0))) hx hb (hts (.arrayClass .int) (List.mem_of_getElem? (i := 9) rfl)) rfl hK hP hD hS hA (fun _ => rfl) (by decide) (by decide +kernel) (by decide +kernel) (Nat.le_of_ble_eq_true rfl) (Nat.le_of_ble_eq_true rfl) dX9_init_34 (fun q5 cA5 H hK hP hD hS => ?_)
  have hP := hP.sub (ws' := [(h0, .inr (8, [.null, .null, .ref q1, .int 0, .ref q3, .ref q4, .null, .null, .null, .null])), (q1, .inr (1, [z0_2, z1_2, z2_2]))]) [0, 1] rfl
  have hD := hD.sub (ws' := [(h0, .inr (8, [.null, .null, .ref q1, .int 0, .ref q3, .ref q4, .null, .null, .null, .null])), (q1, .inr (1, [z0_2, z1_2, z2_2]))]) [0, 1] (by decide) rfl
  have hK := hK.sub (tys' := []) [] rfl
  refine W.widen (k := 5) (n := 40) (Nat.le_of_ble_eq_true rfl) (Nat.le_of_ble_eq_true rfl) ?_
  refine va_putF (D := (dC, dI)) (ci := 8) (v := .ref q5) (ty := .array .int) (C := RX9) (T := TX9) (N := 10) hx hb hts in_X9_init_X9 tyX9 tyX9_ok nmX9 hown hK hP hD hS 0 rfl rfl 6 (by decide) (hts (.fieldLink RX9 26 "RealSolver$Roots" "side" "[I") (List.mem_of_getElem? (i := 17) rfl)) (fun _ h9 => h9) rfl hin rfl (by decide +kernel) rfl rfl (Nat.le_of_ble_eq_true rfl) dX9_init_36 (fun H locs hP hD hS => ?_)
  have hP : va_P (dC, dI) cls_ [(h0, .inr (8, [.null, .null, .ref q1, .int 0, .ref q3, .ref q4, .ref q5, .null, .null, .null])), (q1, .inr (1, [z0_2, z1_2, z2_2]))] H := hP
  have hD : va_D A [(h0, .inr (8, [.null, .null, .ref q1, .int 0, .ref q3, .ref q4, .ref q5, .null, .null, .null])), (q1, .inr (1, [z0_2, z1_2, z2_2]))] := hD
  refine lv_aload_n hx hb dX9_init_39 rfl (lv_at hl 0 rfl) ?_
  refine lv_bipush (v := 9) hx hb dX9_init_40 (by decide) ?_
  refine lv_bipush (v := 8) hx hb dX9_init_42 (by decide) ?_
  refine ax_mna (ty := .int) (N := 9) (K := 8) hx hb hown (hts (.classLink RX9 29 "[[I") (List.mem_of_getElem? (i := 18) rfl)) hNx.ai (hts (.arrayClass .int) (List.mem_of_getElem? (i := 9) rfl)) hP hD hS hA (by decide) (by decide) (by decide +kernel) (by decide +kernel) (by decide +kernel) (by decide +kernel) (by decide +kernel) rfl rfl (Nat.le_of_ble_eq_true rfl) (Nat.le_of_ble_eq_true rfl) dX9_init_44 (fun q6 H hP hD hS => ?_)
  refine W.widen (k := 15) (n := 121) (Nat.le_of_ble_eq_true rfl) (Nat.le_of_ble_eq_true rfl) ?_
  refine va_putF (D := (dC, dI)) (ci := 8) (v := .ref q6) (ty := .array (.array .int)) (C := RX9) (T := TX9) (N := 10) hx hb hts in_X9_init_X9 tyX9 tyX9_ok nmX9 hown hK hP hD hS 0 rfl rfl 7 (by decide) (hts (.fieldLink RX9 31 "RealSolver$Roots" "floor" "[[I") (List.mem_of_getElem? (i := 19) rfl)) (fun _ h9 => h9) rfl hin rfl (by decide +kernel) rfl rfl (Nat.le_of_ble_eq_true rfl) dX9_init_48 (fun H locs hP hD hS => ?_)
  have hP : va_P (dC, dI) cls_ [(h0, .inr (8, [.null, .null, .ref q1, .int 0, .ref q3, .ref q4, .ref q5, .ref q6, .null, .null])), (q1, .inr (1, [z0_2, z1_2, z2_2]))] H := hP
  have hD : va_D A [(h0, .inr (8, [.null, .null, .ref q1, .int 0, .ref q3, .ref q4, .ref q5, .ref q6, .null, .null])), (q1, .inr (1, [z0_2, z1_2, z2_2]))] := hD
  refine lv_aload_n hx hb dX9_init_51 rfl (lv_at hl 0 rfl) ?_
  refine lv_bipush (v := 10) hx hb dX9_init_52 (by decide) ?_
  refine va_newa (atype := .int) (ty := .int) (N' := 10) (a0 := (10, .inl (fun _ => 0))) hx hb (hts (.arrayClass .int) (List.mem_of_getElem? (i := 9) rfl)) rfl hK hP hD hS hA (fun _ => rfl) (by decide) (by decide +kernel) (by decide +kernel) (Nat.le_of_ble_eq_true rfl) (Nat.le_of_ble_eq_true rfl) dX9_init_54 (fun q7 cA7 H hK hP hD hS => ?_)
  have hP := hP.sub (ws' := [(h0, .inr (8, [.null, .null, .ref q1, .int 0, .ref q3, .ref q4, .ref q5, .ref q6, .null, .null])), (q1, .inr (1, [z0_2, z1_2, z2_2]))]) [0, 1] rfl
  have hD := hD.sub (ws' := [(h0, .inr (8, [.null, .null, .ref q1, .int 0, .ref q3, .ref q4, .ref q5, .ref q6, .null, .null])), (q1, .inr (1, [z0_2, z1_2, z2_2]))]) [0, 1] (by decide) rfl
  have hK := hK.sub (tys' := []) [] rfl
  refine W.widen (k := 16) (n := 131) (Nat.le_of_ble_eq_true rfl) (Nat.le_of_ble_eq_true rfl) ?_
  refine va_putF (D := (dC, dI)) (ci := 8) (v := .ref q7) (ty := .array .int) (C := RX9) (T := TX9) (N := 10) hx hb hts in_X9_init_X9 tyX9 tyX9_ok nmX9 hown hK hP hD hS 0 rfl rfl 8 (by decide) (hts (.fieldLink RX9 34 "RealSolver$Roots" "moved" "[I") (List.mem_of_getElem? (i := 20) rfl)) (fun _ h9 => h9) rfl hin rfl (by decide +kernel) rfl rfl (Nat.le_of_ble_eq_true rfl) dX9_init_56 (fun H locs hP hD hS => ?_)
  have hP : va_P (dC, dI) cls_ [(h0, .inr (8, [.null, .null, .ref q1, .int 0, .ref q3, .ref q4, .ref q5, .ref q6, .ref q7, .null])), (q1, .inr (1, [z0_2, z1_2, z2_2]))] H := hP
  have hD : va_D A [(h0, .inr (8, [.null, .null, .ref q1, .int 0, .ref q3, .ref q4, .ref q5, .ref q6, .ref q7, .null])), (q1, .inr (1, [z0_2, z1_2, z2_2]))] := hD
  refine lv_aload_n hx hb dX9_init_59 rfl (lv_at hl 0 rfl) ?_
  refine lv_bipush (v := 10) hx hb dX9_init_60 (by decide) ?_
  refine va_newa (atype := .int) (ty := .int) (N' := 10) (a0 := (10, .inl (fun _ => 0))) hx hb (hts (.arrayClass .int) (List.mem_of_getElem? (i := 9) rfl)) rfl hK hP hD hS hA (fun _ => rfl) (by decide) (by decide +kernel) (by decide +kernel) (Nat.le_of_ble_eq_true rfl) (Nat.le_of_ble_eq_true rfl) dX9_init_62 (fun q8 cA8 H hK hP hD hS => ?_)
  have hP := hP.sub (ws' := [(h0, .inr (8, [.null, .null, .ref q1, .int 0, .ref q3, .ref q4, .ref q5, .ref q6, .ref q7, .null])), (q1, .inr (1, [z0_2, z1_2, z2_2]))]) [0, 1] rfl
  have hD := hD.sub (ws' := [(h0, .inr (8, [.null, .null, .ref q1, .int 0, .ref q3, .ref q4, .ref q5, .ref q6, .ref q7, .null])), (q1, .inr (1, [z0_2, z1_2, z2_2]))]) [0, 1] (by decide) rfl
  have hK := hK.sub (tys' := []) [] rfl
  refine W.widen (k := 17) (n := 141) (Nat.le_of_ble_eq_true rfl) (Nat.le_of_ble_eq_true rfl) ?_
  refine va_putF (D := (dC, dI)) (ci := 8) (v := .ref q8) (ty := .array .int) (C := RX9) (T := TX9) (N := 10) hx hb hts in_X9_init_X9 tyX9 tyX9_ok nmX9 hown hK hP hD hS 0 rfl rfl 9 (by decide) (hts (.fieldLink RX9 37 "RealSolver$Roots" "turned" "[I") (List.mem_of_getElem? (i := 21) rfl)) (fun _ h9 => h9) rfl hin rfl (by decide +kernel) rfl rfl (Nat.le_of_ble_eq_true rfl) dX9_init_64 (fun H locs hP hD hS => ?_)
  have hP : va_P (dC, dI) cls_ [(h0, .inr (8, [.null, .null, .ref q1, .int 0, .ref q3, .ref q4, .ref q5, .ref q6, .ref q7, .ref q8])), (q1, .inr (1, [z0_2, z1_2, z2_2]))] H := hP
  have hD : va_D A [(h0, .inr (8, [.null, .null, .ref q1, .int 0, .ref q3, .ref q4, .ref q5, .ref q6, .ref q7, .ref q8])), (q1, .inr (1, [z0_2, z1_2, z2_2]))] := hD
  refine lv_aload_n hx hb dX9_init_67 rfl (lv_at hl 0 rfl) ?_
  refine lv_aload_n hx hb dX9_init_68 rfl (lv_at hl 1 rfl) ?_
  refine va_putF (D := (dC, dI)) (ci := 8) (v := .ref p1) (ty := .object "RealSolver$Numbers") (C := RX9) (T := TX9) (N := 10) hx hb hts in_X9_init_X9 tyX9 tyX9_ok nmX9 hown hK hP hD hS 0 rfl rfl 0 (by decide) (hts (.fieldLink RX9 40 "RealSolver$Roots" "numbers" "LRealSolver$Numbers;") (List.mem_of_getElem? (i := 22) rfl)) (fun _ h9 => h9) rfl hin rfl (by decide +kernel) rfl rfl (Nat.le_of_ble_eq_true rfl) dX9_init_69 (fun H locs hP hD hS => ?_)
  have hP : va_P (dC, dI) cls_ [(h0, .inr (8, [.ref p1, .null, .ref q1, .int 0, .ref q3, .ref q4, .ref q5, .ref q6, .ref q7, .ref q8])), (q1, .inr (1, [z0_2, z1_2, z2_2]))] H := hP
  have hD : va_D A [(h0, .inr (8, [.ref p1, .null, .ref q1, .int 0, .ref q3, .ref q4, .ref q5, .ref q6, .ref q7, .ref q8])), (q1, .inr (1, [z0_2, z1_2, z2_2]))] := hD
  refine lv_aload_n hx hb dX9_init_72 rfl (lv_at hl 0 rfl) ?_
  refine lv_aload_n hx hb dX9_init_73 rfl (lv_at hl 2 rfl) ?_
  refine va_putF (D := (dC, dI)) (ci := 8) (v := .ref p2) (ty := .object "RealSolver$Ring") (C := RX9) (T := TX9) (N := 10) hx hb hts in_X9_init_X9 tyX9 tyX9_ok nmX9 hown hK hP hD hS 0 rfl rfl 1 (by decide) (hts (.fieldLink RX9 44 "RealSolver$Roots" "ring" "LRealSolver$Ring;") (List.mem_of_getElem? (i := 23) rfl)) (fun _ h9 => h9) rfl hin rfl (by decide +kernel) rfl rfl (Nat.le_of_ble_eq_true rfl) dX9_init_74 (fun H locs hP hD hS => ?_)
  have hP : va_P (dC, dI) cls_ [(h0, .inr (8, [.ref p1, .ref p2, .ref q1, .int 0, .ref q3, .ref q4, .ref q5, .ref q6, .ref q7, .ref q8])), (q1, .inr (1, [z0_2, z1_2, z2_2]))] H := hP
  have hD : va_D A [(h0, .inr (8, [.ref p1, .ref p2, .ref q1, .int 0, .ref q3, .ref q4, .ref q5, .ref q6, .ref q7, .ref q8])), (q1, .inr (1, [z0_2, z1_2, z2_2]))] := hD
  refine W.widen (k := 17) (n := 141) (Nat.le_of_ble_eq_true rfl) (Nat.le_of_ble_eq_true rfl) ?_
  have hP9 := hP.sub (ws' := [(h0, .inr (8, [.ref p1, .ref p2, .ref q1, .int 0, .ref q3, .ref q4, .ref q5, .ref q6, .ref q7, .ref q8]))]) [0] rfl
  have hD9 := hD.sub (ws' := [(h0, .inr (8, [.ref p1, .ref p2, .ref q1, .int 0, .ref q3, .ref q4, .ref q5, .ref q6, .ref q7, .ref q8]))]) [0] (by decide) rfl
  have hK9 := hK.sub (tys' := []) [] rfl
  exact W.vret hx hb hr (fun t ht hW => ⟨⟨(), rfl, trivial, ⟨(.ref p1), (.ref p2), (.ref q1), (.int 0), (.ref q3), (.ref q4), (.ref q5), (.ref q6), (.ref q7), (.ref q8), by rw [ht]; exact hP9, va_K.moved hW.alike hK9, hD9⟩⟩, hS.F ht⟩) hS.2.2 dX9_init_77
