abbrev cX11_place : ByteArray := prog_1_method_6_code
def yX11_place : MethodName := ⟨RX11, "place", "()I"⟩
theorem dX11_place_0 : decode cX11_place 0 = .ok (.aload_n 0, 1) := by decide +kernel
theorem dX11_place_1 : decode cX11_place 1 = .ok (.getfield 68, 3) := by decide +kernel
theorem dX11_place_4 : decode cX11_place 4 = .ok (.ireturn, 1) := by decide +kernel
abbrev cX11_status : ByteArray := prog_1_method_25_code
def yX11_status : MethodName := ⟨RX11, "status", "()I"⟩
theorem dX11_status_0 : decode cX11_status 0 = .ok (.aload_n 0, 1) := by decide +kernel
theorem dX11_status_1 : decode cX11_status 1 = .ok (.getfield 65, 3) := by decide +kernel
theorem dX11_status_4 : decode cX11_status 4 = .ok (.ireturn, 1) := by decide +kernel
abbrev cX11_length : ByteArray := prog_1_method_23_code
def yX11_length : MethodName := ⟨RX11, "length", "()I"⟩
theorem dX11_length_0 : decode cX11_length 0 = .ok (.aload_n 0, 1) := by decide +kernel
theorem dX11_length_1 : decode cX11_length 1 = .ok (.getfield 25, 3) := by decide +kernel
theorem dX11_length_4 : decode cX11_length 4 = .ok (.getfield 168, 3) := by decide +kernel
theorem dX11_length_7 : decode cX11_length 7 = .ok (.ireturn, 1) := by decide +kernel
abbrev cX11_letter : ByteArray := prog_1_method_24_code
def yX11_letter : MethodName := ⟨RX11, "letter", "(I)I"⟩
theorem dX11_letter_0 : decode cX11_letter 0 = .ok (.iload_n 1, 1) := by decide +kernel
theorem dX11_letter_1 : decode cX11_letter 1 = .ok (.ifCond .lt 14, 3) := by decide +kernel
theorem dX11_letter_4 : decode cX11_letter 4 = .ok (.iload_n 1, 1) := by decide +kernel
theorem dX11_letter_5 : decode cX11_letter 5 = .ok (.aload_n 0, 1) := by decide +kernel
theorem dX11_letter_6 : decode cX11_letter 6 = .ok (.getfield 25, 3) := by decide +kernel
theorem dX11_letter_9 : decode cX11_letter 9 = .ok (.getfield 168, 3) := by decide +kernel
theorem dX11_letter_12 : decode cX11_letter 12 = .ok (.if_icmp .lt 7, 3) := by decide +kernel
theorem dX11_letter_15 : decode cX11_letter 15 = .ok (.iconst (-1), 1) := by decide +kernel
theorem dX11_letter_16 : decode cX11_letter 16 = .ok (.goto 16, 3) := by decide +kernel
theorem dX11_letter_32 : decode cX11_letter 32 = .ok (.ireturn, 1) := by decide +kernel
abbrev cX11_digest : ByteArray := prog_1_method_26_code
def yX11_digest : MethodName := ⟨RX11, "digest", "()I"⟩
theorem dX11_digest_0 : decode cX11_digest 0 = .ok (.bipush 23, 2) := by decide +kernel
theorem dX11_digest_2 : decode cX11_digest 2 = .ok (.istore_n 1, 1) := by decide +kernel
theorem dX11_digest_3 : decode cX11_digest 3 = .ok (.iconst 0, 1) := by decide +kernel
theorem dX11_digest_4 : decode cX11_digest 4 = .ok (.istore_n 2, 1) := by decide +kernel
theorem dX11_digest_5 : decode cX11_digest 5 = .ok (.iload_n 2, 1) := by decide +kernel
theorem dX11_digest_6 : decode cX11_digest 6 = .ok (.aload_n 0, 1) := by decide +kernel
theorem dX11_digest_7 : decode cX11_digest 7 = .ok (.getfield 25, 3) := by decide +kernel
theorem dX11_digest_10 : decode cX11_digest 10 = .ok (.getfield 168, 3) := by decide +kernel
theorem dX11_digest_13 : decode cX11_digest 13 = .ok (.if_icmp .ge 28, 3) := by decide +kernel
theorem dX11_digest_41 : decode cX11_digest 41 = .ok (.iload_n 1, 1) := by decide +kernel
theorem dX11_digest_42 : decode cX11_digest 42 = .ok (.bipush 31, 2) := by decide +kernel
theorem dX11_digest_44 : decode cX11_digest 44 = .ok (.imul, 1) := by decide +kernel
theorem dX11_digest_45 : decode cX11_digest 45 = .ok (.aload_n 0, 1) := by decide +kernel
theorem dX11_digest_46 : decode cX11_digest 46 = .ok (.getfield 82, 3) := by decide +kernel
theorem dX11_digest_49 : decode cX11_digest 49 = .ok (.iadd, 1) := by decide +kernel
theorem dX11_digest_50 : decode cX11_digest 50 = .ok (.istore_n 1, 1) := by decide +kernel
theorem dX11_digest_51 : decode cX11_digest 51 = .ok (.iload_n 1, 1) := by decide +kernel
theorem dX11_digest_52 : decode cX11_digest 52 = .ok (.bipush 31, 2) := by decide +kernel
theorem dX11_digest_54 : decode cX11_digest 54 = .ok (.imul, 1) := by decide +kernel
theorem dX11_digest_55 : decode cX11_digest 55 = .ok (.aload_n 0, 1) := by decide +kernel
theorem dX11_digest_56 : decode cX11_digest 56 = .ok (.getfield 61, 3) := by decide +kernel
theorem dX11_digest_59 : decode cX11_digest 59 = .ok (.iadd, 1) := by decide +kernel
theorem dX11_digest_60 : decode cX11_digest 60 = .ok (.istore_n 1, 1) := by decide +kernel
theorem dX11_digest_61 : decode cX11_digest 61 = .ok (.aload_n 0, 1) := by decide +kernel
theorem dX11_digest_62 : decode cX11_digest 62 = .ok (.invokevirtual 171, 3) := by decide +kernel
theorem dX11_digest_65 : decode cX11_digest 65 = .ok (.ifCond .eq 10, 3) := by decide +kernel
theorem dX11_digest_68 : decode cX11_digest 68 = .ok (.iload_n 1, 1) := by decide +kernel
theorem dX11_digest_69 : decode cX11_digest 69 = .ok (.bipush 31, 2) := by decide +kernel
theorem dX11_digest_71 : decode cX11_digest 71 = .ok (.imul, 1) := by decide +kernel
theorem dX11_digest_72 : decode cX11_digest 72 = .ok (.iconst 1, 1) := by decide +kernel
theorem dX11_digest_73 : decode cX11_digest 73 = .ok (.isub, 1) := by decide +kernel
theorem dX11_digest_74 : decode cX11_digest 74 = .ok (.ireturn, 1) := by decide +kernel
abbrev cX11_end : ByteArray := prog_1_method_4_code
def yX11_end : MethodName := ⟨RX11, "end", "(I)I"⟩
theorem dX11_end_0 : decode cX11_end 0 = .ok (.iload_n 1, 1) := by decide +kernel
theorem dX11_end_1 : decode cX11_end 1 = .ok (.ifCond .lt 11, 3) := by decide +kernel
theorem dX11_end_4 : decode cX11_end 4 = .ok (.iload_n 1, 1) := by decide +kernel
theorem dX11_end_5 : decode cX11_end 5 = .ok (.aload_n 0, 1) := by decide +kernel
theorem dX11_end_6 : decode cX11_end 6 = .ok (.getfield 82, 3) := by decide +kernel
theorem dX11_end_9 : decode cX11_end 9 = .ok (.if_icmp .le 9, 3) := by decide +kernel
theorem dX11_end_12 : decode cX11_end 12 = .ok (.aload_n 0, 1) := by decide +kernel
theorem dX11_end_13 : decode cX11_end 13 = .ok (.iconst 2, 1) := by decide +kernel
theorem dX11_end_14 : decode cX11_end 14 = .ok (.invokevirtual 71, 3) := by decide +kernel
theorem dX11_end_17 : decode cX11_end 17 = .ok (.ireturn, 1) := by decide +kernel
theorem dX11_end_18 : decode cX11_end 18 = .ok (.aload_n 0, 1) := by decide +kernel
theorem dX11_end_19 : decode cX11_end 19 = .ok (.iload_n 1, 1) := by decide +kernel
theorem dX11_end_20 : decode cX11_end 20 = .ok (.putfield 82, 3) := by decide +kernel
theorem dX11_end_23 : decode cX11_end 23 = .ok (.aload_n 0, 1) := by decide +kernel
theorem dX11_end_24 : decode cX11_end 24 = .ok (.iload_n 1, 1) := by decide +kernel
theorem dX11_end_25 : decode cX11_end 25 = .ok (.invokevirtual 79, 3) := by decide +kernel
theorem dX11_end_28 : decode cX11_end 28 = .ok (.ireturn, 1) := by decide +kernel
abbrev cX11_append : ByteArray := prog_1_method_29_code
def yX11_append : MethodName := ⟨RX11, "append", "(I)V"⟩
theorem dX11_append_0 : decode cX11_append 0 = .ok (.bipush 24, 2) := by decide +kernel
theorem dX11_append_2 : decode cX11_append 2 = .ok (.istore_n 2, 1) := by decide +kernel
theorem dX11_append_3 : decode cX11_append 3 = .ok (.iload_n 2, 1) := by decide +kernel
theorem dX11_append_4 : decode cX11_append 4 = .ok (.ifCond .lt 42, 3) := by decide +kernel
theorem dX11_append_7 : decode cX11_append 7 = .ok (.aload_n 0, 1) := by decide +kernel
theorem dX11_append_8 : decode cX11_append 8 = .ok (.getfield 82, 3) := by decide +kernel
theorem dX11_append_11 : decode cX11_append 11 = .ok (.sipush 800, 3) := by decide +kernel
theorem dX11_append_14 : decode cX11_append 14 = .ok (.if_icmp .ge 26, 3) := by decide +kernel
theorem dX11_append_17 : decode cX11_append 17 = .ok (.aload_n 0, 1) := by decide +kernel
theorem dX11_append_18 : decode cX11_append 18 = .ok (.getfield 9, 3) := by decide +kernel
theorem dX11_append_21 : decode cX11_append 21 = .ok (.aload_n 0, 1) := by decide +kernel
theorem dX11_append_22 : decode cX11_append 22 = .ok (.getfield 82, 3) := by decide +kernel
theorem dX11_append_25 : decode cX11_append 25 = .ok (.iload_n 1, 1) := by decide +kernel
theorem dX11_append_26 : decode cX11_append 26 = .ok (.iload_n 2, 1) := by decide +kernel
theorem dX11_append_27 : decode cX11_append 27 = .ok (.ishr, 1) := by decide +kernel
theorem dX11_append_28 : decode cX11_append 28 = .ok (.i2b, 1) := by decide +kernel
theorem dX11_append_29 : decode cX11_append 29 = .ok (.bastore, 1) := by decide +kernel
theorem dX11_append_30 : decode cX11_append 30 = .ok (.aload_n 0, 1) := by decide +kernel
theorem dX11_append_31 : decode cX11_append 31 = .ok (.dup, 1) := by decide +kernel
theorem dX11_append_32 : decode cX11_append 32 = .ok (.getfield 82, 3) := by decide +kernel
theorem dX11_append_35 : decode cX11_append 35 = .ok (.iconst 1, 1) := by decide +kernel
theorem dX11_append_36 : decode cX11_append 36 = .ok (.iadd, 1) := by decide +kernel
theorem dX11_append_37 : decode cX11_append 37 = .ok (.putfield 82, 3) := by decide +kernel
theorem dX11_append_40 : decode cX11_append 40 = .ok (.iinc 2 (-8), 3) := by decide +kernel
theorem dX11_append_43 : decode cX11_append 43 = .ok (.goto (-40), 3) := by decide +kernel
theorem dX11_append_46 : decode cX11_append 46 = .ok (.return_, 1) := by decide +kernel
abbrev cX11_feed : ByteArray := prog_1_method_3_code
def yX11_feed : MethodName := ⟨RX11, "feed", "(IIIII)I"⟩
theorem dX11_feed_0 : decode cX11_feed 0 = .ok (.aload_n 0, 1) := by decide +kernel
theorem dX11_feed_1 : decode cX11_feed 1 = .ok (.getfield 82, 3) := by decide +kernel
theorem dX11_feed_4 : decode cX11_feed 4 = .ok (.bipush 20, 2) := by decide +kernel
theorem dX11_feed_6 : decode cX11_feed 6 = .ok (.iadd, 1) := by decide +kernel
theorem dX11_feed_7 : decode cX11_feed 7 = .ok (.sipush 800, 3) := by decide +kernel
theorem dX11_feed_10 : decode cX11_feed 10 = .ok (.if_icmp .le 9, 3) := by decide +kernel
theorem dX11_feed_19 : decode cX11_feed 19 = .ok (.aload_n 0, 1) := by decide +kernel
theorem dX11_feed_20 : decode cX11_feed 20 = .ok (.iload_n 1, 1) := by decide +kernel
theorem dX11_feed_21 : decode cX11_feed 21 = .ok (.invokevirtual 85, 3) := by decide +kernel
theorem dX11_feed_24 : decode cX11_feed 24 = .ok (.aload_n 0, 1) := by decide +kernel
theorem dX11_feed_25 : decode cX11_feed 25 = .ok (.iload_n 2, 1) := by decide +kernel
theorem dX11_feed_26 : decode cX11_feed 26 = .ok (.invokevirtual 85, 3) := by decide +kernel
theorem dX11_feed_29 : decode cX11_feed 29 = .ok (.aload_n 0, 1) := by decide +kernel
theorem dX11_feed_30 : decode cX11_feed 30 = .ok (.iload_n 3, 1) := by decide +kernel
theorem dX11_feed_31 : decode cX11_feed 31 = .ok (.invokevirtual 85, 3) := by decide +kernel
theorem dX11_feed_34 : decode cX11_feed 34 = .ok (.aload_n 0, 1) := by decide +kernel
theorem dX11_feed_35 : decode cX11_feed 35 = .ok (.iload 4, 2) := by decide +kernel
theorem dX11_feed_37 : decode cX11_feed 37 = .ok (.invokevirtual 85, 3) := by decide +kernel
theorem dX11_feed_40 : decode cX11_feed 40 = .ok (.aload_n 0, 1) := by decide +kernel
theorem dX11_feed_41 : decode cX11_feed 41 = .ok (.iload 5, 2) := by decide +kernel
theorem dX11_feed_43 : decode cX11_feed 43 = .ok (.invokevirtual 85, 3) := by decide +kernel
theorem dX11_feed_46 : decode cX11_feed 46 = .ok (.aload_n 0, 1) := by decide +kernel
theorem dX11_feed_47 : decode cX11_feed 47 = .ok (.aload_n 0, 1) := by decide +kernel
theorem dX11_feed_48 : decode cX11_feed 48 = .ok (.getfield 82, 3) := by decide +kernel
theorem dX11_feed_51 : decode cX11_feed 51 = .ok (.invokevirtual 79, 3) := by decide +kernel
theorem dX11_feed_54 : decode cX11_feed 54 = .ok (.ireturn, 1) := by decide +kernel
def w_X11_place : List Cond := .code yX11_place cX11_place 1 (some .int) :: ([.fieldLink RX11 68 "RealSolver" "faultPlace" "I"] ++ (wsX110 ++ ([] : List Cond)))
theorem in_X11_place_X11 : ∀ w ∈ wsX110, w ∈ w_X11_place := fun _ h => List.mem_cons_of_mem _ (List.mem_append_right _ (List.mem_append_left _ h))
set_option maxHeartbeats 4000000 in
set_option maxRecDepth 100000 in
theorem k_X11_place (l : Launch) (dC : Nat → ClassId) (dI : Nat → Nat → Nat) (h0 : Nat) (a0 : Value) (a1 : Value) (a2 : Value) (a3 : Value) (a4 : Value) (a5 : Value) (a6 : Value) (a7 : Value) (a8 : Value) (a9 : Value) (a11 : Value) (sz : Nat) : Met l yX11_place w_X11_place ({ frames := 0, cells := 0, slots := 0, locals := 0 }) (va_Pc [.ref h0] (fun U => U.heap.size = sz ∧ va_P (dC, dI) cls_ [(h0, .inr (10, [a0, a1, a2, a3, a4, a5, a6, a7, a8, a9, .int (-1), a11]))] U.heap ∧ va_K (dC, dI) cls_ [] U ∧ va_D (fun _ => True) [(h0, .inr (10, [a0, a1, a2, a3, a4, a5, a6, a7, a8, a9, .int (-1), a11]))] ∧ nx_ U)) (va_Qi (fun (r : Int32) (_ : Unit) => r = (-1)) (fun _ _ => True) (va_A [(h0, .inr (10, [a0, a1, a2, a3, a4, a5, a6, a7, a8, a9, .int (-1), a11]))] sz)) 0 0 (va_A [(h0, .inr (10, [a0, a1, a2, a3, a4, a5, a6, a7, a8, a9, .int (-1), a11]))] sz) := by
  refine Met.ofW (cc := cX11_place) (maxL := 1) (ret := (some .int)) (by decide) rfl ?_
  intro p e s m args below meth c s₁ B hml hv
  obtain ⟨rfl, hsz, hP, hK, hD0, hNx⟩ := hv
  have hx := B.exec
  have hb := B.bytes
  have hr := B.returns
  have hts := atoms_spec (ws := w_X11_place) B.pre
  have hown : s.vm.findClass RX11 = some m.cls := findClass_of_methodNamed B.named
  have hlocks := B.notSynchronized
  subst hsz
  have hD := hD0.self (sz := s.heap.size)
  generalize hAe : va_A [(h0, .inr (10, [a0, a1, a2, a3, a4, a5, a6, a7, a8, a9, .int (-1), a11]))] s.heap.size = A at hD ⊢
  have hA : ∀ q : Nat, s.heap.size ≤ q → A q := fun q h => by rw [← hAe]; exact Or.inr h
  have hS : va_S A s.heap s.heap [] := va_S.rf
  have hP : va_P (dC, dI) cls_ [(h0, .inr (10, [a0, a1, a2, a3, a4, a5, a6, a7, a8, a9, .int (-1), a11]))] s.heap := hP
  have hl := lv_entry ([.ref h0]) (n := 1) (Nat.le_of_ble_eq_true rfl)
  rw [lg_entry_eq]
  generalize (lg_sl ([.ref h0]) ++ List.replicate (1 - (lg_sl ([.ref h0])).length) Slot.unset).toArray = ls at hl ⊢
  have hl : lv_has ls 1 [(0, .ref h0)] := hl
  refine lv_aload_n hx hb dX11_place_0 rfl (lv_at hl 0 rfl) ?_
  refine va_get (D := (dC, dI)) (ci := 10) (v := .int (-1)) (C := RX11) (T := TX11) (N := 12) hx hb hts in_X11_place_X11 hown hK hP 0 rfl rfl 10 (by decide) (hts (.fieldLink RX11 68 "RealSolver" "faultPlace" "I") (List.mem_of_getElem? (i := 1) rfl)) (fun _ h9 => h9) rfl dX11_place_1 ?_
  refine W.widen (k := 0) (n := 0) (Nat.le_of_ble_eq_true rfl) (Nat.le_of_ble_eq_true rfl) ?_
  exact W.iret (v := (-1)) hx hb hr (fun t ht hW => ⟨⟨(-1), (), rfl, rfl, trivial⟩, hS.F ht⟩) hS.2.2 dX11_place_4

def w_X11_status : List Cond := .code yX11_status cX11_status 1 (some .int) :: ([.fieldLink RX11 65 "RealSolver" "outcome" "I"] ++ (wsX110 ++ ([] : List Cond)))
theorem in_X11_status_X11 : ∀ w ∈ wsX110, w ∈ w_X11_status := fun _ h => List.mem_cons_of_mem _ (List.mem_append_right _ (List.mem_append_left _ h))
set_option maxHeartbeats 4000000 in
set_option maxRecDepth 100000 in
theorem k_X11_status (l : Launch) (dC : Nat → ClassId) (dI : Nat → Nat → Nat) (h0 : Nat) (a0 : Value) (a1 : Value) (a2 : Value) (a3 : Value) (a4 : Value) (a5 : Value) (a6 : Value) (a7 : Value) (a8 : Value) (a10 : Value) (a11 : Value) (sz : Nat) : Met l yX11_status w_X11_status ({ frames := 0, cells := 0, slots := 0, locals := 0 }) (va_Pc [.ref h0] (fun U => U.heap.size = sz ∧ va_P (dC, dI) cls_ [(h0, .inr (10, [a0, a1, a2, a3, a4, a5, a6, a7, a8, .int 0, a10, a11]))] U.heap ∧ va_K (dC, dI) cls_ [] U ∧ va_D (fun _ => True) [(h0, .inr (10, [a0, a1, a2, a3, a4, a5, a6, a7, a8, .int 0, a10, a11]))] ∧ nx_ U)) (va_Qi (fun (r : Int32) (_ : Unit) => r = 0) (fun _ _ => True) (va_A [(h0, .inr (10, [a0, a1, a2, a3, a4, a5, a6, a7, a8, .int 0, a10, a11]))] sz)) 0 0 (va_A [(h0, .inr (10, [a0, a1, a2, a3, a4, a5, a6, a7, a8, .int 0, a10, a11]))] sz) := by
  refine Met.ofW (cc := cX11_status) (maxL := 1) (ret := (some .int)) (by decide) rfl ?_
  intro p e s m args below meth c s₁ B hml hv
  obtain ⟨rfl, hsz, hP, hK, hD0, hNx⟩ := hv
  have hx := B.exec
  have hb := B.bytes
  have hr := B.returns
  have hts := atoms_spec (ws := w_X11_status) B.pre
  have hown : s.vm.findClass RX11 = some m.cls := findClass_of_methodNamed B.named
  have hlocks := B.notSynchronized
  subst hsz
  have hD := hD0.self (sz := s.heap.size)
  generalize hAe : va_A [(h0, .inr (10, [a0, a1, a2, a3, a4, a5, a6, a7, a8, .int 0, a10, a11]))] s.heap.size = A at hD ⊢
  have hA : ∀ q : Nat, s.heap.size ≤ q → A q := fun q h => by rw [← hAe]; exact Or.inr h
  have hS : va_S A s.heap s.heap [] := va_S.rf
  have hP : va_P (dC, dI) cls_ [(h0, .inr (10, [a0, a1, a2, a3, a4, a5, a6, a7, a8, .int 0, a10, a11]))] s.heap := hP
  have hl := lv_entry ([.ref h0]) (n := 1) (Nat.le_of_ble_eq_true rfl)
  rw [lg_entry_eq]
  generalize (lg_sl ([.ref h0]) ++ List.replicate (1 - (lg_sl ([.ref h0])).length) Slot.unset).toArray = ls at hl ⊢
  have hl : lv_has ls 1 [(0, .ref h0)] := hl
  refine lv_aload_n hx hb dX11_status_0 rfl (lv_at hl 0 rfl) ?_
  refine va_get (D := (dC, dI)) (ci := 10) (v := .int 0) (C := RX11) (T := TX11) (N := 12) hx hb hts in_X11_status_X11 hown hK hP 0 rfl rfl 9 (by decide) (hts (.fieldLink RX11 65 "RealSolver" "outcome" "I") (List.mem_of_getElem? (i := 1) rfl)) (fun _ h9 => h9) rfl dX11_status_1 ?_
  refine W.widen (k := 0) (n := 0) (Nat.le_of_ble_eq_true rfl) (Nat.le_of_ble_eq_true rfl) ?_
  exact W.iret (v := 0) hx hb hr (fun t ht hW => ⟨⟨0, (), rfl, rfl, trivial⟩, hS.F ht⟩) hS.2.2 dX11_status_4

def w_X11_length : List Cond := .code yX11_length cX11_length 1 (some .int) :: ([.fieldLink RX11 25 "RealSolver" "pen" "LRealSolver$Pen;", .fieldLink RX11 168 "RealSolver$Pen" "size" "I"] ++ (wsX110 ++ (wsX30 ++ ([] : List Cond))))
theorem in_X11_length_X11 : ∀ w ∈ wsX110, w ∈ w_X11_length := fun _ h => List.mem_cons_of_mem _ (List.mem_append_right _ (List.mem_append_left _ h))
theorem in_X11_length_X3 : ∀ w ∈ wsX30, w ∈ w_X11_length := fun _ h => List.mem_cons_of_mem _ (List.mem_append_right _ (List.mem_append_right _ (List.mem_append_left _ h)))
set_option maxHeartbeats 4000000 in
set_option maxRecDepth 100000 in
theorem k_X11_length (l : Launch) (dC : Nat → ClassId) (dI : Nat → Nat → Nat) (h0 : Nat) (a0 : Value) (a1 : Value) (a3 : Value) (a4 : Value) (a5 : Value) (a6 : Value) (a7 : Value) (a8 : Value) (a9 : Value) (a10 : Value) (a11 : Value) (hp : Nat) (b0 : Value) (b1 : Value) (sz : Nat) : Met l yX11_length w_X11_length ({ frames := 0, cells := 0, slots := 0, locals := 0 }) (va_Pc [.ref h0] (fun U => U.heap.size = sz ∧ va_P (dC, dI) cls_ [(h0, .inr (10, [a0, a1, .ref hp, a3, a4, a5, a6, a7, a8, a9, a10, a11])), (hp, .inr (3, [b0, b1, .int 0]))] U.heap ∧ va_K (dC, dI) cls_ [] U ∧ va_D (fun _ => True) [(h0, .inr (10, [a0, a1, .ref hp, a3, a4, a5, a6, a7, a8, a9, a10, a11])), (hp, .inr (3, [b0, b1, .int 0]))] ∧ nx_ U)) (va_Qi (fun (r : Int32) (_ : Unit) => r = 0) (fun _ _ => True) (va_A [(h0, .inr (10, [a0, a1, .ref hp, a3, a4, a5, a6, a7, a8, a9, a10, a11])), (hp, .inr (3, [b0, b1, .int 0]))] sz)) 0 0 (va_A [(h0, .inr (10, [a0, a1, .ref hp, a3, a4, a5, a6, a7, a8, a9, a10, a11])), (hp, .inr (3, [b0, b1, .int 0]))] sz) := by
  refine Met.ofW (cc := cX11_length) (maxL := 1) (ret := (some .int)) (by decide) rfl ?_
  intro p e s m args below meth c s₁ B hml hv
  obtain ⟨rfl, hsz, hP, hK, hD0, hNx⟩ := hv
  have hx := B.exec
  have hb := B.bytes
  have hr := B.returns
  have hts := atoms_spec (ws := w_X11_length) B.pre
  have hown : s.vm.findClass RX11 = some m.cls := findClass_of_methodNamed B.named
  have hlocks := B.notSynchronized
  subst hsz
  have hD := hD0.self (sz := s.heap.size)
  generalize hAe : va_A [(h0, .inr (10, [a0, a1, .ref hp, a3, a4, a5, a6, a7, a8, a9, a10, a11])), (hp, .inr (3, [b0, b1, .int 0]))] s.heap.size = A at hD ⊢
  have hA : ∀ q : Nat, s.heap.size ≤ q → A q := fun q h => by rw [← hAe]; exact Or.inr h
  have hS : va_S A s.heap s.heap [] := va_S.rf
  have hP : va_P (dC, dI) cls_ [(h0, .inr (10, [a0, a1, .ref hp, a3, a4, a5, a6, a7, a8, a9, a10, a11])), (hp, .inr (3, [b0, b1, .int 0]))] s.heap := hP
  have hl := lv_entry ([.ref h0]) (n := 1) (Nat.le_of_ble_eq_true rfl)
  rw [lg_entry_eq]
  generalize (lg_sl ([.ref h0]) ++ List.replicate (1 - (lg_sl ([.ref h0])).length) Slot.unset).toArray = ls at hl ⊢
  have hl : lv_has ls 1 [(0, .ref h0)] := hl
  refine lv_aload_n hx hb dX11_length_0 rfl (lv_at hl 0 rfl) ?_
  refine va_get (D := (dC, dI)) (ci := 10) (v := .ref hp) (C := RX11) (T := TX11) (N := 12) hx hb hts in_X11_length_X11 hown hK hP 0 rfl rfl 2 (by decide) (hts (.fieldLink RX11 25 "RealSolver" "pen" "LRealSolver$Pen;") (List.mem_of_getElem? (i := 1) rfl)) (fun _ h9 => h9) rfl dX11_length_1 ?_
  refine va_get (D := (dC, dI)) (ci := 3) (v := .int 0) (C := RX3) (T := TX3) (N := 3) hx hb hts in_X11_length_X3 hown hK hP 1 rfl rfl 2 (by decide) (hts (.fieldLink RX11 168 "RealSolver$Pen" "size" "I") (List.mem_of_getElem? (i := 2) rfl)) (fun _ h9 => h9) rfl dX11_length_4 ?_
  refine W.widen (k := 0) (n := 0) (Nat.le_of_ble_eq_true rfl) (Nat.le_of_ble_eq_true rfl) ?_
  exact W.iret (v := 0) hx hb hr (fun t ht hW => ⟨⟨0, (), rfl, rfl, trivial⟩, hS.F ht⟩) hS.2.2 dX11_length_7

def w_X11_letter : List Cond := .code yX11_letter cX11_letter 2 (some .int) :: ([.fieldLink RX11 25 "RealSolver" "pen" "LRealSolver$Pen;", .fieldLink RX11 168 "RealSolver$Pen" "size" "I"] ++ (wsX110 ++ (wsX30 ++ ([] : List Cond))))
theorem in_X11_letter_X11 : ∀ w ∈ wsX110, w ∈ w_X11_letter := fun _ h => List.mem_cons_of_mem _ (List.mem_append_right _ (List.mem_append_left _ h))
theorem in_X11_letter_X3 : ∀ w ∈ wsX30, w ∈ w_X11_letter := fun _ h => List.mem_cons_of_mem _ (List.mem_append_right _ (List.mem_append_right _ (List.mem_append_left _ h)))
set_option maxHeartbeats 4000000 in
set_option maxRecDepth 100000 in
theorem k_X11_letter (l : Launch) (dC : Nat → ClassId) (dI : Nat → Nat → Nat) (h0 : Nat) (a0 : Value) (a1 : Value) (a3 : Value) (a4 : Value) (a5 : Value) (a6 : Value) (a7 : Value) (a8 : Value) (a9 : Value) (a10 : Value) (a11 : Value) (hp : Nat) (b0 : Value) (b1 : Value) (i : Int32) (sz : Nat) : Met l yX11_letter w_X11_letter ({ frames := 0, cells := 0, slots := 0, locals := 0 }) (va_Pc [.ref h0, .int i] (fun U => U.heap.size = sz ∧ va_P (dC, dI) cls_ [(h0, .inr (10, [a0, a1, .ref hp, a3, a4, a5, a6, a7, a8, a9, a10, a11])), (hp, .inr (3, [b0, b1, .int 0]))] U.heap ∧ va_K (dC, dI) cls_ [] U ∧ va_D (fun _ => True) [(h0, .inr (10, [a0, a1, .ref hp, a3, a4, a5, a6, a7, a8, a9, a10, a11])), (hp, .inr (3, [b0, b1, .int 0]))] ∧ nx_ U)) (va_Qi (fun (r : Int32) (_ : Unit) => r = (-1)) (fun _ _ => True) (va_A [(h0, .inr (10, [a0, a1, .ref hp, a3, a4, a5, a6, a7, a8, a9, a10, a11])), (hp, .inr (3, [b0, b1, .int 0]))] sz)) 0 0 (va_A [(h0, .inr (10, [a0, a1, .ref hp, a3, a4, a5, a6, a7, a8, a9, a10, a11])), (hp, .inr (3, [b0, b1, .int 0]))] sz) := by
  refine Met.ofW (cc := cX11_letter) (maxL := 2) (ret := (some .int)) (by decide) rfl ?_
  intro p e s m args below meth c s₁ B hml hv
  obtain ⟨rfl, hsz, hP, hK, hD0, hNx⟩ := hv
  have hx := B.exec
  have hb := B.bytes
  have hr := B.returns
  have hts := atoms_spec (ws := w_X11_letter) B.pre
  have hown : s.vm.findClass RX11 = some m.cls := findClass_of_methodNamed B.named
  have hlocks := B.notSynchronized
  subst hsz
  have hD := hD0.self (sz := s.heap.size)
  generalize hAe : va_A [(h0, .inr (10, [a0, a1, .ref hp, a3, a4, a5, a6, a7, a8, a9, a10, a11])), (hp, .inr (3, [b0, b1, .int 0]))] s.heap.size = A at hD ⊢
  have hA : ∀ q : Nat, s.heap.size ≤ q → A q := fun q h => by rw [← hAe]; exact Or.inr h
  have hS : va_S A s.heap s.heap [] := va_S.rf
  have hP : va_P (dC, dI) cls_ [(h0, .inr (10, [a0, a1, .ref hp, a3, a4, a5, a6, a7, a8, a9, a10, a11])), (hp, .inr (3, [b0, b1, .int 0]))] s.heap := hP
  have hl := lv_entry ([.ref h0, .int i]) (n := 2) (Nat.le_of_ble_eq_true rfl)
  rw [lg_entry_eq]
  generalize (lg_sl ([.ref h0, .int i]) ++ List.replicate (2 - (lg_sl ([.ref h0, .int i])).length) Slot.unset).toArray = ls at hl ⊢
  have hl : lv_has ls 2 [(0, .ref h0), (1, .int i)] := hl
  refine lv_iload_n hx hb dX11_letter_0 rfl (lv_at hl 1 rfl) ?_
  refine lv_if_lt (tgt := 15) hx hb dX11_letter_1 (by decide) (fun c_1 => ?_) (fun c_1 => ?_)
  · refine lv_iconst (v := -1) hx hb dX11_letter_15 (by decide) ?_
    refine lv_goto (tgt := 32) hx hb dX11_letter_16 (by decide) ?_
    refine W.widen (k := 0) (n := 0) (Nat.le_of_ble_eq_true rfl) (Nat.le_of_ble_eq_true rfl) ?_
    exact W.iret (v := (-1)) hx hb hr (fun t ht hW => ⟨⟨(-1), (), rfl, rfl, trivial⟩, hS.F ht⟩) hS.2.2 dX11_letter_32
  · refine lv_iload_n hx hb dX11_letter_4 rfl (lv_at hl 1 rfl) ?_
    refine lv_aload_n hx hb dX11_letter_5 rfl (lv_at hl 0 rfl) ?_
    refine va_get (D := (dC, dI)) (ci := 10) (v := .ref hp) (C := RX11) (T := TX11) (N := 12) hx hb hts in_X11_letter_X11 hown hK hP 0 rfl rfl 2 (by decide) (hts (.fieldLink RX11 25 "RealSolver" "pen" "LRealSolver$Pen;") (List.mem_of_getElem? (i := 1) rfl)) (fun _ h9 => h9) rfl dX11_letter_6 ?_
    refine va_get (D := (dC, dI)) (ci := 3) (v := .int 0) (C := RX3) (T := TX3) (N := 3) hx hb hts in_X11_letter_X3 hown hK hP 1 rfl rfl 2 (by decide) (hts (.fieldLink RX11 168 "RealSolver$Pen" "size" "I") (List.mem_of_getElem? (i := 2) rfl)) (fun _ h9 => h9) rfl dX11_letter_9 ?_
    refine lv_icmp_lt (tgt := 19) hx hb dX11_letter_12 (by decide) (fun c_2 => ?_) (fun c_2 => ?_)
    · exact absurd c_2 c_1
    · refine lv_iconst (v := -1) hx hb dX11_letter_15 (by decide) ?_
      refine lv_goto (tgt := 32) hx hb dX11_letter_16 (by decide) ?_
      refine W.widen (k := 0) (n := 0) (Nat.le_of_ble_eq_true rfl) (Nat.le_of_ble_eq_true rfl) ?_
      exact W.iret (v := (-1)) hx hb hr (fun t ht hW => ⟨⟨(-1), (), rfl, rfl, trivial⟩, hS.F ht⟩) hS.2.2 dX11_letter_32

def w_X11_digest : List Cond := .code yX11_digest cX11_digest 3 (some .int) :: ([.fieldLink RX11 25 "RealSolver" "pen" "LRealSolver$Pen;", .fieldLink RX11 168 "RealSolver$Pen" "size" "I", .fieldLink RX11 82 "RealSolver" "onTape" "I", .fieldLink RX11 61 "RealSolver" "variableCount" "I", .fieldLink RX11 75 "RealSolver" "solved" "Z", .code yX11_lackOfZeros cX11_lackOfZeros 1 (some .int), .methodLink RX11 171 yX11_lackOfZeros, .instanceMethod yX11_lackOfZeros, .selects RX11 yX11_lackOfZeros yX11_lackOfZeros, .initialized RX11] ++ (wsX110 ++ (wsX30 ++ ([] : List Cond))))
theorem in_X11_digest_X11 : ∀ w ∈ wsX110, w ∈ w_X11_digest := fun _ h => List.mem_cons_of_mem _ (List.mem_append_right _ (List.mem_append_left _ h))
theorem in_X11_digest_X3 : ∀ w ∈ wsX30, w ∈ w_X11_digest := fun _ h => List.mem_cons_of_mem _ (List.mem_append_right _ (List.mem_append_right _ (List.mem_append_left _ h)))
set_option maxRecDepth 20000 in
theorem g_X11_digest_X11_lackOfZeros_171 : GoodIn w_X11_digest (wsV RX11 171 RX11 yX11_lackOfZeros w_X11_lackOfZeros) := goodIn_r _ [7, 8, 9, 10, 6, 5, 11, 12, 13, 14, 15, 16, 17, 18, 19, 20, 21, 22] (by decide +kernel) (by decide +kernel)
set_option maxHeartbeats 4000000 in
set_option maxRecDepth 100000 in
theorem k_X11_digest (l : Launch) (dC : Nat → ClassId) (dI : Nat → Nat → Nat) (h0 : Nat) (a0 : Value) (a1 : Value) (a3 : Value) (a4 : Value) (a5 : Value) (a6 : Value) (a9 : Value) (a10 : Value) (hp : Nat) (b0 : Value) (b1 : Value) (sz : Nat) : Met l yX11_digest w_X11_digest ({ frames := 1, cells := 0, slots := 0, locals := 20 }) (va_Pc [.ref h0] (fun U => U.heap.size = sz ∧ va_P (dC, dI) cls_ [(h0, .inr (10, [a0, a1, .ref hp, a3, a4, a5, a6, .int 0, .int 2, a9, a10, .int 0])), (hp, .inr (3, [b0, b1, .int 0]))] U.heap ∧ va_K (dC, dI) cls_ [] U ∧ va_D (fun _ => True) [(h0, .inr (10, [a0, a1, .ref hp, a3, a4, a5, a6, .int 0, .int 2, a9, a10, .int 0])), (hp, .inr (3, [b0, b1, .int 0]))] ∧ nx_ U)) (va_Qi (fun (r : Int32) (_ : Unit) => r = 685254) (fun _ _ => True) (va_A [(h0, .inr (10, [a0, a1, .ref hp, a3, a4, a5, a6, .int 0, .int 2, a9, a10, .int 0])), (hp, .inr (3, [b0, b1, .int 0]))] sz)) 0 0 (va_A [(h0, .inr (10, [a0, a1, .ref hp, a3, a4, a5, a6, .int 0, .int 2, a9, a10, .int 0])), (hp, .inr (3, [b0, b1, .int 0]))] sz) := by
  refine Met.ofW (cc := cX11_digest) (maxL := 3) (ret := (some .int)) (by decide) rfl ?_
  intro p e s m args below meth c s₁ B hml hv
  obtain ⟨rfl, hsz, hP, hK, hD0, hNx⟩ := hv
  have hx := B.exec
  have hb := B.bytes
  have hr := B.returns
  have hts := atoms_spec (ws := w_X11_digest) B.pre
  have hown : s.vm.findClass RX11 = some m.cls := findClass_of_methodNamed B.named
  have hlocks := B.notSynchronized
  subst hsz
  have hD := hD0.self (sz := s.heap.size)
  generalize hAe : va_A [(h0, .inr (10, [a0, a1, .ref hp, a3, a4, a5, a6, .int 0, .int 2, a9, a10, .int 0])), (hp, .inr (3, [b0, b1, .int 0]))] s.heap.size = A at hD ⊢
  have hA : ∀ q : Nat, s.heap.size ≤ q → A q := fun q h => by rw [← hAe]; exact Or.inr h
  have hS : va_S A s.heap s.heap [] := va_S.rf
  have hP : va_P (dC, dI) cls_ [(h0, .inr (10, [a0, a1, .ref hp, a3, a4, a5, a6, .int 0, .int 2, a9, a10, .int 0])), (hp, .inr (3, [b0, b1, .int 0]))] s.heap := hP
  have hl := lv_entry ([.ref h0]) (n := 3) (Nat.le_of_ble_eq_true rfl)
  rw [lg_entry_eq]
  generalize (lg_sl ([.ref h0]) ++ List.replicate (3 - (lg_sl ([.ref h0])).length) Slot.unset).toArray = ls at hl ⊢
  have hl : lv_has ls 3 [(0, .ref h0)] := hl
  refine lv_bipush (v := 23) hx hb dX11_digest_0 (by decide) ?_
  refine lv_istore_n (lv' := [(1, .int 23), (0, .ref h0)]) hx hb dX11_digest_2 rfl hl (by decide) rfl (fun ls hl => ?_)
  refine lv_iconst (v := 0) hx hb dX11_digest_3 (by decide) ?_
  refine lv_istore_n (lv' := [(2, .int 0), (1, .int 23), (0, .ref h0)]) hx hb dX11_digest_4 rfl hl (by decide) rfl (fun ls hl => ?_)
  refine lv_iload_n hx hb dX11_digest_5 rfl (lv_at hl 0 rfl) ?_
  refine lv_aload_n hx hb dX11_digest_6 rfl (lv_at hl 2 rfl) ?_
  refine va_get (D := (dC, dI)) (ci := 10) (v := .ref hp) (C := RX11) (T := TX11) (N := 12) hx hb hts in_X11_digest_X11 hown hK hP 0 rfl rfl 2 (by decide) (hts (.fieldLink RX11 25 "RealSolver" "pen" "LRealSolver$Pen;") (List.mem_of_getElem? (i := 1) rfl)) (fun _ h9 => h9) rfl dX11_digest_7 ?_
  refine va_get (D := (dC, dI)) (ci := 3) (v := .int 0) (C := RX3) (T := TX3) (N := 3) hx hb hts in_X11_digest_X3 hown hK hP 1 rfl rfl 2 (by decide) (hts (.fieldLink RX11 168 "RealSolver$Pen" "size" "I") (List.mem_of_getElem? (i := 2) rfl)) (fun _ h9 => h9) rfl dX11_digest_10 ?_
  refine lv_icmp_ge (tgt := 41) hx hb dX11_digest_13 (by decide) (fun c_1 => ?_) (fun c_1 => absurd (by decide) c_1)
  refine lv_iload_n hx hb dX11_digest_41 rfl (lv_at hl 1 rfl) ?_
  refine lv_bipush (v := 31) hx hb dX11_digest_42 (by decide) ?_
  refine lv_imul hx hb dX11_digest_44 ?_
  refine lv_topi (fun f_2 ef_2 => ?_)
  obtain rfl : f_2 = 713 := ef_2.trans (by decide)
  refine lv_aload_n hx hb dX11_digest_45 rfl (lv_at hl 2 rfl) ?_
  refine va_get (D := (dC, dI)) (ci := 10) (v := .int 0) (C := RX11) (T := TX11) (N := 12) hx hb hts in_X11_digest_X11 hown hK hP 0 rfl rfl 7 (by decide) (hts (.fieldLink RX11 82 "RealSolver" "onTape" "I") (List.mem_of_getElem? (i := 3) rfl)) (fun _ h9 => h9) rfl dX11_digest_46 ?_
  refine lv_iadd hx hb dX11_digest_49 ?_
  refine lv_topi (fun f_3 ef_3 => ?_)
  obtain rfl : f_3 = 713 := ef_3.trans (by decide)
  refine lv_istore_n (lv' := [(1, .int 713), (2, .int 0), (0, .ref h0)]) hx hb dX11_digest_50 rfl hl (by decide) rfl (fun ls hl => ?_)
  refine lv_iload_n hx hb dX11_digest_51 rfl (lv_at hl 0 rfl) ?_
  refine lv_bipush (v := 31) hx hb dX11_digest_52 (by decide) ?_
  refine lv_imul hx hb dX11_digest_54 ?_
  refine lv_topi (fun f_4 ef_4 => ?_)
  obtain rfl : f_4 = 22103 := ef_4.trans (by decide)
  refine lv_aload_n hx hb dX11_digest_55 rfl (lv_at hl 2 rfl) ?_
  refine va_get (D := (dC, dI)) (ci := 10) (v := .int 2) (C := RX11) (T := TX11) (N := 12) hx hb hts in_X11_digest_X11 hown hK hP 0 rfl rfl 8 (by decide) (hts (.fieldLink RX11 61 "RealSolver" "variableCount" "I") (List.mem_of_getElem? (i := 4) rfl)) (fun _ h9 => h9) rfl dX11_digest_56 ?_
  refine lv_iadd hx hb dX11_digest_59 ?_
  refine lv_topi (fun f_5 ef_5 => ?_)
  obtain rfl : f_5 = 22105 := ef_5.trans (by decide)
  refine lv_istore_n (lv' := [(1, .int 22105), (2, .int 0), (0, .ref h0)]) hx hb dX11_digest_60 rfl hl (by decide) rfl (fun ls hl => ?_)
  refine lv_aload_n hx hb dX11_digest_61 rfl (lv_at hl 2 rfl) ?_
  have hPc := hP.sub (ws' := [(h0, .inr (10, [a0, a1, .ref hp, a3, a4, a5, a6, .int 0, .int 2, a9, a10, .int 0]))]) [0] rfl
  have hDc := hD.sub (ws' := [(h0, .inr (10, [a0, a1, .ref hp, a3, a4, a5, a6, .int 0, .int 2, a9, a10, .int 0]))]) [0] (by decide) rfl
  have hKc := hK.sub (tys' := []) [] rfl
  have hFc := va_free (wc := [(h0, .inr (10, [a0, a1, .ref hp, a3, a4, a5, a6, .int 0, .int 2, a9, a10, .int 0]))]) hD hS hA [0] rfl
  refine va_calli (va_runV (As := []) (rest := []) ⟨hx, hb, hml, hown, hts⟩ (k_X11_lackOfZeros l dC dI h0 a0 a1 (.ref hp) a3 a4 a5 a6 (.int 0) (.int 2) a9 a10 s.heap.size) (cwV 0 hts g_X11_digest_X11_lackOfZeros_171 rfl rfl rfl (by decide +kernel) ⟨Nat.le_of_ble_eq_true rfl, Nat.le_of_ble_eq_true rfl⟩) ⟨fun a U g mk q => by obtain ⟨q0, q1, qP, qK, qD, qN⟩ := q; exact ⟨q0, q1, qP, va_K.moved (u := U) (U := U.calling g mk a) (Vm.Alike.refl U.vm) qK, qD, nx_.same rfl qN⟩, va_recv hKc hPc (ci := 10) (q0 := 0) rfl rfl, fun U hU hW => ⟨rfl, by rw [hU], by rw [hU]; exact hPc, va_K.moved hW.alike hKc, hDc.weaken (fun _ _ _ _ => trivial), nx_.warm hW hNx⟩⟩ rfl rfl hl.1 rfl (lv_room (Nat.le_of_ble_eq_true rfl)) dX11_digest_62 ⟨Nat.le_of_ble_eq_true rfl, Nat.le_of_ble_eq_true rfl⟩) hS (fun q _ h => hFc q h) hFc (fun r_6 u t H1 locs ht hvm hw hB hz1 hk1 hS => ?_)
  try dsimp only at hw
  obtain ⟨hP1, hK1, hD1⟩ := hB
  rw [ht] at hP1
  obtain ⟨hP, hD⟩ := va_join (wr := [(hp, .inr (3, [b0, b1, .int 0]))]) (w1 := [(h0, .inr (10, [a0, a1, .ref hp, a3, a4, a5, a6, .int 0, .int 2, a9, a10, .int 0]))]) hP hD [0] [1] rfl rfl (by decide) (by decide) hk1 hFc hP1 hD1
  generalize H1 = H at hP hS ⊢
  have hP : va_P (dC, dI) cls_ [(hp, .inr (3, [b0, b1, .int 0])), (h0, .inr (10, [a0, a1, .ref hp, a3, a4, a5, a6, .int 0, .int 2, a9, a10, .int 0]))] H := hP
  have hD : va_D A [(hp, .inr (3, [b0, b1, .int 0])), (h0, .inr (10, [a0, a1, .ref hp, a3, a4, a5, a6, .int 0, .int 2, a9, a10, .int 0]))] := hD
  refine W.widen (k := 0) (n := 0) (Nat.le_of_ble_eq_true rfl) (Nat.le_of_ble_eq_true rfl) ?_
  obtain rfl : (4 : Int32) = r_6 := Eq.symm hw
  refine lv_if_eq (tgt := 75) hx hb dX11_digest_65 (by decide) (fun c_7 => absurd c_7 (by decide)) (fun c_7 => ?_)
  refine lv_iload_n hx hb dX11_digest_68 rfl (lv_at hl 0 rfl) ?_
  refine lv_bipush (v := 31) hx hb dX11_digest_69 (by decide) ?_
  refine lv_imul hx hb dX11_digest_71 ?_
  refine lv_topi (fun f_8 ef_8 => ?_)
  obtain rfl : f_8 = 685255 := ef_8.trans (by decide)
  refine lv_iconst (v := 1) hx hb dX11_digest_72 (by decide) ?_
  refine lv_isub hx hb dX11_digest_73 ?_
  refine lv_topi (fun f_9 ef_9 => ?_)
  obtain rfl : f_9 = 685254 := ef_9.trans (by decide)
  refine W.widen (k := 0) (n := 0) (Nat.le_of_ble_eq_true rfl) (Nat.le_of_ble_eq_true rfl) ?_
  exact W.iret (v := 685254) hx hb hr (fun t ht hW => ⟨⟨685254, (), rfl, rfl, trivial⟩, hS.F ht⟩) hS.2.2 dX11_digest_74

def w_X11_end : List Cond := .code yX11_end cX11_end 2 (some .int) :: ([.fieldLink RX11 65 "RealSolver" "outcome" "I", .code yX11_refuse cX11_refuse 2 (some .int), .methodLink RX11 71 yX11_refuse, .instanceMethod yX11_refuse, .selects RX11 yX11_refuse yX11_refuse, .initialized RX11, .fieldLink RX11 82 "RealSolver" "onTape" "I", .code yX11_answer cX11_answer 2 (some .int), .methodLink RX11 79 yX11_answer, .instanceMethod yX11_answer, .selects RX11 yX11_answer yX11_answer] ++ (wsX110 ++ ([] : List Cond)))
theorem in_X11_end_X11 : ∀ w ∈ wsX110, w ∈ w_X11_end := fun _ h => List.mem_cons_of_mem _ (List.mem_append_right _ (List.mem_append_left _ h))
set_option maxRecDepth 20000 in
theorem g_X11_end_X11_refuse_71 : GoodIn w_X11_end (wsV RX11 71 RX11 yX11_refuse w_X11_refuse) := goodIn_r _ [3, 4, 5, 6, 2, 1, 12, 13, 14, 15, 16, 17, 18, 19, 20, 21, 22, 23] (by decide +kernel) (by decide +kernel)
set_option maxRecDepth 20000 in
theorem g_X11_end_X11_answer_79 : GoodIn w_X11_end (wsV RX11 79 RX11 yX11_answer w_X11_answer) := goodIn_r _ [9, 10, 11, 6, 8, 1, 12, 13, 14, 15, 16, 17, 18, 19, 20, 21, 22, 23] (by decide +kernel) (by decide +kernel)
set_option maxHeartbeats 4000000 in
set_option maxRecDepth 100000 in
theorem k_X11_end (l : Launch) (dC : Nat → ClassId) (dI : Nat → Nat → Nat) (h0 : Nat) (a0 : Value) (a1 : Value) (a2 : Value) (a3 : Value) (a4 : Value) (a5 : Value) (a6 : Value) (a8 : Value) (a9 : Value) (a10 : Value) (a11 : Value) (n : Int32) (sz : Nat) : Met l yX11_end w_X11_end ({ frames := 1, cells := 0, slots := 0, locals := 21 }) (va_Pc [.ref h0, .int n] (fun U => U.heap.size = sz ∧ va_P (dC, dI) cls_ [(h0, .inr (10, [a0, a1, a2, a3, a4, a5, a6, .int 0, a8, a9, a10, a11]))] U.heap ∧ va_K (dC, dI) cls_ [] U ∧ va_D (fun _ => True) [(h0, .inr (10, [a0, a1, a2, a3, a4, a5, a6, .int 0, a8, a9, a10, a11]))] ∧ nx_ U)) (va_Qi (fun (r : Int32) (_ : Unit) => r = if n < 0 then -1 else if n ≤ 0 then n else -1) (fun _ _ => True) (va_A [(h0, .inr (10, [a0, a1, a2, a3, a4, a5, a6, .int 0, a8, a9, a10, a11]))] sz)) 0 0 (va_A [(h0, .inr (10, [a0, a1, a2, a3, a4, a5, a6, .int 0, a8, a9, a10, a11]))] sz) := by
  refine Met.ofW (cc := cX11_end) (maxL := 2) (ret := (some .int)) (by decide) rfl ?_
  intro p e s m args below meth c s₁ B hml hv
  obtain ⟨rfl, hsz, hP, hK, hD0, hNx⟩ := hv
  have hx := B.exec
  have hb := B.bytes
  have hr := B.returns
  have hts := atoms_spec (ws := w_X11_end) B.pre
  have hown : s.vm.findClass RX11 = some m.cls := findClass_of_methodNamed B.named
  have hlocks := B.notSynchronized
  subst hsz
  have hD := hD0.self (sz := s.heap.size)
  generalize hAe : va_A [(h0, .inr (10, [a0, a1, a2, a3, a4, a5, a6, .int 0, a8, a9, a10, a11]))] s.heap.size = A at hD ⊢
  have hA : ∀ q : Nat, s.heap.size ≤ q → A q := fun q h => by rw [← hAe]; exact Or.inr h
  have hS : va_S A s.heap s.heap [] := va_S.rf
  have hP : va_P (dC, dI) cls_ [(h0, .inr (10, [a0, a1, a2, a3, a4, a5, a6, .int 0, a8, a9, a10, a11]))] s.heap := hP
  have hl := lv_entry ([.ref h0, .int n]) (n := 2) (Nat.le_of_ble_eq_true rfl)
  rw [lg_entry_eq]
  generalize (lg_sl ([.ref h0, .int n]) ++ List.replicate (2 - (lg_sl ([.ref h0, .int n])).length) Slot.unset).toArray = ls at hl ⊢
  have hl : lv_has ls 2 [(0, .ref h0), (1, .int n)] := hl
  refine lv_iload_n hx hb dX11_end_0 rfl (lv_at hl 1 rfl) ?_
  refine lv_if_lt (tgt := 12) hx hb dX11_end_1 (by decide) (fun c_1 => ?_) (fun c_1 => ?_)
  · refine lv_aload_n hx hb dX11_end_12 rfl (lv_at hl 0 rfl) ?_
    refine lv_iconst (v := 2) hx hb dX11_end_13 (by decide) ?_
    have hPc := hP.sub (ws' := [(h0, .inr (10, [a0, a1, a2, a3, a4, a5, a6, .int 0, a8, a9, a10, a11]))]) [0] rfl
    have hDc := hD.sub (ws' := [(h0, .inr (10, [a0, a1, a2, a3, a4, a5, a6, .int 0, a8, a9, a10, a11]))]) [0] (by decide) rfl
    have hKc := hK.sub (tys' := []) [] rfl
    have hFc := va_free (wc := [(h0, .inr (10, [a0, a1, a2, a3, a4, a5, a6, .int 0, a8, a9, a10, a11]))]) hD hS hA [0] rfl
    refine va_calli (va_runV (As := [.int 2]) (rest := []) ⟨hx, hb, hml, hown, hts⟩ (k_X11_refuse l dC dI h0 a0 a1 a2 a3 a4 a5 a6 (.int 0) a8 a9 a10 a11 2 s.heap.size) (cwV 1 hts g_X11_end_X11_refuse_71 rfl rfl rfl (by decide +kernel) ⟨Nat.le_of_ble_eq_true rfl, Nat.le_of_ble_eq_true rfl⟩) ⟨fun a U g mk q => by obtain ⟨q0, q1, qP, qK, qD, qN⟩ := q; exact ⟨q0, q1, qP, va_K.moved (u := U) (U := U.calling g mk a) (Vm.Alike.refl U.vm) qK, qD, nx_.same rfl qN⟩, va_recv hKc hPc (ci := 10) (q0 := 0) rfl rfl, fun U hU hW => ⟨rfl, by rw [hU], by rw [hU]; exact hPc, va_K.moved hW.alike hKc, hDc.weaken (fun _ _ _ _ => trivial), nx_.warm hW hNx⟩⟩ rfl rfl hl.1 rfl (lv_room (Nat.le_of_ble_eq_true rfl)) dX11_end_14 ⟨Nat.le_of_ble_eq_true rfl, Nat.le_of_ble_eq_true rfl⟩) hS (fun q _ h => hFc q h) hFc (fun r_2 u t H1 locs ht hvm hw hB hz1 hk1 hS => ?_)
    try dsimp only at hw
    have hP1 : va_P (dC, dI) cls_ [] H1 := fun k q h => by simp at h
    have hD1 : va_D (va_A [(h0, .inr (10, [a0, a1, a2, a3, a4, a5, a6, .int 0, a8, a9, a10, a11]))] s.heap.size) [] := ⟨fun i j p q h => by simp at h, fun k q h => by simp at h⟩
    obtain ⟨hP, hD⟩ := va_join (wr := []) (w1 := []) hP hD [0] [] rfl rfl (by decide) (by decide) hk1 hFc hP1 hD1
    generalize H1 = H at hP hS ⊢
    have hP : va_P (dC, dI) cls_ [] H := hP
    have hD : va_D A [] := hD
    refine W.widen (k := 0) (n := 0) (Nat.le_of_ble_eq_true rfl) (Nat.le_of_ble_eq_true rfl) ?_
    obtain rfl : ((-1) : Int32) = r_2 := Eq.symm hw
    refine W.widen (k := 0) (n := 0) (Nat.le_of_ble_eq_true rfl) (Nat.le_of_ble_eq_true rfl) ?_
    exact W.iret (v := (-1)) hx hb hr (fun t ht hW => ⟨⟨(-1), (), rfl, (by simp [c_1]), trivial⟩, hS.F ht⟩) hS.2.2 dX11_end_17
  · refine lv_iload_n hx hb dX11_end_4 rfl (lv_at hl 1 rfl) ?_
    refine lv_aload_n hx hb dX11_end_5 rfl (lv_at hl 0 rfl) ?_
    refine va_get (D := (dC, dI)) (ci := 10) (v := .int 0) (C := RX11) (T := TX11) (N := 12) hx hb hts in_X11_end_X11 hown hK hP 0 rfl rfl 7 (by decide) (hts (.fieldLink RX11 82 "RealSolver" "onTape" "I") (List.mem_of_getElem? (i := 7) rfl)) (fun _ h9 => h9) rfl dX11_end_6 ?_
    refine lv_icmp_le (tgt := 18) hx hb dX11_end_9 (by decide) (fun c_3 => ?_) (fun c_3 => ?_)
    · refine lv_aload_n hx hb dX11_end_18 rfl (lv_at hl 0 rfl) ?_
      refine lv_iload_n hx hb dX11_end_19 rfl (lv_at hl 1 rfl) ?_
      refine va_put (D := (dC, dI)) (ci := 10) (v := .int n) (ty := .int) (C := RX11) (T := TX11) (N := 12) hx hb hts in_X11_end_X11 tyX11 tyX11_ok nmX11 hown hK hP hD hS 0 rfl rfl 7 (by decide) (hts (.fieldLink RX11 82 "RealSolver" "onTape" "I") (List.mem_of_getElem? (i := 7) rfl)) (fun _ h9 => h9) rfl (by decide +kernel) rfl rfl (Nat.le_of_ble_eq_true rfl) dX11_end_20 (fun H locs hP hD hS => ?_)
      have hP : va_P (dC, dI) cls_ [(h0, .inr (10, [a0, a1, a2, a3, a4, a5, a6, .int n, a8, a9, a10, a11]))] H := hP
      have hD : va_D A [(h0, .inr (10, [a0, a1, a2, a3, a4, a5, a6, .int n, a8, a9, a10, a11]))] := hD
      refine lv_aload_n hx hb dX11_end_23 rfl (lv_at hl 0 rfl) ?_
      refine lv_iload_n hx hb dX11_end_24 rfl (lv_at hl 1 rfl) ?_
      have hPc := hP.sub (ws' := [(h0, .inr (10, [a0, a1, a2, a3, a4, a5, a6, .int n, a8, a9, a10, a11]))]) [0] rfl
      have hDc := hD.sub (ws' := [(h0, .inr (10, [a0, a1, a2, a3, a4, a5, a6, .int n, a8, a9, a10, a11]))]) [0] (by decide) rfl
      have hKc := hK.sub (tys' := []) [] rfl
      have hFc := va_free (wc := [(h0, .inr (10, [a0, a1, a2, a3, a4, a5, a6, .int n, a8, a9, a10, a11]))]) hD hS hA [0] rfl
      refine va_calli (va_runV (As := [.int n]) (rest := []) ⟨hx, hb, hml, hown, hts⟩ (k_X11_answer l dC dI h0 a0 a1 a2 a3 a4 a5 a6 (.int n) a8 a9 a10 a11 n H.size) (cwV 1 hts g_X11_end_X11_answer_79 rfl rfl rfl (by decide +kernel) ⟨Nat.le_of_ble_eq_true rfl, Nat.le_of_ble_eq_true rfl⟩) ⟨fun a U g mk q => by obtain ⟨q0, q1, qP, qK, qD, qN⟩ := q; exact ⟨q0, q1, qP, va_K.moved (u := U) (U := U.calling g mk a) (Vm.Alike.refl U.vm) qK, qD, nx_.same rfl qN⟩, va_recv hKc hPc (ci := 10) (q0 := 0) rfl rfl, fun U hU hW => ⟨rfl, by rw [hU], by rw [hU]; exact hPc, va_K.moved hW.alike hKc, hDc.weaken (fun _ _ _ _ => trivial), nx_.warm hW hNx⟩⟩ rfl rfl hl.1 rfl (lv_room (Nat.le_of_ble_eq_true rfl)) dX11_end_25 ⟨Nat.le_of_ble_eq_true rfl, Nat.le_of_ble_eq_true rfl⟩) hS (fun q _ h => hFc q h) hFc (fun r_4 u t H1 locs ht hvm hw hB hz1 hk1 hS => ?_)
      try dsimp only at hw
      have hP1 : va_P (dC, dI) cls_ [] H1 := fun k q h => by simp at h
      have hD1 : va_D (va_A [(h0, .inr (10, [a0, a1, a2, a3, a4, a5, a6, .int n, a8, a9, a10, a11]))] H.size) [] := ⟨fun i j p q h => by simp at h, fun k q h => by simp at h⟩
      obtain ⟨hP, hD⟩ := va_join (wr := []) (w1 := []) hP hD [0] [] rfl rfl (by decide) (by decide) hk1 hFc hP1 hD1
      generalize H1 = H at hP hS ⊢
      have hP : va_P (dC, dI) cls_ [] H := hP
      have hD : va_D A [] := hD
      refine W.widen (k := 0) (n := 0) (Nat.le_of_ble_eq_true rfl) (Nat.le_of_ble_eq_true rfl) ?_
      obtain rfl : n = r_4 := Eq.symm hw
      refine W.widen (k := 0) (n := 0) (Nat.le_of_ble_eq_true rfl) (Nat.le_of_ble_eq_true rfl) ?_
      exact W.iret (v := n) hx hb hr (fun t ht hW => ⟨⟨n, (), rfl, (by simp [c_1, c_3]), trivial⟩, hS.F ht⟩) hS.2.2 dX11_end_28
    · refine lv_aload_n hx hb dX11_end_12 rfl (lv_at hl 0 rfl) ?_
      refine lv_iconst (v := 2) hx hb dX11_end_13 (by decide) ?_
      have hPc := hP.sub (ws' := [(h0, .inr (10, [a0, a1, a2, a3, a4, a5, a6, .int 0, a8, a9, a10, a11]))]) [0] rfl
      have hDc := hD.sub (ws' := [(h0, .inr (10, [a0, a1, a2, a3, a4, a5, a6, .int 0, a8, a9, a10, a11]))]) [0] (by decide) rfl
      have hKc := hK.sub (tys' := []) [] rfl
      have hFc := va_free (wc := [(h0, .inr (10, [a0, a1, a2, a3, a4, a5, a6, .int 0, a8, a9, a10, a11]))]) hD hS hA [0] rfl
      refine va_calli (va_runV (As := [.int 2]) (rest := []) ⟨hx, hb, hml, hown, hts⟩ (k_X11_refuse l dC dI h0 a0 a1 a2 a3 a4 a5 a6 (.int 0) a8 a9 a10 a11 2 s.heap.size) (cwV 1 hts g_X11_end_X11_refuse_71 rfl rfl rfl (by decide +kernel) ⟨Nat.le_of_ble_eq_true rfl, Nat.le_of_ble_eq_true rfl⟩) ⟨fun a U g mk q => by obtain ⟨q0, q1, qP, qK, qD, qN⟩ := q; exact ⟨q0, q1, qP, va_K.moved (u := U) (U := U.calling g mk a) (Vm.Alike.refl U.vm) qK, qD, nx_.same rfl qN⟩, va_recv hKc hPc (ci := 10) (q0 := 0) rfl rfl, fun U hU hW => ⟨rfl, by rw [hU], by rw [hU]; exact hPc, va_K.moved hW.alike hKc, hDc.weaken (fun _ _ _ _ => trivial), nx_.warm hW hNx⟩⟩ rfl rfl hl.1 rfl (lv_room (Nat.le_of_ble_eq_true rfl)) dX11_end_14 ⟨Nat.le_of_ble_eq_true rfl, Nat.le_of_ble_eq_true rfl⟩) hS (fun q _ h => hFc q h) hFc (fun r_5 u t H1 locs ht hvm hw hB hz1 hk1 hS => ?_)
      try dsimp only at hw
      have hP1 : va_P (dC, dI) cls_ [] H1 := fun k q h => by simp at h
      have hD1 : va_D (va_A [(h0, .inr (10, [a0, a1, a2, a3, a4, a5, a6, .int 0, a8, a9, a10, a11]))] s.heap.size) [] := ⟨fun i j p q h => by simp at h, fun k q h => by simp at h⟩
      obtain ⟨hP, hD⟩ := va_join (wr := []) (w1 := []) hP hD [0] [] rfl rfl (by decide) (by decide) hk1 hFc hP1 hD1
      generalize H1 = H at hP hS ⊢
      have hP : va_P (dC, dI) cls_ [] H := hP
      have hD : va_D A [] := hD
      refine W.widen (k := 0) (n := 0) (Nat.le_of_ble_eq_true rfl) (Nat.le_of_ble_eq_true rfl) ?_
      obtain rfl : ((-1) : Int32) = r_5 := Eq.symm hw
      refine W.widen (k := 0) (n := 0) (Nat.le_of_ble_eq_true rfl) (Nat.le_of_ble_eq_true rfl) ?_
      exact W.iret (v := (-1)) hx hb hr (fun t ht hW => ⟨⟨(-1), (), rfl, (by simp [c_1, c_3]), trivial⟩, hS.F ht⟩) hS.2.2 dX11_end_17

def w_X11_append : List Cond := .code yX11_append cX11_append 3 none :: ([.fieldLink RX11 82 "RealSolver" "onTape" "I", .fieldLink RX11 9 "RealSolver" "tape" "[B"] ++ (wsX110 ++ ([] : List Cond)))
theorem in_X11_append_X11 : ∀ w ∈ wsX110, w ∈ w_X11_append := fun _ h => List.mem_cons_of_mem _ (List.mem_append_right _ (List.mem_append_left _ h))
set_option maxHeartbeats 4000000 in
set_option maxRecDepth 100000 in
theorem k_X11_append_0 (l : Launch) (dC : Nat → ClassId) (dI : Nat → Nat → Nat) (h0 : Nat) (a1 : Value) (a2 : Value) (a3 : Value) (a4 : Value) (a5 : Value) (a6 : Value) (a8 : Value) (a9 : Value) (a10 : Value) (a11 : Value) (qt : Nat) (cB : ClassId) (f : Nat → Int32) (v : Int32) (sz : Nat) : Met l yX11_append w_X11_append ({ frames := 0, cells := 0, slots := 0, locals := 0 }) (va_Pc [.ref h0, .int v] (fun U => U.heap.size = sz ∧ va_P (dC, dI) cls_ [(h0, .inr (10, [.ref qt, a1, a2, a3, a4, a5, a6, .int 0, a8, a9, a10, a11])), (qt, .inl (cB, 800, .inl f))] U.heap ∧ va_K (dC, dI) cls_ [(cB, .byte)] U ∧ va_D (fun _ => True) [(h0, .inr (10, [.ref qt, a1, a2, a3, a4, a5, a6, .int 0, a8, a9, a10, a11])), (qt, .inl (cB, 800, .inl f))] ∧ nx_ U)) (va_Qv (fun _ : Unit => True) (fun _ t => ∃ (f9 : Nat → Int32), va_P (dC, dI) cls_ [(h0, .inr (10, [.ref qt, a1, a2, a3, a4, a5, a6, .int 4, a8, a9, a10, a11])), (qt, .inl (cB, 800, .inl f9))] t.heap ∧ va_K (dC, dI) cls_ [] t ∧ va_D (va_A [(h0, .inr (10, [.ref qt, a1, a2, a3, a4, a5, a6, .int 0, a8, a9, a10, a11])), (qt, .inl (cB, 800, .inl f))] sz) [(h0, .inr (10, [.ref qt, a1, a2, a3, a4, a5, a6, .int 4, a8, a9, a10, a11])), (qt, .inl (cB, 800, .inl f9))]) (va_A [(h0, .inr (10, [.ref qt, a1, a2, a3, a4, a5, a6, .int 0, a8, a9, a10, a11])), (qt, .inl (cB, 800, .inl f))] sz)) 0 0 (va_A [(h0, .inr (10, [.ref qt, a1, a2, a3, a4, a5, a6, .int 0, a8, a9, a10, a11])), (qt, .inl (cB, 800, .inl f))] sz) := by
  refine Met.ofW (cc := cX11_append) (maxL := 3) (ret := none) (by decide) rfl ?_
  intro p e s m args below meth c s₁ B hml hv
  obtain ⟨rfl, hsz, hP, hK, hD0, hNx⟩ := hv
  have hx := B.exec
  have hb := B.bytes
  have hr := B.returns
  have hts := atoms_spec (ws := w_X11_append) B.pre
  have hown : s.vm.findClass RX11 = some m.cls := findClass_of_methodNamed B.named
  have hlocks := B.notSynchronized
  subst hsz
  have hD := hD0.self (sz := s.heap.size)
  generalize hAe : va_A [(h0, .inr (10, [.ref qt, a1, a2, a3, a4, a5, a6, .int 0, a8, a9, a10, a11])), (qt, .inl (cB, 800, .inl f))] s.heap.size = A at hD ⊢
  have hA : ∀ q : Nat, s.heap.size ≤ q → A q := fun q h => by rw [← hAe]; exact Or.inr h
  have hS : va_S A s.heap s.heap [] := va_S.rf
  have hP : va_P (dC, dI) cls_ [(h0, .inr (10, [.ref qt, a1, a2, a3, a4, a5, a6, .int 0, a8, a9, a10, a11])), (qt, .inl (cB, 800, .inl f))] s.heap := hP
  have hl := lv_entry ([.ref h0, .int v]) (n := 3) (Nat.le_of_ble_eq_true rfl)
  rw [lg_entry_eq]
  generalize (lg_sl ([.ref h0, .int v]) ++ List.replicate (3 - (lg_sl ([.ref h0, .int v])).length) Slot.unset).toArray = ls at hl ⊢
  have hl : lv_has ls 3 [(0, .ref h0), (1, .int v)] := hl
  refine lv_bipush (v := 24) hx hb dX11_append_0 (by decide) ?_
  refine lv_istore_n (lv' := [(2, .int 24), (0, .ref h0), (1, .int v)]) hx hb dX11_append_2 rfl hl (by decide) rfl (fun ls hl => ?_)
  refine lv_iload_n hx hb dX11_append_3 rfl (lv_at hl 0 rfl) ?_
  refine lv_if_lt (tgt := 46) hx hb dX11_append_4 (by decide) (fun c_1 => absurd c_1 (by decide)) (fun c_1 => ?_)
  refine lv_aload_n hx hb dX11_append_7 rfl (lv_at hl 1 rfl) ?_
  refine va_get (D := (dC, dI)) (ci := 10) (v := .int 0) (C := RX11) (T := TX11) (N := 12) hx hb hts in_X11_append_X11 hown hK hP 0 rfl rfl 7 (by decide) (hts (.fieldLink RX11 82 "RealSolver" "onTape" "I") (List.mem_of_getElem? (i := 1) rfl)) (fun _ h9 => h9) rfl dX11_append_8 ?_
  refine lv_sipush (v := 800) hx hb dX11_append_11 (by decide) ?_
  refine lv_icmp_ge (tgt := 40) hx hb dX11_append_14 (by decide) (fun c_2 => absurd c_2 (by decide)) (fun c_2 => ?_)
  refine lv_aload_n hx hb dX11_append_17 rfl (lv_at hl 1 rfl) ?_
  refine va_get (D := (dC, dI)) (ci := 10) (v := .ref qt) (C := RX11) (T := TX11) (N := 12) hx hb hts in_X11_append_X11 hown hK hP 0 rfl rfl 0 (by decide) (hts (.fieldLink RX11 9 "RealSolver" "tape" "[B") (List.mem_of_getElem? (i := 2) rfl)) (fun _ h9 => h9) rfl dX11_append_18 ?_
  refine lv_aload_n hx hb dX11_append_21 rfl (lv_at hl 1 rfl) ?_
  refine va_get (D := (dC, dI)) (ci := 10) (v := .int 0) (C := RX11) (T := TX11) (N := 12) hx hb hts in_X11_append_X11 hown hK hP 0 rfl rfl 7 (by decide) (hts (.fieldLink RX11 82 "RealSolver" "onTape" "I") (List.mem_of_getElem? (i := 1) rfl)) (fun _ h9 => h9) rfl dX11_append_22 ?_
  refine lv_iload_n hx hb dX11_append_25 rfl (lv_at hl 2 rfl) ?_
  refine lv_iload_n hx hb dX11_append_26 rfl (lv_at hl 0 rfl) ?_
  refine lv_ishr hx hb dX11_append_27 ?_
  refine lv_topi (fun f_3 ef_3 => ?_)
  refine lv_i2b hx hb dX11_append_28 rfl ?_
  refine lv_topi (fun f_4 ef_4 => ?_)
  refine va_bast hx hb hK hP hD hS 1 0 rfl rfl (by unfold vp_in; decide +kernel) dX11_append_29 (fun H locs hP hD hS => ?_)
  obtain ⟨g_5, eg_5⟩ : ∃ g : Nat → Int32, g = upd f (Int32.toNatClampNeg 0) (vp_nar .byte f_4) := ⟨_, rfl⟩
  have hP : va_P (dC, dI) cls_ [(h0, .inr (10, [.ref qt, a1, a2, a3, a4, a5, a6, .int 0, a8, a9, a10, a11])), (qt, .inl (cB, 800, .inl g_5))] H := by rw [eg_5]; exact hP
  have hD : va_D A [(h0, .inr (10, [.ref qt, a1, a2, a3, a4, a5, a6, .int 0, a8, a9, a10, a11])), (qt, .inl (cB, 800, .inl g_5))] := by rw [eg_5]; exact hD
  refine lv_aload_n hx hb dX11_append_30 rfl (lv_at hl 1 rfl) ?_
  refine lv_dup hx hb dX11_append_31 rfl ?_
  refine va_get (D := (dC, dI)) (ci := 10) (v := .int 0) (C := RX11) (T := TX11) (N := 12) hx hb hts in_X11_append_X11 hown hK hP 0 rfl rfl 7 (by decide) (hts (.fieldLink RX11 82 "RealSolver" "onTape" "I") (List.mem_of_getElem? (i := 1) rfl)) (fun _ h9 => h9) rfl dX11_append_32 ?_
  refine lv_iconst (v := 1) hx hb dX11_append_35 (by decide) ?_
  refine lv_iadd hx hb dX11_append_36 ?_
  refine lv_topi (fun f_6 ef_6 => ?_)
  obtain rfl : f_6 = 1 := ef_6.trans (by decide)
  refine va_put (D := (dC, dI)) (ci := 10) (v := .int 1) (ty := .int) (C := RX11) (T := TX11) (N := 12) hx hb hts in_X11_append_X11 tyX11 tyX11_ok nmX11 hown hK hP hD hS 0 rfl rfl 7 (by decide) (hts (.fieldLink RX11 82 "RealSolver" "onTape" "I") (List.mem_of_getElem? (i := 1) rfl)) (fun _ h9 => h9) rfl (by decide +kernel) rfl rfl (Nat.le_of_ble_eq_true rfl) dX11_append_37 (fun H locs hP hD hS => ?_)
  have hP : va_P (dC, dI) cls_ [(h0, .inr (10, [.ref qt, a1, a2, a3, a4, a5, a6, .int 1, a8, a9, a10, a11])), (qt, .inl (cB, 800, .inl g_5))] H := hP
  have hD : va_D A [(h0, .inr (10, [.ref qt, a1, a2, a3, a4, a5, a6, .int 1, a8, a9, a10, a11])), (qt, .inl (cB, 800, .inl g_5))] := hD
  refine lv_iinc (v := 16) (lv' := [(2, .int 16), (0, .ref h0), (1, .int v)]) hx hb dX11_append_40 hl (k := 0) rfl (by decide) (by decide) rfl (fun ls hl => ?_)
  refine lv_goto (tgt := 3) hx hb dX11_append_43 (by decide) ?_
  refine lv_iload_n hx hb dX11_append_3 rfl (lv_at hl 0 rfl) ?_
  refine lv_if_lt (tgt := 46) hx hb dX11_append_4 (by decide) (fun c_7 => absurd c_7 (by decide)) (fun c_7 => ?_)
  refine lv_aload_n hx hb dX11_append_7 rfl (lv_at hl 1 rfl) ?_
  refine va_get (D := (dC, dI)) (ci := 10) (v := .int 1) (C := RX11) (T := TX11) (N := 12) hx hb hts in_X11_append_X11 hown hK hP 0 rfl rfl 7 (by decide) (hts (.fieldLink RX11 82 "RealSolver" "onTape" "I") (List.mem_of_getElem? (i := 1) rfl)) (fun _ h9 => h9) rfl dX11_append_8 ?_
  refine lv_sipush (v := 800) hx hb dX11_append_11 (by decide) ?_
  refine lv_icmp_ge (tgt := 40) hx hb dX11_append_14 (by decide) (fun c_8 => absurd c_8 (by decide)) (fun c_8 => ?_)
  refine lv_aload_n hx hb dX11_append_17 rfl (lv_at hl 1 rfl) ?_
  refine va_get (D := (dC, dI)) (ci := 10) (v := .ref qt) (C := RX11) (T := TX11) (N := 12) hx hb hts in_X11_append_X11 hown hK hP 0 rfl rfl 0 (by decide) (hts (.fieldLink RX11 9 "RealSolver" "tape" "[B") (List.mem_of_getElem? (i := 2) rfl)) (fun _ h9 => h9) rfl dX11_append_18 ?_
  refine lv_aload_n hx hb dX11_append_21 rfl (lv_at hl 1 rfl) ?_
  refine va_get (D := (dC, dI)) (ci := 10) (v := .int 1) (C := RX11) (T := TX11) (N := 12) hx hb hts in_X11_append_X11 hown hK hP 0 rfl rfl 7 (by decide) (hts (.fieldLink RX11 82 "RealSolver" "onTape" "I") (List.mem_of_getElem? (i := 1) rfl)) (fun _ h9 => h9) rfl dX11_append_22 ?_
  refine lv_iload_n hx hb dX11_append_25 rfl (lv_at hl 2 rfl) ?_
  refine lv_iload_n hx hb dX11_append_26 rfl (lv_at hl 0 rfl) ?_
  refine lv_ishr hx hb dX11_append_27 ?_
  refine lv_topi (fun f_9 ef_9 => ?_)
  refine lv_i2b hx hb dX11_append_28 rfl ?_
  refine lv_topi (fun f_10 ef_10 => ?_)
  refine va_bast hx hb hK hP hD hS 1 0 rfl rfl (by unfold vp_in; decide +kernel) dX11_append_29 (fun H locs hP hD hS => ?_)
  obtain ⟨g_11, eg_11⟩ : ∃ g : Nat → Int32, g = upd g_5 (Int32.toNatClampNeg 1) (vp_nar .byte f_10) := ⟨_, rfl⟩
  have hP : va_P (dC, dI) cls_ [(h0, .inr (10, [.ref qt, a1, a2, a3, a4, a5, a6, .int 1, a8, a9, a10, a11])), (qt, .inl (cB, 800, .inl g_11))] H := by rw [eg_11]; exact hP
  have hD : va_D A [(h0, .inr (10, [.ref qt, a1, a2, a3, a4, a5, a6, .int 1, a8, a9, a10, a11])), (qt, .inl (cB, 800, .inl g_11))] := by rw [eg_11]; exact hD
  refine lv_aload_n hx hb dX11_append_30 rfl (lv_at hl 1 rfl) ?_
  refine lv_dup hx hb dX11_append_31 rfl ?_
  refine va_get (D := (dC, dI)) (ci := 10) (v := .int 1) (C := RX11) (T := TX11) (N := 12) hx hb hts in_X11_append_X11 hown hK hP 0 rfl rfl 7 (by decide) (hts (.fieldLink RX11 82 "RealSolver" "onTape" "I") (List.mem_of_getElem? (i := 1) rfl)) (fun _ h9 => h9) rfl dX11_append_32 ?_
  refine lv_iconst (v := 1) hx hb dX11_append_35 (by decide) ?_
  refine lv_iadd hx hb dX11_append_36 ?_
  refine lv_topi (fun f_12 ef_12 => ?_)
  obtain rfl : f_12 = 2 := ef_12.trans (by decide)
  refine va_put (D := (dC, dI)) (ci := 10) (v := .int 2) (ty := .int) (C := RX11) (T := TX11) (N := 12) hx hb hts in_X11_append_X11 tyX11 tyX11_ok nmX11 hown hK hP hD hS 0 rfl rfl 7 (by decide) (hts (.fieldLink RX11 82 "RealSolver" "onTape" "I") (List.mem_of_getElem? (i := 1) rfl)) (fun _ h9 => h9) rfl (by decide +kernel) rfl rfl (Nat.le_of_ble_eq_true rfl) dX11_append_37 (fun H locs hP hD hS => ?_)
  have hP : va_P (dC, dI) cls_ [(h0, .inr (10, [.ref qt, a1, a2, a3, a4, a5, a6, .int 2, a8, a9, a10, a11])), (qt, .inl (cB, 800, .inl g_11))] H := hP
  have hD : va_D A [(h0, .inr (10, [.ref qt, a1, a2, a3, a4, a5, a6, .int 2, a8, a9, a10, a11])), (qt, .inl (cB, 800, .inl g_11))] := hD
  refine lv_iinc (v := 8) (lv' := [(2, .int 8), (0, .ref h0), (1, .int v)]) hx hb dX11_append_40 hl (k := 0) rfl (by decide) (by decide) rfl (fun ls hl => ?_)
  refine lv_goto (tgt := 3) hx hb dX11_append_43 (by decide) ?_
  refine lv_iload_n hx hb dX11_append_3 rfl (lv_at hl 0 rfl) ?_
  refine lv_if_lt (tgt := 46) hx hb dX11_append_4 (by decide) (fun c_13 => absurd c_13 (by decide)) (fun c_13 => ?_)
  refine lv_aload_n hx hb dX11_append_7 rfl (lv_at hl 1 rfl) ?_
  refine va_get (D := (dC, dI)) (ci := 10) (v := .int 2) (C := RX11) (T := TX11) (N := 12) hx hb hts in_X11_append_X11 hown hK hP 0 rfl rfl 7 (by decide) (hts (.fieldLink RX11 82 "RealSolver" "onTape" "I") (List.mem_of_getElem? (i := 1) rfl)) (fun _ h9 => h9) rfl dX11_append_8 ?_
  refine lv_sipush (v := 800) hx hb dX11_append_11 (by decide) ?_
  refine lv_icmp_ge (tgt := 40) hx hb dX11_append_14 (by decide) (fun c_14 => absurd c_14 (by decide)) (fun c_14 => ?_)
  refine lv_aload_n hx hb dX11_append_17 rfl (lv_at hl 1 rfl) ?_
  refine va_get (D := (dC, dI)) (ci := 10) (v := .ref qt) (C := RX11) (T := TX11) (N := 12) hx hb hts in_X11_append_X11 hown hK hP 0 rfl rfl 0 (by decide) (hts (.fieldLink RX11 9 "RealSolver" "tape" "[B") (List.mem_of_getElem? (i := 2) rfl)) (fun _ h9 => h9) rfl dX11_append_18 ?_
  refine lv_aload_n hx hb dX11_append_21 rfl (lv_at hl 1 rfl) ?_
  refine va_get (D := (dC, dI)) (ci := 10) (v := .int 2) (C := RX11) (T := TX11) (N := 12) hx hb hts in_X11_append_X11 hown hK hP 0 rfl rfl 7 (by decide) (hts (.fieldLink RX11 82 "RealSolver" "onTape" "I") (List.mem_of_getElem? (i := 1) rfl)) (fun _ h9 => h9) rfl dX11_append_22 ?_
  refine lv_iload_n hx hb dX11_append_25 rfl (lv_at hl 2 rfl) ?_
  refine lv_iload_n hx hb dX11_append_26 rfl (lv_at hl 0 rfl) ?_
  refine lv_ishr hx hb dX11_append_27 ?_
  refine lv_topi (fun f_15 ef_15 => ?_)
  refine lv_i2b hx hb dX11_append_28 rfl ?_
  refine lv_topi (fun f_16 ef_16 => ?_)
  refine va_bast hx hb hK hP hD hS 1 0 rfl rfl (by unfold vp_in; decide +kernel) dX11_append_29 (fun H locs hP hD hS => ?_)
  obtain ⟨g_17, eg_17⟩ : ∃ g : Nat → Int32, g = upd g_11 (Int32.toNatClampNeg 2) (vp_nar .byte f_16) := ⟨_, rfl⟩
  have hP : va_P (dC, dI) cls_ [(h0, .inr (10, [.ref qt, a1, a2, a3, a4, a5, a6, .int 2, a8, a9, a10, a11])), (qt, .inl (cB, 800, .inl g_17))] H := by rw [eg_17]; exact hP
  have hD : va_D A [(h0, .inr (10, [.ref qt, a1, a2, a3, a4, a5, a6, .int 2, a8, a9, a10, a11])), (qt, .inl (cB, 800, .inl g_17))] := by rw [eg_17]; exact hD
  refine lv_aload_n hx hb dX11_append_30 rfl (lv_at hl 1 rfl) ?_
  refine lv_dup hx hb dX11_append_31 rfl ?_
  refine va_get (D := (dC, dI)) (ci := 10) (v := .int 2) (C := RX11) (T := TX11) (N := 12) hx hb hts in_X11_append_X11 hown hK hP 0 rfl rfl 7 (by decide) (hts (.fieldLink RX11 82 "RealSolver" "onTape" "I") (List.mem_of_getElem? (i := 1) rfl)) (fun _ h9 => h9) rfl dX11_append_32 ?_
  refine lv_iconst (v := 1) hx hb dX11_append_35 (by decide) ?_
  refine lv_iadd hx hb dX11_append_36 ?_
  refine lv_topi (fun f_18 ef_18 => ?_)
  obtain rfl : f_18 = 3 := ef_18.trans (by decide)
  refine va_put (D := (dC, dI)) (ci := 10) (v := .int 3) (ty := .int) (C := RX11) (T := TX11) (N := 12) hx hb hts in_X11_append_X11 tyX11 tyX11_ok nmX11 hown hK hP hD hS 0 rfl rfl 7 (by decide) (hts (.fieldLink RX11 82 "RealSolver" "onTape" "I") (List.mem_of_getElem? (i := 1) rfl)) (fun _ h9 => h9) rfl (by decide +kernel) rfl rfl (Nat.le_of_ble_eq_true rfl) dX11_append_37 (fun H locs hP hD hS => ?_)
  have hP : va_P (dC, dI) cls_ [(h0, .inr (10, [.ref qt, a1, a2, a3, a4, a5, a6, .int 3, a8, a9, a10, a11])), (qt, .inl (cB, 800, .inl g_17))] H := hP
  have hD : va_D A [(h0, .inr (10, [.ref qt, a1, a2, a3, a4, a5, a6, .int 3, a8, a9, a10, a11])), (qt, .inl (cB, 800, .inl g_17))] := hD
  refine lv_iinc (v := 0) (lv' := [(2, .int 0), (0, .ref h0), (1, .int v)]) hx hb dX11_append_40 hl (k := 0) rfl (by decide) (by decide) rfl (fun ls hl => ?_)
  refine lv_goto (tgt := 3) hx hb dX11_append_43 (by decide) ?_
  refine lv_iload_n hx hb dX11_append_3 rfl (lv_at hl 0 rfl) ?_
  refine lv_if_lt (tgt := 46) hx hb dX11_append_4 (by decide) (fun c_19 => absurd c_19 (by decide)) (fun c_19 => ?_)
  refine lv_aload_n hx hb dX11_append_7 rfl (lv_at hl 1 rfl) ?_
  refine va_get (D := (dC, dI)) (ci := 10) (v := .int 3) (C := RX11) (T := TX11) (N := 12) hx hb hts in_X11_append_X11 hown hK hP 0 rfl rfl 7 (by decide) (hts (.fieldLink RX11 82 "RealSolver" "onTape" "I") (List.mem_of_getElem? (i := 1) rfl)) (fun _ h9 => h9) rfl dX11_append_8 ?_
  refine lv_sipush (v := 800) hx hb dX11_append_11 (by decide) ?_
  refine lv_icmp_ge (tgt := 40) hx hb dX11_append_14 (by decide) (fun c_20 => absurd c_20 (by decide)) (fun c_20 => ?_)
  refine lv_aload_n hx hb dX11_append_17 rfl (lv_at hl 1 rfl) ?_
  refine va_get (D := (dC, dI)) (ci := 10) (v := .ref qt) (C := RX11) (T := TX11) (N := 12) hx hb hts in_X11_append_X11 hown hK hP 0 rfl rfl 0 (by decide) (hts (.fieldLink RX11 9 "RealSolver" "tape" "[B") (List.mem_of_getElem? (i := 2) rfl)) (fun _ h9 => h9) rfl dX11_append_18 ?_
  refine lv_aload_n hx hb dX11_append_21 rfl (lv_at hl 1 rfl) ?_
  refine va_get (D := (dC, dI)) (ci := 10) (v := .int 3) (C := RX11) (T := TX11) (N := 12) hx hb hts in_X11_append_X11 hown hK hP 0 rfl rfl 7 (by decide) (hts (.fieldLink RX11 82 "RealSolver" "onTape" "I") (List.mem_of_getElem? (i := 1) rfl)) (fun _ h9 => h9) rfl dX11_append_22 ?_
  refine lv_iload_n hx hb dX11_append_25 rfl (lv_at hl 2 rfl) ?_
  refine lv_iload_n hx hb dX11_append_26 rfl (lv_at hl 0 rfl) ?_
  refine lv_ishr hx hb dX11_append_27 ?_
  refine lv_topi (fun f_21 ef_21 => ?_)
  refine lv_i2b hx hb dX11_append_28 rfl ?_
  refine lv_topi (fun f_22 ef_22 => ?_)
  refine va_bast hx hb hK hP hD hS 1 0 rfl rfl (by unfold vp_in; decide +kernel) dX11_append_29 (fun H locs hP hD hS => ?_)
  obtain ⟨g_23, eg_23⟩ : ∃ g : Nat → Int32, g = upd g_17 (Int32.toNatClampNeg 3) (vp_nar .byte f_22) := ⟨_, rfl⟩
  have hP : va_P (dC, dI) cls_ [(h0, .inr (10, [.ref qt, a1, a2, a3, a4, a5, a6, .int 3, a8, a9, a10, a11])), (qt, .inl (cB, 800, .inl g_23))] H := by rw [eg_23]; exact hP
  have hD : va_D A [(h0, .inr (10, [.ref qt, a1, a2, a3, a4, a5, a6, .int 3, a8, a9, a10, a11])), (qt, .inl (cB, 800, .inl g_23))] := by rw [eg_23]; exact hD
  refine lv_aload_n hx hb dX11_append_30 rfl (lv_at hl 1 rfl) ?_
  refine lv_dup hx hb dX11_append_31 rfl ?_
  refine va_get (D := (dC, dI)) (ci := 10) (v := .int 3) (C := RX11) (T := TX11) (N := 12) hx hb hts in_X11_append_X11 hown hK hP 0 rfl rfl 7 (by decide) (hts (.fieldLink RX11 82 "RealSolver" "onTape" "I") (List.mem_of_getElem? (i := 1) rfl)) (fun _ h9 => h9) rfl dX11_append_32 ?_
  refine lv_iconst (v := 1) hx hb dX11_append_35 (by decide) ?_
  refine lv_iadd hx hb dX11_append_36 ?_
  refine lv_topi (fun f_24 ef_24 => ?_)
  obtain rfl : f_24 = 4 := ef_24.trans (by decide)
  refine va_put (D := (dC, dI)) (ci := 10) (v := .int 4) (ty := .int) (C := RX11) (T := TX11) (N := 12) hx hb hts in_X11_append_X11 tyX11 tyX11_ok nmX11 hown hK hP hD hS 0 rfl rfl 7 (by decide) (hts (.fieldLink RX11 82 "RealSolver" "onTape" "I") (List.mem_of_getElem? (i := 1) rfl)) (fun _ h9 => h9) rfl (by decide +kernel) rfl rfl (Nat.le_of_ble_eq_true rfl) dX11_append_37 (fun H locs hP hD hS => ?_)
  have hP : va_P (dC, dI) cls_ [(h0, .inr (10, [.ref qt, a1, a2, a3, a4, a5, a6, .int 4, a8, a9, a10, a11])), (qt, .inl (cB, 800, .inl g_23))] H := hP
  have hD : va_D A [(h0, .inr (10, [.ref qt, a1, a2, a3, a4, a5, a6, .int 4, a8, a9, a10, a11])), (qt, .inl (cB, 800, .inl g_23))] := hD
  refine lv_iinc (v := (-8)) (lv' := [(2, .int (-8)), (0, .ref h0), (1, .int v)]) hx hb dX11_append_40 hl (k := 0) rfl (by decide) (by decide) rfl (fun ls hl => ?_)
  refine lv_goto (tgt := 3) hx hb dX11_append_43 (by decide) ?_
  refine lv_iload_n hx hb dX11_append_3 rfl (lv_at hl 0 rfl) ?_
  refine lv_if_lt (tgt := 46) hx hb dX11_append_4 (by decide) (fun c_25 => ?_) (fun c_25 => absurd (by decide) c_25)
  refine W.widen (k := 0) (n := 0) (Nat.le_of_ble_eq_true rfl) (Nat.le_of_ble_eq_true rfl) ?_
  have hP9 := hP.sub (ws' := [(h0, .inr (10, [.ref qt, a1, a2, a3, a4, a5, a6, .int 4, a8, a9, a10, a11])), (qt, .inl (cB, 800, .inl g_23))]) [0, 1] rfl
  have hD9 := hD.sub (ws' := [(h0, .inr (10, [.ref qt, a1, a2, a3, a4, a5, a6, .int 4, a8, a9, a10, a11])), (qt, .inl (cB, 800, .inl g_23))]) [0, 1] (by decide) rfl
  have hK9 := hK.sub (tys' := []) [] rfl
  exact W.vret hx hb hr (fun t ht hW => ⟨⟨(), rfl, trivial, ⟨g_23, by rw [ht]; exact hP9, va_K.moved hW.alike hK9, hD9⟩⟩, hS.F ht⟩) hS.2.2 dX11_append_46
set_option maxHeartbeats 4000000 in
set_option maxRecDepth 100000 in
theorem k_X11_append_4 (l : Launch) (dC : Nat → ClassId) (dI : Nat → Nat → Nat) (h0 : Nat) (a1 : Value) (a2 : Value) (a3 : Value) (a4 : Value) (a5 : Value) (a6 : Value) (a8 : Value) (a9 : Value) (a10 : Value) (a11 : Value) (qt : Nat) (cB : ClassId) (f : Nat → Int32) (v : Int32) (sz : Nat) : Met l yX11_append w_X11_append ({ frames := 0, cells := 0, slots := 0, locals := 0 }) (va_Pc [.ref h0, .int v] (fun U => U.heap.size = sz ∧ va_P (dC, dI) cls_ [(h0, .inr (10, [.ref qt, a1, a2, a3, a4, a5, a6, .int 4, a8, a9, a10, a11])), (qt, .inl (cB, 800, .inl f))] U.heap ∧ va_K (dC, dI) cls_ [(cB, .byte)] U ∧ va_D (fun _ => True) [(h0, .inr (10, [.ref qt, a1, a2, a3, a4, a5, a6, .int 4, a8, a9, a10, a11])), (qt, .inl (cB, 800, .inl f))] ∧ nx_ U)) (va_Qv (fun _ : Unit => True) (fun _ t => ∃ (f9 : Nat → Int32), va_P (dC, dI) cls_ [(h0, .inr (10, [.ref qt, a1, a2, a3, a4, a5, a6, .int 8, a8, a9, a10, a11])), (qt, .inl (cB, 800, .inl f9))] t.heap ∧ va_K (dC, dI) cls_ [] t ∧ va_D (va_A [(h0, .inr (10, [.ref qt, a1, a2, a3, a4, a5, a6, .int 4, a8, a9, a10, a11])), (qt, .inl (cB, 800, .inl f))] sz) [(h0, .inr (10, [.ref qt, a1, a2, a3, a4, a5, a6, .int 8, a8, a9, a10, a11])), (qt, .inl (cB, 800, .inl f9))]) (va_A [(h0, .inr (10, [.ref qt, a1, a2, a3, a4, a5, a6, .int 4, a8, a9, a10, a11])), (qt, .inl (cB, 800, .inl f))] sz)) 0 0 (va_A [(h0, .inr (10, [.ref qt, a1, a2, a3, a4, a5, a6, .int 4, a8, a9, a10, a11])), (qt, .inl (cB, 800, .inl f))] sz) := by
  refine Met.ofW (cc := cX11_append) (maxL := 3) (ret := none) (by decide) rfl ?_
  intro p e s m args below meth c s₁ B hml hv
  obtain ⟨rfl, hsz, hP, hK, hD0, hNx⟩ := hv
  have hx := B.exec
  have hb := B.bytes
  have hr := B.returns
  have hts := atoms_spec (ws := w_X11_append) B.pre
  have hown : s.vm.findClass RX11 = some m.cls := findClass_of_methodNamed B.named
  have hlocks := B.notSynchronized
  subst hsz
  have hD := hD0.self (sz := s.heap.size)
  generalize hAe : va_A [(h0, .inr (10, [.ref qt, a1, a2, a3, a4, a5, a6, .int 4, a8, a9, a10, a11])), (qt, .inl (cB, 800, .inl f))] s.heap.size = A at hD ⊢
  have hA : ∀ q : Nat, s.heap.size ≤ q → A q := fun q h => by rw [← hAe]; exact Or.inr h
  have hS : va_S A s.heap s.heap [] := va_S.rf
  have hP : va_P (dC, dI) cls_ [(h0, .inr (10, [.ref qt, a1, a2, a3, a4, a5, a6, .int 4, a8, a9, a10, a11])), (qt, .inl (cB, 800, .inl f))] s.heap := hP
  have hl := lv_entry ([.ref h0, .int v]) (n := 3) (Nat.le_of_ble_eq_true rfl)
  rw [lg_entry_eq]
  generalize (lg_sl ([.ref h0, .int v]) ++ List.replicate (3 - (lg_sl ([.ref h0, .int v])).length) Slot.unset).toArray = ls at hl ⊢
  have hl : lv_has ls 3 [(0, .ref h0), (1, .int v)] := hl
  refine lv_bipush (v := 24) hx hb dX11_append_0 (by decide) ?_
  refine lv_istore_n (lv' := [(2, .int 24), (0, .ref h0), (1, .int v)]) hx hb dX11_append_2 rfl hl (by decide) rfl (fun ls hl => ?_)
  refine lv_iload_n hx hb dX11_append_3 rfl (lv_at hl 0 rfl) ?_
  refine lv_if_lt (tgt := 46) hx hb dX11_append_4 (by decide) (fun c_1 => absurd c_1 (by decide)) (fun c_1 => ?_)
  refine lv_aload_n hx hb dX11_append_7 rfl (lv_at hl 1 rfl) ?_
  refine va_get (D := (dC, dI)) (ci := 10) (v := .int 4) (C := RX11) (T := TX11) (N := 12) hx hb hts in_X11_append_X11 hown hK hP 0 rfl rfl 7 (by decide) (hts (.fieldLink RX11 82 "RealSolver" "onTape" "I") (List.mem_of_getElem? (i := 1) rfl)) (fun _ h9 => h9) rfl dX11_append_8 ?_
  refine lv_sipush (v := 800) hx hb dX11_append_11 (by decide) ?_
  refine lv_icmp_ge (tgt := 40) hx hb dX11_append_14 (by decide) (fun c_2 => absurd c_2 (by decide)) (fun c_2 => ?_)
  refine lv_aload_n hx hb dX11_append_17 rfl (lv_at hl 1 rfl) ?_
  refine va_get (D := (dC, dI)) (ci := 10) (v := .ref qt) (C := RX11) (T := TX11) (N := 12) hx hb hts in_X11_append_X11 hown hK hP 0 rfl rfl 0 (by decide) (hts (.fieldLink RX11 9 "RealSolver" "tape" "[B") (List.mem_of_getElem? (i := 2) rfl)) (fun _ h9 => h9) rfl dX11_append_18 ?_
  refine lv_aload_n hx hb dX11_append_21 rfl (lv_at hl 1 rfl) ?_
  refine va_get (D := (dC, dI)) (ci := 10) (v := .int 4) (C := RX11) (T := TX11) (N := 12) hx hb hts in_X11_append_X11 hown hK hP 0 rfl rfl 7 (by decide) (hts (.fieldLink RX11 82 "RealSolver" "onTape" "I") (List.mem_of_getElem? (i := 1) rfl)) (fun _ h9 => h9) rfl dX11_append_22 ?_
  refine lv_iload_n hx hb dX11_append_25 rfl (lv_at hl 2 rfl) ?_
  refine lv_iload_n hx hb dX11_append_26 rfl (lv_at hl 0 rfl) ?_
  refine lv_ishr hx hb dX11_append_27 ?_
  refine lv_topi (fun f_3 ef_3 => ?_)
  refine lv_i2b hx hb dX11_append_28 rfl ?_
  refine lv_topi (fun f_4 ef_4 => ?_)
  refine va_bast hx hb hK hP hD hS 1 0 rfl rfl (by unfold vp_in; decide +kernel) dX11_append_29 (fun H locs hP hD hS => ?_)
  obtain ⟨g_5, eg_5⟩ : ∃ g : Nat → Int32, g = upd f (Int32.toNatClampNeg 4) (vp_nar .byte f_4) := ⟨_, rfl⟩
  have hP : va_P (dC, dI) cls_ [(h0, .inr (10, [.ref qt, a1, a2, a3, a4, a5, a6, .int 4, a8, a9, a10, a11])), (qt, .inl (cB, 800, .inl g_5))] H := by rw [eg_5]; exact hP
  have hD : va_D A [(h0, .inr (10, [.ref qt, a1, a2, a3, a4, a5, a6, .int 4, a8, a9, a10, a11])), (qt, .inl (cB, 800, .inl g_5))] := by rw [eg_5]; exact hD
  refine lv_aload_n hx hb dX11_append_30 rfl (lv_at hl 1 rfl) ?_
  refine lv_dup hx hb dX11_append_31 rfl ?_
  refine va_get (D := (dC, dI)) (ci := 10) (v := .int 4) (C := RX11) (T := TX11) (N := 12) hx hb hts in_X11_append_X11 hown hK hP 0 rfl rfl 7 (by decide) (hts (.fieldLink RX11 82 "RealSolver" "onTape" "I") (List.mem_of_getElem? (i := 1) rfl)) (fun _ h9 => h9) rfl dX11_append_32 ?_
  refine lv_iconst (v := 1) hx hb dX11_append_35 (by decide) ?_
  refine lv_iadd hx hb dX11_append_36 ?_
  refine lv_topi (fun f_6 ef_6 => ?_)
  obtain rfl : f_6 = 5 := ef_6.trans (by decide)
  refine va_put (D := (dC, dI)) (ci := 10) (v := .int 5) (ty := .int) (C := RX11) (T := TX11) (N := 12) hx hb hts in_X11_append_X11 tyX11 tyX11_ok nmX11 hown hK hP hD hS 0 rfl rfl 7 (by decide) (hts (.fieldLink RX11 82 "RealSolver" "onTape" "I") (List.mem_of_getElem? (i := 1) rfl)) (fun _ h9 => h9) rfl (by decide +kernel) rfl rfl (Nat.le_of_ble_eq_true rfl) dX11_append_37 (fun H locs hP hD hS => ?_)
  have hP : va_P (dC, dI) cls_ [(h0, .inr (10, [.ref qt, a1, a2, a3, a4, a5, a6, .int 5, a8, a9, a10, a11])), (qt, .inl (cB, 800, .inl g_5))] H := hP
  have hD : va_D A [(h0, .inr (10, [.ref qt, a1, a2, a3, a4, a5, a6, .int 5, a8, a9, a10, a11])), (qt, .inl (cB, 800, .inl g_5))] := hD
  refine lv_iinc (v := 16) (lv' := [(2, .int 16), (0, .ref h0), (1, .int v)]) hx hb dX11_append_40 hl (k := 0) rfl (by decide) (by decide) rfl (fun ls hl => ?_)
  refine lv_goto (tgt := 3) hx hb dX11_append_43 (by decide) ?_
  refine lv_iload_n hx hb dX11_append_3 rfl (lv_at hl 0 rfl) ?_
  refine lv_if_lt (tgt := 46) hx hb dX11_append_4 (by decide) (fun c_7 => absurd c_7 (by decide)) (fun c_7 => ?_)
  refine lv_aload_n hx hb dX11_append_7 rfl (lv_at hl 1 rfl) ?_
  refine va_get (D := (dC, dI)) (ci := 10) (v := .int 5) (C := RX11) (T := TX11) (N := 12) hx hb hts in_X11_append_X11 hown hK hP 0 rfl rfl 7 (by decide) (hts (.fieldLink RX11 82 "RealSolver" "onTape" "I") (List.mem_of_getElem? (i := 1) rfl)) (fun _ h9 => h9) rfl dX11_append_8 ?_
  refine lv_sipush (v := 800) hx hb dX11_append_11 (by decide) ?_
  refine lv_icmp_ge (tgt := 40) hx hb dX11_append_14 (by decide) (fun c_8 => absurd c_8 (by decide)) (fun c_8 => ?_)
  refine lv_aload_n hx hb dX11_append_17 rfl (lv_at hl 1 rfl) ?_
  refine va_get (D := (dC, dI)) (ci := 10) (v := .ref qt) (C := RX11) (T := TX11) (N := 12) hx hb hts in_X11_append_X11 hown hK hP 0 rfl rfl 0 (by decide) (hts (.fieldLink RX11 9 "RealSolver" "tape" "[B") (List.mem_of_getElem? (i := 2) rfl)) (fun _ h9 => h9) rfl dX11_append_18 ?_
  refine lv_aload_n hx hb dX11_append_21 rfl (lv_at hl 1 rfl) ?_
  refine va_get (D := (dC, dI)) (ci := 10) (v := .int 5) (C := RX11) (T := TX11) (N := 12) hx hb hts in_X11_append_X11 hown hK hP 0 rfl rfl 7 (by decide) (hts (.fieldLink RX11 82 "RealSolver" "onTape" "I") (List.mem_of_getElem? (i := 1) rfl)) (fun _ h9 => h9) rfl dX11_append_22 ?_
  refine lv_iload_n hx hb dX11_append_25 rfl (lv_at hl 2 rfl) ?_
  refine lv_iload_n hx hb dX11_append_26 rfl (lv_at hl 0 rfl) ?_
  refine lv_ishr hx hb dX11_append_27 ?_
  refine lv_topi (fun f_9 ef_9 => ?_)
  refine lv_i2b hx hb dX11_append_28 rfl ?_
  refine lv_topi (fun f_10 ef_10 => ?_)
  refine va_bast hx hb hK hP hD hS 1 0 rfl rfl (by unfold vp_in; decide +kernel) dX11_append_29 (fun H locs hP hD hS => ?_)
  obtain ⟨g_11, eg_11⟩ : ∃ g : Nat → Int32, g = upd g_5 (Int32.toNatClampNeg 5) (vp_nar .byte f_10) := ⟨_, rfl⟩
  have hP : va_P (dC, dI) cls_ [(h0, .inr (10, [.ref qt, a1, a2, a3, a4, a5, a6, .int 5, a8, a9, a10, a11])), (qt, .inl (cB, 800, .inl g_11))] H := by rw [eg_11]; exact hP
  have hD : va_D A [(h0, .inr (10, [.ref qt, a1, a2, a3, a4, a5, a6, .int 5, a8, a9, a10, a11])), (qt, .inl (cB, 800, .inl g_11))] := by rw [eg_11]; exact hD
  refine lv_aload_n hx hb dX11_append_30 rfl (lv_at hl 1 rfl) ?_
  refine lv_dup hx hb dX11_append_31 rfl ?_
  refine va_get (D := (dC, dI)) (ci := 10) (v := .int 5) (C := RX11) (T := TX11) (N := 12) hx hb hts in_X11_append_X11 hown hK hP 0 rfl rfl 7 (by decide) (hts (.fieldLink RX11 82 "RealSolver" "onTape" "I") (List.mem_of_getElem? (i := 1) rfl)) (fun _ h9 => h9) rfl dX11_append_32 ?_
  refine lv_iconst (v := 1) hx hb dX11_append_35 (by decide) ?_
  refine lv_iadd hx hb dX11_append_36 ?_
  refine lv_topi (fun f_12 ef_12 => ?_)
  obtain rfl : f_12 = 6 := ef_12.trans (by decide)
  refine va_put (D := (dC, dI)) (ci := 10) (v := .int 6) (ty := .int) (C := RX11) (T := TX11) (N := 12) hx hb hts in_X11_append_X11 tyX11 tyX11_ok nmX11 hown hK hP hD hS 0 rfl rfl 7 (by decide) (hts (.fieldLink RX11 82 "RealSolver" "onTape" "I") (List.mem_of_getElem? (i := 1) rfl)) (fun _ h9 => h9) rfl (by decide +kernel) rfl rfl (Nat.le_of_ble_eq_true rfl) dX11_append_37 (fun H locs hP hD hS => ?_)
  have hP : va_P (dC, dI) cls_ [(h0, .inr (10, [.ref qt, a1, a2, a3, a4, a5, a6, .int 6, a8, a9, a10, a11])), (qt, .inl (cB, 800, .inl g_11))] H := hP
  have hD : va_D A [(h0, .inr (10, [.ref qt, a1, a2, a3, a4, a5, a6, .int 6, a8, a9, a10, a11])), (qt, .inl (cB, 800, .inl g_11))] := hD
  refine lv_iinc (v := 8) (lv' := [(2, .int 8), (0, .ref h0), (1, .int v)]) hx hb dX11_append_40 hl (k := 0) rfl (by decide) (by decide) rfl (fun ls hl => ?_)
  refine lv_goto (tgt := 3) hx hb dX11_append_43 (by decide) ?_
  refine lv_iload_n hx hb dX11_append_3 rfl (lv_at hl 0 rfl) ?_
  refine lv_if_lt (tgt := 46) hx hb dX11_append_4 (by decide) (fun c_13 => absurd c_13 (by decide)) (fun c_13 => ?_)
  refine lv_aload_n hx hb dX11_append_7 rfl (lv_at hl 1 rfl) ?_
  refine va_get (D := (dC, dI)) (ci := 10) (v := .int 6) (C := RX11) (T := TX11) (N := 12) hx hb hts in_X11_append_X11 hown hK hP 0 rfl rfl 7 (by decide) (hts (.fieldLink RX11 82 "RealSolver" "onTape" "I") (List.mem_of_getElem? (i := 1) rfl)) (fun _ h9 => h9) rfl dX11_append_8 ?_
  refine lv_sipush (v := 800) hx hb dX11_append_11 (by decide) ?_
  refine lv_icmp_ge (tgt := 40) hx hb dX11_append_14 (by decide) (fun c_14 => absurd c_14 (by decide)) (fun c_14 => ?_)
  refine lv_aload_n hx hb dX11_append_17 rfl (lv_at hl 1 rfl) ?_
  refine va_get (D := (dC, dI)) (ci := 10) (v := .ref qt) (C := RX11) (T := TX11) (N := 12) hx hb hts in_X11_append_X11 hown hK hP 0 rfl rfl 0 (by decide) (hts (.fieldLink RX11 9 "RealSolver" "tape" "[B") (List.mem_of_getElem? (i := 2) rfl)) (fun _ h9 => h9) rfl dX11_append_18 ?_
  refine lv_aload_n hx hb dX11_append_21 rfl (lv_at hl 1 rfl) ?_
  refine va_get (D := (dC, dI)) (ci := 10) (v := .int 6) (C := RX11) (T := TX11) (N := 12) hx hb hts in_X11_append_X11 hown hK hP 0 rfl rfl 7 (by decide) (hts (.fieldLink RX11 82 "RealSolver" "onTape" "I") (List.mem_of_getElem? (i := 1) rfl)) (fun _ h9 => h9) rfl dX11_append_22 ?_
  refine lv_iload_n hx hb dX11_append_25 rfl (lv_at hl 2 rfl) ?_
  refine lv_iload_n hx hb dX11_append_26 rfl (lv_at hl 0 rfl) ?_
  refine lv_ishr hx hb dX11_append_27 ?_
  refine lv_topi (fun f_15 ef_15 => ?_)
  refine lv_i2b hx hb dX11_append_28 rfl ?_
  refine lv_topi (fun f_16 ef_16 => ?_)
  refine va_bast hx hb hK hP hD hS 1 0 rfl rfl (by unfold vp_in; decide +kernel) dX11_append_29 (fun H locs hP hD hS => ?_)
  obtain ⟨g_17, eg_17⟩ : ∃ g : Nat → Int32, g = upd g_11 (Int32.toNatClampNeg 6) (vp_nar .byte f_16) := ⟨_, rfl⟩
  have hP : va_P (dC, dI) cls_ [(h0, .inr (10, [.ref qt, a1, a2, a3, a4, a5, a6, .int 6, a8, a9, a10, a11])), (qt, .inl (cB, 800, .inl g_17))] H := by rw [eg_17]; exact hP
  have hD : va_D A [(h0, .inr (10, [.ref qt, a1, a2, a3, a4, a5, a6, .int 6, a8, a9, a10, a11])), (qt, .inl (cB, 800, .inl g_17))] := by rw [eg_17]; exact hD
  refine lv_aload_n hx hb dX11_append_30 rfl (lv_at hl 1 rfl) ?_
  refine lv_dup hx hb dX11_append_31 rfl ?_
  refine va_get (D := (dC, dI)) (ci := 10) (v := .int 6) (C := RX11) (T := TX11) (N := 12) hx hb hts in_X11_append_X11 hown hK hP 0 rfl rfl 7 (by decide) (hts (.fieldLink RX11 82 "RealSolver" "onTape" "I") (List.mem_of_getElem? (i := 1) rfl)) (fun _ h9 => h9) rfl dX11_append_32 ?_
  refine lv_iconst (v := 1) hx hb dX11_append_35 (by decide) ?_
  refine lv_iadd hx hb dX11_append_36 ?_
  refine lv_topi (fun f_18 ef_18 => ?_)
  obtain rfl : f_18 = 7 := ef_18.trans (by decide)
  refine va_put (D := (dC, dI)) (ci := 10) (v := .int 7) (ty := .int) (C := RX11) (T := TX11) (N := 12) hx hb hts in_X11_append_X11 tyX11 tyX11_ok nmX11 hown hK hP hD hS 0 rfl rfl 7 (by decide) (hts (.fieldLink RX11 82 "RealSolver" "onTape" "I") (List.mem_of_getElem? (i := 1) rfl)) (fun _ h9 => h9) rfl (by decide +kernel) rfl rfl (Nat.le_of_ble_eq_true rfl) dX11_append_37 (fun H locs hP hD hS => ?_)
  have hP : va_P (dC, dI) cls_ [(h0, .inr (10, [.ref qt, a1, a2, a3, a4, a5, a6, .int 7, a8, a9, a10, a11])), (qt, .inl (cB, 800, .inl g_17))] H := hP
  have hD : va_D A [(h0, .inr (10, [.ref qt, a1, a2, a3, a4, a5, a6, .int 7, a8, a9, a10, a11])), (qt, .inl (cB, 800, .inl g_17))] := hD
  refine lv_iinc (v := 0) (lv' := [(2, .int 0), (0, .ref h0), (1, .int v)]) hx hb dX11_append_40 hl (k := 0) rfl (by decide) (by decide) rfl (fun ls hl => ?_)
  refine lv_goto (tgt := 3) hx hb dX11_append_43 (by decide) ?_
  refine lv_iload_n hx hb dX11_append_3 rfl (lv_at hl 0 rfl) ?_
  refine lv_if_lt (tgt := 46) hx hb dX11_append_4 (by decide) (fun c_19 => absurd c_19 (by decide)) (fun c_19 => ?_)
  refine lv_aload_n hx hb dX11_append_7 rfl (lv_at hl 1 rfl) ?_
  refine va_get (D := (dC, dI)) (ci := 10) (v := .int 7) (C := RX11) (T := TX11) (N := 12) hx hb hts in_X11_append_X11 hown hK hP 0 rfl rfl 7 (by decide) (hts (.fieldLink RX11 82 "RealSolver" "onTape" "I") (List.mem_of_getElem? (i := 1) rfl)) (fun _ h9 => h9) rfl dX11_append_8 ?_
  refine lv_sipush (v := 800) hx hb dX11_append_11 (by decide) ?_
  refine lv_icmp_ge (tgt := 40) hx hb dX11_append_14 (by decide) (fun c_20 => absurd c_20 (by decide)) (fun c_20 => ?_)
  refine lv_aload_n hx hb dX11_append_17 rfl (lv_at hl 1 rfl) ?_
  refine va_get (D := (dC, dI)) (ci := 10) (v := .ref qt) (C := RX11) (T := TX11) (N := 12) hx hb hts in_X11_append_X11 hown hK hP 0 rfl rfl 0 (by decide) (hts (.fieldLink RX11 9 "RealSolver" "tape" "[B") (List.mem_of_getElem? (i := 2) rfl)) (fun _ h9 => h9) rfl dX11_append_18 ?_
  refine lv_aload_n hx hb dX11_append_21 rfl (lv_at hl 1 rfl) ?_
  refine va_get (D := (dC, dI)) (ci := 10) (v := .int 7) (C := RX11) (T := TX11) (N := 12) hx hb hts in_X11_append_X11 hown hK hP 0 rfl rfl 7 (by decide) (hts (.fieldLink RX11 82 "RealSolver" "onTape" "I") (List.mem_of_getElem? (i := 1) rfl)) (fun _ h9 => h9) rfl dX11_append_22 ?_
  refine lv_iload_n hx hb dX11_append_25 rfl (lv_at hl 2 rfl) ?_
  refine lv_iload_n hx hb dX11_append_26 rfl (lv_at hl 0 rfl) ?_
  refine lv_ishr hx hb dX11_append_27 ?_
  refine lv_topi (fun f_21 ef_21 => ?_)
  refine lv_i2b hx hb dX11_append_28 rfl ?_
  refine lv_topi (fun f_22 ef_22 => ?_)
  refine va_bast hx hb hK hP hD hS 1 0 rfl rfl (by unfold vp_in; decide +kernel) dX11_append_29 (fun H locs hP hD hS => ?_)
  obtain ⟨g_23, eg_23⟩ : ∃ g : Nat → Int32, g = upd g_17 (Int32.toNatClampNeg 7) (vp_nar .byte f_22) := ⟨_, rfl⟩
  have hP : va_P (dC, dI) cls_ [(h0, .inr (10, [.ref qt, a1, a2, a3, a4, a5, a6, .int 7, a8, a9, a10, a11])), (qt, .inl (cB, 800, .inl g_23))] H := by rw [eg_23]; exact hP
  have hD : va_D A [(h0, .inr (10, [.ref qt, a1, a2, a3, a4, a5, a6, .int 7, a8, a9, a10, a11])), (qt, .inl (cB, 800, .inl g_23))] := by rw [eg_23]; exact hD
  refine lv_aload_n hx hb dX11_append_30 rfl (lv_at hl 1 rfl) ?_
  refine lv_dup hx hb dX11_append_31 rfl ?_
  refine va_get (D := (dC, dI)) (ci := 10) (v := .int 7) (C := RX11) (T := TX11) (N := 12) hx hb hts in_X11_append_X11 hown hK hP 0 rfl rfl 7 (by decide) (hts (.fieldLink RX11 82 "RealSolver" "onTape" "I") (List.mem_of_getElem? (i := 1) rfl)) (fun _ h9 => h9) rfl dX11_append_32 ?_
  refine lv_iconst (v := 1) hx hb dX11_append_35 (by decide) ?_
  refine lv_iadd hx hb dX11_append_36 ?_
  refine lv_topi (fun f_24 ef_24 => ?_)
  obtain rfl : f_24 = 8 := ef_24.trans (by decide)
  refine va_put (D := (dC, dI)) (ci := 10) (v := .int 8) (ty := .int) (C := RX11) (T := TX11) (N := 12) hx hb hts in_X11_append_X11 tyX11 tyX11_ok nmX11 hown hK hP hD hS 0 rfl rfl 7 (by decide) (hts (.fieldLink RX11 82 "RealSolver" "onTape" "I") (List.mem_of_getElem? (i := 1) rfl)) (fun _ h9 => h9) rfl (by decide +kernel) rfl rfl (Nat.le_of_ble_eq_true rfl) dX11_append_37 (fun H locs hP hD hS => ?_)
  have hP : va_P (dC, dI) cls_ [(h0, .inr (10, [.ref qt, a1, a2, a3, a4, a5, a6, .int 8, a8, a9, a10, a11])), (qt, .inl (cB, 800, .inl g_23))] H := hP
  have hD : va_D A [(h0, .inr (10, [.ref qt, a1, a2, a3, a4, a5, a6, .int 8, a8, a9, a10, a11])), (qt, .inl (cB, 800, .inl g_23))] := hD
  refine lv_iinc (v := (-8)) (lv' := [(2, .int (-8)), (0, .ref h0), (1, .int v)]) hx hb dX11_append_40 hl (k := 0) rfl (by decide) (by decide) rfl (fun ls hl => ?_)
  refine lv_goto (tgt := 3) hx hb dX11_append_43 (by decide) ?_
  refine lv_iload_n hx hb dX11_append_3 rfl (lv_at hl 0 rfl) ?_
  refine lv_if_lt (tgt := 46) hx hb dX11_append_4 (by decide) (fun c_25 => ?_) (fun c_25 => absurd (by decide) c_25)
  refine W.widen (k := 0) (n := 0) (Nat.le_of_ble_eq_true rfl) (Nat.le_of_ble_eq_true rfl) ?_
  have hP9 := hP.sub (ws' := [(h0, .inr (10, [.ref qt, a1, a2, a3, a4, a5, a6, .int 8, a8, a9, a10, a11])), (qt, .inl (cB, 800, .inl g_23))]) [0, 1] rfl
  have hD9 := hD.sub (ws' := [(h0, .inr (10, [.ref qt, a1, a2, a3, a4, a5, a6, .int 8, a8, a9, a10, a11])), (qt, .inl (cB, 800, .inl g_23))]) [0, 1] (by decide) rfl
  have hK9 := hK.sub (tys' := []) [] rfl
  exact W.vret hx hb hr (fun t ht hW => ⟨⟨(), rfl, trivial, ⟨g_23, by rw [ht]; exact hP9, va_K.moved hW.alike hK9, hD9⟩⟩, hS.F ht⟩) hS.2.2 dX11_append_46
set_option maxHeartbeats 4000000 in
set_option maxRecDepth 100000 in
theorem k_X11_append_8 (l : Launch) (dC : Nat → ClassId) (dI : Nat → Nat → Nat) (h0 : Nat) (a1 : Value) (a2 : Value) (a3 : Value) (a4 : Value) (a5 : Value) (a6 : Value) (a8 : Value) (a9 : Value) (a10 : Value) (a11 : Value) (qt : Nat) (cB : ClassId) (f : Nat → Int32) (v : Int32) (sz : Nat) : Met l yX11_append w_X11_append ({ frames := 0, cells := 0, slots := 0, locals := 0 }) (va_Pc [.ref h0, .int v] (fun U => U.heap.size = sz ∧ va_P (dC, dI) cls_ [(h0, .inr (10, [.ref qt, a1, a2, a3, a4, a5, a6, .int 8, a8, a9, a10, a11])), (qt, .inl (cB, 800, .inl f))] U.heap ∧ va_K (dC, dI) cls_ [(cB, .byte)] U ∧ va_D (fun _ => True) [(h0, .inr (10, [.ref qt, a1, a2, a3, a4, a5, a6, .int 8, a8, a9, a10, a11])), (qt, .inl (cB, 800, .inl f))] ∧ nx_ U)) (va_Qv (fun _ : Unit => True) (fun _ t => ∃ (f9 : Nat → Int32), va_P (dC, dI) cls_ [(h0, .inr (10, [.ref qt, a1, a2, a3, a4, a5, a6, .int 12, a8, a9, a10, a11])), (qt, .inl (cB, 800, .inl f9))] t.heap ∧ va_K (dC, dI) cls_ [] t ∧ va_D (va_A [(h0, .inr (10, [.ref qt, a1, a2, a3, a4, a5, a6, .int 8, a8, a9, a10, a11])), (qt, .inl (cB, 800, .inl f))] sz) [(h0, .inr (10, [.ref qt, a1, a2, a3, a4, a5, a6, .int 12, a8, a9, a10, a11])), (qt, .inl (cB, 800, .inl f9))]) (va_A [(h0, .inr (10, [.ref qt, a1, a2, a3, a4, a5, a6, .int 8, a8, a9, a10, a11])), (qt, .inl (cB, 800, .inl f))] sz)) 0 0 (va_A [(h0, .inr (10, [.ref qt, a1, a2, a3, a4, a5, a6, .int 8, a8, a9, a10, a11])), (qt, .inl (cB, 800, .inl f))] sz) := by
  refine Met.ofW (cc := cX11_append) (maxL := 3) (ret := none) (by decide) rfl ?_
  intro p e s m args below meth c s₁ B hml hv
  obtain ⟨rfl, hsz, hP, hK, hD0, hNx⟩ := hv
  have hx := B.exec
  have hb := B.bytes
  have hr := B.returns
  have hts := atoms_spec (ws := w_X11_append) B.pre
  have hown : s.vm.findClass RX11 = some m.cls := findClass_of_methodNamed B.named
  have hlocks := B.notSynchronized
  subst hsz
  have hD := hD0.self (sz := s.heap.size)
  generalize hAe : va_A [(h0, .inr (10, [.ref qt, a1, a2, a3, a4, a5, a6, .int 8, a8, a9, a10, a11])), (qt, .inl (cB, 800, .inl f))] s.heap.size = A at hD ⊢
  have hA : ∀ q : Nat, s.heap.size ≤ q → A q := fun q h => by rw [← hAe]; exact Or.inr h
  have hS : va_S A s.heap s.heap [] := va_S.rf
  have hP : va_P (dC, dI) cls_ [(h0, .inr (10, [.ref qt, a1, a2, a3, a4, a5, a6, .int 8, a8, a9, a10, a11])), (qt, .inl (cB, 800, .inl f))] s.heap := hP
  have hl := lv_entry ([.ref h0, .int v]) (n := 3) (Nat.le_of_ble_eq_true rfl)
  rw [lg_entry_eq]
  generalize (lg_sl ([.ref h0, .int v]) ++ List.replicate (3 - (lg_sl ([.ref h0, .int v])).length) Slot.unset).toArray = ls at hl ⊢
  have hl : lv_has ls 3 [(0, .ref h0), (1, .int v)] := hl
  refine lv_bipush (v := 24) hx hb dX11_append_0 (by decide) ?_
  refine lv_istore_n (lv' := [(2, .int 24), (0, .ref h0), (1, .int v)]) hx hb dX11_append_2 rfl hl (by decide) rfl (fun ls hl => ?_)
  refine lv_iload_n hx hb dX11_append_3 rfl (lv_at hl 0 rfl) ?_
  refine lv_if_lt (tgt := 46) hx hb dX11_append_4 (by decide) (fun c_1 => absurd c_1 (by decide)) (fun c_1 => ?_)
  refine lv_aload_n hx hb dX11_append_7 rfl (lv_at hl 1 rfl) ?_
  refine va_get (D := (dC, dI)) (ci := 10) (v := .int 8) (C := RX11) (T := TX11) (N := 12) hx hb hts in_X11_append_X11 hown hK hP 0 rfl rfl 7 (by decide) (hts (.fieldLink RX11 82 "RealSolver" "onTape" "I") (List.mem_of_getElem? (i := 1) rfl)) (fun _ h9 => h9) rfl dX11_append_8 ?_
  refine lv_sipush (v := 800) hx hb dX11_append_11 (by decide) ?_
  refine lv_icmp_ge (tgt := 40) hx hb dX11_append_14 (by decide) (fun c_2 => absurd c_2 (by decide)) (fun c_2 => ?_)
  refine lv_aload_n hx hb dX11_append_17 rfl (lv_at hl 1 rfl) ?_
  refine va_get (D := (dC, dI)) (ci := 10) (v := .ref qt) (C := RX11) (T := TX11) (N := 12) hx hb hts in_X11_append_X11 hown hK hP 0 rfl rfl 0 (by decide) (hts (.fieldLink RX11 9 "RealSolver" "tape" "[B") (List.mem_of_getElem? (i := 2) rfl)) (fun _ h9 => h9) rfl dX11_append_18 ?_
  refine lv_aload_n hx hb dX11_append_21 rfl (lv_at hl 1 rfl) ?_
  refine va_get (D := (dC, dI)) (ci := 10) (v := .int 8) (C := RX11) (T := TX11) (N := 12) hx hb hts in_X11_append_X11 hown hK hP 0 rfl rfl 7 (by decide) (hts (.fieldLink RX11 82 "RealSolver" "onTape" "I") (List.mem_of_getElem? (i := 1) rfl)) (fun _ h9 => h9) rfl dX11_append_22 ?_
  refine lv_iload_n hx hb dX11_append_25 rfl (lv_at hl 2 rfl) ?_
  refine lv_iload_n hx hb dX11_append_26 rfl (lv_at hl 0 rfl) ?_
  refine lv_ishr hx hb dX11_append_27 ?_
  refine lv_topi (fun f_3 ef_3 => ?_)
  refine lv_i2b hx hb dX11_append_28 rfl ?_
  refine lv_topi (fun f_4 ef_4 => ?_)
  refine va_bast hx hb hK hP hD hS 1 0 rfl rfl (by unfold vp_in; decide +kernel) dX11_append_29 (fun H locs hP hD hS => ?_)
  obtain ⟨g_5, eg_5⟩ : ∃ g : Nat → Int32, g = upd f (Int32.toNatClampNeg 8) (vp_nar .byte f_4) := ⟨_, rfl⟩
  have hP : va_P (dC, dI) cls_ [(h0, .inr (10, [.ref qt, a1, a2, a3, a4, a5, a6, .int 8, a8, a9, a10, a11])), (qt, .inl (cB, 800, .inl g_5))] H := by rw [eg_5]; exact hP
  have hD : va_D A [(h0, .inr (10, [.ref qt, a1, a2, a3, a4, a5, a6, .int 8, a8, a9, a10, a11])), (qt, .inl (cB, 800, .inl g_5))] := by rw [eg_5]; exact hD
  refine lv_aload_n hx hb dX11_append_30 rfl (lv_at hl 1 rfl) ?_
  refine lv_dup hx hb dX11_append_31 rfl ?_
  refine va_get (D := (dC, dI)) (ci := 10) (v := .int 8) (C := RX11) (T := TX11) (N := 12) hx hb hts in_X11_append_X11 hown hK hP 0 rfl rfl 7 (by decide) (hts (.fieldLink RX11 82 "RealSolver" "onTape" "I") (List.mem_of_getElem? (i := 1) rfl)) (fun _ h9 => h9) rfl dX11_append_32 ?_
  refine lv_iconst (v := 1) hx hb dX11_append_35 (by decide) ?_
  refine lv_iadd hx hb dX11_append_36 ?_
  refine lv_topi (fun f_6 ef_6 => ?_)
  obtain rfl : f_6 = 9 := ef_6.trans (by decide)
  refine va_put (D := (dC, dI)) (ci := 10) (v := .int 9) (ty := .int) (C := RX11) (T := TX11) (N := 12) hx hb hts in_X11_append_X11 tyX11 tyX11_ok nmX11 hown hK hP hD hS 0 rfl rfl 7 (by decide) (hts (.fieldLink RX11 82 "RealSolver" "onTape" "I") (List.mem_of_getElem? (i := 1) rfl)) (fun _ h9 => h9) rfl (by decide +kernel) rfl rfl (Nat.le_of_ble_eq_true rfl) dX11_append_37 (fun H locs hP hD hS => ?_)
  have hP : va_P (dC, dI) cls_ [(h0, .inr (10, [.ref qt, a1, a2, a3, a4, a5, a6, .int 9, a8, a9, a10, a11])), (qt, .inl (cB, 800, .inl g_5))] H := hP
  have hD : va_D A [(h0, .inr (10, [.ref qt, a1, a2, a3, a4, a5, a6, .int 9, a8, a9, a10, a11])), (qt, .inl (cB, 800, .inl g_5))] := hD
  refine lv_iinc (v := 16) (lv' := [(2, .int 16), (0, .ref h0), (1, .int v)]) hx hb dX11_append_40 hl (k := 0) rfl (by decide) (by decide) rfl (fun ls hl => ?_)
  refine lv_goto (tgt := 3) hx hb dX11_append_43 (by decide) ?_
  refine lv_iload_n hx hb dX11_append_3 rfl (lv_at hl 0 rfl) ?_
  refine lv_if_lt (tgt := 46) hx hb dX11_append_4 (by decide) (fun c_7 => absurd c_7 (by decide)) (fun c_7 => ?_)
  refine lv_aload_n hx hb dX11_append_7 rfl (lv_at hl 1 rfl) ?_
  refine va_get (D := (dC, dI)) (ci := 10) (v := .int 9) (C := RX11) (T := TX11) (N := 12) hx hb hts in_X11_append_X11 hown hK hP 0 rfl rfl 7 (by decide) (hts (.fieldLink RX11 82 "RealSolver" "onTape" "I") (List.mem_of_getElem? (i := 1) rfl)) (fun _ h9 => h9) rfl dX11_append_8 ?_
  refine lv_sipush (v := 800) hx hb dX11_append_11 (by decide) ?_
  refine lv_icmp_ge (tgt := 40) hx hb dX11_append_14 (by decide) (fun c_8 => absurd c_8 (by decide)) (fun c_8 => ?_)
  refine lv_aload_n hx hb dX11_append_17 rfl (lv_at hl 1 rfl) ?_
  refine va_get (D := (dC, dI)) (ci := 10) (v := .ref qt) (C := RX11) (T := TX11) (N := 12) hx hb hts in_X11_append_X11 hown hK hP 0 rfl rfl 0 (by decide) (hts (.fieldLink RX11 9 "RealSolver" "tape" "[B") (List.mem_of_getElem? (i := 2) rfl)) (fun _ h9 => h9) rfl dX11_append_18 ?_
  refine lv_aload_n hx hb dX11_append_21 rfl (lv_at hl 1 rfl) ?_
  refine va_get (D := (dC, dI)) (ci := 10) (v := .int 9) (C := RX11) (T := TX11) (N := 12) hx hb hts in_X11_append_X11 hown hK hP 0 rfl rfl 7 (by decide) (hts (.fieldLink RX11 82 "RealSolver" "onTape" "I") (List.mem_of_getElem? (i := 1) rfl)) (fun _ h9 => h9) rfl dX11_append_22 ?_
  refine lv_iload_n hx hb dX11_append_25 rfl (lv_at hl 2 rfl) ?_
  refine lv_iload_n hx hb dX11_append_26 rfl (lv_at hl 0 rfl) ?_
  refine lv_ishr hx hb dX11_append_27 ?_
  refine lv_topi (fun f_9 ef_9 => ?_)
  refine lv_i2b hx hb dX11_append_28 rfl ?_
  refine lv_topi (fun f_10 ef_10 => ?_)
  refine va_bast hx hb hK hP hD hS 1 0 rfl rfl (by unfold vp_in; decide +kernel) dX11_append_29 (fun H locs hP hD hS => ?_)
  obtain ⟨g_11, eg_11⟩ : ∃ g : Nat → Int32, g = upd g_5 (Int32.toNatClampNeg 9) (vp_nar .byte f_10) := ⟨_, rfl⟩
  have hP : va_P (dC, dI) cls_ [(h0, .inr (10, [.ref qt, a1, a2, a3, a4, a5, a6, .int 9, a8, a9, a10, a11])), (qt, .inl (cB, 800, .inl g_11))] H := by rw [eg_11]; exact hP
  have hD : va_D A [(h0, .inr (10, [.ref qt, a1, a2, a3, a4, a5, a6, .int 9, a8, a9, a10, a11])), (qt, .inl (cB, 800, .inl g_11))] := by rw [eg_11]; exact hD
  refine lv_aload_n hx hb dX11_append_30 rfl (lv_at hl 1 rfl) ?_
  refine lv_dup hx hb dX11_append_31 rfl ?_
  refine va_get (D := (dC, dI)) (ci := 10) (v := .int 9) (C := RX11) (T := TX11) (N := 12) hx hb hts in_X11_append_X11 hown hK hP 0 rfl rfl 7 (by decide) (hts (.fieldLink RX11 82 "RealSolver" "onTape" "I") (List.mem_of_getElem? (i := 1) rfl)) (fun _ h9 => h9) rfl dX11_append_32 ?_
  refine lv_iconst (v := 1) hx hb dX11_append_35 (by decide) ?_
  refine lv_iadd hx hb dX11_append_36 ?_
  refine lv_topi (fun f_12 ef_12 => ?_)
  obtain rfl : f_12 = 10 := ef_12.trans (by decide)
  refine va_put (D := (dC, dI)) (ci := 10) (v := .int 10) (ty := .int) (C := RX11) (T := TX11) (N := 12) hx hb hts in_X11_append_X11 tyX11 tyX11_ok nmX11 hown hK hP hD hS 0 rfl rfl 7 (by decide) (hts (.fieldLink RX11 82 "RealSolver" "onTape" "I") (List.mem_of_getElem? (i := 1) rfl)) (fun _ h9 => h9) rfl (by decide +kernel) rfl rfl (Nat.le_of_ble_eq_true rfl) dX11_append_37 (fun H locs hP hD hS => ?_)
  have hP : va_P (dC, dI) cls_ [(h0, .inr (10, [.ref qt, a1, a2, a3, a4, a5, a6, .int 10, a8, a9, a10, a11])), (qt, .inl (cB, 800, .inl g_11))] H := hP
  have hD : va_D A [(h0, .inr (10, [.ref qt, a1, a2, a3, a4, a5, a6, .int 10, a8, a9, a10, a11])), (qt, .inl (cB, 800, .inl g_11))] := hD
  refine lv_iinc (v := 8) (lv' := [(2, .int 8), (0, .ref h0), (1, .int v)]) hx hb dX11_append_40 hl (k := 0) rfl (by decide) (by decide) rfl (fun ls hl => ?_)
  refine lv_goto (tgt := 3) hx hb dX11_append_43 (by decide) ?_
  refine lv_iload_n hx hb dX11_append_3 rfl (lv_at hl 0 rfl) ?_
  refine lv_if_lt (tgt := 46) hx hb dX11_append_4 (by decide) (fun c_13 => absurd c_13 (by decide)) (fun c_13 => ?_)
  refine lv_aload_n hx hb dX11_append_7 rfl (lv_at hl 1 rfl) ?_
  refine va_get (D := (dC, dI)) (ci := 10) (v := .int 10) (C := RX11) (T := TX11) (N := 12) hx hb hts in_X11_append_X11 hown hK hP 0 rfl rfl 7 (by decide) (hts (.fieldLink RX11 82 "RealSolver" "onTape" "I") (List.mem_of_getElem? (i := 1) rfl)) (fun _ h9 => h9) rfl dX11_append_8 ?_
  refine lv_sipush (v := 800) hx hb dX11_append_11 (by decide) ?_
  refine lv_icmp_ge (tgt := 40) hx hb dX11_append_14 (by decide) (fun c_14 => absurd c_14 (by decide)) (fun c_14 => ?_)
  refine lv_aload_n hx hb dX11_append_17 rfl (lv_at hl 1 rfl) ?_
  refine va_get (D := (dC, dI)) (ci := 10) (v := .ref qt) (C := RX11) (T := TX11) (N := 12) hx hb hts in_X11_append_X11 hown hK hP 0 rfl rfl 0 (by decide) (hts (.fieldLink RX11 9 "RealSolver" "tape" "[B") (List.mem_of_getElem? (i := 2) rfl)) (fun _ h9 => h9) rfl dX11_append_18 ?_
  refine lv_aload_n hx hb dX11_append_21 rfl (lv_at hl 1 rfl) ?_
  refine va_get (D := (dC, dI)) (ci := 10) (v := .int 10) (C := RX11) (T := TX11) (N := 12) hx hb hts in_X11_append_X11 hown hK hP 0 rfl rfl 7 (by decide) (hts (.fieldLink RX11 82 "RealSolver" "onTape" "I") (List.mem_of_getElem? (i := 1) rfl)) (fun _ h9 => h9) rfl dX11_append_22 ?_
  refine lv_iload_n hx hb dX11_append_25 rfl (lv_at hl 2 rfl) ?_
  refine lv_iload_n hx hb dX11_append_26 rfl (lv_at hl 0 rfl) ?_
  refine lv_ishr hx hb dX11_append_27 ?_
  refine lv_topi (fun f_15 ef_15 => ?_)
  refine lv_i2b hx hb dX11_append_28 rfl ?_
  refine lv_topi (fun f_16 ef_16 => ?_)
  refine va_bast hx hb hK hP hD hS 1 0 rfl rfl (by unfold vp_in; decide +kernel) dX11_append_29 (fun H locs hP hD hS => ?_)
  obtain ⟨g_17, eg_17⟩ : ∃ g : Nat → Int32, g = upd g_11 (Int32.toNatClampNeg 10) (vp_nar .byte f_16) := ⟨_, rfl⟩
  have hP : va_P (dC, dI) cls_ [(h0, .inr (10, [.ref qt, a1, a2, a3, a4, a5, a6, .int 10, a8, a9, a10, a11])), (qt, .inl (cB, 800, .inl g_17))] H := by rw [eg_17]; exact hP
  have hD : va_D A [(h0, .inr (10, [.ref qt, a1, a2, a3, a4, a5, a6, .int 10, a8, a9, a10, a11])), (qt, .inl (cB, 800, .inl g_17))] := by rw [eg_17]; exact hD
  refine lv_aload_n hx hb dX11_append_30 rfl (lv_at hl 1 rfl) ?_
  refine lv_dup hx hb dX11_append_31 rfl ?_
  refine va_get (D := (dC, dI)) (ci := 10) (v := .int 10) (C := RX11) (T := TX11) (N := 12) hx hb hts in_X11_append_X11 hown hK hP 0 rfl rfl 7 (by decide) (hts (.fieldLink RX11 82 "RealSolver" "onTape" "I") (List.mem_of_getElem? (i := 1) rfl)) (fun _ h9 => h9) rfl dX11_append_32 ?_
  refine lv_iconst (v := 1) hx hb dX11_append_35 (by decide) ?_
  refine lv_iadd hx hb dX11_append_36 ?_
  refine lv_topi (fun f_18 ef_18 => ?_)
  obtain rfl : f_18 = 11 := ef_18.trans (by decide)
  refine va_put (D := (dC, dI)) (ci := 10) (v := .int 11) (ty := .int) (C := RX11) (T := TX11) (N := 12) hx hb hts in_X11_append_X11 tyX11 tyX11_ok nmX11 hown hK hP hD hS 0 rfl rfl 7 (by decide) (hts (.fieldLink RX11 82 "RealSolver" "onTape" "I") (List.mem_of_getElem? (i := 1) rfl)) (fun _ h9 => h9) rfl (by decide +kernel) rfl rfl (Nat.le_of_ble_eq_true rfl) dX11_append_37 (fun H locs hP hD hS => ?_)
  have hP : va_P (dC, dI) cls_ [(h0, .inr (10, [.ref qt, a1, a2, a3, a4, a5, a6, .int 11, a8, a9, a10, a11])), (qt, .inl (cB, 800, .inl g_17))] H := hP
  have hD : va_D A [(h0, .inr (10, [.ref qt, a1, a2, a3, a4, a5, a6, .int 11, a8, a9, a10, a11])), (qt, .inl (cB, 800, .inl g_17))] := hD
  refine lv_iinc (v := 0) (lv' := [(2, .int 0), (0, .ref h0), (1, .int v)]) hx hb dX11_append_40 hl (k := 0) rfl (by decide) (by decide) rfl (fun ls hl => ?_)
  refine lv_goto (tgt := 3) hx hb dX11_append_43 (by decide) ?_
  refine lv_iload_n hx hb dX11_append_3 rfl (lv_at hl 0 rfl) ?_
  refine lv_if_lt (tgt := 46) hx hb dX11_append_4 (by decide) (fun c_19 => absurd c_19 (by decide)) (fun c_19 => ?_)
  refine lv_aload_n hx hb dX11_append_7 rfl (lv_at hl 1 rfl) ?_
  refine va_get (D := (dC, dI)) (ci := 10) (v := .int 11) (C := RX11) (T := TX11) (N := 12) hx hb hts in_X11_append_X11 hown hK hP 0 rfl rfl 7 (by decide) (hts (.fieldLink RX11 82 "RealSolver" "onTape" "I") (List.mem_of_getElem? (i := 1) rfl)) (fun _ h9 => h9) rfl dX11_append_8 ?_
  refine lv_sipush (v := 800) hx hb dX11_append_11 (by decide) ?_
  refine lv_icmp_ge (tgt := 40) hx hb dX11_append_14 (by decide) (fun c_20 => absurd c_20 (by decide)) (fun c_20 => ?_)
  refine lv_aload_n hx hb dX11_append_17 rfl (lv_at hl 1 rfl) ?_
  refine va_get (D := (dC, dI)) (ci := 10) (v := .ref qt) (C := RX11) (T := TX11) (N := 12) hx hb hts in_X11_append_X11 hown hK hP 0 rfl rfl 0 (by decide) (hts (.fieldLink RX11 9 "RealSolver" "tape" "[B") (List.mem_of_getElem? (i := 2) rfl)) (fun _ h9 => h9) rfl dX11_append_18 ?_
  refine lv_aload_n hx hb dX11_append_21 rfl (lv_at hl 1 rfl) ?_
  refine va_get (D := (dC, dI)) (ci := 10) (v := .int 11) (C := RX11) (T := TX11) (N := 12) hx hb hts in_X11_append_X11 hown hK hP 0 rfl rfl 7 (by decide) (hts (.fieldLink RX11 82 "RealSolver" "onTape" "I") (List.mem_of_getElem? (i := 1) rfl)) (fun _ h9 => h9) rfl dX11_append_22 ?_
  refine lv_iload_n hx hb dX11_append_25 rfl (lv_at hl 2 rfl) ?_
  refine lv_iload_n hx hb dX11_append_26 rfl (lv_at hl 0 rfl) ?_
  refine lv_ishr hx hb dX11_append_27 ?_
  refine lv_topi (fun f_21 ef_21 => ?_)
  refine lv_i2b hx hb dX11_append_28 rfl ?_
  refine lv_topi (fun f_22 ef_22 => ?_)
  refine va_bast hx hb hK hP hD hS 1 0 rfl rfl (by unfold vp_in; decide +kernel) dX11_append_29 (fun H locs hP hD hS => ?_)
  obtain ⟨g_23, eg_23⟩ : ∃ g : Nat → Int32, g = upd g_17 (Int32.toNatClampNeg 11) (vp_nar .byte f_22) := ⟨_, rfl⟩
  have hP : va_P (dC, dI) cls_ [(h0, .inr (10, [.ref qt, a1, a2, a3, a4, a5, a6, .int 11, a8, a9, a10, a11])), (qt, .inl (cB, 800, .inl g_23))] H := by rw [eg_23]; exact hP
  have hD : va_D A [(h0, .inr (10, [.ref qt, a1, a2, a3, a4, a5, a6, .int 11, a8, a9, a10, a11])), (qt, .inl (cB, 800, .inl g_23))] := by rw [eg_23]; exact hD
  refine lv_aload_n hx hb dX11_append_30 rfl (lv_at hl 1 rfl) ?_
  refine lv_dup hx hb dX11_append_31 rfl ?_
  refine va_get (D := (dC, dI)) (ci := 10) (v := .int 11) (C := RX11) (T := TX11) (N := 12) hx hb hts in_X11_append_X11 hown hK hP 0 rfl rfl 7 (by decide) (hts (.fieldLink RX11 82 "RealSolver" "onTape" "I") (List.mem_of_getElem? (i := 1) rfl)) (fun _ h9 => h9) rfl dX11_append_32 ?_
  refine lv_iconst (v := 1) hx hb dX11_append_35 (by decide) ?_
  refine lv_iadd hx hb dX11_append_36 ?_
  refine lv_topi (fun f_24 ef_24 => ?_)
  obtain rfl : f_24 = 12 := ef_24.trans (by decide)
  refine va_put (D := (dC, dI)) (ci := 10) (v := .int 12) (ty := .int) (C := RX11) (T := TX11) (N := 12) hx hb hts in_X11_append_X11 tyX11 tyX11_ok nmX11 hown hK hP hD hS 0 rfl rfl 7 (by decide) (hts (.fieldLink RX11 82 "RealSolver" "onTape" "I") (List.mem_of_getElem? (i := 1) rfl)) (fun _ h9 => h9) rfl (by decide +kernel) rfl rfl (Nat.le_of_ble_eq_true rfl) dX11_append_37 (fun H locs hP hD hS => ?_)
  have hP : va_P (dC, dI) cls_ [(h0, .inr (10, [.ref qt, a1, a2, a3, a4, a5, a6, .int 12, a8, a9, a10, a11])), (qt, .inl (cB, 800, .inl g_23))] H := hP
  have hD : va_D A [(h0, .inr (10, [.ref qt, a1, a2, a3, a4, a5, a6, .int 12, a8, a9, a10, a11])), (qt, .inl (cB, 800, .inl g_23))] := hD
  refine lv_iinc (v := (-8)) (lv' := [(2, .int (-8)), (0, .ref h0), (1, .int v)]) hx hb dX11_append_40 hl (k := 0) rfl (by decide) (by decide) rfl (fun ls hl => ?_)
  refine lv_goto (tgt := 3) hx hb dX11_append_43 (by decide) ?_
  refine lv_iload_n hx hb dX11_append_3 rfl (lv_at hl 0 rfl) ?_
  refine lv_if_lt (tgt := 46) hx hb dX11_append_4 (by decide) (fun c_25 => ?_) (fun c_25 => absurd (by decide) c_25)
  refine W.widen (k := 0) (n := 0) (Nat.le_of_ble_eq_true rfl) (Nat.le_of_ble_eq_true rfl) ?_
  have hP9 := hP.sub (ws' := [(h0, .inr (10, [.ref qt, a1, a2, a3, a4, a5, a6, .int 12, a8, a9, a10, a11])), (qt, .inl (cB, 800, .inl g_23))]) [0, 1] rfl
  have hD9 := hD.sub (ws' := [(h0, .inr (10, [.ref qt, a1, a2, a3, a4, a5, a6, .int 12, a8, a9, a10, a11])), (qt, .inl (cB, 800, .inl g_23))]) [0, 1] (by decide) rfl
  have hK9 := hK.sub (tys' := []) [] rfl
  exact W.vret hx hb hr (fun t ht hW => ⟨⟨(), rfl, trivial, ⟨g_23, by rw [ht]; exact hP9, va_K.moved hW.alike hK9, hD9⟩⟩, hS.F ht⟩) hS.2.2 dX11_append_46
set_option maxHeartbeats 4000000 in
set_option maxRecDepth 100000 in
theorem k_X11_append_12 (l : Launch) (dC : Nat → ClassId) (dI : Nat → Nat → Nat) (h0 : Nat) (a1 : Value) (a2 : Value) (a3 : Value) (a4 : Value) (a5 : Value) (a6 : Value) (a8 : Value) (a9 : Value) (a10 : Value) (a11 : Value) (qt : Nat) (cB : ClassId) (f : Nat → Int32) (v : Int32) (sz : Nat) : Met l yX11_append w_X11_append ({ frames := 0, cells := 0, slots := 0, locals := 0 }) (va_Pc [.ref h0, .int v] (fun U => U.heap.size = sz ∧ va_P (dC, dI) cls_ [(h0, .inr (10, [.ref qt, a1, a2, a3, a4, a5, a6, .int 12, a8, a9, a10, a11])), (qt, .inl (cB, 800, .inl f))] U.heap ∧ va_K (dC, dI) cls_ [(cB, .byte)] U ∧ va_D (fun _ => True) [(h0, .inr (10, [.ref qt, a1, a2, a3, a4, a5, a6, .int 12, a8, a9, a10, a11])), (qt, .inl (cB, 800, .inl f))] ∧ nx_ U)) (va_Qv (fun _ : Unit => True) (fun _ t => ∃ (f9 : Nat → Int32), va_P (dC, dI) cls_ [(h0, .inr (10, [.ref qt, a1, a2, a3, a4, a5, a6, .int 16, a8, a9, a10, a11])), (qt, .inl (cB, 800, .inl f9))] t.heap ∧ va_K (dC, dI) cls_ [] t ∧ va_D (va_A [(h0, .inr (10, [.ref qt, a1, a2, a3, a4, a5, a6, .int 12, a8, a9, a10, a11])), (qt, .inl (cB, 800, .inl f))] sz) [(h0, .inr (10, [.ref qt, a1, a2, a3, a4, a5, a6, .int 16, a8, a9, a10, a11])), (qt, .inl (cB, 800, .inl f9))]) (va_A [(h0, .inr (10, [.ref qt, a1, a2, a3, a4, a5, a6, .int 12, a8, a9, a10, a11])), (qt, .inl (cB, 800, .inl f))] sz)) 0 0 (va_A [(h0, .inr (10, [.ref qt, a1, a2, a3, a4, a5, a6, .int 12, a8, a9, a10, a11])), (qt, .inl (cB, 800, .inl f))] sz) := by
  refine Met.ofW (cc := cX11_append) (maxL := 3) (ret := none) (by decide) rfl ?_
  intro p e s m args below meth c s₁ B hml hv
  obtain ⟨rfl, hsz, hP, hK, hD0, hNx⟩ := hv
  have hx := B.exec
  have hb := B.bytes
  have hr := B.returns
  have hts := atoms_spec (ws := w_X11_append) B.pre
  have hown : s.vm.findClass RX11 = some m.cls := findClass_of_methodNamed B.named
  have hlocks := B.notSynchronized
  subst hsz
  have hD := hD0.self (sz := s.heap.size)
  generalize hAe : va_A [(h0, .inr (10, [.ref qt, a1, a2, a3, a4, a5, a6, .int 12, a8, a9, a10, a11])), (qt, .inl (cB, 800, .inl f))] s.heap.size = A at hD ⊢
  have hA : ∀ q : Nat, s.heap.size ≤ q → A q := fun q h => by rw [← hAe]; exact Or.inr h
  have hS : va_S A s.heap s.heap [] := va_S.rf
  have hP : va_P (dC, dI) cls_ [(h0, .inr (10, [.ref qt, a1, a2, a3, a4, a5, a6, .int 12, a8, a9, a10, a11])), (qt, .inl (cB, 800, .inl f))] s.heap := hP
  have hl := lv_entry ([.ref h0, .int v]) (n := 3) (Nat.le_of_ble_eq_true rfl)
  rw [lg_entry_eq]
  generalize (lg_sl ([.ref h0, .int v]) ++ List.replicate (3 - (lg_sl ([.ref h0, .int v])).length) Slot.unset).toArray = ls at hl ⊢
  have hl : lv_has ls 3 [(0, .ref h0), (1, .int v)] := hl
  refine lv_bipush (v := 24) hx hb dX11_append_0 (by decide) ?_
  refine lv_istore_n (lv' := [(2, .int 24), (0, .ref h0), (1, .int v)]) hx hb dX11_append_2 rfl hl (by decide) rfl (fun ls hl => ?_)
  refine lv_iload_n hx hb dX11_append_3 rfl (lv_at hl 0 rfl) ?_
  refine lv_if_lt (tgt := 46) hx hb dX11_append_4 (by decide) (fun c_1 => absurd c_1 (by decide)) (fun c_1 => ?_)
  refine lv_aload_n hx hb dX11_append_7 rfl (lv_at hl 1 rfl) ?_
  refine va_get (D := (dC, dI)) (ci := 10) (v := .int 12) (C := RX11) (T := TX11) (N := 12) hx hb hts in_X11_append_X11 hown hK hP 0 rfl rfl 7 (by decide) (hts (.fieldLink RX11 82 "RealSolver" "onTape" "I") (List.mem_of_getElem? (i := 1) rfl)) (fun _ h9 => h9) rfl dX11_append_8 ?_
  refine lv_sipush (v := 800) hx hb dX11_append_11 (by decide) ?_
  refine lv_icmp_ge (tgt := 40) hx hb dX11_append_14 (by decide) (fun c_2 => absurd c_2 (by decide)) (fun c_2 => ?_)
  refine lv_aload_n hx hb dX11_append_17 rfl (lv_at hl 1 rfl) ?_
  refine va_get (D := (dC, dI)) (ci := 10) (v := .ref qt) (C := RX11) (T := TX11) (N := 12) hx hb hts in_X11_append_X11 hown hK hP 0 rfl rfl 0 (by decide) (hts (.fieldLink RX11 9 "RealSolver" "tape" "[B") (List.mem_of_getElem? (i := 2) rfl)) (fun _ h9 => h9) rfl dX11_append_18 ?_
  refine lv_aload_n hx hb dX11_append_21 rfl (lv_at hl 1 rfl) ?_
  refine va_get (D := (dC, dI)) (ci := 10) (v := .int 12) (C := RX11) (T := TX11) (N := 12) hx hb hts in_X11_append_X11 hown hK hP 0 rfl rfl 7 (by decide) (hts (.fieldLink RX11 82 "RealSolver" "onTape" "I") (List.mem_of_getElem? (i := 1) rfl)) (fun _ h9 => h9) rfl dX11_append_22 ?_
  refine lv_iload_n hx hb dX11_append_25 rfl (lv_at hl 2 rfl) ?_
  refine lv_iload_n hx hb dX11_append_26 rfl (lv_at hl 0 rfl) ?_
  refine lv_ishr hx hb dX11_append_27 ?_
  refine lv_topi (fun f_3 ef_3 => ?_)
  refine lv_i2b hx hb dX11_append_28 rfl ?_
  refine lv_topi (fun f_4 ef_4 => ?_)
  refine va_bast hx hb hK hP hD hS 1 0 rfl rfl (by unfold vp_in; decide +kernel) dX11_append_29 (fun H locs hP hD hS => ?_)
  obtain ⟨g_5, eg_5⟩ : ∃ g : Nat → Int32, g = upd f (Int32.toNatClampNeg 12) (vp_nar .byte f_4) := ⟨_, rfl⟩
  have hP : va_P (dC, dI) cls_ [(h0, .inr (10, [.ref qt, a1, a2, a3, a4, a5, a6, .int 12, a8, a9, a10, a11])), (qt, .inl (cB, 800, .inl g_5))] H := by rw [eg_5]; exact hP
  have hD : va_D A [(h0, .inr (10, [.ref qt, a1, a2, a3, a4, a5, a6, .int 12, a8, a9, a10, a11])), (qt, .inl (cB, 800, .inl g_5))] := by rw [eg_5]; exact hD
  refine lv_aload_n hx hb dX11_append_30 rfl (lv_at hl 1 rfl) ?_
  refine lv_dup hx hb dX11_append_31 rfl ?_
  refine va_get (D := (dC, dI)) (ci := 10) (v := .int 12) (C := RX11) (T := TX11) (N := 12) hx hb hts in_X11_append_X11 hown hK hP 0 rfl rfl 7 (by decide) (hts (.fieldLink RX11 82 "RealSolver" "onTape" "I") (List.mem_of_getElem? (i := 1) rfl)) (fun _ h9 => h9) rfl dX11_append_32 ?_
  refine lv_iconst (v := 1) hx hb dX11_append_35 (by decide) ?_
  refine lv_iadd hx hb dX11_append_36 ?_
  refine lv_topi (fun f_6 ef_6 => ?_)
  obtain rfl : f_6 = 13 := ef_6.trans (by decide)
  refine va_put (D := (dC, dI)) (ci := 10) (v := .int 13) (ty := .int) (C := RX11) (T := TX11) (N := 12) hx hb hts in_X11_append_X11 tyX11 tyX11_ok nmX11 hown hK hP hD hS 0 rfl rfl 7 (by decide) (hts (.fieldLink RX11 82 "RealSolver" "onTape" "I") (List.mem_of_getElem? (i := 1) rfl)) (fun _ h9 => h9) rfl (by decide +kernel) rfl rfl (Nat.le_of_ble_eq_true rfl) dX11_append_37 (fun H locs hP hD hS => ?_)
  have hP : va_P (dC, dI) cls_ [(h0, .inr (10, [.ref qt, a1, a2, a3, a4, a5, a6, .int 13, a8, a9, a10, a11])), (qt, .inl (cB, 800, .inl g_5))] H := hP
  have hD : va_D A [(h0, .inr (10, [.ref qt, a1, a2, a3, a4, a5, a6, .int 13, a8, a9, a10, a11])), (qt, .inl (cB, 800, .inl g_5))] := hD
  refine lv_iinc (v := 16) (lv' := [(2, .int 16), (0, .ref h0), (1, .int v)]) hx hb dX11_append_40 hl (k := 0) rfl (by decide) (by decide) rfl (fun ls hl => ?_)
  refine lv_goto (tgt := 3) hx hb dX11_append_43 (by decide) ?_
  refine lv_iload_n hx hb dX11_append_3 rfl (lv_at hl 0 rfl) ?_
  refine lv_if_lt (tgt := 46) hx hb dX11_append_4 (by decide) (fun c_7 => absurd c_7 (by decide)) (fun c_7 => ?_)
  refine lv_aload_n hx hb dX11_append_7 rfl (lv_at hl 1 rfl) ?_
  refine va_get (D := (dC, dI)) (ci := 10) (v := .int 13) (C := RX11) (T := TX11) (N := 12) hx hb hts in_X11_append_X11 hown hK hP 0 rfl rfl 7 (by decide) (hts (.fieldLink RX11 82 "RealSolver" "onTape" "I") (List.mem_of_getElem? (i := 1) rfl)) (fun _ h9 => h9) rfl dX11_append_8 ?_
  refine lv_sipush (v := 800) hx hb dX11_append_11 (by decide) ?_
  refine lv_icmp_ge (tgt := 40) hx hb dX11_append_14 (by decide) (fun c_8 => absurd c_8 (by decide)) (fun c_8 => ?_)
  refine lv_aload_n hx hb dX11_append_17 rfl (lv_at hl 1 rfl) ?_
  refine va_get (D := (dC, dI)) (ci := 10) (v := .ref qt) (C := RX11) (T := TX11) (N := 12) hx hb hts in_X11_append_X11 hown hK hP 0 rfl rfl 0 (by decide) (hts (.fieldLink RX11 9 "RealSolver" "tape" "[B") (List.mem_of_getElem? (i := 2) rfl)) (fun _ h9 => h9) rfl dX11_append_18 ?_
  refine lv_aload_n hx hb dX11_append_21 rfl (lv_at hl 1 rfl) ?_
  refine va_get (D := (dC, dI)) (ci := 10) (v := .int 13) (C := RX11) (T := TX11) (N := 12) hx hb hts in_X11_append_X11 hown hK hP 0 rfl rfl 7 (by decide) (hts (.fieldLink RX11 82 "RealSolver" "onTape" "I") (List.mem_of_getElem? (i := 1) rfl)) (fun _ h9 => h9) rfl dX11_append_22 ?_
  refine lv_iload_n hx hb dX11_append_25 rfl (lv_at hl 2 rfl) ?_
  refine lv_iload_n hx hb dX11_append_26 rfl (lv_at hl 0 rfl) ?_
  refine lv_ishr hx hb dX11_append_27 ?_
  refine lv_topi (fun f_9 ef_9 => ?_)
  refine lv_i2b hx hb dX11_append_28 rfl ?_
  refine lv_topi (fun f_10 ef_10 => ?_)
  refine va_bast hx hb hK hP hD hS 1 0 rfl rfl (by unfold vp_in; decide +kernel) dX11_append_29 (fun H locs hP hD hS => ?_)
  obtain ⟨g_11, eg_11⟩ : ∃ g : Nat → Int32, g = upd g_5 (Int32.toNatClampNeg 13) (vp_nar .byte f_10) := ⟨_, rfl⟩
  have hP : va_P (dC, dI) cls_ [(h0, .inr (10, [.ref qt, a1, a2, a3, a4, a5, a6, .int 13, a8, a9, a10, a11])), (qt, .inl (cB, 800, .inl g_11))] H := by rw [eg_11]; exact hP
  have hD : va_D A [(h0, .inr (10, [.ref qt, a1, a2, a3, a4, a5, a6, .int 13, a8, a9, a10, a11])), (qt, .inl (cB, 800, .inl g_11))] := by rw [eg_11]; exact hD
  refine lv_aload_n hx hb dX11_append_30 rfl (lv_at hl 1 rfl) ?_
  refine lv_dup hx hb dX11_append_31 rfl ?_
  refine va_get (D := (dC, dI)) (ci := 10) (v := .int 13) (C := RX11) (T := TX11) (N := 12) hx hb hts in_X11_append_X11 hown hK hP 0 rfl rfl 7 (by decide) (hts (.fieldLink RX11 82 "RealSolver" "onTape" "I") (List.mem_of_getElem? (i := 1) rfl)) (fun _ h9 => h9) rfl dX11_append_32 ?_
  refine lv_iconst (v := 1) hx hb dX11_append_35 (by decide) ?_
  refine lv_iadd hx hb dX11_append_36 ?_
  refine lv_topi (fun f_12 ef_12 => ?_)
  obtain rfl : f_12 = 14 := ef_12.trans (by decide)
  refine va_put (D := (dC, dI)) (ci := 10) (v := .int 14) (ty := .int) (C := RX11) (T := TX11) (N := 12) hx hb hts in_X11_append_X11 tyX11 tyX11_ok nmX11 hown hK hP hD hS 0 rfl rfl 7 (by decide) (hts (.fieldLink RX11 82 "RealSolver" "onTape" "I") (List.mem_of_getElem? (i := 1) rfl)) (fun _ h9 => h9) rfl (by decide +kernel) rfl rfl (Nat.le_of_ble_eq_true rfl) dX11_append_37 (fun H locs hP hD hS => ?_)
  have hP : va_P (dC, dI) cls_ [(h0, .inr (10, [.ref qt, a1, a2, a3, a4, a5, a6, .int 14, a8, a9, a10, a11])), (qt, .inl (cB, 800, .inl g_11))] H := hP
  have hD : va_D A [(h0, .inr (10, [.ref qt, a1, a2, a3, a4, a5, a6, .int 14, a8, a9, a10, a11])), (qt, .inl (cB, 800, .inl g_11))] := hD
  refine lv_iinc (v := 8) (lv' := [(2, .int 8), (0, .ref h0), (1, .int v)]) hx hb dX11_append_40 hl (k := 0) rfl (by decide) (by decide) rfl (fun ls hl => ?_)
  refine lv_goto (tgt := 3) hx hb dX11_append_43 (by decide) ?_
  refine lv_iload_n hx hb dX11_append_3 rfl (lv_at hl 0 rfl) ?_
  refine lv_if_lt (tgt := 46) hx hb dX11_append_4 (by decide) (fun c_13 => absurd c_13 (by decide)) (fun c_13 => ?_)
  refine lv_aload_n hx hb dX11_append_7 rfl (lv_at hl 1 rfl) ?_
  refine va_get (D := (dC, dI)) (ci := 10) (v := .int 14) (C := RX11) (T := TX11) (N := 12) hx hb hts in_X11_append_X11 hown hK hP 0 rfl rfl 7 (by decide) (hts (.fieldLink RX11 82 "RealSolver" "onTape" "I") (List.mem_of_getElem? (i := 1) rfl)) (fun _ h9 => h9) rfl dX11_append_8 ?_
  refine lv_sipush (v := 800) hx hb dX11_append_11 (by decide) ?_
  refine lv_icmp_ge (tgt := 40) hx hb dX11_append_14 (by decide) (fun c_14 => absurd c_14 (by decide)) (fun c_14 => ?_)
  refine lv_aload_n hx hb dX11_append_17 rfl (lv_at hl 1 rfl) ?_
  refine va_get (D := (dC, dI)) (ci := 10) (v := .ref qt) (C := RX11) (T := TX11) (N := 12) hx hb hts in_X11_append_X11 hown hK hP 0 rfl rfl 0 (by decide) (hts (.fieldLink RX11 9 "RealSolver" "tape" "[B") (List.mem_of_getElem? (i := 2) rfl)) (fun _ h9 => h9) rfl dX11_append_18 ?_
  refine lv_aload_n hx hb dX11_append_21 rfl (lv_at hl 1 rfl) ?_
  refine va_get (D := (dC, dI)) (ci := 10) (v := .int 14) (C := RX11) (T := TX11) (N := 12) hx hb hts in_X11_append_X11 hown hK hP 0 rfl rfl 7 (by decide) (hts (.fieldLink RX11 82 "RealSolver" "onTape" "I") (List.mem_of_getElem? (i := 1) rfl)) (fun _ h9 => h9) rfl dX11_append_22 ?_
  refine lv_iload_n hx hb dX11_append_25 rfl (lv_at hl 2 rfl) ?_
  refine lv_iload_n hx hb dX11_append_26 rfl (lv_at hl 0 rfl) ?_
  refine lv_ishr hx hb dX11_append_27 ?_
  refine lv_topi (fun f_15 ef_15 => ?_)
  refine lv_i2b hx hb dX11_append_28 rfl ?_
  refine lv_topi (fun f_16 ef_16 => ?_)
  refine va_bast hx hb hK hP hD hS 1 0 rfl rfl (by unfold vp_in; decide +kernel) dX11_append_29 (fun H locs hP hD hS => ?_)
  obtain ⟨g_17, eg_17⟩ : ∃ g : Nat → Int32, g = upd g_11 (Int32.toNatClampNeg 14) (vp_nar .byte f_16) := ⟨_, rfl⟩
  have hP : va_P (dC, dI) cls_ [(h0, .inr (10, [.ref qt, a1, a2, a3, a4, a5, a6, .int 14, a8, a9, a10, a11])), (qt, .inl (cB, 800, .inl g_17))] H := by rw [eg_17]; exact hP
  have hD : va_D A [(h0, .inr (10, [.ref qt, a1, a2, a3, a4, a5, a6, .int 14, a8, a9, a10, a11])), (qt, .inl (cB, 800, .inl g_17))] := by rw [eg_17]; exact hD
  refine lv_aload_n hx hb dX11_append_30 rfl (lv_at hl 1 rfl) ?_
  refine lv_dup hx hb dX11_append_31 rfl ?_
  refine va_get (D := (dC, dI)) (ci := 10) (v := .int 14) (C := RX11) (T := TX11) (N := 12) hx hb hts in_X11_append_X11 hown hK hP 0 rfl rfl 7 (by decide) (hts (.fieldLink RX11 82 "RealSolver" "onTape" "I") (List.mem_of_getElem? (i := 1) rfl)) (fun _ h9 => h9) rfl dX11_append_32 ?_
  refine lv_iconst (v := 1) hx hb dX11_append_35 (by decide) ?_
  refine lv_iadd hx hb dX11_append_36 ?_
  refine lv_topi (fun f_18 ef_18 => ?_)
  obtain rfl : f_18 = 15 := ef_18.trans (by decide)
  refine va_put (D := (dC, dI)) (ci := 10) (v := .int 15) (ty := .int) (C := RX11) (T := TX11) (N := 12) hx hb hts in_X11_append_X11 tyX11 tyX11_ok nmX11 hown hK hP hD hS 0 rfl rfl 7 (by decide) (hts (.fieldLink RX11 82 "RealSolver" "onTape" "I") (List.mem_of_getElem? (i := 1) rfl)) (fun _ h9 => h9) rfl (by decide +kernel) rfl rfl (Nat.le_of_ble_eq_true rfl) dX11_append_37 (fun H locs hP hD hS => ?_)
  have hP : va_P (dC, dI) cls_ [(h0, .inr (10, [.ref qt, a1, a2, a3, a4, a5, a6, .int 15, a8, a9, a10, a11])), (qt, .inl (cB, 800, .inl g_17))] H := hP
  have hD : va_D A [(h0, .inr (10, [.ref qt, a1, a2, a3, a4, a5, a6, .int 15, a8, a9, a10, a11])), (qt, .inl (cB, 800, .inl g_17))] := hD
  refine lv_iinc (v := 0) (lv' := [(2, .int 0), (0, .ref h0), (1, .int v)]) hx hb dX11_append_40 hl (k := 0) rfl (by decide) (by decide) rfl (fun ls hl => ?_)
  refine lv_goto (tgt := 3) hx hb dX11_append_43 (by decide) ?_
  refine lv_iload_n hx hb dX11_append_3 rfl (lv_at hl 0 rfl) ?_
  refine lv_if_lt (tgt := 46) hx hb dX11_append_4 (by decide) (fun c_19 => absurd c_19 (by decide)) (fun c_19 => ?_)
  refine lv_aload_n hx hb dX11_append_7 rfl (lv_at hl 1 rfl) ?_
  refine va_get (D := (dC, dI)) (ci := 10) (v := .int 15) (C := RX11) (T := TX11) (N := 12) hx hb hts in_X11_append_X11 hown hK hP 0 rfl rfl 7 (by decide) (hts (.fieldLink RX11 82 "RealSolver" "onTape" "I") (List.mem_of_getElem? (i := 1) rfl)) (fun _ h9 => h9) rfl dX11_append_8 ?_
  refine lv_sipush (v := 800) hx hb dX11_append_11 (by decide) ?_
  refine lv_icmp_ge (tgt := 40) hx hb dX11_append_14 (by decide) (fun c_20 => absurd c_20 (by decide)) (fun c_20 => ?_)
  refine lv_aload_n hx hb dX11_append_17 rfl (lv_at hl 1 rfl) ?_
  refine va_get (D := (dC, dI)) (ci := 10) (v := .ref qt) (C := RX11) (T := TX11) (N := 12) hx hb hts in_X11_append_X11 hown hK hP 0 rfl rfl 0 (by decide) (hts (.fieldLink RX11 9 "RealSolver" "tape" "[B") (List.mem_of_getElem? (i := 2) rfl)) (fun _ h9 => h9) rfl dX11_append_18 ?_
  refine lv_aload_n hx hb dX11_append_21 rfl (lv_at hl 1 rfl) ?_
  refine va_get (D := (dC, dI)) (ci := 10) (v := .int 15) (C := RX11) (T := TX11) (N := 12) hx hb hts in_X11_append_X11 hown hK hP 0 rfl rfl 7 (by decide) (hts (.fieldLink RX11 82 "RealSolver" "onTape" "I") (List.mem_of_getElem? (i := 1) rfl)) (fun _ h9 => h9) rfl dX11_append_22 ?_
  refine lv_iload_n hx hb dX11_append_25 rfl (lv_at hl 2 rfl) ?_
  refine lv_iload_n hx hb dX11_append_26 rfl (lv_at hl 0 rfl) ?_
  refine lv_ishr hx hb dX11_append_27 ?_
  refine lv_topi (fun f_21 ef_21 => ?_)
  refine lv_i2b hx hb dX11_append_28 rfl ?_
  refine lv_topi (fun f_22 ef_22 => ?_)
  refine va_bast hx hb hK hP hD hS 1 0 rfl rfl (by unfold vp_in; decide +kernel) dX11_append_29 (fun H locs hP hD hS => ?_)
  obtain ⟨g_23, eg_23⟩ : ∃ g : Nat → Int32, g = upd g_17 (Int32.toNatClampNeg 15) (vp_nar .byte f_22) := ⟨_, rfl⟩
  have hP : va_P (dC, dI) cls_ [(h0, .inr (10, [.ref qt, a1, a2, a3, a4, a5, a6, .int 15, a8, a9, a10, a11])), (qt, .inl (cB, 800, .inl g_23))] H := by rw [eg_23]; exact hP
  have hD : va_D A [(h0, .inr (10, [.ref qt, a1, a2, a3, a4, a5, a6, .int 15, a8, a9, a10, a11])), (qt, .inl (cB, 800, .inl g_23))] := by rw [eg_23]; exact hD
  refine lv_aload_n hx hb dX11_append_30 rfl (lv_at hl 1 rfl) ?_
  refine lv_dup hx hb dX11_append_31 rfl ?_
  refine va_get (D := (dC, dI)) (ci := 10) (v := .int 15) (C := RX11) (T := TX11) (N := 12) hx hb hts in_X11_append_X11 hown hK hP 0 rfl rfl 7 (by decide) (hts (.fieldLink RX11 82 "RealSolver" "onTape" "I") (List.mem_of_getElem? (i := 1) rfl)) (fun _ h9 => h9) rfl dX11_append_32 ?_
  refine lv_iconst (v := 1) hx hb dX11_append_35 (by decide) ?_
  refine lv_iadd hx hb dX11_append_36 ?_
  refine lv_topi (fun f_24 ef_24 => ?_)
  obtain rfl : f_24 = 16 := ef_24.trans (by decide)
  refine va_put (D := (dC, dI)) (ci := 10) (v := .int 16) (ty := .int) (C := RX11) (T := TX11) (N := 12) hx hb hts in_X11_append_X11 tyX11 tyX11_ok nmX11 hown hK hP hD hS 0 rfl rfl 7 (by decide) (hts (.fieldLink RX11 82 "RealSolver" "onTape" "I") (List.mem_of_getElem? (i := 1) rfl)) (fun _ h9 => h9) rfl (by decide +kernel) rfl rfl (Nat.le_of_ble_eq_true rfl) dX11_append_37 (fun H locs hP hD hS => ?_)
  have hP : va_P (dC, dI) cls_ [(h0, .inr (10, [.ref qt, a1, a2, a3, a4, a5, a6, .int 16, a8, a9, a10, a11])), (qt, .inl (cB, 800, .inl g_23))] H := hP
  have hD : va_D A [(h0, .inr (10, [.ref qt, a1, a2, a3, a4, a5, a6, .int 16, a8, a9, a10, a11])), (qt, .inl (cB, 800, .inl g_23))] := hD
  refine lv_iinc (v := (-8)) (lv' := [(2, .int (-8)), (0, .ref h0), (1, .int v)]) hx hb dX11_append_40 hl (k := 0) rfl (by decide) (by decide) rfl (fun ls hl => ?_)
  refine lv_goto (tgt := 3) hx hb dX11_append_43 (by decide) ?_
  refine lv_iload_n hx hb dX11_append_3 rfl (lv_at hl 0 rfl) ?_
  refine lv_if_lt (tgt := 46) hx hb dX11_append_4 (by decide) (fun c_25 => ?_) (fun c_25 => absurd (by decide) c_25)
  refine W.widen (k := 0) (n := 0) (Nat.le_of_ble_eq_true rfl) (Nat.le_of_ble_eq_true rfl) ?_
  have hP9 := hP.sub (ws' := [(h0, .inr (10, [.ref qt, a1, a2, a3, a4, a5, a6, .int 16, a8, a9, a10, a11])), (qt, .inl (cB, 800, .inl g_23))]) [0, 1] rfl
  have hD9 := hD.sub (ws' := [(h0, .inr (10, [.ref qt, a1, a2, a3, a4, a5, a6, .int 16, a8, a9, a10, a11])), (qt, .inl (cB, 800, .inl g_23))]) [0, 1] (by decide) rfl
  have hK9 := hK.sub (tys' := []) [] rfl
  exact W.vret hx hb hr (fun t ht hW => ⟨⟨(), rfl, trivial, ⟨g_23, by rw [ht]; exact hP9, va_K.moved hW.alike hK9, hD9⟩⟩, hS.F ht⟩) hS.2.2 dX11_append_46
set_option maxHeartbeats 4000000 in
set_option maxRecDepth 100000 in
theorem k_X11_append_16 (l : Launch) (dC : Nat → ClassId) (dI : Nat → Nat → Nat) (h0 : Nat) (a1 : Value) (a2 : Value) (a3 : Value) (a4 : Value) (a5 : Value) (a6 : Value) (a8 : Value) (a9 : Value) (a10 : Value) (a11 : Value) (qt : Nat) (cB : ClassId) (f : Nat → Int32) (v : Int32) (sz : Nat) : Met l yX11_append w_X11_append ({ frames := 0, cells := 0, slots := 0, locals := 0 }) (va_Pc [.ref h0, .int v] (fun U => U.heap.size = sz ∧ va_P (dC, dI) cls_ [(h0, .inr (10, [.ref qt, a1, a2, a3, a4, a5, a6, .int 16, a8, a9, a10, a11])), (qt, .inl (cB, 800, .inl f))] U.heap ∧ va_K (dC, dI) cls_ [(cB, .byte)] U ∧ va_D (fun _ => True) [(h0, .inr (10, [.ref qt, a1, a2, a3, a4, a5, a6, .int 16, a8, a9, a10, a11])), (qt, .inl (cB, 800, .inl f))] ∧ nx_ U)) (va_Qv (fun _ : Unit => True) (fun _ t => ∃ (f9 : Nat → Int32), va_P (dC, dI) cls_ [(h0, .inr (10, [.ref qt, a1, a2, a3, a4, a5, a6, .int 20, a8, a9, a10, a11])), (qt, .inl (cB, 800, .inl f9))] t.heap ∧ va_K (dC, dI) cls_ [] t ∧ va_D (va_A [(h0, .inr (10, [.ref qt, a1, a2, a3, a4, a5, a6, .int 16, a8, a9, a10, a11])), (qt, .inl (cB, 800, .inl f))] sz) [(h0, .inr (10, [.ref qt, a1, a2, a3, a4, a5, a6, .int 20, a8, a9, a10, a11])), (qt, .inl (cB, 800, .inl f9))]) (va_A [(h0, .inr (10, [.ref qt, a1, a2, a3, a4, a5, a6, .int 16, a8, a9, a10, a11])), (qt, .inl (cB, 800, .inl f))] sz)) 0 0 (va_A [(h0, .inr (10, [.ref qt, a1, a2, a3, a4, a5, a6, .int 16, a8, a9, a10, a11])), (qt, .inl (cB, 800, .inl f))] sz) := by
  refine Met.ofW (cc := cX11_append) (maxL := 3) (ret := none) (by decide) rfl ?_
  intro p e s m args below meth c s₁ B hml hv
  obtain ⟨rfl, hsz, hP, hK, hD0, hNx⟩ := hv
  have hx := B.exec
  have hb := B.bytes
  have hr := B.returns
  have hts := atoms_spec (ws := w_X11_append) B.pre
  have hown : s.vm.findClass RX11 = some m.cls := findClass_of_methodNamed B.named
  have hlocks := B.notSynchronized
  subst hsz
  have hD := hD0.self (sz := s.heap.size)
  generalize hAe : va_A [(h0, .inr (10, [.ref qt, a1, a2, a3, a4, a5, a6, .int 16, a8, a9, a10, a11])), (qt, .inl (cB, 800, .inl f))] s.heap.size = A at hD ⊢
  have hA : ∀ q : Nat, s.heap.size ≤ q → A q := fun q h => by rw [← hAe]; exact Or.inr h
  have hS : va_S A s.heap s.heap [] := va_S.rf
  have hP : va_P (dC, dI) cls_ [(h0, .inr (10, [.ref qt, a1, a2, a3, a4, a5, a6, .int 16, a8, a9, a10, a11])), (qt, .inl (cB, 800, .inl f))] s.heap := hP
  have hl := lv_entry ([.ref h0, .int v]) (n := 3) (Nat.le_of_ble_eq_true rfl)
  rw [lg_entry_eq]
  generalize (lg_sl ([.ref h0, .int v]) ++ List.replicate (3 - (lg_sl ([.ref h0, .int v])).length) Slot.unset).toArray = ls at hl ⊢
  have hl : lv_has ls 3 [(0, .ref h0), (1, .int v)] := hl
  refine lv_bipush (v := 24) hx hb dX11_append_0 (by decide) ?_
  refine lv_istore_n (lv' := [(2, .int 24), (0, .ref h0), (1, .int v)]) hx hb dX11_append_2 rfl hl (by decide) rfl (fun ls hl => ?_)
  refine lv_iload_n hx hb dX11_append_3 rfl (lv_at hl 0 rfl) ?_
  refine lv_if_lt (tgt := 46) hx hb dX11_append_4 (by decide) (fun c_1 => absurd c_1 (by decide)) (fun c_1 => ?_)
  refine lv_aload_n hx hb dX11_append_7 rfl (lv_at hl 1 rfl) ?_
  refine va_get (D := (dC, dI)) (ci := 10) (v := .int 16) (C := RX11) (T := TX11) (N := 12) hx hb hts in_X11_append_X11 hown hK hP 0 rfl rfl 7 (by decide) (hts (.fieldLink RX11 82 "RealSolver" "onTape" "I") (List.mem_of_getElem? (i := 1) rfl)) (fun _ h9 => h9) rfl dX11_append_8 ?_
  refine lv_sipush (v := 800) hx hb dX11_append_11 (by decide) ?_
  refine lv_icmp_ge (tgt := 40) hx hb dX11_append_14 (by decide) (fun c_2 => absurd c_2 (by decide)) (fun c_2 => ?_)
  refine lv_aload_n hx hb dX11_append_17 rfl (lv_at hl 1 rfl) ?_
  refine va_get (D := (dC, dI)) (ci := 10) (v := .ref qt) (C := RX11) (T := TX11) (N := 12) hx hb hts in_X11_append_X11 hown hK hP 0 rfl rfl 0 (by decide) (hts (.fieldLink RX11 9 "RealSolver" "tape" "[B") (List.mem_of_getElem? (i := 2) rfl)) (fun _ h9 => h9) rfl dX11_append_18 ?_
  refine lv_aload_n hx hb dX11_append_21 rfl (lv_at hl 1 rfl) ?_
  refine va_get (D := (dC, dI)) (ci := 10) (v := .int 16) (C := RX11) (T := TX11) (N := 12) hx hb hts in_X11_append_X11 hown hK hP 0 rfl rfl 7 (by decide) (hts (.fieldLink RX11 82 "RealSolver" "onTape" "I") (List.mem_of_getElem? (i := 1) rfl)) (fun _ h9 => h9) rfl dX11_append_22 ?_
  refine lv_iload_n hx hb dX11_append_25 rfl (lv_at hl 2 rfl) ?_
  refine lv_iload_n hx hb dX11_append_26 rfl (lv_at hl 0 rfl) ?_
  refine lv_ishr hx hb dX11_append_27 ?_
  refine lv_topi (fun f_3 ef_3 => ?_)
  refine lv_i2b hx hb dX11_append_28 rfl ?_
  refine lv_topi (fun f_4 ef_4 => ?_)
  refine va_bast hx hb hK hP hD hS 1 0 rfl rfl (by unfold vp_in; decide +kernel) dX11_append_29 (fun H locs hP hD hS => ?_)
  obtain ⟨g_5, eg_5⟩ : ∃ g : Nat → Int32, g = upd f (Int32.toNatClampNeg 16) (vp_nar .byte f_4) := ⟨_, rfl⟩
  have hP : va_P (dC, dI) cls_ [(h0, .inr (10, [.ref qt, a1, a2, a3, a4, a5, a6, .int 16, a8, a9, a10, a11])), (qt, .inl (cB, 800, .inl g_5))] H := by rw [eg_5]; exact hP
  have hD : va_D A [(h0, .inr (10, [.ref qt, a1, a2, a3, a4, a5, a6, .int 16, a8, a9, a10, a11])), (qt, .inl (cB, 800, .inl g_5))] := by rw [eg_5]; exact hD
  refine lv_aload_n hx hb dX11_append_30 rfl (lv_at hl 1 rfl) ?_
  refine lv_dup hx hb dX11_append_31 rfl ?_
  refine va_get (D := (dC, dI)) (ci := 10) (v := .int 16) (C := RX11) (T := TX11) (N := 12) hx hb hts in_X11_append_X11 hown hK hP 0 rfl rfl 7 (by decide) (hts (.fieldLink RX11 82 "RealSolver" "onTape" "I") (List.mem_of_getElem? (i := 1) rfl)) (fun _ h9 => h9) rfl dX11_append_32 ?_
  refine lv_iconst (v := 1) hx hb dX11_append_35 (by decide) ?_
  refine lv_iadd hx hb dX11_append_36 ?_
  refine lv_topi (fun f_6 ef_6 => ?_)
  obtain rfl : f_6 = 17 := ef_6.trans (by decide)
  refine va_put (D := (dC, dI)) (ci := 10) (v := .int 17) (ty := .int) (C := RX11) (T := TX11) (N := 12) hx hb hts in_X11_append_X11 tyX11 tyX11_ok nmX11 hown hK hP hD hS 0 rfl rfl 7 (by decide) (hts (.fieldLink RX11 82 "RealSolver" "onTape" "I") (List.mem_of_getElem? (i := 1) rfl)) (fun _ h9 => h9) rfl (by decide +kernel) rfl rfl (Nat.le_of_ble_eq_true rfl) dX11_append_37 (fun H locs hP hD hS => ?_)
  have hP : va_P (dC, dI) cls_ [(h0, .inr (10, [.ref qt, a1, a2, a3, a4, a5, a6, .int 17, a8, a9, a10, a11])), (qt, .inl (cB, 800, .inl g_5))] H := hP
  have hD : va_D A [(h0, .inr (10, [.ref qt, a1, a2, a3, a4, a5, a6, .int 17, a8, a9, a10, a11])), (qt, .inl (cB, 800, .inl g_5))] := hD
  refine lv_iinc (v := 16) (lv' := [(2, .int 16), (0, .ref h0), (1, .int v)]) hx hb dX11_append_40 hl (k := 0) rfl (by decide) (by decide) rfl (fun ls hl => ?_)
  refine lv_goto (tgt := 3) hx hb dX11_append_43 (by decide) ?_
  refine lv_iload_n hx hb dX11_append_3 rfl (lv_at hl 0 rfl) ?_
  refine lv_if_lt (tgt := 46) hx hb dX11_append_4 (by decide) (fun c_7 => absurd c_7 (by decide)) (fun c_7 => ?_)
  refine lv_aload_n hx hb dX11_append_7 rfl (lv_at hl 1 rfl) ?_
  refine va_get (D := (dC, dI)) (ci := 10) (v := .int 17) (C := RX11) (T := TX11) (N := 12) hx hb hts in_X11_append_X11 hown hK hP 0 rfl rfl 7 (by decide) (hts (.fieldLink RX11 82 "RealSolver" "onTape" "I") (List.mem_of_getElem? (i := 1) rfl)) (fun _ h9 => h9) rfl dX11_append_8 ?_
  refine lv_sipush (v := 800) hx hb dX11_append_11 (by decide) ?_
  refine lv_icmp_ge (tgt := 40) hx hb dX11_append_14 (by decide) (fun c_8 => absurd c_8 (by decide)) (fun c_8 => ?_)
  refine lv_aload_n hx hb dX11_append_17 rfl (lv_at hl 1 rfl) ?_
  refine va_get (D := (dC, dI)) (ci := 10) (v := .ref qt) (C := RX11) (T := TX11) (N := 12) hx hb hts in_X11_append_X11 hown hK hP 0 rfl rfl 0 (by decide) (hts (.fieldLink RX11 9 "RealSolver" "tape" "[B") (List.mem_of_getElem? (i := 2) rfl)) (fun _ h9 => h9) rfl dX11_append_18 ?_
  refine lv_aload_n hx hb dX11_append_21 rfl (lv_at hl 1 rfl) ?_
  refine va_get (D := (dC, dI)) (ci := 10) (v := .int 17) (C := RX11) (T := TX11) (N := 12) hx hb hts in_X11_append_X11 hown hK hP 0 rfl rfl 7 (by decide) (hts (.fieldLink RX11 82 "RealSolver" "onTape" "I") (List.mem_of_getElem? (i := 1) rfl)) (fun _ h9 => h9) rfl dX11_append_22 ?_
  refine lv_iload_n hx hb dX11_append_25 rfl (lv_at hl 2 rfl) ?_
  refine lv_iload_n hx hb dX11_append_26 rfl (lv_at hl 0 rfl) ?_
  refine lv_ishr hx hb dX11_append_27 ?_
  refine lv_topi (fun f_9 ef_9 => ?_)
  refine lv_i2b hx hb dX11_append_28 rfl ?_
  refine lv_topi (fun f_10 ef_10 => ?_)
  refine va_bast hx hb hK hP hD hS 1 0 rfl rfl (by unfold vp_in; decide +kernel) dX11_append_29 (fun H locs hP hD hS => ?_)
  obtain ⟨g_11, eg_11⟩ : ∃ g : Nat → Int32, g = upd g_5 (Int32.toNatClampNeg 17) (vp_nar .byte f_10) := ⟨_, rfl⟩
  have hP : va_P (dC, dI) cls_ [(h0, .inr (10, [.ref qt, a1, a2, a3, a4, a5, a6, .int 17, a8, a9, a10, a11])), (qt, .inl (cB, 800, .inl g_11))] H := by rw [eg_11]; exact hP
  have hD : va_D A [(h0, .inr (10, [.ref qt, a1, a2, a3, a4, a5, a6, .int 17, a8, a9, a10, a11])), (qt, .inl (cB, 800, .inl g_11))] := by rw [eg_11]; exact hD
  refine lv_aload_n hx hb dX11_append_30 rfl (lv_at hl 1 rfl) ?_
  refine lv_dup hx hb dX11_append_31 rfl ?_
  refine va_get (D := (dC, dI)) (ci := 10) (v := .int 17) (C := RX11) (T := TX11) (N := 12) hx hb hts in_X11_append_X11 hown hK hP 0 rfl rfl 7 (by decide) (hts (.fieldLink RX11 82 "RealSolver" "onTape" "I") (List.mem_of_getElem? (i := 1) rfl)) (fun _ h9 => h9) rfl dX11_append_32 ?_
  refine lv_iconst (v := 1) hx hb dX11_append_35 (by decide) ?_
  refine lv_iadd hx hb dX11_append_36 ?_
  refine lv_topi (fun f_12 ef_12 => ?_)
  obtain rfl : f_12 = 18 := ef_12.trans (by decide)
  refine va_put (D := (dC, dI)) (ci := 10) (v := .int 18) (ty := .int) (C := RX11) (T := TX11) (N := 12) hx hb hts in_X11_append_X11 tyX11 tyX11_ok nmX11 hown hK hP hD hS 0 rfl rfl 7 (by decide) (hts (.fieldLink RX11 82 "RealSolver" "onTape" "I") (List.mem_of_getElem? (i := 1) rfl)) (fun _ h9 => h9) rfl (by decide +kernel) rfl rfl (Nat.le_of_ble_eq_true rfl) dX11_append_37 (fun H locs hP hD hS => ?_)
  have hP : va_P (dC, dI) cls_ [(h0, .inr (10, [.ref qt, a1, a2, a3, a4, a5, a6, .int 18, a8, a9, a10, a11])), (qt, .inl (cB, 800, .inl g_11))] H := hP
  have hD : va_D A [(h0, .inr (10, [.ref qt, a1, a2, a3, a4, a5, a6, .int 18, a8, a9, a10, a11])), (qt, .inl (cB, 800, .inl g_11))] := hD
  refine lv_iinc (v := 8) (lv' := [(2, .int 8), (0, .ref h0), (1, .int v)]) hx hb dX11_append_40 hl (k := 0) rfl (by decide) (by decide) rfl (fun ls hl => ?_)
  refine lv_goto (tgt := 3) hx hb dX11_append_43 (by decide) ?_
  refine lv_iload_n hx hb dX11_append_3 rfl (lv_at hl 0 rfl) ?_
  refine lv_if_lt (tgt := 46) hx hb dX11_append_4 (by decide) (fun c_13 => absurd c_13 (by decide)) (fun c_13 => ?_)
  refine lv_aload_n hx hb dX11_append_7 rfl (lv_at hl 1 rfl) ?_
  refine va_get (D := (dC, dI)) (ci := 10) (v := .int 18) (C := RX11) (T := TX11) (N := 12) hx hb hts in_X11_append_X11 hown hK hP 0 rfl rfl 7 (by decide) (hts (.fieldLink RX11 82 "RealSolver" "onTape" "I") (List.mem_of_getElem? (i := 1) rfl)) (fun _ h9 => h9) rfl dX11_append_8 ?_
  refine lv_sipush (v := 800) hx hb dX11_append_11 (by decide) ?_
  refine lv_icmp_ge (tgt := 40) hx hb dX11_append_14 (by decide) (fun c_14 => absurd c_14 (by decide)) (fun c_14 => ?_)
  refine lv_aload_n hx hb dX11_append_17 rfl (lv_at hl 1 rfl) ?_
  refine va_get (D := (dC, dI)) (ci := 10) (v := .ref qt) (C := RX11) (T := TX11) (N := 12) hx hb hts in_X11_append_X11 hown hK hP 0 rfl rfl 0 (by decide) (hts (.fieldLink RX11 9 "RealSolver" "tape" "[B") (List.mem_of_getElem? (i := 2) rfl)) (fun _ h9 => h9) rfl dX11_append_18 ?_
  refine lv_aload_n hx hb dX11_append_21 rfl (lv_at hl 1 rfl) ?_
  refine va_get (D := (dC, dI)) (ci := 10) (v := .int 18) (C := RX11) (T := TX11) (N := 12) hx hb hts in_X11_append_X11 hown hK hP 0 rfl rfl 7 (by decide) (hts (.fieldLink RX11 82 "RealSolver" "onTape" "I") (List.mem_of_getElem? (i := 1) rfl)) (fun _ h9 => h9) rfl dX11_append_22 ?_
  refine lv_iload_n hx hb dX11_append_25 rfl (lv_at hl 2 rfl) ?_
  refine lv_iload_n hx hb dX11_append_26 rfl (lv_at hl 0 rfl) ?_
  refine lv_ishr hx hb dX11_append_27 ?_
  refine lv_topi (fun f_15 ef_15 => ?_)
  refine lv_i2b hx hb dX11_append_28 rfl ?_
  refine lv_topi (fun f_16 ef_16 => ?_)
  refine va_bast hx hb hK hP hD hS 1 0 rfl rfl (by unfold vp_in; decide +kernel) dX11_append_29 (fun H locs hP hD hS => ?_)
  obtain ⟨g_17, eg_17⟩ : ∃ g : Nat → Int32, g = upd g_11 (Int32.toNatClampNeg 18) (vp_nar .byte f_16) := ⟨_, rfl⟩
  have hP : va_P (dC, dI) cls_ [(h0, .inr (10, [.ref qt, a1, a2, a3, a4, a5, a6, .int 18, a8, a9, a10, a11])), (qt, .inl (cB, 800, .inl g_17))] H := by rw [eg_17]; exact hP
  have hD : va_D A [(h0, .inr (10, [.ref qt, a1, a2, a3, a4, a5, a6, .int 18, a8, a9, a10, a11])), (qt, .inl (cB, 800, .inl g_17))] := by rw [eg_17]; exact hD
  refine lv_aload_n hx hb dX11_append_30 rfl (lv_at hl 1 rfl) ?_
  refine lv_dup hx hb dX11_append_31 rfl ?_
  refine va_get (D := (dC, dI)) (ci := 10) (v := .int 18) (C := RX11) (T := TX11) (N := 12) hx hb hts in_X11_append_X11 hown hK hP 0 rfl rfl 7 (by decide) (hts (.fieldLink RX11 82 "RealSolver" "onTape" "I") (List.mem_of_getElem? (i := 1) rfl)) (fun _ h9 => h9) rfl dX11_append_32 ?_
  refine lv_iconst (v := 1) hx hb dX11_append_35 (by decide) ?_
  refine lv_iadd hx hb dX11_append_36 ?_
  refine lv_topi (fun f_18 ef_18 => ?_)
  obtain rfl : f_18 = 19 := ef_18.trans (by decide)
  refine va_put (D := (dC, dI)) (ci := 10) (v := .int 19) (ty := .int) (C := RX11) (T := TX11) (N := 12) hx hb hts in_X11_append_X11 tyX11 tyX11_ok nmX11 hown hK hP hD hS 0 rfl rfl 7 (by decide) (hts (.fieldLink RX11 82 "RealSolver" "onTape" "I") (List.mem_of_getElem? (i := 1) rfl)) (fun _ h9 => h9) rfl (by decide +kernel) rfl rfl (Nat.le_of_ble_eq_true rfl) dX11_append_37 (fun H locs hP hD hS => ?_)
  have hP : va_P (dC, dI) cls_ [(h0, .inr (10, [.ref qt, a1, a2, a3, a4, a5, a6, .int 19, a8, a9, a10, a11])), (qt, .inl (cB, 800, .inl g_17))] H := hP
  have hD : va_D A [(h0, .inr (10, [.ref qt, a1, a2, a3, a4, a5, a6, .int 19, a8, a9, a10, a11])), (qt, .inl (cB, 800, .inl g_17))] := hD
  refine lv_iinc (v := 0) (lv' := [(2, .int 0), (0, .ref h0), (1, .int v)]) hx hb dX11_append_40 hl (k := 0) rfl (by decide) (by decide) rfl (fun ls hl => ?_)
  refine lv_goto (tgt := 3) hx hb dX11_append_43 (by decide) ?_
  refine lv_iload_n hx hb dX11_append_3 rfl (lv_at hl 0 rfl) ?_
  refine lv_if_lt (tgt := 46) hx hb dX11_append_4 (by decide) (fun c_19 => absurd c_19 (by decide)) (fun c_19 => ?_)
  refine lv_aload_n hx hb dX11_append_7 rfl (lv_at hl 1 rfl) ?_
  refine va_get (D := (dC, dI)) (ci := 10) (v := .int 19) (C := RX11) (T := TX11) (N := 12) hx hb hts in_X11_append_X11 hown hK hP 0 rfl rfl 7 (by decide) (hts (.fieldLink RX11 82 "RealSolver" "onTape" "I") (List.mem_of_getElem? (i := 1) rfl)) (fun _ h9 => h9) rfl dX11_append_8 ?_
  refine lv_sipush (v := 800) hx hb dX11_append_11 (by decide) ?_
  refine lv_icmp_ge (tgt := 40) hx hb dX11_append_14 (by decide) (fun c_20 => absurd c_20 (by decide)) (fun c_20 => ?_)
  refine lv_aload_n hx hb dX11_append_17 rfl (lv_at hl 1 rfl) ?_
  refine va_get (D := (dC, dI)) (ci := 10) (v := .ref qt) (C := RX11) (T := TX11) (N := 12) hx hb hts in_X11_append_X11 hown hK hP 0 rfl rfl 0 (by decide) (hts (.fieldLink RX11 9 "RealSolver" "tape" "[B") (List.mem_of_getElem? (i := 2) rfl)) (fun _ h9 => h9) rfl dX11_append_18 ?_
  refine lv_aload_n hx hb dX11_append_21 rfl (lv_at hl 1 rfl) ?_
  refine va_get (D := (dC, dI)) (ci := 10) (v := .int 19) (C := RX11) (T := TX11) (N := 12) hx hb hts in_X11_append_X11 hown hK hP 0 rfl rfl 7 (by decide) (hts (.fieldLink RX11 82 "RealSolver" "onTape" "I") (List.mem_of_getElem? (i := 1) rfl)) (fun _ h9 => h9) rfl dX11_append_22 ?_
  refine lv_iload_n hx hb dX11_append_25 rfl (lv_at hl 2 rfl) ?_
  refine lv_iload_n hx hb dX11_append_26 rfl (lv_at hl 0 rfl) ?_
  refine lv_ishr hx hb dX11_append_27 ?_
  refine lv_topi (fun f_21 ef_21 => ?_)
  refine lv_i2b hx hb dX11_append_28 rfl ?_
  refine lv_topi (fun f_22 ef_22 => ?_)
  refine va_bast hx hb hK hP hD hS 1 0 rfl rfl (by unfold vp_in; decide +kernel) dX11_append_29 (fun H locs hP hD hS => ?_)
  obtain ⟨g_23, eg_23⟩ : ∃ g : Nat → Int32, g = upd g_17 (Int32.toNatClampNeg 19) (vp_nar .byte f_22) := ⟨_, rfl⟩
  have hP : va_P (dC, dI) cls_ [(h0, .inr (10, [.ref qt, a1, a2, a3, a4, a5, a6, .int 19, a8, a9, a10, a11])), (qt, .inl (cB, 800, .inl g_23))] H := by rw [eg_23]; exact hP
  have hD : va_D A [(h0, .inr (10, [.ref qt, a1, a2, a3, a4, a5, a6, .int 19, a8, a9, a10, a11])), (qt, .inl (cB, 800, .inl g_23))] := by rw [eg_23]; exact hD
  refine lv_aload_n hx hb dX11_append_30 rfl (lv_at hl 1 rfl) ?_
  refine lv_dup hx hb dX11_append_31 rfl ?_
  refine va_get (D := (dC, dI)) (ci := 10) (v := .int 19) (C := RX11) (T := TX11) (N := 12) hx hb hts in_X11_append_X11 hown hK hP 0 rfl rfl 7 (by decide) (hts (.fieldLink RX11 82 "RealSolver" "onTape" "I") (List.mem_of_getElem? (i := 1) rfl)) (fun _ h9 => h9) rfl dX11_append_32 ?_
  refine lv_iconst (v := 1) hx hb dX11_append_35 (by decide) ?_
  refine lv_iadd hx hb dX11_append_36 ?_
  refine lv_topi (fun f_24 ef_24 => ?_)
  obtain rfl : f_24 = 20 := ef_24.trans (by decide)
  refine va_put (D := (dC, dI)) (ci := 10) (v := .int 20) (ty := .int) (C := RX11) (T := TX11) (N := 12) hx hb hts in_X11_append_X11 tyX11 tyX11_ok nmX11 hown hK hP hD hS 0 rfl rfl 7 (by decide) (hts (.fieldLink RX11 82 "RealSolver" "onTape" "I") (List.mem_of_getElem? (i := 1) rfl)) (fun _ h9 => h9) rfl (by decide +kernel) rfl rfl (Nat.le_of_ble_eq_true rfl) dX11_append_37 (fun H locs hP hD hS => ?_)
  have hP : va_P (dC, dI) cls_ [(h0, .inr (10, [.ref qt, a1, a2, a3, a4, a5, a6, .int 20, a8, a9, a10, a11])), (qt, .inl (cB, 800, .inl g_23))] H := hP
  have hD : va_D A [(h0, .inr (10, [.ref qt, a1, a2, a3, a4, a5, a6, .int 20, a8, a9, a10, a11])), (qt, .inl (cB, 800, .inl g_23))] := hD
  refine lv_iinc (v := (-8)) (lv' := [(2, .int (-8)), (0, .ref h0), (1, .int v)]) hx hb dX11_append_40 hl (k := 0) rfl (by decide) (by decide) rfl (fun ls hl => ?_)
  refine lv_goto (tgt := 3) hx hb dX11_append_43 (by decide) ?_
  refine lv_iload_n hx hb dX11_append_3 rfl (lv_at hl 0 rfl) ?_
  refine lv_if_lt (tgt := 46) hx hb dX11_append_4 (by decide) (fun c_25 => ?_) (fun c_25 => absurd (by decide) c_25)
  refine W.widen (k := 0) (n := 0) (Nat.le_of_ble_eq_true rfl) (Nat.le_of_ble_eq_true rfl) ?_
  have hP9 := hP.sub (ws' := [(h0, .inr (10, [.ref qt, a1, a2, a3, a4, a5, a6, .int 20, a8, a9, a10, a11])), (qt, .inl (cB, 800, .inl g_23))]) [0, 1] rfl
  have hD9 := hD.sub (ws' := [(h0, .inr (10, [.ref qt, a1, a2, a3, a4, a5, a6, .int 20, a8, a9, a10, a11])), (qt, .inl (cB, 800, .inl g_23))]) [0, 1] (by decide) rfl
  have hK9 := hK.sub (tys' := []) [] rfl
  exact W.vret hx hb hr (fun t ht hW => ⟨⟨(), rfl, trivial, ⟨g_23, by rw [ht]; exact hP9, va_K.moved hW.alike hK9, hD9⟩⟩, hS.F ht⟩) hS.2.2 dX11_append_46

def w_X11_feed : List Cond := .code yX11_feed cX11_feed 6 (some .int) :: ([.fieldLink RX11 82 "RealSolver" "onTape" "I", .fieldLink RX11 9 "RealSolver" "tape" "[B", .code yX11_append cX11_append 3 none, .methodLink RX11 85 yX11_append, .instanceMethod yX11_append, .selects RX11 yX11_append yX11_append, .initialized RX11, .fieldLink RX11 65 "RealSolver" "outcome" "I", .code yX11_answer cX11_answer 2 (some .int), .methodLink RX11 79 yX11_answer, .instanceMethod yX11_answer, .selects RX11 yX11_answer yX11_answer] ++ (wsX110 ++ ([] : List Cond)))
theorem in_X11_feed_X11 : ∀ w ∈ wsX110, w ∈ w_X11_feed := fun _ h => List.mem_cons_of_mem _ (List.mem_append_right _ (List.mem_append_left _ h))
set_option maxRecDepth 20000 in
theorem g_X11_feed_X11_append_85 : GoodIn w_X11_feed (wsV RX11 85 RX11 yX11_append w_X11_append) := goodIn_r _ [4, 5, 6, 7, 3, 1, 2, 13, 14, 15, 16, 17, 18, 19, 20, 21, 22, 23, 24] (by decide +kernel) (by decide +kernel)
set_option maxRecDepth 20000 in
theorem g_X11_feed_X11_answer_79 : GoodIn w_X11_feed (wsV RX11 79 RX11 yX11_answer w_X11_answer) := goodIn_r _ [10, 11, 12, 7, 9, 8, 13, 14, 15, 16, 17, 18, 19, 20, 21, 22, 23, 24] (by decide +kernel) (by decide +kernel)
set_option maxHeartbeats 4000000 in
set_option maxRecDepth 100000 in
theorem k_X11_feed (l : Launch) (dC : Nat → ClassId) (dI : Nat → Nat → Nat) (h0 : Nat) (a1 : Value) (a2 : Value) (a3 : Value) (a4 : Value) (a5 : Value) (a6 : Value) (a8 : Value) (a9 : Value) (a10 : Value) (a11 : Value) (qt : Nat) (cB : ClassId) (f : Nat → Int32) (v1 : Int32) (v2 : Int32) (v3 : Int32) (v4 : Int32) (v5 : Int32) (sz : Nat) : Met l yX11_feed w_X11_feed ({ frames := 1, cells := 0, slots := 0, locals := 22 }) (va_Pc [.ref h0, .int v1, .int v2, .int v3, .int v4, .int v5] (fun U => U.heap.size = sz ∧ va_P (dC, dI) cls_ [(h0, .inr (10, [.ref qt, a1, a2, a3, a4, a5, a6, .int 0, a8, a9, a10, a11])), (qt, .inl (cB, 800, .inl f))] U.heap ∧ va_K (dC, dI) cls_ [(cB, .byte)] U ∧ va_D (fun _ => True) [(h0, .inr (10, [.ref qt, a1, a2, a3, a4, a5, a6, .int 0, a8, a9, a10, a11])), (qt, .inl (cB, 800, .inl f))] ∧ nx_ U)) (va_Qi (fun (r : Int32) (_ : Unit) => r = 20) (fun _ _ => True) (va_A [(h0, .inr (10, [.ref qt, a1, a2, a3, a4, a5, a6, .int 0, a8, a9, a10, a11])), (qt, .inl (cB, 800, .inl f))] sz)) 0 0 (va_A [(h0, .inr (10, [.ref qt, a1, a2, a3, a4, a5, a6, .int 0, a8, a9, a10, a11])), (qt, .inl (cB, 800, .inl f))] sz) := by
  refine Met.ofW (cc := cX11_feed) (maxL := 6) (ret := (some .int)) (by decide) rfl ?_
  intro p e s m args below meth c s₁ B hml hv
  obtain ⟨rfl, hsz, hP, hK, hD0, hNx⟩ := hv
  have hx := B.exec
  have hb := B.bytes
  have hr := B.returns
  have hts := atoms_spec (ws := w_X11_feed) B.pre
  have hown : s.vm.findClass RX11 = some m.cls := findClass_of_methodNamed B.named
  have hlocks := B.notSynchronized
  subst hsz
  have hD := hD0.self (sz := s.heap.size)
  generalize hAe : va_A [(h0, .inr (10, [.ref qt, a1, a2, a3, a4, a5, a6, .int 0, a8, a9, a10, a11])), (qt, .inl (cB, 800, .inl f))] s.heap.size = A at hD ⊢
  have hA : ∀ q : Nat, s.heap.size ≤ q → A q := fun q h => by rw [← hAe]; exact Or.inr h
  have hS : va_S A s.heap s.heap [] := va_S.rf
  have hP : va_P (dC, dI) cls_ [(h0, .inr (10, [.ref qt, a1, a2, a3, a4, a5, a6, .int 0, a8, a9, a10, a11])), (qt, .inl (cB, 800, .inl f))] s.heap := hP
  have hl := lv_entry ([.ref h0, .int v1, .int v2, .int v3, .int v4, .int v5]) (n := 6) (Nat.le_of_ble_eq_true rfl)
  rw [lg_entry_eq]
  generalize (lg_sl ([.ref h0, .int v1, .int v2, .int v3, .int v4, .int v5]) ++ List.replicate (6 - (lg_sl ([.ref h0, .int v1, .int v2, .int v3, .int v4, .int v5])).length) Slot.unset).toArray = ls at hl ⊢
  have hl : lv_has ls 6 [(0, .ref h0), (1, .int v1), (2, .int v2), (3, .int v3), (4, .int v4), (5, .int v5)] := hl
  refine lv_aload_n hx hb dX11_feed_0 rfl (lv_at hl 0 rfl) ?_
  refine va_get (D := (dC, dI)) (ci := 10) (v := .int 0) (C := RX11) (T := TX11) (N := 12) hx hb hts in_X11_feed_X11 hown hK hP 0 rfl rfl 7 (by decide) (hts (.fieldLink RX11 82 "RealSolver" "onTape" "I") (List.mem_of_getElem? (i := 1) rfl)) (fun _ h9 => h9) rfl dX11_feed_1 ?_
  refine lv_bipush (v := 20) hx hb dX11_feed_4 (by decide) ?_
  refine lv_iadd hx hb dX11_feed_6 ?_
  refine lv_topi (fun f_1 ef_1 => ?_)
  obtain rfl : f_1 = 20 := ef_1.trans (by decide)
  refine lv_sipush (v := 800) hx hb dX11_feed_7 (by decide) ?_
  refine lv_icmp_le (tgt := 19) hx hb dX11_feed_10 (by decide) (fun c_2 => ?_) (fun c_2 => absurd (by decide) c_2)
  refine lv_aload_n hx hb dX11_feed_19 rfl (lv_at hl 0 rfl) ?_
  refine lv_iload_n hx hb dX11_feed_20 rfl (lv_at hl 1 rfl) ?_
  have hPc := hP.sub (ws' := [(h0, .inr (10, [.ref qt, a1, a2, a3, a4, a5, a6, .int 0, a8, a9, a10, a11])), (qt, .inl (cB, 800, .inl f))]) [0, 1] rfl
  have hDc := hD.sub (ws' := [(h0, .inr (10, [.ref qt, a1, a2, a3, a4, a5, a6, .int 0, a8, a9, a10, a11])), (qt, .inl (cB, 800, .inl f))]) [0, 1] (by decide) rfl
  have hKc := hK.sub (tys' := [(cB, .byte)]) [0] rfl
  have hFc := va_free (wc := [(h0, .inr (10, [.ref qt, a1, a2, a3, a4, a5, a6, .int 0, a8, a9, a10, a11])), (qt, .inl (cB, 800, .inl f))]) hD hS hA [0, 1] rfl
  refine va_callv (va_runV (As := [.int v1]) (rest := []) ⟨hx, hb, hml, hown, hts⟩ (k_X11_append_0 l dC dI h0 a1 a2 a3 a4 a5 a6 a8 a9 a10 a11 qt cB f v1 s.heap.size) (cwV 1 hts g_X11_feed_X11_append_85 rfl rfl rfl (by decide +kernel) ⟨Nat.le_of_ble_eq_true rfl, Nat.le_of_ble_eq_true rfl⟩) ⟨fun a U g mk q => by obtain ⟨q0, q1, qP, qK, qD, qN⟩ := q; exact ⟨q0, q1, qP, va_K.moved (u := U) (U := U.calling g mk a) (Vm.Alike.refl U.vm) qK, qD, nx_.same rfl qN⟩, va_recv hKc hPc (ci := 10) (q0 := 0) rfl rfl, fun U hU hW => ⟨rfl, by rw [hU], by rw [hU]; exact hPc, va_K.moved hW.alike hKc, hDc.weaken (fun _ _ _ _ => trivial), nx_.warm hW hNx⟩⟩ rfl rfl hl.1 rfl (lv_room (Nat.le_of_ble_eq_true rfl)) dX11_feed_21 ⟨Nat.le_of_ble_eq_true rfl, Nat.le_of_ble_eq_true rfl⟩) hS (fun q _ h => hFc q h) hFc (fun u t H1 locs ht hvm hw hB hz1 hk1 hS => ?_)
  try dsimp only at hw
  obtain ⟨f9_3, hP1, hK1, hD1⟩ := hB
  rw [ht] at hP1
  obtain ⟨hP, hD⟩ := va_join (wr := []) (w1 := [(h0, .inr (10, [.ref qt, a1, a2, a3, a4, a5, a6, .int 4, a8, a9, a10, a11])), (qt, .inl (cB, 800, .inl f9_3))]) hP hD [0, 1] [] rfl rfl (by decide) (by decide) hk1 hFc hP1 hD1
  generalize H1 = H at hP hS ⊢
  have hP : va_P (dC, dI) cls_ [(h0, .inr (10, [.ref qt, a1, a2, a3, a4, a5, a6, .int 4, a8, a9, a10, a11])), (qt, .inl (cB, 800, .inl f9_3))] H := hP
  have hD : va_D A [(h0, .inr (10, [.ref qt, a1, a2, a3, a4, a5, a6, .int 4, a8, a9, a10, a11])), (qt, .inl (cB, 800, .inl f9_3))] := hD
  refine W.widen (k := 0) (n := 0) (Nat.le_of_ble_eq_true rfl) (Nat.le_of_ble_eq_true rfl) ?_
  refine lv_aload_n hx hb dX11_feed_24 rfl (lv_at hl 0 rfl) ?_
  refine lv_iload_n hx hb dX11_feed_25 rfl (lv_at hl 2 rfl) ?_
  have hPc := hP.sub (ws' := [(h0, .inr (10, [.ref qt, a1, a2, a3, a4, a5, a6, .int 4, a8, a9, a10, a11])), (qt, .inl (cB, 800, .inl f9_3))]) [0, 1] rfl
  have hDc := hD.sub (ws' := [(h0, .inr (10, [.ref qt, a1, a2, a3, a4, a5, a6, .int 4, a8, a9, a10, a11])), (qt, .inl (cB, 800, .inl f9_3))]) [0, 1] (by decide) rfl
  have hKc := hK.sub (tys' := [(cB, .byte)]) [0] rfl
  have hFc := va_free (wc := [(h0, .inr (10, [.ref qt, a1, a2, a3, a4, a5, a6, .int 4, a8, a9, a10, a11])), (qt, .inl (cB, 800, .inl f9_3))]) hD hS hA [0, 1] rfl
  refine va_callv (va_runV (As := [.int v2]) (rest := []) ⟨hx, hb, hml, hown, hts⟩ (k_X11_append_4 l dC dI h0 a1 a2 a3 a4 a5 a6 a8 a9 a10 a11 qt cB f9_3 v2 H.size) (cwV 1 hts g_X11_feed_X11_append_85 rfl rfl rfl (by decide +kernel) ⟨Nat.le_of_ble_eq_true rfl, Nat.le_of_ble_eq_true rfl⟩) ⟨fun a U g mk q => by obtain ⟨q0, q1, qP, qK, qD, qN⟩ := q; exact ⟨q0, q1, qP, va_K.moved (u := U) (U := U.calling g mk a) (Vm.Alike.refl U.vm) qK, qD, nx_.same rfl qN⟩, va_recv hKc hPc (ci := 10) (q0 := 0) rfl rfl, fun U hU hW => ⟨rfl, by rw [hU], by rw [hU]; exact hPc, va_K.moved hW.alike hKc, hDc.weaken (fun _ _ _ _ => trivial), nx_.warm hW hNx⟩⟩ rfl rfl hl.1 rfl (lv_room (Nat.le_of_ble_eq_true rfl)) dX11_feed_26 ⟨Nat.le_of_ble_eq_true rfl, Nat.le_of_ble_eq_true rfl⟩) hS (fun q _ h => hFc q h) hFc (fun u t H1 locs ht hvm hw hB hz1 hk1 hS => ?_)
  try dsimp only at hw
  obtain ⟨f9_4, hP1, hK1, hD1⟩ := hB
  rw [ht] at hP1
  obtain ⟨hP, hD⟩ := va_join (wr := []) (w1 := [(h0, .inr (10, [.ref qt, a1, a2, a3, a4, a5, a6, .int 8, a8, a9, a10, a11])), (qt, .inl (cB, 800, .inl f9_4))]) hP hD [0, 1] [] rfl rfl (by decide) (by decide) hk1 hFc hP1 hD1
  generalize H1 = H at hP hS ⊢
  have hP : va_P (dC, dI) cls_ [(h0, .inr (10, [.ref qt, a1, a2, a3, a4, a5, a6, .int 8, a8, a9, a10, a11])), (qt, .inl (cB, 800, .inl f9_4))] H := hP
  have hD : va_D A [(h0, .inr (10, [.ref qt, a1, a2, a3, a4, a5, a6, .int 8, a8, a9, a10, a11])), (qt, .inl (cB, 800, .inl f9_4))] := hD
  refine W.widen (k := 0) (n := 0) (Nat.le_of_ble_eq_true rfl) (Nat.le_of_ble_eq_true rfl) ?_
  refine lv_aload_n hx hb dX11_feed_29 rfl (lv_at hl 0 rfl) ?_
  refine lv_iload_n hx hb dX11_feed_30 rfl (lv_at hl 3 rfl) ?_
  have hPc := hP.sub (ws' := [(h0, .inr (10, [.ref qt, a1, a2, a3, a4, a5, a6, .int 8, a8, a9, a10, a11])), (qt, .inl (cB, 800, .inl f9_4))]) [0, 1] rfl
  have hDc := hD.sub (ws' := [(h0, .inr (10, [.ref qt, a1, a2, a3, a4, a5, a6, .int 8, a8, a9, a10, a11])), (qt, .inl (cB, 800, .inl f9_4))]) [0, 1] (by decide) rfl
  have hKc := hK.sub (tys' := [(cB, .byte)]) [0] rfl
  have hFc := va_free (wc := [(h0, .inr (10, [.ref qt, a1, a2, a3, a4, a5, a6, .int 8, a8, a9, a10, a11])), (qt, .inl (cB, 800, .inl f9_4))]) hD hS hA [0, 1] rfl
  refine va_callv (va_runV (As := [.int v3]) (rest := []) ⟨hx, hb, hml, hown, hts⟩ (k_X11_append_8 l dC dI h0 a1 a2 a3 a4 a5 a6 a8 a9 a10 a11 qt cB f9_4 v3 H.size) (cwV 1 hts g_X11_feed_X11_append_85 rfl rfl rfl (by decide +kernel) ⟨Nat.le_of_ble_eq_true rfl, Nat.le_of_ble_eq_true rfl⟩) ⟨fun a U g mk q => by obtain ⟨q0, q1, qP, qK, qD, qN⟩ := q; exact ⟨q0, q1, qP, va_K.moved (u := U) (U := U.calling g mk a) (Vm.Alike.refl U.vm) qK, qD, nx_.same rfl qN⟩, va_recv hKc hPc (ci := 10) (q0 := 0) rfl rfl, fun U hU hW => ⟨rfl, by rw [hU], by rw [hU]; exact hPc, va_K.moved hW.alike hKc, hDc.weaken (fun _ _ _ _ => trivial), nx_.warm hW hNx⟩⟩ rfl rfl hl.1 rfl (lv_room (Nat.le_of_ble_eq_true rfl)) dX11_feed_31 ⟨Nat.le_of_ble_eq_true rfl, Nat.le_of_ble_eq_true rfl⟩) hS (fun q _ h => hFc q h) hFc (fun u t H1 locs ht hvm hw hB hz1 hk1 hS => ?_)
  try dsimp only at hw
  obtain ⟨f9_5, hP1, hK1, hD1⟩ := hB
  rw [ht] at hP1
  obtain ⟨hP, hD⟩ := va_join (wr := []) (w1 := [(h0, .inr (10, [.ref qt, a1, a2, a3, a4, a5, a6, .int 12, a8, a9, a10, a11])), (qt, .inl (cB, 800, .inl f9_5))]) hP hD [0, 1] [] rfl rfl (by decide) (by decide) hk1 hFc hP1 hD1
  generalize H1 = H at hP hS ⊢
  have hP : va_P (dC, dI) cls_ [(h0, .inr (10, [.ref qt, a1, a2, a3, a4, a5, a6, .int 12, a8, a9, a10, a11])), (qt, .inl (cB, 800, .inl f9_5))] H := hP
  have hD : va_D A [(h0, .inr (10, [.ref qt, a1, a2, a3, a4, a5, a6, .int 12, a8, a9, a10, a11])), (qt, .inl (cB, 800, .inl f9_5))] := hD
  refine W.widen (k := 0) (n := 0) (Nat.le_of_ble_eq_true rfl) (Nat.le_of_ble_eq_true rfl) ?_
  refine lv_aload_n hx hb dX11_feed_34 rfl (lv_at hl 0 rfl) ?_
  refine lv_iload hx hb dX11_feed_35 (lv_at hl 4 rfl) ?_
  have hPc := hP.sub (ws' := [(h0, .inr (10, [.ref qt, a1, a2, a3, a4, a5, a6, .int 12, a8, a9, a10, a11])), (qt, .inl (cB, 800, .inl f9_5))]) [0, 1] rfl
  have hDc := hD.sub (ws' := [(h0, .inr (10, [.ref qt, a1, a2, a3, a4, a5, a6, .int 12, a8, a9, a10, a11])), (qt, .inl (cB, 800, .inl f9_5))]) [0, 1] (by decide) rfl
  have hKc := hK.sub (tys' := [(cB, .byte)]) [0] rfl
  have hFc := va_free (wc := [(h0, .inr (10, [.ref qt, a1, a2, a3, a4, a5, a6, .int 12, a8, a9, a10, a11])), (qt, .inl (cB, 800, .inl f9_5))]) hD hS hA [0, 1] rfl
  refine va_callv (va_runV (As := [.int v4]) (rest := []) ⟨hx, hb, hml, hown, hts⟩ (k_X11_append_12 l dC dI h0 a1 a2 a3 a4 a5 a6 a8 a9 a10 a11 qt cB f9_5 v4 H.size) (cwV 1 hts g_X11_feed_X11_append_85 rfl rfl rfl (by decide +kernel) ⟨Nat.le_of_ble_eq_true rfl, Nat.le_of_ble_eq_true rfl⟩) ⟨fun a U g mk q => by obtain ⟨q0, q1, qP, qK, qD, qN⟩ := q; exact ⟨q0, q1, qP, va_K.moved (u := U) (U := U.calling g mk a) (Vm.Alike.refl U.vm) qK, qD, nx_.same rfl qN⟩, va_recv hKc hPc (ci := 10) (q0 := 0) rfl rfl, fun U hU hW => ⟨rfl, by rw [hU], by rw [hU]; exact hPc, va_K.moved hW.alike hKc, hDc.weaken (fun _ _ _ _ => trivial), nx_.warm hW hNx⟩⟩ rfl rfl hl.1 rfl (lv_room (Nat.le_of_ble_eq_true rfl)) dX11_feed_37 ⟨Nat.le_of_ble_eq_true rfl, Nat.le_of_ble_eq_true rfl⟩) hS (fun q _ h => hFc q h) hFc (fun u t H1 locs ht hvm hw hB hz1 hk1 hS => ?_)
  try dsimp only at hw
  obtain ⟨f9_6, hP1, hK1, hD1⟩ := hB
  rw [ht] at hP1
  obtain ⟨hP, hD⟩ := va_join (wr := []) (w1 := [(h0, .inr (10, [.ref qt, a1, a2, a3, a4, a5, a6, .int 16, a8, a9, a10, a11])), (qt, .inl (cB, 800, .inl f9_6))]) hP hD [0, 1] [] rfl rfl (by decide) (by decide) hk1 hFc hP1 hD1
  generalize H1 = H at hP hS ⊢
  have hP : va_P (dC, dI) cls_ [(h0, .inr (10, [.ref qt, a1, a2, a3, a4, a5, a6, .int 16, a8, a9, a10, a11])), (qt, .inl (cB, 800, .inl f9_6))] H := hP
  have hD : va_D A [(h0, .inr (10, [.ref qt, a1, a2, a3, a4, a5, a6, .int 16, a8, a9, a10, a11])), (qt, .inl (cB, 800, .inl f9_6))] := hD
  refine W.widen (k := 0) (n := 0) (Nat.le_of_ble_eq_true rfl) (Nat.le_of_ble_eq_true rfl) ?_
  refine lv_aload_n hx hb dX11_feed_40 rfl (lv_at hl 0 rfl) ?_
  refine lv_iload hx hb dX11_feed_41 (lv_at hl 5 rfl) ?_
  have hPc := hP.sub (ws' := [(h0, .inr (10, [.ref qt, a1, a2, a3, a4, a5, a6, .int 16, a8, a9, a10, a11])), (qt, .inl (cB, 800, .inl f9_6))]) [0, 1] rfl
  have hDc := hD.sub (ws' := [(h0, .inr (10, [.ref qt, a1, a2, a3, a4, a5, a6, .int 16, a8, a9, a10, a11])), (qt, .inl (cB, 800, .inl f9_6))]) [0, 1] (by decide) rfl
  have hKc := hK.sub (tys' := [(cB, .byte)]) [0] rfl
  have hFc := va_free (wc := [(h0, .inr (10, [.ref qt, a1, a2, a3, a4, a5, a6, .int 16, a8, a9, a10, a11])), (qt, .inl (cB, 800, .inl f9_6))]) hD hS hA [0, 1] rfl
  refine va_callv (va_runV (As := [.int v5]) (rest := []) ⟨hx, hb, hml, hown, hts⟩ (k_X11_append_16 l dC dI h0 a1 a2 a3 a4 a5 a6 a8 a9 a10 a11 qt cB f9_6 v5 H.size) (cwV 1 hts g_X11_feed_X11_append_85 rfl rfl rfl (by decide +kernel) ⟨Nat.le_of_ble_eq_true rfl, Nat.le_of_ble_eq_true rfl⟩) ⟨fun a U g mk q => by obtain ⟨q0, q1, qP, qK, qD, qN⟩ := q; exact ⟨q0, q1, qP, va_K.moved (u := U) (U := U.calling g mk a) (Vm.Alike.refl U.vm) qK, qD, nx_.same rfl qN⟩, va_recv hKc hPc (ci := 10) (q0 := 0) rfl rfl, fun U hU hW => ⟨rfl, by rw [hU], by rw [hU]; exact hPc, va_K.moved hW.alike hKc, hDc.weaken (fun _ _ _ _ => trivial), nx_.warm hW hNx⟩⟩ rfl rfl hl.1 rfl (lv_room (Nat.le_of_ble_eq_true rfl)) dX11_feed_43 ⟨Nat.le_of_ble_eq_true rfl, Nat.le_of_ble_eq_true rfl⟩) hS (fun q _ h => hFc q h) hFc (fun u t H1 locs ht hvm hw hB hz1 hk1 hS => ?_)
  try dsimp only at hw
  obtain ⟨f9_7, hP1, hK1, hD1⟩ := hB
  rw [ht] at hP1
  obtain ⟨hP, hD⟩ := va_join (wr := []) (w1 := [(h0, .inr (10, [.ref qt, a1, a2, a3, a4, a5, a6, .int 20, a8, a9, a10, a11])), (qt, .inl (cB, 800, .inl f9_7))]) hP hD [0, 1] [] rfl rfl (by decide) (by decide) hk1 hFc hP1 hD1
  generalize H1 = H at hP hS ⊢
  have hP : va_P (dC, dI) cls_ [(h0, .inr (10, [.ref qt, a1, a2, a3, a4, a5, a6, .int 20, a8, a9, a10, a11])), (qt, .inl (cB, 800, .inl f9_7))] H := hP
  have hD : va_D A [(h0, .inr (10, [.ref qt, a1, a2, a3, a4, a5, a6, .int 20, a8, a9, a10, a11])), (qt, .inl (cB, 800, .inl f9_7))] := hD
  refine W.widen (k := 0) (n := 0) (Nat.le_of_ble_eq_true rfl) (Nat.le_of_ble_eq_true rfl) ?_
  refine lv_aload_n hx hb dX11_feed_46 rfl (lv_at hl 0 rfl) ?_
  refine lv_aload_n hx hb dX11_feed_47 rfl (lv_at hl 0 rfl) ?_
  refine va_get (D := (dC, dI)) (ci := 10) (v := .int 20) (C := RX11) (T := TX11) (N := 12) hx hb hts in_X11_feed_X11 hown hK hP 0 rfl rfl 7 (by decide) (hts (.fieldLink RX11 82 "RealSolver" "onTape" "I") (List.mem_of_getElem? (i := 1) rfl)) (fun _ h9 => h9) rfl dX11_feed_48 ?_
  have hPc := hP.sub (ws' := [(h0, .inr (10, [.ref qt, a1, a2, a3, a4, a5, a6, .int 20, a8, a9, a10, a11]))]) [0] rfl
  have hDc := hD.sub (ws' := [(h0, .inr (10, [.ref qt, a1, a2, a3, a4, a5, a6, .int 20, a8, a9, a10, a11]))]) [0] (by decide) rfl
  have hKc := hK.sub (tys' := []) [] rfl
  have hFc := va_free (wc := [(h0, .inr (10, [.ref qt, a1, a2, a3, a4, a5, a6, .int 20, a8, a9, a10, a11]))]) hD hS hA [0] rfl
  refine va_calli (va_runV (As := [.int 20]) (rest := []) ⟨hx, hb, hml, hown, hts⟩ (k_X11_answer l dC dI h0 (.ref qt) a1 a2 a3 a4 a5 a6 (.int 20) a8 a9 a10 a11 20 H.size) (cwV 1 hts g_X11_feed_X11_answer_79 rfl rfl rfl (by decide +kernel) ⟨Nat.le_of_ble_eq_true rfl, Nat.le_of_ble_eq_true rfl⟩) ⟨fun a U g mk q => by obtain ⟨q0, q1, qP, qK, qD, qN⟩ := q; exact ⟨q0, q1, qP, va_K.moved (u := U) (U := U.calling g mk a) (Vm.Alike.refl U.vm) qK, qD, nx_.same rfl qN⟩, va_recv hKc hPc (ci := 10) (q0 := 0) rfl rfl, fun U hU hW => ⟨rfl, by rw [hU], by rw [hU]; exact hPc, va_K.moved hW.alike hKc, hDc.weaken (fun _ _ _ _ => trivial), nx_.warm hW hNx⟩⟩ rfl rfl hl.1 rfl (lv_room (Nat.le_of_ble_eq_true rfl)) dX11_feed_51 ⟨Nat.le_of_ble_eq_true rfl, Nat.le_of_ble_eq_true rfl⟩) hS (fun q _ h => hFc q h) hFc (fun r_8 u t H1 locs ht hvm hw hB hz1 hk1 hS => ?_)
  try dsimp only at hw
  have hP1 : va_P (dC, dI) cls_ [] H1 := fun k q h => by simp at h
  have hD1 : va_D (va_A [(h0, .inr (10, [.ref qt, a1, a2, a3, a4, a5, a6, .int 20, a8, a9, a10, a11]))] H.size) [] := ⟨fun i j p q h => by simp at h, fun k q h => by simp at h⟩
  obtain ⟨hP, hD⟩ := va_join (wr := [(qt, .inl (cB, 800, .inl f9_7))]) (w1 := []) hP hD [0] [1] rfl rfl (by decide) (by decide) hk1 hFc hP1 hD1
  generalize H1 = H at hP hS ⊢
  have hP : va_P (dC, dI) cls_ [(qt, .inl (cB, 800, .inl f9_7))] H := hP
  have hD : va_D A [(qt, .inl (cB, 800, .inl f9_7))] := hD
  refine W.widen (k := 0) (n := 0) (Nat.le_of_ble_eq_true rfl) (Nat.le_of_ble_eq_true rfl) ?_
  obtain rfl : 20 = r_8 := Eq.symm hw
  refine W.widen (k := 0) (n := 0) (Nat.le_of_ble_eq_true rfl) (Nat.le_of_ble_eq_true rfl) ?_
  exact W.iret (v := 20) hx hb hr (fun t ht hW => ⟨⟨20, (), rfl, rfl, trivial⟩, hS.F ht⟩) hS.2.2 dX11_feed_54
