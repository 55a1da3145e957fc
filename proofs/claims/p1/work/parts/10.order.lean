abbrev cX14_orderProducts : ByteArray := prog_14_method_1_code
def yX14_orderProducts : MethodName := ⟨RX14, "orderProducts", "()V"⟩
theorem dX14_orderProducts_0 : decode cX14_orderProducts 0 = .ok (.aload_n 0, 1) := by decide +kernel
theorem dX14_orderProducts_1 : decode cX14_orderProducts 1 = .ok (.iconst 0, 1) := by decide +kernel
theorem dX14_orderProducts_2 : decode cX14_orderProducts 2 = .ok (.putfield 1, 3) := by decide +kernel
theorem dX14_orderProducts_5 : decode cX14_orderProducts 5 = .ok (.iconst 0, 1) := by decide +kernel
theorem dX14_orderProducts_6 : decode cX14_orderProducts 6 = .ok (.istore_n 1, 1) := by decide +kernel
theorem dX14_orderProducts_7 : decode cX14_orderProducts 7 = .ok (.iload_n 1, 1) := by decide +kernel
theorem dX14_orderProducts_8 : decode cX14_orderProducts 8 = .ok (.bipush 20, 2) := by decide +kernel
theorem dX14_orderProducts_10 : decode cX14_orderProducts 10 = .ok (.if_icmp .gt 128, 3) := by decide +kernel
theorem dX14_orderProducts_13 : decode cX14_orderProducts 13 = .ok (.aload_n 0, 1) := by decide +kernel
theorem dX14_orderProducts_14 : decode cX14_orderProducts 14 = .ok (.getfield 7, 3) := by decide +kernel
theorem dX14_orderProducts_17 : decode cX14_orderProducts 17 = .ok (.iconst 2, 1) := by decide +kernel
theorem dX14_orderProducts_18 : decode cX14_orderProducts 18 = .ok (.if_icmp .le 7, 3) := by decide +kernel
theorem dX14_orderProducts_21 : decode cX14_orderProducts 21 = .ok (.iload_n 1, 1) := by decide +kernel
theorem dX14_orderProducts_22 : decode cX14_orderProducts 22 = .ok (.goto 4, 3) := by decide +kernel
theorem dX14_orderProducts_25 : decode cX14_orderProducts 25 = .ok (.iconst 0, 1) := by decide +kernel
theorem dX14_orderProducts_26 : decode cX14_orderProducts 26 = .ok (.istore_n 2, 1) := by decide +kernel
theorem dX14_orderProducts_27 : decode cX14_orderProducts 27 = .ok (.iload_n 2, 1) := by decide +kernel
theorem dX14_orderProducts_28 : decode cX14_orderProducts 28 = .ok (.ifCond .lt 104, 3) := by decide +kernel
theorem dX14_orderProducts_31 : decode cX14_orderProducts 31 = .ok (.aload_n 0, 1) := by decide +kernel
theorem dX14_orderProducts_32 : decode cX14_orderProducts 32 = .ok (.getfield 7, 3) := by decide +kernel
theorem dX14_orderProducts_35 : decode cX14_orderProducts 35 = .ok (.iconst 1, 1) := by decide +kernel
theorem dX14_orderProducts_36 : decode cX14_orderProducts 36 = .ok (.if_icmp .le 9, 3) := by decide +kernel
theorem dX14_orderProducts_39 : decode cX14_orderProducts 39 = .ok (.iload_n 1, 1) := by decide +kernel
theorem dX14_orderProducts_40 : decode cX14_orderProducts 40 = .ok (.iload_n 2, 1) := by decide +kernel
theorem dX14_orderProducts_41 : decode cX14_orderProducts 41 = .ok (.isub, 1) := by decide +kernel
theorem dX14_orderProducts_42 : decode cX14_orderProducts 42 = .ok (.goto 4, 3) := by decide +kernel
theorem dX14_orderProducts_45 : decode cX14_orderProducts 45 = .ok (.iconst 0, 1) := by decide +kernel
theorem dX14_orderProducts_46 : decode cX14_orderProducts 46 = .ok (.istore_n 3, 1) := by decide +kernel
theorem dX14_orderProducts_47 : decode cX14_orderProducts 47 = .ok (.iload_n 3, 1) := by decide +kernel
theorem dX14_orderProducts_48 : decode cX14_orderProducts 48 = .ok (.ifCond .lt 78, 3) := by decide +kernel
theorem dX14_orderProducts_51 : decode cX14_orderProducts 51 = .ok (.aload_n 0, 1) := by decide +kernel
theorem dX14_orderProducts_52 : decode cX14_orderProducts 52 = .ok (.getfield 10, 3) := by decide +kernel
theorem dX14_orderProducts_55 : decode cX14_orderProducts 55 = .ok (.aload_n 0, 1) := by decide +kernel
theorem dX14_orderProducts_56 : decode cX14_orderProducts 56 = .ok (.getfield 1, 3) := by decide +kernel
theorem dX14_orderProducts_59 : decode cX14_orderProducts 59 = .ok (.iload_n 1, 1) := by decide +kernel
theorem dX14_orderProducts_60 : decode cX14_orderProducts 60 = .ok (.iload_n 2, 1) := by decide +kernel
theorem dX14_orderProducts_61 : decode cX14_orderProducts 61 = .ok (.isub, 1) := by decide +kernel
theorem dX14_orderProducts_62 : decode cX14_orderProducts 62 = .ok (.iload_n 3, 1) := by decide +kernel
theorem dX14_orderProducts_63 : decode cX14_orderProducts 63 = .ok (.isub, 1) := by decide +kernel
theorem dX14_orderProducts_64 : decode cX14_orderProducts 64 = .ok (.iastore, 1) := by decide +kernel
theorem dX14_orderProducts_65 : decode cX14_orderProducts 65 = .ok (.aload_n 0, 1) := by decide +kernel
theorem dX14_orderProducts_66 : decode cX14_orderProducts 66 = .ok (.getfield 14, 3) := by decide +kernel
theorem dX14_orderProducts_69 : decode cX14_orderProducts 69 = .ok (.aload_n 0, 1) := by decide +kernel
theorem dX14_orderProducts_70 : decode cX14_orderProducts 70 = .ok (.getfield 1, 3) := by decide +kernel
theorem dX14_orderProducts_73 : decode cX14_orderProducts 73 = .ok (.iload_n 3, 1) := by decide +kernel
theorem dX14_orderProducts_74 : decode cX14_orderProducts 74 = .ok (.iastore, 1) := by decide +kernel
theorem dX14_orderProducts_75 : decode cX14_orderProducts 75 = .ok (.aload_n 0, 1) := by decide +kernel
theorem dX14_orderProducts_76 : decode cX14_orderProducts 76 = .ok (.getfield 17, 3) := by decide +kernel
theorem dX14_orderProducts_79 : decode cX14_orderProducts 79 = .ok (.aload_n 0, 1) := by decide +kernel
theorem dX14_orderProducts_80 : decode cX14_orderProducts 80 = .ok (.getfield 1, 3) := by decide +kernel
theorem dX14_orderProducts_83 : decode cX14_orderProducts 83 = .ok (.iload_n 2, 1) := by decide +kernel
theorem dX14_orderProducts_84 : decode cX14_orderProducts 84 = .ok (.iastore, 1) := by decide +kernel
theorem dX14_orderProducts_85 : decode cX14_orderProducts 85 = .ok (.aload_n 0, 1) := by decide +kernel
theorem dX14_orderProducts_86 : decode cX14_orderProducts 86 = .ok (.getfield 20, 3) := by decide +kernel
theorem dX14_orderProducts_89 : decode cX14_orderProducts 89 = .ok (.sipush 441, 3) := by decide +kernel
theorem dX14_orderProducts_92 : decode cX14_orderProducts 92 = .ok (.iload_n 1, 1) := by decide +kernel
theorem dX14_orderProducts_93 : decode cX14_orderProducts 93 = .ok (.iload_n 2, 1) := by decide +kernel
theorem dX14_orderProducts_94 : decode cX14_orderProducts 94 = .ok (.isub, 1) := by decide +kernel
theorem dX14_orderProducts_95 : decode cX14_orderProducts 95 = .ok (.iload_n 3, 1) := by decide +kernel
theorem dX14_orderProducts_96 : decode cX14_orderProducts 96 = .ok (.isub, 1) := by decide +kernel
theorem dX14_orderProducts_97 : decode cX14_orderProducts 97 = .ok (.imul, 1) := by decide +kernel
theorem dX14_orderProducts_98 : decode cX14_orderProducts 98 = .ok (.bipush 21, 2) := by decide +kernel
theorem dX14_orderProducts_100 : decode cX14_orderProducts 100 = .ok (.iload_n 3, 1) := by decide +kernel
theorem dX14_orderProducts_101 : decode cX14_orderProducts 101 = .ok (.imul, 1) := by decide +kernel
theorem dX14_orderProducts_102 : decode cX14_orderProducts 102 = .ok (.iadd, 1) := by decide +kernel
theorem dX14_orderProducts_103 : decode cX14_orderProducts 103 = .ok (.iload_n 2, 1) := by decide +kernel
theorem dX14_orderProducts_104 : decode cX14_orderProducts 104 = .ok (.iadd, 1) := by decide +kernel
theorem dX14_orderProducts_105 : decode cX14_orderProducts 105 = .ok (.aload_n 0, 1) := by decide +kernel
theorem dX14_orderProducts_106 : decode cX14_orderProducts 106 = .ok (.getfield 1, 3) := by decide +kernel
theorem dX14_orderProducts_109 : decode cX14_orderProducts 109 = .ok (.iastore, 1) := by decide +kernel
theorem dX14_orderProducts_110 : decode cX14_orderProducts 110 = .ok (.aload_n 0, 1) := by decide +kernel
theorem dX14_orderProducts_111 : decode cX14_orderProducts 111 = .ok (.dup, 1) := by decide +kernel
theorem dX14_orderProducts_112 : decode cX14_orderProducts 112 = .ok (.getfield 1, 3) := by decide +kernel
theorem dX14_orderProducts_115 : decode cX14_orderProducts 115 = .ok (.iconst 1, 1) := by decide +kernel
theorem dX14_orderProducts_116 : decode cX14_orderProducts 116 = .ok (.iadd, 1) := by decide +kernel
theorem dX14_orderProducts_117 : decode cX14_orderProducts 117 = .ok (.putfield 1, 3) := by decide +kernel
theorem dX14_orderProducts_120 : decode cX14_orderProducts 120 = .ok (.iinc 3 (-1), 3) := by decide +kernel
theorem dX14_orderProducts_123 : decode cX14_orderProducts 123 = .ok (.goto (-76), 3) := by decide +kernel
theorem dX14_orderProducts_126 : decode cX14_orderProducts 126 = .ok (.iinc 2 (-1), 3) := by decide +kernel
theorem dX14_orderProducts_129 : decode cX14_orderProducts 129 = .ok (.goto (-102), 3) := by decide +kernel
theorem dX14_orderProducts_132 : decode cX14_orderProducts 132 = .ok (.iinc 1 1, 3) := by decide +kernel
theorem dX14_orderProducts_135 : decode cX14_orderProducts 135 = .ok (.goto (-128), 3) := by decide +kernel
theorem dX14_orderProducts_138 : decode cX14_orderProducts 138 = .ok (.return_, 1) := by decide +kernel
def w_X14_orderProducts : List Cond := .code yX14_orderProducts cX14_orderProducts 4 none :: ([.fieldLink RX14 10 "RealSolverModel" "px" "[I", .fieldLink RX14 1 "RealSolverModel" "products" "I", .fieldLink RX14 14 "RealSolverModel" "py" "[I", .fieldLink RX14 17 "RealSolverModel" "pz" "[I", .fieldLink RX14 20 "RealSolverModel" "which" "[I", .fieldLink RX14 7 "RealSolverModel" "variables" "I"] ++ (wsX140 ++ ([] : List Cond)))
theorem in_X14_orderProducts_X14 : ∀ w ∈ wsX140, w ∈ w_X14_orderProducts := fun _ h => List.mem_cons_of_mem _ (List.mem_append_right _ (List.mem_append_left _ h))
def op_yl (b : Bool) (d z : Nat) : Nat := if b then 0 else d - z
def op_S (b : Bool) (d : Nat) : Nat → Nat
  | 0 => 0
  | n + 1 => (op_yl b d n + 1) + op_S b d n
def op_T (b1 b2 : Bool) : Nat → Nat
  | 0 => 0
  | k + 1 => op_S b1 (20 - k) ((if b2 then 0 else 20 - k) + 1) + op_T b1 b2 k
theorem op_all : ∀ b1 b2 : Bool, op_T b1 b2 21 ≤ 1771 := by decide +kernel
section OPW
variable {p : Program} {l : Launch} {e : Env} {R : Room} {s : State} {m : MethodId} {args : Array Value} {below : List Frame} {meth : Method} {c : Code} {Q : State → Prop} {dC : Nat → ClassId} {dI : Nat → Nat → Nat} {A : Nat → Prop} {cells slots : Nat}
set_option maxHeartbeats 4000000 in
set_option maxRecDepth 100000 in
theorem op_y (hx : p.tables.exec = Jvm.exec) (hb : c.code = cX14_orderProducts) (hts : ∀ w ∈ w_X14_orderProducts, w.before args s = true) (hown : s.vm.findClass RX14 = some m.cls) {h0 qx qy qz qw : Nat} {cx cy cz cw : ClassId} {v : Int32} {a0 a7 a8 a9 a10 a11 a12 a13 a14 a15 a16 a17 a18 a19 a20 a21 a22 a23 a24 a25 a26 a27 a28 a29 a30 a31 a32 a33 a34 a35 a36 a37 a38 a39 a40 a41 a42 a43 a44 a45 a46 a47 a48 a49 a50 a51 a52 a53 a54 a55 a56 a57 a58 a59 a60 a61 a62 a63 : Value} (hK : va_K (dC, dI) cls_ [(cx, .int), (cy, .int), (cz, .int), (cw, .int)] s) (hNx : nx_ s) {d z : Nat} (hd : d ≤ 20) (hz : z ≤ d) : ∀ (j P : Nat), j ≤ d - z + 1 → P + j ≤ 1771 → ∀ (y : Int32), y = nI j - 1 → ∀ (fx fy fz fw : Nat → Int32) (H : Heap) (locs : List Loc) (ls : Array Slot), va_P (dC, dI) cls_ [(h0, .inr (13, [a0, .int v, .int (nI P), .ref qx, .ref qy, .ref qz, .ref qw, a7, a8, a9, a10, a11, a12, a13, a14, a15, a16, a17, a18, a19, a20, a21, a22, a23, a24, a25, a26, a27, a28, a29, a30, a31, a32, a33, a34, a35, a36, a37, a38, a39, a40, a41, a42, a43, a44, a45, a46, a47, a48, a49, a50, a51, a52, a53, a54, a55, a56, a57, a58, a59, a60, a61, a62, a63])), (qx, .inl (cx, 1771, .inl fx)), (qy, .inl (cy, 1771, .inl fy)), (qz, .inl (cz, 1771, .inl fz)), (qw, .inl (cw, 9261, .inl fw))] H → va_D A [(h0, .inr (13, [a0, .int v, .int (nI P), .ref qx, .ref qy, .ref qz, .ref qw, a7, a8, a9, a10, a11, a12, a13, a14, a15, a16, a17, a18, a19, a20, a21, a22, a23, a24, a25, a26, a27, a28, a29, a30, a31, a32, a33, a34, a35, a36, a37, a38, a39, a40, a41, a42, a43, a44, a45, a46, a47, a48, a49, a50, a51, a52, a53, a54, a55, a56, a57, a58, a59, a60, a61, a62, a63])), (qx, .inl (cx, 1771, .inl fx)), (qy, .inl (cy, 1771, .inl fy)), (qz, .inl (cz, 1771, .inl fz)), (qw, .inl (cw, 9261, .inl fw))] → va_S A s.heap H locs → lv_has ls 4 [(3, .int y), (2, .int (nI z)), (1, .int (nI d)), (0, .ref h0)] →
    (∀ (fx fy fz fw : Nat → Int32) (H : Heap) (locs : List Loc) (ls : Array Slot) (y : Int32), va_P (dC, dI) cls_ [(h0, .inr (13, [a0, .int v, .int (nI (P + j)), .ref qx, .ref qy, .ref qz, .ref qw, a7, a8, a9, a10, a11, a12, a13, a14, a15, a16, a17, a18, a19, a20, a21, a22, a23, a24, a25, a26, a27, a28, a29, a30, a31, a32, a33, a34, a35, a36, a37, a38, a39, a40, a41, a42, a43, a44, a45, a46, a47, a48, a49, a50, a51, a52, a53, a54, a55, a56, a57, a58, a59, a60, a61, a62, a63])), (qx, .inl (cx, 1771, .inl fx)), (qy, .inl (cy, 1771, .inl fy)), (qz, .inl (cz, 1771, .inl fz)), (qw, .inl (cw, 9261, .inl fw))] H → va_D A [(h0, .inr (13, [a0, .int v, .int (nI (P + j)), .ref qx, .ref qy, .ref qz, .ref qw, a7, a8, a9, a10, a11, a12, a13, a14, a15, a16, a17, a18, a19, a20, a21, a22, a23, a24, a25, a26, a27, a28, a29, a30, a31, a32, a33, a34, a35, a36, a37, a38, a39, a40, a41, a42, a43, a44, a45, a46, a47, a48, a49, a50, a51, a52, a53, a54, a55, a56, a57, a58, a59, a60, a61, a62, a63])), (qx, .inl (cx, 1771, .inl fx)), (qy, .inl (cy, 1771, .inl fy)), (qz, .inl (cz, 1771, .inl fz)), (qw, .inl (cw, 9261, .inl fw))] → va_S A s.heap H locs → lv_has ls 4 [(3, .int y), (2, .int (nI z)), (1, .int (nI d)), (0, .ref h0)] → W p l e R s m args below meth c H locs cells slots Q (F0 m 126 ls [])) → W p l e R s m args below meth c H locs cells slots Q (F0 m 47 ls []) := by
  intro j
  induction j with
  | zero =>
    intro P _ _ y hy fx fy fz fw H locs ls hP hD hS hl kk
    refine lv_iload_n hx hb dX14_orderProducts_47 rfl (lv_at hl 0 rfl) ?_
    refine lv_if_lt (tgt := 126) hx hb dX14_orderProducts_48 (by decide) (fun _ => ?_) (fun c9 => absurd (by rw [hy]; decide) c9)
    exact kk fx fy fz fw H locs ls y hP hD hS hl
  | succ j ih =>
    intro P hj hPj y hy fx fy fz fw H locs ls hP hD hS hl kk
    obtain rfl : nI j = y := (hy.trans (nI_pred j)).symm
    refine lv_iload_n hx hb dX14_orderProducts_47 rfl (lv_at hl 0 rfl) ?_
    refine lv_if_lt (tgt := 126) hx hb dX14_orderProducts_48 (by decide) (fun c9 => absurd c9 (nI_pos (by omega))) (fun _ => ?_)
    refine lv_aload_n hx hb dX14_orderProducts_51 rfl (lv_at hl 3 rfl) ?_
    refine va_get (D := (dC, dI)) (ci := 13) (v := .ref qx) (C := RX14) (T := TX14) (N := 64) hx hb hts in_X14_orderProducts_X14 hown hK hP 0 rfl rfl 3 (by decide) (hts (.fieldLink RX14 10 "RealSolverModel" "px" "[I") (List.mem_of_getElem? (i := 1) rfl)) (fun _ h9 => h9) rfl dX14_orderProducts_52 ?_
    refine lv_aload_n hx hb dX14_orderProducts_55 rfl (lv_at hl 3 rfl) ?_
    refine va_get (D := (dC, dI)) (ci := 13) (v := .int (nI P)) (C := RX14) (T := TX14) (N := 64) hx hb hts in_X14_orderProducts_X14 hown hK hP 0 rfl rfl 2 (by decide) (hts (.fieldLink RX14 1 "RealSolverModel" "products" "I") (List.mem_of_getElem? (i := 2) rfl)) (fun _ h9 => h9) rfl dX14_orderProducts_56 ?_
    refine lv_iload_n hx hb dX14_orderProducts_59 rfl (lv_at hl 2 rfl) ?_
    refine lv_iload_n hx hb dX14_orderProducts_60 rfl (lv_at hl 1 rfl) ?_
    refine lv_isub hx hb dX14_orderProducts_61 ?_
    refine lv_topi (fun f_1 ef_1 => ?_)
    refine lv_iload_n hx hb dX14_orderProducts_62 rfl (lv_at hl 0 rfl) ?_
    refine lv_isub hx hb dX14_orderProducts_63 ?_
    refine lv_topi (fun f_2 ef_2 => ?_)
    have hi_3 : vp_in (nI P) 1771 := vp_in_nI (by omega) (by decide)
    refine va_iast hx hb hK hP hD hS 1 0 rfl rfl hi_3 dX14_orderProducts_64 (fun H locs hP hD hS => ?_)
    obtain ⟨g_4, eg_4⟩ : ∃ g : Nat → Int32, g = upd fx (Int32.toNatClampNeg (nI P)) f_2 := ⟨_, rfl⟩
    have hP : va_P (dC, dI) cls_ [(h0, .inr (13, [a0, .int v, .int (nI P), .ref qx, .ref qy, .ref qz, .ref qw, a7, a8, a9, a10, a11, a12, a13, a14, a15, a16, a17, a18, a19, a20, a21, a22, a23, a24, a25, a26, a27, a28, a29, a30, a31, a32, a33, a34, a35, a36, a37, a38, a39, a40, a41, a42, a43, a44, a45, a46, a47, a48, a49, a50, a51, a52, a53, a54, a55, a56, a57, a58, a59, a60, a61, a62, a63])), (qx, .inl (cx, 1771, .inl g_4)), (qy, .inl (cy, 1771, .inl fy)), (qz, .inl (cz, 1771, .inl fz)), (qw, .inl (cw, 9261, .inl fw))] H := by rw [eg_4]; exact hP
    have hD : va_D A [(h0, .inr (13, [a0, .int v, .int (nI P), .ref qx, .ref qy, .ref qz, .ref qw, a7, a8, a9, a10, a11, a12, a13, a14, a15, a16, a17, a18, a19, a20, a21, a22, a23, a24, a25, a26, a27, a28, a29, a30, a31, a32, a33, a34, a35, a36, a37, a38, a39, a40, a41, a42, a43, a44, a45, a46, a47, a48, a49, a50, a51, a52, a53, a54, a55, a56, a57, a58, a59, a60, a61, a62, a63])), (qx, .inl (cx, 1771, .inl g_4)), (qy, .inl (cy, 1771, .inl fy)), (qz, .inl (cz, 1771, .inl fz)), (qw, .inl (cw, 9261, .inl fw))] := by rw [eg_4]; exact hD
    refine lv_aload_n hx hb dX14_orderProducts_65 rfl (lv_at hl 3 rfl) ?_
    refine va_get (D := (dC, dI)) (ci := 13) (v := .ref qy) (C := RX14) (T := TX14) (N := 64) hx hb hts in_X14_orderProducts_X14 hown hK hP 0 rfl rfl 4 (by decide) (hts (.fieldLink RX14 14 "RealSolverModel" "py" "[I") (List.mem_of_getElem? (i := 3) rfl)) (fun _ h9 => h9) rfl dX14_orderProducts_66 ?_
    refine lv_aload_n hx hb dX14_orderProducts_69 rfl (lv_at hl 3 rfl) ?_
    refine va_get (D := (dC, dI)) (ci := 13) (v := .int (nI P)) (C := RX14) (T := TX14) (N := 64) hx hb hts in_X14_orderProducts_X14 hown hK hP 0 rfl rfl 2 (by decide) (hts (.fieldLink RX14 1 "RealSolverModel" "products" "I") (List.mem_of_getElem? (i := 2) rfl)) (fun _ h9 => h9) rfl dX14_orderProducts_70 ?_
    refine lv_iload_n hx hb dX14_orderProducts_73 rfl (lv_at hl 0 rfl) ?_
    have hi_5 : vp_in (nI P) 1771 := vp_in_nI (by omega) (by decide)
    refine va_iast hx hb hK hP hD hS 2 1 rfl rfl hi_5 dX14_orderProducts_74 (fun H locs hP hD hS => ?_)
    obtain ⟨g_6, eg_6⟩ : ∃ g : Nat → Int32, g = upd fy (Int32.toNatClampNeg (nI P)) (nI j) := ⟨_, rfl⟩
    have hP : va_P (dC, dI) cls_ [(h0, .inr (13, [a0, .int v, .int (nI P), .ref qx, .ref qy, .ref qz, .ref qw, a7, a8, a9, a10, a11, a12, a13, a14, a15, a16, a17, a18, a19, a20, a21, a22, a23, a24, a25, a26, a27, a28, a29, a30, a31, a32, a33, a34, a35, a36, a37, a38, a39, a40, a41, a42, a43, a44, a45, a46, a47, a48, a49, a50, a51, a52, a53, a54, a55, a56, a57, a58, a59, a60, a61, a62, a63])), (qx, .inl (cx, 1771, .inl g_4)), (qy, .inl (cy, 1771, .inl g_6)), (qz, .inl (cz, 1771, .inl fz)), (qw, .inl (cw, 9261, .inl fw))] H := by rw [eg_6]; exact hP
    have hD : va_D A [(h0, .inr (13, [a0, .int v, .int (nI P), .ref qx, .ref qy, .ref qz, .ref qw, a7, a8, a9, a10, a11, a12, a13, a14, a15, a16, a17, a18, a19, a20, a21, a22, a23, a24, a25, a26, a27, a28, a29, a30, a31, a32, a33, a34, a35, a36, a37, a38, a39, a40, a41, a42, a43, a44, a45, a46, a47, a48, a49, a50, a51, a52, a53, a54, a55, a56, a57, a58, a59, a60, a61, a62, a63])), (qx, .inl (cx, 1771, .inl g_4)), (qy, .inl (cy, 1771, .inl g_6)), (qz, .inl (cz, 1771, .inl fz)), (qw, .inl (cw, 9261, .inl fw))] := by rw [eg_6]; exact hD
    refine lv_aload_n hx hb dX14_orderProducts_75 rfl (lv_at hl 3 rfl) ?_
    refine va_get (D := (dC, dI)) (ci := 13) (v := .ref qz) (C := RX14) (T := TX14) (N := 64) hx hb hts in_X14_orderProducts_X14 hown hK hP 0 rfl rfl 5 (by decide) (hts (.fieldLink RX14 17 "RealSolverModel" "pz" "[I") (List.mem_of_getElem? (i := 4) rfl)) (fun _ h9 => h9) rfl dX14_orderProducts_76 ?_
    refine lv_aload_n hx hb dX14_orderProducts_79 rfl (lv_at hl 3 rfl) ?_
    refine va_get (D := (dC, dI)) (ci := 13) (v := .int (nI P)) (C := RX14) (T := TX14) (N := 64) hx hb hts in_X14_orderProducts_X14 hown hK hP 0 rfl rfl 2 (by decide) (hts (.fieldLink RX14 1 "RealSolverModel" "products" "I") (List.mem_of_getElem? (i := 2) rfl)) (fun _ h9 => h9) rfl dX14_orderProducts_80 ?_
    refine lv_iload_n hx hb dX14_orderProducts_83 rfl (lv_at hl 1 rfl) ?_
    have hi_7 : vp_in (nI P) 1771 := vp_in_nI (by omega) (by decide)
    refine va_iast hx hb hK hP hD hS 3 2 rfl rfl hi_7 dX14_orderProducts_84 (fun H locs hP hD hS => ?_)
    obtain ⟨g_8, eg_8⟩ : ∃ g : Nat → Int32, g = upd fz (Int32.toNatClampNeg (nI P)) (nI z) := ⟨_, rfl⟩
    have hP : va_P (dC, dI) cls_ [(h0, .inr (13, [a0, .int v, .int (nI P), .ref qx, .ref qy, .ref qz, .ref qw, a7, a8, a9, a10, a11, a12, a13, a14, a15, a16, a17, a18, a19, a20, a21, a22, a23, a24, a25, a26, a27, a28, a29, a30, a31, a32, a33, a34, a35, a36, a37, a38, a39, a40, a41, a42, a43, a44, a45, a46, a47, a48, a49, a50, a51, a52, a53, a54, a55, a56, a57, a58, a59, a60, a61, a62, a63])), (qx, .inl (cx, 1771, .inl g_4)), (qy, .inl (cy, 1771, .inl g_6)), (qz, .inl (cz, 1771, .inl g_8)), (qw, .inl (cw, 9261, .inl fw))] H := by rw [eg_8]; exact hP
    have hD : va_D A [(h0, .inr (13, [a0, .int v, .int (nI P), .ref qx, .ref qy, .ref qz, .ref qw, a7, a8, a9, a10, a11, a12, a13, a14, a15, a16, a17, a18, a19, a20, a21, a22, a23, a24, a25, a26, a27, a28, a29, a30, a31, a32, a33, a34, a35, a36, a37, a38, a39, a40, a41, a42, a43, a44, a45, a46, a47, a48, a49, a50, a51, a52, a53, a54, a55, a56, a57, a58, a59, a60, a61, a62, a63])), (qx, .inl (cx, 1771, .inl g_4)), (qy, .inl (cy, 1771, .inl g_6)), (qz, .inl (cz, 1771, .inl g_8)), (qw, .inl (cw, 9261, .inl fw))] := by rw [eg_8]; exact hD
    refine lv_aload_n hx hb dX14_orderProducts_85 rfl (lv_at hl 3 rfl) ?_
    refine va_get (D := (dC, dI)) (ci := 13) (v := .ref qw) (C := RX14) (T := TX14) (N := 64) hx hb hts in_X14_orderProducts_X14 hown hK hP 0 rfl rfl 6 (by decide) (hts (.fieldLink RX14 20 "RealSolverModel" "which" "[I") (List.mem_of_getElem? (i := 5) rfl)) (fun _ h9 => h9) rfl dX14_orderProducts_86 ?_
    refine lv_sipush (v := 441) hx hb dX14_orderProducts_89 (by decide) ?_
    refine lv_iload_n hx hb dX14_orderProducts_92 rfl (lv_at hl 2 rfl) ?_
    refine lv_iload_n hx hb dX14_orderProducts_93 rfl (lv_at hl 1 rfl) ?_
    refine lv_isub hx hb dX14_orderProducts_94 ?_
    refine lv_topi (fun f_9 ef_9 => ?_)
    refine lv_iload_n hx hb dX14_orderProducts_95 rfl (lv_at hl 0 rfl) ?_
    refine lv_isub hx hb dX14_orderProducts_96 ?_
    refine lv_topi (fun f_10 ef_10 => ?_)
    refine lv_imul hx hb dX14_orderProducts_97 ?_
    refine lv_topi (fun f_11 ef_11 => ?_)
    refine lv_bipush (v := 21) hx hb dX14_orderProducts_98 (by decide) ?_
    refine lv_iload_n hx hb dX14_orderProducts_100 rfl (lv_at hl 0 rfl) ?_
    refine lv_imul hx hb dX14_orderProducts_101 ?_
    refine lv_topi (fun f_12 ef_12 => ?_)
    refine lv_iadd hx hb dX14_orderProducts_102 ?_
    refine lv_topi (fun f_13 ef_13 => ?_)
    refine lv_iload_n hx hb dX14_orderProducts_103 rfl (lv_at hl 1 rfl) ?_
    refine lv_iadd hx hb dX14_orderProducts_104 ?_
    refine lv_topi (fun f_14 ef_14 => ?_)
    refine lv_aload_n hx hb dX14_orderProducts_105 rfl (lv_at hl 3 rfl) ?_
    refine va_get (D := (dC, dI)) (ci := 13) (v := .int (nI P)) (C := RX14) (T := TX14) (N := 64) hx hb hts in_X14_orderProducts_X14 hown hK hP 0 rfl rfl 2 (by decide) (hts (.fieldLink RX14 1 "RealSolverModel" "products" "I") (List.mem_of_getElem? (i := 2) rfl)) (fun _ h9 => h9) rfl dX14_orderProducts_106 ?_
    have hi_15 : vp_in f_14 9261 := by
        have e9 : f_14 = nI (441 * (d - z - j) + 21 * j + z) := by rw [ef_14, ef_13, ef_12, ef_11, ef_10, ef_9, pk_sub hz, pk_sub (show j ≤ d - z by omega), show (441 : Int32) = nI 441 from rfl, show (21 : Int32) = nI 21 from rfl, pk_mul, pk_mul, nI_add, nI_add]
        rw [e9]; exact vp_in_nI (by omega) (by decide)
    refine va_iast hx hb hK hP hD hS 4 3 rfl rfl hi_15 dX14_orderProducts_109 (fun H locs hP hD hS => ?_)
    obtain ⟨g_16, eg_16⟩ : ∃ g : Nat → Int32, g = upd fw (Int32.toNatClampNeg f_14) (nI P) := ⟨_, rfl⟩
    have hP : va_P (dC, dI) cls_ [(h0, .inr (13, [a0, .int v, .int (nI P), .ref qx, .ref qy, .ref qz, .ref qw, a7, a8, a9, a10, a11, a12, a13, a14, a15, a16, a17, a18, a19, a20, a21, a22, a23, a24, a25, a26, a27, a28, a29, a30, a31, a32, a33, a34, a35, a36, a37, a38, a39, a40, a41, a42, a43, a44, a45, a46, a47, a48, a49, a50, a51, a52, a53, a54, a55, a56, a57, a58, a59, a60, a61, a62, a63])), (qx, .inl (cx, 1771, .inl g_4)), (qy, .inl (cy, 1771, .inl g_6)), (qz, .inl (cz, 1771, .inl g_8)), (qw, .inl (cw, 9261, .inl g_16))] H := by rw [eg_16]; exact hP
    have hD : va_D A [(h0, .inr (13, [a0, .int v, .int (nI P), .ref qx, .ref qy, .ref qz, .ref qw, a7, a8, a9, a10, a11, a12, a13, a14, a15, a16, a17, a18, a19, a20, a21, a22, a23, a24, a25, a26, a27, a28, a29, a30, a31, a32, a33, a34, a35, a36, a37, a38, a39, a40, a41, a42, a43, a44, a45, a46, a47, a48, a49, a50, a51, a52, a53, a54, a55, a56, a57, a58, a59, a60, a61, a62, a63])), (qx, .inl (cx, 1771, .inl g_4)), (qy, .inl (cy, 1771, .inl g_6)), (qz, .inl (cz, 1771, .inl g_8)), (qw, .inl (cw, 9261, .inl g_16))] := by rw [eg_16]; exact hD
    refine lv_aload_n hx hb dX14_orderProducts_110 rfl (lv_at hl 3 rfl) ?_
    refine lv_dup hx hb dX14_orderProducts_111 rfl ?_
    refine va_get (D := (dC, dI)) (ci := 13) (v := .int (nI P)) (C := RX14) (T := TX14) (N := 64) hx hb hts in_X14_orderProducts_X14 hown hK hP 0 rfl rfl 2 (by decide) (hts (.fieldLink RX14 1 "RealSolverModel" "products" "I") (List.mem_of_getElem? (i := 2) rfl)) (fun _ h9 => h9) rfl dX14_orderProducts_112 ?_
    refine lv_iconst (v := 1) hx hb dX14_orderProducts_115 (by decide) ?_
    refine lv_iadd hx hb dX14_orderProducts_116 ?_
    refine lv_topi (fun f_17 ef_17 => ?_)
    obtain rfl : f_17 = nI (P + 1) := ef_17.trans (nI_1 P)
    refine va_put (D := (dC, dI)) (ci := 13) (v := .int (nI (P + 1))) (ty := .int) (C := RX14) (T := TX14) (N := 64) hx hb hts in_X14_orderProducts_X14 tyX14 tyX14_ok nmX14 hown hK hP hD hS 0 rfl rfl 2 (by decide) (hts (.fieldLink RX14 1 "RealSolverModel" "products" "I") (List.mem_of_getElem? (i := 2) rfl)) (fun _ h9 => h9) rfl (by decide +kernel) rfl rfl (Nat.le_of_ble_eq_true rfl) dX14_orderProducts_117 (fun H locs hP hD hS => ?_)
    have hP : va_P (dC, dI) cls_ [(h0, .inr (13, [a0, .int v, .int (nI (P + 1)), .ref qx, .ref qy, .ref qz, .ref qw, a7, a8, a9, a10, a11, a12, a13, a14, a15, a16, a17, a18, a19, a20, a21, a22, a23, a24, a25, a26, a27, a28, a29, a30, a31, a32, a33, a34, a35, a36, a37, a38, a39, a40, a41, a42, a43, a44, a45, a46, a47, a48, a49, a50, a51, a52, a53, a54, a55, a56, a57, a58, a59, a60, a61, a62, a63])), (qx, .inl (cx, 1771, .inl g_4)), (qy, .inl (cy, 1771, .inl g_6)), (qz, .inl (cz, 1771, .inl g_8)), (qw, .inl (cw, 9261, .inl g_16))] H := hP
    have hD : va_D A [(h0, .inr (13, [a0, .int v, .int (nI (P + 1)), .ref qx, .ref qy, .ref qz, .ref qw, a7, a8, a9, a10, a11, a12, a13, a14, a15, a16, a17, a18, a19, a20, a21, a22, a23, a24, a25, a26, a27, a28, a29, a30, a31, a32, a33, a34, a35, a36, a37, a38, a39, a40, a41, a42, a43, a44, a45, a46, a47, a48, a49, a50, a51, a52, a53, a54, a55, a56, a57, a58, a59, a60, a61, a62, a63])), (qx, .inl (cx, 1771, .inl g_4)), (qy, .inl (cy, 1771, .inl g_6)), (qz, .inl (cz, 1771, .inl g_8)), (qw, .inl (cw, 9261, .inl g_16))] := hD
    obtain ⟨i_18, ei_18⟩ : ∃ y : Int32, y = (nI j) + (-1) := ⟨_, rfl⟩
    refine lv_iinc (v := i_18) (lv' := [(3, .int i_18), (2, .int (nI z)), (1, .int (nI d)), (0, .ref h0)]) hx hb dX14_orderProducts_120 hl (k := 0) rfl (by rw [ei_18]; rfl) (by decide) rfl (fun ls hl => ?_)
    refine lv_goto (tgt := 47) hx hb dX14_orderProducts_123 (by decide) ?_
    exact ih (P + 1) (by omega) (by omega) i_18 (by rw [ei_18, Int32.sub_eq_add_neg]) g_4 g_6 g_8 g_16 H locs ls hP hD hS (lv_sub hl [0, 1, 2, 3] rfl) (fun fx fy fz fw H locs ls y hP hD hS hl => kk fx fy fz fw H locs ls y (by rw [show P + (j + 1) = P + 1 + j by omega]; exact hP) (by rw [show P + (j + 1) = P + 1 + j by omega]; exact hD) hS hl)
set_option maxHeartbeats 4000000 in
set_option maxRecDepth 100000 in
theorem op_z (hx : p.tables.exec = Jvm.exec) (hb : c.code = cX14_orderProducts) (hts : ∀ w ∈ w_X14_orderProducts, w.before args s = true) (hown : s.vm.findClass RX14 = some m.cls) {h0 qx qy qz qw : Nat} {cx cy cz cw : ClassId} {v : Int32} {a0 a7 a8 a9 a10 a11 a12 a13 a14 a15 a16 a17 a18 a19 a20 a21 a22 a23 a24 a25 a26 a27 a28 a29 a30 a31 a32 a33 a34 a35 a36 a37 a38 a39 a40 a41 a42 a43 a44 a45 a46 a47 a48 a49 a50 a51 a52 a53 a54 a55 a56 a57 a58 a59 a60 a61 a62 a63 : Value} (hK : va_K (dC, dI) cls_ [(cx, .int), (cy, .int), (cz, .int), (cw, .int)] s) (hNx : nx_ s) {d : Nat} (hd : d ≤ 20) : ∀ (jz P : Nat), jz ≤ d + 1 → P + op_S (decide (v ≤ 1)) d jz ≤ 1771 → ∀ (zz : Int32), zz = nI jz - 1 → ∀ (fx fy fz fw : Nat → Int32) (H : Heap) (locs : List Loc) (ls : Array Slot), va_P (dC, dI) cls_ [(h0, .inr (13, [a0, .int v, .int (nI P), .ref qx, .ref qy, .ref qz, .ref qw, a7, a8, a9, a10, a11, a12, a13, a14, a15, a16, a17, a18, a19, a20, a21, a22, a23, a24, a25, a26, a27, a28, a29, a30, a31, a32, a33, a34, a35, a36, a37, a38, a39, a40, a41, a42, a43, a44, a45, a46, a47, a48, a49, a50, a51, a52, a53, a54, a55, a56, a57, a58, a59, a60, a61, a62, a63])), (qx, .inl (cx, 1771, .inl fx)), (qy, .inl (cy, 1771, .inl fy)), (qz, .inl (cz, 1771, .inl fz)), (qw, .inl (cw, 9261, .inl fw))] H → va_D A [(h0, .inr (13, [a0, .int v, .int (nI P), .ref qx, .ref qy, .ref qz, .ref qw, a7, a8, a9, a10, a11, a12, a13, a14, a15, a16, a17, a18, a19, a20, a21, a22, a23, a24, a25, a26, a27, a28, a29, a30, a31, a32, a33, a34, a35, a36, a37, a38, a39, a40, a41, a42, a43, a44, a45, a46, a47, a48, a49, a50, a51, a52, a53, a54, a55, a56, a57, a58, a59, a60, a61, a62, a63])), (qx, .inl (cx, 1771, .inl fx)), (qy, .inl (cy, 1771, .inl fy)), (qz, .inl (cz, 1771, .inl fz)), (qw, .inl (cw, 9261, .inl fw))] → va_S A s.heap H locs → lv_has ls 4 [(2, .int zz), (1, .int (nI d)), (0, .ref h0)] →
    (∀ (fx fy fz fw : Nat → Int32) (H : Heap) (locs : List Loc) (ls : Array Slot) (zz : Int32), va_P (dC, dI) cls_ [(h0, .inr (13, [a0, .int v, .int (nI (P + op_S (decide (v ≤ 1)) d jz)), .ref qx, .ref qy, .ref qz, .ref qw, a7, a8, a9, a10, a11, a12, a13, a14, a15, a16, a17, a18, a19, a20, a21, a22, a23, a24, a25, a26, a27, a28, a29, a30, a31, a32, a33, a34, a35, a36, a37, a38, a39, a40, a41, a42, a43, a44, a45, a46, a47, a48, a49, a50, a51, a52, a53, a54, a55, a56, a57, a58, a59, a60, a61, a62, a63])), (qx, .inl (cx, 1771, .inl fx)), (qy, .inl (cy, 1771, .inl fy)), (qz, .inl (cz, 1771, .inl fz)), (qw, .inl (cw, 9261, .inl fw))] H → va_D A [(h0, .inr (13, [a0, .int v, .int (nI (P + op_S (decide (v ≤ 1)) d jz)), .ref qx, .ref qy, .ref qz, .ref qw, a7, a8, a9, a10, a11, a12, a13, a14, a15, a16, a17, a18, a19, a20, a21, a22, a23, a24, a25, a26, a27, a28, a29, a30, a31, a32, a33, a34, a35, a36, a37, a38, a39, a40, a41, a42, a43, a44, a45, a46, a47, a48, a49, a50, a51, a52, a53, a54, a55, a56, a57, a58, a59, a60, a61, a62, a63])), (qx, .inl (cx, 1771, .inl fx)), (qy, .inl (cy, 1771, .inl fy)), (qz, .inl (cz, 1771, .inl fz)), (qw, .inl (cw, 9261, .inl fw))] → va_S A s.heap H locs → lv_has ls 4 [(2, .int zz), (1, .int (nI d)), (0, .ref h0)] → W p l e R s m args below meth c H locs cells slots Q (F0 m 132 ls [])) → W p l e R s m args below meth c H locs cells slots Q (F0 m 27 ls []) := by
  intro jz
  induction jz with
  | zero =>
    intro P _ _ zz hzz fx fy fz fw H locs ls hP hD hS hl kk
    refine lv_iload_n hx hb dX14_orderProducts_27 rfl (lv_at hl 0 rfl) ?_
    refine lv_if_lt (tgt := 132) hx hb dX14_orderProducts_28 (by decide) (fun _ => ?_) (fun c9 => absurd (by rw [hzz]; decide) c9)
    exact kk fx fy fz fw H locs ls zz hP hD hS hl
  | succ jz ih =>
    intro P hj hPj zz hzz fx fy fz fw H locs ls hP hD hS hl kk
    obtain rfl : nI jz = zz := (hzz.trans (nI_pred jz)).symm
    refine lv_iload_n hx hb dX14_orderProducts_27 rfl (lv_at hl 0 rfl) ?_
    refine lv_if_lt (tgt := 132) hx hb dX14_orderProducts_28 (by decide) (fun c9 => absurd c9 (nI_pos (by omega))) (fun _ => ?_)
    refine lv_aload_n hx hb dX14_orderProducts_31 rfl (lv_at hl 2 rfl) ?_
    refine va_get (D := (dC, dI)) (ci := 13) (v := .int v) (C := RX14) (T := TX14) (N := 64) hx hb hts in_X14_orderProducts_X14 hown hK hP 0 rfl rfl 1 (by decide) (hts (.fieldLink RX14 7 "RealSolverModel" "variables" "I") (List.mem_of_getElem? (i := 6) rfl)) (fun _ h9 => h9) rfl dX14_orderProducts_32 ?_
    refine lv_iconst (v := 1) hx hb dX14_orderProducts_35 (by decide) ?_
    refine lv_icmp_le (tgt := 45) hx hb dX14_orderProducts_36 (by decide) (fun c_1 => ?_) (fun c_1 => ?_)
    · refine lv_iconst (v := 0) hx hb dX14_orderProducts_45 (by decide) ?_
      refine lv_istore_n (lv' := [(3, .int 0), (2, .int (nI jz)), (1, .int (nI d)), (0, .ref h0)]) hx hb dX14_orderProducts_46 rfl hl (by decide) rfl (fun ls hl => ?_)
      have hJ : op_S (decide (v ≤ 1)) d (jz + 1) = 1 + op_S (decide (v ≤ 1)) d jz := by simp [op_S, op_yl, c_1]
      refine op_y hx hb hts hown hK hNx hd (show jz ≤ d by omega) (1) P (by omega) (by omega) 0 (by decide) fx fy fz fw H locs ls hP hD hS (lv_sub hl [0, 1, 2, 3] rfl) (fun fx fy fz fw H locs ls y hP hD hS hl => ?_)
      obtain ⟨i_2, ei_2⟩ : ∃ y : Int32, y = (nI jz) + (-1) := ⟨_, rfl⟩
      refine lv_iinc (v := i_2) (lv' := [(2, .int i_2), (3, .int y), (1, .int (nI d)), (0, .ref h0)]) hx hb dX14_orderProducts_126 hl (k := 1) rfl (by rw [ei_2]; rfl) (by decide) rfl (fun ls hl => ?_)
      refine lv_goto (tgt := 27) hx hb dX14_orderProducts_129 (by decide) ?_
      exact ih (P + (1)) (by omega) (by omega) i_2 (by rw [ei_2, Int32.sub_eq_add_neg]) fx fy fz fw H locs ls hP hD hS (lv_sub hl [0, 2, 3] rfl) (fun fx fy fz fw H locs ls z hP hD hS hl => kk fx fy fz fw H locs ls z (by rw [show P + op_S (decide (v ≤ 1)) d (jz + 1) = P + (1) + op_S (decide (v ≤ 1)) d jz by omega]; exact hP) (by rw [show P + op_S (decide (v ≤ 1)) d (jz + 1) = P + (1) + op_S (decide (v ≤ 1)) d jz by omega]; exact hD) hS hl)
    · refine lv_iload_n hx hb dX14_orderProducts_39 rfl (lv_at hl 1 rfl) ?_
      refine lv_iload_n hx hb dX14_orderProducts_40 rfl (lv_at hl 0 rfl) ?_
      refine lv_isub hx hb dX14_orderProducts_41 ?_
      refine lv_topi (fun f_3 ef_3 => ?_)
      refine lv_goto (tgt := 46) hx hb dX14_orderProducts_42 (by decide) ?_
      refine lv_istore_n (lv' := [(3, .int f_3), (2, .int (nI jz)), (1, .int (nI d)), (0, .ref h0)]) hx hb dX14_orderProducts_46 rfl hl (by decide) rfl (fun ls hl => ?_)
      have hJ : op_S (decide (v ≤ 1)) d (jz + 1) = d - jz + 1 + op_S (decide (v ≤ 1)) d jz := by simp [op_S, op_yl, c_1]
      refine op_y hx hb hts hown hK hNx hd (show jz ≤ d by omega) (d - jz + 1) P (by omega) (by omega) f_3 (by rw [ef_3, pk_sub (show jz ≤ d by omega), nI_pred]) fx fy fz fw H locs ls hP hD hS (lv_sub hl [0, 1, 2, 3] rfl) (fun fx fy fz fw H locs ls y hP hD hS hl => ?_)
      obtain ⟨i_4, ei_4⟩ : ∃ y : Int32, y = (nI jz) + (-1) := ⟨_, rfl⟩
      refine lv_iinc (v := i_4) (lv' := [(2, .int i_4), (3, .int y), (1, .int (nI d)), (0, .ref h0)]) hx hb dX14_orderProducts_126 hl (k := 1) rfl (by rw [ei_4]; rfl) (by decide) rfl (fun ls hl => ?_)
      refine lv_goto (tgt := 27) hx hb dX14_orderProducts_129 (by decide) ?_
      exact ih (P + (d - jz + 1)) (by omega) (by omega) i_4 (by rw [ei_4, Int32.sub_eq_add_neg]) fx fy fz fw H locs ls hP hD hS (lv_sub hl [0, 2, 3] rfl) (fun fx fy fz fw H locs ls z hP hD hS hl => kk fx fy fz fw H locs ls z (by rw [show P + op_S (decide (v ≤ 1)) d (jz + 1) = P + (d - jz + 1) + op_S (decide (v ≤ 1)) d jz by omega]; exact hP) (by rw [show P + op_S (decide (v ≤ 1)) d (jz + 1) = P + (d - jz + 1) + op_S (decide (v ≤ 1)) d jz by omega]; exact hD) hS hl)
set_option maxHeartbeats 4000000 in
set_option maxRecDepth 100000 in
theorem op_d (hx : p.tables.exec = Jvm.exec) (hb : c.code = cX14_orderProducts) (hts : ∀ w ∈ w_X14_orderProducts, w.before args s = true) (hown : s.vm.findClass RX14 = some m.cls) {h0 qx qy qz qw : Nat} {cx cy cz cw : ClassId} {v : Int32} {a0 a7 a8 a9 a10 a11 a12 a13 a14 a15 a16 a17 a18 a19 a20 a21 a22 a23 a24 a25 a26 a27 a28 a29 a30 a31 a32 a33 a34 a35 a36 a37 a38 a39 a40 a41 a42 a43 a44 a45 a46 a47 a48 a49 a50 a51 a52 a53 a54 a55 a56 a57 a58 a59 a60 a61 a62 a63 : Value} (hK : va_K (dC, dI) cls_ [(cx, .int), (cy, .int), (cz, .int), (cw, .int)] s) (hNx : nx_ s) : ∀ (k P : Nat), k ≤ 21 → P + op_T (decide (v ≤ 1)) (decide (v ≤ 2)) k ≤ 1771 → ∀ (dd : Int32), dd = nI (21 - k) → ∀ (fx fy fz fw : Nat → Int32) (H : Heap) (locs : List Loc) (ls : Array Slot), va_P (dC, dI) cls_ [(h0, .inr (13, [a0, .int v, .int (nI P), .ref qx, .ref qy, .ref qz, .ref qw, a7, a8, a9, a10, a11, a12, a13, a14, a15, a16, a17, a18, a19, a20, a21, a22, a23, a24, a25, a26, a27, a28, a29, a30, a31, a32, a33, a34, a35, a36, a37, a38, a39, a40, a41, a42, a43, a44, a45, a46, a47, a48, a49, a50, a51, a52, a53, a54, a55, a56, a57, a58, a59, a60, a61, a62, a63])), (qx, .inl (cx, 1771, .inl fx)), (qy, .inl (cy, 1771, .inl fy)), (qz, .inl (cz, 1771, .inl fz)), (qw, .inl (cw, 9261, .inl fw))] H → va_D A [(h0, .inr (13, [a0, .int v, .int (nI P), .ref qx, .ref qy, .ref qz, .ref qw, a7, a8, a9, a10, a11, a12, a13, a14, a15, a16, a17, a18, a19, a20, a21, a22, a23, a24, a25, a26, a27, a28, a29, a30, a31, a32, a33, a34, a35, a36, a37, a38, a39, a40, a41, a42, a43, a44, a45, a46, a47, a48, a49, a50, a51, a52, a53, a54, a55, a56, a57, a58, a59, a60, a61, a62, a63])), (qx, .inl (cx, 1771, .inl fx)), (qy, .inl (cy, 1771, .inl fy)), (qz, .inl (cz, 1771, .inl fz)), (qw, .inl (cw, 9261, .inl fw))] → va_S A s.heap H locs → lv_has ls 4 [(1, .int dd), (0, .ref h0)] →
    (∀ (fx fy fz fw : Nat → Int32) (H : Heap) (locs : List Loc) (ls : Array Slot) (dd : Int32), va_P (dC, dI) cls_ [(h0, .inr (13, [a0, .int v, .int (nI (P + op_T (decide (v ≤ 1)) (decide (v ≤ 2)) k)), .ref qx, .ref qy, .ref qz, .ref qw, a7, a8, a9, a10, a11, a12, a13, a14, a15, a16, a17, a18, a19, a20, a21, a22, a23, a24, a25, a26, a27, a28, a29, a30, a31, a32, a33, a34, a35, a36, a37, a38, a39, a40, a41, a42, a43, a44, a45, a46, a47, a48, a49, a50, a51, a52, a53, a54, a55, a56, a57, a58, a59, a60, a61, a62, a63])), (qx, .inl (cx, 1771, .inl fx)), (qy, .inl (cy, 1771, .inl fy)), (qz, .inl (cz, 1771, .inl fz)), (qw, .inl (cw, 9261, .inl fw))] H → va_D A [(h0, .inr (13, [a0, .int v, .int (nI (P + op_T (decide (v ≤ 1)) (decide (v ≤ 2)) k)), .ref qx, .ref qy, .ref qz, .ref qw, a7, a8, a9, a10, a11, a12, a13, a14, a15, a16, a17, a18, a19, a20, a21, a22, a23, a24, a25, a26, a27, a28, a29, a30, a31, a32, a33, a34, a35, a36, a37, a38, a39, a40, a41, a42, a43, a44, a45, a46, a47, a48, a49, a50, a51, a52, a53, a54, a55, a56, a57, a58, a59, a60, a61, a62, a63])), (qx, .inl (cx, 1771, .inl fx)), (qy, .inl (cy, 1771, .inl fy)), (qz, .inl (cz, 1771, .inl fz)), (qw, .inl (cw, 9261, .inl fw))] → va_S A s.heap H locs → lv_has ls 4 [(1, .int dd), (0, .ref h0)] → W p l e R s m args below meth c H locs cells slots Q (F0 m 138 ls [])) → W p l e R s m args below meth c H locs cells slots Q (F0 m 7 ls []) := by
  intro k
  induction k with
  | zero =>
    intro P _ _ dd hdd fx fy fz fw H locs ls hP hD hS hl kk
    refine lv_iload_n hx hb dX14_orderProducts_7 rfl (lv_at hl 0 rfl) ?_
    refine lv_bipush (v := 20) hx hb dX14_orderProducts_8 (by decide) ?_
    refine lv_icmp_gt (tgt := 138) hx hb dX14_orderProducts_10 (by decide) (fun _ => ?_) (fun c9 => absurd (by rw [hdd]; decide) c9)
    exact kk fx fy fz fw H locs ls dd hP hD hS hl
  | succ k ih =>
    intro P hj hPj dd hdd fx fy fz fw H locs ls hP hD hS hl kk
    obtain rfl : nI (20 - k) = dd := (hdd.trans (by rw [show 21 - (k + 1) = 20 - k by omega])).symm
    refine lv_iload_n hx hb dX14_orderProducts_7 rfl (lv_at hl 0 rfl) ?_
    refine lv_bipush (v := 20) hx hb dX14_orderProducts_8 (by decide) ?_
    refine lv_icmp_gt (tgt := 138) hx hb dX14_orderProducts_10 (by decide) (fun c9 => absurd c9 (nI_nlt (a := 20) (b := 20 - k) (by omega) (by decide))) (fun _ => ?_)
    refine lv_aload_n hx hb dX14_orderProducts_13 rfl (lv_at hl 1 rfl) ?_
    refine va_get (D := (dC, dI)) (ci := 13) (v := .int v) (C := RX14) (T := TX14) (N := 64) hx hb hts in_X14_orderProducts_X14 hown hK hP 0 rfl rfl 1 (by decide) (hts (.fieldLink RX14 7 "RealSolverModel" "variables" "I") (List.mem_of_getElem? (i := 6) rfl)) (fun _ h9 => h9) rfl dX14_orderProducts_14 ?_
    refine lv_iconst (v := 2) hx hb dX14_orderProducts_17 (by decide) ?_
    refine lv_icmp_le (tgt := 25) hx hb dX14_orderProducts_18 (by decide) (fun c_1 => ?_) (fun c_1 => ?_)
    · refine lv_iconst (v := 0) hx hb dX14_orderProducts_25 (by decide) ?_
      refine lv_istore_n (lv' := [(2, .int 0), (1, .int (nI (20 - k))), (0, .ref h0)]) hx hb dX14_orderProducts_26 rfl hl (by decide) rfl (fun ls hl => ?_)
      have hJ : op_T (decide (v ≤ 1)) (decide (v ≤ 2)) (k + 1) = op_S (decide (v ≤ 1)) (20 - k) (1) + op_T (decide (v ≤ 1)) (decide (v ≤ 2)) k := by simp [op_T, c_1]
      refine op_z hx hb hts hown hK hNx (show 20 - k ≤ 20 by omega) (1) P (by omega) (by omega) 0 (by decide) fx fy fz fw H locs ls hP hD hS (lv_sub hl [0, 1, 2] rfl) (fun fx fy fz fw H locs ls zz hP hD hS hl => ?_)
      obtain ⟨i_2, ei_2⟩ : ∃ y : Int32, y = (nI (20 - k)) + 1 := ⟨_, rfl⟩
      refine lv_iinc (v := i_2) (lv' := [(1, .int i_2), (2, .int zz), (0, .ref h0)]) hx hb dX14_orderProducts_132 hl (k := 1) rfl (by rw [ei_2]; rfl) (by decide) rfl (fun ls hl => ?_)
      refine lv_goto (tgt := 7) hx hb dX14_orderProducts_135 (by decide) ?_
      exact ih (P + op_S (decide (v ≤ 1)) (20 - k) (1)) (by omega) (by omega) i_2 (by rw [ei_2, nI_1, show 20 - k + 1 = 21 - k by omega]) fx fy fz fw H locs ls hP hD hS (lv_sub hl [0, 2] rfl) (fun fx fy fz fw H locs ls dd hP hD hS hl => kk fx fy fz fw H locs ls dd (by rw [show P + op_T (decide (v ≤ 1)) (decide (v ≤ 2)) (k + 1) = P + op_S (decide (v ≤ 1)) (20 - k) (1) + op_T (decide (v ≤ 1)) (decide (v ≤ 2)) k by omega]; exact hP) (by rw [show P + op_T (decide (v ≤ 1)) (decide (v ≤ 2)) (k + 1) = P + op_S (decide (v ≤ 1)) (20 - k) (1) + op_T (decide (v ≤ 1)) (decide (v ≤ 2)) k by omega]; exact hD) hS hl)
    · refine lv_iload_n hx hb dX14_orderProducts_21 rfl (lv_at hl 0 rfl) ?_
      refine lv_goto (tgt := 26) hx hb dX14_orderProducts_22 (by decide) ?_
      refine lv_istore_n (lv' := [(2, .int (nI (20 - k))), (1, .int (nI (20 - k))), (0, .ref h0)]) hx hb dX14_orderProducts_26 rfl hl (by decide) rfl (fun ls hl => ?_)
      have hJ : op_T (decide (v ≤ 1)) (decide (v ≤ 2)) (k + 1) = op_S (decide (v ≤ 1)) (20 - k) (20 - k + 1) + op_T (decide (v ≤ 1)) (decide (v ≤ 2)) k := by simp [op_T, c_1]
      refine op_z hx hb hts hown hK hNx (show 20 - k ≤ 20 by omega) (20 - k + 1) P (by omega) (by omega) (nI (20 - k)) (nI_pred _).symm fx fy fz fw H locs ls hP hD hS (lv_sub hl [0, 1, 2] rfl) (fun fx fy fz fw H locs ls zz hP hD hS hl => ?_)
      obtain ⟨i_3, ei_3⟩ : ∃ y : Int32, y = (nI (20 - k)) + 1 := ⟨_, rfl⟩
      refine lv_iinc (v := i_3) (lv' := [(1, .int i_3), (2, .int zz), (0, .ref h0)]) hx hb dX14_orderProducts_132 hl (k := 1) rfl (by rw [ei_3]; rfl) (by decide) rfl (fun ls hl => ?_)
      refine lv_goto (tgt := 7) hx hb dX14_orderProducts_135 (by decide) ?_
      exact ih (P + op_S (decide (v ≤ 1)) (20 - k) (20 - k + 1)) (by omega) (by omega) i_3 (by rw [ei_3, nI_1, show 20 - k + 1 = 21 - k by omega]) fx fy fz fw H locs ls hP hD hS (lv_sub hl [0, 2] rfl) (fun fx fy fz fw H locs ls dd hP hD hS hl => kk fx fy fz fw H locs ls dd (by rw [show P + op_T (decide (v ≤ 1)) (decide (v ≤ 2)) (k + 1) = P + op_S (decide (v ≤ 1)) (20 - k) (20 - k + 1) + op_T (decide (v ≤ 1)) (decide (v ≤ 2)) k by omega]; exact hP) (by rw [show P + op_T (decide (v ≤ 1)) (decide (v ≤ 2)) (k + 1) = P + op_S (decide (v ≤ 1)) (20 - k) (20 - k + 1) + op_T (decide (v ≤ 1)) (decide (v ≤ 2)) k by omega]; exact hD) hS hl)
end OPW
set_option maxHeartbeats 4000000 in
set_option maxRecDepth 100000 in
theorem k_X14_orderProducts (l : Launch) (dC : Nat → ClassId) (dI : Nat → Nat → Nat) (h0 : Nat) (v : Int32) (a0 : Value) (a7 : Value) (a8 : Value) (a9 : Value) (a10 : Value) (a11 : Value) (a12 : Value) (a13 : Value) (a14 : Value) (a15 : Value) (a16 : Value) (a17 : Value) (a18 : Value) (a19 : Value) (a20 : Value) (a21 : Value) (a22 : Value) (a23 : Value) (a24 : Value) (a25 : Value) (a26 : Value) (a27 : Value) (a28 : Value) (a29 : Value) (a30 : Value) (a31 : Value) (a32 : Value) (a33 : Value) (a34 : Value) (a35 : Value) (a36 : Value) (a37 : Value) (a38 : Value) (a39 : Value) (a40 : Value) (a41 : Value) (a42 : Value) (a43 : Value) (a44 : Value) (a45 : Value) (a46 : Value) (a47 : Value) (a48 : Value) (a49 : Value) (a50 : Value) (a51 : Value) (a52 : Value) (a53 : Value) (a54 : Value) (a55 : Value) (a56 : Value) (a57 : Value) (a58 : Value) (a59 : Value) (a60 : Value) (a61 : Value) (a62 : Value) (a63 : Value) (b2 : Value) (qx : Nat) (qy : Nat) (qz : Nat) (qw : Nat) (cx : ClassId) (cy : ClassId) (cz : ClassId) (cw : ClassId) (fx : Nat → Int32) (fy : Nat → Int32) (fz : Nat → Int32) (fw : Nat → Int32) (sz : Nat) : Met l yX14_orderProducts w_X14_orderProducts ({ frames := 0, cells := 0, slots := 0, locals := 0 }) (va_Pc [.ref h0] (fun U => U.heap.size = sz ∧ va_P (dC, dI) cls_ [(h0, .inr (13, [a0, .int v, b2, .ref qx, .ref qy, .ref qz, .ref qw, a7, a8, a9, a10, a11, a12, a13, a14, a15, a16, a17, a18, a19, a20, a21, a22, a23, a24, a25, a26, a27, a28, a29, a30, a31, a32, a33, a34, a35, a36, a37, a38, a39, a40, a41, a42, a43, a44, a45, a46, a47, a48, a49, a50, a51, a52, a53, a54, a55, a56, a57, a58, a59, a60, a61, a62, a63])), (qx, .inl (cx, 1771, .inl fx)), (qy, .inl (cy, 1771, .inl fy)), (qz, .inl (cz, 1771, .inl fz)), (qw, .inl (cw, 9261, .inl fw))] U.heap ∧ va_K (dC, dI) cls_ [(cx, .int), (cy, .int), (cz, .int), (cw, .int)] U ∧ va_D (fun _ => True) [(h0, .inr (13, [a0, .int v, b2, .ref qx, .ref qy, .ref qz, .ref qw, a7, a8, a9, a10, a11, a12, a13, a14, a15, a16, a17, a18, a19, a20, a21, a22, a23, a24, a25, a26, a27, a28, a29, a30, a31, a32, a33, a34, a35, a36, a37, a38, a39, a40, a41, a42, a43, a44, a45, a46, a47, a48, a49, a50, a51, a52, a53, a54, a55, a56, a57, a58, a59, a60, a61, a62, a63])), (qx, .inl (cx, 1771, .inl fx)), (qy, .inl (cy, 1771, .inl fy)), (qz, .inl (cz, 1771, .inl fz)), (qw, .inl (cw, 9261, .inl fw))] ∧ nx_ U)) (va_Qv (fun _ : Unit => True) (fun _ t => ∃ (pr : Int32) (gx : Nat → Int32) (gy : Nat → Int32) (gz : Nat → Int32) (gw : Nat → Int32), va_P (dC, dI) cls_ [(h0, .inr (13, [a0, .int v, .int pr, .ref qx, .ref qy, .ref qz, .ref qw, a7, a8, a9, a10, a11, a12, a13, a14, a15, a16, a17, a18, a19, a20, a21, a22, a23, a24, a25, a26, a27, a28, a29, a30, a31, a32, a33, a34, a35, a36, a37, a38, a39, a40, a41, a42, a43, a44, a45, a46, a47, a48, a49, a50, a51, a52, a53, a54, a55, a56, a57, a58, a59, a60, a61, a62, a63])), (qx, .inl (cx, 1771, .inl gx)), (qy, .inl (cy, 1771, .inl gy)), (qz, .inl (cz, 1771, .inl gz)), (qw, .inl (cw, 9261, .inl gw))] t.heap ∧ va_K (dC, dI) cls_ [] t ∧ va_D (va_A [(h0, .inr (13, [a0, .int v, b2, .ref qx, .ref qy, .ref qz, .ref qw, a7, a8, a9, a10, a11, a12, a13, a14, a15, a16, a17, a18, a19, a20, a21, a22, a23, a24, a25, a26, a27, a28, a29, a30, a31, a32, a33, a34, a35, a36, a37, a38, a39, a40, a41, a42, a43, a44, a45, a46, a47, a48, a49, a50, a51, a52, a53, a54, a55, a56, a57, a58, a59, a60, a61, a62, a63])), (qx, .inl (cx, 1771, .inl fx)), (qy, .inl (cy, 1771, .inl fy)), (qz, .inl (cz, 1771, .inl fz)), (qw, .inl (cw, 9261, .inl fw))] sz) [(h0, .inr (13, [a0, .int v, .int pr, .ref qx, .ref qy, .ref qz, .ref qw, a7, a8, a9, a10, a11, a12, a13, a14, a15, a16, a17, a18, a19, a20, a21, a22, a23, a24, a25, a26, a27, a28, a29, a30, a31, a32, a33, a34, a35, a36, a37, a38, a39, a40, a41, a42, a43, a44, a45, a46, a47, a48, a49, a50, a51, a52, a53, a54, a55, a56, a57, a58, a59, a60, a61, a62, a63])), (qx, .inl (cx, 1771, .inl gx)), (qy, .inl (cy, 1771, .inl gy)), (qz, .inl (cz, 1771, .inl gz)), (qw, .inl (cw, 9261, .inl gw))]) (va_A [(h0, .inr (13, [a0, .int v, b2, .ref qx, .ref qy, .ref qz, .ref qw, a7, a8, a9, a10, a11, a12, a13, a14, a15, a16, a17, a18, a19, a20, a21, a22, a23, a24, a25, a26, a27, a28, a29, a30, a31, a32, a33, a34, a35, a36, a37, a38, a39, a40, a41, a42, a43, a44, a45, a46, a47, a48, a49, a50, a51, a52, a53, a54, a55, a56, a57, a58, a59, a60, a61, a62, a63])), (qx, .inl (cx, 1771, .inl fx)), (qy, .inl (cy, 1771, .inl fy)), (qz, .inl (cz, 1771, .inl fz)), (qw, .inl (cw, 9261, .inl fw))] sz)) 0 0 (va_A [(h0, .inr (13, [a0, .int v, b2, .ref qx, .ref qy, .ref qz, .ref qw, a7, a8, a9, a10, a11, a12, a13, a14, a15, a16, a17, a18, a19, a20, a21, a22, a23, a24, a25, a26, a27, a28, a29, a30, a31, a32, a33, a34, a35, a36, a37, a38, a39, a40, a41, a42, a43, a44, a45, a46, a47, a48, a49, a50, a51, a52, a53, a54, a55, a56, a57, a58, a59, a60, a61, a62, a63])), (qx, .inl (cx, 1771, .inl fx)), (qy, .inl (cy, 1771, .inl fy)), (qz, .inl (cz, 1771, .inl fz)), (qw, .inl (cw, 9261, .inl fw))] sz) := by
  refine Met.ofW (cc := cX14_orderProducts) (maxL := 4) (ret := none) (by decide) rfl ?_
  intro p e s m args below meth c s₁ B hml hv
  obtain ⟨rfl, hsz, hP, hK, hD0, hNx⟩ := hv
  have hx := B.exec
  have hb := B.bytes
  have hr := B.returns
  have hts := atoms_spec (ws := w_X14_orderProducts) B.pre
  have hown : s.vm.findClass RX14 = some m.cls := findClass_of_methodNamed B.named
  have hlocks := B.notSynchronized
  subst hsz
  have hD := hD0.self (sz := s.heap.size)
  generalize hAe : va_A [(h0, .inr (13, [a0, .int v, b2, .ref qx, .ref qy, .ref qz, .ref qw, a7, a8, a9, a10, a11, a12, a13, a14, a15, a16, a17, a18, a19, a20, a21, a22, a23, a24, a25, a26, a27, a28, a29, a30, a31, a32, a33, a34, a35, a36, a37, a38, a39, a40, a41, a42, a43, a44, a45, a46, a47, a48, a49, a50, a51, a52, a53, a54, a55, a56, a57, a58, a59, a60, a61, a62, a63])), (qx, .inl (cx, 1771, .inl fx)), (qy, .inl (cy, 1771, .inl fy)), (qz, .inl (cz, 1771, .inl fz)), (qw, .inl (cw, 9261, .inl fw))] s.heap.size = A at hD ⊢
  have hA : ∀ q : Nat, s.heap.size ≤ q → A q := fun q h => by rw [← hAe]; exact Or.inr h
  have hS : va_S A s.heap s.heap [] := va_S.rf
  have hP : va_P (dC, dI) cls_ [(h0, .inr (13, [a0, .int v, b2, .ref qx, .ref qy, .ref qz, .ref qw, a7, a8, a9, a10, a11, a12, a13, a14, a15, a16, a17, a18, a19, a20, a21, a22, a23, a24, a25, a26, a27, a28, a29, a30, a31, a32, a33, a34, a35, a36, a37, a38, a39, a40, a41, a42, a43, a44, a45, a46, a47, a48, a49, a50, a51, a52, a53, a54, a55, a56, a57, a58, a59, a60, a61, a62, a63])), (qx, .inl (cx, 1771, .inl fx)), (qy, .inl (cy, 1771, .inl fy)), (qz, .inl (cz, 1771, .inl fz)), (qw, .inl (cw, 9261, .inl fw))] s.heap := hP
  have hl := lv_entry ([.ref h0]) (n := 4) (Nat.le_of_ble_eq_true rfl)
  rw [lg_entry_eq]
  generalize (lg_sl ([.ref h0]) ++ List.replicate (4 - (lg_sl ([.ref h0])).length) Slot.unset).toArray = ls at hl ⊢
  have hl : lv_has ls 4 [(0, .ref h0)] := hl
  refine lv_aload_n hx hb dX14_orderProducts_0 rfl (lv_at hl 0 rfl) ?_
  refine lv_iconst (v := 0) hx hb dX14_orderProducts_1 (by decide) ?_
  refine va_put (D := (dC, dI)) (ci := 13) (v := .int 0) (ty := .int) (C := RX14) (T := TX14) (N := 64) hx hb hts in_X14_orderProducts_X14 tyX14 tyX14_ok nmX14 hown hK hP hD hS 0 rfl rfl 2 (by decide) (hts (.fieldLink RX14 1 "RealSolverModel" "products" "I") (List.mem_of_getElem? (i := 2) rfl)) (fun _ h9 => h9) rfl (by decide +kernel) rfl rfl (Nat.le_of_ble_eq_true rfl) dX14_orderProducts_2 (fun H locs hP hD hS => ?_)
  have hP : va_P (dC, dI) cls_ [(h0, .inr (13, [a0, .int v, .int 0, .ref qx, .ref qy, .ref qz, .ref qw, a7, a8, a9, a10, a11, a12, a13, a14, a15, a16, a17, a18, a19, a20, a21, a22, a23, a24, a25, a26, a27, a28, a29, a30, a31, a32, a33, a34, a35, a36, a37, a38, a39, a40, a41, a42, a43, a44, a45, a46, a47, a48, a49, a50, a51, a52, a53, a54, a55, a56, a57, a58, a59, a60, a61, a62, a63])), (qx, .inl (cx, 1771, .inl fx)), (qy, .inl (cy, 1771, .inl fy)), (qz, .inl (cz, 1771, .inl fz)), (qw, .inl (cw, 9261, .inl fw))] H := hP
  have hD : va_D A [(h0, .inr (13, [a0, .int v, .int 0, .ref qx, .ref qy, .ref qz, .ref qw, a7, a8, a9, a10, a11, a12, a13, a14, a15, a16, a17, a18, a19, a20, a21, a22, a23, a24, a25, a26, a27, a28, a29, a30, a31, a32, a33, a34, a35, a36, a37, a38, a39, a40, a41, a42, a43, a44, a45, a46, a47, a48, a49, a50, a51, a52, a53, a54, a55, a56, a57, a58, a59, a60, a61, a62, a63])), (qx, .inl (cx, 1771, .inl fx)), (qy, .inl (cy, 1771, .inl fy)), (qz, .inl (cz, 1771, .inl fz)), (qw, .inl (cw, 9261, .inl fw))] := hD
  refine lv_iconst (v := 0) hx hb dX14_orderProducts_5 (by decide) ?_
  refine lv_istore_n (lv' := [(1, .int 0), (0, .ref h0)]) hx hb dX14_orderProducts_6 rfl hl (by decide) rfl (fun ls hl => ?_)
  have hP : va_P (dC, dI) cls_ [(h0, .inr (13, [a0, .int v, .int (nI 0), .ref qx, .ref qy, .ref qz, .ref qw, a7, a8, a9, a10, a11, a12, a13, a14, a15, a16, a17, a18, a19, a20, a21, a22, a23, a24, a25, a26, a27, a28, a29, a30, a31, a32, a33, a34, a35, a36, a37, a38, a39, a40, a41, a42, a43, a44, a45, a46, a47, a48, a49, a50, a51, a52, a53, a54, a55, a56, a57, a58, a59, a60, a61, a62, a63])), (qx, .inl (cx, 1771, .inl fx)), (qy, .inl (cy, 1771, .inl fy)), (qz, .inl (cz, 1771, .inl fz)), (qw, .inl (cw, 9261, .inl fw))] H := hP
  have hD : va_D A [(h0, .inr (13, [a0, .int v, .int (nI 0), .ref qx, .ref qy, .ref qz, .ref qw, a7, a8, a9, a10, a11, a12, a13, a14, a15, a16, a17, a18, a19, a20, a21, a22, a23, a24, a25, a26, a27, a28, a29, a30, a31, a32, a33, a34, a35, a36, a37, a38, a39, a40, a41, a42, a43, a44, a45, a46, a47, a48, a49, a50, a51, a52, a53, a54, a55, a56, a57, a58, a59, a60, a61, a62, a63])), (qx, .inl (cx, 1771, .inl fx)), (qy, .inl (cy, 1771, .inl fy)), (qz, .inl (cz, 1771, .inl fz)), (qw, .inl (cw, 9261, .inl fw))] := hD
  have hl := lv_sub (l' := [(1, .int (nI (21 - 21))), (0, .ref h0)]) hl [0, 1] rfl
  refine op_d hx hb hts hown hK hNx 21 0 (by omega) (by have := op_all (decide (v ≤ 1)) (decide (v ≤ 2)); omega) _ rfl fx fy fz fw H locs ls hP hD hS hl (fun fx9 fy9 fz9 fw9 H locs ls dd hP hD hS hl => ?_)
  refine W.widen (k := 0) (n := 0) (Nat.le_of_ble_eq_true rfl) (Nat.le_of_ble_eq_true rfl) ?_
  have hP9 := hP.sub (ws' := [(h0, .inr (13, [a0, .int v, .int (nI (0 + op_T (decide (v ≤ 1)) (decide (v ≤ 2)) 21)), .ref qx, .ref qy, .ref qz, .ref qw, a7, a8, a9, a10, a11, a12, a13, a14, a15, a16, a17, a18, a19, a20, a21, a22, a23, a24, a25, a26, a27, a28, a29, a30, a31, a32, a33, a34, a35, a36, a37, a38, a39, a40, a41, a42, a43, a44, a45, a46, a47, a48, a49, a50, a51, a52, a53, a54, a55, a56, a57, a58, a59, a60, a61, a62, a63])), (qx, .inl (cx, 1771, .inl fx9)), (qy, .inl (cy, 1771, .inl fy9)), (qz, .inl (cz, 1771, .inl fz9)), (qw, .inl (cw, 9261, .inl fw9))]) [0, 1, 2, 3, 4] rfl
  have hD9 := hD.sub (ws' := [(h0, .inr (13, [a0, .int v, .int (nI (0 + op_T (decide (v ≤ 1)) (decide (v ≤ 2)) 21)), .ref qx, .ref qy, .ref qz, .ref qw, a7, a8, a9, a10, a11, a12, a13, a14, a15, a16, a17, a18, a19, a20, a21, a22, a23, a24, a25, a26, a27, a28, a29, a30, a31, a32, a33, a34, a35, a36, a37, a38, a39, a40, a41, a42, a43, a44, a45, a46, a47, a48, a49, a50, a51, a52, a53, a54, a55, a56, a57, a58, a59, a60, a61, a62, a63])), (qx, .inl (cx, 1771, .inl fx9)), (qy, .inl (cy, 1771, .inl fy9)), (qz, .inl (cz, 1771, .inl fz9)), (qw, .inl (cw, 9261, .inl fw9))]) [0, 1, 2, 3, 4] (by decide) rfl
  have hK9 := hK.sub (tys' := []) [] rfl
  exact W.vret hx hb hr (fun t ht hW => ⟨⟨(), rfl, trivial, ⟨(nI (0 + op_T (decide (v ≤ 1)) (decide (v ≤ 2)) 21)), fx9, fy9, fz9, fw9, by rw [ht]; exact hP9, va_K.moved hW.alike hK9, hD9⟩⟩, hS.F ht⟩) hS.2.2 dX14_orderProducts_138
