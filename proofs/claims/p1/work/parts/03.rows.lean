/-- what rides beside the tables' words: arrays of objects and of arrays, and what nest mates link -/
def nx_ (U : State) : Prop := va_AO RX1 U ∧ va_AO RX9 U ∧ va_AO RX13 U ∧ (Cond.arrayOver (.array .int)).before #[] U = true ∧ (Cond.arrayOver (.array (.array .int))).before #[] U = true ∧ (Cond.arrayOver (.array .long)).before #[] U = true ∧ va_Nw (.methodLinkNest RX11 31 ⟨RX7, "<init>", "()V"⟩ "RealSolver") U ∧ va_Nw (.methodLinkNest RX4 49 ⟨RX1, "<init>", "()V"⟩ "RealSolver") U ∧ va_Nw (.methodLinkNest RX8 9 ⟨RX1, "<init>", "()V"⟩ "RealSolver") U ∧ va_Nw (.methodLinkNest RX9 11 ⟨RX1, "<init>", "()V"⟩ "RealSolver") U ∧ va_Nw (.methodLinkNest RX14 564 ⟨RX12, "<init>", "()V"⟩ "RealSolverModel") U ∧ va_Nw (.fieldLinkNest RX14 85 "RealSolverModel$Bigs" "top" "I" "RealSolverModel") U ∧ va_Nw (.fieldLinkNest RX14 88 "RealSolverModel$Bigs" "many" "I" "RealSolverModel") U
theorem nx_.ao_RX1 {U : State} (h : nx_ U) : va_AO RX1 U := h.1
theorem nx_.ao_RX9 {U : State} (h : nx_ U) : va_AO RX9 U := h.2.1
theorem nx_.ao_RX13 {U : State} (h : nx_ U) : va_AO RX13 U := h.2.2.1
theorem nx_.ai {U : State} (h : nx_ U) : (Cond.arrayOver (.array .int)).before #[] U = true := h.2.2.2.1
theorem nx_.aai {U : State} (h : nx_ U) : (Cond.arrayOver (.array (.array .int))).before #[] U = true := h.2.2.2.2.1
theorem nx_.al {U : State} (h : nx_ U) : (Cond.arrayOver (.array .long)).before #[] U = true := h.2.2.2.2.2.1
theorem nx_.ml_RX11_31 {U : State} (h : nx_ U) : va_Nw (.methodLinkNest RX11 31 ⟨RX7, "<init>", "()V"⟩ "RealSolver") U := h.2.2.2.2.2.2.1
theorem nx_.ml_RX4_49 {U : State} (h : nx_ U) : va_Nw (.methodLinkNest RX4 49 ⟨RX1, "<init>", "()V"⟩ "RealSolver") U := h.2.2.2.2.2.2.2.1
theorem nx_.ml_RX8_9 {U : State} (h : nx_ U) : va_Nw (.methodLinkNest RX8 9 ⟨RX1, "<init>", "()V"⟩ "RealSolver") U := h.2.2.2.2.2.2.2.2.1
theorem nx_.ml_RX9_11 {U : State} (h : nx_ U) : va_Nw (.methodLinkNest RX9 11 ⟨RX1, "<init>", "()V"⟩ "RealSolver") U := h.2.2.2.2.2.2.2.2.2.1
theorem nx_.ml_RX14_564 {U : State} (h : nx_ U) : va_Nw (.methodLinkNest RX14 564 ⟨RX12, "<init>", "()V"⟩ "RealSolverModel") U := h.2.2.2.2.2.2.2.2.2.2.1
theorem nx_.fl_RX14_85 {U : State} (h : nx_ U) : va_Nw (.fieldLinkNest RX14 85 "RealSolverModel$Bigs" "top" "I" "RealSolverModel") U := h.2.2.2.2.2.2.2.2.2.2.2.1
theorem nx_.fl_RX14_88 {U : State} (h : nx_ U) : va_Nw (.fieldLinkNest RX14 88 "RealSolverModel$Bigs" "many" "I" "RealSolverModel") U := h.2.2.2.2.2.2.2.2.2.2.2.2
theorem nx_.same {u U : State} (e : u.vm = U.vm) (h : nx_ u) : nx_ U := ⟨va_AO.moved (e ▸ Vm.Alike.refl u.vm) h.ao_RX1, va_AO.moved (e ▸ Vm.Alike.refl u.vm) h.ao_RX9, va_AO.moved (e ▸ Vm.Alike.refl u.vm) h.ao_RX13, over_moved (e ▸ Vm.Alike.refl u.vm) h.ai, over_moved (e ▸ Vm.Alike.refl u.vm) h.aai, over_moved (e ▸ Vm.Alike.refl u.vm) h.al, va_Nw.same rfl e h.ml_RX11_31, va_Nw.same rfl e h.ml_RX4_49, va_Nw.same rfl e h.ml_RX8_9, va_Nw.same rfl e h.ml_RX9_11, va_Nw.same rfl e h.ml_RX14_564, va_Nw.same rfl e h.fl_RX14_85, va_Nw.same rfl e h.fl_RX14_88⟩
theorem nx_.warm {s U : State} (hW : s.WarmedH U.vm) (h : nx_ s) : nx_ U := ⟨va_AO.moved hW.alike h.ao_RX1, va_AO.moved hW.alike h.ao_RX9, va_AO.moved hW.alike h.ao_RX13, over_moved hW.alike h.ai, over_moved hW.alike h.aai, over_moved hW.alike h.al, va_Nw.warmM hW h.ml_RX11_31, va_Nw.warmM hW h.ml_RX4_49, va_Nw.warmM hW h.ml_RX8_9, va_Nw.warmM hW h.ml_RX9_11, va_Nw.warmM hW h.ml_RX14_564, va_Nw.warmF hW h.fl_RX14_85, va_Nw.warmF hW h.fl_RX14_88⟩
-- rows of my own: an array of arrays is made, and nothing of it is kept in the world
theorem ax_grow {D : va_G} {cl : List vw_C} {ws : va_W} {A : Nat → Prop} {H0 H H1 : Heap} {locs : List Loc} (hP : va_P D cl ws H) (hS : va_S A H0 H locs) (hz : H.size ≤ H1.size) (ho : ∀ q : Nat, q < H.size → H1[q]? = H[q]?) : va_P D cl ws H1 ∧ va_S A H0 H1 locs :=
  ⟨hP.kept (fun k x hx => ho x.1 ((hP k x hx).lt)), Nat.le_trans hS.1 hz, fun x h1 h2 => (ho x (Nat.lt_of_lt_of_le h1 hS.1)).trans (hS.2.1 x h1 h2), hS.2.2⟩
section AXR
variable {p : Program} {l : Launch} {e : Env} {R : Room} {s : State} {m : MethodId} {args : Array Value} {below : List Frame} {meth : Method} {c : Code} {H : Heap} {locs : List Loc} {cells slots : Nat} {Q : State → Prop}
variable {cc : ByteArray} {pc : Nat} {ls : Array Slot} {rest : List Value} {D : va_G} {cl : List vw_C} {A : Nat → Prop} {ws : va_W} {H0 : Heap}
theorem ax_newA (hexec : p.tables.exec = Jvm.exec) (hb : c.code = cc) {own C : String} {index : Nat} {t : FieldType} (hown : s.vm.findClass own = some m.cls) (hclink : (Cond.classLink own index C).before args s = true) (hover : (Cond.arrayOver (.array t)).before #[] s = true) (hP : va_P D cl ws H) (hD : va_D A ws) (hS : va_S A H0 H locs) (_hA : ∀ q, H0.size ≤ q → A q)
    {n : Int32} {N' : Nat} (hn : ¬ n < 0) (hN : n.toNatClampNeg = N') (hbC : N' * 4 ≤ 536870912 ∧ C = (FieldType.array t).toString) (hcells : cells + 1 ≤ R.cells) (hslots : slots + N' ≤ R.slots) (hdg : decode cc pc = .ok (.anewarray index, 3))
    (kk : ∀ (q : Nat) (H1 : Heap), va_P D cl ws H1 → va_D A ws → va_S A H0 H1 locs → W p l e R s m args below meth c H1 locs (cells + 1) (slots + N') Q (F0 m (pc + 3) ls (.ref q :: rest))) : W p l e R s m args below meth c H locs cells slots Q (F0 m pc ls (.int n :: rest)) := by
  obtain ⟨hbytes, rfl⟩ := hbC
  subst hN
  refine W.anewA hexec hb hown hclink (over_moved (Vm.Alike.refl _) hover) rfl hdg rfl hn hbytes hcells hslots fun cA kA comp f1 f2 f3 f4 => ?_
  obtain ⟨h1, h2⟩ := ax_grow (H1 := H.push { cls := cA, slots := Array.replicate n.toNatClampNeg .null, vm := .none }) hP hS (by rw [Array.size_push]; omega) (fun q hq => by rw [Array.getElem?_push, if_neg (Nat.ne_of_lt hq)])
  exact kk H.size _ h1 hD h2
end AXR
def gm_c (c : ClassId) (n : Nat) (v : Value) : Cell := { cls := c, slots := Array.replicate n v, vm := .none }
/-- t comes of s by one outer array and i inner ones, each put at its place -/
def gm_R (s : State) (cA cB : ClassId) (N K : Nat) (z : Value) : Nat → State → Prop
  | 0, t => t = s.pushCell (gm_c cA N .null)
  | i + 1, t => ∃ (u : State) (o : Cell), gm_R s cA cB N K z i u ∧ u.heap[s.heap.size]? = some o ∧ t = (u.pushCell (gm_c cB K z)).setCell s.heap.size (o.setSlot i (.ref u.heap.size))
theorem gm_facts {s : State} {cA cB : ClassId} {N K : Nat} {z : Value} : ∀ (i : Nat) (t : State), gm_R s cA cB N K z i t → t.heap.size = s.heap.size + 1 + i ∧ t.vm = s.vm ∧ t.slotsUsed = s.slotsUsed + N + i * K ∧ (∃ o : Cell, t.heap[s.heap.size]? = some o ∧ o.cls = cA ∧ o.vm = .none ∧ o.slots.size = N) ∧ ∀ a, a < s.heap.size → t.heap[a]? = s.heap[a]?
  | 0, t, h => by
    have h : t = s.pushCell (gm_c cA N .null) := h
    subst h
    refine ⟨by simp, rfl, by simp [gm_c], ⟨_, State.heap_pushCell_size _ _, rfl, rfl, by simp [gm_c]⟩, fun a ha => State.heap_pushCell_of_lt _ _ ha⟩
  | i + 1, t, h => by
    obtain ⟨u, o, hu, ho, rfl⟩ := h
    obtain ⟨f1, f2, f3, ⟨o', g1, g2, g3, g4⟩, f5⟩ := gm_facts i u hu
    have eo : o' = o := Option.some.inj (g1.symm.trans ho)
    subst eo
    have hlt : s.heap.size < u.heap.size := by omega
    have hcell : (u.pushCell (gm_c cB K z)).heap[s.heap.size]? = some o' := by rw [State.heap_pushCell_of_lt (h := hlt)]; exact ho
    refine ⟨by simp [State.setCell, f1]; omega, f2, by simp [State.setCell, f3, gm_c, Nat.succ_mul]; omega, ⟨_, State.heap_setCell_self hcell, by simp [Cell.setSlot, g2], by simp [Cell.setSlot, g3], by simp [Cell.setSlot, g4]⟩, fun a ha => ?_⟩
    have hla : a < u.heap.size := by omega
    rw [State.heap_setCell_other (show s.heap.size ≠ a by omega), State.heap_pushCell_of_lt (h := hla)]
    exact f5 a ha
theorem gm_top {s : State} {f : JFrame} {cA cB : ClassId} {N K : Nat} {z : Value} : ∀ (i : Nat) (t : State), gm_R (s.setTop f) cA cB N K z i t → ∃ t0, gm_R s cA cB N K z i t0 ∧ t = t0.setTop f
  | 0, t, h => ⟨_, rfl, h⟩
  | i + 1, t, h => by
    obtain ⟨u, o, hu, ho, rfl⟩ := h
    obtain ⟨u0, hu0, rfl⟩ := gm_top i u hu
    refine ⟨_, ⟨u0, o, hu0, ho, rfl⟩, ?_⟩
    simp only [State.heap_setTop, State.pushCell_setTop, State.setCell_setTop]
section GMW
variable {E : CtlPost} {e : Env} {d : Bool} {acts : List Action} {s : State}
theorem gm_new {c comp : ClassId} {k : Class} {type : FieldType} {len : Nat} {init : Value} (hk : s.vm.classes[c]? = some k) (hkind : k.kind = .array comp type) (hlimit : ¬ len > e.platform.arrayLengthLimit) (hheap : ¬ len * componentBytes type > e.platform.maxHeapBytes) (hfit : fits type init = true) (hdef : init.isDefault = true) {Q : Addr → Pre}
    (h1 : s.heap.size < e.platform.maxCells) (h2 : s.slotsUsed + len ≤ e.platform.maxSlots) (hq : Q s.heap.size d acts (s.pushCell (gm_c c len init))) : wp (Jvm.newArray c len init) Q E e d acts s := by
  have hall : ((Array.replicate len init).all (·.isDefault)) = true := by rw [Array.all_replicate]; split <;> simp [hdef]
  have hda : allocActs (Array.replicate len init) s.heap.size acts = acts := by unfold allocActs; rw [if_pos hall]
  have hfits : ∀ i v, (Array.replicate len init)[i]? = some v → s.fitsSlot c .none i v = true := fun i v hv => by
    rw [Array.getElem?_replicate] at hv
    split at hv
    · cases hv; simp [State.fitsSlot, State.slotType?, hk, hkind, hfit]
    · cases hv
  simp only [Jvm.newArray, Jvm.arrayFits, wp_bind', W.ask, W.ite, hlimit, if_false, wp_pure', W.theClass, hk, hkind, hheap, W.alloc, W.stop, Option.some.injEq, exists_eq_left', Array.size_replicate, hda]
  rw [if_neg (by omega)]
  exact ⟨h1, h2, hfits, hq⟩
theorem gm_two {c comp cc : ClassId} {k kc : Class} {ty : FieldType} {n m : Int32} (hk : s.vm.classes[c]? = some k) (hkind : k.kind = .array comp (.array ty)) (hkc : s.vm.classes[comp]? = some kc) (hkindc : kc.kind = .array cc ty) (hn : ¬ n < 0) (hm : ¬ m < 0)
    (hl1 : ¬ n.toNatClampNeg > e.platform.arrayLengthLimit) (hh1 : ¬ n.toNatClampNeg * componentBytes (.array ty) > e.platform.maxHeapBytes) (hl2 : ¬ m.toNatClampNeg > e.platform.arrayLengthLimit) (hh2 : ¬ m.toNatClampNeg * componentBytes ty > e.platform.maxHeapBytes)
    (hdf : fits ty (defaultValue ty) = true) (hdd : (defaultValue ty).isDefault = true) (hc : s.heap.size + (1 + n.toNatClampNeg) ≤ e.platform.maxCells) (hs : s.slotsUsed + (n.toNatClampNeg + n.toNatClampNeg * m.toNatClampNeg) ≤ e.platform.maxSlots)
    {Q : Addr → Pre} (hq : ∀ d' acts' t, gm_R s c comp n.toNatClampNeg m.toNatClampNeg (defaultValue ty) n.toNatClampNeg t → Q s.heap.size d' acts' t) : wp (multianewarray.make c [n, m]) Q E e d acts s := by
  have hfind : ([m].find? (· < 0)) = none := by simp [hm]
  rw [multianewarray.make]
  simp only [wp_bind', W.ite, hn, if_false, wp_pure', W.theClass, hk, hkind, Option.some.injEq, exists_eq_left']
  refine gm_new hk hkind hl1 hh1 rfl rfl (by omega) (by omega) ?_
  simp only [hfind]
  rw [ite_self, wp_bind', Std.Legacy.Range.forIn_eq_forIn_range']
  have hsz : ([:n.toNatClampNeg] : Std.Legacy.Range).size = n.toNatClampNeg := by simp [Std.Legacy.Range.size]
  rw [hsz]
  show wp (forIn (List.range' 0 n.toNatClampNeg 1) PUnit.unit _) _ E e d acts _
  generalize hN : n.toNatClampNeg = N at *
  generalize hM : m.toNatClampNeg = M at *
  refine wp_forIn_inv (fun rest u => ∃ i, i ≤ N ∧ rest = List.range' i (N - i) ∧ gm_R s c comp N M (defaultValue ty) i u) _ _ ⟨0, Nat.zero_le _, rfl, rfl⟩ ?_ ?_
  · rintro x rest u d' acts' Q' ⟨i, hi, hl, hu⟩ hnext
    have hlt : i < N := by
      rcases Nat.lt_or_ge i N with h | h
      · exact h
      · rw [show N - i = 0 by omega] at hl; simp at hl
    rw [show N - i = (N - (i + 1)) + 1 by omega, List.range'_succ] at hl
    obtain ⟨rfl, hrest⟩ := List.cons.inj hl
    obtain ⟨f1, f2, f3, ⟨o, g1, g2, g3, g4⟩, f5⟩ := gm_facts x u hu
    have hmul : x * M + M ≤ N * M := by have := Nat.mul_le_mul_right M (show x + 1 ≤ N from hlt); rw [Nat.succ_mul] at this; exact this
    have hlt0 : s.heap.size < u.heap.size := by omega
    simp only [wp_bind']
    rw [multianewarray.make]
    simp only [wp_bind', W.ite, hm, if_false, wp_pure', W.theClass, f2, hkc, hkindc, Option.some.injEq, exists_eq_left', hM]
    refine gm_new (by rw [f2]; exact hkc) hkindc hl2 hh2 hdf hdd (by omega) (by omega) ?_
    simp only [wp_bind', W.writeLoc, wp_pure']
    refine ⟨o, by rw [State.heap_pushCell_of_lt (h := hlt0)]; exact g1, by rw [g3]; simp, by rw [g4]; exact hlt, ?_, hnext _ _ _ ⟨x + 1, hlt, hrest, u, o, hu, g1, rfl⟩⟩
    rw [g2, g3]
    simp [State.fitsSlot, State.slotType?, f2, hk, hkind, fits]
  · rintro u d' acts' ⟨i, hi, hl, hu⟩
    have hiN : i = N := by
      rcases Nat.lt_or_ge i N with h | h
      · rw [show N - i = (N - (i + 1)) + 1 by omega, List.range'_succ] at hl; cases hl
      · omega
    subst hiN
    simp only [wp_pure']
    exact hq _ _ _ hu
end GMW
section GMS
variable {p : Program} {l : Launch} {e : Env} {R : Room} {s : State} {m : MethodId} {args : Array Value} {below : List Frame} {meth : Method} {c : Code} {H : Heap} {locs : List Loc} {cells slots : Nat} {Q : State → Prop} {T : State}
theorem gm_stand (X : Stand p l e R s m args below meth c T locs cells slots) {cA cB : ClassId} {N K : Nat} {z : Value} : ∀ (i : Nat) (t : State), gm_R T cA cB N K z i t → Stand p l e R s m args below meth c t locs (cells + 1 + i) (slots + N + i * K)
  | 0, t, h => by
    have h : t = T.pushCell (gm_c cA N .null) := h
    subst h
    have h := X.pushed (gm_c cA N .null)
    simpa [gm_c] using h
  | i + 1, t, h => by
    obtain ⟨u, o, hu, ho, rfl⟩ := h
    have Xu := gm_stand X i u hu
    obtain ⟨f1, -, -, -, -⟩ := gm_facts i u hu
    have hla : T.heap.size < u.heap.size := by omega
    have hcell : (u.pushCell (gm_c cB K z)).heap[T.heap.size]? = some o := by rw [State.heap_pushCell_of_lt (h := hla)]; exact ho
    have h := ((Xu.pushed (gm_c cB K z)).stored hcell i (.ref u.heap.size)).dropFresh (fun x hx => by
      have e : x = ⟨T.heap.size, i⟩ := by simpa using hx
      subst e
      exact X.heapGrown)
    have e1 : (gm_c cB K z).slots.size = K := by simp [gm_c]
    rw [e1] at h
    have e3 : slots + N + (i + 1) * K = slots + N + i * K + K := by rw [Nat.succ_mul]; omega
    rw [e3]
    exact h
variable {cc : ByteArray} {pc : Nat} {ls : Array Slot} {rest : List Value} {D : va_G} {cl : List vw_C} {A : Nat → Prop} {ws : va_W} {H0 : Heap}
theorem ax_mna {ty : FieldType} {N K : Nat} (hexec : p.tables.exec = Jvm.exec) (hb : c.code = cc) {own C : String} {index : Nat} (hown : s.vm.findClass own = some m.cls) (hclink : (Cond.classLink own index C).before args s = true) (hover : (Cond.arrayOver (.array ty)).before #[] s = true) (harr : (Cond.arrayClass ty).before args s = true) (hP : va_P D cl ws H) (hD : va_D A ws) (hS : va_S A H0 H locs) (_hA : ∀ q, H0.size ≤ q → A q)
    {n k : Int32} (hn : ¬ n < 0) (hk : ¬ k < 0) (hN : n.toNatClampNeg = N) (hK : k.toNatClampNeg = K) (hbC : N * 4 ≤ 536870912 ∧ C = "[" ++ (FieldType.array ty).toString) (hb2 : K * componentBytes ty ≤ 536870912) (hb3 : K ≤ 536870912) (hdf : fits ty (defaultValue ty) = true) (hdd : (defaultValue ty).isDefault = true)
    (hcells : cells + (1 + N) ≤ R.cells) (hslots : slots + (N + N * K) ≤ R.slots) (hdg : decode cc pc = .ok (.multianewarray index 2, 4))
    (kk : ∀ (q : Nat) (H1 : Heap), va_P D cl ws H1 → va_D A ws → va_S A H0 H1 locs → W p l e R s m args below meth c H1 locs (cells + 1 + N) (slots + N + N * K) Q (F0 m (pc + 4) ls (.ref q :: rest))) : W p l e R s m args below meth c H locs cells slots Q (F0 m pc ls (.int k :: .int n :: rest)) := by
  obtain ⟨hb1, rfl⟩ := hbC
  subst hN
  subst hK
  subst hb
  intro T hT X
  subst hT
  have hpl : e.platform.magicAccessors = ({} : Platform).magicAccessors := by rw [X.admits.platform]
  obtain ⟨comp, cA, kA, hcomp, -, hkA, hkindA, hnameA⟩ := arrayOverA_spec hover
  obtain ⟨comp', kC, cc', hcomp', hkC, hkindC⟩ := Cond.arrayClass_spec harr
  have ecomp : comp' = comp := Option.some.inj (hcomp'.symm.trans hcomp)
  subst ecomp
  obtain ⟨c0, hfc0, hcl⟩ := Cond.classLink_spec hown hclink e.platform hpl
  cases hnameA.symm.trans hfc0
  obtain ⟨hg₁, hwarm₁, hready₁⟩ := State.classEntry (e := e) X.warmed hcl
  generalize T.vm.noted m.cls index (.cls cA) = vm₁ at hg₁ hwarm₁ hready₁
  have hal : s.vm.Alike vm₁ := hwarm₁.alike
  obtain ⟨kA₁, hkA₁, heA⟩ := hal.2.2 _ _ hkA
  obtain ⟨kC₁, hkC₁, heC⟩ := hal.2.2 _ _ hkC
  have hkindA₁ : kA₁.kind = .array comp' (.array ty) := by rw [heA]; exact hkindA
  have hkindC₁ : kC₁.kind = .array cc' ty := by rw [heC]; exact hkindC
  have X₁ := X.noted hwarm₁
  obtain ⟨hr1, hr2⟩ := X.roomAbove hcells hslots
  have hl1 : ¬ n.toNatClampNeg > e.platform.arrayLengthLimit := by rw [Launch.admits_arrayLengthLimit X.admits]; omega
  have hh1 : ¬ n.toNatClampNeg * componentBytes (.array ty) > e.platform.maxHeapBytes := by
    rw [Launch.admits_maxHeapBytes X.admits]; show ¬ n.toNatClampNeg * 4 > 536870912; omega
  have hl2 : ¬ k.toNatClampNeg > e.platform.arrayLengthLimit := by rw [Launch.admits_arrayLengthLimit X.admits]; omega
  have hh2 : ¬ k.toNatClampNeg * componentBytes ty > e.platform.maxHeapBytes := by rw [Launch.admits_maxHeapBytes X.admits]; omega
  -- some state that comes of it, to hand on
  have hex : ∃ t0, gm_R (T.setVm vm₁) cA comp' n.toNatClampNeg k.toNatClampNeg (defaultValue ty) n.toNatClampNeg t0 := by
    have : ∀ i, ∃ t0, gm_R (T.setVm vm₁) cA comp' n.toNatClampNeg k.toNatClampNeg (defaultValue ty) i t0 := by
      intro i
      induction i with
      | zero => exact ⟨_, rfl⟩
      | succ i ih =>
        obtain ⟨u, hu⟩ := ih
        obtain ⟨-, -, -, ⟨o, g1, -⟩, -⟩ := gm_facts i u hu
        exact ⟨_, u, o, hu, g1, rfl⟩
    exact this _
  have huniq : ∀ (i : Nat) (t1 t2 : State), gm_R (T.setVm vm₁) cA comp' n.toNatClampNeg k.toNatClampNeg (defaultValue ty) i t1 → gm_R (T.setVm vm₁) cA comp' n.toNatClampNeg k.toNatClampNeg (defaultValue ty) i t2 → t1 = t2 := by
    intro i
    induction i with
    | zero => intro t1 t2 h1 h2; exact Eq.trans h1 (Eq.symm h2)
    | succ i ih =>
      rintro t1 t2 ⟨u1, o1, hu1, ho1, rfl⟩ ⟨u2, o2, hu2, ho2, rfl⟩
      have e := ih u1 u2 hu1 hu2
      subst e
      have e := Option.some.inj (ho1.symm.trans ho2)
      subst e
      rfl
  obtain ⟨F, hF⟩ := hex
  have XF := gm_stand X₁ _ F hF
  obtain ⟨f1, f2, f3, -, f5⟩ := gm_facts _ F hF
  have f1 : F.heap.size = T.heap.size + 1 + n.toNatClampNeg := f1
  have f5 : ∀ a, a < T.heap.size → F.heap[a]? = T.heap[a]? := f5
  obtain ⟨h1, h2⟩ := ax_grow (H1 := F.heap) hP hS (by omega) f5
  obtain ⟨t, a1, b1⟩ := kk T.heap.size F.heap h1 hD h2 F rfl XF
  refine ⟨t, ?_, b1⟩
  jvm_step X.here [hexec, hdg]
  simp only [multianewarray.sem, wp_bind', W.resolveClassAt_links (State.method?_setTop (F0 m pc ls (.int k :: .int n :: rest)) X.here.top) hg₁]
  rw [W.popN, if_neg (by decide)]
  refine ⟨F0 m pc ls (.int k :: .int n :: rest), State.topJava?_setTop' (s := T.setVm vm₁) _ X.here.top, [.int n, .int k], rest, rfl, rfl, ?_⟩
  simp only [List.mapM_cons, List.mapM_nil, wp_bind', wp_pure']
  refine gm_two (k := kA₁) (kc := kC₁) (comp := comp') (cc := cc') (ty := ty) (by exact hkA₁) hkindA₁ (by exact hkC₁) hkindC₁ hn hk hl1 hh1 hl2 hh2 hdf hdd (by exact hr1) (by exact hr2) (fun d' acts' t2 ht2 => ?_)
  have eS : ∀ g' : JFrame, (((T.setTop (F0 m pc ls (.int k :: .int n :: rest))).setVm vm₁).setTop g') = (T.setVm vm₁).setTop g' := fun g' => by
    show ((T.setVm vm₁).setTop _).setTop _ = _
    rw [State.setTop_setTop]
  rw [eS] at ht2
  obtain ⟨t0, ht0, rfl⟩ := gm_top _ _ ht2
  have e0 : t0 = F := huniq _ _ _ ht0 hF
  subst e0
  simp only [wp_bind', W.mark, W.pushRef, State.topJava?_setTop' _ XF.here.top, Option.some.injEq, exists_eq_left', State.setTop_setTop, State.heap_setTop]
  intro acts
  simp [jvm, XF.here.top]
  exact a1
end GMS

