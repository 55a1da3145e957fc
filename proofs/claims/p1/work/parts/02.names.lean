theorem goodIn_r {big : List Cond} (ws : List Cond) (ps : List Nat) (hp : ws = ps.filterMap (fun i => big[i]?)) (h : ws.all goodWord = true) : GoodIn big ws := by
  intro w hw
  have h1 := List.all_eq_true.mp h w hw
  rw [hp] at hw
  obtain ⟨i, -, hi⟩ := List.mem_filterMap.mp hw
  have hm : w ∈ big := by first | exact List.mem_of_getElem? hi | exact List.getElem?_mem hi
  exact ⟨hm, good_of_word h1⟩
theorem goodIn_app {big a b : List Cond} (ha : GoodIn big a) (hb : GoodIn big b) : GoodIn big (a ++ b) := fun w h => (List.mem_append.mp h).elim (ha w) (hb w)
theorem goodIn_ca {big a b : List Cond} {c : Cond} (ha : GoodIn big (c :: a)) (hb : GoodIn big b) : GoodIn big (c :: (a ++ b)) := fun w h => (List.mem_cons.mp h).elim (fun e => ha w (List.mem_cons.mpr (Or.inl e))) (fun h => (List.mem_append.mp h).elim (fun h => ha w (List.mem_cons.mpr (Or.inr h))) (hb w))
theorem goodIn_sub {big ws : List Cond} (hm : ∀ w ∈ ws, w ∈ big) (h : ws.all goodWord = true) : GoodIn big ws := fun w hw => ⟨hm w hw, good_of_word (List.all_eq_true.mp h w hw)⟩

def RX0 : String := "RealSolver$Ideal"
def TX0 : u_T := fun k => match k with
  | 0 => ("RealSolver$Ideal", "numbers", "LRealSolver$Numbers;", true)
  | 1 => ("RealSolver$Ideal", "at", "[I", true)
  | 2 => ("RealSolver$Ideal", "lead", "[I", true)
  | 3 => ("RealSolver$Ideal", "live", "[Z", true)
  | 4 => ("RealSolver$Ideal", "count", "I", false)
  | 5 => ("RealSolver$Ideal", "pairFirst", "[I", true)
  | 6 => ("RealSolver$Ideal", "pairSecond", "[I", true)
  | 7 => ("RealSolver$Ideal", "pairMultiple", "[I", true)
  | 8 => ("RealSolver$Ideal", "pairs", "I", false)
  | 9 => ("RealSolver$Ideal", "wanted", "[Z", true)
  | 10 => ("RealSolver$Ideal", "multiple", "[I", true)
  | _ => ("RealSolver$Ideal", "level", "[I", true)
def tyX0 : Nat → FieldType := fun k => match k with
  | 0 => .object "RealSolver$Numbers"
  | 1 => .array .int
  | 2 => .array .int
  | 3 => .array .boolean
  | 4 => .int
  | 5 => .array .int
  | 6 => .array .int
  | 7 => .array .int
  | 8 => .int
  | 9 => .array .boolean
  | 10 => .array .int
  | _ => .array .int
abbrev wsX00 : List Cond := u_ws RX0 TX0 12
theorem nmX0 : ∀ a, a < 12 → ∀ b, b < 12 → a ≠ b → (TX0 a).2.1 ≠ (TX0 b).2.1 := by decide +kernel
theorem tyX0_ok : ∀ k, k < 12 → parseFieldDescriptor (TX0 k).2.2.1 = some (tyX0 k) := by decide +kernel
def RX1 : String := "RealSolver$InT"
def TX1 : u_T := fun k => match k with
  | 0 => ("RealSolver$InT", "degree", "I", false)
  | 1 => ("RealSolver$InT", "at", "[I", true)
  | _ => ("RealSolver$InT", "divisor", "I", false)
def tyX1 : Nat → FieldType := fun k => match k with
  | 0 => .int
  | 1 => .array .int
  | _ => .int
abbrev wsX10 : List Cond := u_ws RX1 TX1 3
theorem nmX1 : ∀ a, a < 3 → ∀ b, b < 3 → a ≠ b → (TX1 a).2.1 ≠ (TX1 b).2.1 := by decide +kernel
theorem tyX1_ok : ∀ k, k < 3 → parseFieldDescriptor (TX1 k).2.2.1 = some (tyX1 k) := by decide +kernel
def RX2 : String := "RealSolver$Numbers"
def TX2 : u_T := fun k => match k with
  | 0 => ("RealSolver$Numbers", "w", "[I", false)
  | 1 => ("RealSolver$Numbers", "top", "I", false)
  | 2 => ("RealSolver$Numbers", "ax", "J", false)
  | 3 => ("RealSolver$Numbers", "ay", "J", false)
  | 4 => ("RealSolver$Numbers", "bx", "J", false)
  | _ => ("RealSolver$Numbers", "by", "J", false)
def tyX2 : Nat → FieldType := fun k => match k with
  | 0 => .array .int
  | 1 => .int
  | 2 => .long
  | 3 => .long
  | 4 => .long
  | _ => .long
abbrev wsX20 : List Cond := u_ws RX2 TX2 6
theorem nmX2 : ∀ a, a < 6 → ∀ b, b < 6 → a ≠ b → (TX2 a).2.1 ≠ (TX2 b).2.1 := by decide +kernel
theorem tyX2_ok : ∀ k, k < 6 → parseFieldDescriptor (TX2 k).2.2.1 = some (tyX2 k) := by decide +kernel
def RX3 : String := "RealSolver$Pen"
def TX3 : u_T := fun k => match k with
  | 0 => ("RealSolver$Pen", "numbers", "LRealSolver$Numbers;", true)
  | 1 => ("RealSolver$Pen", "text", "[B", false)
  | _ => ("RealSolver$Pen", "size", "I", false)
def tyX3 : Nat → FieldType := fun k => match k with
  | 0 => .object "RealSolver$Numbers"
  | 1 => .array .byte
  | _ => .int
abbrev wsX30 : List Cond := u_ws RX3 TX3 3
theorem nmX3 : ∀ a, a < 3 → ∀ b, b < 3 → a ≠ b → (TX3 a).2.1 ≠ (TX3 b).2.1 := by decide +kernel
theorem tyX3_ok : ∀ k, k < 3 → parseFieldDescriptor (TX3 k).2.2.1 = some (tyX3 k) := by decide +kernel
def RX4 : String := "RealSolver$Points"
def TX4 : u_T := fun k => match k with
  | 0 => ("RealSolver$Points", "numbers", "LRealSolver$Numbers;", true)
  | 1 => ("RealSolver$Points", "quotient", "LRealSolver$Quotient;", true)
  | 2 => ("RealSolver$Points", "ring", "LRealSolver$Ring;", true)
  | 3 => ("RealSolver$Points", "shadow", "LRealSolver$Shadow;", true)
  | 4 => ("RealSolver$Points", "eliminants", "[LRealSolver$InT;", true)
  | 5 => ("RealSolver$Points", "fractions", "[LRealSolver$InT;", true)
  | 6 => ("RealSolver$Points", "roots", "[LRealSolver$Roots;", true)
  | 7 => ("RealSolver$Points", "formStep", "I", false)
  | 8 => ("RealSolver$Points", "multiple", "[I", true)
  | 9 => ("RealSolver$Points", "ranks", "[I", true)
  | 10 => ("RealSolver$Points", "zeroBound", "I", false)
  | 11 => ("RealSolver$Points", "trace", "[I", true)
  | 12 => ("RealSolver$Points", "row", "[[I", true)
  | 13 => ("RealSolver$Points", "factor", "[I", true)
  | 14 => ("RealSolver$Points", "weight", "[I", true)
  | 15 => ("RealSolver$Points", "whole", "LRealSolver$InT;", true)
  | 16 => ("RealSolver$Points", "simple", "LRealSolver$InT;", true)
  | 17 => ("RealSolver$Points", "repeated", "LRealSolver$InT;", true)
  | 18 => ("RealSolver$Points", "kept", "[I", true)
  | _ => ("RealSolver$Points", "vector", "[I", true)
def tyX4 : Nat → FieldType := fun k => match k with
  | 0 => .object "RealSolver$Numbers"
  | 1 => .object "RealSolver$Quotient"
  | 2 => .object "RealSolver$Ring"
  | 3 => .object "RealSolver$Shadow"
  | 4 => .array (.object "RealSolver$InT")
  | 5 => .array (.object "RealSolver$InT")
  | 6 => .array (.object "RealSolver$Roots")
  | 7 => .int
  | 8 => .array .int
  | 9 => .array .int
  | 10 => .int
  | 11 => .array .int
  | 12 => .array (.array .int)
  | 13 => .array .int
  | 14 => .array .int
  | 15 => .object "RealSolver$InT"
  | 16 => .object "RealSolver$InT"
  | 17 => .object "RealSolver$InT"
  | 18 => .array .int
  | _ => .array .int
abbrev wsX40 : List Cond := u_ws RX4 TX4 20
theorem nmX4 : ∀ a, a < 20 → ∀ b, b < 20 → a ≠ b → (TX4 a).2.1 ≠ (TX4 b).2.1 := by decide +kernel
theorem tyX4_ok : ∀ k, k < 20 → parseFieldDescriptor (TX4 k).2.2.1 = some (tyX4 k) := by decide +kernel
def RX6 : String := "RealSolver$Quotient"
def TX6 : u_T := fun k => match k with
  | 0 => ("RealSolver$Quotient", "numbers", "LRealSolver$Numbers;", true)
  | 1 => ("RealSolver$Quotient", "ideal", "LRealSolver$Ideal;", true)
  | 2 => ("RealSolver$Quotient", "infinite", "Z", false)
  | 3 => ("RealSolver$Quotient", "count", "I", false)
  | 4 => ("RealSolver$Quotient", "variableCount", "I", false)
  | 5 => ("RealSolver$Quotient", "stairKey", "[I", true)
  | _ => ("RealSolver$Quotient", "column", "[[I", true)
def tyX6 : Nat → FieldType := fun k => match k with
  | 0 => .object "RealSolver$Numbers"
  | 1 => .object "RealSolver$Ideal"
  | 2 => .boolean
  | 3 => .int
  | 4 => .int
  | 5 => .array .int
  | _ => .array (.array .int)
abbrev wsX60 : List Cond := u_ws RX6 TX6 7
theorem nmX6 : ∀ a, a < 7 → ∀ b, b < 7 → a ≠ b → (TX6 a).2.1 ≠ (TX6 b).2.1 := by decide +kernel
theorem tyX6_ok : ∀ k, k < 7 → parseFieldDescriptor (TX6 k).2.2.1 = some (tyX6 k) := by decide +kernel
def RX7 : String := "RealSolver$Reader"
def TX7 : u_T := fun k => match k with
  | 0 => ("RealSolver$Reader", "bytes", "[B", false)
  | 1 => ("RealSolver$Reader", "size", "I", false)
  | 2 => ("RealSolver$Reader", "at", "I", false)
  | 3 => ("RealSolver$Reader", "variableCount", "I", false)
  | 4 => ("RealSolver$Reader", "mostDegree", "I", false)
  | 5 => ("RealSolver$Reader", "key", "[I", true)
  | 6 => ("RealSolver$Reader", "powers", "[I", true)
  | 7 => ("RealSolver$Reader", "coefficient", "[I", true)
  | 8 => ("RealSolver$Reader", "terms", "I", false)
  | 9 => ("RealSolver$Reader", "firstTerm", "[I", true)
  | _ => ("RealSolver$Reader", "polynomials", "I", false)
def tyX7 : Nat → FieldType := fun k => match k with
  | 0 => .array .byte
  | 1 => .int
  | 2 => .int
  | 3 => .int
  | 4 => .int
  | 5 => .array .int
  | 6 => .array .int
  | 7 => .array .int
  | 8 => .int
  | 9 => .array .int
  | _ => .int
abbrev wsX70 : List Cond := u_ws RX7 TX7 11
theorem nmX7 : ∀ a, a < 11 → ∀ b, b < 11 → a ≠ b → (TX7 a).2.1 ≠ (TX7 b).2.1 := by decide +kernel
theorem tyX7_ok : ∀ k, k < 11 → parseFieldDescriptor (TX7 k).2.2.1 = some (tyX7 k) := by decide +kernel
def RX8 : String := "RealSolver$Ring"
def TX8 : u_T := fun k => match k with
  | 0 => ("RealSolver$Ring", "numbers", "LRealSolver$Numbers;", true)
  | 1 => ("RealSolver$Ring", "first", "LRealSolver$InT;", true)
  | 2 => ("RealSolver$Ring", "second", "LRealSolver$InT;", true)
  | 3 => ("RealSolver$Ring", "slope", "LRealSolver$InT;", true)
  | 4 => ("RealSolver$Ring", "modFirst", "[J", true)
  | _ => ("RealSolver$Ring", "modSecond", "[J", true)
def tyX8 : Nat → FieldType := fun k => match k with
  | 0 => .object "RealSolver$Numbers"
  | 1 => .object "RealSolver$InT"
  | 2 => .object "RealSolver$InT"
  | 3 => .object "RealSolver$InT"
  | 4 => .array .long
  | _ => .array .long
abbrev wsX80 : List Cond := u_ws RX8 TX8 6
theorem nmX8 : ∀ a, a < 6 → ∀ b, b < 6 → a ≠ b → (TX8 a).2.1 ≠ (TX8 b).2.1 := by decide +kernel
theorem tyX8_ok : ∀ k, k < 6 → parseFieldDescriptor (TX8 k).2.2.1 = some (tyX8 k) := by decide +kernel
def RX9 : String := "RealSolver$Roots"
def TX9 : u_T := fun k => match k with
  | 0 => ("RealSolver$Roots", "numbers", "LRealSolver$Numbers;", true)
  | 1 => ("RealSolver$Roots", "ring", "LRealSolver$Ring;", true)
  | 2 => ("RealSolver$Roots", "of", "LRealSolver$InT;", false)
  | 3 => ("RealSolver$Roots", "count", "I", false)
  | 4 => ("RealSolver$Roots", "level", "[I", true)
  | 5 => ("RealSolver$Roots", "met", "[Z", true)
  | 6 => ("RealSolver$Roots", "side", "[I", true)
  | 7 => ("RealSolver$Roots", "floor", "[[I", true)
  | 8 => ("RealSolver$Roots", "moved", "[I", true)
  | _ => ("RealSolver$Roots", "turned", "[I", true)
def tyX9 : Nat → FieldType := fun k => match k with
  | 0 => .object "RealSolver$Numbers"
  | 1 => .object "RealSolver$Ring"
  | 2 => .object "RealSolver$InT"
  | 3 => .int
  | 4 => .array .int
  | 5 => .array .boolean
  | 6 => .array .int
  | 7 => .array (.array .int)
  | 8 => .array .int
  | _ => .array .int
abbrev wsX90 : List Cond := u_ws RX9 TX9 10
theorem nmX9 : ∀ a, a < 10 → ∀ b, b < 10 → a ≠ b → (TX9 a).2.1 ≠ (TX9 b).2.1 := by decide +kernel
theorem tyX9_ok : ∀ k, k < 10 → parseFieldDescriptor (TX9 k).2.2.1 = some (tyX9 k) := by decide +kernel
def RX10 : String := "RealSolver$Shadow"
def TX10 : u_T := fun k => match k with
  | 0 => ("RealSolver$Shadow", "numbers", "LRealSolver$Numbers;", true)
  | 1 => ("RealSolver$Shadow", "quotient", "LRealSolver$Quotient;", true)
  | 2 => ("RealSolver$Shadow", "matrix", "[[J", true)
  | 3 => ("RealSolver$Shadow", "reduced", "[[J", true)
  | 4 => ("RealSolver$Shadow", "polynomial", "[J", true)
  | 5 => ("RealSolver$Shadow", "image", "[J", true)
  | _ => ("RealSolver$Shadow", "next", "[J", true)
def tyX10 : Nat → FieldType := fun k => match k with
  | 0 => .object "RealSolver$Numbers"
  | 1 => .object "RealSolver$Quotient"
  | 2 => .array (.array .long)
  | 3 => .array (.array .long)
  | 4 => .array .long
  | 5 => .array .long
  | _ => .array .long
abbrev wsX100 : List Cond := u_ws RX10 TX10 7
theorem nmX10 : ∀ a, a < 7 → ∀ b, b < 7 → a ≠ b → (TX10 a).2.1 ≠ (TX10 b).2.1 := by decide +kernel
theorem tyX10_ok : ∀ k, k < 7 → parseFieldDescriptor (TX10 k).2.2.1 = some (tyX10 k) := by decide +kernel
def RX11 : String := "RealSolver"
def TX11 : u_T := fun k => match k with
  | 0 => ("RealSolver", "tape", "[B", true)
  | 1 => ("RealSolver", "numbers", "LRealSolver$Numbers;", true)
  | 2 => ("RealSolver", "pen", "LRealSolver$Pen;", true)
  | 3 => ("RealSolver", "reader", "LRealSolver$Reader;", true)
  | 4 => ("RealSolver", "ideal", "LRealSolver$Ideal;", true)
  | 5 => ("RealSolver", "quotient", "LRealSolver$Quotient;", true)
  | 6 => ("RealSolver", "points", "LRealSolver$Points;", true)
  | 7 => ("RealSolver", "onTape", "I", false)
  | 8 => ("RealSolver", "variableCount", "I", false)
  | 9 => ("RealSolver", "outcome", "I", false)
  | 10 => ("RealSolver", "faultPlace", "I", false)
  | _ => ("RealSolver", "solved", "Z", false)
def tyX11 : Nat → FieldType := fun k => match k with
  | 0 => .array .byte
  | 1 => .object "RealSolver$Numbers"
  | 2 => .object "RealSolver$Pen"
  | 3 => .object "RealSolver$Reader"
  | 4 => .object "RealSolver$Ideal"
  | 5 => .object "RealSolver$Quotient"
  | 6 => .object "RealSolver$Points"
  | 7 => .int
  | 8 => .int
  | 9 => .int
  | 10 => .int
  | _ => .boolean
abbrev wsX110 : List Cond := u_ws RX11 TX11 12
theorem nmX11 : ∀ a, a < 12 → ∀ b, b < 12 → a ≠ b → (TX11 a).2.1 ≠ (TX11 b).2.1 := by decide +kernel
theorem tyX11_ok : ∀ k, k < 12 → parseFieldDescriptor (TX11 k).2.2.1 = some (tyX11 k) := by decide +kernel
def RX12 : String := "RealSolverModel$Bigs"
def TX12 : u_T := fun k => match k with
  | 0 => ("RealSolverModel$Bigs", "m", "[I", true)
  | 1 => ("RealSolverModel$Bigs", "spare", "[I", true)
  | 2 => ("RealSolverModel$Bigs", "at", "[I", true)
  | 3 => ("RealSolverModel$Bigs", "size", "[I", true)
  | 4 => ("RealSolverModel$Bigs", "sign", "[I", true)
  | 5 => ("RealSolverModel$Bigs", "sizes", "[I", true)
  | 6 => ("RealSolverModel$Bigs", "signs", "[I", true)
  | 7 => ("RealSolverModel$Bigs", "top", "I", false)
  | 8 => ("RealSolverModel$Bigs", "many", "I", false)
  | 9 => ("RealSolverModel$Bigs", "rest", "I", false)
  | 10 => ("RealSolverModel$Bigs", "one", "[I", true)
  | _ => ("RealSolverModel$Bigs", "two", "[I", true)
def tyX12 : Nat → FieldType := fun k => match k with
  | 0 => .array .int
  | 1 => .array .int
  | 2 => .array .int
  | 3 => .array .int
  | 4 => .array .int
  | 5 => .array .int
  | 6 => .array .int
  | 7 => .int
  | 8 => .int
  | 9 => .int
  | 10 => .array .int
  | _ => .array .int
abbrev wsX120 : List Cond := u_ws RX12 TX12 12
theorem nmX12 : ∀ a, a < 12 → ∀ b, b < 12 → a ≠ b → (TX12 a).2.1 ≠ (TX12 b).2.1 := by decide +kernel
theorem tyX12_ok : ∀ k, k < 12 → parseFieldDescriptor (TX12 k).2.2.1 = some (tyX12 k) := by decide +kernel
def RX13 : String := "RealSolverModel$Poly"
def TX13 : u_T := fun k => match k with
  | 0 => ("RealSolverModel$Poly", "product", "[I", true)
  | _ => ("RealSolverModel$Poly", "number", "[I", true)
def tyX13 : Nat → FieldType := fun k => match k with
  | 0 => .array .int
  | _ => .array .int
abbrev wsX130 : List Cond := u_ws RX13 TX13 2
theorem nmX13 : ∀ a, a < 2 → ∀ b, b < 2 → a ≠ b → (TX13 a).2.1 ≠ (TX13 b).2.1 := by decide +kernel
theorem tyX13_ok : ∀ k, k < 2 → parseFieldDescriptor (TX13 k).2.2.1 = some (tyX13 k) := by decide +kernel
def RX14 : String := "RealSolverModel"
def TX14 : u_T := fun k => match k with
  | 0 => ("RealSolverModel", "w", "LRealSolverModel$Bigs;", true)
  | 1 => ("RealSolverModel", "variables", "I", false)
  | 2 => ("RealSolverModel", "products", "I", false)
  | 3 => ("RealSolverModel", "px", "[I", true)
  | 4 => ("RealSolverModel", "py", "[I", true)
  | 5 => ("RealSolverModel", "pz", "[I", true)
  | 6 => ("RealSolverModel", "which", "[I", true)
  | 7 => ("RealSolverModel", "polys", "[LRealSolverModel$Poly;", true)
  | 8 => ("RealSolverModel", "polyMany", "I", false)
  | 9 => ("RealSolverModel", "row", "[I", true)
  | 10 => ("RealSolverModel", "rowTop", "I", false)
  | 11 => ("RealSolverModel", "divisor", "I", false)
  | 12 => ("RealSolverModel", "keep", "[I", true)
  | 13 => ("RealSolverModel", "rowIs", "[Z", true)
  | 14 => ("RealSolverModel", "frozen", "Z", false)
  | 15 => ("RealSolverModel", "baseTop", "I", false)
  | 16 => ("RealSolverModel", "baseMany", "I", false)
  | 17 => ("RealSolverModel", "pairA", "[I", true)
  | 18 => ("RealSolverModel", "pairB", "[I", true)
  | 19 => ("RealSolverModel", "pairMany", "I", false)
  | 20 => ("RealSolverModel", "order", "[I", true)
  | 21 => ("RealSolverModel", "isSolved", "Z", false)
  | 22 => ("RealSolverModel", "isInfinite", "Z", false)
  | 23 => ("RealSolverModel", "stair", "[I", true)
  | 24 => ("RealSolverModel", "stairMany", "I", false)
  | 25 => ("RealSolverModel", "stairOf", "[I", true)
  | 26 => ("RealSolverModel", "columns", "[[[I", true)
  | 27 => ("RealSolverModel", "columnsBy", "[I", true)
  | 28 => ("RealSolverModel", "formColumns", "[[I", false)
  | 29 => ("RealSolverModel", "formBy", "I", false)
  | 30 => ("RealSolverModel", "traces", "[I", false)
  | 31 => ("RealSolverModel", "dependent", "I", false)
  | 32 => ("RealSolverModel", "dependence", "[I", false)
  | 33 => ("RealSolverModel", "zeroMany", "I", false)
  | 34 => ("RealSolverModel", "form", "I", false)
  | 35 => ("RealSolverModel", "eliminants", "[[I", true)
  | 36 => ("RealSolverModel", "fractions", "[[I", true)
  | 37 => ("RealSolverModel", "chain", "[[I", true)
  | 38 => ("RealSolverModel", "chainMany", "I", false)
  | 39 => ("RealSolverModel", "bound", "I", false)
  | 40 => ("RealSolverModel", "changesBelow", "I", false)
  | 41 => ("RealSolverModel", "realMany", "I", false)
  | 42 => ("RealSolverModel", "low", "I", false)
  | 43 => ("RealSolverModel", "high", "I", false)
  | 44 => ("RealSolverModel", "scale", "I", false)
  | 45 => ("RealSolverModel", "zerosReal", "I", false)
  | 46 => ("RealSolverModel", "lows", "[I", true)
  | 47 => ("RealSolverModel", "highs", "[I", true)
  | 48 => ("RealSolverModel", "scales", "[I", true)
  | 49 => ("RealSolverModel", "isExact", "Z", false)
  | 50 => ("RealSolverModel", "tape", "[B", true)
  | 51 => ("RealSolverModel", "taped", "I", false)
  | 52 => ("RealSolverModel", "readAt", "I", false)
  | 53 => ("RealSolverModel", "fault", "I", false)
  | 54 => ("RealSolverModel", "termOf", "[I", true)
  | 55 => ("RealSolverModel", "termProduct", "[I", true)
  | 56 => ("RealSolverModel", "termNumber", "[J", true)
  | 57 => ("RealSolverModel", "power", "[I", true)
  | 58 => ("RealSolverModel", "termMany", "I", false)
  | 59 => ("RealSolverModel", "polyRead", "I", false)
  | 60 => ("RealSolverModel", "text", "[B", true)
  | 61 => ("RealSolverModel", "textSize", "I", false)
  | 62 => ("RealSolverModel", "figures", "[B", true)
  | _ => ("RealSolverModel", "status", "I", false)
def tyX14 : Nat → FieldType := fun k => match k with
  | 0 => .object "RealSolverModel$Bigs"
  | 1 => .int
  | 2 => .int
  | 3 => .array .int
  | 4 => .array .int
  | 5 => .array .int
  | 6 => .array .int
  | 7 => .array (.object "RealSolverModel$Poly")
  | 8 => .int
  | 9 => .array .int
  | 10 => .int
  | 11 => .int
  | 12 => .array .int
  | 13 => .array .boolean
  | 14 => .boolean
  | 15 => .int
  | 16 => .int
  | 17 => .array .int
  | 18 => .array .int
  | 19 => .int
  | 20 => .array .int
  | 21 => .boolean
  | 22 => .boolean
  | 23 => .array .int
  | 24 => .int
  | 25 => .array .int
  | 26 => .array (.array (.array .int))
  | 27 => .array .int
  | 28 => .array (.array .int)
  | 29 => .int
  | 30 => .array .int
  | 31 => .int
  | 32 => .array .int
  | 33 => .int
  | 34 => .int
  | 35 => .array (.array .int)
  | 36 => .array (.array .int)
  | 37 => .array (.array .int)
  | 38 => .int
  | 39 => .int
  | 40 => .int
  | 41 => .int
  | 42 => .int
  | 43 => .int
  | 44 => .int
  | 45 => .int
  | 46 => .array .int
  | 47 => .array .int
  | 48 => .array .int
  | 49 => .boolean
  | 50 => .array .byte
  | 51 => .int
  | 52 => .int
  | 53 => .int
  | 54 => .array .int
  | 55 => .array .int
  | 56 => .array .long
  | 57 => .array .int
  | 58 => .int
  | 59 => .int
  | 60 => .array .byte
  | 61 => .int
  | 62 => .array .byte
  | _ => .int
abbrev wsX140 : List Cond := u_ws RX14 TX14 64
theorem nmX14 : ∀ a, a < 64 → ∀ b, b < 64 → a ≠ b → (TX14 a).2.1 ≠ (TX14 b).2.1 := by decide +kernel
theorem tyX14_ok : ∀ k, k < 64 → parseFieldDescriptor (TX14 k).2.2.1 = some (tyX14 k) := by decide +kernel
abbrev cls_ : List vw_C := [(RX0, TX0, 12), (RX1, TX1, 3), (RX2, TX2, 6), (RX3, TX3, 3), (RX4, TX4, 20), (RX6, TX6, 7), (RX7, TX7, 11), (RX8, TX8, 6), (RX9, TX9, 10), (RX10, TX10, 7), (RX11, TX11, 12), (RX12, TX12, 12), (RX13, TX13, 2), (RX14, TX14, 64)]
theorem df_X0 : ∀ j, j < 12 → defaultValue (tyX0 j) = vp_V [.null, .null, .null, .null, .int 0, .null, .null, .null, .int 0, .null, .null, .null] j := fun j hj => by
  match j, hj with
  | 0, _ => rfl
  | 1, _ => rfl
  | 2, _ => rfl
  | 3, _ => rfl
  | 4, _ => rfl
  | 5, _ => rfl
  | 6, _ => rfl
  | 7, _ => rfl
  | 8, _ => rfl
  | 9, _ => rfl
  | 10, _ => rfl
  | 11, _ => rfl
  | j + 12, hj => exact absurd hj (by omega)
theorem df_X1 : ∀ j, j < 3 → defaultValue (tyX1 j) = vp_V [.int 0, .null, .int 0] j := fun j hj => by
  match j, hj with
  | 0, _ => rfl
  | 1, _ => rfl
  | 2, _ => rfl
  | j + 3, hj => exact absurd hj (by omega)
theorem df_X2 : ∀ j, j < 6 → defaultValue (tyX2 j) = vp_V [.null, .int 0, .long 0, .long 0, .long 0, .long 0] j := fun j hj => by
  match j, hj with
  | 0, _ => rfl
  | 1, _ => rfl
  | 2, _ => rfl
  | 3, _ => rfl
  | 4, _ => rfl
  | 5, _ => rfl
  | j + 6, hj => exact absurd hj (by omega)
theorem df_X3 : ∀ j, j < 3 → defaultValue (tyX3 j) = vp_V [.null, .null, .int 0] j := fun j hj => by
  match j, hj with
  | 0, _ => rfl
  | 1, _ => rfl
  | 2, _ => rfl
  | j + 3, hj => exact absurd hj (by omega)
theorem df_X4 : ∀ j, j < 20 → defaultValue (tyX4 j) = vp_V [.null, .null, .null, .null, .null, .null, .null, .int 0, .null, .null, .int 0, .null, .null, .null, .null, .null, .null, .null, .null, .null] j := fun j hj => by
  match j, hj with
  | 0, _ => rfl
  | 1, _ => rfl
  | 2, _ => rfl
  | 3, _ => rfl
  | 4, _ => rfl
  | 5, _ => rfl
  | 6, _ => rfl
  | 7, _ => rfl
  | 8, _ => rfl
  | 9, _ => rfl
  | 10, _ => rfl
  | 11, _ => rfl
  | 12, _ => rfl
  | 13, _ => rfl
  | 14, _ => rfl
  | 15, _ => rfl
  | 16, _ => rfl
  | 17, _ => rfl
  | 18, _ => rfl
  | 19, _ => rfl
  | j + 20, hj => exact absurd hj (by omega)
theorem df_X6 : ∀ j, j < 7 → defaultValue (tyX6 j) = vp_V [.null, .null, .int 0, .int 0, .int 0, .null, .null] j := fun j hj => by
  match j, hj with
  | 0, _ => rfl
  | 1, _ => rfl
  | 2, _ => rfl
  | 3, _ => rfl
  | 4, _ => rfl
  | 5, _ => rfl
  | 6, _ => rfl
  | j + 7, hj => exact absurd hj (by omega)
theorem df_X7 : ∀ j, j < 11 → defaultValue (tyX7 j) = vp_V [.null, .int 0, .int 0, .int 0, .int 0, .null, .null, .null, .int 0, .null, .int 0] j := fun j hj => by
  match j, hj with
  | 0, _ => rfl
  | 1, _ => rfl
  | 2, _ => rfl
  | 3, _ => rfl
  | 4, _ => rfl
  | 5, _ => rfl
  | 6, _ => rfl
  | 7, _ => rfl
  | 8, _ => rfl
  | 9, _ => rfl
  | 10, _ => rfl
  | j + 11, hj => exact absurd hj (by omega)
theorem df_X8 : ∀ j, j < 6 → defaultValue (tyX8 j) = vp_V [.null, .null, .null, .null, .null, .null] j := fun j hj => by
  match j, hj with
  | 0, _ => rfl
  | 1, _ => rfl
  | 2, _ => rfl
  | 3, _ => rfl
  | 4, _ => rfl
  | 5, _ => rfl
  | j + 6, hj => exact absurd hj (by omega)
theorem df_X9 : ∀ j, j < 10 → defaultValue (tyX9 j) = vp_V [.null, .null, .null, .int 0, .null, .null, .null, .null, .null, .null] j := fun j hj => by
  match j, hj with
  | 0, _ => rfl
  | 1, _ => rfl
  | 2, _ => rfl
  | 3, _ => rfl
  | 4, _ => rfl
  | 5, _ => rfl
  | 6, _ => rfl
  | 7, _ => rfl
  | 8, _ => rfl
  | 9, _ => rfl
  | j + 10, hj => exact absurd hj (by omega)
theorem df_X10 : ∀ j, j < 7 → defaultValue (tyX10 j) = vp_V [.null, .null, .null, .null, .null, .null, .null] j := fun j hj => by
  match j, hj with
  | 0, _ => rfl
  | 1, _ => rfl
  | 2, _ => rfl
  | 3, _ => rfl
  | 4, _ => rfl
  | 5, _ => rfl
  | 6, _ => rfl
  | j + 7, hj => exact absurd hj (by omega)
theorem df_X11 : ∀ j, j < 12 → defaultValue (tyX11 j) = vp_V [.null, .null, .null, .null, .null, .null, .null, .int 0, .int 0, .int 0, .int 0, .int 0] j := fun j hj => by
  match j, hj with
  | 0, _ => rfl
  | 1, _ => rfl
  | 2, _ => rfl
  | 3, _ => rfl
  | 4, _ => rfl
  | 5, _ => rfl
  | 6, _ => rfl
  | 7, _ => rfl
  | 8, _ => rfl
  | 9, _ => rfl
  | 10, _ => rfl
  | 11, _ => rfl
  | j + 12, hj => exact absurd hj (by omega)
theorem df_X12 : ∀ j, j < 12 → defaultValue (tyX12 j) = vp_V [.null, .null, .null, .null, .null, .null, .null, .int 0, .int 0, .int 0, .null, .null] j := fun j hj => by
  match j, hj with
  | 0, _ => rfl
  | 1, _ => rfl
  | 2, _ => rfl
  | 3, _ => rfl
  | 4, _ => rfl
  | 5, _ => rfl
  | 6, _ => rfl
  | 7, _ => rfl
  | 8, _ => rfl
  | 9, _ => rfl
  | 10, _ => rfl
  | 11, _ => rfl
  | j + 12, hj => exact absurd hj (by omega)
theorem df_X13 : ∀ j, j < 2 → defaultValue (tyX13 j) = vp_V [.null, .null] j := fun j hj => by
  match j, hj with
  | 0, _ => rfl
  | 1, _ => rfl
  | j + 2, hj => exact absurd hj (by omega)
theorem df_X14 : ∀ j, j < 64 → defaultValue (tyX14 j) = vp_V [.null, .int 0, .int 0, .null, .null, .null, .null, .null, .int 0, .null, .int 0, .int 0, .null, .null, .int 0, .int 0, .int 0, .null, .null, .int 0, .null, .int 0, .int 0, .null, .int 0, .null, .null, .null, .null, .int 0, .null, .int 0, .null, .int 0, .int 0, .null, .null, .null, .int 0, .int 0, .int 0, .int 0, .int 0, .int 0, .int 0, .int 0, .null, .null, .null, .int 0, .null, .int 0, .int 0, .int 0, .null, .null, .null, .null, .int 0, .int 0, .null, .int 0, .null, .int 0] j := fun j hj => by
  match j, hj with
  | 0, _ => rfl
  | 1, _ => rfl
  | 2, _ => rfl
  | 3, _ => rfl
  | 4, _ => rfl
  | 5, _ => rfl
  | 6, _ => rfl
  | 7, _ => rfl
  | 8, _ => rfl
  | 9, _ => rfl
  | 10, _ => rfl
  | 11, _ => rfl
  | 12, _ => rfl
  | 13, _ => rfl
  | 14, _ => rfl
  | 15, _ => rfl
  | 16, _ => rfl
  | 17, _ => rfl
  | 18, _ => rfl
  | 19, _ => rfl
  | 20, _ => rfl
  | 21, _ => rfl
  | 22, _ => rfl
  | 23, _ => rfl
  | 24, _ => rfl
  | 25, _ => rfl
  | 26, _ => rfl
  | 27, _ => rfl
  | 28, _ => rfl
  | 29, _ => rfl
  | 30, _ => rfl
  | 31, _ => rfl
  | 32, _ => rfl
  | 33, _ => rfl
  | 34, _ => rfl
  | 35, _ => rfl
  | 36, _ => rfl
  | 37, _ => rfl
  | 38, _ => rfl
  | 39, _ => rfl
  | 40, _ => rfl
  | 41, _ => rfl
  | 42, _ => rfl
  | 43, _ => rfl
  | 44, _ => rfl
  | 45, _ => rfl
  | 46, _ => rfl
  | 47, _ => rfl
  | 48, _ => rfl
  | 49, _ => rfl
  | 50, _ => rfl
  | 51, _ => rfl
  | 52, _ => rfl
  | 53, _ => rfl
  | 54, _ => rfl
  | 55, _ => rfl
  | 56, _ => rfl
  | 57, _ => rfl
  | 58, _ => rfl
  | 59, _ => rfl
  | 60, _ => rfl
  | 61, _ => rfl
  | 62, _ => rfl
  | 63, _ => rfl
  | j + 64, hj => exact absurd hj (by omega)
