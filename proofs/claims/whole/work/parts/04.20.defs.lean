/-! ===== the program's tables as the proof names them ===== -/
def eT (t : Nat) : FieldType := match t with
  | 0 => .int
  | 1 => .long
  | 2 => .byte
  | 3 => .boolean
  | 4 => .object RX8
  | 5 => .object RX7
  | 6 => .object RX6
  | _ => .object RX10
def fT (c : Nat) : Nat → FieldType := match c with
  | 0 => tyX0
  | 1 => tyX1
  | 2 => tyX2
  | 3 => tyX3
  | 4 => tyX4
  | 5 => tyX5
  | 6 => tyX6
  | 7 => tyX7
  | 8 => tyX8
  | 9 => tyX9
  | 10 => tyX10
  | 11 => tyX11
  | _ => tyX12
def cN (c : Nat) : Nat := match c with
  | 0 => 4
  | 1 => 3
  | 2 => 4
  | 3 => 5
  | 4 => 17
  | 5 => 4
  | 6 => 5
  | 7 => 9
  | 8 => 0
  | 9 => 11
  | 10 => 4
  | 11 => 13
  | _ => 30
def fN (c : Nat) : u_T := match c with
  | 0 => TX0
  | 1 => TX1
  | 2 => TX2
  | 3 => TX3
  | 4 => TX4
  | 5 => TX5
  | 6 => TX6
  | 7 => TX7
  | 8 => TX8
  | 9 => TX9
  | 10 => TX10
  | 11 => TX11
  | _ => TX12
def cR (c : Nat) : String := match c with
  | 0 => RX0
  | 1 => RX1
  | 2 => RX2
  | 3 => RX3
  | 4 => RX4
  | 5 => RX5
  | 6 => RX6
  | 7 => RX7
  | 8 => RX8
  | 9 => RX9
  | 10 => RX10
  | 11 => RX11
  | _ => RX12
abbrev mY : Type := MethodName × ByteArray × Nat × Option FieldType
def yy (y : mY) : MethodName := y.1
def yb (y : mY) : ByteArray := y.2.1
def yn (y : mY) : Nat := y.2.2.1
def yr (y : mY) : Option FieldType := y.2.2.2
/-- what the tables say wherever one looks -/
def aw : List Cond := lw_tbl.filter goodWord
/-- words that stay true in a way of their own -/
def isOw (w : Cond) : Bool := match w with
  | .methodLinkNest _ _ _ _ => true
  | .fieldLinkNest _ _ _ _ _ _ => true
  | .castable _ _ => true
  | .declares _ => true
  | _ => false
def ow : List Cond := lw_tbl.filter isOw
theorem aw_w {w : Cond} (h : w ∈ lw_tbl) (g : goodWord w = true) : w ∈ aw := List.mem_filter.mpr ⟨h, g⟩
/-- what a method's calls need of the tables -/
def mOK (y : mY) (n : Nat) : Prop := Cond.code (yy y) (yb y) (yn y) (yr y) ∈ aw ∧ Cond.initialized (yy y).cls ∈ aw ∧ plainFor (yy y) = true ∧ ((yy y).cls ≠ "java/lang/invoke/MethodHandle" ∧ (yy y).cls ≠ "java/lang/invoke/VarHandle" ∧ (parseMethodDescriptor (yy y).desc).map (fun d => d.parameters.length) = some n) ∧ yn y ≤ 45
def mOKv (y : mY) (n : Nat) : Prop := mOK y n ∧ Cond.instanceMethod (yy y) ∈ aw ∧ Cond.selects (yy y).cls (yy y) (yy y) ∈ aw
def mOKs (y : mY) (n : Nat) : Prop := mOK y n ∧ Cond.static (yy y) ∈ aw
def mOKi (y : mY) (n : Nat) : Prop := mOK y n ∧ Cond.instanceMethod (yy y) ∈ aw ∧ (yy y).name = "<init>" ∧ yr y = none
set_option maxRecDepth 20000 in
theorem i_X0 : ∀ w ∈ u_ws RX0 TX0 4, w ∈ aw := by decide +kernel
set_option maxRecDepth 20000 in
theorem i_X1 : ∀ w ∈ u_ws RX1 TX1 3, w ∈ aw := by decide +kernel
set_option maxRecDepth 20000 in
theorem i_X2 : ∀ w ∈ u_ws RX2 TX2 4, w ∈ aw := by decide +kernel
set_option maxRecDepth 20000 in
theorem i_X3 : ∀ w ∈ u_ws RX3 TX3 5, w ∈ aw := by decide +kernel
set_option maxRecDepth 20000 in
theorem i_X4 : ∀ w ∈ u_ws RX4 TX4 17, w ∈ aw := by decide +kernel
set_option maxRecDepth 20000 in
theorem i_X5 : ∀ w ∈ u_ws RX5 TX5 4, w ∈ aw := by decide +kernel
set_option maxRecDepth 20000 in
theorem i_X6 : ∀ w ∈ u_ws RX6 TX6 5, w ∈ aw := by decide +kernel
set_option maxRecDepth 20000 in
theorem i_X7 : ∀ w ∈ u_ws RX7 TX7 9, w ∈ aw := by decide +kernel
set_option maxRecDepth 20000 in
theorem i_X8 : ∀ w ∈ u_ws RX8 TX8 0, w ∈ aw := by decide +kernel
set_option maxRecDepth 20000 in
theorem i_X9 : ∀ w ∈ u_ws RX9 TX9 11, w ∈ aw := by decide +kernel
set_option maxRecDepth 20000 in
theorem i_X10 : ∀ w ∈ u_ws RX10 TX10 4, w ∈ aw := by decide +kernel
set_option maxRecDepth 20000 in
theorem i_X11 : ∀ w ∈ u_ws RX11 TX11 13, w ∈ aw := by decide +kernel
set_option maxRecDepth 20000 in
theorem i_X12 : ∀ w ∈ u_ws RX12 TX12 30, w ∈ aw := by decide +kernel
def clsOK (c : Nat) : Prop := vwCl[c]? = some (cR c, fN c, cN c) ∧ (∀ w ∈ u_ws (cR c) (fN c) (cN c), w ∈ aw) ∧ (∀ k, k < cN c → parseFieldDescriptor (fN c k).2.2.1 = some (fT c k)) ∧ ∀ a, a < cN c → ∀ b, b < cN c → a ≠ b → (fN c a).2.1 ≠ (fN c b).2.1
