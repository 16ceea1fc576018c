/-! words of the printed functions -/
def b_ite (c a b : jB) : jB := fun st => jb (c st) fun t s1 => if t then a s1 else b s1
def o_max : Value → Value → Option Value | .int x, .int y => some (.int (if x < y then y else x)) | _, _ => none
def o_min : Value → Value → Option Value | .int x, .int y => some (.int (if y < x then y else x)) | _, _ => none
def jByt : Nat → Value := fun j => .int (match j with | 0 => 112 | 1 => 121 | 2 => 116 | 3 => 107 | _ => 110)
def j_ixB (b : Int32) : Nat → Nat → Int32
  | 0, _ => -1
  | n + 1, i => if jByt i = .int b then nI i else j_ixB b n (i + 1)
def j_ix (k : Int32) : Int32 := if 0 ≤ k ∧ k ≤ 255 then j_ixB k.toInt8.toInt32 5 0 else -1
def x_ixof (a : jE) : jE := fun st => jb (a st) fun u s1 => match u with
  | .int c => some (.int (j_ix c), s1)
  | _ => none
