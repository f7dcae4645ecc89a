abbrev SS : Type := Nat → Int32
abbrev AA : Type := Nat → Nat → Int32
abbrev tl_z (v : Int32) : Prop := v = 0 ∨ v = 1
def tl_mx (x y : Int32) : Int32 := if x < y then y else x
def tl_S0 (S : SS) : SS := fun i => if i = 5 then S 0 else if i = 6 then S 1 else 0
def tl_A0 (A : AA) : AA := fun j => if j = 0 then A 0 else fun _ => 0
