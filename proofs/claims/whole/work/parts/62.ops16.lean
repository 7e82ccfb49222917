/-! the class's way of a text -/
def pz_gd : Bool → Int32
  | true => nI 1
  | false => nI 0
def pz_if (b : Bool) (f g : Nat → Int32) : Nat → Int32 := match b with
  | true => f
  | false => g
theorem pz_nbd (b : Bool) : narrow .boolean (.int (pz_gd b)) = .int (pz_gd b) := by cases b <;> rfl
