/-! the tape is fed -/
def fd_feed (tn : Nat) (n : Int32) : Option Nat := if rg n 1 4 then if tn + cl n ≤ 120 then none else some 1 else some 0
def sp_fe (T : Nat → Int32) (tn : Nat) (x : Int32) (i : Nat) : Nat → (Nat → Int32)
  | 0 => T
  | m + 1 => upd (sp_fe T tn x i m) (tn + m) ((x >>> (nI (8 * (i - m - 1)) &&& 31)) &&& nI 255)
theorem hz_d1 {k : Nat} (hk : 0 < k) : nI k - nI 1 = nI (k - 1) := pk_sub hk
theorem hz_d2 (k : Nat) : nI k + -1 = nI k - nI 1 := by
  rw [show (-1 : Int32) = -(nI 1) by decide]
  exact (Int32.sub_eq_add_neg ..).symm
theorem hz_d0 : nI 0 - nI 1 = -1 := by decide
def sp_fn (o : Option Nat) (a b : Nat) : Nat := match o with
  | none => b
  | some _ => a
