/-! aim, pride, withdraw -/
/-- of the first n the one with which h is most (the first of several), and that h -/
def sp_gb (h : Nat → Int32) : Nat → Int32 × Int32
  | 0 => (nI 0, -1)
  | n + 1 => if (sp_gb h n).2 < h n then (nI n, h n) else sp_gb h n
theorem gb_t {h : Nat → Int32} {n : Nat} (c : (sp_gb h n).2 < h n) : sp_gb h (n + 1) = (nI n, h n) := by rw [sp_gb, if_pos c]
theorem gb_f {h : Nat → Int32} {n : Nat} (c : ¬ (sp_gb h n).2 < h n) : sp_gb h (n + 1) = sp_gb h n := by rw [sp_gb, if_neg c]
theorem gb_1t {h : Nat → Int32} {n : Nat} (c : (sp_gb h n).2 < h n) : nI n = (sp_gb h (n + 1)).1 := by rw [gb_t c]
theorem gb_1f {h : Nat → Int32} {n : Nat} (c : ¬ (sp_gb h n).2 < h n) : (sp_gb h n).1 = (sp_gb h (n + 1)).1 := by rw [gb_f c]
theorem gb_2t {h : Nat → Int32} {n : Nat} (c : (sp_gb h n).2 < h n) : h n = (sp_gb h (n + 1)).2 := by rw [gb_t c]
theorem gb_2f {h : Nat → Int32} {n : Nat} (c : ¬ (sp_gb h n).2 < h n) : (sp_gb h n).2 = (sp_gb h (n + 1)).2 := by rw [gb_f c]
theorem hz_km1 {k n : Nat} (hk : k < 2 ^ 30) (hn : n < 2 ^ 30) : nI n ≤ nI k - nI 1 ↔ n + 1 ≤ k := by
  rw [fa_le, nI_toInt (by omega), pk_sub_toInt hk (by decide)]
  omega
theorem hz_kinc (k : Nat) : nI k - nI 1 + 1 = nI (k + 1) - nI 1 := by
  show nI k - nI 1 + nI 1 = nI (k + 1) - nI 1
  rw [← nI_add k 1]
  simp
theorem hz_kback (k : Nat) : nI k - nI 1 + nI 1 = nI k := by simp
def fd_pride (M : Nat → Int32) (d n v : Int32) (P : Nat → Bool) : Option Nat := if hz_in d (nD M) then if rg n 1 60 then if rg v 0 99999 then if fa_first P 21 < 21 then none else some 3 else some 0 else some 0 else some 0
def sp_pp (M : Nat → Int32) (d n : Nat) (v : Int32) : Nat → Bool := fun k => decide (sp_tA M 3 d n k ≤ v)
def fd_withdraw (M : Nat → Int32) (n : Int32) : Option Nat := if rg n 1 60 then if nS M = 0 then some 3 else none else some 0
