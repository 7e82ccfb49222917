/-! read: how many pairs make it just so -/
def fd_read (M B : Nat → Int32) (x d s : Int32) : Option Nat := if hz_in x 4 then if B (cl x) = 0 then some 5 else if hz_in d (nD M) then if hz_in s (nS M) then none else some 0 else some 0 else some 0
/-- the first n numbers of a sheet are HURT of one, session by session -/
def sp_bq (N : Nat → Int32) (C : Nat → Int64) (j d : Nat) : Nat → Bool
  | 0 => true
  | n + 1 => sp_bq N C j d n && decide (C (40 * j + n) = (sp_gN n N (3 + 5 * d + 3)).toInt64)
theorem bq_f {N : Nat → Int32} {C : Nat → Int64} {j d k : Nat} (h : sp_bq N C j d k = false) : ∀ n, k ≤ n → sp_bq N C j d n = false
  | 0, q => by have : k = 0 := by omega
               subst this; exact h
  | n + 1, q => by
    rw [sp_bq]
    by_cases e : k ≤ n
    · rw [bq_f h n e]; rfl
    · have : k = n + 1 := by omega
      subst this
      rw [sp_bq] at h
      exact h
theorem bq_n {N : Nat → Int32} {C : Nat → Int64} {j d k m : Nat} (hk : k < m) (c : ¬ C (40 * j + k) = (sp_gN k N (3 + 5 * d + 3)).toInt64) : sp_bq N C j d m = false := by
  refine bq_f (k := k + 1) ?_ m hk
  rw [sp_bq, decide_eq_false c, Bool.and_false]
theorem bq_y {N : Nat → Int32} {C : Nat → Int64} {j d k : Nat} (h : sp_bq N C j d k = true) (c : C (40 * j + k) = (sp_gN k N (3 + 5 * d + 3)).toInt64) : sp_bq N C j d (k + 1) = true := by
  rw [sp_bq, h, decide_eq_true c]; rfl
/-- a KIND of one, a FORCE of a speech tried: the pair's number is k -/
def sp_rM (M : Nat → Int32) (d z k : Nat) : Nat → Int32 := upd (upd M (3 + 5 * d + 0) (nI (k / 100))) (43 + 4 * z + 3) (nI (k % 100))
def sp_rn (M : Nat → Int32) (C : Nat → Int64) (j d z m : Nat) : Nat → Nat
  | 0 => 0
  | k + 1 => sp_rn M C j d z m k + if sp_bq (sp_rM M d z k) C j d m then 1 else 0
theorem rn_le (M : Nat → Int32) (C : Nat → Int64) (j d z m : Nat) : ∀ k, sp_rn M C j d z m k ≤ k
  | 0 => Nat.le_refl 0
  | k + 1 => by
    have := rn_le M C j d z m k
    rw [sp_rn]
    split <;> omega
theorem hz_I_r {b : Nat} {M : Nat → Int32} (h : hz_I b M) {d z : Nat} (hd : d < 8) (hz : z < 8) (k : Nat) : hz_I b (sp_rM M d z k) :=
  hz_I_f (hz_I_fr h (Or.inr (Or.inl ⟨d, hd, rfl⟩))) hz (by omega)
