/-! lays, book -/
abbrev sp_f99 (x : Int64) : Prop := (nI 0).toInt64 ≤ x ∧ x ≤ (nI 99).toInt64
def sp_lyM (M : Nat → Int32) (C : Nat → Int64) (j : Nat) : Nat → (Nat → Int32)
  | 0 => M
  | k + 1 => if sp_f99 (C (40 * j + k)) then upd (sp_lyM M C j k) (43 + 4 * k + 3) (C (40 * j + k)).toInt32 else sp_lyM M C j k
def sp_lyN (C : Nat → Int64) (j : Nat) : Nat → Nat
  | 0 => 0
  | k + 1 => if sp_f99 (C (40 * j + k)) then sp_lyN C j k + 1 else sp_lyN C j k
theorem lyN_le (C : Nat → Int64) (j : Nat) : ∀ k, sp_lyN C j k ≤ k
  | 0 => Nat.le_refl 0
  | k + 1 => by
    have := lyN_le C j k
    rw [sp_lyN]
    split <;> omega
theorem ly_o (M : Nat → Int32) (C : Nat → Int64) (j i : Nat) : ∀ k, (∀ q, q < k → i ≠ 43 + 4 * q + 3) → sp_lyM M C j k i = M i
  | 0, _ => rfl
  | k + 1, h => by
    rw [sp_lyM]
    split
    · rw [pk_un (h k (Nat.lt_succ_self k))]
      exact ly_o M C j i k (fun q hq => h q (Nat.lt_succ_of_lt hq))
    · exact ly_o M C j i k (fun q hq => h q (Nat.lt_succ_of_lt hq))
theorem lyM_t {M : Nat → Int32} {C : Nat → Int64} {j k : Nat} (c : sp_f99 (C (40 * j + k))) : sp_lyM M C j (k + 1) = upd (sp_lyM M C j k) (43 + 4 * k + 3) (C (40 * j + k)).toInt32 := by rw [sp_lyM, if_pos c]
theorem lyM_f {M : Nat → Int32} {C : Nat → Int64} {j k : Nat} (c : ¬ sp_f99 (C (40 * j + k))) : sp_lyM M C j (k + 1) = sp_lyM M C j k := by rw [sp_lyM, if_neg c]
theorem lyN_t {C : Nat → Int64} {j k : Nat} (c : sp_f99 (C (40 * j + k))) : sp_lyN C j (k + 1) = sp_lyN C j k + 1 := by rw [sp_lyN, if_pos c]
theorem lyN_f {C : Nat → Int64} {j k : Nat} (c : ¬ sp_f99 (C (40 * j + k))) : sp_lyN C j (k + 1) = sp_lyN C j k := by rw [sp_lyN, if_neg c]
theorem f99_i {x : Int64} : sp_f99 x ↔ (¬ x < 0 ∧ ¬ 99 < x) := by
  have e0 : (nI 0).toInt64 = 0 := by decide
  have e9 : (nI 99).toInt64 = 99 := by decide
  unfold sp_f99
  rw [e0, e9, Int64.not_lt, Int64.not_lt]
theorem f99_r {x : Int64} (h : sp_f99 x) : hz_r x.toInt32 0 99 := by
  obtain ⟨h1, h2⟩ := f99_i.mp h
  have e0 : (0 : Int64).toInt = 0 := by decide
  have e9 : (99 : Int64).toInt = 99 := by decide
  rw [fa_lt64, e0] at h1
  rw [fa_lt64, e9] at h2
  obtain ⟨k, hk, e⟩ := pk_lOf (x := x) (by rw [fa_lt64, e0]; exact h1)
  subst e
  rw [lN_i]
  rw [pk_lT (by omega)] at h2
  exact hz_tor (b := 99) (by omega) (by decide)
theorem hz_I_ly {b : Nat} {M : Nat → Int32} (h : hz_I b M) (C : Nat → Int64) (j : Nat) : ∀ k, k ≤ 8 → hz_I b (sp_lyM M C j k)
  | 0, _ => h
  | k + 1, hk => by
    have ih := hz_I_ly h C j k (by omega)
    rw [sp_lyM]
    split
    · rename_i q
      exact hz_I_upd ih (by omega) (fun _ _ _ => by omega) (fun _ _ _ => by omega) (fun _ _ _ => by omega) (fun _ _ _ => by omega) (fun _ _ _ => f99_r q)
    · exact ih
def fd_sh (B : Nat → Int32) (x : Int32) : Option Nat := if hz_in x 4 then if B (cl x) = 0 then some 5 else none else some 0
abbrev sp_min (a b : Nat) : Nat := if a ≤ b then a else b
def fd_book (M B : Nat → Int32) (x d : Int32) : Option Nat := if hz_in x 4 then if B (cl x) = 0 then some 5 else if hz_in d (nD M) then none else some 0 else some 0
def sp_bk (M B : Nat → Int32) (C : Nat → Int64) (j d : Nat) : Nat → (Nat → Int64)
  | 0 => C
  | k + 1 => vp_updL (sp_bk M B C j d k) (40 * j + k) (sp_cut (B j) (sp_gN k M (3 + 5 * d + 3)).toInt64)
