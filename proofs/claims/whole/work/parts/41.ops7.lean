/-! sheets -/
/-- why a sheet has no numbers, or 0 -/
def sp_nt (B : Nat → Int32) (x : Int32) : Int32 := if hz_in x 4 then if B (cl x) = 0 then -1000000006 else nI 0 else -1000000001
theorem nt_cases (B : Nat → Int32) (x : Int32) : (¬ hz_in x 4 ∧ sp_nt B x = -1000000001) ∨ (∃ j : Nat, j < 4 ∧ x = nI j ∧ B j = 0 ∧ sp_nt B x = -1000000006) ∨ (∃ j : Nat, j < 4 ∧ x = nI j ∧ ¬ B j = 0 ∧ sp_nt B x = nI 0) := by
  by_cases h : hz_in x 4
  · obtain ⟨j, hj, e⟩ := hz_in_of h (by decide)
    have hc : cl x = j := by rw [e, cl, nI_clamp (by omega)]
    by_cases q : B j = 0
    · exact Or.inr (Or.inl ⟨j, hj, e, q, by rw [sp_nt, if_pos h, hc, if_pos q]⟩)
    · exact Or.inr (Or.inr ⟨j, hj, e, q, by rw [sp_nt, if_pos h, hc, if_neg q]⟩)
  · exact Or.inl ⟨h, by rw [sp_nt, if_neg h]⟩
/-- the lowest bits of a number -/
def sp_cut (b : Int32) (v : Int64) : Int64 := if b = nI 8 then v.toInt32.toInt8.toInt32.toInt64 else if b = nI 16 then v.toInt32.toInt16.toInt32.toInt64 else v
/-- sizes of sheets stay in range -/
def hz_Z (S : Nat → Int32) : Prop := ∀ s : Nat, s < 4 → S s = nI (cl (S s)) ∧ cl (S s) ≤ 40
abbrev hz_bits (b : Int32) : Prop := b = 0 ∨ b = nI 8 ∨ b = nI 16 ∨ b = nI 64
/-- the first k numbers of a sheet become 0 -/
def sp_zC (C : Nat → Int64) (j k : Nat) : Nat → Int64 := fun q => if 40 * j ≤ q ∧ q < 40 * j + k then 0 else C q
theorem zC_0 (C : Nat → Int64) (j : Nat) : sp_zC C j 0 = C := by
  funext q
  unfold sp_zC
  rw [if_neg (by omega)]
theorem zC_s (C : Nat → Int64) (j k : Nat) : vp_updL (sp_zC C j k) (40 * j + k) 0 = sp_zC C j (k + 1) := by
  funext q
  unfold vp_updL sp_zC
  by_cases h : q = 40 * j + k
  · rw [if_pos h, if_pos (by omega)]
  · rw [if_neg h]
    by_cases h2 : 40 * j ≤ q ∧ q < 40 * j + k
    · rw [if_pos h2, if_pos (by omega)]
    · rw [if_neg h2, if_neg (by omega)]
def sp_fC (o : Option Nat) (C E : Nat → Int64) : Nat → Int64 := match o with
  | none => E
  | some _ => C
def sp_frl (o : Option Nat) (v : Int64) : Int64 := match o with
  | none => v
  | some k => (-1000000001 - nI k).toInt64
theorem frl_n {v V : Int64} (h : v = V) : v = sp_frl none V := h
def fd_sheet (s b n : Int32) : Option Nat := if hz_in s 4 then if hz_bits b then if n < 0 then some 6 else if n ≤ nI 40 then none else some 0 else some 0 else some 0
def fd_write (B S : Nat → Int32) (x i : Int32) : Option Nat := if hz_in x 4 then if B (cl x) = 0 then some 5 else if hz_in i (cl (S (cl x))) then none else some 0 else some 0
