/-! the acts, as both sides do them: a finding (none, or its place), what is answered, what becomes -/
def sp_ff (F : Nat → Int32) (o : Option Nat) : Nat → Int32 := match o with
  | none => F
  | some k => sp_fd F k
def sp_fM (o : Option Nat) (M N : Nat → Int32) : Nat → Int32 := match o with
  | none => N
  | some _ => M
def sp_fr (o : Option Nat) (v : Int32) : Int32 := match o with
  | none => v
  | some k => -1000000001 - nI k
abbrev cl (x : Int32) : Nat := x.toNatClampNeg
abbrev rg (x : Int32) (a b : Nat) : Prop := nI a ≤ x ∧ x ≤ nI b
theorem sp_wk_01 (M : Nat → Int32) (d : Nat) : sp_wk M d = nI 0 ∨ sp_wk M d = nI 1 := by
  have hb : ∀ (P : Prop) [Decidable P], hz_b P = nI 0 ∨ hz_b P = nI 1 := fun P _ => by
    by_cases h : P
    · exact Or.inr (hz_bt h)
    · exact Or.inl (hz_bf h)
  unfold sp_wk
  exact k5_all (P := fun x => x = nI 0 ∨ x = nI 1) (hb _) (Or.inl rfl) (hb _) (hb _) (hb _) (hb _)
theorem sp_wk_1 {M : Nat → Int32} {d : Nat} (h : ¬ sp_wk M d = 0) : sp_wk M d = nI 1 := (sp_wk_01 M d).resolve_left h
-- delegate
def fd_delegate (M : Nat → Int32) (x : Int32) : Option Nat := if rg x 0 5 then if nD M = 8 then some 1 else none else some 0
-- of
def fd_of (M : Nat → Int32) (d w : Int32) : Option Nat := if hz_in d (nD M) then if rg w 0 5 then none else some 0 else some 0
def sp_ofv (M : Nat → Int32) (d w : Int32) : Int32 := if cl w < 5 then M (3 + 5 * cl d + cl w) else sp_wk M (cl d)
theorem ofv_1 {M : Nat → Int32} {j i : Nat} (hj : j < 8) (hi : i < 5) : M (3 + 5 * j + i) = sp_ofv M (nI j) (nI i) := by
  unfold sp_ofv cl
  rw [nI_clamp (by omega), nI_clamp (by omega), if_pos hi]
theorem ofv_2 {M : Nat → Int32} {j i : Nat} (hj : j < 8) (hi : 5 ≤ i) (hi2 : i ≤ 5) : sp_wk M j = sp_ofv M (nI j) (nI i) := by
  unfold sp_ofv cl
  rw [nI_clamp (by omega), nI_clamp (by omega), if_neg (by omega)]
-- set
def fd_set (M : Nat → Int32) (d w v : Int32) : Option Nat := if hz_in d (nD M) then if nI 0 ≤ v ∧ v ≤ sp_mo w then none else some 0 else some 0
-- turn
def fd_turn (M : Nat → Int32) (d k : Int32) : Option Nat := if hz_in d (nD M) then if rg k 0 5 then none else some 0 else some 0
-- as
def fd_as (M : Nat → Int32) (d k : Int32) : Option Nat := if hz_in d (nD M) then if rg k 0 5 then if hz_under (M (3 + 5 * cl d)) k then none else some 2 else some 0 else some 0
-- speech
def fd_speech (M : Nat → Int32) (b t a f : Int32) : Option Nat := if hz_in b (nD M) ∧ hz_in t 4 ∧ (a = -1 ∨ hz_in a (nD M)) ∧ hz_in f 100 then if nS M = 8 then some 1 else none else some 0
-- speechOf
def fd_speechOf (M : Nat → Int32) (s w : Int32) : Option Nat := if hz_in s (nS M) then if rg w 0 5 then none else some 0 else some 0
def sp_sov (M : Nat → Int32) (s w : Int32) : Int32 := if cl w < 4 then M (43 + 4 * cl s + cl w) else if cl w = 4 then hz_o (sp_who M (cl s)) else sp_over M (cl s)
theorem sov_1 {M : Nat → Int32} {j i : Nat} (hj : j < 8) (hi : i < 4) : M (43 + 4 * j + i) = sp_sov M (nI j) (nI i) := by
  unfold sp_sov cl
  rw [nI_clamp (by omega), nI_clamp (by omega), if_pos hi]
theorem sov_2 {M : Nat → Int32} {j i : Nat} (hj : j < 8) (hi : i = 4) : hz_o (sp_who M j) = sp_sov M (nI j) (nI i) := by
  unfold sp_sov cl
  rw [nI_clamp (by omega), nI_clamp (by omega), if_neg (by omega), if_pos hi]
theorem sov_3 {M : Nat → Int32} {j i : Nat} (hj : j < 8) (hi : 5 ≤ i) (hi2 : i ≤ 5) : sp_over M j = sp_sov M (nI j) (nI i) := by
  unfold sp_sov cl
  rw [nI_clamp (by omega), nI_clamp (by omega), if_neg (by omega), if_neg (by omega)]
-- tell
def sp_may (M : Nat → Int32) (w v : Int32) : Prop := (w = nI 0 ∧ hz_in v (nD M)) ∨ (w = nI 1 ∧ hz_in v 4) ∨ (w = nI 2 ∧ (v = -1 ∨ hz_in v (nD M))) ∨ (w = nI 3 ∧ hz_in v 100)
def fd_tell (M : Nat → Int32) (s w v : Int32) : Option Nat := if hz_in s (nS M) then if (w = nI 0 ∧ hz_in v (nD M)) ∨ (w = nI 1 ∧ hz_in v 4) ∨ (w = nI 2 ∧ (v = -1 ∨ hz_in v (nD M))) ∨ (w = nI 3 ∧ hz_in v 100) then none else some 0 else some 0
-- loses, renders, hurts
def fd_ds (M : Nat → Int32) (d s : Int32) : Option Nat := if hz_in d (nD M) then if hz_in s (nS M) then none else some 0 else some 0
def fd_s (M : Nat → Int32) (s : Int32) : Option Nat := if hz_in s (nS M) then none else some 0
theorem sp_loses_0 {M : Nat → Int32} {d s : Nat} (hq : hz_r (M (3 + 5 * d + 1)) 0 20) : sp_loses M d s (nI 0) ≤ 0 := by
  have e5 : sp_plain M d s (nI 0) = nI 0 := by unfold sp_plain; split <;> first | rfl | decide
  have ep : sp_peer M d s (nI 0) = nI 0 := by unfold sp_peer; rw [e5]; split <;> rfl
  have el : ¬ (0 : Int32) ≤ sp_lord M d s (nI 0) ∨ sp_lord M d s (nI 0) = nI 0 := by
    unfold sp_lord
    rw [ep]
    obtain ⟨j, hj, e⟩ := hz_ofr (b := 20) (by decide) hq
    rw [e, pk_div (by omega) (by decide) (by decide)]
    by_cases h : j / 2 = 0
    · right; rw [h]; decide
    · left
      exact Int32.not_le.mpr (pk_sneg (by omega) (by omega))
  have z : nI 0 ≤ (0 : Int32) := by decide
  unfold sp_loses
  split
  · exact z
  · split
    · refine k5_all (P := fun x => x ≤ 0) ?_ ?_ ?_ ?_ ?_ ?_
      · rw [ep]; exact z
      · rw [e5]; decide
      · rw [e5]; exact z
      · rcases el with h | h
        · rw [if_neg h]; exact z
        · split
          · rw [h]; exact z
          · exact z
      · rw [if_pos (by decide), e5]; decide
      · rw [e5]; exact z
    · exact z
theorem sp_hs_0 {M : Nat → Int32} {z b : Nat} (hI : hz_I b M) : ∀ n, n ≤ 8 → sp_hs M z (nI 0) n = nI 0
  | 0, _ => rfl
  | n + 1, hn => by
    rw [sp_hs, if_pos (sp_loses_0 (hI.2.1 n (by omega)).1), hz_or0]
    exact sp_hs_0 hI n (by omega)
theorem hz_mo4 {w : Int32} : (nI 1 ≤ w ∧ w ≤ nI 4) ↔ ¬ sp_mo w = -1 := by
  rw [fa_le, fa_le, hz_lit (by decide), hz_lit (by decide)]
  unfold sp_mo
  simp only [hz_eqn (k := 1) (by decide), hz_eqn (k := 2) (by decide), hz_eqn (k := 3) (by decide), hz_eqn (k := 4) (by decide)]
  constructor
  · intro h
    split
    · decide
    · split
      · decide
      · split
        · decide
        · split
          · decide
          · omega
  · intro h
    by_cases h1 : w.toInt = 1
    · omega
    · by_cases h2 : w.toInt = 2
      · omega
      · by_cases h3 : w.toInt = 3
        · omega
        · by_cases h4 : w.toInt = 4
          · omega
          · exfalso; apply h; simp [h1, h2, h3, h4]
theorem hz_mo_no {w v : Int32} (h : ¬ (nI 1 ≤ w ∧ w ≤ nI 4)) : ¬ (nI 0 ≤ v ∧ v ≤ sp_mo w) := by
  have e : sp_mo w = -1 := by
    by_cases q : sp_mo w = -1
    · exact q
    · exact absurd (hz_mo4.mpr q) h
  rw [e, fa_le, fa_le, hz_lit (by decide)]
  have : (-1 : Int32).toInt = -1 := by decide
  omega
theorem hz_mo4e {w : Int32} (h : nI 1 ≤ w ∧ w ≤ nI 4) (h1 : ¬ w = nI 1) (h2 : ¬ w = nI 2) (h3 : ¬ w = nI 3) : w = nI 4 := by
  rw [fa_le, fa_le, hz_lit (by decide), hz_lit (by decide)] at h
  rw [hz_eqn (by decide)] at h1 h2 h3 ⊢
  omega
theorem hz_mo_m1 {w v : Int32} (h : sp_mo w = -1) : ¬ (nI 0 ≤ v ∧ v ≤ sp_mo w) := by
  rw [h, fa_le, fa_le, hz_lit (by decide)]
  have : (-1 : Int32).toInt = -1 := by decide
  omega
theorem tell_n {M : Nat → Int32} {w v : Int32} {P : Prop} (h : P ∧ w ≠ nI 0 ∧ w ≠ nI 1 ∧ w ≠ nI 2 ∧ w ≠ nI 3) : ¬ ((w = nI 0 ∧ hz_in v (nD M)) ∨ (w = nI 1 ∧ hz_in v 4) ∨ (w = nI 2 ∧ (v = -1 ∨ hz_in v (nD M))) ∨ (w = nI 3 ∧ hz_in v 100)) := by
  obtain ⟨-, h0, h1, h2, h3⟩ := h
  rintro (h | h | h | h)
  · exact h0 h.1
  · exact h1 h.1
  · exact h2 h.1
  · exact h3 h.1
theorem tell_0 {M : Nat → Int32} {v : Int32} (c : ¬ hz_in v (nD M)) : ¬ ((nI 0 = nI 0 ∧ hz_in v (nD M)) ∨ (nI 0 = nI 1 ∧ hz_in v 4) ∨ (nI 0 = nI 2 ∧ (v = -1 ∨ hz_in v (nD M))) ∨ (nI 0 = nI 3 ∧ hz_in v 100)) := by
  rintro (h | h | h | h)
  · exact c h.2
  · exact absurd h.1 (by decide)
  · exact absurd h.1 (by decide)
  · exact absurd h.1 (by decide)
theorem tell_1 {M : Nat → Int32} {v : Int32} (c : ¬ hz_in v 4) : ¬ ((nI 1 = nI 0 ∧ hz_in v (nD M)) ∨ (nI 1 = nI 1 ∧ hz_in v 4) ∨ (nI 1 = nI 2 ∧ (v = -1 ∨ hz_in v (nD M))) ∨ (nI 1 = nI 3 ∧ hz_in v 100)) := by
  rintro (h | h | h | h)
  · exact absurd h.1 (by decide)
  · exact c h.2
  · exact absurd h.1 (by decide)
  · exact absurd h.1 (by decide)
theorem tell_2 {M : Nat → Int32} {v : Int32} (c : ¬ (v = -1 ∨ hz_in v (nD M))) : ¬ ((nI 2 = nI 0 ∧ hz_in v (nD M)) ∨ (nI 2 = nI 1 ∧ hz_in v 4) ∨ (nI 2 = nI 2 ∧ (v = -1 ∨ hz_in v (nD M))) ∨ (nI 2 = nI 3 ∧ hz_in v 100)) := by
  rintro (h | h | h | h)
  · exact absurd h.1 (by decide)
  · exact absurd h.1 (by decide)
  · exact c h.2
  · exact absurd h.1 (by decide)
theorem tell_3 {M : Nat → Int32} {v : Int32} (c : ¬ hz_in v 100) : ¬ ((nI 3 = nI 0 ∧ hz_in v (nD M)) ∨ (nI 3 = nI 1 ∧ hz_in v 4) ∨ (nI 3 = nI 2 ∧ (v = -1 ∨ hz_in v (nD M))) ∨ (nI 3 = nI 3 ∧ hz_in v 100)) := by
  rintro (h | h | h | h)
  · exact absurd h.1 (by decide)
  · exact absurd h.1 (by decide)
  · exact absurd h.1 (by decide)
  · exact c h.2
theorem fr_n {v V : Int32} (h : v = V) : v = sp_fr none V := h
