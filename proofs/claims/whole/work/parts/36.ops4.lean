/-! what is best -/
/-- of the first n the one with which h is least (the first of several), and that h -/
def sp_lb (h : Nat → Int32) : Nat → Option Nat × Int32
  | 0 => (none, nI 0)
  | n + 1 => if hz_o (sp_lb h n).1 < 0 ∨ h n < (sp_lb h n).2 then (some n, h n) else sp_lb h n
theorem lb_1t {h : Nat → Int32} {n : Nat} (c : hz_o (sp_lb h n).1 < 0 ∨ h n < (sp_lb h n).2) : nI n = hz_o (sp_lb h (n + 1)).1 := by rw [sp_lb, if_pos c]; rfl
theorem lb_1f {h : Nat → Int32} {n : Nat} (c : ¬ (hz_o (sp_lb h n).1 < 0 ∨ h n < (sp_lb h n).2)) : hz_o (sp_lb h n).1 = hz_o (sp_lb h (n + 1)).1 := by rw [sp_lb, if_neg c]
theorem lb_2t {h : Nat → Int32} {n : Nat} (c : hz_o (sp_lb h n).1 < 0 ∨ h n < (sp_lb h n).2) : h n = (sp_lb h (n + 1)).2 := by rw [sp_lb, if_pos c]
theorem lb_2f {h : Nat → Int32} {n : Nat} (c : ¬ (hz_o (sp_lb h n).1 < 0 ∨ h n < (sp_lb h n).2)) : (sp_lb h n).2 = (sp_lb h (n + 1)).2 := by rw [sp_lb, if_neg c]
theorem lb_lt (h : Nat → Int32) : ∀ (n j : Nat), (sp_lb h n).1 = some j → j < n
  | 0, j, q => by simp [sp_lb] at q
  | n + 1, j, q => by
    unfold sp_lb at q
    split at q
    · cases q; exact Nat.lt_succ_self n
    · exact Nat.lt_succ_of_lt (lb_lt h n j q)
theorem lb_0 {h : Nat → Int32} : hz_o (sp_lb h 0).1 < 0 := by
  show (-1 : Int32) < 0
  decide
theorem lb_some (h : Nat → Int32) : ∀ n, 0 < n → ∃ j, (sp_lb h n).1 = some j
  | 0, q => absurd q (Nat.lt_irrefl 0)
  | n + 1, _ => by
    rw [sp_lb]
    split
    · exact ⟨n, rfl⟩
    · rename_i c
      rcases Nat.eq_zero_or_pos n with e | e
      · subst e; exact absurd (Or.inl lb_0) c
      · exact lb_some h n e
theorem lb_nn {h : Nat → Int32} {n : Nat} (hn : 0 < n) (hn2 : n < 2 ^ 31) : ¬ hz_o (sp_lb h n).1 < 0 := by
  obtain ⟨j, e⟩ := lb_some h n hn
  rw [e]
  exact nI_pos (Nat.lt_trans (lb_lt h n j e) hn2)
/-- the class begins with the first of them -/
theorem lb_1z {h : Nat → Int32} : nI 0 = hz_o (sp_lb h 1).1 := lb_1t (n := 0) (Or.inl lb_0)
theorem lb_2z {h : Nat → Int32} : h 0 = (sp_lb h 1).2 := lb_2t (n := 0) (Or.inl lb_0)
/-- what is tried keeps what stays true -/
theorem hz_I_fr {b : Nat} {M : Nat → Int32} (h : hz_I b M) {i : Nat} {x : Int32} (hi : (∃ s, s < 8 ∧ i = 43 + 4 * s + 1) ∨ (∃ d, d < 8 ∧ i = 3 + 5 * d) ∨ (∃ d, d < 8 ∧ i = 3 + 5 * d + 2)) : hz_I b (upd M i x) := by
  refine hz_I_upd h ?_ ?_ ?_ ?_ ?_ ?_
  · rcases hi with ⟨s, hs, e⟩ | ⟨s, hs, e⟩ | ⟨s, hs, e⟩ <;> omega
  · intro d hd q; rcases hi with ⟨s, hs, e⟩ | ⟨s, hs, e⟩ | ⟨s, hs, e⟩ <;> omega
  · intro d hd q; rcases hi with ⟨s, hs, e⟩ | ⟨s, hs, e⟩ | ⟨s, hs, e⟩ <;> omega
  · intro d hd q; rcases hi with ⟨s, hs, e⟩ | ⟨s, hs, e⟩ | ⟨s, hs, e⟩ <;> omega
  · intro d hd q; rcases hi with ⟨s, hs, e⟩ | ⟨s, hs, e⟩ | ⟨s, hs, e⟩ <;> omega
  · intro d hd q; rcases hi with ⟨s, hs, e⟩ | ⟨s, hs, e⟩ | ⟨s, hs, e⟩ <;> omega
theorem hz_I_p {b : Nat} {M : Nat → Int32} (h : hz_I b M) {d v : Nat} (hd : d < 8) (hv : v ≤ 20) : hz_I b (upd M (3 + 5 * d + 1) (nI v)) :=
  hz_I_upd h (by omega) (fun _ _ _ => hz_tor (b := 20) hv (by decide)) (fun _ _ _ => by omega) (fun _ _ _ => by omega) (fun _ _ _ => by omega) (fun _ _ _ => by omega)
theorem hz_I_f {b : Nat} {M : Nat → Int32} (h : hz_I b M) {z v : Nat} (hz : z < 8) (hv : v ≤ 99) : hz_I b (upd M (43 + 4 * z + 3) (nI v)) :=
  hz_I_upd h (by omega) (fun _ _ _ => by omega) (fun _ _ _ => by omega) (fun _ _ _ => by omega) (fun _ _ _ => by omega) (fun _ _ _ => hz_tor (b := 99) hv (by decide))
theorem hz_I_a {b : Nat} {M : Nat → Int32} (h : hz_I b M) {z v : Nat} (hz : z < 8) (hv : v ≤ 8) : hz_I b (upd M (43 + 4 * z + 2) (nI v - nI 1)) :=
  hz_I_upd h (by omega) (fun _ _ _ => by omega) (fun _ _ _ => by omega) (fun _ _ _ => by omega) (fun _ _ _ => by rw [pk_sub_toInt (by omega) (by decide)]; omega) (fun _ _ _ => by omega)
theorem hz_I_alt {b : Nat} {M : Nat → Int32} (h : hz_I b M) {c i v : Nat} (hi : i < 8) (h1 : c = 1 → v ≤ 8) (h3 : c = 3 → v ≤ 20) (h5 : ¬ c = 0 ∧ ¬ c = 1 ∧ ¬ c = 2 ∧ ¬ c = 3 ∧ ¬ c = 4 → v < 8) : hz_I b (sp_alt M c i v) := by
  unfold sp_alt
  split
  · exact hz_I_fr h (Or.inl ⟨i, hi, rfl⟩)
  · split
    · rename_i q; exact hz_I_a h hi (h1 q)
    · split
      · exact hz_I_fr h (Or.inr (Or.inl ⟨i, hi, rfl⟩))
      · split
        · rename_i q; exact hz_I_p h hi (h3 q)
        · split
          · exact hz_I_fr h (Or.inr (Or.inr ⟨i, hi, rfl⟩))
          · rename_i q0 q1 q2 q3 q4
            exact hz_I_f h (v := 0) (h5 ⟨q0, q1, q2, q3, q4⟩) (by omega)
def fd_bs (M : Nat → Int32) (s n : Int32) : Option Nat := if hz_in s (nS M) then if rg n 1 60 then none else some 0 else some 0
def fd_bd (M : Nat → Int32) (d n : Int32) : Option Nat := if hz_in d (nD M) then if rg n 1 60 then none else some 0 else some 0
def fd_aim (M : Nat → Int32) (s d n : Int32) : Option Nat := if hz_in s (nS M) then if hz_in d (nD M) then if rg n 1 60 then none else some 0 else some 0 else some 0
/-- HURT of all, or of one, so many sessions on, with a value tried -/
abbrev sp_tA (M : Nat → Int32) (c i n : Nat) : Nat → Int32 := fun x_ => sp_hurt (sp_gN n (sp_alt M c i x_))
abbrev sp_tO (M : Nat → Int32) (c i n d : Nat) : Nat → Int32 := fun x_ => sp_gN n (sp_alt M c i x_) (3 + 5 * d + 3)
