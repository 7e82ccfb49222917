/-! images, counts, findings -/
def fd_undo (kf : Int32) : Option Nat := if kf = 0 then some 3 else none
def fd_count (w : Int32) : Option Nat := if w.toInt < 0 ∨ 3 < w.toInt then some 0 else none
def sp_cnt (M : Nat → Int32) (tp w : Int32) : Int32 := if w = nI 0 then M 1 else if w = nI 1 then M 2 else if w = nI 2 then tp else sp_sum (fun d => M (3 + 5 * d + 4)) (nD M)
theorem cnt_0 {M : Nat → Int32} {tp w : Int32} (h : w = nI 0) : M 1 = sp_cnt M tp w := by rw [sp_cnt, if_pos h]
theorem cnt_1 {M : Nat → Int32} {tp w : Int32} (h : w = nI 1) : M 2 = sp_cnt M tp w := by rw [sp_cnt, if_neg (by rw [h]; decide), if_pos h]
theorem cnt_2 {M : Nat → Int32} {tp w : Int32} (h : w = nI 2) : tp = sp_cnt M tp w := by rw [sp_cnt, if_neg (by rw [h]; decide), if_neg (by rw [h]; decide), if_pos h]
theorem cnt_3 {M : Nat → Int32} {tp w : Int32} (h : w = nI 3) : sp_sum (fun d => M (3 + 5 * d + 4)) (nD M) = sp_cnt M tp w := by rw [sp_cnt, if_neg (by rw [h]; decide), if_neg (by rw [h]; decide), if_neg (by rw [h]; decide)]
def fd_status (w : Int32) : Option Nat := if -1 ≤ w ∧ w ≤ nI 6 then none else some 0
def sp_stat (F : Nat → Int32) (w : Int32) : Int32 := if w < 0 then sp_sum F 7 else F (cl w)
def sp_st (F : Nat → Int32) (w : Int32) : Nat → Int32
  | 0 => nI 0
  | k + 1 => sp_st F w k + (if w < 0 ∨ w = nI k then F k else nI 0)
theorem st_in {w : Int32} (h : -1 ≤ w ∧ w ≤ nI 6) (h2 : ¬ w < 0) : ∃ j : Nat, j < 7 ∧ w = nI j := by
  obtain ⟨j, -, h3, e⟩ := hz_rg (a := 0) (b := 6) (by decide) (by decide) ⟨Int32.not_lt.mp h2, h.2⟩
  exact ⟨j, by omega, e⟩
theorem st_neg {F : Nat → Int32} {w : Int32} (h : w < 0) : ∀ k, sp_st F w k = sp_sum F k
  | 0 => rfl
  | k + 1 => by rw [sp_st, sp_sum, if_pos (Or.inl h), st_neg h k]
theorem hz_add0 (x : Int32) : x + nI 0 = x := by
  show x + 0 = x
  simp
theorem hz_0add (x : Int32) : nI 0 + x = x := by
  show 0 + x = x
  simp
theorem st_pos {F : Nat → Int32} {j : Nat} (hj : j < 7) : ∀ k, k ≤ 7 → sp_st F (nI j) k = if j < k then F j else nI 0
  | 0, _ => by rw [if_neg (Nat.not_lt_zero j)]; rfl
  | k + 1, hk => by
    rw [sp_st, st_pos hj k (by omega)]
    have hn : ¬ nI j < 0 := nI_pos (by omega)
    by_cases e : j = k
    · subst e
      rw [if_neg (Nat.lt_irrefl j), if_pos (Or.inr rfl), if_pos (Nat.lt_succ_self j), hz_0add]
    · rw [if_neg (c := nI j < 0 ∨ nI j = nI k) (fun h => h.elim hn (fun q => e ((nI_eq (by omega) (by omega)).mp q))), hz_add0]
      by_cases q : j < k
      · rw [if_pos q, if_pos (by omega)]
      · rw [if_neg q, if_neg (by omega)]
theorem st_eq {F : Nat → Int32} {w : Int32} (h : -1 ≤ w ∧ w ≤ nI 6) : sp_st F w 7 = sp_stat F w := by
  unfold sp_stat
  by_cases q : w < 0
  · rw [if_pos q, st_neg q]
  · rw [if_neg q]
    obtain ⟨j, hj, rfl⟩ := st_in h q
    rw [st_pos hj 7 (by omega), if_pos hj, cl, nI_clamp (by omega)]
