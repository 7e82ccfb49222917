/-! what a congress does, over its row of 75 numbers M (laid out as the reference lays it) -/
abbrev nT (M : Nat → Int32) : Nat := (M 0).toNatClampNeg
abbrev nD (M : Nat → Int32) : Nat := (M 1).toNatClampNeg
abbrev nS (M : Nat → Int32) : Nat := (M 2).toNatClampNeg
def sp_held (v a b : Int32) : Int32 := if v < a then a else if b < v then b else v
def sp_plain (M : Nat → Int32) (d s : Nat) (f : Int32) : Int32 := if M (43 + 4 * s + 2) = nI d then f else f / nI 5
def sp_peer (M : Nat → Int32) (d s : Nat) (f : Int32) : Int32 := if M (43 + 4 * s + 1) = nI 1 then sp_plain M d s f else nI 0
def sp_lord (M : Nat → Int32) (d s : Nat) (f : Int32) : Int32 := sp_peer M d s f - M (3 + 5 * d + 1) / nI 2
def sp_loses (M : Nat → Int32) (d s : Nat) (f : Int32) : Int32 := if M (43 + 4 * s) = nI d then nI 0 else if 0 ≤ M (43 + 4 * s + 2) then
    sp_k5 (M (3 + 5 * d)) (sp_peer M d s f) (sp_plain M d s f / nI 2) (if f ≤ 0 then sp_plain M d s f else sp_plain M d s f + M (3 + 5 * d + 1)) (if 0 ≤ sp_lord M d s f then sp_lord M d s f else nI 0) (if f < nI 10 then sp_plain M d s f / nI 2 else sp_plain M d s f / nI 2 + nI 1) (sp_plain M d s f) else nI 0
def sp_rpl (M : Nat → Int32) (d : Nat) (f : Int32) : Int32 := if f ≤ M (3 + 5 * d + 1) then nI 0 else f - M (3 + 5 * d + 1)
def sp_rend (M : Nat → Int32) (d : Nat) (f : Int32) : Int32 := sp_k5 (M (3 + 5 * d)) (f / nI 2) f (sp_held (nI 2 * sp_rpl M d f) (nI 0) (nI 99)) (f / nI 2 + M (3 + 5 * d + 1) / nI 4) (if f ≤ 0 then nI 0 else f - nI 1) (sp_rpl M d f)
/-- 1 if one would weep, else 0 -/
def sp_wk (M : Nat → Int32) (d : Nat) : Int32 := sp_k5 (M (3 + 5 * d)) (hz_b (nI 400 ≤ M (3 + 5 * d + 3))) (nI 0) (hz_b (nI 40 ≤ M (3 + 5 * d + 3))) (hz_b (nI 400 ≤ M (3 + 5 * d + 3) ∧ M (3 + 5 * d + 1) ≤ nI 10)) (hz_b (M 0 - M 0 / nI 7 * nI 7 = nI 6)) (hz_b (nI 100 ≤ M (3 + 5 * d + 3)))
def hz_o (o : Option Nat) : Int32 := match o with
  | none => -1
  | some j => nI j
/-- what one of them may lose as an interpreter -/
def sp_l (M : Nat → Int32) (s d : Nat) : Int32 := if (M (3 + 5 * d + 2) >>> (M (43 + 4 * s + 1) &&& 31)) &&& nI 1 = nI 1 then sp_loses M d s (M (43 + 4 * s + 3)) else nI 0
/-- the first n of them: the interpreter so far, what he loses -/
def sp_it (M : Nat → Int32) (s : Nat) : Nat → Option Nat × Int32
  | 0 => (none, nI 0)
  | n + 1 => if (sp_it M s n).2 < sp_l M s n then (some n, sp_l M s n) else sp_it M s n
abbrev sp_who (M : Nat → Int32) (s : Nat) : Option Nat := (sp_it M s (nD M)).1
def sp_over (M : Nat → Int32) (s : Nat) : Int32 := match sp_who M s with
  | none => nI 0
  | some j => sp_rend M j (M (43 + 4 * s + 3))
theorem sp_it_lt (M : Nat → Int32) (s : Nat) : ∀ (n j : Nat), (sp_it M s n).1 = some j → j < n
  | 0, j, h => by simp [sp_it] at h
  | n + 1, j, h => by
    unfold sp_it at h
    split at h
    · cases h; exact Nat.lt_succ_self n
    · exact Nat.lt_succ_of_lt (sp_it_lt M s n j h)
theorem sp_it_1 (M : Nat → Int32) (s n : Nat) : hz_o (sp_it M s (n + 1)).1 = if (sp_it M s n).2 < sp_l M s n then nI n else hz_o (sp_it M s n).1 := by
  rw [sp_it]; split <;> rfl
theorem sp_it_2 (M : Nat → Int32) (s n : Nat) : (sp_it M s (n + 1)).2 = if (sp_it M s n).2 < sp_l M s n then sp_l M s n else (sp_it M s n).2 := by
  rw [sp_it]; split <;> rfl
/-- a finding is told -/
def sp_fd (F : Nat → Int32) (k : Nat) : Nat → Int32 := upd F k (F k + nI 1)
/-- one more delegate -/
def sp_add (M : Nat → Int32) (k p t : Int32) : Nat → Int32 := upd (upd (upd (upd (upd (upd M 1 (nI (nD M + 1))) (3 + 5 * nD M + 0) k) (3 + 5 * nD M + 1) p) (3 + 5 * nD M + 2) t) (3 + 5 * nD M + 3) (nI 0)) (3 + 5 * nD M + 4) (nI 0)
/-- one more speech -/
def sp_addS (M : Nat → Int32) (by_ tg at_ f : Int32) : Nat → Int32 := upd (upd (upd (upd (upd M 2 (nI (nS M + 1))) (43 + 4 * nS M) by_) (43 + 4 * nS M + 1) tg) (43 + 4 * nS M + 2) at_) (43 + 4 * nS M + 3) f
def sp_sum (f : Nat → Int32) : Nat → Int32
  | 0 => nI 0
  | n + 1 => sp_sum f n + f n
/-- a speech without an interpreter, as a bit -/
def sp_ub (M : Nat → Int32) (s : Nat) : Int32 := match sp_who M s with
  | none => nI 1 <<< (nI s &&& 31)
  | some _ => nI 0
def sp_un (M : Nat → Int32) : Nat → Int32
  | 0 => nI 0
  | n + 1 => sp_un M n ||| sp_ub M n
