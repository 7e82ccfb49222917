/-! copy -/
abbrev hz_part (S : Nat → Int32) (j : Nat) (a n : Int32) : Prop := 0 ≤ a ∧ 0 ≤ n ∧ n ≤ S j - a
theorem part_of {S : Nat → Int32} {j m : Nat} {a n : Int32} (h : hz_part S j a n) (hS : S j = nI m) (hm : m ≤ 40) : ∃ a' n' : Nat, a = nI a' ∧ n = nI n' ∧ a' + n' ≤ 40 := by
  obtain ⟨h1, h2, h3⟩ := h
  obtain ⟨a', ha, rfl⟩ := nI_of (x := a) (Int32.not_lt.mpr h1)
  obtain ⟨n', hn, rfl⟩ := nI_of (x := n) (Int32.not_lt.mpr h2)
  rw [hS, fa_le, fb_subI (by rw [nI_toInt (by omega), nI_toInt ha]; omega) (by rw [nI_toInt (by omega), nI_toInt ha]; omega), nI_toInt hn, nI_toInt (by omega), nI_toInt ha] at h3
  exact ⟨a', n', rfl, rfl, by omega⟩
def fd_copy (B S : Nat → Int32) (y fr yt to_ nm : Int32) : Option Nat := if hz_in y 4 then if hz_in yt 4 then if B (cl y) = 0 then some 5 else if B (cl yt) = 0 then some 5 else if B (cl y) = B (cl yt) then if hz_part S (cl y) fr nm ∧ hz_part S (cl yt) to_ nm then none else some 0 else some 2 else some 0 else some 0
def sp_why (o : Option Nat) : Int32 := match o with
  | none => nI 0
  | some k => -1000000001 - nI k
theorem copy_cases (B S : Nat → Int32) (y fr yt to_ nm : Int32) : fd_copy B S y fr yt to_ nm = none ∨ fd_copy B S y fr yt to_ nm = some 0 ∨ fd_copy B S y fr yt to_ nm = some 5 ∨ fd_copy B S y fr yt to_ nm = some 2 := by
  unfold fd_copy
  split
  · split
    · split
      · exact Or.inr (Or.inr (Or.inl rfl))
      · split
        · exact Or.inr (Or.inr (Or.inl rfl))
        · split
          · split
            · exact Or.inl rfl
            · exact Or.inr (Or.inl rfl)
          · exact Or.inr (Or.inr (Or.inr rfl))
    · exact Or.inr (Or.inl rfl)
  · exact Or.inr (Or.inl rfl)
theorem copy_ok {B S : Nat → Int32} {y fr yt to_ nm : Int32} (hZ : hz_Z S) (h : fd_copy B S y fr yt to_ nm = none) : ∃ j q a c n : Nat, j < 4 ∧ q < 4 ∧ y = nI j ∧ fr = nI a ∧ yt = nI q ∧ to_ = nI c ∧ nm = nI n ∧ a + n ≤ 40 ∧ c + n ≤ 40 := by
  unfold fd_copy at h
  split at h
  · rename_i h1
    split at h
    · rename_i h2
      split at h
      · cases h
      · split at h
        · cases h
        · split at h
          · split at h
            · rename_i h3
              obtain ⟨j, hj, ey⟩ := hz_in_of h1 (by decide)
              obtain ⟨q, hq, et⟩ := hz_in_of h2 (by decide)
              have cj : cl y = j := by rw [ey, cl, nI_clamp (by omega)]
              have cq : cl yt = q := by rw [et, cl, nI_clamp (by omega)]
              rw [cj, cq] at h3
              obtain ⟨a, n, ea, en, han⟩ := part_of h3.1 (hZ j hj).1 (hZ j hj).2
              obtain ⟨c, n2, ec, en2, hcn⟩ := part_of h3.2 (hZ q hq).1 (hZ q hq).2
              have e : n2 = n := by
                rw [en] at en2
                exact ((nI_eq (by omega) (by omega)).mp en2).symm
              subst e
              exact ⟨j, q, a, c, n2, hj, hq, ey, ea, et, ec, en, han, hcn⟩
            · cases h
          · cases h
    · cases h
  · cases h
/-- k of n numbers copied, from behind if from is below to -/
def sp_ck (C : Nat → Int64) (sp dp n a c k : Nat) : Nat → Int64 := if a < c then va_cpy C C (sp + (n - k)) (dp + (n - k)) k else va_cpy C C sp dp k
theorem ck_0 (C : Nat → Int64) (sp dp n a c : Nat) : sp_ck C sp dp n a c 0 = C := by
  unfold sp_ck va_cpy
  split <;> (funext q; rw [if_neg (by omega)])
theorem ck_n (C : Nat → Int64) (sp dp n a c : Nat) : sp_ck C sp dp n a c n = va_cpy C C sp dp n := by
  unfold sp_ck
  split
  · rw [Nat.sub_self]; rfl
  · rfl
theorem ck_s (C : Nat → Int64) {sp dp n a c k i : Nat} (hk : k < n) (hi : i = if a < c then n - 1 - k else k) (h1 : a < c → sp < dp ∨ dp + n ≤ sp) (h2 : ¬ a < c → dp ≤ sp ∨ sp + n ≤ dp) : vp_updL (sp_ck C sp dp n a c k) (dp + i) (sp_ck C sp dp n a c k (sp + i)) = sp_ck C sp dp n a c (k + 1) := by
  unfold sp_ck
  by_cases h : a < c
  · rw [if_pos h] at hi
    rw [if_pos h, if_pos h]
    have h3 := h1 h
    funext q
    unfold vp_updL
    have e : va_cpy C C (sp + (n - k)) (dp + (n - k)) k (sp + i) = C (sp + i) := pk_cpy_out (by omega)
    rw [e]
    by_cases g : q = dp + i
    · rw [if_pos g, pk_cpy_in (by omega) (by omega)]
      congr 1
      omega
    · rw [if_neg g]
      by_cases g2 : dp + (n - k) ≤ q ∧ q < dp + (n - k) + k
      · rw [pk_cpy_in g2.1 g2.2, pk_cpy_in (by omega) (by omega)]
        congr 1
        omega
      · rw [pk_cpy_out (by omega), pk_cpy_out (by omega)]
  · rw [if_neg h] at hi
    rw [if_neg h, if_neg h]
    have h3 := h2 h
    funext q
    unfold vp_updL
    have e : va_cpy C C sp dp k (sp + i) = C (sp + i) := pk_cpy_out (by omega)
    rw [e]
    by_cases g : q = dp + i
    · rw [if_pos g, pk_cpy_in (by omega) (by omega)]
      congr 1
      omega
    · rw [if_neg g]
      by_cases g2 : dp ≤ q ∧ q < dp + k
      · rw [pk_cpy_in g2.1 g2.2, pk_cpy_in (by omega) (by omega)]
      · rw [pk_cpy_out (by omega), pk_cpy_out (by omega)]
