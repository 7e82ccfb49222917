/-! Congress against the row of numbers: facts -/
theorem hz_at0 {x : Int32} (h : (-1 : Int) ≤ x.toInt) (h2 : ¬ x = -1) : 0 ≤ x := by
  rw [fa_le]
  rw [fa_eq] at h2
  have e1 : (-1 : Int32).toInt = -1 := by decide
  have e0 : (0 : Int32).toInt = 0 := by decide
  omega
theorem hz_max0 (x : Int32) : (if x < nI 0 then nI 0 else x) = if 0 ≤ x then x else nI 0 := by
  by_cases h : x < nI 0
  · rw [if_pos h, if_neg (show ¬ (0 : Int32) ≤ x from Int32.not_le.mpr h)]
  · rw [if_neg h, if_pos (show (0 : Int32) ≤ x from Int32.not_lt.mp h)]
theorem sp_l_no {M : Nat → Int32} {z d : Nat} (h : ¬ (¬ nI d = M (43 + 4 * z) ∧ (M (3 + 5 * d + 2) >>> (M (43 + 4 * z + 1) &&& 31)) &&& nI 1 = nI 1)) : nI 0 = sp_l M z d := by
  unfold sp_l
  split
  · rename_i h1
    have h2 : nI d = M (43 + 4 * z) := by
      by_cases q : nI d = M (43 + 4 * z)
      · exact q
      · exact absurd ⟨q, h1⟩ h
    rw [sp_loses, if_pos h2.symm]
  · rfl
theorem sp_it_yes {M : Nat → Int32} {z d : Nat} (h : (sp_it M z d).2 < sp_l M z d) : sp_it M z (d + 1) = (some d, sp_l M z d) := by rw [sp_it, if_pos h]
theorem sp_it_no {M : Nat → Int32} {z d : Nat} (h : ¬ (sp_it M z d).2 < sp_l M z d) : sp_it M z (d + 1) = sp_it M z d := by rw [sp_it, if_neg h]
theorem hz_ofr {x : Int32} {b : Nat} (hb : b + 1 < 2 ^ 31) (h : hz_r x 0 b) : ∃ j : Nat, j ≤ b ∧ x = nI j := by
  obtain ⟨j, hj, e⟩ := vp_in_of (x := x) (n := b + 1) (vp_in_iff.mpr (by unfold hz_r at h; omega)) hb
  exact ⟨j, by omega, e⟩
theorem hz_tor {j b : Nat} (hj : j ≤ b) (hb : b < 2 ^ 31) : hz_r (nI j) 0 b := by
  unfold hz_r; rw [nI_toInt (by omega)]; omega
theorem hz_lit {k : Nat} (hk : k < 2 ^ 31) : (nI k).toInt = (k : Int) := nI_toInt hk
/-- FORCE less PRIDE, 0 at least, in both ways -/
theorem hz_rpl {f q : Int32} (hf : hz_r f 0 99) (hq : hz_r q 0 20) : (if f - q < nI 0 then nI 0 else f - q) = if f ≤ q then nI 0 else f - q := by
  unfold hz_r at hf hq
  have e : (f - q).toInt = f.toInt - q.toInt := fb_subI (by omega) (by omega)
  by_cases h : f < q
  · rw [if_pos (by rw [fa_lt, e, hz_lit (by decide)]; rw [fa_lt] at h; omega), if_pos (by rw [fa_le]; rw [fa_lt] at h; omega)]
  · by_cases h2 : f ≤ q
    · rw [if_neg (by rw [fa_lt, e, hz_lit (by decide)]; rw [fa_lt] at h; omega), if_pos h2]
      rw [fa_eq, e, hz_lit (by decide)]; rw [fa_lt] at h; rw [fa_le] at h2; omega
    · rw [if_neg (by rw [fa_lt, e, hz_lit (by decide)]; rw [fa_lt] at h; omega), if_neg h2]
theorem sp_rpl_r {M : Nat → Int32} {d : Nat} {f : Int32} (hf : hz_r f 0 99) (hq : hz_r (M (3 + 5 * d + 1)) 0 20) : hz_r (sp_rpl M d f) 0 99 := by
  unfold sp_rpl
  split
  · exact hz_tor (by omega) (by decide)
  · rename_i h
    rw [fa_le] at h
    unfold hz_r at *
    rw [fb_subI (by omega) (by omega)]
    omega
theorem hz_twice {x : Int32} (h : hz_r x 0 99) : (if nI 99 < nI 2 * x then nI 99 else nI 2 * x) = sp_held (nI 2 * x) (nI 0) (nI 99) := by
  obtain ⟨j, hj, rfl⟩ := hz_ofr (b := 99) (by decide) h
  rw [pk_mul, sp_held, if_neg (nI_nlt (Nat.zero_le _) (by omega))]
theorem hz_less1 {f : Int32} (h : hz_r f 0 99) : (if f - nI 1 < nI 0 then nI 0 else f - nI 1) = if f ≤ 0 then nI 0 else f - nI 1 := by
  have := hz_rpl (q := nI 1) h (hz_tor (j := 1) (b := 20) (by omega) (by decide))
  rw [this]
  unfold hz_r at h
  have e0 : (0 : Int32).toInt = 0 := by decide
  by_cases h2 : f ≤ 0
  · rw [if_pos h2, if_pos (by rw [fa_le, hz_lit (by decide)]; rw [fa_le, e0] at h2; omega)]
  · rw [if_neg h2]
    rw [fa_le, e0] at h2
    split
    · rename_i h3
      rw [fa_le, hz_lit (by decide)] at h3
      rw [fa_eq, fb_subI (by rw [hz_lit (by decide)]; omega) (by rw [hz_lit (by decide)]; omega), hz_lit (by decide), hz_lit (by decide)]
      omega
    · rfl
theorem hz_divr {x : Int32} {b k : Nat} (hb : b + 1 < 2 ^ 31) (h : hz_r x 0 b) (hk : 0 < k) (hk2 : k < 2 ^ 31) : hz_r (x / nI k) 0 b := by
  obtain ⟨j, hj, rfl⟩ := hz_ofr hb h
  rw [pk_div (by omega) hk hk2]
  exact hz_tor (Nat.le_trans (Nat.div_le_self j k) hj) (by omega)
theorem hz_addr {x y : Int32} {a b : Nat} (hab : a + b < 2 ^ 31) (hx : hz_r x 0 a) (hy : hz_r y 0 b) : hz_r (x + y) 0 (a + b : Nat) := by
  unfold hz_r at *
  rw [fb_addI (by omega) (by omega)]
  omega
theorem hz_rmono {x : Int32} {a b : Nat} (h : hz_r x 0 a) (hab : a ≤ b) : hz_r x 0 b := by unfold hz_r at *; omega
theorem k5_all {P : Int32 → Prop} {k a1 a2 a3 a4 a5 a0 : Int32} (h1 : P a1) (h2 : P a2) (h3 : P a3) (h4 : P a4) (h5 : P a5) (h0 : P a0) : P (sp_k5 k a1 a2 a3 a4 a5 a0) := by
  unfold sp_k5
  split
  · exact h1
  · split
    · exact h2
    · split
      · exact h3
      · split
        · exact h4
        · split
          · exact h5
          · exact h0
theorem sp_rend_r {M : Nat → Int32} {d : Nat} {f : Int32} (hf : hz_r f 0 99) (hq : hz_r (M (3 + 5 * d + 1)) 0 20) : hz_r (sp_rend M d f) 0 99 := by
  unfold sp_rend
  refine k5_all (P := fun x => hz_r x 0 99) (hz_divr (b := 99) (by decide) hf (by decide) (by decide)) hf (hz_held_r _ (by decide)) ?_ ?_ (sp_rpl_r hf hq)
  · obtain ⟨j, hj, rfl⟩ := hz_ofr (b := 99) (by decide) hf
    obtain ⟨i, hi, e⟩ := hz_ofr (b := 20) (by decide) hq
    rw [e, pk_div (by omega) (by decide) (by decide), pk_div (by omega) (by decide) (by decide), nI_add]
    exact hz_tor (b := 99) (by omega) (by decide)
  · split
    · exact hz_tor (b := 99) (by omega) (by decide)
    · rename_i h
      have e0 : (0 : Int32).toInt = 0 := by decide
      rw [fa_le, e0] at h
      unfold hz_r at *
      rw [fb_subI (by rw [hz_lit (by decide)]; omega) (by rw [hz_lit (by decide)]; omega), hz_lit (by decide)]
      omega
theorem sp_plain_r {M : Nat → Int32} {d s : Nat} {f : Int32} (hf : hz_r f 0 99) : hz_r (sp_plain M d s f) 0 99 := by
  unfold sp_plain
  split
  · exact hf
  · exact hz_divr (b := 99) (by decide) hf (by decide) (by decide)
theorem sp_peer_r {M : Nat → Int32} {d s : Nat} {f : Int32} (hf : hz_r f 0 99) : hz_r (sp_peer M d s f) 0 99 := by
  unfold sp_peer
  split
  · exact sp_plain_r hf
  · exact hz_tor (b := 99) (by omega) (by decide)
theorem sp_loses_r {M : Nat → Int32} {d s : Nat} {f : Int32} (hf : hz_r f 0 99) (hq : hz_r (M (3 + 5 * d + 1)) 0 20) : hz_r (sp_loses M d s f) 0 200 := by
  have z0 : hz_r (nI 0) 0 200 := hz_tor (b := 200) (by omega) (by decide)
  have pl : hz_r (sp_plain M d s f) 0 99 := sp_plain_r hf
  have m : ∀ {x : Int32}, hz_r x 0 99 → hz_r x 0 200 := fun h => hz_rmono (a := 99) (b := 200) h (by omega)
  unfold sp_loses
  split
  · exact z0
  · split
    · refine k5_all (P := fun x => hz_r x 0 200) (m (sp_peer_r hf)) (m (hz_divr (b := 99) (by decide) pl (by decide) (by decide))) ?_ ?_ ?_ (m pl)
      · split
        · exact m pl
        · exact hz_rmono (a := 99 + 20) (b := 200) (hz_addr (a := 99) (b := 20) (by decide) pl hq) (by omega)
      · split
        · rename_i h
          have e0 : (0 : Int32).toInt = 0 := by decide
          rw [fa_le, e0] at h
          have p := sp_peer_r (M := M) (d := d) (s := s) hf
          have q := hz_divr (b := 20) (by decide) hq (k := 2) (by decide) (by decide)
          unfold sp_lord at h ⊢
          unfold hz_r at p q ⊢
          rw [fb_subI (by omega) (by omega)] at h ⊢
          omega
        · exact z0
      · split
        · exact m (hz_divr (b := 99) (by decide) pl (by decide) (by decide))
        · exact hz_rmono (a := 99 + 1) (b := 200) (hz_addr (a := 99) (b := 1) (by decide) (hz_divr (b := 99) (by decide) pl (by decide) (by decide)) (hz_tor (by omega) (by decide))) (by omega)
    · exact z0
theorem hz_min_held {x : Int32} {b : Nat} (hb : b < 2 ^ 31) (h : 0 ≤ x.toInt) : (if nI b < x then nI b else x) = sp_held x (nI 0) (nI b) := by
  have e : ¬ x < nI 0 := by rw [fa_lt, hz_lit (k := 0) (by decide)]; omega
  unfold sp_held
  rw [if_neg e]
/-- HURT of each, as it comes -/
theorem hz_haS {M : Nat → Int32} {z d : Nat} {f : Int32} (hz : z < 8) (hd : d < 8) (hf : hz_r f 0 99) (hq : hz_r (M (3 + 5 * d + 1)) 0 20) (hh : hz_r (M (3 + 5 * d + 3)) 0 99999) (x : Nat) : upd (fun x_ => sp_ha M z f d (3 + 5 * x_ + 3)) d (if nI 99999 < sp_ha M z f d (3 + 5 * d + 3) + sp_loses M d z f then nI 99999 else sp_ha M z f d (3 + 5 * d + 3) + sp_loses M d z f) x = sp_ha M z f (d + 1) (3 + 5 * x + 3) := by
  rw [sp_ha, sp_ha_l M f f hz hd (by omega)]
  have e : sp_ha M z f d (3 + 5 * d + 3) = M (3 + 5 * d + 3) := sp_ha_o M z f _ d (fun k hk => by omega)
  by_cases h : x = d
  · subst h
    rw [pk_us, pk_us, e]
    have := hz_addr (a := 99999) (b := 200) (by decide) hh (sp_loses_r (M := M) (d := x) (s := z) hf hq)
    exact hz_min_held (by decide) this.1
  · rw [pk_un h, pk_un (by omega)]
/-- the cells of a Congress, out of cells that hold the same numbers -/
theorem cg_of {D : va_G} {cI : ClassId} {a0 k_ p_ t_ h_ w_ b_ g_ i_ f_ : Nat} {s0 d0 z0 : Int32} {F0 F1 F2 F3 F4 F5 F6 F7 F8 : Nat → Int32} {H : Heap}
    (hP : va_P D zcl [(a0, .inr (0, [.int s0, .int d0, .ref k_, .ref p_, .ref t_, .ref h_, .ref w_, .int z0, .ref b_, .ref g_, .ref i_, .ref f_])), (k_, .inl (cI, 8, .inl F0)), (p_, .inl (cI, 8, .inl F1)), (t_, .inl (cI, 8, .inl F2)), (h_, .inl (cI, 8, .inl F3)), (w_, .inl (cI, 8, .inl F4)), (b_, .inl (cI, 8, .inl F5)), (g_, .inl (cI, 8, .inl F6)), (i_, .inl (cI, 8, .inl F7)), (f_, .inl (cI, 8, .inl F8))] H)
    (N : Nat → Int32) (e0 : s0 = N 0) (e1 : d0 = N 1) (e2 : z0 = N 2) (c0 : ∀ x, x < 8 → F0 x = N (3 + 5 * x)) (c1 : ∀ x, x < 8 → F1 x = N (3 + 5 * x + 1)) (c2 : ∀ x, x < 8 → F2 x = N (3 + 5 * x + 2)) (c3 : ∀ x, x < 8 → F3 x = N (3 + 5 * x + 3)) (c4 : ∀ x, x < 8 → F4 x = N (3 + 5 * x + 4)) (c5 : ∀ x, x < 8 → F5 x = N (43 + 4 * x)) (c6 : ∀ x, x < 8 → F6 x = N (43 + 4 * x + 1)) (c7 : ∀ x, x < 8 → F7 x = N (43 + 4 * x + 2)) (c8 : ∀ x, x < 8 → F8 x = N (43 + 4 * x + 3)) :
    va_P D zcl [(a0, .inr (0, [.int (N 0), .int (N 1), .ref k_, .ref p_, .ref t_, .ref h_, .ref w_, .int (N 2), .ref b_, .ref g_, .ref i_, .ref f_])), (k_, .inl (cI, 8, .inl (fun x_ => N (3 + 5 * x_)))), (p_, .inl (cI, 8, .inl (fun x_ => N (3 + 5 * x_ + 1)))), (t_, .inl (cI, 8, .inl (fun x_ => N (3 + 5 * x_ + 2)))), (h_, .inl (cI, 8, .inl (fun x_ => N (3 + 5 * x_ + 3)))), (w_, .inl (cI, 8, .inl (fun x_ => N (3 + 5 * x_ + 4)))), (b_, .inl (cI, 8, .inl (fun x_ => N (43 + 4 * x_)))), (g_, .inl (cI, 8, .inl (fun x_ => N (43 + 4 * x_ + 1)))), (i_, .inl (cI, 8, .inl (fun x_ => N (43 + 4 * x_ + 2)))), (f_, .inl (cI, 8, .inl (fun x_ => N (43 + 4 * x_ + 3))))] H := by
  subst e0; subst e1; subst e2
  have hP := hz_sw hP 1 rfl (g := fun x_ => N (3 + 5 * x_)) c0
  have hP := hz_sw hP 2 rfl (g := fun x_ => N (3 + 5 * x_ + 1)) c1
  have hP := hz_sw hP 3 rfl (g := fun x_ => N (3 + 5 * x_ + 2)) c2
  have hP := hz_sw hP 4 rfl (g := fun x_ => N (3 + 5 * x_ + 3)) c3
  have hP := hz_sw hP 5 rfl (g := fun x_ => N (3 + 5 * x_ + 4)) c4
  have hP := hz_sw hP 6 rfl (g := fun x_ => N (43 + 4 * x_)) c5
  have hP := hz_sw hP 7 rfl (g := fun x_ => N (43 + 4 * x_ + 1)) c6
  have hP := hz_sw hP 8 rfl (g := fun x_ => N (43 + 4 * x_ + 2)) c7
  have hP := hz_sw hP 9 rfl (g := fun x_ => N (43 + 4 * x_ + 3)) c8
  exact hP
theorem hz_or0 (x : Int32) : x ||| nI 0 = x := by
  show x ||| 0 = x
  simp
/-- whom a speech hurts, as a set, of the first n -/
def sp_hs (M : Nat → Int32) (z : Nat) (f : Int32) : Nat → Int32
  | 0 => nI 0
  | n + 1 => sp_hs M z f n ||| (if sp_loses M n z f ≤ 0 then nI 0 else nI 1 <<< (nI n &&& 31))
/-- who has most, of the first n -/
def sp_mx (h : Nat → Int32) : Nat → Nat
  | 0 => 0
  | n + 1 => if n = 0 then 0 else if h n ≤ h (sp_mx h n) then sp_mx h n else n
theorem sp_mx_lt (h : Nat → Int32) : ∀ n, 0 < n → sp_mx h n < n
  | 0, q => absurd q (Nat.lt_irrefl 0)
  | n + 1, _ => by
    rw [sp_mx]
    split
    · omega
    · split
      · have := sp_mx_lt h n (by omega); omega
      · omega
/-- what is tried: a value v of a thing c of which -/
def sp_alt (M : Nat → Int32) (c i v : Nat) : Nat → Int32 := if c = 0 then upd M (43 + 4 * i + 1) (nI v) else if c = 1 then upd M (43 + 4 * i + 2) (nI v - nI 1) else if c = 2 then upd M (3 + 5 * i) (nI v) else if c = 3 then upd M (3 + 5 * i + 1) (nI v) else if c = 4 then upd M (3 + 5 * i + 2) (nI v) else upd M (43 + 4 * v + 3) (nI 0)
/-- the most that may be set of a delegate; -1: nothing -/
def sp_mo (x : Int32) : Int32 := if x = nI 1 then nI 20 else if x = nI 2 then nI 15 else if x = nI 3 then nI 99999 else if x = nI 4 then nI 999 else -1
theorem mo_1 {x : Int32} (h : x = nI 1) : sp_mo x = nI 20 := by subst h; rfl
theorem mo_2 {x : Int32} (h : x = nI 2) : sp_mo x = nI 15 := by subst h; rfl
theorem mo_3 {x : Int32} (h : x = nI 3) : sp_mo x = nI 99999 := by subst h; rfl
theorem mo_4 {x : Int32} (h : x = nI 4) : sp_mo x = nI 999 := by subst h; rfl
theorem mo_0 {x : Int32} {P : Prop} (h : P ∧ x ≠ nI 1 ∧ x ≠ nI 2 ∧ x ≠ nI 3 ∧ x ≠ nI 4) : sp_mo x = -1 := by
  obtain ⟨-, h1, h2, h3, h4⟩ := h
  simp [sp_mo, h1, h2, h3, h4]
