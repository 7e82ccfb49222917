/-! booleans as ints, switches, ranges: what all modules use -/
abbrev zcl : List vw_C := [(RX0, TX0, 12), (RX1, TX1, 3), (RX2, TX2, 6), (RX3, TX3, 7), (RX4, TX4, 16)]
def hz_b (P : Prop) [Decidable P] : Int32 := if P then 1 else 0
theorem hz_bt {P : Prop} [Decidable P] (h : P) : hz_b P = nI 1 := by unfold hz_b; rw [if_pos h]; rfl
theorem hz_bf {P : Prop} [Decidable P] (h : ¬ P) : hz_b P = nI 0 := by unfold hz_b; rw [if_neg h]; rfl
theorem hz_be {P Q : Prop} [Decidable P] [Decidable Q] (h : P ↔ Q) : hz_b P = hz_b Q := by
  by_cases q : Q
  · rw [hz_bt q, hz_bt (h.mpr q)]
  · rw [hz_bf q, hz_bf (fun z => q (h.mp z))]
theorem hz_nb (P : Prop) [Decidable P] : narrow .boolean (.int (hz_b P)) = .int (hz_b P) := by
  unfold hz_b; split <;> rfl
theorem hz_fb (P : Prop) [Decidable P] : fits .boolean (.int (hz_b P)) = true := by
  unfold hz_b; split <;> rfl
section HB
variable {p : Program} {l : Launch} {e : Env} {R : Room} {s : State} {m : MethodId} {args : Array Value} {below : List Frame} {meth : Method} {c : Code} {H : Heap} {locs : List Loc} {cells slots : Nat} {Q : State → Prop}
variable {pc : Nat} {ls : Array Slot} {rest : List Value} {cc : ByteArray}
theorem hz_ifb_eq {P : Prop} [Decidable P] {off : Int} {tgt : Nat} (hx : p.tables.exec = Jvm.exec) (hb : c.code = cc) (hdg : decode cc pc = .ok (.ifCond .eq off, 3)) (ht : (pc : Int) + off = (tgt : Int)) (kt : ¬ P → W p l e R s m args below meth c H locs cells slots Q (F0 m tgt ls rest)) (kf : P → W p l e R s m args below meth c H locs cells slots Q (F0 m (pc + 3) ls rest)) : W p l e R s m args below meth c H locs cells slots Q (F0 m pc ls (.int (hz_b P) :: rest)) :=
  lv_if_eq hx hb hdg ht (fun h => kt (fun q => by rw [hz_bt q] at h; exact absurd h (by decide))) (fun h => kf (by
    by_cases q : P
    · exact q
    · exact absurd (hz_bf q) h))
theorem hz_ifb_ne {P : Prop} [Decidable P] {off : Int} {tgt : Nat} (hx : p.tables.exec = Jvm.exec) (hb : c.code = cc) (hdg : decode cc pc = .ok (.ifCond .ne off, 3)) (ht : (pc : Int) + off = (tgt : Int)) (kt : P → W p l e R s m args below meth c H locs cells slots Q (F0 m tgt ls rest)) (kf : ¬ P → W p l e R s m args below meth c H locs cells slots Q (F0 m (pc + 3) ls rest)) : W p l e R s m args below meth c H locs cells slots Q (F0 m pc ls (.int (hz_b P) :: rest)) :=
  lv_if_ne hx hb hdg ht (fun h => kt (by
    by_cases q : P
    · exact q
    · exact absurd (hz_bf q) h)) (fun h => kf (fun q => by rw [hz_bt q] at h; exact absurd h (by decide)))
theorem hz_ifl_lt {x y : Int64} {off : Int} {tgt : Nat} (hx : p.tables.exec = Jvm.exec) (hb : c.code = cc) (hdg : decode cc pc = .ok (.ifCond .lt off, 3)) (ht : (pc : Int) + off = (tgt : Int)) (kt : x < y → W p l e R s m args below meth c H locs cells slots Q (F0 m tgt ls rest)) (kf : ¬ x < y → W p l e R s m args below meth c H locs cells slots Q (F0 m (pc + 3) ls rest)) : W p l e R s m args below meth c H locs cells slots Q (F0 m pc ls (.int (lg_cmp x y) :: rest)) :=
  lv_if_lt hx hb hdg ht (fun h => kt ((lg_cmp_lt x y).mp h)) (fun h => kf (fun q => h ((lg_cmp_lt x y).mpr q)))
theorem hz_ifl_gt {x y : Int64} {off : Int} {tgt : Nat} (hx : p.tables.exec = Jvm.exec) (hb : c.code = cc) (hdg : decode cc pc = .ok (.ifCond .gt off, 3)) (ht : (pc : Int) + off = (tgt : Int)) (kt : y < x → W p l e R s m args below meth c H locs cells slots Q (F0 m tgt ls rest)) (kf : ¬ y < x → W p l e R s m args below meth c H locs cells slots Q (F0 m (pc + 3) ls rest)) : W p l e R s m args below meth c H locs cells slots Q (F0 m pc ls (.int (lg_cmp x y) :: rest)) :=
  lv_if_gt hx hb hdg ht (fun h => kt ((lg_cmp_gt x y).mp h)) (fun h => kf (fun q => h ((lg_cmp_gt x y).mpr q)))
theorem hz_ifl_ge {x y : Int64} {off : Int} {tgt : Nat} (hx : p.tables.exec = Jvm.exec) (hb : c.code = cc) (hdg : decode cc pc = .ok (.ifCond .ge off, 3)) (ht : (pc : Int) + off = (tgt : Int)) (kt : y ≤ x → W p l e R s m args below meth c H locs cells slots Q (F0 m tgt ls rest)) (kf : ¬ y ≤ x → W p l e R s m args below meth c H locs cells slots Q (F0 m (pc + 3) ls rest)) : W p l e R s m args below meth c H locs cells slots Q (F0 m pc ls (.int (lg_cmp x y) :: rest)) :=
  lv_if_ge hx hb hdg ht (fun h => kt ((lg_cmp_ge x y).mp h)) (fun h => kf (fun q => h ((lg_cmp_ge x y).mpr q)))
theorem hz_ifl_le {x y : Int64} {off : Int} {tgt : Nat} (hx : p.tables.exec = Jvm.exec) (hb : c.code = cc) (hdg : decode cc pc = .ok (.ifCond .le off, 3)) (ht : (pc : Int) + off = (tgt : Int)) (kt : x ≤ y → W p l e R s m args below meth c H locs cells slots Q (F0 m tgt ls rest)) (kf : ¬ x ≤ y → W p l e R s m args below meth c H locs cells slots Q (F0 m (pc + 3) ls rest)) : W p l e R s m args below meth c H locs cells slots Q (F0 m pc ls (.int (lg_cmp x y) :: rest)) :=
  lv_if_le hx hb hdg ht (fun h => kt ((lg_cmp_le x y).mp h)) (fun h => kf (fun q => h ((lg_cmp_le x y).mpr q)))
theorem hz_ifl_eq {x y : Int64} {off : Int} {tgt : Nat} (hx : p.tables.exec = Jvm.exec) (hb : c.code = cc) (hdg : decode cc pc = .ok (.ifCond .eq off, 3)) (ht : (pc : Int) + off = (tgt : Int)) (kt : x = y → W p l e R s m args below meth c H locs cells slots Q (F0 m tgt ls rest)) (kf : ¬ x = y → W p l e R s m args below meth c H locs cells slots Q (F0 m (pc + 3) ls rest)) : W p l e R s m args below meth c H locs cells slots Q (F0 m pc ls (.int (lg_cmp x y) :: rest)) :=
  lv_if_eq hx hb hdg ht (fun h => kt ((lg_cmp_eq x y).mp h)) (fun h => kf (fun q => h ((lg_cmp_eq x y).mpr q)))
theorem hz_ifl_ne {x y : Int64} {off : Int} {tgt : Nat} (hx : p.tables.exec = Jvm.exec) (hb : c.code = cc) (hdg : decode cc pc = .ok (.ifCond .ne off, 3)) (ht : (pc : Int) + off = (tgt : Int)) (kt : ¬ x = y → W p l e R s m args below meth c H locs cells slots Q (F0 m tgt ls rest)) (kf : x = y → W p l e R s m args below meth c H locs cells slots Q (F0 m (pc + 3) ls rest)) : W p l e R s m args below meth c H locs cells slots Q (F0 m pc ls (.int (lg_cmp x y) :: rest)) :=
  lv_if_ne hx hb hdg ht (fun h => kt (fun q => h ((lg_cmp_eq x y).mpr q))) (fun h => kf ((lg_cmp_eq x y).mp h))
end HB
/-- an int that stands in 0 .. n - 1 -/
abbrev hz_in (x : Int32) (n : Nat) : Prop := 0 ≤ x.toInt ∧ x.toInt < (n : Int)
theorem hz_in_of {x : Int32} {n : Nat} (h : hz_in x n) (hn : n < 2 ^ 31) : ∃ j : Nat, j < n ∧ x = nI j := vp_in_of (vp_in_iff.mpr h) hn
theorem hz_in_nI {j n : Nat} (hj : j < 2 ^ 31) : hz_in (nI j) n ↔ j < n := by
  unfold hz_in
  rw [nI_toInt hj]
  omega
theorem hz_eqn {x : Int32} {k : Nat} (hk : k < 2 ^ 31) : x = nI k ↔ x.toInt = (k : Int) := by
  rw [fa_eq, nI_toInt hk]
theorem hz_c0 : (nI 0).toInt = 0 := by decide
/-- the answers of a switch over 1 .. 5 -/
theorem hz_sw1_5 (x : Int32) : x = nI 1 ∨ x = nI 2 ∨ x = nI 3 ∨ x = nI 4 ∨ x = nI 5 ∨ ((x.toInt < 1 ∨ 5 < x.toInt) ∧ x ≠ nI 1 ∧ x ≠ nI 2 ∧ x ≠ nI 3 ∧ x ≠ nI 4 ∧ x ≠ nI 5) := by
  simp only [ne_eq, hz_eqn (k := 1) (by decide), hz_eqn (k := 2) (by decide), hz_eqn (k := 3) (by decide), hz_eqn (k := 4) (by decide), hz_eqn (k := 5) (by decide)]
  omega
theorem hz_sw0_3 (x : Int32) : x = nI 0 ∨ x = nI 1 ∨ x = nI 2 ∨ x = nI 3 ∨ ((x.toInt < 0 ∨ 3 < x.toInt) ∧ x ≠ nI 0 ∧ x ≠ nI 1 ∧ x ≠ nI 2 ∧ x ≠ nI 3) := by
  simp only [ne_eq, hz_eqn (k := 0) (by decide), hz_eqn (k := 1) (by decide), hz_eqn (k := 2) (by decide), hz_eqn (k := 3) (by decide)]
  omega
theorem hz_sw0_4 (x : Int32) : x = nI 0 ∨ x = nI 1 ∨ x = nI 2 ∨ x = nI 3 ∨ x = nI 4 ∨ ((x.toInt < 0 ∨ 4 < x.toInt) ∧ x ≠ nI 0 ∧ x ≠ nI 1 ∧ x ≠ nI 2 ∧ x ≠ nI 3 ∧ x ≠ nI 4) := by
  simp only [ne_eq, hz_eqn (k := 0) (by decide), hz_eqn (k := 1) (by decide), hz_eqn (k := 2) (by decide), hz_eqn (k := 3) (by decide), hz_eqn (k := 4) (by decide)]
  omega
theorem hz_sw1_4 (x : Int32) : x = nI 1 ∨ x = nI 2 ∨ x = nI 3 ∨ x = nI 4 ∨ ((x.toInt < 1 ∨ 4 < x.toInt) ∧ x ≠ nI 1 ∧ x ≠ nI 2 ∧ x ≠ nI 3 ∧ x ≠ nI 4) := by
  simp only [ne_eq, hz_eqn (k := 1) (by decide), hz_eqn (k := 2) (by decide), hz_eqn (k := 3) (by decide), hz_eqn (k := 4) (by decide)]
  omega
theorem hz_sw0_2 (x : Int32) : x = nI 0 ∨ x = nI 1 ∨ x = nI 2 ∨ ((x.toInt < 0 ∨ 2 < x.toInt) ∧ x ≠ nI 0 ∧ x ≠ nI 1 ∧ x ≠ nI 2) := by
  simp only [ne_eq, hz_eqn (k := 0) (by decide), hz_eqn (k := 1) (by decide), hz_eqn (k := 2) (by decide)]
  omega
/-- by a KIND: 1, 2, 3, 4, 5, else -/
def sp_k5 (k a1 a2 a3 a4 a5 a0 : Int32) : Int32 := if k = nI 1 then a1 else if k = nI 2 then a2 else if k = nI 3 then a3 else if k = nI 4 then a4 else if k = nI 5 then a5 else a0
theorem k5_1 {k a1 a2 a3 a4 a5 a0 : Int32} (h : k = nI 1) : sp_k5 k a1 a2 a3 a4 a5 a0 = a1 := by subst h; rfl
theorem k5_2 {k a1 a2 a3 a4 a5 a0 : Int32} (h : k = nI 2) : sp_k5 k a1 a2 a3 a4 a5 a0 = a2 := by subst h; rfl
theorem k5_3 {k a1 a2 a3 a4 a5 a0 : Int32} (h : k = nI 3) : sp_k5 k a1 a2 a3 a4 a5 a0 = a3 := by subst h; rfl
theorem k5_4 {k a1 a2 a3 a4 a5 a0 : Int32} (h : k = nI 4) : sp_k5 k a1 a2 a3 a4 a5 a0 = a4 := by subst h; rfl
theorem k5_5 {k a1 a2 a3 a4 a5 a0 : Int32} (h : k = nI 5) : sp_k5 k a1 a2 a3 a4 a5 a0 = a5 := by subst h; rfl
theorem k5_0 {k a1 a2 a3 a4 a5 a0 : Int32} {P : Prop} (h : P ∧ k ≠ nI 1 ∧ k ≠ nI 2 ∧ k ≠ nI 3 ∧ k ≠ nI 4 ∧ k ≠ nI 5) : sp_k5 k a1 a2 a3 a4 a5 a0 = a0 := by
  obtain ⟨-, h1, h2, h3, h4, h5⟩ := h
  simp [sp_k5, h1, h2, h3, h4, h5]
section HN
variable {p : Program} {l : Launch} {e : Env} {R : Room} {s : State} {m : MethodId} {args : Array Value} {below : List Frame} {meth : Method} {c : Code} {H : Heap} {locs : List Loc} {cells slots : Nat} {Q : State → Prop}
variable {pc : Nat} {ls : Array Slot} {rest : List Value} {cc : ByteArray}
theorem hz_ifn_le {n : Nat} {off : Int} {tgt : Nat} (hn : n < 2 ^ 31) (hx : p.tables.exec = Jvm.exec) (hb : c.code = cc) (hdg : decode cc pc = .ok (.ifCond .le off, 3)) (ht : (pc : Int) + off = (tgt : Int)) (kt : n = 0 → W p l e R s m args below meth c H locs cells slots Q (F0 m tgt ls rest)) (kf : 0 < n → W p l e R s m args below meth c H locs cells slots Q (F0 m (pc + 3) ls rest)) : W p l e R s m args below meth c H locs cells slots Q (F0 m pc ls (.int (nI n) :: rest)) :=
  lv_if_le hx hb hdg ht (fun h => kt (by have := (nI_leI (b := 0) hn (by decide)).mp h; omega)) (fun h => kf (by
    rcases Nat.eq_zero_or_pos n with q | q
    · subst q; exact absurd (by decide) h
    · exact q))
theorem hz_ifn_gt {n : Nat} {off : Int} {tgt : Nat} (hn : n < 2 ^ 31) (hx : p.tables.exec = Jvm.exec) (hb : c.code = cc) (hdg : decode cc pc = .ok (.ifCond .gt off, 3)) (ht : (pc : Int) + off = (tgt : Int)) (kt : 0 < n → W p l e R s m args below meth c H locs cells slots Q (F0 m tgt ls rest)) (kf : n = 0 → W p l e R s m args below meth c H locs cells slots Q (F0 m (pc + 3) ls rest)) : W p l e R s m args below meth c H locs cells slots Q (F0 m pc ls (.int (nI n) :: rest)) :=
  lv_if_gt hx hb hdg ht (fun h => kt (by
    rcases Nat.eq_zero_or_pos n with q | q
    · subst q; exact absurd h (by decide)
    · exact q)) (fun h => kf (by
    rcases Nat.eq_zero_or_pos n with q | q
    · exact q
    · exact absurd (show (0 : Int32) < nI n from (nI_ltI (a := 0) (by decide) hn).mpr q) h))
theorem hz_ifn_eq {n : Nat} {off : Int} {tgt : Nat} (hn : n < 2 ^ 31) (hx : p.tables.exec = Jvm.exec) (hb : c.code = cc) (hdg : decode cc pc = .ok (.ifCond .eq off, 3)) (ht : (pc : Int) + off = (tgt : Int)) (kt : n = 0 → W p l e R s m args below meth c H locs cells slots Q (F0 m tgt ls rest)) (kf : 0 < n → W p l e R s m args below meth c H locs cells slots Q (F0 m (pc + 3) ls rest)) : W p l e R s m args below meth c H locs cells slots Q (F0 m pc ls (.int (nI n) :: rest)) :=
  lv_if_eq hx hb hdg ht (fun h => kt ((nI_eq (b := 0) hn (by decide)).mp h)) (fun h => kf (by
    rcases Nat.eq_zero_or_pos n with q | q
    · subst q; exact absurd rfl h
    · exact q))
theorem hz_ifn_ne {n : Nat} {off : Int} {tgt : Nat} (hn : n < 2 ^ 31) (hx : p.tables.exec = Jvm.exec) (hb : c.code = cc) (hdg : decode cc pc = .ok (.ifCond .ne off, 3)) (ht : (pc : Int) + off = (tgt : Int)) (kt : 0 < n → W p l e R s m args below meth c H locs cells slots Q (F0 m tgt ls rest)) (kf : n = 0 → W p l e R s m args below meth c H locs cells slots Q (F0 m (pc + 3) ls rest)) : W p l e R s m args below meth c H locs cells slots Q (F0 m pc ls (.int (nI n) :: rest)) :=
  lv_if_ne hx hb hdg ht (fun h => kt (by
    rcases Nat.eq_zero_or_pos n with q | q
    · subst q; exact absurd rfl h
    · exact q)) (fun h => kf ((nI_eq (b := 0) hn (by decide)).mp h))
theorem hz_ifn_ge {n : Nat} {off : Int} {tgt : Nat} (hn : n < 2 ^ 31) (hx : p.tables.exec = Jvm.exec) (hb : c.code = cc) (hdg : decode cc pc = .ok (.ifCond .ge off, 3)) (ht : (pc : Int) + off = (tgt : Int)) (kt : W p l e R s m args below meth c H locs cells slots Q (F0 m tgt ls rest)) : W p l e R s m args below meth c H locs cells slots Q (F0 m pc ls (.int (nI n) :: rest)) :=
  lv_if_ge hx hb hdg ht (fun _ => kt) (fun h => absurd (nI_pos' hn) h)
theorem hz_ifn_lt {n : Nat} {off : Int} {tgt : Nat} (hn : n < 2 ^ 31) (hx : p.tables.exec = Jvm.exec) (hb : c.code = cc) (hdg : decode cc pc = .ok (.ifCond .lt off, 3)) (ht : (pc : Int) + off = (tgt : Int)) (kf : W p l e R s m args below meth c H locs cells slots Q (F0 m (pc + 3) ls rest)) : W p l e R s m args below meth c H locs cells slots Q (F0 m pc ls (.int (nI n) :: rest)) :=
  lv_if_lt hx hb hdg ht (fun h => absurd h (nI_pos hn)) (fun _ => kf)
end HN
/-- a range told by longs -/
theorem hz_w32 (x a b : Int32) : (a.toInt64 ≤ x.toInt64 ∧ x.toInt64 ≤ b.toInt64) ↔ (a ≤ x ∧ x ≤ b) := by rw [fa_wide_le, fa_wide_le]
theorem hz_rin (x : Int32) {n : Nat} (hn : n < 2 ^ 30) : (nI 0 ≤ x ∧ x ≤ nI n - nI 1) ↔ hz_in x n := by
  rw [fa_le, fa_le, hz_c0, pk_sub_toInt hn (by decide)]
  unfold hz_in
  omega
theorem hz_rin2 (x : Int32) {n : Nat} (hn : n < 2 ^ 31) : (0 ≤ x ∧ x < nI n) ↔ hz_in x n := by
  rw [fa_le, fa_lt, nI_toInt hn]
  exact Iff.rfl
theorem hz_rg {x : Int32} {a b : Nat} (ha : a < 2 ^ 31) (hb : b + 1 < 2 ^ 31) (h : nI a ≤ x ∧ x ≤ nI b) : ∃ j : Nat, a ≤ j ∧ j ≤ b ∧ x = nI j := by
  rw [fa_le, fa_le, nI_toInt ha, nI_toInt (Nat.lt_of_succ_lt hb)] at h
  have h2 : vp_in x (b + 1) := vp_in_iff.mpr (by omega)
  obtain ⟨j, h3, h4⟩ := vp_in_of h2 hb
  subst h4
  rw [nI_toInt (by omega)] at h
  exact ⟨j, by omega, by omega, rfl⟩
theorem hz_nneg {n : Nat} {x : Int32} (hn : n < 2 ^ 31) (hx : x < 0 := by decide) : ¬ nI n = x := fun h => by
  subst h
  exact absurd hx (nI_pos hn)
theorem hz_nneg' {n : Nat} {x : Int32} (hn : n < 2 ^ 31) (hx : x < 0 := by decide) : ¬ x = nI n := fun h => hz_nneg hn hx h.symm
