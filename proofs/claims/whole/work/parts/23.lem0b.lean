/-! Congress' writers: facts -/
abbrev hz_under (k y : Int32) : Prop := y = 0 ∨ y = k ∨ (y = nI 1 ∧ k = nI 4) ∨ (y = nI 2 ∧ k = nI 5)
theorem hz_rin3 (x : Int32) {b : Nat} (hb : b < 2 ^ 31) : (nI 0 ≤ x ∧ x ≤ nI b) ↔ hz_in x (b + 1) := by
  rw [fa_le, fa_le, hz_c0, nI_toInt hb]
  unfold hz_in
  omega
theorem hz_rin4 (x : Int32) {b : Nat} (hb : b < 2 ^ 31) : (0 ≤ x ∧ x ≤ nI b) ↔ hz_in x (b + 1) := hz_rin3 x hb
/-- SESSION is 1 more -/
theorem cg_ses {D : va_G} {cI : ClassId} {a0 k_ p_ t_ h_ w_ b_ g_ i_ f_ : Nat} {X : Nat → Int32} {H : Heap}
    (hP : va_P D zcl [(a0, .inr (0, [.int (X 0 + nI 1), .int (X 1), .ref k_, .ref p_, .ref t_, .ref h_, .ref w_, .int (X 2), .ref b_, .ref g_, .ref i_, .ref f_])), (k_, .inl (cI, 8, .inl (fun x_ => X (3 + 5 * x_)))), (p_, .inl (cI, 8, .inl (fun x_ => X (3 + 5 * x_ + 1)))), (t_, .inl (cI, 8, .inl (fun x_ => X (3 + 5 * x_ + 2)))), (h_, .inl (cI, 8, .inl (fun x_ => X (3 + 5 * x_ + 3)))), (w_, .inl (cI, 8, .inl (fun x_ => X (3 + 5 * x_ + 4)))), (b_, .inl (cI, 8, .inl (fun x_ => X (43 + 4 * x_)))), (g_, .inl (cI, 8, .inl (fun x_ => X (43 + 4 * x_ + 1)))), (i_, .inl (cI, 8, .inl (fun x_ => X (43 + 4 * x_ + 2)))), (f_, .inl (cI, 8, .inl (fun x_ => X (43 + 4 * x_ + 3))))] H) (N : Nat → Int32) (hN : N = upd X 0 (X 0 + nI 1)) :
    va_P D zcl [(a0, .inr (0, [.int (N 0), .int (N 1), .ref k_, .ref p_, .ref t_, .ref h_, .ref w_, .int (N 2), .ref b_, .ref g_, .ref i_, .ref f_])), (k_, .inl (cI, 8, .inl (fun x_ => N (3 + 5 * x_)))), (p_, .inl (cI, 8, .inl (fun x_ => N (3 + 5 * x_ + 1)))), (t_, .inl (cI, 8, .inl (fun x_ => N (3 + 5 * x_ + 2)))), (h_, .inl (cI, 8, .inl (fun x_ => N (3 + 5 * x_ + 3)))), (w_, .inl (cI, 8, .inl (fun x_ => N (3 + 5 * x_ + 4)))), (b_, .inl (cI, 8, .inl (fun x_ => N (43 + 4 * x_)))), (g_, .inl (cI, 8, .inl (fun x_ => N (43 + 4 * x_ + 1)))), (i_, .inl (cI, 8, .inl (fun x_ => N (43 + 4 * x_ + 2)))), (f_, .inl (cI, 8, .inl (fun x_ => N (43 + 4 * x_ + 3))))] H := by
  subst hN
  refine cg_of hP _ pk_us.symm (pk_un (by omega)).symm (pk_un (by omega)).symm ?_ ?_ ?_ ?_ ?_ ?_ ?_ ?_ ?_ <;> (intro x hx; exact (pk_un (by omega)).symm)
theorem hz_D_a2 {A : Nat → Prop} {w w' : va_W} (hD : va_D A w) (h : w'.map Prod.fst = w.map Prod.fst) : va_D A w' := hz_D_adr h hD
theorem hz_u5 {M : Nat → Int32} {c i x : Nat} {v : Int32} : upd (fun x_ => M (3 + 5 * x_ + c)) i v x = upd M (3 + 5 * i + c) v (3 + 5 * x + c) := by
  by_cases e : x = i
  · subst e; rw [pk_us, pk_us]
  · rw [pk_un e, pk_un (by omega)]
theorem hz_u50 {M : Nat → Int32} {i x : Nat} {v : Int32} : upd (fun x_ => M (3 + 5 * x_)) i v x = upd M (3 + 5 * i) v (3 + 5 * x) := hz_u5 (c := 0)
theorem hz_u4 {M : Nat → Int32} {c i x : Nat} {v : Int32} : upd (fun x_ => M (43 + 4 * x_ + c)) i v x = upd M (43 + 4 * i + c) v (43 + 4 * x + c) := by
  by_cases e : x = i
  · subst e; rw [pk_us, pk_us]
  · rw [pk_un e, pk_un (by omega)]
theorem hz_u40 {M : Nat → Int32} {i x : Nat} {v : Int32} : upd (fun x_ => M (43 + 4 * x_)) i v x = upd M (43 + 4 * i) v (43 + 4 * x) := hz_u4 (c := 0)
theorem w3_o {M : Nat → Int32} {z j i : Nat} (h4 : i ≠ 3 + 5 * j + 4) (h3 : i ≠ 3 + 5 * j + 3) (hf : i ≠ 43 + 4 * z + 3) : M i = sp_w3 M z j i := by
  unfold sp_w3 sp_w2 sp_w1
  rw [pk_un hf, pk_un h3, pk_un h4]
theorem w3_w {M : Nat → Int32} {z j x : Nat} (hx : x < 8) : upd (fun x_ => M (3 + 5 * x_ + 4)) j (sp_held (M (3 + 5 * j + 4) + nI 1) (nI 0) (nI 999)) x = sp_w3 M z j (3 + 5 * x + 4) :=
  hz_u5.trans ((pk_un (by omega)).trans (pk_un (by omega))).symm
theorem w3_h {M : Nat → Int32} {z j x : Nat} (hx : x < 8) : upd (fun x_ => M (3 + 5 * x_ + 3)) j (M (3 + 5 * j + 3) / nI 2) x = sp_w3 M z j (3 + 5 * x + 3) := by
  rw [show sp_w3 M z j (3 + 5 * x + 3) = sp_w2 M j (3 + 5 * x + 3) from pk_un (by omega)]
  have e : sp_w1 M j (3 + 5 * j + 3) = M (3 + 5 * j + 3) := pk_un (by omega)
  unfold sp_w2
  by_cases q : x = j
  · subst q; rw [pk_us, pk_us, e]
  · rw [pk_un q, pk_un (by omega), sp_w1, pk_un (by omega)]
theorem w3_f {M : Nat → Int32} {z j x : Nat} (hj : j < 8) (hz : z < 8) : upd (fun x_ => M (43 + 4 * x_ + 3)) z (M (43 + 4 * z + 3) / nI 2) x = sp_w3 M z j (43 + 4 * x + 3) := by
  unfold sp_w3
  have o : ∀ y, sp_w2 M j (43 + 4 * y + 3) = M (43 + 4 * y + 3) := fun y => by
    unfold sp_w2 sp_w1; rw [pk_un (by omega), pk_un (by omega)]
  by_cases q : x = z
  · subst q; rw [pk_us, pk_us, o]
  · rw [pk_un q, pk_un (by omega), o]
theorem ad_o {M : Nat → Int32} {k q t : Int32} {i : Nat} (h1 : i ≠ 1) (h : i < 3 + 5 * nD M ∨ 3 + 5 * nD M + 4 < i) : M i = sp_add M k q t i := by
  unfold sp_add
  rw [pk_un (by omega), pk_un (by omega), pk_un (by omega), pk_un (by omega), pk_un (by omega), pk_un (by omega)]
theorem ad_0 {M : Nat → Int32} {k q t : Int32} {x : Nat} : upd (fun x_ => M (3 + 5 * x_)) (nD M) k x = sp_add M k q t (3 + 5 * x) := by
  by_cases e : x = nD M
  · rw [e, pk_us]; unfold sp_add
    rw [pk_un (by omega), pk_un (by omega), pk_un (by omega), pk_un (by omega)]; exact pk_us.symm
  · rw [pk_un e]; exact ad_o (by omega) (by omega)
theorem ad_1 {M : Nat → Int32} {k q t : Int32} {x : Nat} : upd (fun x_ => M (3 + 5 * x_ + 1)) (nD M) q x = sp_add M k q t (3 + 5 * x + 1) := by
  by_cases e : x = nD M
  · rw [e, pk_us]; unfold sp_add
    rw [pk_un (by omega), pk_un (by omega), pk_un (by omega), pk_us]
  · rw [pk_un e]; exact ad_o (by omega) (by omega)
theorem ad_2 {M : Nat → Int32} {k q t : Int32} {x : Nat} : upd (fun x_ => M (3 + 5 * x_ + 2)) (nD M) t x = sp_add M k q t (3 + 5 * x + 2) := by
  by_cases e : x = nD M
  · rw [e, pk_us]; unfold sp_add
    rw [pk_un (by omega), pk_un (by omega), pk_us]
  · rw [pk_un e]; exact ad_o (by omega) (by omega)
theorem ad_3 {M : Nat → Int32} {k q t : Int32} {x : Nat} : upd (fun x_ => M (3 + 5 * x_ + 3)) (nD M) (nI 0) x = sp_add M k q t (3 + 5 * x + 3) := by
  by_cases e : x = nD M
  · rw [e, pk_us]; unfold sp_add
    rw [pk_un (by omega), pk_us]
  · rw [pk_un e]; exact ad_o (by omega) (by omega)
theorem ad_4 {M : Nat → Int32} {k q t : Int32} {x : Nat} : upd (fun x_ => M (3 + 5 * x_ + 4)) (nD M) (nI 0) x = sp_add M k q t (3 + 5 * x + 4) := by
  by_cases e : x = nD M
  · rw [e, pk_us]; unfold sp_add
    rw [pk_us]
  · rw [pk_un e]; exact ad_o (by omega) (by omega)
theorem ad_n {M : Nat → Int32} {k q t : Int32} : nI (nD M + 1) = sp_add M k q t 1 := by
  unfold sp_add
  rw [pk_un (by omega), pk_un (by omega), pk_un (by omega), pk_un (by omega), pk_un (by omega), pk_us]
theorem as_o {M : Nat → Int32} {y t a f : Int32} {i : Nat} (h1 : i ≠ 2) (h : i < 43 + 4 * nS M ∨ 43 + 4 * nS M + 3 < i) : M i = sp_addS M y t a f i := by
  unfold sp_addS
  rw [pk_un (by omega), pk_un (by omega), pk_un (by omega), pk_un (by omega), pk_un (by omega)]
theorem as_0 {M : Nat → Int32} {y t a f : Int32} {x : Nat} : upd (fun x_ => M (43 + 4 * x_)) (nS M) y x = sp_addS M y t a f (43 + 4 * x) := by
  by_cases e : x = nS M
  · rw [e, pk_us]; unfold sp_addS
    rw [pk_un (by omega), pk_un (by omega), pk_un (by omega), pk_us]
  · rw [pk_un e]; exact as_o (by omega) (by omega)
theorem as_1 {M : Nat → Int32} {y t a f : Int32} {x : Nat} : upd (fun x_ => M (43 + 4 * x_ + 1)) (nS M) t x = sp_addS M y t a f (43 + 4 * x + 1) := by
  by_cases e : x = nS M
  · rw [e, pk_us]; unfold sp_addS
    rw [pk_un (by omega), pk_un (by omega), pk_us]
  · rw [pk_un e]; exact as_o (by omega) (by omega)
theorem as_2 {M : Nat → Int32} {y t a f : Int32} {x : Nat} : upd (fun x_ => M (43 + 4 * x_ + 2)) (nS M) a x = sp_addS M y t a f (43 + 4 * x + 2) := by
  by_cases e : x = nS M
  · rw [e, pk_us]; unfold sp_addS
    rw [pk_un (by omega), pk_us]
  · rw [pk_un e]; exact as_o (by omega) (by omega)
theorem as_3 {M : Nat → Int32} {y t a f : Int32} {x : Nat} : upd (fun x_ => M (43 + 4 * x_ + 3)) (nS M) f x = sp_addS M y t a f (43 + 4 * x + 3) := by
  by_cases e : x = nS M
  · rw [e, pk_us]; unfold sp_addS
    rw [pk_us]
  · rw [pk_un e]; exact as_o (by omega) (by omega)
theorem as_n {M : Nat → Int32} {y t a f : Int32} : nI (nS M + 1) = sp_addS M y t a f 2 := by
  unfold sp_addS
  rw [pk_un (by omega), pk_un (by omega), pk_un (by omega), pk_un (by omega), pk_us]
