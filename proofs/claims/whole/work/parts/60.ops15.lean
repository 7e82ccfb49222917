/-! the items of a text -/
def pz_tg (T : Nat → Int32) (n : Nat) : Nat → Int32 → Nat → Nat × Bool × Int32
  | 0, set, q => (q, true, set)
  | r + 1, set, q => if r + 1 < 4 ∧ ¬ pz_k T n q = 20 then (q, true, set) else if pz_nb T n q 4 then pz_tg T n r (set ||| (nI 1 <<< (nI (pz_v T n q) &&& 31))) (pz_e T n q) else (q, false, set ||| (nI 1 <<< (nI (pz_v T n q) &&& 31)))
def pz_hs (T : Nat → Int32) (n : Nat) (M : Nat → Int32) (k pr : Int32) (q : Nat) : Nat × Option (Nat → Int32) :=
  if pz_k T n q = 7 then ((pz_tg T n 4 (nI 0) (pz_e T n q)).1, if (pz_tg T n 4 (nI 0) (pz_e T n q)).2.1 = true then some (sp_add M k pr (pz_tg T n 4 (nI 0) (pz_e T n q)).2.2) else none) else (q, some (sp_add M k pr (nI 1)))
/-- a delegate, behind the name of his kind -/
def pz_del (T : Nat → Int32) (n : Nat) (M : Nat → Int32) (k : Int32) (q : Nat) : Nat × Option (Nat → Int32) :=
  if pz_k T n q = 6 then if pz_nb T n (pz_e T n q) 21 then pz_hs T n M k (nI (pz_v T n (pz_e T n q))) (pz_e T n (pz_e T n q)) else (pz_e T n q, none) else pz_hs T n M k (nI 5) q
/-- a speech, behind its name -/
def pz_sp (T : Nat → Int32) (n : Nat) (M : Nat → Int32) (q : Nat) : Nat × Option (Nat → Int32) :=
  if pz_nb T n q (nD M) then if pz_nb T n (pz_e T n q) 4 then if pz_nb T n (pz_e T n (pz_e T n q)) 100 then
    if pz_k T n (pz_e T n (pz_e T n (pz_e T n q))) = 9 then
      if pz_nb T n (pz_e T n (pz_e T n (pz_e T n (pz_e T n q)))) (nD M) then (pz_e T n (pz_e T n (pz_e T n (pz_e T n (pz_e T n q)))), some (sp_addS M (nI (pz_v T n q)) (nI (pz_v T n (pz_e T n q))) (nI (pz_v T n (pz_e T n (pz_e T n (pz_e T n (pz_e T n q)))))) (nI (pz_v T n (pz_e T n (pz_e T n q))))))
      else (pz_e T n (pz_e T n (pz_e T n (pz_e T n q))), none)
    else (pz_e T n (pz_e T n (pz_e T n q)), some (sp_addS M (nI (pz_v T n q)) (nI (pz_v T n (pz_e T n q))) (-1) (nI (pz_v T n (pz_e T n (pz_e T n q))))))
  else (pz_e T n (pz_e T n q), none) else (pz_e T n q, none) else (q, none)
def pz_dl (T : Nat → Int32) (n : Nat) (M : Nat → Int32) (q : Nat) : Nat × Option (Nat → Int32) := if nD M = 8 then (q, none) else pz_del T n M (nI (pz_k T n q)) (pz_e T n q)
def pz_sl (T : Nat → Int32) (n : Nat) (M : Nat → Int32) (q : Nat) : Nat × Option (Nat → Int32) := if nS M = 8 then (q, none) else pz_sp T n M (pz_e T n q)
def pz_item (T : Nat → Int32) (n : Nat) (M : Nat → Int32) (q : Nat) : Nat × Option (Nat → Int32) := if pz_k T n q ≤ 5 then pz_dl T n M q else if pz_k T n q = 8 then pz_sl T n M q else (q, none)
def pz_all (T : Nat → Int32) (n : Nat) : Nat → Nat → (Nat → Int32) → Nat → Nat × Option (Nat × (Nat → Int32))
  | 0, _, _, q => (q, none)
  | f + 1, k, M, q => match pz_item T n M q with
    | (q', none) => (q', none)
    | (q', some M') => if pz_k T n q' = 22 then (q', some (k, M')) else if pz_k T n q' = 21 then pz_all T n f (k + 1) M' (pz_e T n q') else (q', none)
def pz_ans (T : Nat → Int32) (n : Nat) (r : Nat × Option (Nat × (Nat → Int32))) : Int32 := match r.2 with
  | none => -1 - nI (pz_b T n r.1)
  | some x => nI x.1
def pz_M (M : Nat → Int32) (r : Nat × Option (Nat × (Nat → Int32))) : Nat → Int32 := match r.2 with
  | none => M
  | some x => x.2
-- one step of each
theorem pz_tg_0 {T : Nat → Int32} {n q : Nat} {set : Int32} : pz_tg T n 0 set q = (q, true, set) := rfl
theorem pz_tg_x {T : Nat → Int32} {n q m : Nat} {set : Int32} (h0 : 0 < m) (h : m ≤ 4) (hk : ¬ pz_k T n q = 20) : pz_tg T n (4 - m) set q = (q, true, set) := by
  by_cases e : m = 4
  · rw [e]; rfl
  · rw [show 4 - m = (3 - m) + 1 by omega, pz_tg, if_pos ⟨by omega, hk⟩]
theorem pz_tg_y {T : Nat → Int32} {n q m : Nat} {set : Int32} (h : m < 4) (hb : pz_nb T n q 4) : pz_tg T n (4 - m) set q = pz_tg T n (4 - (m + 1)) (set ||| (nI 1 <<< (nI (pz_v T n q) &&& 31))) (pz_e T n q) := by
  rw [show 4 - m = (4 - (m + 1)) + 1 by omega, pz_tg, if_neg (fun z => z.2 hb.1), if_pos hb]
theorem pz_tg_n {T : Nat → Int32} {n q m : Nat} {set : Int32} (h : m < 4) (hk : m = 0 ∨ pz_k T n q = 20) (hb : ¬ pz_nb T n q 4) : pz_tg T n (4 - m) set q = (q, false, set ||| (nI 1 <<< (nI (pz_v T n q) &&& 31))) := by
  rw [show 4 - m = (4 - (m + 1)) + 1 by omega, pz_tg, if_neg (fun z => by rcases hk with e | e; · omega
                                                                          · exact z.2 e), if_neg hb]
theorem pz_all_n {T : Nat → Int32} {n f k q q' : Nat} {M : Nat → Int32} (h : pz_item T n M q = (q', none)) : pz_all T n (f + 1) k M q = (q', none) := by rw [pz_all, h]
theorem pz_all_o {T : Nat → Int32} {n f k q q' : Nat} {M M' : Nat → Int32} (h : pz_item T n M q = (q', some M')) (h2 : pz_k T n q' = 22) : pz_all T n (f + 1) k M q = (q', some (k, M')) := by rw [pz_all, h]; exact if_pos h2
theorem pz_all_s {T : Nat → Int32} {n f k q q' : Nat} {M M' : Nat → Int32} (h : pz_item T n M q = (q', some M')) (h2 : pz_k T n q' = 21) : pz_all T n (f + 1) k M q = pz_all T n f (k + 1) M' (pz_e T n q') := by rw [pz_all, h]; exact (if_neg (by omega)).trans (if_pos h2)
theorem pz_all_x {T : Nat → Int32} {n f k q q' : Nat} {M M' : Nat → Int32} (h : pz_item T n M q = (q', some M')) (h2 : ¬ pz_k T n q' = 22) (h3 : ¬ pz_k T n q' = 21) : pz_all T n (f + 1) k M q = (q', none) := by rw [pz_all, h]; exact (if_neg h2).trans (if_neg h3)
-- places
theorem pz_nb_t {T : Nat → Int32} {n q h : Nat} (z : pz_nb T n q h) : q < pz_e T n q := pz_e_gt (by have := pz_k20.mp z.1; omega)
theorem pz_kw_t {T : Nat → Int32} {n q : Nat} (z : pz_k T n q < 22) : q < pz_e T n q := pz_e_gt (fun h => by have := pz_k22.mpr h; omega)
theorem pz_tg_b {T : Nat → Int32} {n : Nat} : ∀ r set q, q ≤ n → q ≤ (pz_tg T n r set q).1 ∧ (pz_tg T n r set q).1 ≤ n
  | 0, set, q, h => ⟨Nat.le_refl _, h⟩
  | r + 1, set, q, h => by
    rw [pz_tg]
    split
    · exact ⟨Nat.le_refl _, h⟩
    · split
      · rename_i z
        have := pz_nb_t z
        have g := pz_tg_b (T := T) (n := n) r (set ||| (nI 1 <<< (nI (pz_v T n q) &&& 31))) (pz_e T n q) (pz_e_le h)
        omega
      · exact ⟨Nat.le_refl _, h⟩
theorem pz_hs_b {T : Nat → Int32} {n q : Nat} {M : Nat → Int32} {k pr : Int32} (h : q ≤ n) : q ≤ (pz_hs T n M k pr q).1 ∧ (pz_hs T n M k pr q).1 ≤ n := by
  unfold pz_hs
  split
  · have g := pz_tg_b (T := T) (n := n) 4 (nI 0) (pz_e T n q) (pz_e_le h)
    have h1 := pz_b_ge T n q
    have h2 := pz_e_ge T n q
    exact ⟨by show q ≤ (pz_tg T n 4 (nI 0) (pz_e T n q)).1; omega, g.2⟩
  · exact ⟨Nat.le_refl _, h⟩
theorem pz_del_b {T : Nat → Int32} {n q : Nat} {M : Nat → Int32} {k : Int32} (h : q ≤ n) : q ≤ (pz_del T n M k q).1 ∧ (pz_del T n M k q).1 ≤ n := by
  have a1 := pz_b_ge T n q
  have a2 := pz_e_ge T n q
  have a3 := pz_e_le (T := T) h
  have b1 := pz_b_ge T n (pz_e T n q)
  have b2 := pz_e_ge T n (pz_e T n q)
  have b3 := pz_e_le (T := T) a3
  unfold pz_del
  split
  · split
    · have := pz_hs_b (T := T) (M := M) (k := k) (pr := nI (pz_v T n (pz_e T n q))) b3; omega
    · exact ⟨by show q ≤ pz_e T n q; omega, a3⟩
  · exact pz_hs_b h
theorem pz_sp_b {T : Nat → Int32} {n q : Nat} {M : Nat → Int32} (h : q ≤ n) : q ≤ (pz_sp T n M q).1 ∧ (pz_sp T n M q).1 ≤ n := by
  have st : ∀ p, p ≤ n → p ≤ pz_e T n p ∧ pz_e T n p ≤ n := fun p hp => ⟨Nat.le_trans (pz_b_ge T n p) (pz_e_ge T n p), pz_e_le hp⟩
  have a1 := st q h
  have a2 := st _ a1.2
  have a3 := st _ a2.2
  have a4 := st _ a3.2
  have a5 := st _ a4.2
  unfold pz_sp
  repeat' split
  all_goals (dsimp only; omega)
theorem pz_item_b {T : Nat → Int32} {n q : Nat} {M : Nat → Int32} (h : q ≤ n) : q ≤ (pz_item T n M q).1 ∧ (pz_item T n M q).1 ≤ n ∧ ((pz_item T n M q).2.isSome = true → q < (pz_item T n M q).1) := by
  have h3 := pz_e_le (T := T) h
  unfold pz_item
  split
  · rename_i z
    have := pz_kw_t (T := T) (n := n) (q := q) (by omega)
    unfold pz_dl
    split
    · exact ⟨Nat.le_refl _, h, fun w => by cases w⟩
    · have g := pz_del_b (T := T) (M := M) (k := nI (pz_k T n q)) h3
      exact ⟨by omega, g.2, fun _ => by omega⟩
  · split
    · rename_i z
      have := pz_kw_t (T := T) (n := n) (q := q) (by omega)
      unfold pz_sl
      split
      · exact ⟨Nat.le_refl _, h, fun w => by cases w⟩
      · have g := pz_sp_b (T := T) (M := M) h3
        exact ⟨by omega, g.2, fun _ => by omega⟩
    · exact ⟨Nat.le_refl _, h, fun w => by cases w⟩
theorem pz_some {T : Nat → Int32} {n q q' : Nat} {M M' : Nat → Int32} (h : q ≤ n) (e : pz_item T n M q = (q', some M')) : q < q' ∧ q' ≤ n := by
  have g := pz_item_b (T := T) (M := M) h
  rw [e] at g
  exact ⟨g.2.2 rfl, g.2.1⟩
theorem pz_none {T : Nat → Int32} {n q q' : Nat} {M : Nat → Int32} (h : q ≤ n) (e : pz_item T n M q = (q', none)) : q' ≤ n := by
  have g := pz_item_b (T := T) (M := M) h
  rw [e] at g
  exact g.2.1
-- what stays true
theorem hz_I_hs {b n q : Nat} {T M : Nat → Int32} {k : Int32} {pr : Nat} (h : hz_I b M) (hlt : nD M < 8) (hp : pr ≤ 20) : ∀ M', (pz_hs T n M k (nI pr) q).2 = some M' → hz_I b M' := by
  intro M' e
  have hq : hz_r (nI pr) 0 20 := hz_tor hp (by decide)
  unfold pz_hs at e
  split at e
  · dsimp only at e
    split at e
    · cases e; exact hz_I_add h hlt hq
    · cases e
  · cases e; exact hz_I_add h hlt hq
theorem hz_I_item {b n q : Nat} {T M : Nat → Int32} (h : hz_I b M) {q' : Nat} {M' : Nat → Int32} (e : pz_item T n M q = (q', some M')) : hz_I b M' := by
  have h8 := h.1.2.2.2.1
  have h9 := h.1.2.2.2.2.2
  have e : (pz_item T n M q).2 = some M' := by rw [e]
  unfold pz_item at e
  split at e
  · unfold pz_dl at e
    split at e
    · cases e
    · unfold pz_del at e
      split at e
      · split at e
        · rename_i z
          exact hz_I_hs h (by omega) (by have := z.2; omega) M' e
        · cases e
      · exact hz_I_hs h (by omega) (by omega) M' e
  · split at e
    · unfold pz_sl at e
      split at e
      · cases e
      · unfold pz_sp at e
        split at e
        · split at e
          · split at e
            · rename_i z1 z2 z3
              have hf : hz_r (nI (pz_v T n (pz_e T n (pz_e T n (pz_e T n q))))) 0 99 := hz_tor (b := 99) (by have := z3.2; omega) (by decide)
              split at e
              · split at e
                · cases e
                  refine hz_I_addS h (by omega) ?_ hf
                  rw [nI_toInt (by have := pz_v_r T n (pz_e T n (pz_e T n (pz_e T n (pz_e T n (pz_e T n q))))); omega)]
                  omega
                · cases e
              · cases e
                exact hz_I_addS h (by omega) (by decide) hf
            · cases e
          · cases e
        · cases e
    · cases e
theorem hz_I_all {b n : Nat} {T : Nat → Int32} : ∀ f k M q, hz_I b M → ∀ x, (pz_all T n f k M q).2 = some x → hz_I b x.2
  | 0, _, _, _, _, x, e => by cases e
  | f + 1, k, M, q, h, x, e => by
    rcases hi : pz_item T n M q with ⟨q', _ | M'⟩
    · rw [pz_all_n hi] at e; cases e
    · have h' := hz_I_item h hi
      by_cases a : pz_k T n q' = 22
      · rw [pz_all_o hi a] at e; cases e; exact h'
      · by_cases c : pz_k T n q' = 21
        · rw [pz_all_s hi c] at e; exact hz_I_all f (k + 1) M' _ h' x e
        · rw [pz_all_x hi a c] at e; cases e
theorem keep_congress {b n : Nat} {T M : Nat → Int32} (h : hz_I b M) : hz_I b (pz_M M (pz_all T n 120 1 M 0)) := by
  unfold pz_M
  split
  · exact h
  · rename_i x e
    exact hz_I_all _ _ _ _ h x e
-- delegates and speeches, told in pieces
theorem da_o {M : Nat → Int32} {k v s v2 s2 : Int32} {i : Nat} (h1 : i ≠ 3 + 5 * nD M + 1) (h2 : i ≠ 3 + 5 * nD M + 2) : sp_add M k v s i = sp_add M k v2 s2 i := by
  unfold sp_add upd
  repeat' split
  all_goals (first | rfl | omega)
theorem da_p {M : Nat → Int32} {k v s : Int32} : sp_add M k v s (3 + 5 * nD M + 1) = v := by
  unfold sp_add
  rw [pk_un (by omega), pk_un (by omega), pk_un (by omega), pk_us]
theorem da_t {M : Nat → Int32} {k v s : Int32} : sp_add M k v s (3 + 5 * nD M + 2) = s := by
  unfold sp_add
  rw [pk_un (by omega), pk_un (by omega), pk_us]
theorem da_1 {M : Nat → Int32} {k v s v2 s2 : Int32} {x : Nat} : upd (fun x_ => sp_add M k v s (3 + 5 * x_ + 1)) (nD M) v2 x = sp_add M k v2 s2 (3 + 5 * x + 1) := by
  by_cases e : x = nD M
  · rw [e, pk_us, da_p]
  · rw [pk_un e]; exact da_o (by omega) (by omega)
theorem da_1' {M : Nat → Int32} {k v s s2 : Int32} {x : Nat} : sp_add M k v s (3 + 5 * x + 1) = sp_add M k v s2 (3 + 5 * x + 1) := by
  by_cases e : x = nD M
  · rw [e, da_p, da_p]
  · exact da_o (by omega) (by omega)
theorem da_2 {M : Nat → Int32} {k v s v2 s2 : Int32} {x : Nat} : upd (fun x_ => sp_add M k v s (3 + 5 * x_ + 2)) (nD M) s2 x = sp_add M k v2 s2 (3 + 5 * x + 2) := by
  by_cases e : x = nD M
  · rw [e, pk_us, da_t]
  · rw [pk_un e]; exact da_o (by omega) (by omega)
theorem da_2' {M : Nat → Int32} {k v s v2 : Int32} {x : Nat} : sp_add M k v s (3 + 5 * x + 2) = sp_add M k v2 s (3 + 5 * x + 2) := by
  by_cases e : x = nD M
  · rw [e, da_t, da_t]
  · exact da_o (by omega) (by omega)
theorem sa_o {M : Nat → Int32} {y t a f a2 : Int32} {i : Nat} (h1 : i ≠ 43 + 4 * nS M + 2) : sp_addS M y t a f i = sp_addS M y t a2 f i := by
  unfold sp_addS upd
  repeat' split
  all_goals (first | rfl | omega)
theorem sa_2 {M : Nat → Int32} {y t a f a2 : Int32} {x : Nat} : upd (fun x_ => sp_addS M y t a f (43 + 4 * x_ + 2)) (nS M) a2 x = sp_addS M y t a2 f (43 + 4 * x + 2) := by
  by_cases e : x = nS M
  · rw [e, pk_us]
    unfold sp_addS
    rw [pk_un (by omega), pk_us]
  · rw [pk_un e]; exact sa_o (by omega)
theorem pz_mo_lit (k : Nat) (hk : k < 1000) : ∀ v : Nat, v < 10000 → ((nI 0 ≤ nI v ∧ nI v ≤ nI k) ↔ v < k + 1) := fun v hv => by
  rw [nI_leI (by decide) (by omega), nI_leI (by omega) (by omega)]
  omega
theorem pz_mo_sub (d : Nat) (hd : d ≤ 8) : ∀ v : Nat, v < 10000 → ((nI 0 ≤ nI v ∧ nI v ≤ nI d - nI 1) ↔ v < d) := fun v hv => by
  rw [hz_rin (nI v) (by omega), hz_in_nI (by omega)]
def pz_bd : Bool → Int32
  | true => nI 0
  | false => nI 1
theorem pz_tri {a a' : Nat} {b b' : Bool} {c c' : Int32} (h : (a, b, c) = (a', b', c')) : a = a' ∧ b = b' ∧ c = c' := by
  cases h; exact ⟨rfl, rfl, rfl⟩
