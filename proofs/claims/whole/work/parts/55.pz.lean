/-! the text of a congress: tokens, numbers, items, over bytes T, their number n and the place q from which a token is read -/
def pz_s (lo hi : Nat) (T : Nat → Int32) : Nat → Nat → Nat
  | 0, p => p
  | f + 1, p => if rg (T p) lo hi then pz_s lo hi T f (p + 1) else p
def pz_r (lo hi : Nat) (T : Nat → Int32) (n p : Nat) : Nat := pz_s lo hi T (n - p) p
theorem pz_r_y {lo hi : Nat} {T : Nat → Int32} {n p : Nat} (h : p < n) (h2 : rg (T p) lo hi) : pz_r lo hi T n p = pz_r lo hi T n (p + 1) := by
  unfold pz_r
  rw [show n - p = (n - (p + 1)) + 1 by omega, pz_s, if_pos h2]
theorem pz_r_n {lo hi : Nat} {T : Nat → Int32} {n p : Nat} (h : ¬ (p < n ∧ rg (T p) lo hi)) : pz_r lo hi T n p = p := by
  unfold pz_r
  by_cases q : p < n
  · rw [show n - p = (n - (p + 1)) + 1 by omega, pz_s, if_neg (fun z => h ⟨q, z⟩)]
  · rw [show n - p = 0 by omega, pz_s]
theorem pz_s_b (lo hi : Nat) (T : Nat → Int32) : ∀ f p, p ≤ pz_s lo hi T f p ∧ pz_s lo hi T f p ≤ p + f ∧ ∀ j, p ≤ j → j < pz_s lo hi T f p → rg (T j) lo hi
  | 0, p => ⟨Nat.le_refl _, Nat.le_refl _, fun j h1 h2 => by rw [pz_s] at h2; omega⟩
  | f + 1, p => by
    rw [pz_s]
    split
    · rename_i h
      obtain ⟨a, b, c⟩ := pz_s_b lo hi T f (p + 1)
      refine ⟨by omega, by omega, fun j h1 h2 => ?_⟩
      by_cases e : j = p
      · rw [e]; exact h
      · exact c j (by omega) h2
    · exact ⟨Nat.le_refl _, by omega, fun j h1 h2 => by omega⟩
theorem pz_r_ge (lo hi : Nat) (T : Nat → Int32) (n p : Nat) : p ≤ pz_r lo hi T n p := (pz_s_b lo hi T _ p).1
theorem pz_r_le {lo hi : Nat} {T : Nat → Int32} {n p : Nat} (h : p ≤ n) : pz_r lo hi T n p ≤ n := by
  have := (pz_s_b lo hi T (n - p) p).2.1
  unfold pz_r; omega
theorem pz_r_in {lo hi : Nat} {T : Nat → Int32} {n p j : Nat} (h : p ≤ j) (h2 : j < pz_r lo hi T n p) : rg (T j) lo hi := (pz_s_b lo hi T _ p).2.2 j h h2
theorem pz_r_gt {lo hi : Nat} {T : Nat → Int32} {n p : Nat} (h : p < n) (h2 : rg (T p) lo hi) : p < pz_r lo hi T n p := by
  rw [pz_r_y h h2]
  have := pz_r_ge lo hi T n (p + 1)
  omega
/-- the sort of a token that begins at b: 0 over, 1 a word, 2 a number, 3 a sign, 4 wrong -/
def pz_c (T : Nat → Int32) (n b : Nat) : Nat := if b < n then if rg (T b) 97 122 then 1 else if rg (T b) 48 57 then 2 else if T b = nI 59 then 3 else 4 else 0
theorem pz_c0 {T : Nat → Int32} {n b : Nat} (h : ¬ b < n) : pz_c T n b = 0 := if_neg h
theorem pz_c1 {T : Nat → Int32} {n b : Nat} (h : b < n ∧ rg (T b) 97 122) : pz_c T n b = 1 := (if_pos h.1).trans (if_pos h.2)
theorem pz_c2 {T : Nat → Int32} {n b : Nat} (h1 : ¬ (b < n ∧ rg (T b) 97 122)) (h : b < n ∧ rg (T b) 48 57) : pz_c T n b = 2 := (if_pos h.1).trans ((if_neg (fun z => h1 ⟨h.1, z⟩)).trans (if_pos h.2))
theorem pz_c3 {T : Nat → Int32} {n b : Nat} (h0 : b < n) (h1 : ¬ (b < n ∧ rg (T b) 97 122)) (h2 : ¬ (b < n ∧ rg (T b) 48 57)) (h : T b = nI 59) : pz_c T n b = 3 := (if_pos h0).trans ((if_neg (fun z => h1 ⟨h0, z⟩)).trans ((if_neg (fun z => h2 ⟨h0, z⟩)).trans (if_pos h)))
theorem pz_c4 {T : Nat → Int32} {n b : Nat} (h0 : b < n) (h1 : ¬ (b < n ∧ rg (T b) 97 122)) (h2 : ¬ (b < n ∧ rg (T b) 48 57)) (h : ¬ T b = nI 59) : pz_c T n b = 4 := (if_pos h0).trans ((if_neg (fun z => h1 ⟨h0, z⟩)).trans ((if_neg (fun z => h2 ⟨h0, z⟩)).trans (if_neg h)))
theorem pz_c_le (T : Nat → Int32) (n b : Nat) : pz_c T n b ≤ 4 := by
  unfold pz_c; repeat' split
  all_goals omega
def pz_ec (T : Nat → Int32) (n b : Nat) : Nat := if pz_c T n b = 1 then pz_r 97 122 T n b else if pz_c T n b = 2 then pz_r 48 57 T n b else if pz_c T n b = 0 then b else b + 1
def pz_d (T : Nat → Int32) (b : Nat) : Nat → Nat
  | 0 => 0
  | k + 1 => if 999 < pz_d T b k then pz_d T b k else 10 * pz_d T b k + ((T (b + k)).toNatClampNeg - 48)
abbrev pz_is (T : Nat → Int32) (b k i : Nat) : Prop := k = pz_ln i ∧ ∀ j : Nat, j < pz_ln i → T (b + j) = pz_NM (8 * i + j)
def pz_w (T : Nat → Int32) (b k : Nat) : Nat := if fa_first (fun i => decide (pz_is T b k i)) 10 < 10 then fa_first (fun i => decide (pz_is T b k i)) 10 else 23
theorem pz_w_yes {T : Nat → Int32} {b k i : Nat} (h : ∀ j, j < i → ¬ pz_is T b k j) (hi : pz_is T b k i) (h10 : i < 10) : pz_w T b k = i := by
  have e : fa_first (fun i => decide (pz_is T b k i)) 10 = i := hz_fi1 (fun j hj => decide_eq_false (h j hj)) (decide_eq_true hi) h10
  unfold pz_w
  rw [e, if_pos h10]
theorem pz_w_no {T : Nat → Int32} {b k : Nat} (h : ∀ j, j < 10 → ¬ pz_is T b k j) : pz_w T b k = 23 := by
  have e : fa_first (fun i => decide (pz_is T b k i)) 10 = 10 := hz_fi0 (fun j hj => decide_eq_false (h j hj))
  unfold pz_w
  rw [e, if_neg (by decide)]
theorem pz_is_un1 : ∀ i : Nat, i < 10 → ∀ j : Nat, j < 10 → i ≠ j → pz_ln i = pz_ln j → ∃ t : Nat, t < pz_ln i ∧ pz_NM (8 * i + t) ≠ pz_NM (8 * j + t) := by decide +kernel
theorem pz_is_un {T : Nat → Int32} {b k i j : Nat} (hi : i < 10) (hj : j < 10) (h1 : pz_is T b k i) (h2 : pz_is T b k j) : i = j := by
  by_cases e : i = j
  · exact e
  · obtain ⟨t, a, c⟩ := pz_is_un1 i hi j hj e (h1.1.symm.trans h2.1)
    exact absurd ((h1.2 t a).symm.trans (h2.2 t (by rw [← h2.1, h1.1]; exact a))) c
theorem pz_w_iff {T : Nat → Int32} {b k i : Nat} (hi : i < 10) : pz_w T b k = i ↔ pz_is T b k i := by
  constructor
  · intro h
    by_cases q : ∃ j, j < 10 ∧ pz_is T b k j
    · obtain ⟨j, h1, h2⟩ := q
      have := pz_w_yes (fun t ht z => absurd (pz_is_un (by omega) h1 z h2) (by omega)) h2 h1
      rw [this] at h
      rw [← h]; exact h2
    · have := pz_w_no (T := T) (b := b) (k := k) (fun j hj z => q ⟨j, hj, z⟩)
      omega
  · intro h
    exact pz_w_yes (fun t ht z => absurd (pz_is_un (by omega) hi z h) (by omega)) h hi
theorem pz_w_r (T : Nat → Int32) (b k : Nat) : pz_w T b k < 10 ∨ pz_w T b k = 23 := by
  unfold pz_w
  split
  · left; assumption
  · right; rfl
def pz_b (T : Nat → Int32) (n q : Nat) : Nat := pz_r 32 32 T n q
def pz_t (T : Nat → Int32) (n q : Nat) : Nat := pz_c T n (pz_b T n q)
def pz_e (T : Nat → Int32) (n q : Nat) : Nat := pz_ec T n (pz_b T n q)
def pz_v (T : Nat → Int32) (n q : Nat) : Nat := if pz_t T n q = 2 then pz_d T (pz_b T n q) (pz_e T n q - pz_b T n q) else 0
def pz_k (T : Nat → Int32) (n q : Nat) : Nat := if pz_t T n q = 1 then pz_w T (pz_b T n q) (pz_e T n q - pz_b T n q) else if pz_t T n q = 2 then 20 else if pz_t T n q = 3 then 21 else if pz_t T n q = 0 then 22 else 23
theorem pz_b_ge (T : Nat → Int32) (n q : Nat) : q ≤ pz_b T n q := pz_r_ge _ _ _ _ _
theorem pz_b_le {T : Nat → Int32} {n q : Nat} (h : q ≤ n) : pz_b T n q ≤ n := pz_r_le h
theorem pz_ec_ge (T : Nat → Int32) (n b : Nat) : b ≤ pz_ec T n b := by
  unfold pz_ec
  have h1 := pz_r_ge 97 122 T n b
  have h2 := pz_r_ge 48 57 T n b
  split
  · exact h1
  · split
    · exact h2
    · split <;> omega
theorem pz_c_lt {T : Nat → Int32} {n b : Nat} (h : ¬ pz_c T n b = 0) : b < n := by
  by_cases q : b < n
  · exact q
  · exact absurd (pz_c0 q) h
theorem pz_ec_le {T : Nat → Int32} {n b : Nat} (h : b ≤ n) : pz_ec T n b ≤ n := by
  unfold pz_ec
  split
  · exact pz_r_le h
  · split
    · exact pz_r_le h
    · split
      · exact h
      · rename_i h0; exact pz_c_lt h0
theorem pz_c_w {T : Nat → Int32} {n b : Nat} (h : pz_c T n b = 1) : b < n ∧ rg (T b) 97 122 := by
  by_cases q : b < n
  · unfold pz_c at h
    rw [if_pos q] at h
    by_cases q2 : rg (T b) 97 122
    · exact ⟨q, q2⟩
    · rw [if_neg q2] at h
      split at h
      · omega
      · split at h <;> omega
  · rw [pz_c0 q] at h; omega
theorem pz_c_d {T : Nat → Int32} {n b : Nat} (h : pz_c T n b = 2) : b < n ∧ rg (T b) 48 57 := by
  by_cases q : b < n
  · unfold pz_c at h
    rw [if_pos q] at h
    split at h
    · omega
    · split at h
      · exact ⟨q, by assumption⟩
      · split at h <;> omega
  · rw [pz_c0 q] at h; omega
theorem pz_ec_gt {T : Nat → Int32} {n b : Nat} (h : ¬ pz_c T n b = 0) : b < pz_ec T n b := by
  unfold pz_ec
  split
  · rename_i h1; exact pz_r_gt (pz_c_w h1).1 (pz_c_w h1).2
  · split
    · rename_i h1; exact pz_r_gt (pz_c_d h1).1 (pz_c_d h1).2
    · omega
theorem pz_e_ge (T : Nat → Int32) (n q : Nat) : pz_b T n q ≤ pz_e T n q := pz_ec_ge T n _
theorem pz_e_le {T : Nat → Int32} {n q : Nat} (h : q ≤ n) : pz_e T n q ≤ n := pz_ec_le (pz_b_le h)
theorem pz_e_gt {T : Nat → Int32} {n q : Nat} (h : ¬ pz_t T n q = 0) : q < pz_e T n q := Nat.lt_of_le_of_lt (pz_b_ge T n q) (pz_ec_gt h)
theorem pz_k_r (T : Nat → Int32) (n q : Nat) : pz_k T n q < 24 := by
  unfold pz_k
  have := pz_w_r T (pz_b T n q) (pz_e T n q - pz_b T n q)
  repeat' split
  all_goals omega
theorem pz_t_le (T : Nat → Int32) (n q : Nat) : pz_t T n q ≤ 4 := pz_c_le _ _ _
theorem pz_word {T : Nat → Int32} {n q i : Nat} (hi : i < 10) : (pz_t T n q = 1 ∧ pz_is T (pz_b T n q) (pz_e T n q - pz_b T n q) i) ↔ pz_k T n q = i := by
  unfold pz_k
  by_cases h : pz_t T n q = 1
  · rw [if_pos h, pz_w_iff hi]
    exact ⟨fun z => z.2, fun z => ⟨h, z⟩⟩
  · rw [if_neg h]
    refine ⟨fun z => absurd z.1 h, fun z => ?_⟩
    repeat' split at z
    all_goals omega
theorem pz_k20 {T : Nat → Int32} {n q : Nat} : pz_k T n q = 20 ↔ pz_t T n q = 2 := by
  unfold pz_k
  have := pz_w_r T (pz_b T n q) (pz_e T n q - pz_b T n q)
  repeat' split
  all_goals omega
theorem pz_k21 {T : Nat → Int32} {n q : Nat} : pz_k T n q = 21 ↔ pz_t T n q = 3 := by
  unfold pz_k
  have := pz_w_r T (pz_b T n q) (pz_e T n q - pz_b T n q)
  have := pz_t_le T n q
  repeat' split
  all_goals omega
theorem pz_k22 {T : Nat → Int32} {n q : Nat} : pz_k T n q = 22 ↔ pz_t T n q = 0 := by
  unfold pz_k
  have := pz_w_r T (pz_b T n q) (pz_e T n q - pz_b T n q)
  have := pz_t_le T n q
  repeat' split
  all_goals omega
theorem pz_d_r {T : Nat → Int32} {b : Nat} : ∀ k, (∀ j, j < k → rg (T (b + j)) 48 57) → pz_d T b k < 10000
  | 0, _ => by rw [pz_d]; omega
  | k + 1, h => by
    have ih := pz_d_r k (fun j hj => h j (by omega))
    obtain ⟨t, h1, h2, e⟩ := hz_rg (by decide) (by decide) (h k (by omega))
    rw [pz_d, e, nI_clamp (by omega)]
    split <;> omega
theorem pz_d_y {T : Nat → Int32} {b k : Nat} (h : 999 < pz_d T b k) : pz_d T b (k + 1) = pz_d T b k := by rw [pz_d, if_pos h]
theorem pz_d_n {T : Nat → Int32} {b k : Nat} (h : ¬ 999 < pz_d T b k) (hr : rg (T (b + k)) 48 57) : nI (10 * pz_d T b k) + T (b + k) - nI 48 = nI (pz_d T b (k + 1)) := by
  obtain ⟨t, h1, h2, e⟩ := hz_rg (by decide) (by decide) hr
  rw [pz_d, if_neg h, e, nI_clamp (by omega), nI_add, show 10 * pz_d T b k + t = (10 * pz_d T b k + (t - 48)) + 48 by omega, ← nI_add, Int32.add_sub_cancel]
def pz_m (x : Nat) : Nat := if x < 1000 then x else 1000
theorem pz_m_le (x : Nat) : pz_m x ≤ 1000 := by unfold pz_m; split <;> omega
theorem pz_m_d {T : Nat → Int32} {b k : Nat} (hr : rg (T (b + k)) 48 57) : (if nI 1000 < nI (pz_m (pz_d T b k) * 10) + T (b + k) - nI 48 then nI 1000 else nI (pz_m (pz_d T b k) * 10) + T (b + k) - nI 48) = nI (pz_m (pz_d T b (k + 1))) := by
  obtain ⟨t, h1, h2, e⟩ := hz_rg (by decide) (by decide) hr
  have hm := pz_m_le (pz_d T b k)
  have e2 : nI (pz_m (pz_d T b k) * 10) + T (b + k) - nI 48 = nI (pz_m (pz_d T b k) * 10 + (t - 48)) := by
    rw [e, nI_add, show pz_m (pz_d T b k) * 10 + t = (pz_m (pz_d T b k) * 10 + (t - 48)) + 48 by omega, ← nI_add, Int32.add_sub_cancel]
  have e3 : pz_d T b (k + 1) = if 999 < pz_d T b k then pz_d T b k else 10 * pz_d T b k + (t - 48) := by
    rw [pz_d, e, nI_clamp (by omega)]
  rw [e2, e3]
  by_cases h : 1000 < pz_m (pz_d T b k) * 10 + (t - 48)
  · rw [if_pos ((nI_ltI (by decide) (by omega)).mpr h)]
    congr 1
    unfold pz_m at h ⊢
    repeat' split at h
    all_goals (repeat' split)
    all_goals omega
  · rw [if_neg (fun z => h ((nI_ltI (by decide) (by omega)).mp z))]
    congr 1
    unfold pz_m at h ⊢
    repeat' split at h
    all_goals (repeat' split)
    all_goals omega
theorem pz_d_in {T : Nat → Int32} {n q : Nat} (h : pz_t T n q = 2) : ∀ j, pz_b T n q ≤ j → j < pz_e T n q → rg (T j) 48 57 := by
  intro j h1 h2
  unfold pz_e pz_ec at h2
  have h' : pz_c T n (pz_b T n q) = 2 := h
  rw [if_neg (by omega), if_pos h'] at h2
  exact pz_r_in h1 h2
theorem pz_v_r (T : Nat → Int32) (n q : Nat) : pz_v T n q < 10000 := by
  unfold pz_v
  split
  · rename_i h
    exact pz_d_r _ (fun j hj => pz_d_in h _ (by omega) (by omega))
  · omega
/-- a number below h stands at q -/
abbrev pz_nb (T : Nat → Int32) (n q h : Nat) : Prop := pz_k T n q = 20 ∧ pz_v T n q < h
def pz_nu (T : Nat → Int32) (n q : Nat) (nu : Int32) : Int32 := if pz_t T n q = 2 then nI (pz_m (pz_v T n q)) else nu
theorem pz_nk {T : Nat → Int32} {n q h : Nat} {nu : Int32} (hh : h ≤ 1000) : (pz_t T n q = 2 ∧ pz_nu T n q nu < nI h) ↔ pz_nb T n q h := by
  show (pz_t T n q = 2 ∧ pz_nu T n q nu < nI h) ↔ (pz_k T n q = 20 ∧ pz_v T n q < h)
  unfold pz_nu
  rw [pz_k20]
  by_cases e : pz_t T n q = 2
  · rw [if_pos e, nI_ltI (by have := pz_m_le (pz_v T n q); omega) (by omega)]
    unfold pz_m
    constructor
    · intro z; refine ⟨e, ?_⟩; have := z.2; split at this <;> omega
    · intro z; refine ⟨e, ?_⟩; have := z.2; split <;> omega
  · exact ⟨fun z => absurd z.1 e, fun z => absurd z.1 e⟩
theorem pz_nuv {T : Nat → Int32} {n q h : Nat} {nu : Int32} (hh : h ≤ 1000) (H : pz_nb T n q h) : pz_nu T n q nu = nI (pz_v T n q) := by
  unfold pz_nu
  rw [if_pos (pz_k20.mp H.1)]
  have := H.2
  unfold pz_m
  rw [if_pos (by omega)]
/-- the reference's way of a name -/
abbrev pz_q (T : Nat → Int32) (b k i j : Nat) : Prop := (k ≤ 8 ∧ (k = 8 ∨ pz_NM (8 * i + k) = 0)) ∧ ∀ t : Nat, t < j → pz_NM (8 * i + t) = T (b + t)
theorem pz_n1 : ∀ i : Nat, i < 10 → (1 ≤ pz_ln i ∧ pz_ln i ≤ 8) ∧ (pz_ln i < 8 → pz_NM (8 * i + pz_ln i) = 0) ∧ ∀ t : Nat, t < pz_ln i → ¬ pz_NM (8 * i + t) = 0 := by decide +kernel
theorem pz_q_is {T : Nat → Int32} {b k i : Nat} (hi : i < 10) (hl : ∀ j, j < k → rg (T (b + j)) 97 122) : pz_q T b k i k ↔ pz_is T b k i := by
  obtain ⟨⟨a1, a2⟩, a3, a4⟩ := pz_n1 i hi
  constructor
  · intro ⟨⟨h1, h2⟩, h3⟩
    have hk : k = pz_ln i := by
      rcases Nat.lt_trichotomy k (pz_ln i) with h | h | h
      · rcases h2 with h2 | h2
        · omega
        · exact absurd h2 (a4 k h)
      · exact h
      · have := h3 (pz_ln i) h
        rw [a3 (by omega)] at this
        have h4 := (hl (pz_ln i) h).1
        rw [← this] at h4
        exact absurd h4 (by decide)
    subst hk
    exact ⟨rfl, fun j hj => (h3 j hj).symm⟩
  · intro ⟨h1, h2⟩
    subst h1
    refine ⟨⟨a2, ?_⟩, fun t ht => (h2 t ht).symm⟩
    by_cases e : pz_ln i = 8
    · exact Or.inl e
    · exact Or.inr (a3 (by omega))
theorem pz_q_mono {T : Nat → Int32} {b k i j k2 : Nat} (h : j ≤ k2) (z : pz_q T b k i k2) : pz_q T b k i j := ⟨z.1, fun t ht => z.2 t (by omega)⟩
theorem pz_q_s {T : Nat → Int32} {b k i j : Nat} (h : pz_q T b k i j) (h2 : pz_NM (8 * i + j) = T (b + j)) : pz_q T b k i (j + 1) := ⟨h.1, fun t ht => by
  by_cases e : t = j
  · rw [e]; exact h2
  · exact h.2 t (by omega)⟩
theorem rg_1 {x : Int32} {k : Nat} : rg x k k ↔ x = nI k := ⟨fun h => Int32.le_antisymm h.2 h.1, fun h => by rw [h]; exact ⟨Int32.le_refl _, Int32.le_refl _⟩⟩
/-! the same by the sort of the token at b -/
section PZE
variable {T : Nat → Int32} {n q b : Nat} (hb : b = pz_b T n q)
theorem pz_e0 (hb : b = pz_b T n q) (h : ¬ b < n) : pz_e T n q = b ∧ pz_k T n q = 22 ∧ pz_v T n q = 0 ∧ pz_t T n q = 0 := by
  have h0 : pz_t T n q = 0 := by unfold pz_t; rw [← hb]; exact pz_c0 h
  have h1 : pz_c T n b = 0 := pz_c0 h
  refine ⟨?_, pz_k22.mpr h0, ?_, h0⟩
  · unfold pz_e pz_ec; rw [← hb, if_neg (by omega), if_neg (by omega), if_pos h1]
  · unfold pz_v; rw [if_neg (by omega)]
theorem pz_e1 (hb : b = pz_b T n q) (h : b < n ∧ rg (T b) 97 122) : pz_e T n q = pz_r 97 122 T n b ∧ pz_k T n q = pz_w T b (pz_r 97 122 T n b - b) ∧ pz_v T n q = 0 ∧ pz_t T n q = 1 := by
  have h0 : pz_t T n q = 1 := by unfold pz_t; rw [← hb]; exact pz_c1 h
  have h1 : pz_c T n b = 1 := pz_c1 h
  have h2 : pz_e T n q = pz_r 97 122 T n b := by unfold pz_e pz_ec; rw [← hb, if_pos h1]
  refine ⟨h2, ?_, ?_, h0⟩
  · unfold pz_k; rw [if_pos h0, h2, ← hb]
  · unfold pz_v; rw [if_neg (by omega)]
theorem pz_e2 (hb : b = pz_b T n q) (g : ¬ (b < n ∧ rg (T b) 97 122)) (h : b < n ∧ rg (T b) 48 57) : pz_e T n q = pz_r 48 57 T n b ∧ pz_k T n q = 20 ∧ pz_v T n q = pz_d T b (pz_r 48 57 T n b - b) ∧ pz_t T n q = 2 := by
  have h0 : pz_t T n q = 2 := by unfold pz_t; rw [← hb]; exact pz_c2 g h
  have h1 : pz_c T n b = 2 := pz_c2 g h
  have h2 : pz_e T n q = pz_r 48 57 T n b := by unfold pz_e pz_ec; rw [← hb, if_neg (by omega), if_pos h1]
  refine ⟨h2, pz_k20.mpr h0, ?_, h0⟩
  unfold pz_v; rw [if_pos h0, h2, ← hb]
theorem pz_e3 (hb : b = pz_b T n q) (g0 : b < n) (g : ¬ (b < n ∧ rg (T b) 97 122)) (g2 : ¬ (b < n ∧ rg (T b) 48 57)) (h : T b = nI 59) : pz_e T n q = b + 1 ∧ pz_k T n q = 21 ∧ pz_v T n q = 0 ∧ pz_t T n q = 3 := by
  have h0 : pz_t T n q = 3 := by unfold pz_t; rw [← hb]; exact pz_c3 g0 g g2 h
  have h1 : pz_c T n b = 3 := pz_c3 g0 g g2 h
  refine ⟨?_, pz_k21.mpr h0, ?_, h0⟩
  · unfold pz_e pz_ec; rw [← hb, if_neg (by omega), if_neg (by omega), if_neg (by omega)]
  · unfold pz_v; rw [if_neg (by omega)]
theorem pz_e4 (hb : b = pz_b T n q) (g0 : b < n) (g : ¬ (b < n ∧ rg (T b) 97 122)) (g2 : ¬ (b < n ∧ rg (T b) 48 57)) (h : ¬ T b = nI 59) : pz_e T n q = b + 1 ∧ pz_k T n q = 23 ∧ pz_v T n q = 0 ∧ pz_t T n q = 4 := by
  have h0 : pz_t T n q = 4 := by unfold pz_t; rw [← hb]; exact pz_c4 g0 g g2 h
  have h1 : pz_c T n b = 4 := pz_c4 g0 g g2 h
  refine ⟨?_, ?_, ?_, h0⟩
  · unfold pz_e pz_ec; rw [← hb, if_neg (by omega), if_neg (by omega), if_neg (by omega)]
  · unfold pz_k; rw [if_neg (by omega), if_neg (by omega), if_neg (by omega), if_neg (by omega)]
  · unfold pz_v; rw [if_neg (by omega)]
end PZE
section HTI
variable {p : Program} {l : Launch} {e : Env} {R : Room} {s : State} {m : MethodId} {args : Array Value} {below : List Frame} {meth : Method} {c : Code} {H : Heap} {locs : List Loc} {cells slots : Nat} {Q : State → Prop}
variable {pc : Nat} {ls : Array Slot} {rest : List Value} {cc : ByteArray} {A : Nat → Prop}
theorem hz_ti {t N j : Nat} {f : Nat → Int32} (hx : p.tables.exec = Jvm.exec) (hb : c.code = cc) (hT : va_T .int t N (fun j => .int (f j)) A s s.heap) (hS : va_S A s.heap H locs) (hj : j < N) (hN : N < 2 ^ 31) (hdg : decode cc pc = .ok (.iaload, 1)) (kk : W p l e R s m args below meth c H locs cells slots Q (F0 m (pc + 1) ls (.int (f j) :: rest))) : W p l e R s m args below meth c H locs cells slots Q (F0 m pc ls (.int (nI j) :: .ref t :: rest)) :=
  va_ti hx hb hT hS (vp_in_nI hj hN) (by rw [nI_clamp (by omega)]) hdg kk
end HTI
