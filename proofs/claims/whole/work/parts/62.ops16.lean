/-! the class's way of a text -/
def pz_gd : Bool → Int32
  | true => nI 1
  | false => nI 0
def pz_if (b : Bool) (f g : Nat → Int32) : Nat → Int32 := match b with
  | true => f
  | false => g
theorem pz_nbd (b : Bool) : narrow .boolean (.int (pz_gd b)) = .int (pz_gd b) := by cases b <;> rfl
theorem pz_all_q {T : Nat → Int32} {n : Nat} : ∀ f k M q, q ≤ n → (pz_all T n f k M q).1 ≤ n
  | 0, _, _, q, h => h
  | f + 1, k, M, q, h => by
    rcases hi : pz_item T n M q with ⟨q', _ | M'⟩
    · rw [pz_all_n hi]; exact pz_none h hi
    · have h' := (pz_some h hi).2
      by_cases a : pz_k T n q' = 22
      · rw [pz_all_o hi a]; exact h'
      · by_cases c : pz_k T n q' = 21
        · rw [pz_all_s hi c]; exact pz_all_q f (k + 1) M' _ (pz_e_le h')
        · rw [pz_all_x hi a c]; exact h'
theorem pz_all_k {T : Nat → Int32} {n : Nat} : ∀ f k M q x, (pz_all T n f k M q).2 = some x → k ≤ x.1 ∧ x.1 < k + f
  | 0, _, _, _, x, e => by cases e
  | f + 1, k, M, q, x, e => by
    rcases hi : pz_item T n M q with ⟨q', _ | M'⟩
    · rw [pz_all_n hi] at e; cases e
    · by_cases a : pz_k T n q' = 22
      · rw [pz_all_o hi a] at e; cases e; exact ⟨Nat.le_refl _, by show k < k + (f + 1); omega⟩
      · by_cases c : pz_k T n q' = 21
        · rw [pz_all_s hi c] at e; have := pz_all_k f (k + 1) M' _ x e; omega
        · rw [pz_all_x hi a c] at e; cases e
theorem pz_neg {b : Nat} (h : b ≤ 120) : -1 - nI b ≤ 0 := by
  have : ∀ b : Nat, b < 121 → -1 - nI b ≤ 0 := by decide +kernel
  exact this b (by omega)
