/-! a session; sessions; what stays true of the row of numbers -/
/-- each of the first n is hurt -/
def sp_ha (M : Nat → Int32) (s : Nat) (f : Int32) : Nat → (Nat → Int32)
  | 0 => M
  | n + 1 => upd (sp_ha M s f n) (3 + 5 * n + 3) (sp_held (sp_ha M s f n (3 + 5 * n + 3) + sp_loses (sp_ha M s f n) n s f) (nI 0) (nI 99999))
def sp_w1 (M : Nat → Int32) (j : Nat) : Nat → Int32 := upd M (3 + 5 * j + 4) (sp_held (M (3 + 5 * j + 4) + nI 1) (nI 0) (nI 999))
def sp_w2 (M : Nat → Int32) (j : Nat) : Nat → Int32 := upd (sp_w1 M j) (3 + 5 * j + 3) (sp_w1 M j (3 + 5 * j + 3) / nI 2)
def sp_w3 (M : Nat → Int32) (s j : Nat) : Nat → Int32 := upd (sp_w2 M j) (43 + 4 * s + 3) (sp_w2 M j (43 + 4 * s + 3) / nI 2)
def sp_hM (M : Nat → Int32) (s : Nat) : Nat → Int32 := match sp_who M s with
  | none => M
  | some j => if sp_wk (sp_ha M s (sp_over M s) (nD M)) j = 0 then sp_ha M s (sp_over M s) (nD M) else sp_w3 (sp_ha M s (sp_over M s) (nD M)) s j
def sp_hW (M : Nat → Int32) (s : Nat) (wp : Int32) : Int32 := match sp_who M s with
  | none => wp
  | some j => if sp_wk (sp_ha M s (sp_over M s) (nD M)) j = 0 then wp else nI j
def sp_g0 (M : Nat → Int32) : Nat → Int32 := if nS M = 0 then M else sp_hM M (nT M % nS M)
/-- a session goes -/
def sp_gM (M : Nat → Int32) : Nat → Int32 := upd (sp_g0 M) 0 (sp_g0 M 0 + nI 1)
/-- who wept in it -/
def sp_gW (M : Nat → Int32) : Int32 := if nS M = 0 then -1 else sp_hW M (nT M % nS M) (-1)
def sp_gN : Nat → (Nat → Int32) → (Nat → Int32)
  | 0, M => M
  | n + 1, M => sp_gM (sp_gN n M)
def sp_gNW (M : Nat → Int32) (wp : Int32) : Nat → Int32
  | 0 => wp
  | n + 1 => sp_gW (sp_gN n M)
def hz_r (x : Int32) (a b : Int) : Prop := a ≤ x.toInt ∧ x.toInt ≤ b
/-- what stays true: the counts, and the ranges that matter -/
def hz_I (b : Nat) (M : Nat → Int32) : Prop := (M 0 = nI (nT M) ∧ nT M ≤ b ∧ M 1 = nI (nD M) ∧ nD M ≤ 8 ∧ M 2 = nI (nS M) ∧ nS M ≤ 8) ∧ (∀ d : Nat, d < 8 → hz_r (M (3 + 5 * d + 1)) 0 20 ∧ hz_r (M (3 + 5 * d + 3)) 0 99999 ∧ hz_r (M (3 + 5 * d + 4)) 0 999) ∧ (∀ s : Nat, s < 8 → (-1 : Int) ≤ (M (43 + 4 * s + 2)).toInt ∧ hz_r (M (43 + 4 * s + 3)) 0 99)
theorem hz_I_mono {a b : Nat} {M : Nat → Int32} (h : hz_I a M) (hab : a ≤ b) : hz_I b M := ⟨⟨h.1.1, Nat.le_trans h.1.2.1 hab, h.1.2.2⟩, h.2⟩
theorem hz_held_r (v : Int32) {b : Nat} (hb : b < 2 ^ 31) : hz_r (sp_held v (nI 0) (nI b)) 0 b := by
  unfold sp_held hz_r
  split
  · rw [nI_toInt (by decide)]; omega
  · split
    · rw [nI_toInt hb]; omega
    · rename_i h1 h2
      rw [fa_lt, nI_toInt (by decide)] at h1
      rw [fa_lt, nI_toInt hb] at h2
      omega
theorem hz_half_r {x : Int32} {b : Nat} (hb : b + 1 < 2 ^ 31) (h : hz_r x 0 b) : hz_r (x / nI 2) 0 b := by
  obtain ⟨j, hj, rfl⟩ := vp_in_of (x := x) (n := b + 1) (vp_in_iff.mpr (by unfold hz_r at h; omega)) hb
  rw [pk_div (by omega) (by decide) (by decide)]
  unfold hz_r
  rw [nI_toInt (by omega)]
  omega
/-- hurting changes HURT alone -/
theorem sp_ha_o (M : Nat → Int32) (s : Nat) (f : Int32) (i : Nat) : ∀ n, (∀ k, k < n → i ≠ 3 + 5 * k + 3) → sp_ha M s f n i = M i
  | 0, _ => rfl
  | n + 1, h => by
    rw [sp_ha, pk_un (h n (Nat.lt_succ_self n))]
    exact sp_ha_o M s f i n (fun k hk => h k (Nat.lt_succ_of_lt hk))
/-- what one loses reads but KIND, PRIDE and the speech -/
theorem sp_loses_c {M N : Nat → Int32} {d s : Nat} {f : Int32} (h1 : N (3 + 5 * d) = M (3 + 5 * d)) (h2 : N (3 + 5 * d + 1) = M (3 + 5 * d + 1)) (h3 : N (43 + 4 * s) = M (43 + 4 * s)) (h4 : N (43 + 4 * s + 1) = M (43 + 4 * s + 1)) (h5 : N (43 + 4 * s + 2) = M (43 + 4 * s + 2)) : sp_loses N d s f = sp_loses M d s f := by
  unfold sp_loses sp_lord sp_peer sp_plain
  rw [h1, h2, h3, h4, h5]
theorem sp_ha_l (M : Nat → Int32) {s d : Nat} (f g : Int32) (hs : s < 8) (hd : d < 8) {n : Nat} (hn : n ≤ 8) : sp_loses (sp_ha M s f n) d s g = sp_loses M d s g := by
  apply sp_loses_c <;> (apply sp_ha_o; intro k hk; omega)
/-- hurting, cell by cell -/
theorem sp_ha_at (M : Nat → Int32) {s : Nat} (f : Int32) (hs : s < 8) : ∀ (n : Nat), n ≤ 8 → ∀ d, d < n → sp_ha M s f n (3 + 5 * d + 3) = sp_held (M (3 + 5 * d + 3) + sp_loses M d s f) (nI 0) (nI 99999)
  | 0, _, d, hd => absurd hd (Nat.not_lt_zero d)
  | n + 1, hn, d, hd => by
    rw [sp_ha]
    by_cases e : d = n
    · subst e
      rw [pk_us, sp_ha_l M f f hs (by omega) (by omega), sp_ha_o M s f _ d (fun k hk => by omega)]
    · rw [pk_un (by omega)]
      exact sp_ha_at M f hs n (by omega) d (by omega)
theorem hz_I_ha {b : Nat} {M : Nat → Int32} (h : hz_I b M) {s : Nat} (hs : s < 8) (f : Int32) {n : Nat} (hn : n ≤ 8) : hz_I b (sp_ha M s f n) := by
  have o : ∀ i, (∀ k, k < n → i ≠ 3 + 5 * k + 3) → sp_ha M s f n i = M i := fun i hi => sp_ha_o M s f i n hi
  have e0 : sp_ha M s f n 0 = M 0 := o 0 (fun k hk => by omega)
  have e1 : sp_ha M s f n 1 = M 1 := o 1 (fun k hk => by omega)
  have e2 : sp_ha M s f n 2 = M 2 := o 2 (fun k hk => by omega)
  refine ⟨by unfold nT nD nS; rw [e0, e1, e2]; exact h.1, fun d hd => ⟨?_, ?_, ?_⟩, fun z hz => ⟨?_, ?_⟩⟩
  · rw [o _ (fun k hk => by omega)]; exact (h.2.1 d hd).1
  · by_cases q : d < n
    · rw [sp_ha_at M f hs n hn d q]; exact hz_held_r _ (by decide)
    · rw [o _ (fun k hk => by omega)]; exact (h.2.1 d hd).2.1
  · rw [o _ (fun k hk => by omega)]; exact (h.2.1 d hd).2.2
  · rw [o _ (fun k hk => by omega)]; exact (h.2.2 z hz).1
  · rw [o _ (fun k hk => by omega)]; exact (h.2.2 z hz).2
/-- a number put into the row keeps what stays true, if it is in the range of its place -/
theorem hz_I_upd {b : Nat} {M : Nat → Int32} (h : hz_I b M) {i : Nat} {x : Int32} (hi : 3 ≤ i) (h1 : ∀ d, d < 8 → i = 3 + 5 * d + 1 → hz_r x 0 20) (h3 : ∀ d, d < 8 → i = 3 + 5 * d + 3 → hz_r x 0 99999) (h4 : ∀ d, d < 8 → i = 3 + 5 * d + 4 → hz_r x 0 999) (h5 : ∀ s, s < 8 → i = 43 + 4 * s + 2 → (-1 : Int) ≤ x.toInt) (h6 : ∀ s, s < 8 → i = 43 + 4 * s + 3 → hz_r x 0 99) : hz_I b (upd M i x) := by
  have e0 : upd M i x 0 = M 0 := pk_un (by omega)
  have e1 : upd M i x 1 = M 1 := pk_un (by omega)
  have e2 : upd M i x 2 = M 2 := pk_un (by omega)
  refine ⟨by unfold nT nD nS; rw [e0, e1, e2]; exact h.1, fun d hd => ⟨?_, ?_, ?_⟩, fun z hz => ⟨?_, ?_⟩⟩
  · by_cases q : i = 3 + 5 * d + 1
    · rw [← q, pk_us]; exact h1 d hd q
    · rw [pk_un (fun e => q e.symm)]; exact (h.2.1 d hd).1
  · by_cases q : i = 3 + 5 * d + 3
    · rw [← q, pk_us]; exact h3 d hd q
    · rw [pk_un (fun e => q e.symm)]; exact (h.2.1 d hd).2.1
  · by_cases q : i = 3 + 5 * d + 4
    · rw [← q, pk_us]; exact h4 d hd q
    · rw [pk_un (fun e => q e.symm)]; exact (h.2.1 d hd).2.2
  · by_cases q : i = 43 + 4 * z + 2
    · rw [← q, pk_us]; exact h5 z hz q
    · rw [pk_un (fun e => q e.symm)]; exact (h.2.2 z hz).1
  · by_cases q : i = 43 + 4 * z + 3
    · rw [← q, pk_us]; exact h6 z hz q
    · rw [pk_un (fun e => q e.symm)]; exact (h.2.2 z hz).2
theorem hz_I_w3 {b : Nat} {M : Nat → Int32} (h : hz_I b M) {s j : Nat} (hs : s < 8) (hj : j < 8) : hz_I b (sp_w3 M s j) := by
  have h1 : hz_I b (sp_w1 M j) := hz_I_upd h (by omega) (fun d hd e => by omega) (fun d hd e => by omega) (fun d hd e => hz_held_r _ (by decide)) (fun z hz e => by omega) (fun z hz e => by omega)
  have h2 : hz_I b (sp_w2 M j) := hz_I_upd h1 (by omega) (fun d hd e => by omega) (fun d hd e => hz_half_r (by decide) (h1.2.1 j hj).2.1) (fun d hd e => by omega) (fun z hz e => by omega) (fun z hz e => by omega)
  exact hz_I_upd h2 (by omega) (fun d hd e => by omega) (fun d hd e => by omega) (fun d hd e => by omega) (fun z hz e => by omega) (fun z hz e => hz_half_r (by decide) (h2.2.2 s hs).2)
theorem hz_I_hM {b : Nat} {M : Nat → Int32} (h : hz_I b M) {s : Nat} (hs : s < 8) : hz_I b (sp_hM M s) := by
  unfold sp_hM
  split
  · exact h
  · rename_i j hj
    have hj8 : j < 8 := Nat.lt_of_lt_of_le (sp_it_lt M s _ j hj) h.1.2.2.2.1
    split
    · exact hz_I_ha h hs _ h.1.2.2.2.1
    · exact hz_I_w3 (hz_I_ha h hs _ h.1.2.2.2.1) hs hj8
theorem hz_I_g0 {b : Nat} {M : Nat → Int32} (h : hz_I b M) : hz_I b (sp_g0 M) := by
  unfold sp_g0
  split
  · exact h
  · rename_i q
    exact hz_I_hM h (Nat.lt_of_lt_of_le (Nat.mod_lt _ (Nat.pos_of_ne_zero q)) h.1.2.2.2.2.2)
theorem hz_I_gM {b : Nat} {M : Nat → Int32} (h : hz_I b M) (hb : b < 2 ^ 30) : hz_I (b + 1) (sp_gM M) := by
  have g := hz_I_g0 h
  unfold sp_gM
  generalize sp_g0 M = N at g ⊢
  have e0 : upd N 0 (N 0 + nI 1) 0 = nI (nT N + 1) := by rw [pk_us, g.1.1, nI_add]
  have e1 : upd N 0 (N 0 + nI 1) 1 = N 1 := pk_un (by omega)
  have e2 : upd N 0 (N 0 + nI 1) 2 = N 2 := pk_un (by omega)
  have et : nT (upd N 0 (N 0 + nI 1)) = nT N + 1 := by
    show (upd N 0 (N 0 + nI 1) 0).toNatClampNeg = _
    rw [e0, nI_clamp (by have := g.1.2.1; omega)]
  refine ⟨⟨by rw [et]; exact e0, by rw [et]; have := g.1.2.1; omega, ?_⟩, fun d hd => ⟨?_, ?_, ?_⟩, fun z hz => ⟨?_, ?_⟩⟩
  · unfold nD nS; rw [e1, e2]; exact g.1.2.2
  · rw [pk_un (by omega)]; exact (g.2.1 d hd).1
  · rw [pk_un (by omega)]; exact (g.2.1 d hd).2.1
  · rw [pk_un (by omega)]; exact (g.2.1 d hd).2.2
  · rw [pk_un (by omega)]; exact (g.2.2 z hz).1
  · rw [pk_un (by omega)]; exact (g.2.2 z hz).2
theorem hz_I_gN {b : Nat} {M : Nat → Int32} (h : hz_I b M) : ∀ n, b + n ≤ 2 ^ 30 → hz_I (b + n) (sp_gN n M)
  | 0, _ => h
  | n + 1, hn => by
    have := hz_I_gM (hz_I_gN h n (by omega)) (by omega)
    exact this
theorem nD_ha (M : Nat → Int32) (s : Nat) (f : Int32) (n : Nat) : nD (sp_ha M s f n) = nD M := by unfold nD; rw [sp_ha_o M s f 1 n (fun k hk => by omega)]
theorem nD_w3 (N : Nat → Int32) (s j : Nat) : nD (sp_w3 N s j) = nD N := by
  unfold nD sp_w3 sp_w2 sp_w1
  rw [pk_un (by omega), pk_un (by omega), pk_un (by omega)]
theorem nD_hM {M : Nat → Int32} {s : Nat} : nD (sp_hM M s) = nD M := by
  unfold sp_hM
  split
  · rfl
  · split
    · exact nD_ha _ _ _ _
    · exact (nD_w3 _ _ _).trans (nD_ha _ _ _ _)
theorem nS_ha (M : Nat → Int32) (s : Nat) (f : Int32) (n : Nat) : nS (sp_ha M s f n) = nS M := by unfold nS; rw [sp_ha_o M s f 2 n (fun k hk => by omega)]
theorem nS_w3 (N : Nat → Int32) (s j : Nat) : nS (sp_w3 N s j) = nS N := by
  unfold nS sp_w3 sp_w2 sp_w1
  rw [pk_un (by omega), pk_un (by omega), pk_un (by omega)]
theorem nS_hM {M : Nat → Int32} {s : Nat} : nS (sp_hM M s) = nS M := by
  unfold sp_hM
  split
  · rfl
  · split
    · exact nS_ha _ _ _ _
    · exact (nS_w3 _ _ _).trans (nS_ha _ _ _ _)
theorem nD_gM (M : Nat → Int32) : nD (sp_gM M) = nD M := by
  unfold sp_gM sp_g0
  show (upd _ 0 _ 1).toNatClampNeg = _
  rw [pk_un (by omega)]
  split
  · rfl
  · exact nD_hM
theorem nS_gM (M : Nat → Int32) : nS (sp_gM M) = nS M := by
  unfold sp_gM sp_g0
  show (upd _ 0 _ 2).toNatClampNeg = _
  rw [pk_un (by omega)]
  split
  · rfl
  · exact nS_hM
theorem nD_gN (M : Nat → Int32) : ∀ n, nD (sp_gN n M) = nD M
  | 0 => rfl
  | n + 1 => by rw [sp_gN, nD_gM]; exact nD_gN M n
theorem nS_gN (M : Nat → Int32) : ∀ n, nS (sp_gN n M) = nS M
  | 0 => rfl
  | n + 1 => by rw [sp_gN, nS_gM]; exact nS_gN M n
