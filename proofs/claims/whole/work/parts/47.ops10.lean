/-! read and copy: facts -/
theorem rM_o {M : Nat → Int32} {d z k i : Nat} (h1 : i ≠ 3 + 5 * d) (h2 : i ≠ 43 + 4 * z + 3) : M i = sp_rM M d z k i := ((pk_un h2).trans (pk_un h1)).symm
theorem rM_k {M : Nat → Int32} {d z p f x : Nat} (hx : x < 8) (hf : f < 100) : upd (fun x_ => M (3 + 5 * x_)) d (nI p) x = sp_rM M d z (100 * p + f) (3 + 5 * x) := by
  unfold sp_rM
  rw [show (100 * p + f) / 100 = p by omega]
  exact hz_u50.trans (pk_un (by omega)).symm
theorem rM_f {M : Nat → Int32} {d z p f x : Nat} (hd : d < 8) (hf : f < 100) : upd (fun x_ => M (43 + 4 * x_ + 3)) z (nI f) x = sp_rM M d z (100 * p + f) (43 + 4 * x + 3) := by
  unfold sp_rM
  rw [show (100 * p + f) % 100 = f by omega]
  by_cases e : x = z
  · subst e; rw [pk_us, pk_us]
  · rw [pk_un e, pk_un (by omega), pk_un (by omega)]
theorem rn_t {M : Nat → Int32} {C : Nat → Int64} {j d z m k : Nat} (c : sp_bq (sp_rM M d z k) C j d m = true) : sp_rn M C j d z m (k + 1) = sp_rn M C j d z m k + 1 := by rw [sp_rn, if_pos c]
theorem rn_f {M : Nat → Int32} {C : Nat → Int64} {j d z m k : Nat} (c : ¬ sp_bq (sp_rM M d z k) C j d m = true) : sp_rn M C j d z m (k + 1) = sp_rn M C j d z m k := by rw [sp_rn, if_neg c]; rfl
