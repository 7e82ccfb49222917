/-! what stays true, act by act (SESSION of the live and of the kept congress is at most 99999) -/
theorem hz_I_add {b : Nat} {M : Nat → Int32} (h : hz_I b M) (hlt : nD M < 8) {k q t : Int32} (hq : hz_r q 0 20) : hz_I b (sp_add M k q t) := by
  have e0 : sp_add M k q t 0 = M 0 := (ad_o (by omega) (by omega)).symm
  have e1 : sp_add M k q t 1 = nI (nD M + 1) := ad_n.symm
  have e2 : sp_add M k q t 2 = M 2 := (ad_o (by omega) (by omega)).symm
  have n1 : nD (sp_add M k q t) = nD M + 1 := by
    show (sp_add M k q t 1).toNatClampNeg = _
    rw [e1, nI_clamp (by omega)]
  have n0 : nT (sp_add M k q t) = nT M := by
    show (sp_add M k q t 0).toNatClampNeg = _
    rw [e0]
  have n2 : nS (sp_add M k q t) = nS M := by
    show (sp_add M k q t 2).toNatClampNeg = _
    rw [e2]
  have z : ∀ {a : Nat}, a < 2 ^ 31 → hz_r (nI 0) 0 a := fun ha => hz_tor (Nat.zero_le _) ha
  refine ⟨⟨by rw [n0, e0]; exact h.1.1, by rw [n0]; exact h.1.2.1, by rw [n1]; exact e1, by rw [n1]; omega, by rw [n2, e2]; exact h.1.2.2.2.2.1, by rw [n2]; exact h.1.2.2.2.2.2⟩, fun d hd => ?_, fun s hs => ?_⟩
  · by_cases e : d = nD M
    · refine ⟨?_, ?_, ?_⟩
      · rw [← ad_1, e, pk_us]; exact hq
      · rw [← ad_3, e, pk_us]; exact z (a := 99999) (by decide)
      · rw [← ad_4, e, pk_us]; exact z (a := 999) (by decide)
    · refine ⟨?_, ?_, ?_⟩
      · rw [← ad_1, pk_un e]; exact (h.2.1 d hd).1
      · rw [← ad_3, pk_un e]; exact (h.2.1 d hd).2.1
      · rw [← ad_4, pk_un e]; exact (h.2.1 d hd).2.2
  · refine ⟨?_, ?_⟩
    · rw [← ad_o (by omega) (by omega)]; exact (h.2.2 s hs).1
    · rw [← ad_o (by omega) (by omega)]; exact (h.2.2 s hs).2
theorem hz_I_addS {b : Nat} {M : Nat → Int32} (h : hz_I b M) (hlt : nS M < 8) {y t a f : Int32} (ha : (-1 : Int) ≤ a.toInt) (hf : hz_r f 0 99) : hz_I b (sp_addS M y t a f) := by
  have e0 : sp_addS M y t a f 0 = M 0 := (as_o (by omega) (by omega)).symm
  have e1 : sp_addS M y t a f 1 = M 1 := (as_o (by omega) (by omega)).symm
  have e2 : sp_addS M y t a f 2 = nI (nS M + 1) := as_n.symm
  have n0 : nT (sp_addS M y t a f) = nT M := by
    show (sp_addS M y t a f 0).toNatClampNeg = _
    rw [e0]
  have n1 : nD (sp_addS M y t a f) = nD M := by
    show (sp_addS M y t a f 1).toNatClampNeg = _
    rw [e1]
  have n2 : nS (sp_addS M y t a f) = nS M + 1 := by
    show (sp_addS M y t a f 2).toNatClampNeg = _
    rw [e2, nI_clamp (by omega)]
  have h8 := h.1.2.2.2.1
  refine ⟨⟨by rw [n0, e0]; exact h.1.1, by rw [n0]; exact h.1.2.1, by rw [n1, e1]; exact h.1.2.2.1, by rw [n1]; exact h8, by rw [n2]; exact e2, by rw [n2]; omega⟩, fun d hd => ?_, fun s hs => ?_⟩
  · refine ⟨?_, ?_, ?_⟩
    · rw [← as_o (by omega) (by omega)]; exact (h.2.1 d hd).1
    · rw [← as_o (by omega) (by omega)]; exact (h.2.1 d hd).2.1
    · rw [← as_o (by omega) (by omega)]; exact (h.2.1 d hd).2.2
  · by_cases e : s = nS M
    · refine ⟨?_, ?_⟩
      · rw [← as_2, e, pk_us]; exact ha
      · rw [← as_3, e, pk_us]; exact hf
    · refine ⟨?_, ?_⟩
      · rw [← as_2, pk_un e]; exact (h.2.2 s hs).1
      · rw [← as_3, pk_un e]; exact (h.2.2 s hs).2
theorem keep_delegate {b : Nat} {M : Nat → Int32} (h : hz_I b M) (x : Int32) : hz_I b (sp_fM (fd_delegate M x) M (sp_add M x (nI 5) (nI 1))) := by
  unfold fd_delegate
  split
  · split
    · exact h
    · rename_i q
      have := h.1.2.2.2.1
      exact hz_I_add h (by omega) (hz_tor (j := 5) (b := 20) (by omega) (by decide))
  · exact h
theorem hz_of_in {x : Int32} {n : Nat} (h : hz_in x n) (hn : 0 < n) {b : Nat} (hb : n - 1 ≤ b) : hz_r x 0 b := by
  unfold hz_in at h
  unfold hz_r
  omega
theorem keep_speech {b : Nat} {M : Nat → Int32} (h : hz_I b M) (y t a f : Int32) : hz_I b (sp_fM (fd_speech M y t a f) M (sp_addS M y t a f)) := by
  unfold fd_speech
  split
  · rename_i q
    split
    · exact h
    · rename_i q2
      have := h.1.2.2.2.2.2
      refine hz_I_addS h (by omega) ?_ (hz_of_in (n := 100) q.2.2.2 (by omega) (b := 99) (by omega))
      rcases q.2.2.1 with e | e
      · rw [e]; decide
      · unfold hz_in at e; omega
  · exact h
theorem keep_turn {b : Nat} {M : Nat → Int32} (h : hz_I b M) (d k : Int32) : hz_I b (sp_fM (fd_turn M d k) M (upd M (3 + 5 * cl d) k)) := by
  unfold fd_turn
  split
  · rename_i q
    split
    · obtain ⟨j, hj, e⟩ := hz_in_of q (by have := h.1.2.2.2.1; omega)
      have := h.1.2.2.2.1
      have hc : cl d = j := by rw [e, cl, nI_clamp (by omega)]
      show hz_I b (upd M (3 + 5 * cl d) k)
      rw [hc]
      exact hz_I_fr h (Or.inr (Or.inl ⟨j, by omega, rfl⟩))
    · exact h
  · exact h
theorem mo_r {w v : Int32} (hv : nI 0 ≤ v ∧ v ≤ sp_mo w) : ∃ i : Nat, w = nI i ∧ ((i = 1 ∧ hz_r v 0 20) ∨ (i = 2) ∨ (i = 3 ∧ hz_r v 0 99999) ∨ (i = 4 ∧ hz_r v 0 999)) := by
  obtain ⟨i, h1, h2, e⟩ := hz_rg (a := 1) (b := 4) (by decide) (by decide) (hz_mo4.mpr (fun h => hz_mo_m1 h hv))
  subst e
  refine ⟨i, rfl, ?_⟩
  rcases (show i = 1 ∨ i = 2 ∨ i = 3 ∨ i = 4 by omega) with rfl | rfl | rfl | rfl
  · left; refine ⟨rfl, ?_⟩
    have h3 := hv.2; rw [mo_1 rfl, fa_le, hz_lit (by decide)] at h3
    have h4 := hv.1; rw [fa_le, hz_lit (by decide)] at h4
    unfold hz_r; omega
  · right; left; rfl
  · right; right; left; refine ⟨rfl, ?_⟩
    have h3 := hv.2; rw [mo_3 rfl, fa_le, hz_lit (by decide)] at h3
    have h4 := hv.1; rw [fa_le, hz_lit (by decide)] at h4
    unfold hz_r; omega
  · right; right; right; refine ⟨rfl, ?_⟩
    have h3 := hv.2; rw [mo_4 rfl, fa_le, hz_lit (by decide)] at h3
    have h4 := hv.1; rw [fa_le, hz_lit (by decide)] at h4
    unfold hz_r; omega
theorem keep_set {b : Nat} {M : Nat → Int32} (h : hz_I b M) (d w v : Int32) : hz_I b (sp_fM (fd_set M d w v) M (upd M (3 + 5 * cl d + cl w) v)) := by
  unfold fd_set
  split
  · rename_i q
    split
    · rename_i hv
      have h8 := h.1.2.2.2.1
      obtain ⟨j, hj, e⟩ := hz_in_of q (by omega)
      obtain ⟨i, ew, hi⟩ := mo_r hv
      have hc : cl d = j := by rw [e, cl, nI_clamp (by omega)]
      have hi4 : 1 ≤ i ∧ i ≤ 4 := by rcases hi with x | x | x | x <;> omega
      have hw : cl w = i := by rw [ew, cl, nI_clamp (by omega)]
      show hz_I b (upd M (3 + 5 * cl d + cl w) v)
      rw [hc, hw]
      refine hz_I_upd h (by omega) ?_ ?_ ?_ (fun s hs q2 => by omega) (fun s hs q2 => by omega)
      · intro d2 hd2 q2
        rcases hi with x | x | x | x
        · exact x.2
        · omega
        · omega
        · omega
      · intro d2 hd2 q2
        rcases hi with x | x | x | x
        · omega
        · omega
        · exact x.2
        · omega
      · intro d2 hd2 q2
        rcases hi with x | x | x | x
        · omega
        · omega
        · omega
        · exact x.2
    · exact h
  · exact h
theorem keep_tell {b : Nat} {M : Nat → Int32} (h : hz_I b M) (s w v : Int32) : hz_I b (sp_fM (fd_tell M s w v) M (upd M (43 + 4 * cl s + cl w) v)) := by
  unfold fd_tell
  split
  · rename_i q
    split
    · rename_i hv
      have h8 := h.1.2.2.2.2.2
      obtain ⟨j, hj, e⟩ := hz_in_of q (by omega)
      have hc : cl s = j := by rw [e, cl, nI_clamp (by omega)]
      show hz_I b (upd M (43 + 4 * cl s + cl w) v)
      rw [hc]
      rcases hv with ⟨ew, hv⟩ | ⟨ew, hv⟩ | ⟨ew, hv⟩ | ⟨ew, hv⟩
      · rw [ew, show cl (nI 0) = 0 by decide]
        exact hz_I_upd h (by omega) (fun _ _ _ => by omega) (fun _ _ _ => by omega) (fun _ _ _ => by omega) (fun _ _ _ => by omega) (fun _ _ _ => by omega)
      · rw [ew, show cl (nI 1) = 1 by decide]
        exact hz_I_upd h (by omega) (fun _ _ _ => by omega) (fun _ _ _ => by omega) (fun _ _ _ => by omega) (fun _ _ _ => by omega) (fun _ _ _ => by omega)
      · rw [ew, show cl (nI 2) = 2 by decide]
        refine hz_I_upd h (by omega) (fun _ _ _ => by omega) (fun _ _ _ => by omega) (fun _ _ _ => by omega) (fun _ _ _ => ?_) (fun _ _ _ => by omega)
        rcases hv with e2 | e2
        · rw [e2]; decide
        · unfold hz_in at e2; omega
      · rw [ew, show cl (nI 3) = 3 by decide]
        exact hz_I_upd h (by omega) (fun _ _ _ => by omega) (fun _ _ _ => by omega) (fun _ _ _ => by omega) (fun _ _ _ => by omega) (fun _ _ _ => hz_of_in (n := 100) hv (by omega) (b := 99) (by omega))
    · exact h
  · exact h
theorem nT_hM {M : Nat → Int32} {s : Nat} : nT (sp_hM M s) = nT M := by
  unfold sp_hM
  split
  · rfl
  · split
    · show (sp_ha M s _ _ 0).toNatClampNeg = _
      rw [sp_ha_o M s _ 0 _ (fun k hk => by omega)]
    · show (sp_w3 _ s _ 0).toNatClampNeg = _
      rw [← w3_o (by omega) (by omega) (by omega), sp_ha_o M s _ 0 _ (fun k hk => by omega)]
theorem nT_g0 {M : Nat → Int32} : nT (sp_g0 M) = nT M := by
  unfold sp_g0
  split
  · rfl
  · exact nT_hM
theorem nT_gM {b : Nat} {M : Nat → Int32} (h : hz_I b M) (hb : b < 2 ^ 30) : nT (sp_gM M) = nT M + 1 := by
  have g := hz_I_g0 h
  show (upd (sp_g0 M) 0 (sp_g0 M 0 + nI 1) 0).toNatClampNeg = _
  rw [pk_us, g.1.1, nI_add, nT_g0, nI_clamp (by have := h.1.2.1; omega)]
theorem nT_gN {b : Nat} {M : Nat → Int32} (h : hz_I b M) : ∀ n, b + n ≤ 2 ^ 30 → nT (sp_gN n M) = nT M + n
  | 0, _ => rfl
  | n + 1, hn => by
    rw [sp_gN, nT_gM (hz_I_gN h n (by omega)) (by omega), nT_gN h n (by omega)]
    omega
theorem keep_sessions {M : Nat → Int32} (h : hz_I 99999 M) (n : Int32) : hz_I 99999 (sp_fM (fd_sessions M n) M (sp_gN (cl n) M)) := by
  unfold fd_sessions
  split
  · rename_i q
    split
    · rename_i q2
      obtain ⟨i, h1, h2, e⟩ := hz_rg (by decide) (by decide) q
      have hc : cl n = i := by rw [e, cl, nI_clamp (by omega)]
      show hz_I 99999 (sp_gN (cl n) M)
      rw [hc]
      have g := hz_I_gN h i (by omega)
      have t := nT_gN h i (by omega)
      have := h.1.2.1
      rw [h.1.1, e, nI_add, nI_leI (by omega) (by decide)] at q2
      exact ⟨⟨g.1.1, by rw [t]; omega, g.1.2.2⟩, g.2⟩
    · exact h
  · exact h
theorem keep_lays {b : Nat} {M B S : Nat → Int32} {C : Nat → Int64} (h : hz_I b M) (y : Int32) : hz_I b (sp_fM (fd_sh B y) M (sp_lyM M C (cl y) (sp_min (cl (S (cl y))) (nS M)))) := by
  have h8 := h.1.2.2.2.2.2
  have k : hz_I b (sp_lyM M C (cl y) (sp_min (cl (S (cl y))) (nS M))) := hz_I_ly h C (cl y) _ (by unfold sp_min; split <;> omega)
  unfold fd_sh
  split
  · split
    · exact h
    · exact k
  · exact h
theorem keep_undo {b : Nat} {M K : Nat → Int32} (h : hz_I b M) (hK : hz_I b K) (kf : Int32) : hz_I b (sp_fM (fd_undo kf) M K) := by
  unfold fd_undo
  split
  · exact h
  · exact hK
theorem keep_sheet {S : Nat → Int32} (h : hz_Z S) (y b n : Int32) : hz_Z (sp_fM (fd_sheet y b n) S (upd S (cl y) (if b = 0 then nI 0 else n))) := by
  unfold fd_sheet
  split
  · split
    · split
      · exact h
      · rename_i q1
        split
        · rename_i q2
          show hz_Z (upd S (cl y) (if b = 0 then nI 0 else n))
          intro s hs
          obtain ⟨i, -, hi, e⟩ := hz_rg (a := 0) (b := 40) (by decide) (by decide) ⟨Int32.not_lt.mp q1, q2⟩
          by_cases g : s = cl y
          · rw [g, pk_us]
            split
            · exact ⟨by decide, by decide⟩
            · rw [e, cl, nI_clamp (by omega)]; exact ⟨rfl, hi⟩
          · rw [pk_un g]; exact h s hs
        · exact h
    · exact h
  · exact h
theorem keep_0 : hz_I 99999 (fun _ => 0) := by
  refine ⟨by decide, fun d hd => ⟨?_, ?_, ?_⟩, fun s hs => ⟨?_, ?_⟩⟩
  · show (((0 : Nat) : Int)) ≤ (0 : Int32).toInt ∧ (0 : Int32).toInt ≤ ((20 : Nat) : Int); decide
  · show (((0 : Nat) : Int)) ≤ (0 : Int32).toInt ∧ (0 : Int32).toInt ≤ ((99999 : Nat) : Int); decide
  · show (((0 : Nat) : Int)) ≤ (0 : Int32).toInt ∧ (0 : Int32).toInt ≤ ((999 : Nat) : Int); decide
  · show (-1 : Int) ≤ (0 : Int32).toInt; decide
  · show (((0 : Nat) : Int)) ≤ (0 : Int32).toInt ∧ (0 : Int32).toInt ≤ ((99 : Nat) : Int); decide
theorem keep_Z0 : hz_Z (fun _ => 0) := fun s hs => by
  show (0 : Int32) = nI (cl 0) ∧ cl 0 ≤ 40
  decide
