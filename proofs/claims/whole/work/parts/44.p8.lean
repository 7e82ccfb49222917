set_option maxHeartbeats 4000000 in
set_option maxRecDepth 100000 in
theorem c4_lays (l : Launch) (D : va_G) (cI cJ : ClassId) (h0 am af ab as_ ac : Nat) (fs : List Value) (M F B S : Nat → Int32) (C : Nat → Int64) (b : Nat) (y : Int32) (hf : fs[0]? = some (.ref am)) (hf4 : fs[4]? = some (.ref af)) (hf13 : fs[13]? = some (.ref ab)) (hf14 : fs[14]? = some (.ref as_)) (hf15 : fs[15]? = some (.ref ac)) (hI : hz_I b M) (hZ : hz_Z S) : hz_ME l yX4_lays wsX4_lays { frames := 3, cells := 0, slots := 0, locals := 64 } [.ref h0, .int (y)] D zcl [(cI, .int), (cJ, .long)] [(h0, .inr (4, fs)), (am, .inl (cI, 75, .inl M)), (af, .inl (cI, 7, .inl F)), (ab, .inl (cI, 4, .inl B)), (as_, .inl (cI, 4, .inl S)), (ac, .inl (cJ, 160, .inr (.inl C)))] [(h0, .inr (4, fs)), (am, .inl (cI, 75, .inl (sp_fM (fd_sh B y) M (sp_lyM M C (cl y) (sp_min (cl (S (cl y))) (nS M)))))), (af, .inl (cI, 7, .inl (sp_ff F (fd_sh B y)))), (ab, .inl (cI, 4, .inl B)), (as_, .inl (cI, 4, .inl S)), (ac, .inl (cJ, 160, .inr (.inl C)))] (some (.int (sp_fr (fd_sh B y) (nI (sp_lyN C (cl y) (sp_min (cl (S (cl y))) (nS M))))))) := by
  refine hz_me (cc := cX4_lays) (maxL := 5) (ret := (some .int)) (by decide) rfl (Nat.le_of_ble_eq_true rfl) ?_
  intro p e s m below meth c hx hb hr hts hown hlocks hml hP hK hD ls hl
  have hS : va_S (hz_a [(h0, .inr (4, fs)), (am, .inl (cI, 75, .inl M)), (af, .inl (cI, 7, .inl F)), (ab, .inl (cI, 4, .inl B)), (as_, .inl (cI, 4, .inl S)), (ac, .inl (cJ, 160, .inr (.inl C)))]) s.heap s.heap [] := va_S.rf
  have hown : s.vm.findClass RX4 = some m.cls := hown
  have hl : lv_has ls 5 [(0, .ref h0), (1, .int (y))] := hl
  have hinX4 : ∀ w ∈ u_ws RX4 TX4 16, w ∈ wsX4_lays := fun w h => List.mem_cons_of_mem _ (List.mem_append_right _ (h))
  have wd1 := hts (.fieldLink RX4 28 "HurtSpeechModel" "sizeOf" "[I") (List.mem_of_getElem? (i := 1) rfl)
  have wd2 := hts (.fieldLink RX4 9 "HurtSpeechModel" "m" "[I") (List.mem_of_getElem? (i := 2) rfl)
  have wd3 := hts (.fieldLink RX4 31 "HurtSpeechModel" "cells" "[J") (List.mem_of_getElem? (i := 3) rfl)
  obtain ⟨⟨hM0, hTb, hM1, hD8, hM2, hS8⟩, hID, hIS⟩ := id hI
  refine lv_aload_n hx hb dX4_lays_0 rfl (lv_at hl 0 rfl) ?_
  refine lv_iload_n hx hb dX4_lays_1 rfl (lv_at hl 1 rfl) ?_
  refine hz_cv (As := [.int (y)]) (rest := []) ⟨hx, hb, hml, hown, hts⟩ (c4_notThere l D cI cJ (h0 := h0) (ab := ab) (fs := fs) (B := B) (x := y) (hf13 := by first | assumption | rfl)) (cwV 1 hts gX4_lays_X4_notThere rfl rfl rfl (by decide +kernel) ⟨Nat.le_of_ble_eq_true rfl, Nat.le_of_ble_eq_true rfl⟩) hK hP [0, 3] rfl [0, 1] rfl 0 rfl rfl rfl rfl hl.1 rfl (Nat.le_of_ble_eq_true rfl) dX4_lays_2 ⟨Nat.zero_le _, Nat.zero_le _⟩ ?_
  rcases nt_cases B y with ⟨hno, ent⟩ | ⟨j, hj, ey, hb0, ent⟩ | ⟨j, hj, ey, hb0, ent⟩
  · refine hz_ct (y := -1000000001) ent ?_
    refine lv_istore_n (lv' := [(2, .int (-1000000001)), (0, .ref h0), (1, .int (y))]) hx hb dX4_lays_5 rfl hl (by decide) rfl (fun ls hl => ?_)
    refine lv_iload_n hx hb dX4_lays_6 rfl (lv_at hl 0 rfl) ?_
    refine lv_if_eq (tgt := 16) hx hb dX4_lays_7 (by decide) (fun h => absurd h (by first | decide | omega | exact hz_nneg (by omega) | exact hz_nneg' (by omega))) (fun _ => ?_)
    refine lv_aload_n hx hb dX4_lays_10 rfl (lv_at hl 1 rfl) ?_
    refine lv_iload_n hx hb dX4_lays_11 rfl (lv_at hl 0 rfl) ?_
    refine hz_ce (As := [.int (-1000000001)]) (rest := []) ⟨hx, hb, hml, hown, hts⟩ (c4_finds l D cI cJ (h0 := h0) (af := af) (fs := fs) (F := F) (f := -1000000001) (k := 0) (hf := by first | assumption | rfl) (hk := by omega) (hfk := by decide)) (cwV 1 hts gX4_lays_X4_finds rfl rfl rfl (by decide +kernel) ⟨Nat.le_of_ble_eq_true rfl, Nat.le_of_ble_eq_true rfl⟩) hK hP hD hS [0, 2] rfl (by decide) (hz_ha [h0, af] rfl rfl) (w' := [(h0, .inr (4, fs)), (am, .inl (cI, 75, .inl M)), (af, .inl (cI, 7, .inl (sp_fd F 0))), (ab, .inl (cI, 4, .inl B)), (as_, .inl (cI, 4, .inl S)), (ac, .inl (cJ, 160, .inr (.inl C)))]) (hz_pt_eq 6 [1, 3, 4, 5] [(am, .inl (cI, 75, .inl M)), (ab, .inl (cI, 4, .inl B)), (as_, .inl (cI, 4, .inl S)), (ac, .inl (cJ, 160, .inr (.inl C)))] rfl rfl rfl rfl rfl rfl rfl) [0, 1] rfl 0 rfl rfl rfl rfl hl.1 rfl (Nat.le_of_ble_eq_true rfl) dX4_lays_12 ⟨Nat.zero_le _, Nat.zero_le _⟩ (fun H locs hP hD hS => ?_)
    refine W.eq (g2 := F0 m 15 ls [.int ((-1000000001))]) rfl ?_
    refine hz_ei hx hb hr hlocks rfl ?_ hS (by rw [show fd_sh B y = some 0 from if_neg hno]; rfl) dX4_lays_15
    rw [show fd_sh B y = some 0 from if_neg hno]
    exact hP
  · refine hz_ct (y := -1000000006) ent ?_
    have hcj : cl y = j := by rw [ey, cl, nI_clamp (by omega)]
    refine lv_istore_n (lv' := [(2, .int (-1000000006)), (0, .ref h0), (1, .int (y))]) hx hb dX4_lays_5 rfl hl (by decide) rfl (fun ls hl => ?_)
    refine lv_iload_n hx hb dX4_lays_6 rfl (lv_at hl 0 rfl) ?_
    refine lv_if_eq (tgt := 16) hx hb dX4_lays_7 (by decide) (fun h => absurd h (by first | decide | omega | exact hz_nneg (by omega) | exact hz_nneg' (by omega))) (fun _ => ?_)
    refine lv_aload_n hx hb dX4_lays_10 rfl (lv_at hl 1 rfl) ?_
    refine lv_iload_n hx hb dX4_lays_11 rfl (lv_at hl 0 rfl) ?_
    refine hz_ce (As := [.int (-1000000006)]) (rest := []) ⟨hx, hb, hml, hown, hts⟩ (c4_finds l D cI cJ (h0 := h0) (af := af) (fs := fs) (F := F) (f := -1000000006) (k := 5) (hf := by first | assumption | rfl) (hk := by omega) (hfk := by decide)) (cwV 1 hts gX4_lays_X4_finds rfl rfl rfl (by decide +kernel) ⟨Nat.le_of_ble_eq_true rfl, Nat.le_of_ble_eq_true rfl⟩) hK hP hD hS [0, 2] rfl (by decide) (hz_ha [h0, af] rfl rfl) (w' := [(h0, .inr (4, fs)), (am, .inl (cI, 75, .inl M)), (af, .inl (cI, 7, .inl (sp_fd F 5))), (ab, .inl (cI, 4, .inl B)), (as_, .inl (cI, 4, .inl S)), (ac, .inl (cJ, 160, .inr (.inl C)))]) (hz_pt_eq 6 [1, 3, 4, 5] [(am, .inl (cI, 75, .inl M)), (ab, .inl (cI, 4, .inl B)), (as_, .inl (cI, 4, .inl S)), (ac, .inl (cJ, 160, .inr (.inl C)))] rfl rfl rfl rfl rfl rfl rfl) [0, 1] rfl 0 rfl rfl rfl rfl hl.1 rfl (Nat.le_of_ble_eq_true rfl) dX4_lays_12 ⟨Nat.zero_le _, Nat.zero_le _⟩ (fun H locs hP hD hS => ?_)
    refine W.eq (g2 := F0 m 15 ls [.int ((-1000000006))]) rfl ?_
    refine hz_ei hx hb hr hlocks rfl ?_ hS (by rw [show fd_sh B y = some 5 from (if_pos (by rw [ey]; exact (hz_in_nI (by omega)).mpr hj)).trans (if_pos (by rw [hcj]; exact hb0))]; rfl) dX4_lays_15
    rw [show fd_sh B y = some 5 from (if_pos (by rw [ey]; exact (hz_in_nI (by omega)).mpr hj)).trans (if_pos (by rw [hcj]; exact hb0))]
    exact hP
  · refine hz_ct (y := nI 0) ent ?_
    rw [ey] at hl
    have hcj : cl y = j := by rw [ey, cl, nI_clamp (by omega)]
    obtain ⟨hSj, hS40⟩ := hZ j hj
    have hy4 : hz_in y 4 := by rw [ey]; exact (hz_in_nI (by omega)).mpr hj
    refine lv_istore_n (lv' := [(2, .int (nI 0)), (0, .ref h0), (1, .int (nI j))]) hx hb dX4_lays_5 rfl hl (by decide) rfl (fun ls hl => ?_)
    refine lv_iload_n hx hb dX4_lays_6 rfl (lv_at hl 0 rfl) ?_
    refine lv_if_eq (tgt := 16) hx hb dX4_lays_7 (by decide) (fun _ => ?_) (fun h => absurd h (by first | decide | omega | exact hz_nneg (by omega) | exact hz_nneg' (by omega)))
    refine lv_iconst (v := nI 0) hx hb dX4_lays_16 (by decide) ?_
    refine lv_istore_n (lv' := [(3, .int (nI 0)), (2, .int (nI 0)), (0, .ref h0), (1, .int (nI j))]) hx hb dX4_lays_17 rfl hl (by decide) rfl (fun ls hl => ?_)
    refine lv_iconst (v := nI 0) hx hb dX4_lays_18 (by decide) ?_
    refine lv_istore (lv' := [(4, .int (nI 0)), (3, .int (nI 0)), (2, .int (nI 0)), (0, .ref h0), (1, .int (nI j))]) hx hb dX4_lays_19 hl (by decide) rfl (fun ls hl => ?_)
    have loop : ∀ (nn : Nat) (k : Nat) (ls : Array Slot) (H : Heap) (locs : List Loc), nS M - k < nn → (k ≤ cl (S j)) → (k ≤ nS M) → lv_has ls 5 [(4, .int (nI k)), (3, .int (nI (sp_lyN C j k))), (2, .int (nI 0)), (0, .ref h0), (1, .int (nI j))] → va_P D zcl [(h0, .inr (4, fs)), (am, .inl (cI, 75, .inl (sp_lyM M C j k))), (af, .inl (cI, 7, .inl F)), (ab, .inl (cI, 4, .inl B)), (as_, .inl (cI, 4, .inl S)), (ac, .inl (cJ, 160, .inr (.inl C)))] H → va_D (hz_a [(h0, .inr (4, fs)), (am, .inl (cI, 75, .inl M)), (af, .inl (cI, 7, .inl F)), (ab, .inl (cI, 4, .inl B)), (as_, .inl (cI, 4, .inl S)), (ac, .inl (cJ, 160, .inr (.inl C)))]) [(h0, .inr (4, fs)), (am, .inl (cI, 75, .inl (sp_lyM M C j k))), (af, .inl (cI, 7, .inl F)), (ab, .inl (cI, 4, .inl B)), (as_, .inl (cI, 4, .inl S)), (ac, .inl (cJ, 160, .inr (.inl C)))] → va_S (hz_a [(h0, .inr (4, fs)), (am, .inl (cI, 75, .inl M)), (af, .inl (cI, 7, .inl F)), (ab, .inl (cI, 4, .inl B)), (as_, .inl (cI, 4, .inl S)), (ac, .inl (cJ, 160, .inr (.inl C)))]) s.heap H locs → W p l e (headSpec wsX4_lays { frames := 3, cells := 0, slots := 0, locals := 64 }).room s m ([.ref h0, .int (y)] : List Value).toArray below meth c H locs 0 0 (MQ below (hz_E D zcl [(h0, .inr (4, fs)), (am, .inl (cI, 75, .inl (sp_fM (fd_sh B y) M (sp_lyM M C (cl y) (sp_min (cl (S (cl y))) (nS M)))))), (af, .inl (cI, 7, .inl (sp_ff F (fd_sh B y)))), (ab, .inl (cI, 4, .inl B)), (as_, .inl (cI, 4, .inl S)), (ac, .inl (cJ, 160, .inr (.inl C)))] (some (.int (sp_fr (fd_sh B y) (nI (sp_lyN C (cl y) (sp_min (cl (S (cl y))) (nS M))))))) (hz_a [(h0, .inr (4, fs)), (am, .inl (cI, 75, .inl M)), (af, .inl (cI, 7, .inl F)), (ab, .inl (cI, 4, .inl B)), (as_, .inl (cI, 4, .inl S)), (ac, .inl (cJ, 160, .inr (.inl C)))])) ([.ref h0, .int (y)] : List Value).toArray s 0 0 (hz_a [(h0, .inr (4, fs)), (am, .inl (cI, 75, .inl M)), (af, .inl (cI, 7, .inl F)), (ab, .inl (cI, 4, .inl B)), (as_, .inl (cI, 4, .inl S)), (ac, .inl (cJ, 160, .inr (.inl C)))])) (F0 m 21 ls []) := by
      intro nn
      induction nn with
      | zero => intro k ls H locs hnn hk1 hk2 hl hP hD hS; exact absurd hnn (Nat.not_lt_zero _)
      | succ nn ihloop =>
        intro k ls H locs hnn hk1 hk2 hl hP hD hS
        have hkN := lyN_le C j k
        have hL2 : sp_lyM M C j k 2 = nI (nS M) := (ly_o M C j 2 k (fun q hq => by omega)).trans hM2
        refine lv_iload hx hb dX4_lays_21 (lv_at hl 0 rfl) ?_
        refine lv_aload_n hx hb dX4_lays_23 rfl (lv_at hl 3 rfl) ?_
        refine va_get hx hb hts hinX4 hown hK hP 0 rfl rfl 14 (by decide) wd1 (fun _ h => h) hf14 dX4_lays_24 ?_
        refine lv_iload_n hx hb dX4_lays_27 rfl (lv_at hl 4 rfl) ?_
        refine hz_iald (j := j) hx hb hK hP 4 0 rfl rfl (by omega) (Nat.le_of_ble_eq_true rfl) dX4_lays_28 ?_
        refine hz_ct (y := nI (cl (S j))) hSj ?_
        refine hz_icmp_ge (tgt := 100) (by omega) (by omega) hx hb dX4_lays_29 (by decide) (fun c29 => ?_) (fun c29 => ?_)
        · refine lv_iload_n hx hb dX4_lays_100 rfl (lv_at hl 1 rfl) ?_
          refine hz_ei hx hb hr hlocks rfl ?_ hS (by rw [show fd_sh B y = none from (if_pos hy4).trans (if_neg (by rw [hcj]; exact hb0))]; exact fr_n (by rw [hcj, (show sp_min (cl (S j)) (nS M) = k by unfold sp_min; split <;> omega)])) dX4_lays_101
          rw [show fd_sh B y = none from (if_pos hy4).trans (if_neg (by rw [hcj]; exact hb0))]
          rw [hcj, (show sp_min (cl (S j)) (nS M) = k by unfold sp_min; split <;> omega)]
          exact hP
        · refine lv_iload hx hb dX4_lays_32 (lv_at hl 0 rfl) ?_
          refine lv_aload_n hx hb dX4_lays_34 rfl (lv_at hl 3 rfl) ?_
          refine va_get hx hb hts hinX4 hown hK hP 0 rfl rfl 0 (by decide) wd2 (fun _ h => h) hf dX4_lays_35 ?_
          refine lv_iconst (v := nI 2) hx hb dX4_lays_38 (by decide) ?_
          refine hz_iald (j := 2) hx hb hK hP 1 0 rfl rfl (by omega) (Nat.le_of_ble_eq_true rfl) dX4_lays_39 ?_
          refine hz_ct (y := nI (nS M)) hL2 ?_
          refine hz_icmp_ge (tgt := 100) (by omega) (by omega) hx hb dX4_lays_40 (by decide) (fun c40 => ?_) (fun c40 => ?_)
          · refine lv_iload_n hx hb dX4_lays_100 rfl (lv_at hl 1 rfl) ?_
            refine hz_ei hx hb hr hlocks rfl ?_ hS (by rw [show fd_sh B y = none from (if_pos hy4).trans (if_neg (by rw [hcj]; exact hb0))]; exact fr_n (by rw [hcj, (show sp_min (cl (S j)) (nS M) = k by unfold sp_min; split <;> omega)])) dX4_lays_101
            rw [show fd_sh B y = none from (if_pos hy4).trans (if_neg (by rw [hcj]; exact hb0))]
            rw [hcj, (show sp_min (cl (S j)) (nS M) = k by unfold sp_min; split <;> omega)]
            exact hP
          · refine lv_aload_n hx hb dX4_lays_43 rfl (lv_at hl 3 rfl) ?_
            refine va_get hx hb hts hinX4 hown hK hP 0 rfl rfl 15 (by decide) wd3 (fun _ h => h) hf15 dX4_lays_44 ?_
            refine lv_bipush (v := nI 40) hx hb dX4_lays_47 (by decide) ?_
            refine lv_iload_n hx hb dX4_lays_49 rfl (lv_at hl 4 rfl) ?_
            refine hz_imul hx hb dX4_lays_50 ?_
            refine lv_iload hx hb dX4_lays_51 (lv_at hl 0 rfl) ?_
            refine hz_iadd hx hb dX4_lays_53 ?_
            refine hz_lald (j := 40 * j + k) hx hb hK hP 5 1 rfl rfl (by omega) (Nat.le_of_ble_eq_true rfl) dX4_lays_54 ?_
            refine lv_iconst (v := nI 0) hx hb dX4_lays_55 (by decide) ?_
            refine lv_bipush (v := nI 99) hx hb dX4_lays_56 (by decide) ?_
            refine hz_cs (As := [.long (C (40 * j + k)), .int (nI 0), .int (nI 99)]) (rest := []) ⟨hx, hb, hml, hown, hts⟩ (c4_in l D cI cJ (v := C (40 * j + k)) (a := nI 0) (b := nI 99) ) (va_cwS 3 hts gX4_lays_X4_in rfl rfl rfl (by decide +kernel) ⟨Nat.le_of_ble_eq_true rfl, Nat.le_of_ble_eq_true rfl⟩) hK hP [] rfl [0, 1] rfl rfl hl.1 rfl (Nat.le_of_ble_eq_true rfl) dX4_lays_58 ⟨Nat.zero_le _, Nat.zero_le _⟩ ?_
            refine hz_ifb_eq (tgt := 94) hx hb dX4_lays_61 (by decide) (fun c61 => ?_) (fun c61 => ?_)
            · refine lv_iinc (v := nI (k + 1)) (lv' := [(4, .int (nI (k + 1))), (3, .int (nI (sp_lyN C j k))), (2, .int (nI 0)), (0, .ref h0), (1, .int (nI j))]) hx hb dX4_lays_94 hl (k := 0) rfl (nI_1 _) (by decide) rfl (fun ls hl => ?_)
              refine lv_goto (tgt := 21) hx hb dX4_lays_97 (by decide) ?_
              rw [← lyM_f c61] at hP hD
              exact ihloop (k + 1) ls _ _ (by omega) (by omega) (by omega) (by rw [lyN_f c61]; exact lv_sub hl [0, 1, 2, 3, 4] rfl) hP hD hS
            · refine lv_aload_n hx hb dX4_lays_64 rfl (lv_at hl 3 rfl) ?_
              refine va_get hx hb hts hinX4 hown hK hP 0 rfl rfl 0 (by decide) wd2 (fun _ h => h) hf dX4_lays_65 ?_
              refine lv_bipush (v := nI 43) hx hb dX4_lays_68 (by decide) ?_
              refine lv_iconst (v := nI 4) hx hb dX4_lays_70 (by decide) ?_
              refine lv_iload hx hb dX4_lays_71 (lv_at hl 0 rfl) ?_
              refine hz_imul hx hb dX4_lays_73 ?_
              refine hz_iadd hx hb dX4_lays_74 ?_
              refine lv_iconst (v := nI 3) hx hb dX4_lays_75 (by decide) ?_
              refine hz_iadd hx hb dX4_lays_76 ?_
              refine lv_aload_n hx hb dX4_lays_77 rfl (lv_at hl 3 rfl) ?_
              refine va_get hx hb hts hinX4 hown hK hP 0 rfl rfl 15 (by decide) wd3 (fun _ h => h) hf15 dX4_lays_78 ?_
              refine lv_bipush (v := nI 40) hx hb dX4_lays_81 (by decide) ?_
              refine lv_iload_n hx hb dX4_lays_83 rfl (lv_at hl 4 rfl) ?_
              refine hz_imul hx hb dX4_lays_84 ?_
              refine lv_iload hx hb dX4_lays_85 (lv_at hl 0 rfl) ?_
              refine hz_iadd hx hb dX4_lays_87 ?_
              refine hz_lald (j := 40 * j + k) hx hb hK hP 5 1 rfl rfl (by omega) (Nat.le_of_ble_eq_true rfl) dX4_lays_88 ?_
              refine lv_l2i (v := (C (40 * j + k)).toInt32) hx hb dX4_lays_89 rfl ?_
              refine hz_iast (j := 43 + 4 * k + 3) hx hb hK hP hD hS 1 0 rfl rfl (by omega) (Nat.le_of_ble_eq_true rfl) dX4_lays_90 (w' := [(h0, .inr (4, fs)), (am, .inl (cI, 75, .inl (upd (sp_lyM M C j k) (43 + 4 * k + 3) ((C (40 * j + k)).toInt32)))), (af, .inl (cI, 7, .inl F)), (ab, .inl (cI, 4, .inl B)), (as_, .inl (cI, 4, .inl S)), (ac, .inl (cJ, 160, .inr (.inl C)))]) rfl (fun H locs hP hD hS => ?_)
              refine lv_iinc (v := nI (sp_lyN C j k + 1)) (lv' := [(3, .int (nI (sp_lyN C j k + 1))), (4, .int (nI k)), (2, .int (nI 0)), (0, .ref h0), (1, .int (nI j))]) hx hb dX4_lays_91 hl (k := 1) rfl (nI_1 _) (by decide) rfl (fun ls hl => ?_)
              refine lv_iinc (v := nI (k + 1)) (lv' := [(4, .int (nI (k + 1))), (3, .int (nI (sp_lyN C j k + 1))), (2, .int (nI 0)), (0, .ref h0), (1, .int (nI j))]) hx hb dX4_lays_94 hl (k := 1) rfl (nI_1 _) (by decide) rfl (fun ls hl => ?_)
              refine lv_goto (tgt := 21) hx hb dX4_lays_97 (by decide) ?_
              rw [← lyM_t c61] at hP hD
              exact ihloop (k + 1) ls _ _ (by omega) (by omega) (by omega) (by rw [lyN_t c61]; exact lv_sub hl [0, 1, 2, 3, 4] rfl) hP hD hS
    exact loop _ 0 ls _ _ (Nat.lt_succ_self _) (by omega) (by omega) (lv_sub hl [0, 1, 2, 3, 4] rfl) hP hD hS
set_option maxHeartbeats 4000000 in
set_option maxRecDepth 100000 in
theorem c3_lays (l : Launch) (D : va_G) (cI cJ : ClassId) (x0 kc0 tc0 tp0 sh0 fd0 : Nat) (kf : Int32) (a0 k_ p_ t_ h_ w_ b_ g_ i_ f_ : Nat) (sb0 ss0 sc0 : Nat) (M F B S : Nat → Int32) (C : Nat → Int64) (b : Nat) (y : Int32) (hI : hz_I b M) (hZ : hz_Z S) : hz_ME l yX3_lays wsX3_lays { frames := 2, cells := 0, slots := 0, locals := 44 } [.ref x0, .int (y)] D zcl [(cI, .int), (cJ, .long)] [(x0, .inr (3, [.ref a0, .ref kc0, .ref tc0, .ref tp0, .ref sh0, .ref fd0, .int (kf)])), (a0, .inr (0, [.int (M 0), .int (M 1), .ref k_, .ref p_, .ref t_, .ref h_, .ref w_, .int (M 2), .ref b_, .ref g_, .ref i_, .ref f_])), (k_, .inl (cI, 8, .inl (fun x_ => M (3 + 5 * x_)))), (p_, .inl (cI, 8, .inl (fun x_ => M (3 + 5 * x_ + 1)))), (t_, .inl (cI, 8, .inl (fun x_ => M (3 + 5 * x_ + 2)))), (h_, .inl (cI, 8, .inl (fun x_ => M (3 + 5 * x_ + 3)))), (w_, .inl (cI, 8, .inl (fun x_ => M (3 + 5 * x_ + 4)))), (b_, .inl (cI, 8, .inl (fun x_ => M (43 + 4 * x_)))), (g_, .inl (cI, 8, .inl (fun x_ => M (43 + 4 * x_ + 1)))), (i_, .inl (cI, 8, .inl (fun x_ => M (43 + 4 * x_ + 2)))), (f_, .inl (cI, 8, .inl (fun x_ => M (43 + 4 * x_ + 3)))), (sh0, .inr (1, [.ref sb0, .ref ss0, .ref sc0])), (sb0, .inl (cI, 4, .inl B)), (ss0, .inl (cI, 4, .inl S)), (sc0, .inl (cJ, 160, .inr (.inl C))), (fd0, .inl (cI, 7, .inl F))] [(x0, .inr (3, [.ref a0, .ref kc0, .ref tc0, .ref tp0, .ref sh0, .ref fd0, .int (kf)])), (a0, .inr (0, [.int ((sp_fM (fd_sh B y) M (sp_lyM M C (cl y) (sp_min (cl (S (cl y))) (nS M)))) 0), .int ((sp_fM (fd_sh B y) M (sp_lyM M C (cl y) (sp_min (cl (S (cl y))) (nS M)))) 1), .ref k_, .ref p_, .ref t_, .ref h_, .ref w_, .int ((sp_fM (fd_sh B y) M (sp_lyM M C (cl y) (sp_min (cl (S (cl y))) (nS M)))) 2), .ref b_, .ref g_, .ref i_, .ref f_])), (k_, .inl (cI, 8, .inl (fun x_ => (sp_fM (fd_sh B y) M (sp_lyM M C (cl y) (sp_min (cl (S (cl y))) (nS M)))) (3 + 5 * x_)))), (p_, .inl (cI, 8, .inl (fun x_ => (sp_fM (fd_sh B y) M (sp_lyM M C (cl y) (sp_min (cl (S (cl y))) (nS M)))) (3 + 5 * x_ + 1)))), (t_, .inl (cI, 8, .inl (fun x_ => (sp_fM (fd_sh B y) M (sp_lyM M C (cl y) (sp_min (cl (S (cl y))) (nS M)))) (3 + 5 * x_ + 2)))), (h_, .inl (cI, 8, .inl (fun x_ => (sp_fM (fd_sh B y) M (sp_lyM M C (cl y) (sp_min (cl (S (cl y))) (nS M)))) (3 + 5 * x_ + 3)))), (w_, .inl (cI, 8, .inl (fun x_ => (sp_fM (fd_sh B y) M (sp_lyM M C (cl y) (sp_min (cl (S (cl y))) (nS M)))) (3 + 5 * x_ + 4)))), (b_, .inl (cI, 8, .inl (fun x_ => (sp_fM (fd_sh B y) M (sp_lyM M C (cl y) (sp_min (cl (S (cl y))) (nS M)))) (43 + 4 * x_)))), (g_, .inl (cI, 8, .inl (fun x_ => (sp_fM (fd_sh B y) M (sp_lyM M C (cl y) (sp_min (cl (S (cl y))) (nS M)))) (43 + 4 * x_ + 1)))), (i_, .inl (cI, 8, .inl (fun x_ => (sp_fM (fd_sh B y) M (sp_lyM M C (cl y) (sp_min (cl (S (cl y))) (nS M)))) (43 + 4 * x_ + 2)))), (f_, .inl (cI, 8, .inl (fun x_ => (sp_fM (fd_sh B y) M (sp_lyM M C (cl y) (sp_min (cl (S (cl y))) (nS M)))) (43 + 4 * x_ + 3)))), (sh0, .inr (1, [.ref sb0, .ref ss0, .ref sc0])), (sb0, .inl (cI, 4, .inl B)), (ss0, .inl (cI, 4, .inl S)), (sc0, .inl (cJ, 160, .inr (.inl C))), (fd0, .inl (cI, 7, .inl (sp_ff F (fd_sh B y))))] (some (.int (sp_fr (fd_sh B y) (nI (sp_lyN C (cl y) (sp_min (cl (S (cl y))) (nS M))))))) := by
  refine hz_me (cc := cX3_lays) (maxL := 7) (ret := (some .int)) (by decide) rfl (Nat.le_of_ble_eq_true rfl) ?_
  intro p e s m below meth c hx hb hr hts hown hlocks hml hP hK hD ls hl
  have hS : va_S (hz_a [(x0, .inr (3, [.ref a0, .ref kc0, .ref tc0, .ref tp0, .ref sh0, .ref fd0, .int (kf)])), (a0, .inr (0, [.int (M 0), .int (M 1), .ref k_, .ref p_, .ref t_, .ref h_, .ref w_, .int (M 2), .ref b_, .ref g_, .ref i_, .ref f_])), (k_, .inl (cI, 8, .inl (fun x_ => M (3 + 5 * x_)))), (p_, .inl (cI, 8, .inl (fun x_ => M (3 + 5 * x_ + 1)))), (t_, .inl (cI, 8, .inl (fun x_ => M (3 + 5 * x_ + 2)))), (h_, .inl (cI, 8, .inl (fun x_ => M (3 + 5 * x_ + 3)))), (w_, .inl (cI, 8, .inl (fun x_ => M (3 + 5 * x_ + 4)))), (b_, .inl (cI, 8, .inl (fun x_ => M (43 + 4 * x_)))), (g_, .inl (cI, 8, .inl (fun x_ => M (43 + 4 * x_ + 1)))), (i_, .inl (cI, 8, .inl (fun x_ => M (43 + 4 * x_ + 2)))), (f_, .inl (cI, 8, .inl (fun x_ => M (43 + 4 * x_ + 3)))), (sh0, .inr (1, [.ref sb0, .ref ss0, .ref sc0])), (sb0, .inl (cI, 4, .inl B)), (ss0, .inl (cI, 4, .inl S)), (sc0, .inl (cJ, 160, .inr (.inl C))), (fd0, .inl (cI, 7, .inl F))]) s.heap s.heap [] := va_S.rf
  have hown : s.vm.findClass RX3 = some m.cls := hown
  have hl : lv_has ls 7 [(0, .ref x0), (1, .int (y))] := hl
  have hinX0 : ∀ w ∈ u_ws RX0 TX0 12, w ∈ wsX3_lays := fun w h => List.mem_cons_of_mem _ (List.mem_append_right _ (h))
  have hinX1 : ∀ w ∈ u_ws RX1 TX1 3, w ∈ wsX3_lays := fun w h => List.mem_cons_of_mem _ (List.mem_append_left _ (List.mem_append_right _ (h)))
  have hinX3 : ∀ w ∈ u_ws RX3 TX3 7, w ∈ wsX3_lays := fun w h => List.mem_cons_of_mem _ (List.mem_append_left _ (List.mem_append_left _ (List.mem_append_right _ (h))))
  have wd1 := hts (.fieldLink RX3 32 "HurtSpeech" "sheets" "LHurtSpeech$Sheets;") (List.mem_of_getElem? (i := 1) rfl)
  have wd2 := hts (.fieldLink RX3 199 "HurtSpeech$Sheets" "sizes" "[I") (List.mem_of_getElem? (i := 2) rfl)
  have wd3 := hts (.fieldLink RX3 10 "HurtSpeech" "live" "LHurtSpeech$Congress;") (List.mem_of_getElem? (i := 3) rfl)
  have wd4 := hts (.fieldLink RX3 93 "HurtSpeech$Congress" "speeches" "I") (List.mem_of_getElem? (i := 4) rfl)
  have wd5 := hts (.constantLong RX3 224 (99)) (List.mem_of_getElem? (i := 5) rfl)
  have wd6 := hts (.fieldLink RX3 112 "HurtSpeech$Congress" "force" "[I") (List.mem_of_getElem? (i := 6) rfl)
  obtain ⟨⟨hM0, hTb, hM1, hD8, hM2, hS8⟩, hID, hIS⟩ := id hI
  refine lv_aload_n hx hb dX3_lays_0 rfl (lv_at hl 0 rfl) ?_
  refine lv_iload_n hx hb dX3_lays_1 rfl (lv_at hl 1 rfl) ?_
  refine hz_cv (As := [.int (y)]) (rest := []) ⟨hx, hb, hml, hown, hts⟩ (c3_findingOfSheet l D cI cJ (x0 := x0) (a0 := a0) (kc0 := kc0) (tc0 := tc0) (tp0 := tp0) (fd0 := fd0) (kf := kf) (sh0 := sh0) (sb0 := sb0) (ss0 := ss0) (sc0 := sc0) (B := B) (x := y) ) (cwV 1 hts gX3_lays_X3_findingOfSheet rfl rfl rfl (by decide +kernel) ⟨Nat.le_of_ble_eq_true rfl, Nat.le_of_ble_eq_true rfl⟩) hK hP [0, 11, 12] rfl [0, 1] rfl 0 rfl rfl rfl rfl hl.1 rfl (Nat.le_of_ble_eq_true rfl) dX3_lays_2 ⟨Nat.zero_le _, Nat.zero_le _⟩ ?_
  rcases nt_cases B y with ⟨hno, ent⟩ | ⟨j, hj, ey, hb0, ent⟩ | ⟨j, hj, ey, hb0, ent⟩
  · refine hz_ct (y := -1000000001) ent ?_
    refine lv_istore_n (lv' := [(2, .int (-1000000001)), (0, .ref x0), (1, .int (y))]) hx hb dX3_lays_5 rfl hl (by decide) rfl (fun ls hl => ?_)
    refine lv_iload_n hx hb dX3_lays_6 rfl (lv_at hl 0 rfl) ?_
    refine lv_if_eq (tgt := 16) hx hb dX3_lays_7 (by decide) (fun h => absurd h (by first | decide | omega | exact hz_nneg (by omega) | exact hz_nneg' (by omega))) (fun _ => ?_)
    refine lv_aload_n hx hb dX3_lays_10 rfl (lv_at hl 1 rfl) ?_
    refine lv_iload_n hx hb dX3_lays_11 rfl (lv_at hl 0 rfl) ?_
    refine hz_ce (As := [.int (-1000000001)]) (rest := []) ⟨hx, hb, hml, hown, hts⟩ (c3_found l D cI cJ (x0 := x0) (a0 := a0) (kc0 := kc0) (tc0 := tc0) (tp0 := tp0) (sh0 := sh0) (fd0 := fd0) (kf := kf) (F := F) (f := -1000000001) (k := 0) (hk := by omega) (hfk := by decide)) (cwV 1 hts gX3_lays_X3_found rfl rfl rfl (by decide +kernel) ⟨Nat.le_of_ble_eq_true rfl, Nat.le_of_ble_eq_true rfl⟩) hK hP hD hS [0, 15] rfl (by decide) (hz_ha [x0, fd0] rfl rfl) (w' := [(x0, .inr (3, [.ref a0, .ref kc0, .ref tc0, .ref tp0, .ref sh0, .ref fd0, .int (kf)])), (a0, .inr (0, [.int (M 0), .int (M 1), .ref k_, .ref p_, .ref t_, .ref h_, .ref w_, .int (M 2), .ref b_, .ref g_, .ref i_, .ref f_])), (k_, .inl (cI, 8, .inl (fun x_ => M (3 + 5 * x_)))), (p_, .inl (cI, 8, .inl (fun x_ => M (3 + 5 * x_ + 1)))), (t_, .inl (cI, 8, .inl (fun x_ => M (3 + 5 * x_ + 2)))), (h_, .inl (cI, 8, .inl (fun x_ => M (3 + 5 * x_ + 3)))), (w_, .inl (cI, 8, .inl (fun x_ => M (3 + 5 * x_ + 4)))), (b_, .inl (cI, 8, .inl (fun x_ => M (43 + 4 * x_)))), (g_, .inl (cI, 8, .inl (fun x_ => M (43 + 4 * x_ + 1)))), (i_, .inl (cI, 8, .inl (fun x_ => M (43 + 4 * x_ + 2)))), (f_, .inl (cI, 8, .inl (fun x_ => M (43 + 4 * x_ + 3)))), (sh0, .inr (1, [.ref sb0, .ref ss0, .ref sc0])), (sb0, .inl (cI, 4, .inl B)), (ss0, .inl (cI, 4, .inl S)), (sc0, .inl (cJ, 160, .inr (.inl C))), (fd0, .inl (cI, 7, .inl (sp_fd F 0)))]) (hz_pt_eq 16 [1, 2, 3, 4, 5, 6, 7, 8, 9, 10, 11, 12, 13, 14] [(a0, .inr (0, [.int (M 0), .int (M 1), .ref k_, .ref p_, .ref t_, .ref h_, .ref w_, .int (M 2), .ref b_, .ref g_, .ref i_, .ref f_])), (k_, .inl (cI, 8, .inl (fun x_ => M (3 + 5 * x_)))), (p_, .inl (cI, 8, .inl (fun x_ => M (3 + 5 * x_ + 1)))), (t_, .inl (cI, 8, .inl (fun x_ => M (3 + 5 * x_ + 2)))), (h_, .inl (cI, 8, .inl (fun x_ => M (3 + 5 * x_ + 3)))), (w_, .inl (cI, 8, .inl (fun x_ => M (3 + 5 * x_ + 4)))), (b_, .inl (cI, 8, .inl (fun x_ => M (43 + 4 * x_)))), (g_, .inl (cI, 8, .inl (fun x_ => M (43 + 4 * x_ + 1)))), (i_, .inl (cI, 8, .inl (fun x_ => M (43 + 4 * x_ + 2)))), (f_, .inl (cI, 8, .inl (fun x_ => M (43 + 4 * x_ + 3)))), (sh0, .inr (1, [.ref sb0, .ref ss0, .ref sc0])), (sb0, .inl (cI, 4, .inl B)), (ss0, .inl (cI, 4, .inl S)), (sc0, .inl (cJ, 160, .inr (.inl C)))] rfl rfl rfl rfl rfl rfl rfl) [0, 1] rfl 0 rfl rfl rfl rfl hl.1 rfl (Nat.le_of_ble_eq_true rfl) dX3_lays_12 ⟨Nat.zero_le _, Nat.zero_le _⟩ (fun H locs hP hD hS => ?_)
    refine W.eq (g2 := F0 m 15 ls [.int ((-1000000001))]) rfl ?_
    refine hz_ei hx hb hr hlocks rfl ?_ hS (by rw [show fd_sh B y = some 0 from if_neg hno]; rfl) dX3_lays_15
    rw [show fd_sh B y = some 0 from if_neg hno]
    exact hP
  · refine hz_ct (y := -1000000006) ent ?_
    have hcj : cl y = j := by rw [ey, cl, nI_clamp (by omega)]
    refine lv_istore_n (lv' := [(2, .int (-1000000006)), (0, .ref x0), (1, .int (y))]) hx hb dX3_lays_5 rfl hl (by decide) rfl (fun ls hl => ?_)
    refine lv_iload_n hx hb dX3_lays_6 rfl (lv_at hl 0 rfl) ?_
    refine lv_if_eq (tgt := 16) hx hb dX3_lays_7 (by decide) (fun h => absurd h (by first | decide | omega | exact hz_nneg (by omega) | exact hz_nneg' (by omega))) (fun _ => ?_)
    refine lv_aload_n hx hb dX3_lays_10 rfl (lv_at hl 1 rfl) ?_
    refine lv_iload_n hx hb dX3_lays_11 rfl (lv_at hl 0 rfl) ?_
    refine hz_ce (As := [.int (-1000000006)]) (rest := []) ⟨hx, hb, hml, hown, hts⟩ (c3_found l D cI cJ (x0 := x0) (a0 := a0) (kc0 := kc0) (tc0 := tc0) (tp0 := tp0) (sh0 := sh0) (fd0 := fd0) (kf := kf) (F := F) (f := -1000000006) (k := 5) (hk := by omega) (hfk := by decide)) (cwV 1 hts gX3_lays_X3_found rfl rfl rfl (by decide +kernel) ⟨Nat.le_of_ble_eq_true rfl, Nat.le_of_ble_eq_true rfl⟩) hK hP hD hS [0, 15] rfl (by decide) (hz_ha [x0, fd0] rfl rfl) (w' := [(x0, .inr (3, [.ref a0, .ref kc0, .ref tc0, .ref tp0, .ref sh0, .ref fd0, .int (kf)])), (a0, .inr (0, [.int (M 0), .int (M 1), .ref k_, .ref p_, .ref t_, .ref h_, .ref w_, .int (M 2), .ref b_, .ref g_, .ref i_, .ref f_])), (k_, .inl (cI, 8, .inl (fun x_ => M (3 + 5 * x_)))), (p_, .inl (cI, 8, .inl (fun x_ => M (3 + 5 * x_ + 1)))), (t_, .inl (cI, 8, .inl (fun x_ => M (3 + 5 * x_ + 2)))), (h_, .inl (cI, 8, .inl (fun x_ => M (3 + 5 * x_ + 3)))), (w_, .inl (cI, 8, .inl (fun x_ => M (3 + 5 * x_ + 4)))), (b_, .inl (cI, 8, .inl (fun x_ => M (43 + 4 * x_)))), (g_, .inl (cI, 8, .inl (fun x_ => M (43 + 4 * x_ + 1)))), (i_, .inl (cI, 8, .inl (fun x_ => M (43 + 4 * x_ + 2)))), (f_, .inl (cI, 8, .inl (fun x_ => M (43 + 4 * x_ + 3)))), (sh0, .inr (1, [.ref sb0, .ref ss0, .ref sc0])), (sb0, .inl (cI, 4, .inl B)), (ss0, .inl (cI, 4, .inl S)), (sc0, .inl (cJ, 160, .inr (.inl C))), (fd0, .inl (cI, 7, .inl (sp_fd F 5)))]) (hz_pt_eq 16 [1, 2, 3, 4, 5, 6, 7, 8, 9, 10, 11, 12, 13, 14] [(a0, .inr (0, [.int (M 0), .int (M 1), .ref k_, .ref p_, .ref t_, .ref h_, .ref w_, .int (M 2), .ref b_, .ref g_, .ref i_, .ref f_])), (k_, .inl (cI, 8, .inl (fun x_ => M (3 + 5 * x_)))), (p_, .inl (cI, 8, .inl (fun x_ => M (3 + 5 * x_ + 1)))), (t_, .inl (cI, 8, .inl (fun x_ => M (3 + 5 * x_ + 2)))), (h_, .inl (cI, 8, .inl (fun x_ => M (3 + 5 * x_ + 3)))), (w_, .inl (cI, 8, .inl (fun x_ => M (3 + 5 * x_ + 4)))), (b_, .inl (cI, 8, .inl (fun x_ => M (43 + 4 * x_)))), (g_, .inl (cI, 8, .inl (fun x_ => M (43 + 4 * x_ + 1)))), (i_, .inl (cI, 8, .inl (fun x_ => M (43 + 4 * x_ + 2)))), (f_, .inl (cI, 8, .inl (fun x_ => M (43 + 4 * x_ + 3)))), (sh0, .inr (1, [.ref sb0, .ref ss0, .ref sc0])), (sb0, .inl (cI, 4, .inl B)), (ss0, .inl (cI, 4, .inl S)), (sc0, .inl (cJ, 160, .inr (.inl C)))] rfl rfl rfl rfl rfl rfl rfl) [0, 1] rfl 0 rfl rfl rfl rfl hl.1 rfl (Nat.le_of_ble_eq_true rfl) dX3_lays_12 ⟨Nat.zero_le _, Nat.zero_le _⟩ (fun H locs hP hD hS => ?_)
    refine W.eq (g2 := F0 m 15 ls [.int ((-1000000006))]) rfl ?_
    refine hz_ei hx hb hr hlocks rfl ?_ hS (by rw [show fd_sh B y = some 5 from (if_pos (by rw [ey]; exact (hz_in_nI (by omega)).mpr hj)).trans (if_pos (by rw [hcj]; exact hb0))]; rfl) dX3_lays_15
    rw [show fd_sh B y = some 5 from (if_pos (by rw [ey]; exact (hz_in_nI (by omega)).mpr hj)).trans (if_pos (by rw [hcj]; exact hb0))]
    exact hP
  · refine hz_ct (y := nI 0) ent ?_
    rw [ey] at hl
    have hcj : cl y = j := by rw [ey, cl, nI_clamp (by omega)]
    obtain ⟨hSj, hS40⟩ := hZ j hj
    have hy4 : hz_in y 4 := by rw [ey]; exact (hz_in_nI (by omega)).mpr hj
    refine lv_istore_n (lv' := [(2, .int (nI 0)), (0, .ref x0), (1, .int (nI j))]) hx hb dX3_lays_5 rfl hl (by decide) rfl (fun ls hl => ?_)
    refine lv_iload_n hx hb dX3_lays_6 rfl (lv_at hl 0 rfl) ?_
    refine lv_if_eq (tgt := 16) hx hb dX3_lays_7 (by decide) (fun _ => ?_) (fun h => absurd h (by first | decide | omega | exact hz_nneg (by omega) | exact hz_nneg' (by omega)))
    refine lv_iconst (v := nI 0) hx hb dX3_lays_16 (by decide) ?_
    refine lv_istore_n (lv' := [(3, .int (nI 0)), (2, .int (nI 0)), (0, .ref x0), (1, .int (nI j))]) hx hb dX3_lays_17 rfl hl (by decide) rfl (fun ls hl => ?_)
    refine lv_iconst (v := nI 0) hx hb dX3_lays_18 (by decide) ?_
    refine lv_istore (lv' := [(4, .int (nI 0)), (3, .int (nI 0)), (2, .int (nI 0)), (0, .ref x0), (1, .int (nI j))]) hx hb dX3_lays_19 hl (by decide) rfl (fun ls hl => ?_)
    have loop : ∀ (nn : Nat) (k : Nat) (ls : Array Slot) (H : Heap) (locs : List Loc), nS M - k < nn → (k ≤ cl (S j)) → (k ≤ nS M) → lv_has ls 7 [(4, .int (nI k)), (3, .int (nI (sp_lyN C j k))), (2, .int (nI 0)), (0, .ref x0), (1, .int (nI j))] → va_P D zcl [(x0, .inr (3, [.ref a0, .ref kc0, .ref tc0, .ref tp0, .ref sh0, .ref fd0, .int (kf)])), (a0, .inr (0, [.int (M 0), .int (M 1), .ref k_, .ref p_, .ref t_, .ref h_, .ref w_, .int (M 2), .ref b_, .ref g_, .ref i_, .ref f_])), (k_, .inl (cI, 8, .inl (fun x_ => M (3 + 5 * x_)))), (p_, .inl (cI, 8, .inl (fun x_ => M (3 + 5 * x_ + 1)))), (t_, .inl (cI, 8, .inl (fun x_ => M (3 + 5 * x_ + 2)))), (h_, .inl (cI, 8, .inl (fun x_ => M (3 + 5 * x_ + 3)))), (w_, .inl (cI, 8, .inl (fun x_ => M (3 + 5 * x_ + 4)))), (b_, .inl (cI, 8, .inl (fun x_ => M (43 + 4 * x_)))), (g_, .inl (cI, 8, .inl (fun x_ => M (43 + 4 * x_ + 1)))), (i_, .inl (cI, 8, .inl (fun x_ => M (43 + 4 * x_ + 2)))), (f_, .inl (cI, 8, .inl (fun x_ => (sp_lyM M C j k) (43 + 4 * x_ + 3)))), (sh0, .inr (1, [.ref sb0, .ref ss0, .ref sc0])), (sb0, .inl (cI, 4, .inl B)), (ss0, .inl (cI, 4, .inl S)), (sc0, .inl (cJ, 160, .inr (.inl C))), (fd0, .inl (cI, 7, .inl F))] H → va_D (hz_a [(x0, .inr (3, [.ref a0, .ref kc0, .ref tc0, .ref tp0, .ref sh0, .ref fd0, .int (kf)])), (a0, .inr (0, [.int (M 0), .int (M 1), .ref k_, .ref p_, .ref t_, .ref h_, .ref w_, .int (M 2), .ref b_, .ref g_, .ref i_, .ref f_])), (k_, .inl (cI, 8, .inl (fun x_ => M (3 + 5 * x_)))), (p_, .inl (cI, 8, .inl (fun x_ => M (3 + 5 * x_ + 1)))), (t_, .inl (cI, 8, .inl (fun x_ => M (3 + 5 * x_ + 2)))), (h_, .inl (cI, 8, .inl (fun x_ => M (3 + 5 * x_ + 3)))), (w_, .inl (cI, 8, .inl (fun x_ => M (3 + 5 * x_ + 4)))), (b_, .inl (cI, 8, .inl (fun x_ => M (43 + 4 * x_)))), (g_, .inl (cI, 8, .inl (fun x_ => M (43 + 4 * x_ + 1)))), (i_, .inl (cI, 8, .inl (fun x_ => M (43 + 4 * x_ + 2)))), (f_, .inl (cI, 8, .inl (fun x_ => M (43 + 4 * x_ + 3)))), (sh0, .inr (1, [.ref sb0, .ref ss0, .ref sc0])), (sb0, .inl (cI, 4, .inl B)), (ss0, .inl (cI, 4, .inl S)), (sc0, .inl (cJ, 160, .inr (.inl C))), (fd0, .inl (cI, 7, .inl F))]) [(x0, .inr (3, [.ref a0, .ref kc0, .ref tc0, .ref tp0, .ref sh0, .ref fd0, .int (kf)])), (a0, .inr (0, [.int (M 0), .int (M 1), .ref k_, .ref p_, .ref t_, .ref h_, .ref w_, .int (M 2), .ref b_, .ref g_, .ref i_, .ref f_])), (k_, .inl (cI, 8, .inl (fun x_ => M (3 + 5 * x_)))), (p_, .inl (cI, 8, .inl (fun x_ => M (3 + 5 * x_ + 1)))), (t_, .inl (cI, 8, .inl (fun x_ => M (3 + 5 * x_ + 2)))), (h_, .inl (cI, 8, .inl (fun x_ => M (3 + 5 * x_ + 3)))), (w_, .inl (cI, 8, .inl (fun x_ => M (3 + 5 * x_ + 4)))), (b_, .inl (cI, 8, .inl (fun x_ => M (43 + 4 * x_)))), (g_, .inl (cI, 8, .inl (fun x_ => M (43 + 4 * x_ + 1)))), (i_, .inl (cI, 8, .inl (fun x_ => M (43 + 4 * x_ + 2)))), (f_, .inl (cI, 8, .inl (fun x_ => (sp_lyM M C j k) (43 + 4 * x_ + 3)))), (sh0, .inr (1, [.ref sb0, .ref ss0, .ref sc0])), (sb0, .inl (cI, 4, .inl B)), (ss0, .inl (cI, 4, .inl S)), (sc0, .inl (cJ, 160, .inr (.inl C))), (fd0, .inl (cI, 7, .inl F))] → va_S (hz_a [(x0, .inr (3, [.ref a0, .ref kc0, .ref tc0, .ref tp0, .ref sh0, .ref fd0, .int (kf)])), (a0, .inr (0, [.int (M 0), .int (M 1), .ref k_, .ref p_, .ref t_, .ref h_, .ref w_, .int (M 2), .ref b_, .ref g_, .ref i_, .ref f_])), (k_, .inl (cI, 8, .inl (fun x_ => M (3 + 5 * x_)))), (p_, .inl (cI, 8, .inl (fun x_ => M (3 + 5 * x_ + 1)))), (t_, .inl (cI, 8, .inl (fun x_ => M (3 + 5 * x_ + 2)))), (h_, .inl (cI, 8, .inl (fun x_ => M (3 + 5 * x_ + 3)))), (w_, .inl (cI, 8, .inl (fun x_ => M (3 + 5 * x_ + 4)))), (b_, .inl (cI, 8, .inl (fun x_ => M (43 + 4 * x_)))), (g_, .inl (cI, 8, .inl (fun x_ => M (43 + 4 * x_ + 1)))), (i_, .inl (cI, 8, .inl (fun x_ => M (43 + 4 * x_ + 2)))), (f_, .inl (cI, 8, .inl (fun x_ => M (43 + 4 * x_ + 3)))), (sh0, .inr (1, [.ref sb0, .ref ss0, .ref sc0])), (sb0, .inl (cI, 4, .inl B)), (ss0, .inl (cI, 4, .inl S)), (sc0, .inl (cJ, 160, .inr (.inl C))), (fd0, .inl (cI, 7, .inl F))]) s.heap H locs → W p l e (headSpec wsX3_lays { frames := 2, cells := 0, slots := 0, locals := 44 }).room s m ([.ref x0, .int (y)] : List Value).toArray below meth c H locs 0 0 (MQ below (hz_E D zcl [(x0, .inr (3, [.ref a0, .ref kc0, .ref tc0, .ref tp0, .ref sh0, .ref fd0, .int (kf)])), (a0, .inr (0, [.int ((sp_fM (fd_sh B y) M (sp_lyM M C (cl y) (sp_min (cl (S (cl y))) (nS M)))) 0), .int ((sp_fM (fd_sh B y) M (sp_lyM M C (cl y) (sp_min (cl (S (cl y))) (nS M)))) 1), .ref k_, .ref p_, .ref t_, .ref h_, .ref w_, .int ((sp_fM (fd_sh B y) M (sp_lyM M C (cl y) (sp_min (cl (S (cl y))) (nS M)))) 2), .ref b_, .ref g_, .ref i_, .ref f_])), (k_, .inl (cI, 8, .inl (fun x_ => (sp_fM (fd_sh B y) M (sp_lyM M C (cl y) (sp_min (cl (S (cl y))) (nS M)))) (3 + 5 * x_)))), (p_, .inl (cI, 8, .inl (fun x_ => (sp_fM (fd_sh B y) M (sp_lyM M C (cl y) (sp_min (cl (S (cl y))) (nS M)))) (3 + 5 * x_ + 1)))), (t_, .inl (cI, 8, .inl (fun x_ => (sp_fM (fd_sh B y) M (sp_lyM M C (cl y) (sp_min (cl (S (cl y))) (nS M)))) (3 + 5 * x_ + 2)))), (h_, .inl (cI, 8, .inl (fun x_ => (sp_fM (fd_sh B y) M (sp_lyM M C (cl y) (sp_min (cl (S (cl y))) (nS M)))) (3 + 5 * x_ + 3)))), (w_, .inl (cI, 8, .inl (fun x_ => (sp_fM (fd_sh B y) M (sp_lyM M C (cl y) (sp_min (cl (S (cl y))) (nS M)))) (3 + 5 * x_ + 4)))), (b_, .inl (cI, 8, .inl (fun x_ => (sp_fM (fd_sh B y) M (sp_lyM M C (cl y) (sp_min (cl (S (cl y))) (nS M)))) (43 + 4 * x_)))), (g_, .inl (cI, 8, .inl (fun x_ => (sp_fM (fd_sh B y) M (sp_lyM M C (cl y) (sp_min (cl (S (cl y))) (nS M)))) (43 + 4 * x_ + 1)))), (i_, .inl (cI, 8, .inl (fun x_ => (sp_fM (fd_sh B y) M (sp_lyM M C (cl y) (sp_min (cl (S (cl y))) (nS M)))) (43 + 4 * x_ + 2)))), (f_, .inl (cI, 8, .inl (fun x_ => (sp_fM (fd_sh B y) M (sp_lyM M C (cl y) (sp_min (cl (S (cl y))) (nS M)))) (43 + 4 * x_ + 3)))), (sh0, .inr (1, [.ref sb0, .ref ss0, .ref sc0])), (sb0, .inl (cI, 4, .inl B)), (ss0, .inl (cI, 4, .inl S)), (sc0, .inl (cJ, 160, .inr (.inl C))), (fd0, .inl (cI, 7, .inl (sp_ff F (fd_sh B y))))] (some (.int (sp_fr (fd_sh B y) (nI (sp_lyN C (cl y) (sp_min (cl (S (cl y))) (nS M))))))) (hz_a [(x0, .inr (3, [.ref a0, .ref kc0, .ref tc0, .ref tp0, .ref sh0, .ref fd0, .int (kf)])), (a0, .inr (0, [.int (M 0), .int (M 1), .ref k_, .ref p_, .ref t_, .ref h_, .ref w_, .int (M 2), .ref b_, .ref g_, .ref i_, .ref f_])), (k_, .inl (cI, 8, .inl (fun x_ => M (3 + 5 * x_)))), (p_, .inl (cI, 8, .inl (fun x_ => M (3 + 5 * x_ + 1)))), (t_, .inl (cI, 8, .inl (fun x_ => M (3 + 5 * x_ + 2)))), (h_, .inl (cI, 8, .inl (fun x_ => M (3 + 5 * x_ + 3)))), (w_, .inl (cI, 8, .inl (fun x_ => M (3 + 5 * x_ + 4)))), (b_, .inl (cI, 8, .inl (fun x_ => M (43 + 4 * x_)))), (g_, .inl (cI, 8, .inl (fun x_ => M (43 + 4 * x_ + 1)))), (i_, .inl (cI, 8, .inl (fun x_ => M (43 + 4 * x_ + 2)))), (f_, .inl (cI, 8, .inl (fun x_ => M (43 + 4 * x_ + 3)))), (sh0, .inr (1, [.ref sb0, .ref ss0, .ref sc0])), (sb0, .inl (cI, 4, .inl B)), (ss0, .inl (cI, 4, .inl S)), (sc0, .inl (cJ, 160, .inr (.inl C))), (fd0, .inl (cI, 7, .inl F))])) ([.ref x0, .int (y)] : List Value).toArray s 0 0 (hz_a [(x0, .inr (3, [.ref a0, .ref kc0, .ref tc0, .ref tp0, .ref sh0, .ref fd0, .int (kf)])), (a0, .inr (0, [.int (M 0), .int (M 1), .ref k_, .ref p_, .ref t_, .ref h_, .ref w_, .int (M 2), .ref b_, .ref g_, .ref i_, .ref f_])), (k_, .inl (cI, 8, .inl (fun x_ => M (3 + 5 * x_)))), (p_, .inl (cI, 8, .inl (fun x_ => M (3 + 5 * x_ + 1)))), (t_, .inl (cI, 8, .inl (fun x_ => M (3 + 5 * x_ + 2)))), (h_, .inl (cI, 8, .inl (fun x_ => M (3 + 5 * x_ + 3)))), (w_, .inl (cI, 8, .inl (fun x_ => M (3 + 5 * x_ + 4)))), (b_, .inl (cI, 8, .inl (fun x_ => M (43 + 4 * x_)))), (g_, .inl (cI, 8, .inl (fun x_ => M (43 + 4 * x_ + 1)))), (i_, .inl (cI, 8, .inl (fun x_ => M (43 + 4 * x_ + 2)))), (f_, .inl (cI, 8, .inl (fun x_ => M (43 + 4 * x_ + 3)))), (sh0, .inr (1, [.ref sb0, .ref ss0, .ref sc0])), (sb0, .inl (cI, 4, .inl B)), (ss0, .inl (cI, 4, .inl S)), (sc0, .inl (cJ, 160, .inr (.inl C))), (fd0, .inl (cI, 7, .inl F))])) (F0 m 21 ls []) := by
      intro nn
      induction nn with
      | zero => intro k ls H locs hnn hk1 hk2 hl hP hD hS; exact absurd hnn (Nat.not_lt_zero _)
      | succ nn ihloop =>
        intro k ls H locs hnn hk1 hk2 hl hP hD hS
        have hkN := lyN_le C j k
        refine lv_iload hx hb dX3_lays_21 (lv_at hl 0 rfl) ?_
        refine lv_aload_n hx hb dX3_lays_23 rfl (lv_at hl 3 rfl) ?_
        refine va_get hx hb hts hinX3 hown hK hP 0 rfl rfl 4 (by decide) wd1 (fun _ h => h) rfl dX3_lays_24 ?_
        refine va_get hx hb hts hinX1 hown hK hP 11 rfl rfl 1 (by decide) wd2 (fun _ h => h) rfl dX3_lays_27 ?_
        refine lv_iload_n hx hb dX3_lays_30 rfl (lv_at hl 4 rfl) ?_
        refine hz_iald (j := j) hx hb hK hP 13 0 rfl rfl (by omega) (Nat.le_of_ble_eq_true rfl) dX3_lays_31 ?_
        refine hz_ct (y := nI (cl (S j))) hSj ?_
        refine hz_icmp_ge (tgt := 97) (by omega) (by omega) hx hb dX3_lays_32 (by decide) (fun c32 => ?_) (fun c32 => ?_)
        · refine lv_iload_n hx hb dX3_lays_97 rfl (lv_at hl 1 rfl) ?_
          refine hz_ei hx hb hr hlocks rfl ?_ hS (by rw [show fd_sh B y = none from (if_pos hy4).trans (if_neg (by rw [hcj]; exact hb0))]; exact fr_n (by rw [hcj, (show sp_min (cl (S j)) (nS M) = k by unfold sp_min; split <;> omega)])) dX3_lays_98
          rw [show fd_sh B y = none from (if_pos hy4).trans (if_neg (by rw [hcj]; exact hb0))]
          rw [hcj, (show sp_min (cl (S j)) (nS M) = k by unfold sp_min; split <;> omega)]
          refine va_P.app (hP.sub [0] rfl) (va_P.app (cg_of (hP.sub [1, 2, 3, 4, 5, 6, 7, 8, 9, 10] rfl) (sp_lyM M C j k) (ly_o M C j _ _ (fun q hq => by omega)).symm (ly_o M C j _ _ (fun q hq => by omega)).symm (ly_o M C j _ _ (fun q hq => by omega)).symm ?_ ?_ ?_ ?_ ?_ ?_ ?_ ?_ (fun x hx => rfl)) (hP.sub [11, 12, 13, 14, 15] rfl)) <;> (intro x hx; exact (ly_o M C j _ _ (fun q hq => by omega)).symm)
        · refine lv_iload hx hb dX3_lays_35 (lv_at hl 0 rfl) ?_
          refine lv_aload_n hx hb dX3_lays_37 rfl (lv_at hl 3 rfl) ?_
          refine va_get hx hb hts hinX3 hown hK hP 0 rfl rfl 0 (by decide) wd3 (fun _ h => h) rfl dX3_lays_38 ?_
          refine va_get hx hb hts hinX0 hown hK hP 1 rfl rfl 7 (by decide) wd4 (fun _ h => h) rfl dX3_lays_41 ?_
          refine hz_ct (y := nI (nS M)) hM2 ?_
          refine hz_icmp_ge (tgt := 97) (by omega) (by omega) hx hb dX3_lays_44 (by decide) (fun c44 => ?_) (fun c44 => ?_)
          · refine lv_iload_n hx hb dX3_lays_97 rfl (lv_at hl 1 rfl) ?_
            refine hz_ei hx hb hr hlocks rfl ?_ hS (by rw [show fd_sh B y = none from (if_pos hy4).trans (if_neg (by rw [hcj]; exact hb0))]; exact fr_n (by rw [hcj, (show sp_min (cl (S j)) (nS M) = k by unfold sp_min; split <;> omega)])) dX3_lays_98
            rw [show fd_sh B y = none from (if_pos hy4).trans (if_neg (by rw [hcj]; exact hb0))]
            rw [hcj, (show sp_min (cl (S j)) (nS M) = k by unfold sp_min; split <;> omega)]
            refine va_P.app (hP.sub [0] rfl) (va_P.app (cg_of (hP.sub [1, 2, 3, 4, 5, 6, 7, 8, 9, 10] rfl) (sp_lyM M C j k) (ly_o M C j _ _ (fun q hq => by omega)).symm (ly_o M C j _ _ (fun q hq => by omega)).symm (ly_o M C j _ _ (fun q hq => by omega)).symm ?_ ?_ ?_ ?_ ?_ ?_ ?_ ?_ (fun x hx => rfl)) (hP.sub [11, 12, 13, 14, 15] rfl)) <;> (intro x hx; exact (ly_o M C j _ _ (fun q hq => by omega)).symm)
          · refine lv_aload_n hx hb dX3_lays_47 rfl (lv_at hl 3 rfl) ?_
            refine va_get hx hb hts hinX3 hown hK hP 0 rfl rfl 4 (by decide) wd1 (fun _ h => h) rfl dX3_lays_48 ?_
            refine lv_iload_n hx hb dX3_lays_51 rfl (lv_at hl 4 rfl) ?_
            refine lv_iload hx hb dX3_lays_52 (lv_at hl 0 rfl) ?_
            refine hz_cv (As := [.int (nI j), .int (nI k)]) (rest := []) ⟨hx, hb, hml, hown, hts⟩ (c1_numberAt l D cI cJ (sh0 := sh0) (sb0 := sb0) (ss0 := ss0) (sc0 := sc0) (C := C) (j := j) (k := k) (hj := by omega) (hk := by omega)) (cwV 2 hts gX3_lays_X1_numberAt rfl rfl rfl (by decide +kernel) ⟨Nat.le_of_ble_eq_true rfl, Nat.le_of_ble_eq_true rfl⟩) hK hP [11, 14] rfl [0, 1] rfl 11 rfl rfl rfl rfl hl.1 rfl (Nat.le_of_ble_eq_true rfl) dX3_lays_54 ⟨Nat.zero_le _, Nat.zero_le _⟩ ?_
            refine lv_lstore (lv' := [(5, .long (C (40 * j + k))), (4, .int (nI k)), (3, .int (nI (sp_lyN C j k))), (2, .int (nI 0)), (0, .ref x0), (1, .int (nI j))]) hx hb dX3_lays_57 hl (by decide) rfl (fun ls hl => ?_)
            refine lv_lload hx hb dX3_lays_59 (lv_at hl 0 rfl) ?_
            refine lv_lconst (v := 0) hx hb dX3_lays_61 (by decide) ?_
            refine W.lcmp hx hb dX3_lays_62 ?_
            refine hz_ifl_lt (tgt := 91) hx hb dX3_lays_63 (by decide) (fun c63 => ?_) (fun c63 => ?_)
            · refine lv_iinc (v := nI (k + 1)) (lv' := [(4, .int (nI (k + 1))), (5, .long (C (40 * j + k))), (3, .int (nI (sp_lyN C j k))), (2, .int (nI 0)), (0, .ref x0), (1, .int (nI j))]) hx hb dX3_lays_91 hl (k := 1) rfl (nI_1 _) (by decide) rfl (fun ls hl => ?_)
              refine lv_goto (tgt := 21) hx hb dX3_lays_94 (by decide) ?_
              have cc : ¬ sp_f99 (C (40 * j + k)) := fun q => (f99_i.mp q).1 c63
              have hP := hz_sw hP 10 rfl (g := fun x_ => (sp_lyM M C j (k + 1)) (43 + 4 * x_ + 3)) (fun x hx => by rw [lyM_f cc])
              exact ihloop (k + 1) ls _ _ (by omega) (by omega) (by omega) (by rw [lyN_f cc]; exact lv_sub hl [0, 2, 3, 4, 5] rfl) hP (hz_D_a2 hD rfl) hS
            · refine lv_lload hx hb dX3_lays_66 (lv_at hl 0 rfl) ?_
              refine lv_ldc2 (v := 99) hx hb hown wd5 dX3_lays_68 ?_
              refine W.lcmp hx hb dX3_lays_71 ?_
              refine hz_ifl_gt (tgt := 91) hx hb dX3_lays_72 (by decide) (fun c72 => ?_) (fun c72 => ?_)
              · refine lv_iinc (v := nI (k + 1)) (lv' := [(4, .int (nI (k + 1))), (5, .long (C (40 * j + k))), (3, .int (nI (sp_lyN C j k))), (2, .int (nI 0)), (0, .ref x0), (1, .int (nI j))]) hx hb dX3_lays_91 hl (k := 1) rfl (nI_1 _) (by decide) rfl (fun ls hl => ?_)
                refine lv_goto (tgt := 21) hx hb dX3_lays_94 (by decide) ?_
                have cc : ¬ sp_f99 (C (40 * j + k)) := fun q => (f99_i.mp q).2 c72
                have hP := hz_sw hP 10 rfl (g := fun x_ => (sp_lyM M C j (k + 1)) (43 + 4 * x_ + 3)) (fun x hx => by rw [lyM_f cc])
                exact ihloop (k + 1) ls _ _ (by omega) (by omega) (by omega) (by rw [lyN_f cc]; exact lv_sub hl [0, 2, 3, 4, 5] rfl) hP (hz_D_a2 hD rfl) hS
              · refine lv_aload_n hx hb dX3_lays_75 rfl (lv_at hl 4 rfl) ?_
                refine va_get hx hb hts hinX3 hown hK hP 0 rfl rfl 0 (by decide) wd3 (fun _ h => h) rfl dX3_lays_76 ?_
                refine va_get hx hb hts hinX0 hown hK hP 1 rfl rfl 11 (by decide) wd6 (fun _ h => h) rfl dX3_lays_79 ?_
                refine lv_iload hx hb dX3_lays_82 (lv_at hl 1 rfl) ?_
                refine lv_lload hx hb dX3_lays_84 (lv_at hl 0 rfl) ?_
                refine lv_l2i (v := (C (40 * j + k)).toInt32) hx hb dX3_lays_86 rfl ?_
                refine hz_iast (j := k) hx hb hK hP hD hS 10 0 rfl rfl (by omega) (Nat.le_of_ble_eq_true rfl) dX3_lays_87 (w' := [(x0, .inr (3, [.ref a0, .ref kc0, .ref tc0, .ref tp0, .ref sh0, .ref fd0, .int (kf)])), (a0, .inr (0, [.int (M 0), .int (M 1), .ref k_, .ref p_, .ref t_, .ref h_, .ref w_, .int (M 2), .ref b_, .ref g_, .ref i_, .ref f_])), (k_, .inl (cI, 8, .inl (fun x_ => M (3 + 5 * x_)))), (p_, .inl (cI, 8, .inl (fun x_ => M (3 + 5 * x_ + 1)))), (t_, .inl (cI, 8, .inl (fun x_ => M (3 + 5 * x_ + 2)))), (h_, .inl (cI, 8, .inl (fun x_ => M (3 + 5 * x_ + 3)))), (w_, .inl (cI, 8, .inl (fun x_ => M (3 + 5 * x_ + 4)))), (b_, .inl (cI, 8, .inl (fun x_ => M (43 + 4 * x_)))), (g_, .inl (cI, 8, .inl (fun x_ => M (43 + 4 * x_ + 1)))), (i_, .inl (cI, 8, .inl (fun x_ => M (43 + 4 * x_ + 2)))), (f_, .inl (cI, 8, .inl (upd (fun x_ => (sp_lyM M C j k) (43 + 4 * x_ + 3)) k ((C (40 * j + k)).toInt32)))), (sh0, .inr (1, [.ref sb0, .ref ss0, .ref sc0])), (sb0, .inl (cI, 4, .inl B)), (ss0, .inl (cI, 4, .inl S)), (sc0, .inl (cJ, 160, .inr (.inl C))), (fd0, .inl (cI, 7, .inl F))]) rfl (fun H locs hP hD hS => ?_)
                refine lv_iinc (v := nI (sp_lyN C j k + 1)) (lv' := [(3, .int (nI (sp_lyN C j k + 1))), (5, .long (C (40 * j + k))), (4, .int (nI k)), (2, .int (nI 0)), (0, .ref x0), (1, .int (nI j))]) hx hb dX3_lays_88 hl (k := 2) rfl (nI_1 _) (by decide) rfl (fun ls hl => ?_)
                refine lv_iinc (v := nI (k + 1)) (lv' := [(4, .int (nI (k + 1))), (3, .int (nI (sp_lyN C j k + 1))), (5, .long (C (40 * j + k))), (2, .int (nI 0)), (0, .ref x0), (1, .int (nI j))]) hx hb dX3_lays_91 hl (k := 2) rfl (nI_1 _) (by decide) rfl (fun ls hl => ?_)
                refine lv_goto (tgt := 21) hx hb dX3_lays_94 (by decide) ?_
                have cc := f99_i.mpr ⟨c63, c72⟩
                have hP := hz_sw hP 10 rfl (g := fun x_ => (sp_lyM M C j (k + 1)) (43 + 4 * x_ + 3)) (fun x hx => by rw [lyM_t cc]; exact hz_u4)
                exact ihloop (k + 1) ls _ _ (by omega) (by omega) (by omega) (by rw [lyN_t cc]; exact lv_sub hl [0, 1, 3, 4, 5] rfl) hP (hz_D_a2 hD rfl) hS
    exact loop _ 0 ls _ _ (Nat.lt_succ_self _) (by omega) (by omega) (lv_sub hl [0, 1, 2, 3, 4] rfl) hP hD hS
