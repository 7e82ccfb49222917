set_option maxHeartbeats 4000000 in
set_option maxRecDepth 100000 in
theorem c2_tongues (l : Launch) (D : va_G) (cI cJ : ClassId) (tp0 tb0 : Nat) (a0 k_ p_ t_ h_ w_ b_ g_ i_ f_ : Nat) (s0 d0 z0 : Int32) (nu : Int32) (F : Nat → Int32) (T : Nat → Int32) (n : Nat) (q d q1 : Nat) (ok : Bool) (s1 : Int32) (hn : n ≤ 120) (hq : q ≤ n) (hd : d < 8) (ht : pz_tg T n 4 (nI 0) q = (q1, ok, s1)) : hz_MX l yX2_areTonguesTaken wsX2_areTonguesTaken { frames := 3, cells := 0, slots := 0, locals := 65 } [.ref tp0, .ref a0, .int (nI d)] D zcl [(cI, .int), (cJ, .long)] [(tp0, .inr (2, [.ref tb0, .int (nI n), .int (nI (pz_t T n q)), .int (nI (pz_b T n q)), .int (nI (pz_e T n q)), .int (pz_nu T n q nu)])), (tb0, .inl (cI, 120, .inl T)), (a0, .inr (0, [.int (s0), .int (d0), .ref k_, .ref p_, .ref t_, .ref h_, .ref w_, .int (z0), .ref b_, .ref g_, .ref i_, .ref f_])), (t_, .inl (cI, 8, .inl F))] (fun (u : Int32) => [(tp0, .inr (2, [.ref tb0, .int (nI n), .int (nI (pz_t T n q1)), .int (nI (pz_b T n q1)), .int (nI (pz_e T n q1)), .int (pz_nu T n q1 u)])), (tb0, .inl (cI, 120, .inl T)), (a0, .inr (0, [.int (s0), .int (d0), .ref k_, .ref p_, .ref t_, .ref h_, .ref w_, .int (z0), .ref b_, .ref g_, .ref i_, .ref f_])), (t_, .inl (cI, 8, .inl (pz_if ok (upd F d s1) F)))]) (some (.int (pz_gd ok))) := by
  refine hz_mx (cc := cX2_areTonguesTaken) (maxL := 5) (ret := (some .boolean)) (by decide) rfl (Nat.le_of_ble_eq_true rfl) ?_
  intro p e s m below meth c hx hb hr hts hown hlocks hml hP hK hD ls hl
  have hS : va_S (hz_a [(tp0, .inr (2, [.ref tb0, .int (nI n), .int (nI (pz_t T n q)), .int (nI (pz_b T n q)), .int (nI (pz_e T n q)), .int (pz_nu T n q nu)])), (tb0, .inl (cI, 120, .inl T)), (a0, .inr (0, [.int (s0), .int (d0), .ref k_, .ref p_, .ref t_, .ref h_, .ref w_, .int (z0), .ref b_, .ref g_, .ref i_, .ref f_])), (t_, .inl (cI, 8, .inl F))]) s.heap s.heap [] := va_S.rf
  have hown : s.vm.findClass RX2 = some m.cls := hown
  have hl : lv_has ls 5 [(0, .ref tp0), (1, .ref a0), (2, .int (nI d))] := hl
  have hinX0 : ∀ w ∈ u_ws RX0 TX0 12, w ∈ wsX2_areTonguesTaken := fun w h => List.mem_cons_of_mem _ (List.mem_append_right _ (h))
  have hinX2 : ∀ w ∈ u_ws RX2 TX2 6, w ∈ wsX2_areTonguesTaken := fun w h => List.mem_cons_of_mem _ (List.mem_append_left _ (List.mem_append_right _ (h)))
  have wd1 := hts (.fieldLink RX2 29 "HurtSpeech$Tape" "token" "I") (List.mem_of_getElem? (i := 1) rfl)
  have wd2 := hts (.fieldLink RX2 72 "HurtSpeech$Tape" "number" "I") (List.mem_of_getElem? (i := 2) rfl)
  have wd3 := hts (.fieldLink RX2 80 "HurtSpeech$Congress" "tongues" "[I") (List.mem_of_getElem? (i := 3) rfl)
  refine lv_iconst (v := nI 0) hx hb dX2_areTonguesTaken_0 (by decide) ?_
  refine lv_istore_n (lv' := [(3, .int (nI 0)), (0, .ref tp0), (1, .ref a0), (2, .int (nI d))]) hx hb dX2_areTonguesTaken_1 rfl hl (by decide) rfl (fun ls hl => ?_)
  refine lv_iconst (v := nI 0) hx hb dX2_areTonguesTaken_2 (by decide) ?_
  refine lv_istore (lv' := [(4, .int (nI 0)), (3, .int (nI 0)), (0, .ref tp0), (1, .ref a0), (2, .int (nI d))]) hx hb dX2_areTonguesTaken_3 hl (by decide) rfl (fun ls hl => ?_)
  have loop : ∀ (nn : Nat) (q_ : Nat) (m_ : Nat) (s_ : Int32) (nu_ : Int32) (ls : Array Slot) (H : Heap) (locs : List Loc), 4 - m_ < nn → (m_ ≤ 4) → (q_ ≤ n) → (pz_tg T n (4 - m_) s_ q_ = pz_tg T n 4 (nI 0) q) → lv_has ls 5 [(4, .int (nI m_)), (3, .int (s_)), (0, .ref tp0), (1, .ref a0), (2, .int (nI d))] → va_P D zcl [(tp0, .inr (2, [.ref tb0, .int (nI n), .int (nI (pz_t T n q_)), .int (nI (pz_b T n q_)), .int (nI (pz_e T n q_)), .int (pz_nu T n q_ nu_)])), (tb0, .inl (cI, 120, .inl T)), (a0, .inr (0, [.int (s0), .int (d0), .ref k_, .ref p_, .ref t_, .ref h_, .ref w_, .int (z0), .ref b_, .ref g_, .ref i_, .ref f_])), (t_, .inl (cI, 8, .inl F))] H → va_D (hz_a [(tp0, .inr (2, [.ref tb0, .int (nI n), .int (nI (pz_t T n q)), .int (nI (pz_b T n q)), .int (nI (pz_e T n q)), .int (pz_nu T n q nu)])), (tb0, .inl (cI, 120, .inl T)), (a0, .inr (0, [.int (s0), .int (d0), .ref k_, .ref p_, .ref t_, .ref h_, .ref w_, .int (z0), .ref b_, .ref g_, .ref i_, .ref f_])), (t_, .inl (cI, 8, .inl F))]) [(tp0, .inr (2, [.ref tb0, .int (nI n), .int (nI (pz_t T n q_)), .int (nI (pz_b T n q_)), .int (nI (pz_e T n q_)), .int (pz_nu T n q_ nu_)])), (tb0, .inl (cI, 120, .inl T)), (a0, .inr (0, [.int (s0), .int (d0), .ref k_, .ref p_, .ref t_, .ref h_, .ref w_, .int (z0), .ref b_, .ref g_, .ref i_, .ref f_])), (t_, .inl (cI, 8, .inl F))] → va_S (hz_a [(tp0, .inr (2, [.ref tb0, .int (nI n), .int (nI (pz_t T n q)), .int (nI (pz_b T n q)), .int (nI (pz_e T n q)), .int (pz_nu T n q nu)])), (tb0, .inl (cI, 120, .inl T)), (a0, .inr (0, [.int (s0), .int (d0), .ref k_, .ref p_, .ref t_, .ref h_, .ref w_, .int (z0), .ref b_, .ref g_, .ref i_, .ref f_])), (t_, .inl (cI, 8, .inl F))]) s.heap H locs → W p l e (headSpec wsX2_areTonguesTaken { frames := 3, cells := 0, slots := 0, locals := 65 }).room s m ([.ref tp0, .ref a0, .int (nI d)] : List Value).toArray below meth c H locs 0 0 (MQ below (hz_X D zcl (fun (u : Int32) => [(tp0, .inr (2, [.ref tb0, .int (nI n), .int (nI (pz_t T n q1)), .int (nI (pz_b T n q1)), .int (nI (pz_e T n q1)), .int (pz_nu T n q1 u)])), (tb0, .inl (cI, 120, .inl T)), (a0, .inr (0, [.int (s0), .int (d0), .ref k_, .ref p_, .ref t_, .ref h_, .ref w_, .int (z0), .ref b_, .ref g_, .ref i_, .ref f_])), (t_, .inl (cI, 8, .inl (pz_if ok (upd F d s1) F)))]) (some (.int (pz_gd ok))) (hz_a [(tp0, .inr (2, [.ref tb0, .int (nI n), .int (nI (pz_t T n q)), .int (nI (pz_b T n q)), .int (nI (pz_e T n q)), .int (pz_nu T n q nu)])), (tb0, .inl (cI, 120, .inl T)), (a0, .inr (0, [.int (s0), .int (d0), .ref k_, .ref p_, .ref t_, .ref h_, .ref w_, .int (z0), .ref b_, .ref g_, .ref i_, .ref f_])), (t_, .inl (cI, 8, .inl F))])) ([.ref tp0, .ref a0, .int (nI d)] : List Value).toArray s 0 0 (hz_a [(tp0, .inr (2, [.ref tb0, .int (nI n), .int (nI (pz_t T n q)), .int (nI (pz_b T n q)), .int (nI (pz_e T n q)), .int (pz_nu T n q nu)])), (tb0, .inl (cI, 120, .inl T)), (a0, .inr (0, [.int (s0), .int (d0), .ref k_, .ref p_, .ref t_, .ref h_, .ref w_, .int (z0), .ref b_, .ref g_, .ref i_, .ref f_])), (t_, .inl (cI, 8, .inl F))])) (F0 m 5 ls []) := by
    intro nn
    induction nn with
    | zero => intro q_ m_ s_ nu_ ls H locs hnn hm hqn hrr hl hP hD hS; exact absurd hnn (Nat.not_lt_zero _)
    | succ nn ihloop =>
      intro q_ m_ s_ nu_ ls H locs hnn hm hqn hrr hl hP hD hS
      have hz1 := pz_t_le T n q_
      have hq3 := pz_e_le (T := T) hqn
      refine lv_iload hx hb dX2_areTonguesTaken_5 (lv_at hl 0 rfl) ?_
      refine lv_iconst (v := nI 4) hx hb dX2_areTonguesTaken_7 (by decide) ?_
      refine hz_icmp_ge (tgt := 56) (by omega) (by omega) hx hb dX2_areTonguesTaken_8 (by decide) (fun c8 => ?_) (fun c8 => ?_)
      · have e3 := pz_tri ((show pz_tg T n (4 - m_) s_ q_ = (q_, true, s_) by rw [show 4 - m_ = 0 by omega]; rfl).symm.trans (hrr.trans ht))
        refine lv_aload_n hx hb dX2_areTonguesTaken_56 rfl (lv_at hl 3 rfl) ?_
        refine va_get hx hb hts hinX0 hown hK hP 2 rfl rfl 4 (by decide) wd3 (fun _ h => h) rfl dX2_areTonguesTaken_57 ?_
        refine lv_iload_n hx hb dX2_areTonguesTaken_60 rfl (lv_at hl 4 rfl) ?_
        refine lv_iload_n hx hb dX2_areTonguesTaken_61 rfl (lv_at hl 1 rfl) ?_
        refine hz_iast (j := d) hx hb hK hP hD hS 3 0 rfl rfl (by omega) (Nat.le_of_ble_eq_true rfl) dX2_areTonguesTaken_62 (w' := [(tp0, .inr (2, [.ref tb0, .int (nI n), .int (nI (pz_t T n q_)), .int (nI (pz_b T n q_)), .int (nI (pz_e T n q_)), .int (pz_nu T n q_ nu_)])), (tb0, .inl (cI, 120, .inl T)), (a0, .inr (0, [.int (s0), .int (d0), .ref k_, .ref p_, .ref t_, .ref h_, .ref w_, .int (z0), .ref b_, .ref g_, .ref i_, .ref f_])), (t_, .inl (cI, 8, .inl (upd F d s_)))]) rfl (fun H locs hP hD hS => ?_)
        refine lv_iconst (v := nI 1) hx hb dX2_areTonguesTaken_63 (by decide) ?_
        refine hz_xi hx hb hr hlocks rfl (nu_) ?_ hS (by rw [← e3.2.1]; rfl) dX2_areTonguesTaken_64
        rw [← e3.1, ← e3.2.1, ← e3.2.2]
        exact hP
      · refine lv_iload hx hb dX2_areTonguesTaken_11 (lv_at hl 0 rfl) ?_
        refine hz_ifn_le (tgt := 27) (by omega) hx hb dX2_areTonguesTaken_13 (by decide) (fun c13 => ?_) (fun c13 => ?_)
        · refine lv_aload_n hx hb dX2_areTonguesTaken_27 rfl (lv_at hl 2 rfl) ?_
          refine lv_iconst (v := nI 4) hx hb dX2_areTonguesTaken_28 (by decide) ?_
          refine hz_cv (As := [.int (nI 4)]) (rest := []) ⟨hx, hb, hml, hown, hts⟩ (c2_below l D cI cJ (tp0 := tp0) (tb0 := tb0) (sa := nI (pz_b T n q_)) (so := nI (pz_e T n q_)) (nu := pz_nu T n q_ nu_) (t := pz_t T n q_) (n := n) (h := 4) (ht := by omega)) (cwV 1 hts gX2_areTonguesTaken_X2_isNumberBelow rfl rfl rfl (by decide +kernel) ⟨Nat.le_of_ble_eq_true rfl, Nat.le_of_ble_eq_true rfl⟩) hK hP [0] rfl [0, 1] rfl 0 rfl rfl rfl rfl hl.1 rfl (Nat.le_of_ble_eq_true rfl) dX2_areTonguesTaken_29 ⟨Nat.zero_le _, Nat.zero_le _⟩ ?_
          refine hz_ifb_ne (tgt := 37) hx hb dX2_areTonguesTaken_32 (by decide) (fun c32 => ?_) (fun c32 => ?_)
          · have hnb := (pz_nk (by decide)).mp c32
            refine lv_iload_n hx hb dX2_areTonguesTaken_37 rfl (lv_at hl 1 rfl) ?_
            refine lv_iconst (v := nI 1) hx hb dX2_areTonguesTaken_38 (by decide) ?_
            refine lv_aload_n hx hb dX2_areTonguesTaken_39 rfl (lv_at hl 2 rfl) ?_
            refine va_get hx hb hts hinX2 hown hK hP 0 rfl rfl 5 (by decide) wd2 (fun _ h => h) rfl dX2_areTonguesTaken_40 ?_
            refine hz_ct (y := nI (pz_v T n q_)) (pz_nuv (by decide) hnb) ?_
            refine lv_ishl hx hb dX2_areTonguesTaken_43 ?_
            refine lv_ior hx hb dX2_areTonguesTaken_44 ?_
            refine lv_istore_n (lv' := [(3, .int (s_ ||| ((nI 1) <<< ((nI (pz_v T n q_)) &&& 31)))), (4, .int (nI m_)), (0, .ref tp0), (1, .ref a0), (2, .int (nI d))]) hx hb dX2_areTonguesTaken_45 rfl hl (by decide) rfl (fun ls hl => ?_)
            refine lv_aload_n hx hb dX2_areTonguesTaken_46 rfl (lv_at hl 2 rfl) ?_
            refine hz_ce (As := []) (rest := []) ⟨hx, hb, hml, hown, hts⟩ (c2_advance l D cI cJ (tp0 := tp0) (tb0 := tb0) (tk := nI (pz_t T n q_)) (sa := nI (pz_b T n q_)) (nu := pz_nu T n q_ nu_) (T := T) (n := n) (q := pz_e T n q_) (hn := by omega) (hq := by omega)) (cwV 0 hts gX2_areTonguesTaken_X2_advance rfl rfl rfl (by decide +kernel) ⟨Nat.le_of_ble_eq_true rfl, Nat.le_of_ble_eq_true rfl⟩) hK hP hD hS [0, 1] rfl (by decide) (hz_ha [tp0, tb0] rfl rfl) (w' := [(tp0, .inr (2, [.ref tb0, .int (nI n), .int (nI (pz_t T n (pz_e T n q_))), .int (nI (pz_b T n (pz_e T n q_))), .int (nI (pz_e T n (pz_e T n q_))), .int (pz_nu T n (pz_e T n q_) (pz_nu T n q_ nu_))])), (tb0, .inl (cI, 120, .inl T)), (a0, .inr (0, [.int (s0), .int (d0), .ref k_, .ref p_, .ref t_, .ref h_, .ref w_, .int (z0), .ref b_, .ref g_, .ref i_, .ref f_])), (t_, .inl (cI, 8, .inl F))]) (hz_pt_eq 4 [2, 3] [(a0, .inr (0, [.int (s0), .int (d0), .ref k_, .ref p_, .ref t_, .ref h_, .ref w_, .int (z0), .ref b_, .ref g_, .ref i_, .ref f_])), (t_, .inl (cI, 8, .inl F))] rfl rfl rfl rfl rfl rfl rfl) [0, 1] rfl 0 rfl rfl rfl rfl hl.1 rfl (Nat.le_of_ble_eq_true rfl) dX2_areTonguesTaken_47 ⟨Nat.zero_le _, Nat.zero_le _⟩ (fun H locs hP hD hS => ?_)
            refine W.eq (g2 := F0 m 50 ls []) rfl ?_
            refine lv_iinc (v := nI (m_ + 1)) (lv' := [(4, .int (nI (m_ + 1))), (3, .int (s_ ||| ((nI 1) <<< ((nI (pz_v T n q_)) &&& 31)))), (0, .ref tp0), (1, .ref a0), (2, .int (nI d))]) hx hb dX2_areTonguesTaken_50 hl (k := 1) rfl (nI_1 _) (by decide) rfl (fun ls hl => ?_)
            refine lv_goto (tgt := 5) hx hb dX2_areTonguesTaken_53 (by decide) ?_
            exact ihloop (pz_e T n q_) (m_ + 1) (s_ ||| ((nI 1) <<< ((nI (pz_v T n q_)) &&& 31))) (pz_nu T n q_ nu_) ls _ _ (by omega) (by omega) (pz_e_le hqn) ((pz_tg_y (by omega) hnb).symm.trans hrr) (lv_sub hl [0, 1, 2, 3, 4] rfl) hP hD hS
          · have e3 := pz_tri ((pz_tg_n (set := s_) c8 (by first | exact Or.inl (by omega) | exact Or.inr (pz_k20.mpr c21)) (fun z => c32 ((pz_nk (by decide)).mpr z))).symm.trans (hrr.trans ht))
            refine lv_iconst (v := nI 0) hx hb dX2_areTonguesTaken_35 (by decide) ?_
            refine hz_xi hx hb hr hlocks rfl (nu_) ?_ hS (by rw [← e3.2.1]; rfl) dX2_areTonguesTaken_36
            rw [← e3.1, ← e3.2.1, ← e3.2.2]
            exact hP
        · refine lv_aload_n hx hb dX2_areTonguesTaken_16 rfl (lv_at hl 2 rfl) ?_
          refine va_get hx hb hts hinX2 hown hK hP 0 rfl rfl 2 (by decide) wd1 (fun _ h => h) rfl dX2_areTonguesTaken_17 ?_
          refine lv_iconst (v := nI 2) hx hb dX2_areTonguesTaken_20 (by decide) ?_
          refine hz_icmp_eq (tgt := 27) (by omega) (by omega) hx hb dX2_areTonguesTaken_21 (by decide) (fun c21 => ?_) (fun c21 => ?_)
          · refine lv_aload_n hx hb dX2_areTonguesTaken_27 rfl (lv_at hl 2 rfl) ?_
            refine lv_iconst (v := nI 4) hx hb dX2_areTonguesTaken_28 (by decide) ?_
            refine hz_cv (As := [.int (nI 4)]) (rest := []) ⟨hx, hb, hml, hown, hts⟩ (c2_below l D cI cJ (tp0 := tp0) (tb0 := tb0) (sa := nI (pz_b T n q_)) (so := nI (pz_e T n q_)) (nu := pz_nu T n q_ nu_) (t := pz_t T n q_) (n := n) (h := 4) (ht := by omega)) (cwV 1 hts gX2_areTonguesTaken_X2_isNumberBelow rfl rfl rfl (by decide +kernel) ⟨Nat.le_of_ble_eq_true rfl, Nat.le_of_ble_eq_true rfl⟩) hK hP [0] rfl [0, 1] rfl 0 rfl rfl rfl rfl hl.1 rfl (Nat.le_of_ble_eq_true rfl) dX2_areTonguesTaken_29 ⟨Nat.zero_le _, Nat.zero_le _⟩ ?_
            refine hz_ifb_ne (tgt := 37) hx hb dX2_areTonguesTaken_32 (by decide) (fun c32 => ?_) (fun c32 => ?_)
            · have hnb := (pz_nk (by decide)).mp c32
              refine lv_iload_n hx hb dX2_areTonguesTaken_37 rfl (lv_at hl 1 rfl) ?_
              refine lv_iconst (v := nI 1) hx hb dX2_areTonguesTaken_38 (by decide) ?_
              refine lv_aload_n hx hb dX2_areTonguesTaken_39 rfl (lv_at hl 2 rfl) ?_
              refine va_get hx hb hts hinX2 hown hK hP 0 rfl rfl 5 (by decide) wd2 (fun _ h => h) rfl dX2_areTonguesTaken_40 ?_
              refine hz_ct (y := nI (pz_v T n q_)) (pz_nuv (by decide) hnb) ?_
              refine lv_ishl hx hb dX2_areTonguesTaken_43 ?_
              refine lv_ior hx hb dX2_areTonguesTaken_44 ?_
              refine lv_istore_n (lv' := [(3, .int (s_ ||| ((nI 1) <<< ((nI (pz_v T n q_)) &&& 31)))), (4, .int (nI m_)), (0, .ref tp0), (1, .ref a0), (2, .int (nI d))]) hx hb dX2_areTonguesTaken_45 rfl hl (by decide) rfl (fun ls hl => ?_)
              refine lv_aload_n hx hb dX2_areTonguesTaken_46 rfl (lv_at hl 2 rfl) ?_
              refine hz_ce (As := []) (rest := []) ⟨hx, hb, hml, hown, hts⟩ (c2_advance l D cI cJ (tp0 := tp0) (tb0 := tb0) (tk := nI (pz_t T n q_)) (sa := nI (pz_b T n q_)) (nu := pz_nu T n q_ nu_) (T := T) (n := n) (q := pz_e T n q_) (hn := by omega) (hq := by omega)) (cwV 0 hts gX2_areTonguesTaken_X2_advance rfl rfl rfl (by decide +kernel) ⟨Nat.le_of_ble_eq_true rfl, Nat.le_of_ble_eq_true rfl⟩) hK hP hD hS [0, 1] rfl (by decide) (hz_ha [tp0, tb0] rfl rfl) (w' := [(tp0, .inr (2, [.ref tb0, .int (nI n), .int (nI (pz_t T n (pz_e T n q_))), .int (nI (pz_b T n (pz_e T n q_))), .int (nI (pz_e T n (pz_e T n q_))), .int (pz_nu T n (pz_e T n q_) (pz_nu T n q_ nu_))])), (tb0, .inl (cI, 120, .inl T)), (a0, .inr (0, [.int (s0), .int (d0), .ref k_, .ref p_, .ref t_, .ref h_, .ref w_, .int (z0), .ref b_, .ref g_, .ref i_, .ref f_])), (t_, .inl (cI, 8, .inl F))]) (hz_pt_eq 4 [2, 3] [(a0, .inr (0, [.int (s0), .int (d0), .ref k_, .ref p_, .ref t_, .ref h_, .ref w_, .int (z0), .ref b_, .ref g_, .ref i_, .ref f_])), (t_, .inl (cI, 8, .inl F))] rfl rfl rfl rfl rfl rfl rfl) [0, 1] rfl 0 rfl rfl rfl rfl hl.1 rfl (Nat.le_of_ble_eq_true rfl) dX2_areTonguesTaken_47 ⟨Nat.zero_le _, Nat.zero_le _⟩ (fun H locs hP hD hS => ?_)
              refine W.eq (g2 := F0 m 50 ls []) rfl ?_
              refine lv_iinc (v := nI (m_ + 1)) (lv' := [(4, .int (nI (m_ + 1))), (3, .int (s_ ||| ((nI 1) <<< ((nI (pz_v T n q_)) &&& 31)))), (0, .ref tp0), (1, .ref a0), (2, .int (nI d))]) hx hb dX2_areTonguesTaken_50 hl (k := 1) rfl (nI_1 _) (by decide) rfl (fun ls hl => ?_)
              refine lv_goto (tgt := 5) hx hb dX2_areTonguesTaken_53 (by decide) ?_
              exact ihloop (pz_e T n q_) (m_ + 1) (s_ ||| ((nI 1) <<< ((nI (pz_v T n q_)) &&& 31))) (pz_nu T n q_ nu_) ls _ _ (by omega) (by omega) (pz_e_le hqn) ((pz_tg_y (by omega) hnb).symm.trans hrr) (lv_sub hl [0, 1, 2, 3, 4] rfl) hP hD hS
            · have e3 := pz_tri ((pz_tg_n (set := s_) c8 (by first | exact Or.inl (by omega) | exact Or.inr (pz_k20.mpr c21)) (fun z => c32 ((pz_nk (by decide)).mpr z))).symm.trans (hrr.trans ht))
              refine lv_iconst (v := nI 0) hx hb dX2_areTonguesTaken_35 (by decide) ?_
              refine hz_xi hx hb hr hlocks rfl (nu_) ?_ hS (by rw [← e3.2.1]; rfl) dX2_areTonguesTaken_36
              rw [← e3.1, ← e3.2.1, ← e3.2.2]
              exact hP
          · refine lv_goto (tgt := 56) hx hb dX2_areTonguesTaken_24 (by decide) ?_
            have e3 := pz_tri ((pz_tg_x (by omega) hm (fun z => c21 (pz_k20.mp z))).symm.trans (hrr.trans ht))
            refine lv_aload_n hx hb dX2_areTonguesTaken_56 rfl (lv_at hl 3 rfl) ?_
            refine va_get hx hb hts hinX0 hown hK hP 2 rfl rfl 4 (by decide) wd3 (fun _ h => h) rfl dX2_areTonguesTaken_57 ?_
            refine lv_iload_n hx hb dX2_areTonguesTaken_60 rfl (lv_at hl 4 rfl) ?_
            refine lv_iload_n hx hb dX2_areTonguesTaken_61 rfl (lv_at hl 1 rfl) ?_
            refine hz_iast (j := d) hx hb hK hP hD hS 3 0 rfl rfl (by omega) (Nat.le_of_ble_eq_true rfl) dX2_areTonguesTaken_62 (w' := [(tp0, .inr (2, [.ref tb0, .int (nI n), .int (nI (pz_t T n q_)), .int (nI (pz_b T n q_)), .int (nI (pz_e T n q_)), .int (pz_nu T n q_ nu_)])), (tb0, .inl (cI, 120, .inl T)), (a0, .inr (0, [.int (s0), .int (d0), .ref k_, .ref p_, .ref t_, .ref h_, .ref w_, .int (z0), .ref b_, .ref g_, .ref i_, .ref f_])), (t_, .inl (cI, 8, .inl (upd F d s_)))]) rfl (fun H locs hP hD hS => ?_)
            refine lv_iconst (v := nI 1) hx hb dX2_areTonguesTaken_63 (by decide) ?_
            refine hz_xi hx hb hr hlocks rfl (nu_) ?_ hS (by rw [← e3.2.1]; rfl) dX2_areTonguesTaken_64
            rw [← e3.1, ← e3.2.1, ← e3.2.2]
            exact hP
  exact loop _ q 0 (nI 0) nu ls _ _ (Nat.lt_succ_self _) (by omega) hq rfl (lv_sub hl [0, 1, 2, 3, 4] rfl) hP hD hS
theorem c2_tongues_y (l : Launch) (D : va_G) (cI cJ : ClassId) (tp0 tb0 : Nat) (a0 k_ p_ t_ h_ w_ b_ g_ i_ f_ : Nat) (s0 d0 z0 : Int32) (nu : Int32) (F : Nat → Int32) (T : Nat → Int32) (n : Nat) (q d q1 : Nat) (s1 : Int32) (hn : n ≤ 120) (hq : q ≤ n) (hd : d < 8) (ht : pz_tg T n 4 (nI 0) q = (q1, true, s1)) : hz_MX l yX2_areTonguesTaken wsX2_areTonguesTaken { frames := 3, cells := 0, slots := 0, locals := 65 } [.ref tp0, .ref a0, .int (nI d)] D zcl [(cI, .int), (cJ, .long)] [(tp0, .inr (2, [.ref tb0, .int (nI n), .int (nI (pz_t T n q)), .int (nI (pz_b T n q)), .int (nI (pz_e T n q)), .int (pz_nu T n q nu)])), (tb0, .inl (cI, 120, .inl T)), (a0, .inr (0, [.int (s0), .int (d0), .ref k_, .ref p_, .ref t_, .ref h_, .ref w_, .int (z0), .ref b_, .ref g_, .ref i_, .ref f_])), (t_, .inl (cI, 8, .inl F))] (fun (u : Int32) => [(tp0, .inr (2, [.ref tb0, .int (nI n), .int (nI (pz_t T n q1)), .int (nI (pz_b T n q1)), .int (nI (pz_e T n q1)), .int (pz_nu T n q1 u)])), (tb0, .inl (cI, 120, .inl T)), (a0, .inr (0, [.int (s0), .int (d0), .ref k_, .ref p_, .ref t_, .ref h_, .ref w_, .int (z0), .ref b_, .ref g_, .ref i_, .ref f_])), (t_, .inl (cI, 8, .inl (upd F d s1)))]) (some (.int (nI 1))) := c2_tongues l D cI cJ tp0 tb0 a0 k_ p_ t_ h_ w_ b_ g_ i_ f_ s0 d0 z0 nu F T n q d q1 true s1 hn hq hd ht
theorem c2_tongues_n (l : Launch) (D : va_G) (cI cJ : ClassId) (tp0 tb0 : Nat) (a0 k_ p_ t_ h_ w_ b_ g_ i_ f_ : Nat) (s0 d0 z0 : Int32) (nu : Int32) (F : Nat → Int32) (T : Nat → Int32) (n : Nat) (q d q1 : Nat) (s1 : Int32) (hn : n ≤ 120) (hq : q ≤ n) (hd : d < 8) (ht : pz_tg T n 4 (nI 0) q = (q1, false, s1)) : hz_MX l yX2_areTonguesTaken wsX2_areTonguesTaken { frames := 3, cells := 0, slots := 0, locals := 65 } [.ref tp0, .ref a0, .int (nI d)] D zcl [(cI, .int), (cJ, .long)] [(tp0, .inr (2, [.ref tb0, .int (nI n), .int (nI (pz_t T n q)), .int (nI (pz_b T n q)), .int (nI (pz_e T n q)), .int (pz_nu T n q nu)])), (tb0, .inl (cI, 120, .inl T)), (a0, .inr (0, [.int (s0), .int (d0), .ref k_, .ref p_, .ref t_, .ref h_, .ref w_, .int (z0), .ref b_, .ref g_, .ref i_, .ref f_])), (t_, .inl (cI, 8, .inl F))] (fun (u : Int32) => [(tp0, .inr (2, [.ref tb0, .int (nI n), .int (nI (pz_t T n q1)), .int (nI (pz_b T n q1)), .int (nI (pz_e T n q1)), .int (pz_nu T n q1 u)])), (tb0, .inl (cI, 120, .inl T)), (a0, .inr (0, [.int (s0), .int (d0), .ref k_, .ref p_, .ref t_, .ref h_, .ref w_, .int (z0), .ref b_, .ref g_, .ref i_, .ref f_])), (t_, .inl (cI, 8, .inl F))]) (some (.int (nI 0))) := c2_tongues l D cI cJ tp0 tb0 a0 k_ p_ t_ h_ w_ b_ g_ i_ f_ s0 d0 z0 nu F T n q d q1 false s1 hn hq hd ht
set_option maxHeartbeats 4000000 in
set_option maxRecDepth 100000 in
theorem c2_aim_y (l : Launch) (D : va_G) (cI cJ : ClassId) (tp0 tb0 : Nat) (a0 k_ p_ t_ h_ w_ b_ g_ i_ f_ : Nat) (s0 d0 z0 : Int32) (nu : Int32) (F : Nat → Int32) (T : Nat → Int32) (n : Nat) (q z dn : Nat) (hn : n ≤ 120) (hq : q ≤ n) (hz : z < 8) (hd0 : d0 = nI dn) (hdn : dn ≤ 8) (hnb : pz_nb T n (pz_e T n q) dn) : hz_MX l yX2_isAimTaken wsX2_isAimTaken { frames := 3, cells := 0, slots := 0, locals := 65 } [.ref tp0, .ref a0, .int (nI z)] D zcl [(cI, .int), (cJ, .long)] [(tp0, .inr (2, [.ref tb0, .int (nI n), .int (nI (pz_t T n q)), .int (nI (pz_b T n q)), .int (nI (pz_e T n q)), .int (pz_nu T n q nu)])), (tb0, .inl (cI, 120, .inl T)), (a0, .inr (0, [.int (s0), .int (d0), .ref k_, .ref p_, .ref t_, .ref h_, .ref w_, .int (z0), .ref b_, .ref g_, .ref i_, .ref f_])), (i_, .inl (cI, 8, .inl F))] (fun (u : Int32) => [(tp0, .inr (2, [.ref tb0, .int (nI n), .int (nI (pz_t T n (pz_e T n (pz_e T n q)))), .int (nI (pz_b T n (pz_e T n (pz_e T n q)))), .int (nI (pz_e T n (pz_e T n (pz_e T n q)))), .int (pz_nu T n (pz_e T n (pz_e T n q)) u)])), (tb0, .inl (cI, 120, .inl T)), (a0, .inr (0, [.int (s0), .int (d0), .ref k_, .ref p_, .ref t_, .ref h_, .ref w_, .int (z0), .ref b_, .ref g_, .ref i_, .ref f_])), (i_, .inl (cI, 8, .inl (upd F z (nI (pz_v T n (pz_e T n q))))))]) (some (.int (nI 1))) := by
  refine hz_mx (cc := cX2_isAimTaken) (maxL := 3) (ret := (some .boolean)) (by decide) rfl (Nat.le_of_ble_eq_true rfl) ?_
  intro p e s m below meth c hx hb hr hts hown hlocks hml hP hK hD ls hl
  have hS : va_S (hz_a [(tp0, .inr (2, [.ref tb0, .int (nI n), .int (nI (pz_t T n q)), .int (nI (pz_b T n q)), .int (nI (pz_e T n q)), .int (pz_nu T n q nu)])), (tb0, .inl (cI, 120, .inl T)), (a0, .inr (0, [.int (s0), .int (d0), .ref k_, .ref p_, .ref t_, .ref h_, .ref w_, .int (z0), .ref b_, .ref g_, .ref i_, .ref f_])), (i_, .inl (cI, 8, .inl F))]) s.heap s.heap [] := va_S.rf
  have hown : s.vm.findClass RX2 = some m.cls := hown
  have hl : lv_has ls 3 [(0, .ref tp0), (1, .ref a0), (2, .int (nI z))] := hl
  have hinX0 : ∀ w ∈ u_ws RX0 TX0 12, w ∈ wsX2_isAimTaken := fun w h => List.mem_cons_of_mem _ (List.mem_append_left _ (List.mem_append_right _ (h)))
  have hinX2 : ∀ w ∈ u_ws RX2 TX2 6, w ∈ wsX2_isAimTaken := fun w h => List.mem_cons_of_mem _ (List.mem_append_right _ (h))
  have wd1 := hts (.fieldLink RX2 53 "HurtSpeech$Congress" "delegates" "I") (List.mem_of_getElem? (i := 1) rfl)
  have wd2 := hts (.fieldLink RX2 92 "HurtSpeech$Congress" "at" "[I") (List.mem_of_getElem? (i := 2) rfl)
  have wd3 := hts (.fieldLink RX2 72 "HurtSpeech$Tape" "number" "I") (List.mem_of_getElem? (i := 3) rfl)
  have hb31 := pz_b_ge T n q
  have e1 := pz_e_le (T := T) hq
  have e2 := pz_e_le (T := T) e1
  have e3 := pz_e_le (T := T) e2
  have e4 := pz_e_le (T := T) e3
  have e5 := pz_e_le (T := T) e4
  have e6 := pz_e_le (T := T) e5
  have hz1 := pz_t_le T n (pz_e T n q)
  have hz2 := pz_b_ge T n (pz_e T n q)
  have hz3 := pz_e_ge T n (pz_e T n q)
  have hz4 := pz_e_le (T := T) e1
  refine lv_aload_n hx hb dX2_isAimTaken_0 rfl (lv_at hl 0 rfl) ?_
  refine hz_ce (As := []) (rest := []) ⟨hx, hb, hml, hown, hts⟩ (c2_advance l D cI cJ (tp0 := tp0) (tb0 := tb0) (tk := nI (pz_t T n q)) (sa := nI (pz_b T n q)) (nu := pz_nu T n q nu) (T := T) (n := n) (q := pz_e T n q) (hn := by omega) (hq := by omega)) (cwV 0 hts gX2_isAimTaken_X2_advance rfl rfl rfl (by decide +kernel) ⟨Nat.le_of_ble_eq_true rfl, Nat.le_of_ble_eq_true rfl⟩) hK hP hD hS [0, 1] rfl (by decide) (hz_ha [tp0, tb0] rfl rfl) (w' := [(tp0, .inr (2, [.ref tb0, .int (nI n), .int (nI (pz_t T n (pz_e T n q))), .int (nI (pz_b T n (pz_e T n q))), .int (nI (pz_e T n (pz_e T n q))), .int (pz_nu T n (pz_e T n q) (pz_nu T n q nu))])), (tb0, .inl (cI, 120, .inl T)), (a0, .inr (0, [.int (s0), .int (d0), .ref k_, .ref p_, .ref t_, .ref h_, .ref w_, .int (z0), .ref b_, .ref g_, .ref i_, .ref f_])), (i_, .inl (cI, 8, .inl F))]) (hz_pt_eq 4 [2, 3] [(a0, .inr (0, [.int (s0), .int (d0), .ref k_, .ref p_, .ref t_, .ref h_, .ref w_, .int (z0), .ref b_, .ref g_, .ref i_, .ref f_])), (i_, .inl (cI, 8, .inl F))] rfl rfl rfl rfl rfl rfl rfl) [0, 1] rfl 0 rfl rfl rfl rfl hl.1 rfl (Nat.le_of_ble_eq_true rfl) dX2_isAimTaken_1 ⟨Nat.zero_le _, Nat.zero_le _⟩ (fun H locs hP hD hS => ?_)
  refine W.eq (g2 := F0 m 4 ls []) rfl ?_
  refine lv_aload_n hx hb dX2_isAimTaken_4 rfl (lv_at hl 0 rfl) ?_
  refine lv_aload_n hx hb dX2_isAimTaken_5 rfl (lv_at hl 1 rfl) ?_
  refine va_get hx hb hts hinX0 hown hK hP 2 rfl rfl 1 (by decide) wd1 (fun _ h => h) rfl dX2_isAimTaken_6 ?_
  refine hz_ct (y := nI (dn)) hd0 ?_
  refine hz_cv (As := [.int (nI dn)]) (rest := []) ⟨hx, hb, hml, hown, hts⟩ (c2_below l D cI cJ (tp0 := tp0) (tb0 := tb0) (sa := nI (pz_b T n (pz_e T n q))) (so := nI (pz_e T n (pz_e T n q))) (nu := pz_nu T n (pz_e T n q) (pz_nu T n q nu)) (t := pz_t T n (pz_e T n q)) (n := n) (h := dn) (ht := by omega)) (cwV 1 hts gX2_isAimTaken_X2_isNumberBelow rfl rfl rfl (by decide +kernel) ⟨Nat.le_of_ble_eq_true rfl, Nat.le_of_ble_eq_true rfl⟩) hK hP [0] rfl [0, 1] rfl 0 rfl rfl rfl rfl hl.1 rfl (Nat.le_of_ble_eq_true rfl) dX2_isAimTaken_9 ⟨Nat.zero_le _, Nat.zero_le _⟩ ?_
  refine hz_ifb_ne (tgt := 17) hx hb dX2_isAimTaken_12 (by decide) (fun c12 => ?_) (fun c12 => ?_)
  · refine lv_aload_n hx hb dX2_isAimTaken_17 rfl (lv_at hl 1 rfl) ?_
    refine va_get hx hb hts hinX0 hown hK hP 2 rfl rfl 10 (by decide) wd2 (fun _ h => h) rfl dX2_isAimTaken_18 ?_
    refine lv_iload_n hx hb dX2_isAimTaken_21 rfl (lv_at hl 2 rfl) ?_
    refine lv_aload_n hx hb dX2_isAimTaken_22 rfl (lv_at hl 0 rfl) ?_
    refine va_get hx hb hts hinX2 hown hK hP 0 rfl rfl 5 (by decide) wd3 (fun _ h => h) rfl dX2_isAimTaken_23 ?_
    refine hz_ct (y := nI (pz_v T n (pz_e T n q))) (pz_nuv (h := dn) (by omega) hnb) ?_
    refine hz_iast (j := z) hx hb hK hP hD hS 3 0 rfl rfl (by omega) (Nat.le_of_ble_eq_true rfl) dX2_isAimTaken_26 (w' := [(tp0, .inr (2, [.ref tb0, .int (nI n), .int (nI (pz_t T n (pz_e T n q))), .int (nI (pz_b T n (pz_e T n q))), .int (nI (pz_e T n (pz_e T n q))), .int (pz_nu T n (pz_e T n q) (pz_nu T n q nu))])), (tb0, .inl (cI, 120, .inl T)), (a0, .inr (0, [.int (s0), .int (d0), .ref k_, .ref p_, .ref t_, .ref h_, .ref w_, .int (z0), .ref b_, .ref g_, .ref i_, .ref f_])), (i_, .inl (cI, 8, .inl (upd F z (nI (pz_v T n (pz_e T n q))))))]) rfl (fun H locs hP hD hS => ?_)
    refine lv_aload_n hx hb dX2_isAimTaken_27 rfl (lv_at hl 0 rfl) ?_
    refine hz_ce (As := []) (rest := []) ⟨hx, hb, hml, hown, hts⟩ (c2_advance l D cI cJ (tp0 := tp0) (tb0 := tb0) (tk := nI (pz_t T n (pz_e T n q))) (sa := nI (pz_b T n (pz_e T n q))) (nu := pz_nu T n (pz_e T n q) (pz_nu T n q nu)) (T := T) (n := n) (q := pz_e T n (pz_e T n q)) (hn := by omega) (hq := by omega)) (cwV 0 hts gX2_isAimTaken_X2_advance rfl rfl rfl (by decide +kernel) ⟨Nat.le_of_ble_eq_true rfl, Nat.le_of_ble_eq_true rfl⟩) hK hP hD hS [0, 1] rfl (by decide) (hz_ha [tp0, tb0] rfl rfl) (w' := [(tp0, .inr (2, [.ref tb0, .int (nI n), .int (nI (pz_t T n (pz_e T n (pz_e T n q)))), .int (nI (pz_b T n (pz_e T n (pz_e T n q)))), .int (nI (pz_e T n (pz_e T n (pz_e T n q)))), .int (pz_nu T n (pz_e T n (pz_e T n q)) (pz_nu T n (pz_e T n q) (pz_nu T n q nu)))])), (tb0, .inl (cI, 120, .inl T)), (a0, .inr (0, [.int (s0), .int (d0), .ref k_, .ref p_, .ref t_, .ref h_, .ref w_, .int (z0), .ref b_, .ref g_, .ref i_, .ref f_])), (i_, .inl (cI, 8, .inl (upd F z (nI (pz_v T n (pz_e T n q))))))]) (hz_pt_eq 4 [2, 3] [(a0, .inr (0, [.int (s0), .int (d0), .ref k_, .ref p_, .ref t_, .ref h_, .ref w_, .int (z0), .ref b_, .ref g_, .ref i_, .ref f_])), (i_, .inl (cI, 8, .inl (upd F z (nI (pz_v T n (pz_e T n q))))))] rfl rfl rfl rfl rfl rfl rfl) [0, 1] rfl 0 rfl rfl rfl rfl hl.1 rfl (Nat.le_of_ble_eq_true rfl) dX2_isAimTaken_28 ⟨Nat.zero_le _, Nat.zero_le _⟩ (fun H locs hP hD hS => ?_)
    refine W.eq (g2 := F0 m 31 ls []) rfl ?_
    refine lv_iconst (v := nI 1) hx hb dX2_isAimTaken_31 (by decide) ?_
    refine hz_xi hx hb hr hlocks rfl (pz_nu T n (pz_e T n q) (pz_nu T n q nu)) ?_ hS (rfl) dX2_isAimTaken_32
    exact hP
  · exact absurd ((pz_nk (by omega)).mpr hnb) c12
set_option maxHeartbeats 4000000 in
set_option maxRecDepth 100000 in
theorem c2_aim_n (l : Launch) (D : va_G) (cI cJ : ClassId) (tp0 tb0 : Nat) (a0 k_ p_ t_ h_ w_ b_ g_ i_ f_ : Nat) (s0 d0 z0 : Int32) (nu : Int32) (F : Nat → Int32) (T : Nat → Int32) (n : Nat) (q z dn : Nat) (hn : n ≤ 120) (hq : q ≤ n) (hz : z < 8) (hd0 : d0 = nI dn) (hdn : dn ≤ 8) (hnb : ¬ pz_nb T n (pz_e T n q) dn) : hz_MX l yX2_isAimTaken wsX2_isAimTaken { frames := 3, cells := 0, slots := 0, locals := 65 } [.ref tp0, .ref a0, .int (nI z)] D zcl [(cI, .int), (cJ, .long)] [(tp0, .inr (2, [.ref tb0, .int (nI n), .int (nI (pz_t T n q)), .int (nI (pz_b T n q)), .int (nI (pz_e T n q)), .int (pz_nu T n q nu)])), (tb0, .inl (cI, 120, .inl T)), (a0, .inr (0, [.int (s0), .int (d0), .ref k_, .ref p_, .ref t_, .ref h_, .ref w_, .int (z0), .ref b_, .ref g_, .ref i_, .ref f_])), (i_, .inl (cI, 8, .inl F))] (fun (u : Int32) => [(tp0, .inr (2, [.ref tb0, .int (nI n), .int (nI (pz_t T n (pz_e T n q))), .int (nI (pz_b T n (pz_e T n q))), .int (nI (pz_e T n (pz_e T n q))), .int (pz_nu T n (pz_e T n q) u)])), (tb0, .inl (cI, 120, .inl T)), (a0, .inr (0, [.int (s0), .int (d0), .ref k_, .ref p_, .ref t_, .ref h_, .ref w_, .int (z0), .ref b_, .ref g_, .ref i_, .ref f_])), (i_, .inl (cI, 8, .inl F))]) (some (.int (nI 0))) := by
  refine hz_mx (cc := cX2_isAimTaken) (maxL := 3) (ret := (some .boolean)) (by decide) rfl (Nat.le_of_ble_eq_true rfl) ?_
  intro p e s m below meth c hx hb hr hts hown hlocks hml hP hK hD ls hl
  have hS : va_S (hz_a [(tp0, .inr (2, [.ref tb0, .int (nI n), .int (nI (pz_t T n q)), .int (nI (pz_b T n q)), .int (nI (pz_e T n q)), .int (pz_nu T n q nu)])), (tb0, .inl (cI, 120, .inl T)), (a0, .inr (0, [.int (s0), .int (d0), .ref k_, .ref p_, .ref t_, .ref h_, .ref w_, .int (z0), .ref b_, .ref g_, .ref i_, .ref f_])), (i_, .inl (cI, 8, .inl F))]) s.heap s.heap [] := va_S.rf
  have hown : s.vm.findClass RX2 = some m.cls := hown
  have hl : lv_has ls 3 [(0, .ref tp0), (1, .ref a0), (2, .int (nI z))] := hl
  have hinX0 : ∀ w ∈ u_ws RX0 TX0 12, w ∈ wsX2_isAimTaken := fun w h => List.mem_cons_of_mem _ (List.mem_append_left _ (List.mem_append_right _ (h)))
  have wd1 := hts (.fieldLink RX2 53 "HurtSpeech$Congress" "delegates" "I") (List.mem_of_getElem? (i := 1) rfl)
  have hb31 := pz_b_ge T n q
  have e1 := pz_e_le (T := T) hq
  have e2 := pz_e_le (T := T) e1
  have e3 := pz_e_le (T := T) e2
  have e4 := pz_e_le (T := T) e3
  have e5 := pz_e_le (T := T) e4
  have e6 := pz_e_le (T := T) e5
  have hz1 := pz_t_le T n (pz_e T n q)
  have hz2 := pz_b_ge T n (pz_e T n q)
  have hz3 := pz_e_ge T n (pz_e T n q)
  have hz4 := pz_e_le (T := T) e1
  refine lv_aload_n hx hb dX2_isAimTaken_0 rfl (lv_at hl 0 rfl) ?_
  refine hz_ce (As := []) (rest := []) ⟨hx, hb, hml, hown, hts⟩ (c2_advance l D cI cJ (tp0 := tp0) (tb0 := tb0) (tk := nI (pz_t T n q)) (sa := nI (pz_b T n q)) (nu := pz_nu T n q nu) (T := T) (n := n) (q := pz_e T n q) (hn := by omega) (hq := by omega)) (cwV 0 hts gX2_isAimTaken_X2_advance rfl rfl rfl (by decide +kernel) ⟨Nat.le_of_ble_eq_true rfl, Nat.le_of_ble_eq_true rfl⟩) hK hP hD hS [0, 1] rfl (by decide) (hz_ha [tp0, tb0] rfl rfl) (w' := [(tp0, .inr (2, [.ref tb0, .int (nI n), .int (nI (pz_t T n (pz_e T n q))), .int (nI (pz_b T n (pz_e T n q))), .int (nI (pz_e T n (pz_e T n q))), .int (pz_nu T n (pz_e T n q) (pz_nu T n q nu))])), (tb0, .inl (cI, 120, .inl T)), (a0, .inr (0, [.int (s0), .int (d0), .ref k_, .ref p_, .ref t_, .ref h_, .ref w_, .int (z0), .ref b_, .ref g_, .ref i_, .ref f_])), (i_, .inl (cI, 8, .inl F))]) (hz_pt_eq 4 [2, 3] [(a0, .inr (0, [.int (s0), .int (d0), .ref k_, .ref p_, .ref t_, .ref h_, .ref w_, .int (z0), .ref b_, .ref g_, .ref i_, .ref f_])), (i_, .inl (cI, 8, .inl F))] rfl rfl rfl rfl rfl rfl rfl) [0, 1] rfl 0 rfl rfl rfl rfl hl.1 rfl (Nat.le_of_ble_eq_true rfl) dX2_isAimTaken_1 ⟨Nat.zero_le _, Nat.zero_le _⟩ (fun H locs hP hD hS => ?_)
  refine W.eq (g2 := F0 m 4 ls []) rfl ?_
  refine lv_aload_n hx hb dX2_isAimTaken_4 rfl (lv_at hl 0 rfl) ?_
  refine lv_aload_n hx hb dX2_isAimTaken_5 rfl (lv_at hl 1 rfl) ?_
  refine va_get hx hb hts hinX0 hown hK hP 2 rfl rfl 1 (by decide) wd1 (fun _ h => h) rfl dX2_isAimTaken_6 ?_
  refine hz_ct (y := nI (dn)) hd0 ?_
  refine hz_cv (As := [.int (nI dn)]) (rest := []) ⟨hx, hb, hml, hown, hts⟩ (c2_below l D cI cJ (tp0 := tp0) (tb0 := tb0) (sa := nI (pz_b T n (pz_e T n q))) (so := nI (pz_e T n (pz_e T n q))) (nu := pz_nu T n (pz_e T n q) (pz_nu T n q nu)) (t := pz_t T n (pz_e T n q)) (n := n) (h := dn) (ht := by omega)) (cwV 1 hts gX2_isAimTaken_X2_isNumberBelow rfl rfl rfl (by decide +kernel) ⟨Nat.le_of_ble_eq_true rfl, Nat.le_of_ble_eq_true rfl⟩) hK hP [0] rfl [0, 1] rfl 0 rfl rfl rfl rfl hl.1 rfl (Nat.le_of_ble_eq_true rfl) dX2_isAimTaken_9 ⟨Nat.zero_le _, Nat.zero_le _⟩ ?_
  refine hz_ifb_ne (tgt := 17) hx hb dX2_isAimTaken_12 (by decide) (fun c12 => ?_) (fun c12 => ?_)
  · exact absurd ((pz_nk (by omega)).mp c12) hnb
  · refine lv_iconst (v := nI 0) hx hb dX2_isAimTaken_15 (by decide) ?_
    refine hz_xi hx hb hr hlocks rfl (pz_nu T n q nu) ?_ hS (rfl) dX2_isAimTaken_16
    exact hP
