set_option maxHeartbeats 4000000 in
set_option maxRecDepth 100000 in
theorem c2_add (l : Launch) (D : va_G) (cI cJ : ClassId) (tp0 tb0 : Nat) (tk sa so nu : Int32) (T : Nat → Int32) (tn i : Nat) (x : Int32) (hi1 : 1 ≤ i) (hi4 : i ≤ 4) (hn : tn + i ≤ 120) : hz_ME l yX2_add wsX2_add { frames := 0, cells := 0, slots := 0, locals := 0 } [.ref tp0, .int (x), .int (nI i)] D zcl [(cI, .int), (cJ, .long)] [(tp0, .inr (2, [.ref tb0, .int (nI tn), .int (tk), .int (sa), .int (so), .int (nu)])), (tb0, .inl (cI, 120, .inl T))] [(tp0, .inr (2, [.ref tb0, .int (nI (tn + i)), .int (tk), .int (sa), .int (so), .int (nu)])), (tb0, .inl (cI, 120, .inl (sp_fe T tn x i i)))] none := by
  refine hz_me (cc := cX2_add) (maxL := 4) (ret := none) (by decide) rfl (Nat.le_of_ble_eq_true rfl) ?_
  intro p e s m below meth c hx hb hr hts hown hlocks hml hP hK hD ls hl
  have hS : va_S (hz_a [(tp0, .inr (2, [.ref tb0, .int (nI tn), .int (tk), .int (sa), .int (so), .int (nu)])), (tb0, .inl (cI, 120, .inl T))]) s.heap s.heap [] := va_S.rf
  have hown : s.vm.findClass RX2 = some m.cls := hown
  have hl : lv_has ls 4 [(0, .ref tp0), (1, .int (x)), (2, .int (nI i))] := hl
  have hinX2 : ∀ w ∈ u_ws RX2 TX2 6, w ∈ wsX2_add := fun w h => List.mem_cons_of_mem _ (List.mem_append_right _ (h))
  have wd1 := hts (.fieldLink RX2 11 "HurtSpeech$Tape" "bytes" "[I") (List.mem_of_getElem? (i := 1) rfl)
  have wd2 := hts (.fieldLink RX2 15 "HurtSpeech$Tape" "size" "I") (List.mem_of_getElem? (i := 2) rfl)
  refine lv_iload_n hx hb dX2_add_0 rfl (lv_at hl 2 rfl) ?_
  refine lv_iconst (v := nI 1) hx hb dX2_add_1 (by decide) ?_
  refine lv_isub hx hb dX2_add_2 ?_
  refine lv_istore_n (lv' := [(3, .int ((nI i) - (nI 1))), (0, .ref tp0), (1, .int (x)), (2, .int (nI i))]) hx hb dX2_add_3 rfl hl (by decide) rfl (fun ls hl => ?_)
  have loop : ∀ (nn : Nat) (m_ : Nat) (ls : Array Slot) (H : Heap) (locs : List Loc), i - m_ < nn → (m_ ≤ i) → lv_has ls 4 [(3, .int (nI (i - m_) - nI 1)), (0, .ref tp0), (1, .int (x)), (2, .int (nI i))] → va_P D zcl [(tp0, .inr (2, [.ref tb0, .int (nI (tn + m_)), .int (tk), .int (sa), .int (so), .int (nu)])), (tb0, .inl (cI, 120, .inl (sp_fe T tn x i m_)))] H → va_D (hz_a [(tp0, .inr (2, [.ref tb0, .int (nI tn), .int (tk), .int (sa), .int (so), .int (nu)])), (tb0, .inl (cI, 120, .inl T))]) [(tp0, .inr (2, [.ref tb0, .int (nI (tn + m_)), .int (tk), .int (sa), .int (so), .int (nu)])), (tb0, .inl (cI, 120, .inl (sp_fe T tn x i m_)))] → va_S (hz_a [(tp0, .inr (2, [.ref tb0, .int (nI tn), .int (tk), .int (sa), .int (so), .int (nu)])), (tb0, .inl (cI, 120, .inl T))]) s.heap H locs → W p l e (headSpec wsX2_add { frames := 0, cells := 0, slots := 0, locals := 0 }).room s m ([.ref tp0, .int (x), .int (nI i)] : List Value).toArray below meth c H locs 0 0 (MQ below (hz_E D zcl [(tp0, .inr (2, [.ref tb0, .int (nI (tn + i)), .int (tk), .int (sa), .int (so), .int (nu)])), (tb0, .inl (cI, 120, .inl (sp_fe T tn x i i)))] none (hz_a [(tp0, .inr (2, [.ref tb0, .int (nI tn), .int (tk), .int (sa), .int (so), .int (nu)])), (tb0, .inl (cI, 120, .inl T))])) ([.ref tp0, .int (x), .int (nI i)] : List Value).toArray s 0 0 (hz_a [(tp0, .inr (2, [.ref tb0, .int (nI tn), .int (tk), .int (sa), .int (so), .int (nu)])), (tb0, .inl (cI, 120, .inl T))])) (F0 m 4 ls []) := by
    intro nn
    induction nn with
    | zero => intro m_ ls H locs hnn hm hl hP hD hS; exact absurd hnn (Nat.not_lt_zero _)
    | succ nn ihloop =>
      intro m_ ls H locs hnn hm hl hP hD hS
      rcases (show m_ = i ∨ m_ < i by omega) with hmi | hmi
      · rw [hmi, Nat.sub_self, hz_d0] at hl
        refine lv_iload_n hx hb dX2_add_4 rfl (lv_at hl 0 rfl) ?_
        refine lv_if_lt (tgt := 43) hx hb dX2_add_5 (by decide) (fun _ => ?_) (fun h => absurd h (by first | decide | omega | exact hz_nneg (by omega) | exact hz_nneg' (by omega)))
        refine hz_ev hx hb hr hlocks ?_ hS dX2_add_43
        subst hmi
        exact hP
      · rw [hz_d1 (show 0 < i - m_ by omega)] at hl
        refine lv_iload_n hx hb dX2_add_4 rfl (lv_at hl 0 rfl) ?_
        refine hz_ifn_lt (tgt := 43) (by omega) hx hb dX2_add_5 (by decide) ?_
        refine lv_aload_n hx hb dX2_add_8 rfl (lv_at hl 1 rfl) ?_
        refine va_get hx hb hts hinX2 hown hK hP 0 rfl rfl 0 (by decide) wd1 (fun _ h => h) rfl dX2_add_9 ?_
        refine lv_aload_n hx hb dX2_add_12 rfl (lv_at hl 1 rfl) ?_
        refine va_get hx hb hts hinX2 hown hK hP 0 rfl rfl 1 (by decide) wd2 (fun _ h => h) rfl dX2_add_13 ?_
        refine lv_iload_n hx hb dX2_add_16 rfl (lv_at hl 2 rfl) ?_
        refine lv_bipush (v := nI 8) hx hb dX2_add_17 (by decide) ?_
        refine lv_iload_n hx hb dX2_add_19 rfl (lv_at hl 0 rfl) ?_
        refine hz_imul hx hb dX2_add_20 ?_
        refine lv_ishr hx hb dX2_add_21 ?_
        refine lv_sipush (v := nI 255) hx hb dX2_add_22 (by decide) ?_
        refine lv_iand hx hb dX2_add_25 ?_
        refine hz_iast (j := tn + m_) hx hb hK hP hD hS 1 0 rfl rfl (by omega) (Nat.le_of_ble_eq_true rfl) dX2_add_26 (w' := [(tp0, .inr (2, [.ref tb0, .int (nI (tn + m_)), .int (tk), .int (sa), .int (so), .int (nu)])), (tb0, .inl (cI, 120, .inl (upd (sp_fe T tn x i m_) (tn + m_) ((x >>> ((nI (8 * (i - m_ - 1))) &&& 31)) &&& (nI 255)))))]) rfl (fun H locs hP hD hS => ?_)
        refine lv_aload_n hx hb dX2_add_27 rfl (lv_at hl 1 rfl) ?_
        refine lv_dup hx hb dX2_add_28 rfl ?_
        refine va_get hx hb hts hinX2 hown hK hP 0 rfl rfl 1 (by decide) wd2 (fun _ h => h) rfl dX2_add_29 ?_
        refine lv_iconst (v := nI 1) hx hb dX2_add_32 (by decide) ?_
        refine hz_iadd hx hb dX2_add_33 ?_
        refine va_put hx hb hts hinX2 tyX2 tyX2_ok nmX2 hown hK hP hD hS 0 rfl rfl 1 (by decide) wd2 (fun _ h => h) rfl (tyX2_ok 1 (by decide)) rfl rfl (Nat.le_of_ble_eq_true rfl) dX2_add_34 (fun H locs hP hD hS => ?_)
        have hP : va_P D zcl [(tp0, .inr (2, [.ref tb0, .int (nI (tn + m_ + 1)), .int (tk), .int (sa), .int (so), .int (nu)])), (tb0, .inl (cI, 120, .inl (upd (sp_fe T tn x i m_) (tn + m_) ((x >>> ((nI (8 * (i - m_ - 1))) &&& 31)) &&& (nI 255)))))] H := hP
        have hD : va_D (hz_a [(tp0, .inr (2, [.ref tb0, .int (nI tn), .int (tk), .int (sa), .int (so), .int (nu)])), (tb0, .inl (cI, 120, .inl T))]) [(tp0, .inr (2, [.ref tb0, .int (nI (tn + m_ + 1)), .int (tk), .int (sa), .int (so), .int (nu)])), (tb0, .inl (cI, 120, .inl (upd (sp_fe T tn x i m_) (tn + m_) ((x >>> ((nI (8 * (i - m_ - 1))) &&& 31)) &&& (nI 255)))))] := hD
        refine lv_iinc (v := (nI (i - m_ - 1)) + (-1)) (lv' := [(3, .int ((nI (i - m_ - 1)) + (-1))), (0, .ref tp0), (1, .int (x)), (2, .int (nI i))]) hx hb dX2_add_37 hl (k := 0) rfl rfl (by decide) rfl (fun ls hl => ?_)
        refine lv_goto (tgt := 4) hx hb dX2_add_40 (by decide) ?_
        exact ihloop (m_ + 1) ls _ _ (by omega) (by omega) (by rw [show i - (m_ + 1) = i - m_ - 1 by omega, ← hz_d2]; exact lv_sub hl [0, 1, 2, 3] rfl) hP hD hS
  exact loop _ 0 ls _ _ (Nat.lt_succ_self _) (by omega) (by rw [Nat.sub_zero]; exact lv_sub hl [0, 1, 2, 3] rfl) hP hD hS
set_option maxHeartbeats 4000000 in
set_option maxRecDepth 100000 in
theorem c2_clear (l : Launch) (D : va_G) (cI cJ : ClassId) (tp0 tb0 : Nat) (tk sa so nu : Int32) (tn : Nat)  : hz_ME l yX2_clear wsX2_clear { frames := 0, cells := 0, slots := 0, locals := 0 } [.ref tp0] D zcl [(cI, .int), (cJ, .long)] [(tp0, .inr (2, [.ref tb0, .int (nI tn), .int (tk), .int (sa), .int (so), .int (nu)]))] [(tp0, .inr (2, [.ref tb0, .int (nI 0), .int (tk), .int (sa), .int (so), .int (nu)]))] (some (.int (nI tn))) := by
  refine hz_me (cc := cX2_clear) (maxL := 2) (ret := (some .int)) (by decide) rfl (Nat.le_of_ble_eq_true rfl) ?_
  intro p e s m below meth c hx hb hr hts hown hlocks hml hP hK hD ls hl
  have hS : va_S (hz_a [(tp0, .inr (2, [.ref tb0, .int (nI tn), .int (tk), .int (sa), .int (so), .int (nu)]))]) s.heap s.heap [] := va_S.rf
  have hown : s.vm.findClass RX2 = some m.cls := hown
  have hl : lv_has ls 2 [(0, .ref tp0)] := hl
  have hinX2 : ∀ w ∈ u_ws RX2 TX2 6, w ∈ wsX2_clear := fun w h => List.mem_cons_of_mem _ (List.mem_append_right _ (h))
  have wd1 := hts (.fieldLink RX2 15 "HurtSpeech$Tape" "size" "I") (List.mem_of_getElem? (i := 1) rfl)
  refine lv_aload_n hx hb dX2_clear_0 rfl (lv_at hl 0 rfl) ?_
  refine va_get hx hb hts hinX2 hown hK hP 0 rfl rfl 1 (by decide) wd1 (fun _ h => h) rfl dX2_clear_1 ?_
  refine lv_istore_n (lv' := [(1, .int (nI tn)), (0, .ref tp0)]) hx hb dX2_clear_4 rfl hl (by decide) rfl (fun ls hl => ?_)
  refine lv_aload_n hx hb dX2_clear_5 rfl (lv_at hl 1 rfl) ?_
  refine lv_iconst (v := nI 0) hx hb dX2_clear_6 (by decide) ?_
  refine va_put hx hb hts hinX2 tyX2 tyX2_ok nmX2 hown hK hP hD hS 0 rfl rfl 1 (by decide) wd1 (fun _ h => h) rfl (tyX2_ok 1 (by decide)) rfl rfl (Nat.le_of_ble_eq_true rfl) dX2_clear_7 (fun H locs hP hD hS => ?_)
  have hP : va_P D zcl [(tp0, .inr (2, [.ref tb0, .int (nI 0), .int (tk), .int (sa), .int (so), .int (nu)]))] H := hP
  have hD : va_D (hz_a [(tp0, .inr (2, [.ref tb0, .int (nI tn), .int (tk), .int (sa), .int (so), .int (nu)]))]) [(tp0, .inr (2, [.ref tb0, .int (nI 0), .int (tk), .int (sa), .int (so), .int (nu)]))] := hD
  refine lv_iload_n hx hb dX2_clear_10 rfl (lv_at hl 0 rfl) ?_
  refine hz_ei hx hb hr hlocks rfl ?_ hS (rfl) dX2_clear_11
  exact hP
set_option maxHeartbeats 4000000 in
set_option maxRecDepth 100000 in
theorem c3_feed (l : Launch) (D : va_G) (cI cJ : ClassId) (x0 a0 kc0 tc0 sh0 fd0 : Nat) (kf : Int32) (tp0 tb0 : Nat) (tk sa so nu : Int32) (T F : Nat → Int32) (tn : Nat) (x n : Int32) (htn : tn ≤ 120) : hz_ME l yX3_feed wsX3_feed { frames := 2, cells := 0, slots := 0, locals := 44 } [.ref x0, .int (x), .int (n)] D zcl [(cI, .int), (cJ, .long)] [(x0, .inr (3, [.ref a0, .ref kc0, .ref tc0, .ref tp0, .ref sh0, .ref fd0, .int (kf)])), (tp0, .inr (2, [.ref tb0, .int (nI tn), .int (tk), .int (sa), .int (so), .int (nu)])), (tb0, .inl (cI, 120, .inl T)), (fd0, .inl (cI, 7, .inl F))] [(x0, .inr (3, [.ref a0, .ref kc0, .ref tc0, .ref tp0, .ref sh0, .ref fd0, .int (kf)])), (tp0, .inr (2, [.ref tb0, .int (nI (sp_fn (fd_feed tn n) tn (tn + cl n))), .int (tk), .int (sa), .int (so), .int (nu)])), (tb0, .inl (cI, 120, .inl (sp_fM (fd_feed tn n) T (sp_fe T tn x (cl n) (cl n))))), (fd0, .inl (cI, 7, .inl (sp_ff F (fd_feed tn n))))] (some (.int (sp_fr (fd_feed tn n) (nI (tn + cl n))))) := by
  refine hz_me (cc := cX3_feed) (maxL := 3) (ret := (some .int)) (by decide) rfl (Nat.le_of_ble_eq_true rfl) ?_
  intro p e s m below meth c hx hb hr hts hown hlocks hml hP hK hD ls hl
  have hS : va_S (hz_a [(x0, .inr (3, [.ref a0, .ref kc0, .ref tc0, .ref tp0, .ref sh0, .ref fd0, .int (kf)])), (tp0, .inr (2, [.ref tb0, .int (nI tn), .int (tk), .int (sa), .int (so), .int (nu)])), (tb0, .inl (cI, 120, .inl T)), (fd0, .inl (cI, 7, .inl F))]) s.heap s.heap [] := va_S.rf
  have hown : s.vm.findClass RX3 = some m.cls := hown
  have hl : lv_has ls 3 [(0, .ref x0), (1, .int (x)), (2, .int (n))] := hl
  have hinX2 : ∀ w ∈ u_ws RX2 TX2 6, w ∈ wsX3_feed := fun w h => List.mem_cons_of_mem _ (List.mem_append_right _ (h))
  have hinX3 : ∀ w ∈ u_ws RX3 TX3 7, w ∈ wsX3_feed := fun w h => List.mem_cons_of_mem _ (List.mem_append_left _ (List.mem_append_right _ (h)))
  have wd1 := hts (.constant RX3 48 (-1000000001)) (List.mem_of_getElem? (i := 1) rfl)
  have wd2 := hts (.fieldLink RX3 25 "HurtSpeech" "tape" "LHurtSpeech$Tape;") (List.mem_of_getElem? (i := 2) rfl)
  have wd3 := hts (.fieldLink RX3 168 "HurtSpeech$Tape" "size" "I") (List.mem_of_getElem? (i := 3) rfl)
  have wd4 := hts (.constant RX3 57 (-1000000002)) (List.mem_of_getElem? (i := 4) rfl)
  refine lv_iload_n hx hb dX3_feed_0 rfl (lv_at hl 2 rfl) ?_
  refine lv_iconst (v := nI 1) hx hb dX3_feed_1 (by decide) ?_
  refine lv_iconst (v := nI 4) hx hb dX3_feed_2 (by decide) ?_
  refine hz_cs (As := [.int (n), .int (nI 1), .int (nI 4)]) (rest := []) ⟨hx, hb, hml, hown, hts⟩ (c3_isWithin l D cI cJ (x := n) (a := nI 1) (b := nI 4) ) (va_cwS 3 hts gX3_feed_X3_isWithin rfl rfl rfl (by decide +kernel) ⟨Nat.le_of_ble_eq_true rfl, Nat.le_of_ble_eq_true rfl⟩) hK hP [] rfl [0, 1] rfl rfl hl.1 rfl (Nat.le_of_ble_eq_true rfl) dX3_feed_3 ⟨Nat.zero_le _, Nat.zero_le _⟩ ?_
  refine hz_ifb_ne (tgt := 16) hx hb dX3_feed_6 (by decide) (fun c6 => ?_) (fun c6 => ?_)
  · obtain ⟨i, hi0, hi, rfl⟩ := hz_rg (by decide) (by decide) c6
    refine lv_aload_n hx hb dX3_feed_16 rfl (lv_at hl 0 rfl) ?_
    refine va_get hx hb hts hinX3 hown hK hP 0 rfl rfl 3 (by decide) wd2 (fun _ h => h) rfl dX3_feed_17 ?_
    refine va_get hx hb hts hinX2 hown hK hP 1 rfl rfl 1 (by decide) wd3 (fun _ h => h) rfl dX3_feed_20 ?_
    refine lv_iload_n hx hb dX3_feed_23 rfl (lv_at hl 2 rfl) ?_
    refine hz_iadd hx hb dX3_feed_24 ?_
    refine lv_bipush (v := nI 120) hx hb dX3_feed_25 (by decide) ?_
    refine hz_icmp_le (tgt := 37) (by omega) (by omega) hx hb dX3_feed_27 (by decide) (fun c27 => ?_) (fun c27 => ?_)
    · refine lv_aload_n hx hb dX3_feed_37 rfl (lv_at hl 0 rfl) ?_
      refine va_get hx hb hts hinX3 hown hK hP 0 rfl rfl 3 (by decide) wd2 (fun _ h => h) rfl dX3_feed_38 ?_
      refine lv_iload_n hx hb dX3_feed_41 rfl (lv_at hl 1 rfl) ?_
      refine lv_iload_n hx hb dX3_feed_42 rfl (lv_at hl 2 rfl) ?_
      refine hz_ce (As := [.int (x), .int (nI i)]) (rest := []) ⟨hx, hb, hml, hown, hts⟩ (c2_add l D cI cJ (tp0 := tp0) (tb0 := tb0) (tk := tk) (sa := sa) (so := so) (nu := nu) (T := T) (tn := tn) (i := i) (x := x) (hi1 := by omega) (hi4 := by omega) (hn := by omega)) (cwV 2 hts gX3_feed_X2_add rfl rfl rfl (by decide +kernel) ⟨Nat.le_of_ble_eq_true rfl, Nat.le_of_ble_eq_true rfl⟩) hK hP hD hS [1, 2] rfl (by decide) (hz_ha [tp0, tb0] rfl rfl) (w' := [(x0, .inr (3, [.ref a0, .ref kc0, .ref tc0, .ref tp0, .ref sh0, .ref fd0, .int (kf)])), (tp0, .inr (2, [.ref tb0, .int (nI (tn + i)), .int (tk), .int (sa), .int (so), .int (nu)])), (tb0, .inl (cI, 120, .inl (sp_fe T tn x i i))), (fd0, .inl (cI, 7, .inl F))]) (hz_pt_eq 4 [0, 3] [(x0, .inr (3, [.ref a0, .ref kc0, .ref tc0, .ref tp0, .ref sh0, .ref fd0, .int (kf)])), (fd0, .inl (cI, 7, .inl F))] rfl rfl rfl rfl rfl rfl rfl) [0, 1] rfl 1 rfl rfl rfl rfl hl.1 rfl (Nat.le_of_ble_eq_true rfl) dX3_feed_43 ⟨Nat.zero_le _, Nat.zero_le _⟩ (fun H locs hP hD hS => ?_)
      refine W.eq (g2 := F0 m 46 ls []) rfl ?_
      refine lv_aload_n hx hb dX3_feed_46 rfl (lv_at hl 0 rfl) ?_
      refine va_get hx hb hts hinX3 hown hK hP 0 rfl rfl 3 (by decide) wd2 (fun _ h => h) rfl dX3_feed_47 ?_
      refine va_get hx hb hts hinX2 hown hK hP 1 rfl rfl 1 (by decide) wd3 (fun _ h => h) rfl dX3_feed_50 ?_
      refine hz_ei hx hb hr hlocks rfl ?_ hS (by rw [show fd_feed tn (nI i) = none from (if_pos c6).trans (if_pos (by rw [cl, nI_clamp (by omega)]; exact c27))]; exact fr_n (by rw [cl, nI_clamp (by omega)])) dX3_feed_53
      rw [show fd_feed tn (nI i) = none from (if_pos c6).trans (if_pos (by rw [cl, nI_clamp (by omega)]; exact c27))]
      rw [cl, nI_clamp (by omega)]
      exact hP
    · refine lv_aload_n hx hb dX3_feed_30 rfl (lv_at hl 0 rfl) ?_
      refine lv_ldc (v := -1000000002) hx hb hown wd4 dX3_feed_31 ?_
      refine hz_ce (As := [.int (-1000000002)]) (rest := []) ⟨hx, hb, hml, hown, hts⟩ (c3_found l D cI cJ (x0 := x0) (a0 := a0) (kc0 := kc0) (tc0 := tc0) (tp0 := tp0) (sh0 := sh0) (fd0 := fd0) (kf := kf) (F := F) (f := -1000000002) (k := 1) (hk := by omega) (hfk := by decide)) (cwV 1 hts gX3_feed_X3_found rfl rfl rfl (by decide +kernel) ⟨Nat.le_of_ble_eq_true rfl, Nat.le_of_ble_eq_true rfl⟩) hK hP hD hS [0, 3] rfl (by decide) (hz_ha [x0, fd0] rfl rfl) (w' := [(x0, .inr (3, [.ref a0, .ref kc0, .ref tc0, .ref tp0, .ref sh0, .ref fd0, .int (kf)])), (tp0, .inr (2, [.ref tb0, .int (nI tn), .int (tk), .int (sa), .int (so), .int (nu)])), (tb0, .inl (cI, 120, .inl T)), (fd0, .inl (cI, 7, .inl (sp_fd F 1)))]) (hz_pt_eq 4 [1, 2] [(tp0, .inr (2, [.ref tb0, .int (nI tn), .int (tk), .int (sa), .int (so), .int (nu)])), (tb0, .inl (cI, 120, .inl T))] rfl rfl rfl rfl rfl rfl rfl) [0, 1] rfl 0 rfl rfl rfl rfl hl.1 rfl (Nat.le_of_ble_eq_true rfl) dX3_feed_33 ⟨Nat.zero_le _, Nat.zero_le _⟩ (fun H locs hP hD hS => ?_)
      refine W.eq (g2 := F0 m 36 ls [.int ((-1000000002))]) rfl ?_
      refine hz_ei hx hb hr hlocks rfl ?_ hS (by rw [show fd_feed tn (nI i) = some 1 from (if_pos c6).trans (if_neg (by rw [cl, nI_clamp (by omega)]; omega))]; rfl) dX3_feed_36
      rw [show fd_feed tn (nI i) = some 1 from (if_pos c6).trans (if_neg (by rw [cl, nI_clamp (by omega)]; omega))]
      exact hP
  · refine lv_aload_n hx hb dX3_feed_9 rfl (lv_at hl 0 rfl) ?_
    refine lv_ldc (v := -1000000001) hx hb hown wd1 dX3_feed_10 ?_
    refine hz_ce (As := [.int (-1000000001)]) (rest := []) ⟨hx, hb, hml, hown, hts⟩ (c3_found l D cI cJ (x0 := x0) (a0 := a0) (kc0 := kc0) (tc0 := tc0) (tp0 := tp0) (sh0 := sh0) (fd0 := fd0) (kf := kf) (F := F) (f := -1000000001) (k := 0) (hk := by omega) (hfk := by decide)) (cwV 1 hts gX3_feed_X3_found rfl rfl rfl (by decide +kernel) ⟨Nat.le_of_ble_eq_true rfl, Nat.le_of_ble_eq_true rfl⟩) hK hP hD hS [0, 3] rfl (by decide) (hz_ha [x0, fd0] rfl rfl) (w' := [(x0, .inr (3, [.ref a0, .ref kc0, .ref tc0, .ref tp0, .ref sh0, .ref fd0, .int (kf)])), (tp0, .inr (2, [.ref tb0, .int (nI tn), .int (tk), .int (sa), .int (so), .int (nu)])), (tb0, .inl (cI, 120, .inl T)), (fd0, .inl (cI, 7, .inl (sp_fd F 0)))]) (hz_pt_eq 4 [1, 2] [(tp0, .inr (2, [.ref tb0, .int (nI tn), .int (tk), .int (sa), .int (so), .int (nu)])), (tb0, .inl (cI, 120, .inl T))] rfl rfl rfl rfl rfl rfl rfl) [0, 1] rfl 0 rfl rfl rfl rfl hl.1 rfl (Nat.le_of_ble_eq_true rfl) dX3_feed_12 ⟨Nat.zero_le _, Nat.zero_le _⟩ (fun H locs hP hD hS => ?_)
    refine W.eq (g2 := F0 m 15 ls [.int ((-1000000001))]) rfl ?_
    refine hz_ei hx hb hr hlocks rfl ?_ hS (by rw [show fd_feed tn n = some 0 from if_neg c6]; rfl) dX3_feed_15
    rw [show fd_feed tn n = some 0 from if_neg c6]
    exact hP
set_option maxHeartbeats 4000000 in
set_option maxRecDepth 100000 in
theorem c3_wipe (l : Launch) (D : va_G) (cI cJ : ClassId) (x0 a0 kc0 tc0 sh0 fd0 : Nat) (kf : Int32) (tp0 tb0 : Nat) (tk sa so nu : Int32) (tn : Nat)  : hz_ME l yX3_wipe wsX3_wipe { frames := 1, cells := 0, slots := 0, locals := 21 } [.ref x0] D zcl [(cI, .int), (cJ, .long)] [(x0, .inr (3, [.ref a0, .ref kc0, .ref tc0, .ref tp0, .ref sh0, .ref fd0, .int (kf)])), (tp0, .inr (2, [.ref tb0, .int (nI tn), .int (tk), .int (sa), .int (so), .int (nu)]))] [(x0, .inr (3, [.ref a0, .ref kc0, .ref tc0, .ref tp0, .ref sh0, .ref fd0, .int (kf)])), (tp0, .inr (2, [.ref tb0, .int (nI 0), .int (tk), .int (sa), .int (so), .int (nu)]))] (some (.int (nI tn))) := by
  refine hz_me (cc := cX3_wipe) (maxL := 1) (ret := (some .int)) (by decide) rfl (Nat.le_of_ble_eq_true rfl) ?_
  intro p e s m below meth c hx hb hr hts hown hlocks hml hP hK hD ls hl
  have hS : va_S (hz_a [(x0, .inr (3, [.ref a0, .ref kc0, .ref tc0, .ref tp0, .ref sh0, .ref fd0, .int (kf)])), (tp0, .inr (2, [.ref tb0, .int (nI tn), .int (tk), .int (sa), .int (so), .int (nu)]))]) s.heap s.heap [] := va_S.rf
  have hown : s.vm.findClass RX3 = some m.cls := hown
  have hl : lv_has ls 1 [(0, .ref x0)] := hl
  have hinX3 : ∀ w ∈ u_ws RX3 TX3 7, w ∈ wsX3_wipe := fun w h => List.mem_cons_of_mem _ (List.mem_append_left _ (List.mem_append_right _ (h)))
  have wd1 := hts (.fieldLink RX3 25 "HurtSpeech" "tape" "LHurtSpeech$Tape;") (List.mem_of_getElem? (i := 1) rfl)
  refine lv_aload_n hx hb dX3_wipe_0 rfl (lv_at hl 0 rfl) ?_
  refine va_get hx hb hts hinX3 hown hK hP 0 rfl rfl 3 (by decide) wd1 (fun _ h => h) rfl dX3_wipe_1 ?_
  refine hz_ce (As := []) (rest := []) ⟨hx, hb, hml, hown, hts⟩ (c2_clear l D cI cJ (tp0 := tp0) (tb0 := tb0) (tk := tk) (sa := sa) (so := so) (nu := nu) (tn := tn) ) (cwV 0 hts gX3_wipe_X2_clear rfl rfl rfl (by decide +kernel) ⟨Nat.le_of_ble_eq_true rfl, Nat.le_of_ble_eq_true rfl⟩) hK hP hD hS [1] rfl (by decide) (hz_ha [tp0] rfl rfl) (w' := [(x0, .inr (3, [.ref a0, .ref kc0, .ref tc0, .ref tp0, .ref sh0, .ref fd0, .int (kf)])), (tp0, .inr (2, [.ref tb0, .int (nI 0), .int (tk), .int (sa), .int (so), .int (nu)]))]) (hz_pt_eq 2 [0] [(x0, .inr (3, [.ref a0, .ref kc0, .ref tc0, .ref tp0, .ref sh0, .ref fd0, .int (kf)]))] rfl rfl rfl rfl rfl rfl rfl) [0, 1] rfl 1 rfl rfl rfl rfl hl.1 rfl (Nat.le_of_ble_eq_true rfl) dX3_wipe_4 ⟨Nat.zero_le _, Nat.zero_le _⟩ (fun H locs hP hD hS => ?_)
  refine W.eq (g2 := F0 m 7 ls [.int (nI tn)]) rfl ?_
  refine hz_ei hx hb hr hlocks rfl ?_ hS (rfl) dX3_wipe_7
  exact hP
set_option maxHeartbeats 4000000 in
set_option maxRecDepth 100000 in
theorem c4_feed (l : Launch) (D : va_G) (cI cJ : ClassId) (h0 am ak aw af at_ ab as_ ac : Nat) (kf wp tk bg ap vl bd : Int32) (T F : Nat → Int32) (tn : Nat) (x n : Int32) (htn : tn ≤ 120) : hz_ME l yX4_feed wsX4_feed { frames := 1, cells := 0, slots := 0, locals := 23 } [.ref h0, .int (x), .int (n)] D zcl [(cI, .int), (cJ, .long)] [(h0, .inr (4, [.ref am, .ref ak, .ref aw, .int (kf), .ref af, .int (wp), .ref at_, .int (nI tn), .int (tk), .int (bg), .int (ap), .int (vl), .int (bd), .ref ab, .ref as_, .ref ac])), (at_, .inl (cI, 120, .inl T)), (af, .inl (cI, 7, .inl F))] [(h0, .inr (4, [.ref am, .ref ak, .ref aw, .int (kf), .ref af, .int (wp), .ref at_, .int (nI (sp_fn (fd_feed tn n) tn (tn + cl n))), .int (tk), .int (bg), .int (ap), .int (vl), .int (bd), .ref ab, .ref as_, .ref ac])), (at_, .inl (cI, 120, .inl (sp_fM (fd_feed tn n) T (sp_fe T tn x (cl n) (cl n))))), (af, .inl (cI, 7, .inl (sp_ff F (fd_feed tn n))))] (some (.int (sp_fr (fd_feed tn n) (nI (tn + cl n))))) := by
  refine hz_me (cc := cX4_feed) (maxL := 4) (ret := (some .int)) (by decide) rfl (Nat.le_of_ble_eq_true rfl) ?_
  intro p e s m below meth c hx hb hr hts hown hlocks hml hP hK hD ls hl
  have hS : va_S (hz_a [(h0, .inr (4, [.ref am, .ref ak, .ref aw, .int (kf), .ref af, .int (wp), .ref at_, .int (nI tn), .int (tk), .int (bg), .int (ap), .int (vl), .int (bd), .ref ab, .ref as_, .ref ac])), (at_, .inl (cI, 120, .inl T)), (af, .inl (cI, 7, .inl F))]) s.heap s.heap [] := va_S.rf
  have hown : s.vm.findClass RX4 = some m.cls := hown
  have hl : lv_has ls 4 [(0, .ref h0), (1, .int (x)), (2, .int (n))] := hl
  have hinX4 : ∀ w ∈ u_ws RX4 TX4 16, w ∈ wsX4_feed := fun w h => List.mem_cons_of_mem _ (List.mem_append_right _ (h))
  have wd1 := hts (.constant RX4 35 (-1000000001)) (List.mem_of_getElem? (i := 1) rfl)
  have wd2 := hts (.fieldLink RX4 146 "HurtSpeechModel" "taped" "I") (List.mem_of_getElem? (i := 2) rfl)
  have wd3 := hts (.constant RX4 69 (-1000000002)) (List.mem_of_getElem? (i := 3) rfl)
  have wd4 := hts (.fieldLink RX4 22 "HurtSpeechModel" "tape" "[I") (List.mem_of_getElem? (i := 4) rfl)
  refine lv_iload_n hx hb dX4_feed_0 rfl (lv_at hl 2 rfl) ?_
  refine lv_i2l (v := n.toInt64) hx hb dX4_feed_1 rfl ?_
  refine lv_iconst (v := nI 1) hx hb dX4_feed_2 (by decide) ?_
  refine lv_iconst (v := nI 4) hx hb dX4_feed_3 (by decide) ?_
  refine hz_cs (As := [.long (n.toInt64), .int (nI 1), .int (nI 4)]) (rest := []) ⟨hx, hb, hml, hown, hts⟩ (c4_in32 l D cI cJ (x := n) (a := nI 1) (b := nI 4) ) (va_cwS 3 hts gX4_feed_X4_in rfl rfl rfl (by decide +kernel) ⟨Nat.le_of_ble_eq_true rfl, Nat.le_of_ble_eq_true rfl⟩) hK hP [] rfl [0, 1] rfl rfl hl.1 rfl (Nat.le_of_ble_eq_true rfl) dX4_feed_4 ⟨Nat.zero_le _, Nat.zero_le _⟩ ?_
  refine hz_ifb_ne (tgt := 17) hx hb dX4_feed_7 (by decide) (fun c7 => ?_) (fun c7 => ?_)
  · obtain ⟨i, hi0, hi, ei⟩ := hz_rg (by decide) (by decide) c7
    rw [ei] at hl
    have hci : cl n = i := by rw [ei, cl, nI_clamp (by omega)]
    refine lv_aload_n hx hb dX4_feed_17 rfl (lv_at hl 0 rfl) ?_
    refine va_get hx hb hts hinX4 hown hK hP 0 rfl rfl 7 (by decide) wd2 (fun _ h => h) rfl dX4_feed_18 ?_
    refine lv_iload_n hx hb dX4_feed_21 rfl (lv_at hl 2 rfl) ?_
    refine hz_iadd hx hb dX4_feed_22 ?_
    refine lv_bipush (v := nI 120) hx hb dX4_feed_23 (by decide) ?_
    refine hz_icmp_le (tgt := 35) (by omega) (by omega) hx hb dX4_feed_25 (by decide) (fun c25 => ?_) (fun c25 => ?_)
    · refine lv_iload_n hx hb dX4_feed_35 rfl (lv_at hl 2 rfl) ?_
      refine lv_iconst (v := nI 1) hx hb dX4_feed_36 (by decide) ?_
      refine lv_isub hx hb dX4_feed_37 ?_
      refine lv_istore_n (lv' := [(3, .int ((nI i) - (nI 1))), (0, .ref h0), (1, .int (x)), (2, .int (nI i))]) hx hb dX4_feed_38 rfl hl (by decide) rfl (fun ls hl => ?_)
      have loop : ∀ (nn : Nat) (m_ : Nat) (ls : Array Slot) (H : Heap) (locs : List Loc), i - m_ < nn → (m_ ≤ i) → lv_has ls 4 [(3, .int (nI (i - m_) - nI 1)), (0, .ref h0), (1, .int (x)), (2, .int (nI i))] → va_P D zcl [(h0, .inr (4, [.ref am, .ref ak, .ref aw, .int (kf), .ref af, .int (wp), .ref at_, .int (nI (tn + m_)), .int (tk), .int (bg), .int (ap), .int (vl), .int (bd), .ref ab, .ref as_, .ref ac])), (at_, .inl (cI, 120, .inl (sp_fe T tn x i m_))), (af, .inl (cI, 7, .inl F))] H → va_D (hz_a [(h0, .inr (4, [.ref am, .ref ak, .ref aw, .int (kf), .ref af, .int (wp), .ref at_, .int (nI tn), .int (tk), .int (bg), .int (ap), .int (vl), .int (bd), .ref ab, .ref as_, .ref ac])), (at_, .inl (cI, 120, .inl T)), (af, .inl (cI, 7, .inl F))]) [(h0, .inr (4, [.ref am, .ref ak, .ref aw, .int (kf), .ref af, .int (wp), .ref at_, .int (nI (tn + m_)), .int (tk), .int (bg), .int (ap), .int (vl), .int (bd), .ref ab, .ref as_, .ref ac])), (at_, .inl (cI, 120, .inl (sp_fe T tn x i m_))), (af, .inl (cI, 7, .inl F))] → va_S (hz_a [(h0, .inr (4, [.ref am, .ref ak, .ref aw, .int (kf), .ref af, .int (wp), .ref at_, .int (nI tn), .int (tk), .int (bg), .int (ap), .int (vl), .int (bd), .ref ab, .ref as_, .ref ac])), (at_, .inl (cI, 120, .inl T)), (af, .inl (cI, 7, .inl F))]) s.heap H locs → W p l e (headSpec wsX4_feed { frames := 1, cells := 0, slots := 0, locals := 23 }).room s m ([.ref h0, .int (x), .int (n)] : List Value).toArray below meth c H locs 0 0 (MQ below (hz_E D zcl [(h0, .inr (4, [.ref am, .ref ak, .ref aw, .int (kf), .ref af, .int (wp), .ref at_, .int (nI (sp_fn (fd_feed tn n) tn (tn + cl n))), .int (tk), .int (bg), .int (ap), .int (vl), .int (bd), .ref ab, .ref as_, .ref ac])), (at_, .inl (cI, 120, .inl (sp_fM (fd_feed tn n) T (sp_fe T tn x (cl n) (cl n))))), (af, .inl (cI, 7, .inl (sp_ff F (fd_feed tn n))))] (some (.int (sp_fr (fd_feed tn n) (nI (tn + cl n))))) (hz_a [(h0, .inr (4, [.ref am, .ref ak, .ref aw, .int (kf), .ref af, .int (wp), .ref at_, .int (nI tn), .int (tk), .int (bg), .int (ap), .int (vl), .int (bd), .ref ab, .ref as_, .ref ac])), (at_, .inl (cI, 120, .inl T)), (af, .inl (cI, 7, .inl F))])) ([.ref h0, .int (x), .int (n)] : List Value).toArray s 0 0 (hz_a [(h0, .inr (4, [.ref am, .ref ak, .ref aw, .int (kf), .ref af, .int (wp), .ref at_, .int (nI tn), .int (tk), .int (bg), .int (ap), .int (vl), .int (bd), .ref ab, .ref as_, .ref ac])), (at_, .inl (cI, 120, .inl T)), (af, .inl (cI, 7, .inl F))])) (F0 m 39 ls []) := by
        intro nn
        induction nn with
        | zero => intro m_ ls H locs hnn hm hl hP hD hS; exact absurd hnn (Nat.not_lt_zero _)
        | succ nn ihloop =>
          intro m_ ls H locs hnn hm hl hP hD hS
          rcases (show m_ = i ∨ m_ < i by omega) with hmi | hmi
          · rw [hmi, Nat.sub_self, hz_d0] at hl
            refine lv_iload_n hx hb dX4_feed_39 rfl (lv_at hl 0 rfl) ?_
            refine lv_if_lt (tgt := 78) hx hb dX4_feed_40 (by decide) (fun _ => ?_) (fun h => absurd h (by first | decide | omega | exact hz_nneg (by omega) | exact hz_nneg' (by omega)))
            refine lv_aload_n hx hb dX4_feed_78 rfl (lv_at hl 1 rfl) ?_
            refine va_get hx hb hts hinX4 hown hK hP 0 rfl rfl 7 (by decide) wd2 (fun _ h => h) rfl dX4_feed_79 ?_
            refine hz_ei hx hb hr hlocks rfl ?_ hS (by rw [show fd_feed tn n = none from (if_pos c7).trans (if_pos (by rw [hci]; exact c25))]; exact fr_n (by rw [hci, hmi])) dX4_feed_82
            rw [show fd_feed tn n = none from (if_pos c7).trans (if_pos (by rw [hci]; exact c25))]
            rw [hci]
            subst hmi
            exact hP
          · rw [hz_d1 (show 0 < i - m_ by omega)] at hl
            refine lv_iload_n hx hb dX4_feed_39 rfl (lv_at hl 0 rfl) ?_
            refine hz_ifn_lt (tgt := 78) (by omega) hx hb dX4_feed_40 (by decide) ?_
            refine lv_aload_n hx hb dX4_feed_43 rfl (lv_at hl 1 rfl) ?_
            refine va_get hx hb hts hinX4 hown hK hP 0 rfl rfl 6 (by decide) wd4 (fun _ h => h) rfl dX4_feed_44 ?_
            refine lv_aload_n hx hb dX4_feed_47 rfl (lv_at hl 1 rfl) ?_
            refine va_get hx hb hts hinX4 hown hK hP 0 rfl rfl 7 (by decide) wd2 (fun _ h => h) rfl dX4_feed_48 ?_
            refine lv_iload_n hx hb dX4_feed_51 rfl (lv_at hl 2 rfl) ?_
            refine lv_bipush (v := nI 8) hx hb dX4_feed_52 (by decide) ?_
            refine lv_iload_n hx hb dX4_feed_54 rfl (lv_at hl 0 rfl) ?_
            refine hz_imul hx hb dX4_feed_55 ?_
            refine lv_ishr hx hb dX4_feed_56 ?_
            refine lv_sipush (v := nI 255) hx hb dX4_feed_57 (by decide) ?_
            refine lv_iand hx hb dX4_feed_60 ?_
            refine hz_iast (j := tn + m_) hx hb hK hP hD hS 1 0 rfl rfl (by omega) (Nat.le_of_ble_eq_true rfl) dX4_feed_61 (w' := [(h0, .inr (4, [.ref am, .ref ak, .ref aw, .int (kf), .ref af, .int (wp), .ref at_, .int (nI (tn + m_)), .int (tk), .int (bg), .int (ap), .int (vl), .int (bd), .ref ab, .ref as_, .ref ac])), (at_, .inl (cI, 120, .inl (upd (sp_fe T tn x i m_) (tn + m_) ((x >>> ((nI (8 * (i - m_ - 1))) &&& 31)) &&& (nI 255))))), (af, .inl (cI, 7, .inl F))]) rfl (fun H locs hP hD hS => ?_)
            refine lv_aload_n hx hb dX4_feed_62 rfl (lv_at hl 1 rfl) ?_
            refine lv_dup hx hb dX4_feed_63 rfl ?_
            refine va_get hx hb hts hinX4 hown hK hP 0 rfl rfl 7 (by decide) wd2 (fun _ h => h) rfl dX4_feed_64 ?_
            refine lv_iconst (v := nI 1) hx hb dX4_feed_67 (by decide) ?_
            refine hz_iadd hx hb dX4_feed_68 ?_
            refine va_put hx hb hts hinX4 tyX4 tyX4_ok nmX4 hown hK hP hD hS 0 rfl rfl 7 (by decide) wd2 (fun _ h => h) rfl (tyX4_ok 7 (by decide)) rfl rfl (Nat.le_of_ble_eq_true rfl) dX4_feed_69 (fun H locs hP hD hS => ?_)
            have hP : va_P D zcl [(h0, .inr (4, [.ref am, .ref ak, .ref aw, .int (kf), .ref af, .int (wp), .ref at_, .int (nI (tn + m_ + 1)), .int (tk), .int (bg), .int (ap), .int (vl), .int (bd), .ref ab, .ref as_, .ref ac])), (at_, .inl (cI, 120, .inl (upd (sp_fe T tn x i m_) (tn + m_) ((x >>> ((nI (8 * (i - m_ - 1))) &&& 31)) &&& (nI 255))))), (af, .inl (cI, 7, .inl F))] H := hP
            have hD : va_D (hz_a [(h0, .inr (4, [.ref am, .ref ak, .ref aw, .int (kf), .ref af, .int (wp), .ref at_, .int (nI tn), .int (tk), .int (bg), .int (ap), .int (vl), .int (bd), .ref ab, .ref as_, .ref ac])), (at_, .inl (cI, 120, .inl T)), (af, .inl (cI, 7, .inl F))]) [(h0, .inr (4, [.ref am, .ref ak, .ref aw, .int (kf), .ref af, .int (wp), .ref at_, .int (nI (tn + m_ + 1)), .int (tk), .int (bg), .int (ap), .int (vl), .int (bd), .ref ab, .ref as_, .ref ac])), (at_, .inl (cI, 120, .inl (upd (sp_fe T tn x i m_) (tn + m_) ((x >>> ((nI (8 * (i - m_ - 1))) &&& 31)) &&& (nI 255))))), (af, .inl (cI, 7, .inl F))] := hD
            refine lv_iinc (v := (nI (i - m_ - 1)) + (-1)) (lv' := [(3, .int ((nI (i - m_ - 1)) + (-1))), (0, .ref h0), (1, .int (x)), (2, .int (nI i))]) hx hb dX4_feed_72 hl (k := 0) rfl rfl (by decide) rfl (fun ls hl => ?_)
            refine lv_goto (tgt := 39) hx hb dX4_feed_75 (by decide) ?_
            exact ihloop (m_ + 1) ls _ _ (by omega) (by omega) (by rw [show i - (m_ + 1) = i - m_ - 1 by omega, ← hz_d2]; exact lv_sub hl [0, 1, 2, 3] rfl) hP hD hS
      exact loop _ 0 ls _ _ (Nat.lt_succ_self _) (by omega) (by rw [Nat.sub_zero]; exact lv_sub hl [0, 1, 2, 3] rfl) hP hD hS
    · refine lv_aload_n hx hb dX4_feed_28 rfl (lv_at hl 0 rfl) ?_
      refine lv_ldc (v := -1000000002) hx hb hown wd3 dX4_feed_29 ?_
      refine hz_ce (As := [.int (-1000000002)]) (rest := []) ⟨hx, hb, hml, hown, hts⟩ (c4_finds l D cI cJ (h0 := h0) (af := af) (fs := [.ref am, .ref ak, .ref aw, .int (kf), .ref af, .int (wp), .ref at_, .int (nI tn), .int (tk), .int (bg), .int (ap), .int (vl), .int (bd), .ref ab, .ref as_, .ref ac]) (F := F) (f := -1000000002) (k := 1) (hf := by first | assumption | rfl) (hk := by omega) (hfk := by decide)) (cwV 1 hts gX4_feed_X4_finds rfl rfl rfl (by decide +kernel) ⟨Nat.le_of_ble_eq_true rfl, Nat.le_of_ble_eq_true rfl⟩) hK hP hD hS [0, 2] rfl (by decide) (hz_ha [h0, af] rfl rfl) (w' := [(h0, .inr (4, [.ref am, .ref ak, .ref aw, .int (kf), .ref af, .int (wp), .ref at_, .int (nI tn), .int (tk), .int (bg), .int (ap), .int (vl), .int (bd), .ref ab, .ref as_, .ref ac])), (at_, .inl (cI, 120, .inl T)), (af, .inl (cI, 7, .inl (sp_fd F 1)))]) (hz_pt_eq 3 [1] [(at_, .inl (cI, 120, .inl T))] rfl rfl rfl rfl rfl rfl rfl) [0, 1] rfl 0 rfl rfl rfl rfl hl.1 rfl (Nat.le_of_ble_eq_true rfl) dX4_feed_31 ⟨Nat.zero_le _, Nat.zero_le _⟩ (fun H locs hP hD hS => ?_)
      refine W.eq (g2 := F0 m 34 ls [.int ((-1000000002))]) rfl ?_
      refine hz_ei hx hb hr hlocks rfl ?_ hS (by rw [show fd_feed tn n = some 1 from (if_pos c7).trans (if_neg (by rw [hci]; omega))]; rfl) dX4_feed_34
      rw [show fd_feed tn n = some 1 from (if_pos c7).trans (if_neg (by rw [hci]; omega))]
      exact hP
  · refine lv_aload_n hx hb dX4_feed_10 rfl (lv_at hl 0 rfl) ?_
    refine lv_ldc (v := -1000000001) hx hb hown wd1 dX4_feed_11 ?_
    refine hz_ce (As := [.int (-1000000001)]) (rest := []) ⟨hx, hb, hml, hown, hts⟩ (c4_finds l D cI cJ (h0 := h0) (af := af) (fs := [.ref am, .ref ak, .ref aw, .int (kf), .ref af, .int (wp), .ref at_, .int (nI tn), .int (tk), .int (bg), .int (ap), .int (vl), .int (bd), .ref ab, .ref as_, .ref ac]) (F := F) (f := -1000000001) (k := 0) (hf := by first | assumption | rfl) (hk := by omega) (hfk := by decide)) (cwV 1 hts gX4_feed_X4_finds rfl rfl rfl (by decide +kernel) ⟨Nat.le_of_ble_eq_true rfl, Nat.le_of_ble_eq_true rfl⟩) hK hP hD hS [0, 2] rfl (by decide) (hz_ha [h0, af] rfl rfl) (w' := [(h0, .inr (4, [.ref am, .ref ak, .ref aw, .int (kf), .ref af, .int (wp), .ref at_, .int (nI tn), .int (tk), .int (bg), .int (ap), .int (vl), .int (bd), .ref ab, .ref as_, .ref ac])), (at_, .inl (cI, 120, .inl T)), (af, .inl (cI, 7, .inl (sp_fd F 0)))]) (hz_pt_eq 3 [1] [(at_, .inl (cI, 120, .inl T))] rfl rfl rfl rfl rfl rfl rfl) [0, 1] rfl 0 rfl rfl rfl rfl hl.1 rfl (Nat.le_of_ble_eq_true rfl) dX4_feed_13 ⟨Nat.zero_le _, Nat.zero_le _⟩ (fun H locs hP hD hS => ?_)
    refine W.eq (g2 := F0 m 16 ls [.int ((-1000000001))]) rfl ?_
    refine hz_ei hx hb hr hlocks rfl ?_ hS (by rw [show fd_feed tn n = some 0 from if_neg c7]; rfl) dX4_feed_16
    rw [show fd_feed tn n = some 0 from if_neg c7]
    exact hP
set_option maxHeartbeats 4000000 in
set_option maxRecDepth 100000 in
theorem c4_wipe (l : Launch) (D : va_G) (cI cJ : ClassId) (h0 am ak aw af at_ ab as_ ac : Nat) (kf wp tk bg ap vl bd : Int32) (tn : Nat)  : hz_ME l yX4_wipe wsX4_wipe { frames := 0, cells := 0, slots := 0, locals := 0 } [.ref h0] D zcl [(cI, .int), (cJ, .long)] [(h0, .inr (4, [.ref am, .ref ak, .ref aw, .int (kf), .ref af, .int (wp), .ref at_, .int (nI tn), .int (tk), .int (bg), .int (ap), .int (vl), .int (bd), .ref ab, .ref as_, .ref ac]))] [(h0, .inr (4, [.ref am, .ref ak, .ref aw, .int (kf), .ref af, .int (wp), .ref at_, .int (nI 0), .int (tk), .int (bg), .int (ap), .int (vl), .int (bd), .ref ab, .ref as_, .ref ac]))] (some (.int (nI tn))) := by
  refine hz_me (cc := cX4_wipe) (maxL := 2) (ret := (some .int)) (by decide) rfl (Nat.le_of_ble_eq_true rfl) ?_
  intro p e s m below meth c hx hb hr hts hown hlocks hml hP hK hD ls hl
  have hS : va_S (hz_a [(h0, .inr (4, [.ref am, .ref ak, .ref aw, .int (kf), .ref af, .int (wp), .ref at_, .int (nI tn), .int (tk), .int (bg), .int (ap), .int (vl), .int (bd), .ref ab, .ref as_, .ref ac]))]) s.heap s.heap [] := va_S.rf
  have hown : s.vm.findClass RX4 = some m.cls := hown
  have hl : lv_has ls 2 [(0, .ref h0)] := hl
  have hinX4 : ∀ w ∈ u_ws RX4 TX4 16, w ∈ wsX4_wipe := fun w h => List.mem_cons_of_mem _ (List.mem_append_right _ (h))
  have wd1 := hts (.fieldLink RX4 146 "HurtSpeechModel" "taped" "I") (List.mem_of_getElem? (i := 1) rfl)
  refine lv_aload_n hx hb dX4_wipe_0 rfl (lv_at hl 0 rfl) ?_
  refine va_get hx hb hts hinX4 hown hK hP 0 rfl rfl 7 (by decide) wd1 (fun _ h => h) rfl dX4_wipe_1 ?_
  refine lv_istore_n (lv' := [(1, .int (nI tn)), (0, .ref h0)]) hx hb dX4_wipe_4 rfl hl (by decide) rfl (fun ls hl => ?_)
  refine lv_aload_n hx hb dX4_wipe_5 rfl (lv_at hl 1 rfl) ?_
  refine lv_iconst (v := nI 0) hx hb dX4_wipe_6 (by decide) ?_
  refine va_put hx hb hts hinX4 tyX4 tyX4_ok nmX4 hown hK hP hD hS 0 rfl rfl 7 (by decide) wd1 (fun _ h => h) rfl (tyX4_ok 7 (by decide)) rfl rfl (Nat.le_of_ble_eq_true rfl) dX4_wipe_7 (fun H locs hP hD hS => ?_)
  have hP : va_P D zcl [(h0, .inr (4, [.ref am, .ref ak, .ref aw, .int (kf), .ref af, .int (wp), .ref at_, .int (nI 0), .int (tk), .int (bg), .int (ap), .int (vl), .int (bd), .ref ab, .ref as_, .ref ac]))] H := hP
  have hD : va_D (hz_a [(h0, .inr (4, [.ref am, .ref ak, .ref aw, .int (kf), .ref af, .int (wp), .ref at_, .int (nI tn), .int (tk), .int (bg), .int (ap), .int (vl), .int (bd), .ref ab, .ref as_, .ref ac]))]) [(h0, .inr (4, [.ref am, .ref ak, .ref aw, .int (kf), .ref af, .int (wp), .ref at_, .int (nI 0), .int (tk), .int (bg), .int (ap), .int (vl), .int (bd), .ref ab, .ref as_, .ref ac]))] := hD
  refine lv_iload_n hx hb dX4_wipe_10 rfl (lv_at hl 0 rfl) ?_
  refine hz_ei hx hb hr hlocks rfl ?_ hS (rfl) dX4_wipe_11
  exact hP
