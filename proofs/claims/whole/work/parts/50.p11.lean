set_option maxHeartbeats 4000000 in
set_option maxRecDepth 100000 in
theorem c1_hasPart (l : Launch) (D : va_G) (cI cJ : ClassId) (sh0 sb0 ss0 sc0 : Nat) (S : Nat → Int32) (j : Nat) (a_ n_ : Int32) (hj : j < 4) : hz_MP l yX1_hasPart wsX1_hasPart { frames := 0, cells := 0, slots := 0, locals := 0 } [.ref sh0, .int (nI j), .int (a_), .int (n_)] D zcl [(cI, .int), (cJ, .long)] [(sh0, .inr (1, [.ref sb0, .ref ss0, .ref sc0])), (ss0, .inl (cI, 4, .inl S))] (.int (hz_b (hz_part S j a_ n_))) := by
  refine hz_mp (cc := cX1_hasPart) (maxL := 4) (ret := (some .boolean)) (by decide) rfl (Nat.le_of_ble_eq_true rfl) ?_
  intro p e s m below meth c hx hb hr hts hown hlocks hml hP hK ls hl
  have hown : s.vm.findClass RX1 = some m.cls := hown
  have hl : lv_has ls 4 [(0, .ref sh0), (1, .int (nI j)), (2, .int (a_)), (3, .int (n_))] := hl
  have hinX1 : ∀ w ∈ u_ws RX1 TX1 3, w ∈ wsX1_hasPart := fun w h => List.mem_cons_of_mem _ (List.mem_append_right _ (h))
  have wd1 := hts (.fieldLink RX1 13 "HurtSpeech$Sheets" "sizes" "[I") (List.mem_of_getElem? (i := 1) rfl)
  refine lv_iload_n hx hb dX1_hasPart_0 rfl (lv_at hl 2 rfl) ?_
  refine lv_if_lt (tgt := 24) hx hb dX1_hasPart_1 (by decide) (fun c1 => ?_) (fun c1 => ?_)
  · refine lv_iconst (v := nI 0) hx hb dX1_hasPart_24 (by decide) ?_
    exact hz_ri hx hb hr hlocks rfl ((hz_bf (fun h => absurd c1 (Int32.not_lt.mpr h.1))).symm) dX1_hasPart_25
  · refine lv_iload_n hx hb dX1_hasPart_4 rfl (lv_at hl 3 rfl) ?_
    refine lv_if_lt (tgt := 24) hx hb dX1_hasPart_5 (by decide) (fun c5 => ?_) (fun c5 => ?_)
    · refine lv_iconst (v := nI 0) hx hb dX1_hasPart_24 (by decide) ?_
      exact hz_ri hx hb hr hlocks rfl ((hz_bf (fun h => absurd c5 (Int32.not_lt.mpr h.2.1))).symm) dX1_hasPart_25
    · refine lv_iload_n hx hb dX1_hasPart_8 rfl (lv_at hl 3 rfl) ?_
      refine lv_aload_n hx hb dX1_hasPart_9 rfl (lv_at hl 0 rfl) ?_
      refine va_get hx hb hts hinX1 hown hK hP 0 rfl rfl 1 (by decide) wd1 (fun _ h => h) rfl dX1_hasPart_10 ?_
      refine lv_iload_n hx hb dX1_hasPart_13 rfl (lv_at hl 1 rfl) ?_
      refine hz_iald (j := j) hx hb hK hP 1 0 rfl rfl (by omega) (Nat.le_of_ble_eq_true rfl) dX1_hasPart_14 ?_
      refine lv_iload_n hx hb dX1_hasPart_15 rfl (lv_at hl 2 rfl) ?_
      refine lv_isub hx hb dX1_hasPart_16 ?_
      refine lv_icmp_gt (tgt := 24) hx hb dX1_hasPart_17 (by decide) (fun c17 => ?_) (fun c17 => ?_)
      · refine lv_iconst (v := nI 0) hx hb dX1_hasPart_24 (by decide) ?_
        exact hz_ri hx hb hr hlocks rfl ((hz_bf (fun h => absurd c17 (Int32.not_lt.mpr h.2.2))).symm) dX1_hasPart_25
      · refine lv_iconst (v := nI 1) hx hb dX1_hasPart_20 (by decide) ?_
        refine lv_goto (tgt := 25) hx hb dX1_hasPart_21 (by decide) ?_
        exact hz_ri hx hb hr hlocks rfl ((hz_bt ⟨Int32.not_lt.mp c1, Int32.not_lt.mp c5, Int32.not_lt.mp c17⟩).symm) dX1_hasPart_25
set_option maxHeartbeats 4000000 in
set_option maxRecDepth 100000 in
theorem c1_move (l : Launch) (D : va_G) (cI cJ : ClassId) (sh0 sb0 ss0 sc0 : Nat) (C : Nat → Int64) (j a_ q c_ n_ : Nat) (hj : j < 4) (hq : q < 4) (han : a_ + n_ ≤ 40) (hcn : c_ + n_ ≤ 40) : hz_ME l yX1_move wsX1_move { frames := 1, cells := 0, slots := 0, locals := 60 } [.ref sh0, .int (nI j), .int (nI a_), .int (nI q), .int (nI c_), .int (nI n_)] D zcl [(cI, .int), (cJ, .long)] [(sh0, .inr (1, [.ref sb0, .ref ss0, .ref sc0])), (sc0, .inl (cJ, 160, .inr (.inl C)))] [(sh0, .inr (1, [.ref sb0, .ref ss0, .ref sc0])), (sc0, .inl (cJ, 160, .inr (.inl (va_cpy C C (40 * j + a_) (40 * q + c_) n_))))] none := by
  refine hz_me (cc := cX1_move) (maxL := 6) (ret := none) (by decide) rfl (Nat.le_of_ble_eq_true rfl) ?_
  intro p e s m below meth c hx hb hr hts hown hlocks hml hP hK hD ls hl
  have hS : va_S (hz_a [(sh0, .inr (1, [.ref sb0, .ref ss0, .ref sc0])), (sc0, .inl (cJ, 160, .inr (.inl C)))]) s.heap s.heap [] := va_S.rf
  have hown : s.vm.findClass RX1 = some m.cls := hown
  have hl : lv_has ls 6 [(0, .ref sh0), (1, .int (nI j)), (2, .int (nI a_)), (3, .int (nI q)), (4, .int (nI c_)), (5, .int (nI n_))] := hl
  have hinX1 : ∀ w ∈ u_ws RX1 TX1 3, w ∈ wsX1_move := fun w h => List.mem_cons_of_mem _ (List.mem_append_right _ (h))
  have wd1 := hts (.fieldLink RX1 16 "HurtSpeech$Sheets" "numbers" "[J") (List.mem_of_getElem? (i := 1) rfl)
  have wd2 := hts (.methodLink RX1 24 arraycopyName) (List.mem_of_getElem? (i := 2) rfl)
  have wd3 := hts (.native arraycopyName) (List.mem_of_getElem? (i := 3) rfl)
  have wd4 := hts (.static arraycopyName) (List.mem_of_getElem? (i := 4) rfl)
  have wd5 := hts (.initialized "java/lang/System") (List.mem_of_getElem? (i := 5) rfl)
  refine lv_aload_n hx hb dX1_move_0 rfl (lv_at hl 0 rfl) ?_
  refine va_get hx hb hts hinX1 hown hK hP 0 rfl rfl 2 (by decide) wd1 (fun _ h => h) rfl dX1_move_1 ?_
  refine lv_bipush (v := nI 40) hx hb dX1_move_4 (by decide) ?_
  refine lv_iload_n hx hb dX1_move_6 rfl (lv_at hl 1 rfl) ?_
  refine hz_imul hx hb dX1_move_7 ?_
  refine lv_iload_n hx hb dX1_move_8 rfl (lv_at hl 2 rfl) ?_
  refine hz_iadd hx hb dX1_move_9 ?_
  refine lv_aload_n hx hb dX1_move_10 rfl (lv_at hl 0 rfl) ?_
  refine va_get hx hb hts hinX1 hown hK hP 0 rfl rfl 2 (by decide) wd1 (fun _ h => h) rfl dX1_move_11 ?_
  refine lv_bipush (v := nI 40) hx hb dX1_move_14 (by decide) ?_
  refine lv_iload_n hx hb dX1_move_16 rfl (lv_at hl 3 rfl) ?_
  refine hz_imul hx hb dX1_move_17 ?_
  refine lv_iload hx hb dX1_move_18 (lv_at hl 4 rfl) ?_
  refine hz_iadd hx hb dX1_move_20 ?_
  refine lv_iload hx hb dX1_move_21 (lv_at hl 5 rfl) ?_
  refine va_copyl (ty := .long) hx hb (hml.trans hl.1.symm) hown wd2 wd3 wd4 wd5 hK hP hD hS 1 1 1 1 rfl rfl rfl rfl rfl (nI_pos (by omega)) (nI_pos (by omega)) (nI_pos (by omega)) (by rw [nI_clamp (by omega), nI_clamp (by omega)]; omega) (by rw [nI_clamp (by omega), nI_clamp (by omega)]; omega) (fun _ _ => rfl) (Nat.le_of_ble_eq_true rfl) (Nat.le_of_ble_eq_true rfl) dX1_move_23 (fun H locs hP hD hS => ?_)
  rw [nI_clamp (n := 40 * j + a_) (by omega), nI_clamp (n := 40 * q + c_) (by omega), nI_clamp (n := n_) (by omega)] at hP hD
  have hP : va_P D zcl [(sh0, .inr (1, [.ref sb0, .ref ss0, .ref sc0])), (sc0, .inl (cJ, 160, .inr (.inl (va_cpy C C (40 * j + a_) (40 * q + c_) n_))))] H := hP
  have hD : va_D (hz_a [(sh0, .inr (1, [.ref sb0, .ref ss0, .ref sc0])), (sc0, .inl (cJ, 160, .inr (.inl C)))]) [(sh0, .inr (1, [.ref sb0, .ref ss0, .ref sc0])), (sc0, .inl (cJ, 160, .inr (.inl (va_cpy C C (40 * j + a_) (40 * q + c_) n_))))] := hD
  refine hz_ev hx hb hr hlocks ?_ hS dX1_move_26
  exact hP
set_option maxHeartbeats 4000000 in
set_option maxRecDepth 100000 in
theorem c4_notCopied (l : Launch) (D : va_G) (cI cJ : ClassId) (h0 ab as_ : Nat) (fs : List Value) (B S : Nat → Int32) (y fr yt to_ nm : Int32) (hf13 : fs[13]? = some (.ref ab)) (hf14 : fs[14]? = some (.ref as_)) : hz_MP l yX4_notCopied wsX4_notCopied { frames := 2, cells := 0, slots := 0, locals := 43 } [.ref h0, .int (y), .int (fr), .int (yt), .int (to_), .int (nm)] D zcl [(cI, .int), (cJ, .long)] [(h0, .inr (4, fs)), (ab, .inl (cI, 4, .inl B)), (as_, .inl (cI, 4, .inl S))] (.int (sp_why (fd_copy B S y fr yt to_ nm))) := by
  refine hz_mp (cc := cX4_notCopied) (maxL := 7) (ret := (some .int)) (by decide) rfl (Nat.le_of_ble_eq_true rfl) ?_
  intro p e s m below meth c hx hb hr hts hown hlocks hml hP hK ls hl
  have hown : s.vm.findClass RX4 = some m.cls := hown
  have hl : lv_has ls 7 [(0, .ref h0), (1, .int (y)), (2, .int (fr)), (3, .int (yt)), (4, .int (to_)), (5, .int (nm))] := hl
  have hinX4 : ∀ w ∈ u_ws RX4 TX4 16, w ∈ wsX4_notCopied := fun w h => List.mem_cons_of_mem _ (List.mem_append_right _ (h))
  have wd1 := hts (.constant RX4 35 (-1000000001)) (List.mem_of_getElem? (i := 1) rfl)
  have wd2 := hts (.fieldLink RX4 25 "HurtSpeechModel" "bitsOf" "[I") (List.mem_of_getElem? (i := 2) rfl)
  have wd3 := hts (.constant RX4 206 (-1000000006)) (List.mem_of_getElem? (i := 3) rfl)
  have wd4 := hts (.constant RX4 87 (-1000000003)) (List.mem_of_getElem? (i := 4) rfl)
  have wd5 := hts (.fieldLink RX4 28 "HurtSpeechModel" "sizeOf" "[I") (List.mem_of_getElem? (i := 5) rfl)
  refine lv_iload_n hx hb dX4_notCopied_0 rfl (lv_at hl 1 rfl) ?_
  refine hz_cs (As := [.int (y)]) (rest := []) ⟨hx, hb, hml, hown, hts⟩ (c4_isSheet l D cI cJ (x := y) ) (va_cwS 1 hts gX4_notCopied_X4_isSheet rfl rfl rfl (by decide +kernel) ⟨Nat.le_of_ble_eq_true rfl, Nat.le_of_ble_eq_true rfl⟩) hK hP [] rfl [0, 1] rfl rfl hl.1 rfl (Nat.le_of_ble_eq_true rfl) dX4_notCopied_1 ⟨Nat.zero_le _, Nat.zero_le _⟩ ?_
  refine hz_ifb_eq (tgt := 14) hx hb dX4_notCopied_4 (by decide) (fun c4 => ?_) (fun c4 => ?_)
  · refine lv_ldc (v := -1000000001) hx hb hown wd1 dX4_notCopied_14 ?_
    exact hz_ri hx hb hr hlocks rfl (by rw [show fd_copy B S y fr yt to_ nm = some 0 from if_neg c4]; rfl) dX4_notCopied_16
  · refine lv_iload_n hx hb dX4_notCopied_7 rfl (lv_at hl 3 rfl) ?_
    refine hz_cs (As := [.int (yt)]) (rest := []) ⟨hx, hb, hml, hown, hts⟩ (c4_isSheet l D cI cJ (x := yt) ) (va_cwS 1 hts gX4_notCopied_X4_isSheet rfl rfl rfl (by decide +kernel) ⟨Nat.le_of_ble_eq_true rfl, Nat.le_of_ble_eq_true rfl⟩) hK hP [] rfl [0, 1] rfl rfl hl.1 rfl (Nat.le_of_ble_eq_true rfl) dX4_notCopied_8 ⟨Nat.zero_le _, Nat.zero_le _⟩ ?_
    refine hz_ifb_ne (tgt := 17) hx hb dX4_notCopied_11 (by decide) (fun c11 => ?_) (fun c11 => ?_)
    · obtain ⟨j, hj, rfl⟩ := hz_in_of c4 (by decide)
      obtain ⟨q, hq, rfl⟩ := hz_in_of c11 (by decide)
      refine lv_aload_n hx hb dX4_notCopied_17 rfl (lv_at hl 0 rfl) ?_
      refine va_get hx hb hts hinX4 hown hK hP 0 rfl rfl 13 (by decide) wd2 (fun _ h => h) hf13 dX4_notCopied_18 ?_
      refine lv_iload_n hx hb dX4_notCopied_21 rfl (lv_at hl 1 rfl) ?_
      refine hz_iald (j := j) hx hb hK hP 1 0 rfl rfl (by omega) (Nat.le_of_ble_eq_true rfl) dX4_notCopied_22 ?_
      refine lv_if_eq (tgt := 35) hx hb dX4_notCopied_23 (by decide) (fun c23 => ?_) (fun c23 => ?_)
      · refine lv_ldc (v := -1000000006) hx hb hown wd3 dX4_notCopied_35 ?_
        exact hz_ri hx hb hr hlocks rfl (by rw [show fd_copy B S (nI j) fr (nI q) to_ nm = some 5 from (if_pos c4).trans ((if_pos c11).trans (if_pos (by rw [(show cl (nI j) = j by rw [cl, nI_clamp (by omega)])]; exact c23)))]; rfl) dX4_notCopied_37
      · refine lv_aload_n hx hb dX4_notCopied_26 rfl (lv_at hl 0 rfl) ?_
        refine va_get hx hb hts hinX4 hown hK hP 0 rfl rfl 13 (by decide) wd2 (fun _ h => h) hf13 dX4_notCopied_27 ?_
        refine lv_iload_n hx hb dX4_notCopied_30 rfl (lv_at hl 3 rfl) ?_
        refine hz_iald (j := q) hx hb hK hP 1 0 rfl rfl (by omega) (Nat.le_of_ble_eq_true rfl) dX4_notCopied_31 ?_
        refine lv_if_ne (tgt := 38) hx hb dX4_notCopied_32 (by decide) (fun c32 => ?_) (fun c32 => ?_)
        · refine lv_aload_n hx hb dX4_notCopied_38 rfl (lv_at hl 0 rfl) ?_
          refine va_get hx hb hts hinX4 hown hK hP 0 rfl rfl 13 (by decide) wd2 (fun _ h => h) hf13 dX4_notCopied_39 ?_
          refine lv_iload_n hx hb dX4_notCopied_42 rfl (lv_at hl 1 rfl) ?_
          refine hz_iald (j := j) hx hb hK hP 1 0 rfl rfl (by omega) (Nat.le_of_ble_eq_true rfl) dX4_notCopied_43 ?_
          refine lv_aload_n hx hb dX4_notCopied_44 rfl (lv_at hl 0 rfl) ?_
          refine va_get hx hb hts hinX4 hown hK hP 0 rfl rfl 13 (by decide) wd2 (fun _ h => h) hf13 dX4_notCopied_45 ?_
          refine lv_iload_n hx hb dX4_notCopied_48 rfl (lv_at hl 3 rfl) ?_
          refine hz_iald (j := q) hx hb hK hP 1 0 rfl rfl (by omega) (Nat.le_of_ble_eq_true rfl) dX4_notCopied_49 ?_
          refine lv_icmp_eq (tgt := 56) hx hb dX4_notCopied_50 (by decide) (fun c50 => ?_) (fun c50 => ?_)
          · refine lv_iload hx hb dX4_notCopied_56 (lv_at hl 5 rfl) ?_
            refine hz_dia (ls := ls) (hz_b (hz_part S j fr nm ∧ hz_part S q to_ nm)) 102 [] (fun jn102 => ?_) ?_
            · refine lv_if_lt (tgt := 101) hx hb dX4_notCopied_58 (by decide) (fun c58 => ?_) (fun c58 => ?_)
              · refine lv_iconst (v := nI 0) hx hb dX4_notCopied_101 (by decide) ?_
                exact hz_ct ((hz_bf (fun h => absurd c58 (Int32.not_lt.mpr h.1.2.1))).symm) jn102
              · refine lv_iload_n hx hb dX4_notCopied_61 rfl (lv_at hl 2 rfl) ?_
                refine lv_if_lt (tgt := 101) hx hb dX4_notCopied_62 (by decide) (fun c62 => ?_) (fun c62 => ?_)
                · refine lv_iconst (v := nI 0) hx hb dX4_notCopied_101 (by decide) ?_
                  exact hz_ct ((hz_bf (fun h => absurd c62 (Int32.not_lt.mpr h.1.1))).symm) jn102
                · refine lv_iload hx hb dX4_notCopied_65 (lv_at hl 4 rfl) ?_
                  refine lv_if_lt (tgt := 101) hx hb dX4_notCopied_67 (by decide) (fun c67 => ?_) (fun c67 => ?_)
                  · refine lv_iconst (v := nI 0) hx hb dX4_notCopied_101 (by decide) ?_
                    exact hz_ct ((hz_bf (fun h => absurd c67 (Int32.not_lt.mpr h.2.1))).symm) jn102
                  · refine lv_iload hx hb dX4_notCopied_70 (lv_at hl 5 rfl) ?_
                    refine lv_aload_n hx hb dX4_notCopied_72 rfl (lv_at hl 0 rfl) ?_
                    refine va_get hx hb hts hinX4 hown hK hP 0 rfl rfl 14 (by decide) wd5 (fun _ h => h) hf14 dX4_notCopied_73 ?_
                    refine lv_iload_n hx hb dX4_notCopied_76 rfl (lv_at hl 1 rfl) ?_
                    refine hz_iald (j := j) hx hb hK hP 2 0 rfl rfl (by omega) (Nat.le_of_ble_eq_true rfl) dX4_notCopied_77 ?_
                    refine lv_iload_n hx hb dX4_notCopied_78 rfl (lv_at hl 2 rfl) ?_
                    refine lv_isub hx hb dX4_notCopied_79 ?_
                    refine lv_icmp_gt (tgt := 101) hx hb dX4_notCopied_80 (by decide) (fun c80 => ?_) (fun c80 => ?_)
                    · refine lv_iconst (v := nI 0) hx hb dX4_notCopied_101 (by decide) ?_
                      exact hz_ct ((hz_bf (fun h => absurd c80 (Int32.not_lt.mpr h.1.2.2))).symm) jn102
                    · refine lv_iload hx hb dX4_notCopied_83 (lv_at hl 5 rfl) ?_
                      refine lv_aload_n hx hb dX4_notCopied_85 rfl (lv_at hl 0 rfl) ?_
                      refine va_get hx hb hts hinX4 hown hK hP 0 rfl rfl 14 (by decide) wd5 (fun _ h => h) hf14 dX4_notCopied_86 ?_
                      refine lv_iload_n hx hb dX4_notCopied_89 rfl (lv_at hl 3 rfl) ?_
                      refine hz_iald (j := q) hx hb hK hP 2 0 rfl rfl (by omega) (Nat.le_of_ble_eq_true rfl) dX4_notCopied_90 ?_
                      refine lv_iload hx hb dX4_notCopied_91 (lv_at hl 4 rfl) ?_
                      refine lv_isub hx hb dX4_notCopied_93 ?_
                      refine lv_icmp_gt (tgt := 101) hx hb dX4_notCopied_94 (by decide) (fun c94 => ?_) (fun c94 => ?_)
                      · refine lv_iconst (v := nI 0) hx hb dX4_notCopied_101 (by decide) ?_
                        exact hz_ct ((hz_bf (fun h => absurd c94 (Int32.not_lt.mpr h.2.2.2))).symm) jn102
                      · refine lv_iconst (v := nI 1) hx hb dX4_notCopied_97 (by decide) ?_
                        refine lv_goto (tgt := 102) hx hb dX4_notCopied_98 (by decide) ?_
                        exact hz_ct ((hz_bt ⟨⟨Int32.not_lt.mp c62, Int32.not_lt.mp c58, Int32.not_lt.mp c80⟩, ⟨Int32.not_lt.mp c67, Int32.not_lt.mp c58, Int32.not_lt.mp c94⟩⟩).symm) jn102
            · refine lv_istore (lv' := [(6, .int (hz_b (hz_part S j fr nm ∧ hz_part S q to_ nm))), (0, .ref h0), (1, .int (nI j)), (2, .int (fr)), (3, .int (nI q)), (4, .int (to_)), (5, .int (nm))]) hx hb dX4_notCopied_102 hl (by decide) rfl (fun ls hl => ?_)
              refine lv_iload hx hb dX4_notCopied_104 (lv_at hl 0 rfl) ?_
              refine hz_ifb_eq (tgt := 113) hx hb dX4_notCopied_106 (by decide) (fun c106 => ?_) (fun c106 => ?_)
              · refine lv_ldc (v := -1000000001) hx hb hown wd1 dX4_notCopied_113 ?_
                exact hz_ri hx hb hr hlocks rfl (by rw [show fd_copy B S (nI j) fr (nI q) to_ nm = some 0 from (if_pos c4).trans ((if_pos c11).trans ((if_neg (by rw [(show cl (nI j) = j by rw [cl, nI_clamp (by omega)])]; exact c23)).trans ((if_neg (by rw [(show cl (nI q) = q by rw [cl, nI_clamp (by omega)])]; exact c32)).trans ((if_pos (by rw [(show cl (nI j) = j by rw [cl, nI_clamp (by omega)]), (show cl (nI q) = q by rw [cl, nI_clamp (by omega)])]; exact c50)).trans (if_neg (by rw [(show cl (nI j) = j by rw [cl, nI_clamp (by omega)]), (show cl (nI q) = q by rw [cl, nI_clamp (by omega)])]; exact c106))))))]; rfl) dX4_notCopied_115
              · refine lv_iconst (v := nI 0) hx hb dX4_notCopied_109 (by decide) ?_
                refine lv_goto (tgt := 115) hx hb dX4_notCopied_110 (by decide) ?_
                exact hz_ri hx hb hr hlocks rfl (by rw [show fd_copy B S (nI j) fr (nI q) to_ nm = none from (if_pos c4).trans ((if_pos c11).trans ((if_neg (by rw [(show cl (nI j) = j by rw [cl, nI_clamp (by omega)])]; exact c23)).trans ((if_neg (by rw [(show cl (nI q) = q by rw [cl, nI_clamp (by omega)])]; exact c32)).trans ((if_pos (by rw [(show cl (nI j) = j by rw [cl, nI_clamp (by omega)]), (show cl (nI q) = q by rw [cl, nI_clamp (by omega)])]; exact c50)).trans (if_pos (by rw [(show cl (nI j) = j by rw [cl, nI_clamp (by omega)]), (show cl (nI q) = q by rw [cl, nI_clamp (by omega)])]; exact c106))))))]; rfl) dX4_notCopied_115
          · refine lv_ldc (v := -1000000003) hx hb hown wd4 dX4_notCopied_53 ?_
            exact hz_ri hx hb hr hlocks rfl (by rw [show fd_copy B S (nI j) fr (nI q) to_ nm = some 2 from (if_pos c4).trans ((if_pos c11).trans ((if_neg (by rw [(show cl (nI j) = j by rw [cl, nI_clamp (by omega)])]; exact c23)).trans ((if_neg (by rw [(show cl (nI q) = q by rw [cl, nI_clamp (by omega)])]; exact c32)).trans (if_neg (by rw [(show cl (nI j) = j by rw [cl, nI_clamp (by omega)]), (show cl (nI q) = q by rw [cl, nI_clamp (by omega)])]; exact c50)))))]; rfl) dX4_notCopied_55
        · refine lv_ldc (v := -1000000006) hx hb hown wd3 dX4_notCopied_35 ?_
          exact hz_ri hx hb hr hlocks rfl (by rw [show fd_copy B S (nI j) fr (nI q) to_ nm = some 5 from (if_pos c4).trans ((if_pos c11).trans ((if_neg (by rw [(show cl (nI j) = j by rw [cl, nI_clamp (by omega)])]; exact c23)).trans (if_pos (by rw [(show cl (nI q) = q by rw [cl, nI_clamp (by omega)])]; exact c32))))]; rfl) dX4_notCopied_37
    · refine lv_ldc (v := -1000000001) hx hb hown wd1 dX4_notCopied_14 ?_
      exact hz_ri hx hb hr hlocks rfl (by rw [show fd_copy B S y fr yt to_ nm = some 0 from (if_pos c4).trans (if_neg c11)]; rfl) dX4_notCopied_16
set_option maxHeartbeats 4000000 in
set_option maxRecDepth 100000 in
theorem c4_copy (l : Launch) (D : va_G) (cI cJ : ClassId) (h0 af ab as_ ac : Nat) (fs : List Value) (F B S : Nat → Int32) (C : Nat → Int64) (y fr yt to_ nm : Int32) (hf4 : fs[4]? = some (.ref af)) (hf13 : fs[13]? = some (.ref ab)) (hf14 : fs[14]? = some (.ref as_)) (hf15 : fs[15]? = some (.ref ac)) (hZ : hz_Z S) : hz_ME l yX4_copy wsX4_copy { frames := 3, cells := 0, slots := 0, locals := 69 } [.ref h0, .int (y), .int (fr), .int (yt), .int (to_), .int (nm)] D zcl [(cI, .int), (cJ, .long)] [(h0, .inr (4, fs)), (af, .inl (cI, 7, .inl F)), (ab, .inl (cI, 4, .inl B)), (as_, .inl (cI, 4, .inl S)), (ac, .inl (cJ, 160, .inr (.inl C)))] [(h0, .inr (4, fs)), (af, .inl (cI, 7, .inl (sp_ff F (fd_copy B S y fr yt to_ nm)))), (ab, .inl (cI, 4, .inl B)), (as_, .inl (cI, 4, .inl S)), (ac, .inl (cJ, 160, .inr (.inl (sp_fC (fd_copy B S y fr yt to_ nm) C (va_cpy C C (40 * cl y + cl fr) (40 * cl yt + cl to_) (cl nm))))))] (some (.int (sp_fr (fd_copy B S y fr yt to_ nm) nm))) := by
  refine hz_me (cc := cX4_copy) (maxL := 9) (ret := (some .int)) (by decide) rfl (Nat.le_of_ble_eq_true rfl) ?_
  intro p e s m below meth c hx hb hr hts hown hlocks hml hP hK hD ls hl
  have hS : va_S (hz_a [(h0, .inr (4, fs)), (af, .inl (cI, 7, .inl F)), (ab, .inl (cI, 4, .inl B)), (as_, .inl (cI, 4, .inl S)), (ac, .inl (cJ, 160, .inr (.inl C)))]) s.heap s.heap [] := va_S.rf
  have hown : s.vm.findClass RX4 = some m.cls := hown
  have hl : lv_has ls 9 [(0, .ref h0), (1, .int (y)), (2, .int (fr)), (3, .int (yt)), (4, .int (to_)), (5, .int (nm))] := hl
  have hinX4 : ∀ w ∈ u_ws RX4 TX4 16, w ∈ wsX4_copy := fun w h => List.mem_cons_of_mem _ (List.mem_append_right _ (h))
  have wd1 := hts (.fieldLink RX4 31 "HurtSpeechModel" "cells" "[J") (List.mem_of_getElem? (i := 1) rfl)
  refine lv_aload_n hx hb dX4_copy_0 rfl (lv_at hl 0 rfl) ?_
  refine lv_iload_n hx hb dX4_copy_1 rfl (lv_at hl 1 rfl) ?_
  refine lv_iload_n hx hb dX4_copy_2 rfl (lv_at hl 2 rfl) ?_
  refine lv_iload_n hx hb dX4_copy_3 rfl (lv_at hl 3 rfl) ?_
  refine lv_iload hx hb dX4_copy_4 (lv_at hl 4 rfl) ?_
  refine lv_iload hx hb dX4_copy_6 (lv_at hl 5 rfl) ?_
  refine hz_cv (As := [.int (y), .int (fr), .int (yt), .int (to_), .int (nm)]) (rest := []) ⟨hx, hb, hml, hown, hts⟩ (c4_notCopied l D cI cJ (h0 := h0) (ab := ab) (as_ := as_) (fs := fs) (B := B) (S := S) (y := y) (fr := fr) (yt := yt) (to_ := to_) (nm := nm) (hf13 := by first | assumption | rfl) (hf14 := by first | assumption | rfl)) (cwV 5 hts gX4_copy_X4_notCopied rfl rfl rfl (by decide +kernel) ⟨Nat.le_of_ble_eq_true rfl, Nat.le_of_ble_eq_true rfl⟩) hK hP [0, 2, 3] rfl [0, 1] rfl 0 rfl rfl rfl rfl hl.1 rfl (Nat.le_of_ble_eq_true rfl) dX4_copy_8 ⟨Nat.zero_le _, Nat.zero_le _⟩ ?_
  rcases copy_cases B S y fr yt to_ nm with hfd | hfd | hfd | hfd
  · obtain ⟨j, q, a_, c_, n_, hj, hq, ey, ea, eq_, ec, en, han, hcn⟩ := copy_ok hZ hfd
    rw [ey, ea, eq_, ec, en] at hl
    have hcy : cl y = j := by rw [ey, cl, nI_clamp (by omega)]
    have hcf : cl fr = a_ := by rw [ea, cl, nI_clamp (by omega)]
    have hct : cl yt = q := by rw [eq_, cl, nI_clamp (by omega)]
    have hco : cl to_ = c_ := by rw [ec, cl, nI_clamp (by omega)]
    have hcn : cl nm = n_ := by rw [en, cl, nI_clamp (by omega)]
    refine hz_ct (y := nI 0) (by rw [hfd]; rfl) ?_
    refine lv_istore (lv' := [(6, .int (nI 0)), (0, .ref h0), (1, .int (nI j)), (2, .int (nI a_)), (3, .int (nI q)), (4, .int (nI c_)), (5, .int (nI n_))]) hx hb dX4_copy_11 hl (by decide) rfl (fun ls hl => ?_)
    refine lv_iload hx hb dX4_copy_13 (lv_at hl 0 rfl) ?_
    refine lv_if_eq (tgt := 25) hx hb dX4_copy_15 (by decide) (fun _ => ?_) (fun h => absurd h (by first | decide | omega | exact hz_nneg (by omega) | exact hz_nneg' (by omega)))
    refine lv_iconst (v := nI 0) hx hb dX4_copy_25 (by decide) ?_
    refine lv_istore (lv' := [(7, .int (nI 0)), (6, .int (nI 0)), (0, .ref h0), (1, .int (nI j)), (2, .int (nI a_)), (3, .int (nI q)), (4, .int (nI c_)), (5, .int (nI n_))]) hx hb dX4_copy_26 hl (by decide) rfl (fun ls hl => ?_)
    have loop : ∀ (nn : Nat) (k : Nat) (ls : Array Slot) (H : Heap) (locs : List Loc), n_ - k < nn → (k ≤ n_) → lv_has ls 9 [(7, .int (nI k)), (6, .int (nI 0)), (0, .ref h0), (1, .int (nI j)), (2, .int (nI a_)), (3, .int (nI q)), (4, .int (nI c_)), (5, .int (nI n_))] → va_P D zcl [(h0, .inr (4, fs)), (af, .inl (cI, 7, .inl F)), (ab, .inl (cI, 4, .inl B)), (as_, .inl (cI, 4, .inl S)), (ac, .inl (cJ, 160, .inr (.inl (sp_ck C (40 * j + a_) (40 * q + c_) n_ a_ c_ k))))] H → va_D (hz_a [(h0, .inr (4, fs)), (af, .inl (cI, 7, .inl F)), (ab, .inl (cI, 4, .inl B)), (as_, .inl (cI, 4, .inl S)), (ac, .inl (cJ, 160, .inr (.inl C)))]) [(h0, .inr (4, fs)), (af, .inl (cI, 7, .inl F)), (ab, .inl (cI, 4, .inl B)), (as_, .inl (cI, 4, .inl S)), (ac, .inl (cJ, 160, .inr (.inl (sp_ck C (40 * j + a_) (40 * q + c_) n_ a_ c_ k))))] → va_S (hz_a [(h0, .inr (4, fs)), (af, .inl (cI, 7, .inl F)), (ab, .inl (cI, 4, .inl B)), (as_, .inl (cI, 4, .inl S)), (ac, .inl (cJ, 160, .inr (.inl C)))]) s.heap H locs → W p l e (headSpec wsX4_copy { frames := 3, cells := 0, slots := 0, locals := 69 }).room s m ([.ref h0, .int (y), .int (fr), .int (yt), .int (to_), .int (nm)] : List Value).toArray below meth c H locs 0 0 (MQ below (hz_E D zcl [(h0, .inr (4, fs)), (af, .inl (cI, 7, .inl (sp_ff F (fd_copy B S y fr yt to_ nm)))), (ab, .inl (cI, 4, .inl B)), (as_, .inl (cI, 4, .inl S)), (ac, .inl (cJ, 160, .inr (.inl (sp_fC (fd_copy B S y fr yt to_ nm) C (va_cpy C C (40 * cl y + cl fr) (40 * cl yt + cl to_) (cl nm))))))] (some (.int (sp_fr (fd_copy B S y fr yt to_ nm) nm))) (hz_a [(h0, .inr (4, fs)), (af, .inl (cI, 7, .inl F)), (ab, .inl (cI, 4, .inl B)), (as_, .inl (cI, 4, .inl S)), (ac, .inl (cJ, 160, .inr (.inl C)))])) ([.ref h0, .int (y), .int (fr), .int (yt), .int (to_), .int (nm)] : List Value).toArray s 0 0 (hz_a [(h0, .inr (4, fs)), (af, .inl (cI, 7, .inl F)), (ab, .inl (cI, 4, .inl B)), (as_, .inl (cI, 4, .inl S)), (ac, .inl (cJ, 160, .inr (.inl C)))])) (F0 m 28 ls []) := by
      intro nn
      induction nn with
      | zero => intro k ls H locs hnn hk hl hP hD hS; exact absurd hnn (Nat.not_lt_zero _)
      | succ nn ihloop =>
        intro k ls H locs hnn hk hl hP hD hS
        refine lv_iload hx hb dX4_copy_28 (lv_at hl 0 rfl) ?_
        refine lv_iload hx hb dX4_copy_30 (lv_at hl 7 rfl) ?_
        refine hz_icmp_ge (tgt := 90) (by omega) (by omega) hx hb dX4_copy_32 (by decide) (fun c32 => ?_) (fun c32 => ?_)
        · refine lv_iload hx hb dX4_copy_90 (lv_at hl 7 rfl) ?_
          refine hz_ei hx hb hr hlocks rfl ?_ hS (by rw [show fd_copy B S y fr yt to_ nm = none from hfd]; exact fr_n en.symm) dX4_copy_92
          rw [show fd_copy B S y fr yt to_ nm = none from hfd]
          rw [hcy, hcf, hct, hco, hcn]
          obtain rfl : k = n_ := by omega
          rw [ck_n] at hP
          exact hP
        · refine lv_iload_n hx hb dX4_copy_35 rfl (lv_at hl 4 rfl) ?_
          refine lv_iload hx hb dX4_copy_36 (lv_at hl 6 rfl) ?_
          refine hz_dia (ls := ls) (nI (if a_ < c_ then n_ - 1 - k else k)) 53 [] (fun jn53 => ?_) ?_
          · refine hz_icmp_ge (tgt := 51) (by omega) (by omega) hx hb dX4_copy_38 (by decide) (fun c38 => ?_) (fun c38 => ?_)
            · refine lv_iload hx hb dX4_copy_51 (lv_at hl 0 rfl) ?_
              exact hz_ct ((by rw [if_neg (by omega)])) jn53
            · refine lv_iload hx hb dX4_copy_41 (lv_at hl 7 rfl) ?_
              refine lv_iconst (v := nI 1) hx hb dX4_copy_43 (by decide) ?_
              refine hz_isub (by omega) hx hb dX4_copy_44 ?_
              refine lv_iload hx hb dX4_copy_45 (lv_at hl 0 rfl) ?_
              refine hz_isub (by omega) hx hb dX4_copy_47 ?_
              refine lv_goto (tgt := 53) hx hb dX4_copy_48 (by decide) ?_
              exact hz_ct ((by rw [if_pos c38])) jn53
          · obtain ⟨i_, hi_⟩ : ∃ i_, i_ = (if a_ < c_ then n_ - 1 - k else k) := ⟨_, rfl⟩
            rw [← hi_]
            have hin : i_ < n_ := by rw [hi_]; split <;> omega
            refine lv_istore (lv' := [(8, .int (nI i_)), (7, .int (nI k)), (6, .int (nI 0)), (0, .ref h0), (1, .int (nI j)), (2, .int (nI a_)), (3, .int (nI q)), (4, .int (nI c_)), (5, .int (nI n_))]) hx hb dX4_copy_53 hl (by decide) rfl (fun ls hl => ?_)
            refine lv_aload_n hx hb dX4_copy_55 rfl (lv_at hl 3 rfl) ?_
            refine va_get hx hb hts hinX4 hown hK hP 0 rfl rfl 15 (by decide) wd1 (fun _ h => h) hf15 dX4_copy_56 ?_
            refine lv_bipush (v := nI 40) hx hb dX4_copy_59 (by decide) ?_
            refine lv_iload_n hx hb dX4_copy_61 rfl (lv_at hl 6 rfl) ?_
            refine hz_imul hx hb dX4_copy_62 ?_
            refine lv_iload hx hb dX4_copy_63 (lv_at hl 7 rfl) ?_
            refine hz_iadd hx hb dX4_copy_65 ?_
            refine lv_iload hx hb dX4_copy_66 (lv_at hl 0 rfl) ?_
            refine hz_iadd hx hb dX4_copy_68 ?_
            refine lv_aload_n hx hb dX4_copy_69 rfl (lv_at hl 3 rfl) ?_
            refine va_get hx hb hts hinX4 hown hK hP 0 rfl rfl 15 (by decide) wd1 (fun _ h => h) hf15 dX4_copy_70 ?_
            refine lv_bipush (v := nI 40) hx hb dX4_copy_73 (by decide) ?_
            refine lv_iload_n hx hb dX4_copy_75 rfl (lv_at hl 4 rfl) ?_
            refine hz_imul hx hb dX4_copy_76 ?_
            refine lv_iload_n hx hb dX4_copy_77 rfl (lv_at hl 5 rfl) ?_
            refine hz_iadd hx hb dX4_copy_78 ?_
            refine lv_iload hx hb dX4_copy_79 (lv_at hl 0 rfl) ?_
            refine hz_iadd hx hb dX4_copy_81 ?_
            refine hz_lald (j := 40 * j + a_ + i_) hx hb hK hP 4 1 rfl rfl (by omega) (Nat.le_of_ble_eq_true rfl) dX4_copy_82 ?_
            refine hz_last (j := 40 * q + c_ + i_) hx hb hK hP hD hS 4 1 rfl rfl (by omega) (Nat.le_of_ble_eq_true rfl) dX4_copy_83 (w' := [(h0, .inr (4, fs)), (af, .inl (cI, 7, .inl F)), (ab, .inl (cI, 4, .inl B)), (as_, .inl (cI, 4, .inl S)), (ac, .inl (cJ, 160, .inr (.inl (vp_updL (sp_ck C (40 * j + a_) (40 * q + c_) n_ a_ c_ k) (40 * q + c_ + i_) ((sp_ck C (40 * j + a_) (40 * q + c_) n_ a_ c_ k) (40 * j + a_ + i_))))))]) rfl (fun H locs hP hD hS => ?_)
            refine lv_iinc (v := nI (k + 1)) (lv' := [(7, .int (nI (k + 1))), (8, .int (nI i_)), (6, .int (nI 0)), (0, .ref h0), (1, .int (nI j)), (2, .int (nI a_)), (3, .int (nI q)), (4, .int (nI c_)), (5, .int (nI n_))]) hx hb dX4_copy_84 hl (k := 1) rfl (nI_1 _) (by decide) rfl (fun ls hl => ?_)
            refine lv_goto (tgt := 28) hx hb dX4_copy_87 (by decide) ?_
            rw [ck_s C (by omega) hi_ (by omega) (by omega)] at hP hD
            exact ihloop (k + 1) ls _ _ (by omega) (by omega) (lv_sub hl [0, 2, 3, 4, 5, 6, 7, 8] rfl) hP hD hS
    rw [← ck_0 C (40 * j + a_) (40 * q + c_) n_ a_ c_] at hP
    exact loop _ 0 ls _ _ (Nat.lt_succ_self _) (by omega) (lv_sub hl [0, 1, 2, 3, 4, 5, 6, 7] rfl) hP (hz_D_a2 hD rfl) hS
  · refine hz_ct (y := -1000000001) (by rw [hfd]; rfl) ?_
    refine lv_istore (lv' := [(6, .int (-1000000001)), (0, .ref h0), (1, .int (y)), (2, .int (fr)), (3, .int (yt)), (4, .int (to_)), (5, .int (nm))]) hx hb dX4_copy_11 hl (by decide) rfl (fun ls hl => ?_)
    refine lv_iload hx hb dX4_copy_13 (lv_at hl 0 rfl) ?_
    refine lv_if_eq (tgt := 25) hx hb dX4_copy_15 (by decide) (fun h => absurd h (by first | decide | omega | exact hz_nneg (by omega) | exact hz_nneg' (by omega))) (fun _ => ?_)
    refine lv_aload_n hx hb dX4_copy_18 rfl (lv_at hl 1 rfl) ?_
    refine lv_iload hx hb dX4_copy_19 (lv_at hl 0 rfl) ?_
    refine hz_ce (As := [.int (-1000000001)]) (rest := []) ⟨hx, hb, hml, hown, hts⟩ (c4_finds l D cI cJ (h0 := h0) (af := af) (fs := fs) (F := F) (f := -1000000001) (k := 0) (hf := by first | assumption | rfl) (hk := by omega) (hfk := by decide)) (cwV 1 hts gX4_copy_X4_finds rfl rfl rfl (by decide +kernel) ⟨Nat.le_of_ble_eq_true rfl, Nat.le_of_ble_eq_true rfl⟩) hK hP hD hS [0, 1] rfl (by decide) (hz_ha [h0, af] rfl rfl) (w' := [(h0, .inr (4, fs)), (af, .inl (cI, 7, .inl (sp_fd F 0))), (ab, .inl (cI, 4, .inl B)), (as_, .inl (cI, 4, .inl S)), (ac, .inl (cJ, 160, .inr (.inl C)))]) (hz_pt_eq 5 [2, 3, 4] [(ab, .inl (cI, 4, .inl B)), (as_, .inl (cI, 4, .inl S)), (ac, .inl (cJ, 160, .inr (.inl C)))] rfl rfl rfl rfl rfl rfl rfl) [0, 1] rfl 0 rfl rfl rfl rfl hl.1 rfl (Nat.le_of_ble_eq_true rfl) dX4_copy_21 ⟨Nat.zero_le _, Nat.zero_le _⟩ (fun H locs hP hD hS => ?_)
    refine W.eq (g2 := F0 m 24 ls [.int ((-1000000001))]) rfl ?_
    refine hz_ei hx hb hr hlocks rfl ?_ hS (by rw [show fd_copy B S y fr yt to_ nm = some 0 from hfd]; rfl) dX4_copy_24
    rw [show fd_copy B S y fr yt to_ nm = some 0 from hfd]
    exact hP
  · refine hz_ct (y := -1000000006) (by rw [hfd]; rfl) ?_
    refine lv_istore (lv' := [(6, .int (-1000000006)), (0, .ref h0), (1, .int (y)), (2, .int (fr)), (3, .int (yt)), (4, .int (to_)), (5, .int (nm))]) hx hb dX4_copy_11 hl (by decide) rfl (fun ls hl => ?_)
    refine lv_iload hx hb dX4_copy_13 (lv_at hl 0 rfl) ?_
    refine lv_if_eq (tgt := 25) hx hb dX4_copy_15 (by decide) (fun h => absurd h (by first | decide | omega | exact hz_nneg (by omega) | exact hz_nneg' (by omega))) (fun _ => ?_)
    refine lv_aload_n hx hb dX4_copy_18 rfl (lv_at hl 1 rfl) ?_
    refine lv_iload hx hb dX4_copy_19 (lv_at hl 0 rfl) ?_
    refine hz_ce (As := [.int (-1000000006)]) (rest := []) ⟨hx, hb, hml, hown, hts⟩ (c4_finds l D cI cJ (h0 := h0) (af := af) (fs := fs) (F := F) (f := -1000000006) (k := 5) (hf := by first | assumption | rfl) (hk := by omega) (hfk := by decide)) (cwV 1 hts gX4_copy_X4_finds rfl rfl rfl (by decide +kernel) ⟨Nat.le_of_ble_eq_true rfl, Nat.le_of_ble_eq_true rfl⟩) hK hP hD hS [0, 1] rfl (by decide) (hz_ha [h0, af] rfl rfl) (w' := [(h0, .inr (4, fs)), (af, .inl (cI, 7, .inl (sp_fd F 5))), (ab, .inl (cI, 4, .inl B)), (as_, .inl (cI, 4, .inl S)), (ac, .inl (cJ, 160, .inr (.inl C)))]) (hz_pt_eq 5 [2, 3, 4] [(ab, .inl (cI, 4, .inl B)), (as_, .inl (cI, 4, .inl S)), (ac, .inl (cJ, 160, .inr (.inl C)))] rfl rfl rfl rfl rfl rfl rfl) [0, 1] rfl 0 rfl rfl rfl rfl hl.1 rfl (Nat.le_of_ble_eq_true rfl) dX4_copy_21 ⟨Nat.zero_le _, Nat.zero_le _⟩ (fun H locs hP hD hS => ?_)
    refine W.eq (g2 := F0 m 24 ls [.int ((-1000000006))]) rfl ?_
    refine hz_ei hx hb hr hlocks rfl ?_ hS (by rw [show fd_copy B S y fr yt to_ nm = some 5 from hfd]; rfl) dX4_copy_24
    rw [show fd_copy B S y fr yt to_ nm = some 5 from hfd]
    exact hP
  · refine hz_ct (y := -1000000003) (by rw [hfd]; rfl) ?_
    refine lv_istore (lv' := [(6, .int (-1000000003)), (0, .ref h0), (1, .int (y)), (2, .int (fr)), (3, .int (yt)), (4, .int (to_)), (5, .int (nm))]) hx hb dX4_copy_11 hl (by decide) rfl (fun ls hl => ?_)
    refine lv_iload hx hb dX4_copy_13 (lv_at hl 0 rfl) ?_
    refine lv_if_eq (tgt := 25) hx hb dX4_copy_15 (by decide) (fun h => absurd h (by first | decide | omega | exact hz_nneg (by omega) | exact hz_nneg' (by omega))) (fun _ => ?_)
    refine lv_aload_n hx hb dX4_copy_18 rfl (lv_at hl 1 rfl) ?_
    refine lv_iload hx hb dX4_copy_19 (lv_at hl 0 rfl) ?_
    refine hz_ce (As := [.int (-1000000003)]) (rest := []) ⟨hx, hb, hml, hown, hts⟩ (c4_finds l D cI cJ (h0 := h0) (af := af) (fs := fs) (F := F) (f := -1000000003) (k := 2) (hf := by first | assumption | rfl) (hk := by omega) (hfk := by decide)) (cwV 1 hts gX4_copy_X4_finds rfl rfl rfl (by decide +kernel) ⟨Nat.le_of_ble_eq_true rfl, Nat.le_of_ble_eq_true rfl⟩) hK hP hD hS [0, 1] rfl (by decide) (hz_ha [h0, af] rfl rfl) (w' := [(h0, .inr (4, fs)), (af, .inl (cI, 7, .inl (sp_fd F 2))), (ab, .inl (cI, 4, .inl B)), (as_, .inl (cI, 4, .inl S)), (ac, .inl (cJ, 160, .inr (.inl C)))]) (hz_pt_eq 5 [2, 3, 4] [(ab, .inl (cI, 4, .inl B)), (as_, .inl (cI, 4, .inl S)), (ac, .inl (cJ, 160, .inr (.inl C)))] rfl rfl rfl rfl rfl rfl rfl) [0, 1] rfl 0 rfl rfl rfl rfl hl.1 rfl (Nat.le_of_ble_eq_true rfl) dX4_copy_21 ⟨Nat.zero_le _, Nat.zero_le _⟩ (fun H locs hP hD hS => ?_)
    refine W.eq (g2 := F0 m 24 ls [.int ((-1000000003))]) rfl ?_
    refine hz_ei hx hb hr hlocks rfl ?_ hS (by rw [show fd_copy B S y fr yt to_ nm = some 2 from hfd]; rfl) dX4_copy_24
    rw [show fd_copy B S y fr yt to_ nm = some 2 from hfd]
    exact hP
set_option maxHeartbeats 4000000 in
set_option maxRecDepth 100000 in
theorem c3_copy (l : Launch) (D : va_G) (cI cJ : ClassId) (x0 a0 kc0 tc0 tp0 fd0 : Nat) (kf : Int32) (sh0 sb0 ss0 sc0 : Nat) (F B S : Nat → Int32) (C : Nat → Int64) (y fr yt to_ nm : Int32) (hZ : hz_Z S) : hz_ME l yX3_copy wsX3_copy { frames := 2, cells := 0, slots := 0, locals := 85 } [.ref x0, .int (y), .int (fr), .int (yt), .int (to_), .int (nm)] D zcl [(cI, .int), (cJ, .long)] [(x0, .inr (3, [.ref a0, .ref kc0, .ref tc0, .ref tp0, .ref sh0, .ref fd0, .int (kf)])), (sh0, .inr (1, [.ref sb0, .ref ss0, .ref sc0])), (sb0, .inl (cI, 4, .inl B)), (ss0, .inl (cI, 4, .inl S)), (sc0, .inl (cJ, 160, .inr (.inl C))), (fd0, .inl (cI, 7, .inl F))] [(x0, .inr (3, [.ref a0, .ref kc0, .ref tc0, .ref tp0, .ref sh0, .ref fd0, .int (kf)])), (sh0, .inr (1, [.ref sb0, .ref ss0, .ref sc0])), (sb0, .inl (cI, 4, .inl B)), (ss0, .inl (cI, 4, .inl S)), (sc0, .inl (cJ, 160, .inr (.inl (sp_fC (fd_copy B S y fr yt to_ nm) C (va_cpy C C (40 * cl y + cl fr) (40 * cl yt + cl to_) (cl nm)))))), (fd0, .inl (cI, 7, .inl (sp_ff F (fd_copy B S y fr yt to_ nm))))] (some (.int (sp_fr (fd_copy B S y fr yt to_ nm) nm))) := by
  refine hz_me (cc := cX3_copy) (maxL := 6) (ret := (some .int)) (by decide) rfl (Nat.le_of_ble_eq_true rfl) ?_
  intro p e s m below meth c hx hb hr hts hown hlocks hml hP hK hD ls hl
  have hS : va_S (hz_a [(x0, .inr (3, [.ref a0, .ref kc0, .ref tc0, .ref tp0, .ref sh0, .ref fd0, .int (kf)])), (sh0, .inr (1, [.ref sb0, .ref ss0, .ref sc0])), (sb0, .inl (cI, 4, .inl B)), (ss0, .inl (cI, 4, .inl S)), (sc0, .inl (cJ, 160, .inr (.inl C))), (fd0, .inl (cI, 7, .inl F))]) s.heap s.heap [] := va_S.rf
  have hown : s.vm.findClass RX3 = some m.cls := hown
  have hl : lv_has ls 6 [(0, .ref x0), (1, .int (y)), (2, .int (fr)), (3, .int (yt)), (4, .int (to_)), (5, .int (nm))] := hl
  have hinX1 : ∀ w ∈ u_ws RX1 TX1 3, w ∈ wsX3_copy := fun w h => List.mem_cons_of_mem _ (List.mem_append_right _ (h))
  have hinX3 : ∀ w ∈ u_ws RX3 TX3 7, w ∈ wsX3_copy := fun w h => List.mem_cons_of_mem _ (List.mem_append_left _ (List.mem_append_right _ (h)))
  have wd1 := hts (.constant RX3 48 (-1000000001)) (List.mem_of_getElem? (i := 1) rfl)
  have wd2 := hts (.fieldLink RX3 32 "HurtSpeech" "sheets" "LHurtSpeech$Sheets;") (List.mem_of_getElem? (i := 2) rfl)
  have wd3 := hts (.constant RX3 213 (-1000000006)) (List.mem_of_getElem? (i := 3) rfl)
  have wd4 := hts (.fieldLink RX3 214 "HurtSpeech$Sheets" "bits" "[I") (List.mem_of_getElem? (i := 4) rfl)
  have wd5 := hts (.constant RX3 86 (-1000000003)) (List.mem_of_getElem? (i := 5) rfl)
  refine lv_iload_n hx hb dX3_copy_0 rfl (lv_at hl 1 rfl) ?_
  refine hz_cs (As := [.int (y)]) (rest := []) ⟨hx, hb, hml, hown, hts⟩ (c1_isOne l D cI cJ (x := y) ) (va_cwS 1 hts gX3_copy_X1_isOne rfl rfl rfl (by decide +kernel) ⟨Nat.le_of_ble_eq_true rfl, Nat.le_of_ble_eq_true rfl⟩) hK hP [] rfl [0, 1] rfl rfl hl.1 rfl (Nat.le_of_ble_eq_true rfl) dX3_copy_1 ⟨Nat.zero_le _, Nat.zero_le _⟩ ?_
  refine hz_ifb_eq (tgt := 14) hx hb dX3_copy_4 (by decide) (fun c4 => ?_) (fun c4 => ?_)
  · refine lv_aload_n hx hb dX3_copy_14 rfl (lv_at hl 0 rfl) ?_
    refine lv_ldc (v := -1000000001) hx hb hown wd1 dX3_copy_15 ?_
    refine hz_ce (As := [.int (-1000000001)]) (rest := []) ⟨hx, hb, hml, hown, hts⟩ (c3_found l D cI cJ (x0 := x0) (a0 := a0) (kc0 := kc0) (tc0 := tc0) (tp0 := tp0) (sh0 := sh0) (fd0 := fd0) (kf := kf) (F := F) (f := -1000000001) (k := 0) (hk := by omega) (hfk := by decide)) (cwV 1 hts gX3_copy_X3_found rfl rfl rfl (by decide +kernel) ⟨Nat.le_of_ble_eq_true rfl, Nat.le_of_ble_eq_true rfl⟩) hK hP hD hS [0, 5] rfl (by decide) (hz_ha [x0, fd0] rfl rfl) (w' := [(x0, .inr (3, [.ref a0, .ref kc0, .ref tc0, .ref tp0, .ref sh0, .ref fd0, .int (kf)])), (sh0, .inr (1, [.ref sb0, .ref ss0, .ref sc0])), (sb0, .inl (cI, 4, .inl B)), (ss0, .inl (cI, 4, .inl S)), (sc0, .inl (cJ, 160, .inr (.inl C))), (fd0, .inl (cI, 7, .inl (sp_fd F 0)))]) (hz_pt_eq 6 [1, 2, 3, 4] [(sh0, .inr (1, [.ref sb0, .ref ss0, .ref sc0])), (sb0, .inl (cI, 4, .inl B)), (ss0, .inl (cI, 4, .inl S)), (sc0, .inl (cJ, 160, .inr (.inl C)))] rfl rfl rfl rfl rfl rfl rfl) [0, 1] rfl 0 rfl rfl rfl rfl hl.1 rfl (Nat.le_of_ble_eq_true rfl) dX3_copy_17 ⟨Nat.zero_le _, Nat.zero_le _⟩ (fun H locs hP hD hS => ?_)
    refine W.eq (g2 := F0 m 20 ls [.int ((-1000000001))]) rfl ?_
    refine hz_ei hx hb hr hlocks rfl ?_ hS (by rw [show fd_copy B S y fr yt to_ nm = some 0 from if_neg c4]; rfl) dX3_copy_20
    rw [show fd_copy B S y fr yt to_ nm = some 0 from if_neg c4]
    exact hP
  · refine lv_iload_n hx hb dX3_copy_7 rfl (lv_at hl 3 rfl) ?_
    refine hz_cs (As := [.int (yt)]) (rest := []) ⟨hx, hb, hml, hown, hts⟩ (c1_isOne l D cI cJ (x := yt) ) (va_cwS 1 hts gX3_copy_X1_isOne rfl rfl rfl (by decide +kernel) ⟨Nat.le_of_ble_eq_true rfl, Nat.le_of_ble_eq_true rfl⟩) hK hP [] rfl [0, 1] rfl rfl hl.1 rfl (Nat.le_of_ble_eq_true rfl) dX3_copy_8 ⟨Nat.zero_le _, Nat.zero_le _⟩ ?_
    refine hz_ifb_ne (tgt := 21) hx hb dX3_copy_11 (by decide) (fun c11 => ?_) (fun c11 => ?_)
    · obtain ⟨j, hj, ej⟩ := hz_in_of c4 (by decide)
      rw [ej] at hl
      have hcj : cl y = j := by rw [ej, cl, nI_clamp (by omega)]
      obtain ⟨q, hq, eq⟩ := hz_in_of c11 (by decide)
      rw [eq] at hl
      have hcq : cl yt = q := by rw [eq, cl, nI_clamp (by omega)]
      refine lv_aload_n hx hb dX3_copy_21 rfl (lv_at hl 0 rfl) ?_
      refine va_get hx hb hts hinX3 hown hK hP 0 rfl rfl 4 (by decide) wd2 (fun _ h => h) rfl dX3_copy_22 ?_
      refine lv_iload_n hx hb dX3_copy_25 rfl (lv_at hl 1 rfl) ?_
      refine hz_cv (As := [.int (nI j)]) (rest := []) ⟨hx, hb, hml, hown, hts⟩ (c1_isMissing l D cI cJ (sh0 := sh0) (sb0 := sb0) (ss0 := ss0) (sc0 := sc0) (B := B) (j := j) (hj := by omega)) (cwV 1 hts gX3_copy_X1_isMissing rfl rfl rfl (by decide +kernel) ⟨Nat.le_of_ble_eq_true rfl, Nat.le_of_ble_eq_true rfl⟩) hK hP [1, 2] rfl [0, 1] rfl 1 rfl rfl rfl rfl hl.1 rfl (Nat.le_of_ble_eq_true rfl) dX3_copy_26 ⟨Nat.zero_le _, Nat.zero_le _⟩ ?_
      refine hz_ifb_ne (tgt := 43) hx hb dX3_copy_29 (by decide) (fun c29 => ?_) (fun c29 => ?_)
      · refine lv_aload_n hx hb dX3_copy_43 rfl (lv_at hl 0 rfl) ?_
        refine lv_ldc (v := -1000000006) hx hb hown wd3 dX3_copy_44 ?_
        refine hz_ce (As := [.int (-1000000006)]) (rest := []) ⟨hx, hb, hml, hown, hts⟩ (c3_found l D cI cJ (x0 := x0) (a0 := a0) (kc0 := kc0) (tc0 := tc0) (tp0 := tp0) (sh0 := sh0) (fd0 := fd0) (kf := kf) (F := F) (f := -1000000006) (k := 5) (hk := by omega) (hfk := by decide)) (cwV 1 hts gX3_copy_X3_found rfl rfl rfl (by decide +kernel) ⟨Nat.le_of_ble_eq_true rfl, Nat.le_of_ble_eq_true rfl⟩) hK hP hD hS [0, 5] rfl (by decide) (hz_ha [x0, fd0] rfl rfl) (w' := [(x0, .inr (3, [.ref a0, .ref kc0, .ref tc0, .ref tp0, .ref sh0, .ref fd0, .int (kf)])), (sh0, .inr (1, [.ref sb0, .ref ss0, .ref sc0])), (sb0, .inl (cI, 4, .inl B)), (ss0, .inl (cI, 4, .inl S)), (sc0, .inl (cJ, 160, .inr (.inl C))), (fd0, .inl (cI, 7, .inl (sp_fd F 5)))]) (hz_pt_eq 6 [1, 2, 3, 4] [(sh0, .inr (1, [.ref sb0, .ref ss0, .ref sc0])), (sb0, .inl (cI, 4, .inl B)), (ss0, .inl (cI, 4, .inl S)), (sc0, .inl (cJ, 160, .inr (.inl C)))] rfl rfl rfl rfl rfl rfl rfl) [0, 1] rfl 0 rfl rfl rfl rfl hl.1 rfl (Nat.le_of_ble_eq_true rfl) dX3_copy_46 ⟨Nat.zero_le _, Nat.zero_le _⟩ (fun H locs hP hD hS => ?_)
        refine W.eq (g2 := F0 m 49 ls [.int ((-1000000006))]) rfl ?_
        refine hz_ei hx hb hr hlocks rfl ?_ hS (by rw [show fd_copy B S y fr yt to_ nm = some 5 from (if_pos c4).trans ((if_pos c11).trans (if_pos (by rw [hcj]; exact c29)))]; rfl) dX3_copy_49
        rw [show fd_copy B S y fr yt to_ nm = some 5 from (if_pos c4).trans ((if_pos c11).trans (if_pos (by rw [hcj]; exact c29)))]
        exact hP
      · refine lv_aload_n hx hb dX3_copy_32 rfl (lv_at hl 0 rfl) ?_
        refine va_get hx hb hts hinX3 hown hK hP 0 rfl rfl 4 (by decide) wd2 (fun _ h => h) rfl dX3_copy_33 ?_
        refine lv_iload_n hx hb dX3_copy_36 rfl (lv_at hl 3 rfl) ?_
        refine hz_cv (As := [.int (nI q)]) (rest := []) ⟨hx, hb, hml, hown, hts⟩ (c1_isMissing l D cI cJ (sh0 := sh0) (sb0 := sb0) (ss0 := ss0) (sc0 := sc0) (B := B) (j := q) (hj := by omega)) (cwV 1 hts gX3_copy_X1_isMissing rfl rfl rfl (by decide +kernel) ⟨Nat.le_of_ble_eq_true rfl, Nat.le_of_ble_eq_true rfl⟩) hK hP [1, 2] rfl [0, 1] rfl 1 rfl rfl rfl rfl hl.1 rfl (Nat.le_of_ble_eq_true rfl) dX3_copy_37 ⟨Nat.zero_le _, Nat.zero_le _⟩ ?_
        refine hz_ifb_eq (tgt := 50) hx hb dX3_copy_40 (by decide) (fun c40 => ?_) (fun c40 => ?_)
        · refine lv_aload_n hx hb dX3_copy_50 rfl (lv_at hl 0 rfl) ?_
          refine va_get hx hb hts hinX3 hown hK hP 0 rfl rfl 4 (by decide) wd2 (fun _ h => h) rfl dX3_copy_51 ?_
          refine va_get hx hb hts hinX1 hown hK hP 1 rfl rfl 0 (by decide) wd4 (fun _ h => h) rfl dX3_copy_54 ?_
          refine lv_iload_n hx hb dX3_copy_57 rfl (lv_at hl 1 rfl) ?_
          refine hz_iald (j := j) hx hb hK hP 2 0 rfl rfl (by omega) (Nat.le_of_ble_eq_true rfl) dX3_copy_58 ?_
          refine lv_aload_n hx hb dX3_copy_59 rfl (lv_at hl 0 rfl) ?_
          refine va_get hx hb hts hinX3 hown hK hP 0 rfl rfl 4 (by decide) wd2 (fun _ h => h) rfl dX3_copy_60 ?_
          refine va_get hx hb hts hinX1 hown hK hP 1 rfl rfl 0 (by decide) wd4 (fun _ h => h) rfl dX3_copy_63 ?_
          refine lv_iload_n hx hb dX3_copy_66 rfl (lv_at hl 3 rfl) ?_
          refine hz_iald (j := q) hx hb hK hP 2 0 rfl rfl (by omega) (Nat.le_of_ble_eq_true rfl) dX3_copy_67 ?_
          refine lv_icmp_eq (tgt := 78) hx hb dX3_copy_68 (by decide) (fun c68 => ?_) (fun c68 => ?_)
          · refine lv_aload_n hx hb dX3_copy_78 rfl (lv_at hl 0 rfl) ?_
            refine va_get hx hb hts hinX3 hown hK hP 0 rfl rfl 4 (by decide) wd2 (fun _ h => h) rfl dX3_copy_79 ?_
            refine lv_iload_n hx hb dX3_copy_82 rfl (lv_at hl 1 rfl) ?_
            refine lv_iload_n hx hb dX3_copy_83 rfl (lv_at hl 2 rfl) ?_
            refine lv_iload hx hb dX3_copy_84 (lv_at hl 5 rfl) ?_
            refine hz_cv (As := [.int (nI j), .int (fr), .int (nm)]) (rest := []) ⟨hx, hb, hml, hown, hts⟩ (c1_hasPart l D cI cJ (sh0 := sh0) (sb0 := sb0) (ss0 := ss0) (sc0 := sc0) (S := S) (j := j) (a_ := fr) (n_ := nm) (hj := by omega)) (cwV 3 hts gX3_copy_X1_hasPart rfl rfl rfl (by decide +kernel) ⟨Nat.le_of_ble_eq_true rfl, Nat.le_of_ble_eq_true rfl⟩) hK hP [1, 3] rfl [0, 1] rfl 1 rfl rfl rfl rfl hl.1 rfl (Nat.le_of_ble_eq_true rfl) dX3_copy_86 ⟨Nat.zero_le _, Nat.zero_le _⟩ ?_
            refine hz_ifb_eq (tgt := 107) hx hb dX3_copy_89 (by decide) (fun c89 => ?_) (fun c89 => ?_)
            · refine lv_aload_n hx hb dX3_copy_107 rfl (lv_at hl 0 rfl) ?_
              refine lv_ldc (v := -1000000001) hx hb hown wd1 dX3_copy_108 ?_
              refine hz_ce (As := [.int (-1000000001)]) (rest := []) ⟨hx, hb, hml, hown, hts⟩ (c3_found l D cI cJ (x0 := x0) (a0 := a0) (kc0 := kc0) (tc0 := tc0) (tp0 := tp0) (sh0 := sh0) (fd0 := fd0) (kf := kf) (F := F) (f := -1000000001) (k := 0) (hk := by omega) (hfk := by decide)) (cwV 1 hts gX3_copy_X3_found rfl rfl rfl (by decide +kernel) ⟨Nat.le_of_ble_eq_true rfl, Nat.le_of_ble_eq_true rfl⟩) hK hP hD hS [0, 5] rfl (by decide) (hz_ha [x0, fd0] rfl rfl) (w' := [(x0, .inr (3, [.ref a0, .ref kc0, .ref tc0, .ref tp0, .ref sh0, .ref fd0, .int (kf)])), (sh0, .inr (1, [.ref sb0, .ref ss0, .ref sc0])), (sb0, .inl (cI, 4, .inl B)), (ss0, .inl (cI, 4, .inl S)), (sc0, .inl (cJ, 160, .inr (.inl C))), (fd0, .inl (cI, 7, .inl (sp_fd F 0)))]) (hz_pt_eq 6 [1, 2, 3, 4] [(sh0, .inr (1, [.ref sb0, .ref ss0, .ref sc0])), (sb0, .inl (cI, 4, .inl B)), (ss0, .inl (cI, 4, .inl S)), (sc0, .inl (cJ, 160, .inr (.inl C)))] rfl rfl rfl rfl rfl rfl rfl) [0, 1] rfl 0 rfl rfl rfl rfl hl.1 rfl (Nat.le_of_ble_eq_true rfl) dX3_copy_110 ⟨Nat.zero_le _, Nat.zero_le _⟩ (fun H locs hP hD hS => ?_)
              refine W.eq (g2 := F0 m 113 ls [.int ((-1000000001))]) rfl ?_
              refine hz_ei hx hb hr hlocks rfl ?_ hS (by rw [show fd_copy B S y fr yt to_ nm = some 0 from (if_pos c4).trans ((if_pos c11).trans ((if_neg (by rw [hcj]; exact c29)).trans ((if_neg (by rw [hcq]; exact c40)).trans ((if_pos (by rw [hcj, hcq]; exact c68)).trans (if_neg (by rw [hcj, hcq]; exact fun h => c89 h.1)))))) ]; rfl) dX3_copy_113
              rw [show fd_copy B S y fr yt to_ nm = some 0 from (if_pos c4).trans ((if_pos c11).trans ((if_neg (by rw [hcj]; exact c29)).trans ((if_neg (by rw [hcq]; exact c40)).trans ((if_pos (by rw [hcj, hcq]; exact c68)).trans (if_neg (by rw [hcj, hcq]; exact fun h => c89 h.1)))))) ]
              exact hP
            · refine lv_aload_n hx hb dX3_copy_92 rfl (lv_at hl 0 rfl) ?_
              refine va_get hx hb hts hinX3 hown hK hP 0 rfl rfl 4 (by decide) wd2 (fun _ h => h) rfl dX3_copy_93 ?_
              refine lv_iload_n hx hb dX3_copy_96 rfl (lv_at hl 3 rfl) ?_
              refine lv_iload hx hb dX3_copy_97 (lv_at hl 4 rfl) ?_
              refine lv_iload hx hb dX3_copy_99 (lv_at hl 5 rfl) ?_
              refine hz_cv (As := [.int (nI q), .int (to_), .int (nm)]) (rest := []) ⟨hx, hb, hml, hown, hts⟩ (c1_hasPart l D cI cJ (sh0 := sh0) (sb0 := sb0) (ss0 := ss0) (sc0 := sc0) (S := S) (j := q) (a_ := to_) (n_ := nm) (hj := by omega)) (cwV 3 hts gX3_copy_X1_hasPart rfl rfl rfl (by decide +kernel) ⟨Nat.le_of_ble_eq_true rfl, Nat.le_of_ble_eq_true rfl⟩) hK hP [1, 3] rfl [0, 1] rfl 1 rfl rfl rfl rfl hl.1 rfl (Nat.le_of_ble_eq_true rfl) dX3_copy_101 ⟨Nat.zero_le _, Nat.zero_le _⟩ ?_
              refine hz_ifb_ne (tgt := 114) hx hb dX3_copy_104 (by decide) (fun c104 => ?_) (fun c104 => ?_)
              · obtain ⟨a_, n_, ea, en, han⟩ := part_of c89 (hZ j hj).1 (hZ j hj).2
                obtain ⟨c_, n2_, ec, en2, hcn⟩ := part_of c104 (hZ q hq).1 (hZ q hq).2
                have e2 : n2_ = n_ := by rw [en] at en2; exact ((nI_eq (by omega) (by omega)).mp en2).symm
                subst e2
                rw [ea, ec, en] at hl
                have hcf : cl fr = a_ := by rw [ea, cl, nI_clamp (by omega)]
                have hco : cl to_ = c_ := by rw [ec, cl, nI_clamp (by omega)]
                have hcm : cl nm = n2_ := by rw [en, cl, nI_clamp (by omega)]
                refine lv_aload_n hx hb dX3_copy_114 rfl (lv_at hl 0 rfl) ?_
                refine va_get hx hb hts hinX3 hown hK hP 0 rfl rfl 4 (by decide) wd2 (fun _ h => h) rfl dX3_copy_115 ?_
                refine lv_iload_n hx hb dX3_copy_118 rfl (lv_at hl 1 rfl) ?_
                refine lv_iload_n hx hb dX3_copy_119 rfl (lv_at hl 2 rfl) ?_
                refine lv_iload_n hx hb dX3_copy_120 rfl (lv_at hl 3 rfl) ?_
                refine lv_iload hx hb dX3_copy_121 (lv_at hl 4 rfl) ?_
                refine lv_iload hx hb dX3_copy_123 (lv_at hl 5 rfl) ?_
                refine hz_ce (As := [.int (nI j), .int (nI a_), .int (nI q), .int (nI c_), .int (nI n2_)]) (rest := []) ⟨hx, hb, hml, hown, hts⟩ (c1_move l D cI cJ (sh0 := sh0) (sb0 := sb0) (ss0 := ss0) (sc0 := sc0) (C := C) (j := j) (a_ := a_) (q := q) (c_ := c_) (n_ := n2_) (hj := by omega) (hq := by omega) (han := by omega) (hcn := by omega)) (cwV 5 hts gX3_copy_X1_move rfl rfl rfl (by decide +kernel) ⟨Nat.le_of_ble_eq_true rfl, Nat.le_of_ble_eq_true rfl⟩) hK hP hD hS [1, 4] rfl (by decide) (hz_ha [sh0, sc0] rfl rfl) (w' := [(x0, .inr (3, [.ref a0, .ref kc0, .ref tc0, .ref tp0, .ref sh0, .ref fd0, .int (kf)])), (sh0, .inr (1, [.ref sb0, .ref ss0, .ref sc0])), (sb0, .inl (cI, 4, .inl B)), (ss0, .inl (cI, 4, .inl S)), (sc0, .inl (cJ, 160, .inr (.inl (va_cpy C C (40 * j + a_) (40 * q + c_) n2_)))), (fd0, .inl (cI, 7, .inl F))]) (hz_pt_eq 6 [0, 2, 3, 5] [(x0, .inr (3, [.ref a0, .ref kc0, .ref tc0, .ref tp0, .ref sh0, .ref fd0, .int (kf)])), (sb0, .inl (cI, 4, .inl B)), (ss0, .inl (cI, 4, .inl S)), (fd0, .inl (cI, 7, .inl F))] rfl rfl rfl rfl rfl rfl rfl) [0, 1] rfl 1 rfl rfl rfl rfl hl.1 rfl (Nat.le_of_ble_eq_true rfl) dX3_copy_125 ⟨Nat.zero_le _, Nat.zero_le _⟩ (fun H locs hP hD hS => ?_)
                refine W.eq (g2 := F0 m 128 ls []) rfl ?_
                refine lv_iload hx hb dX3_copy_128 (lv_at hl 5 rfl) ?_
                refine hz_ei hx hb hr hlocks rfl ?_ hS (by rw [show fd_copy B S y fr yt to_ nm = none from (if_pos c4).trans ((if_pos c11).trans ((if_neg (by rw [hcj]; exact c29)).trans ((if_neg (by rw [hcq]; exact c40)).trans ((if_pos (by rw [hcj, hcq]; exact c68)).trans (if_pos (by rw [hcj, hcq]; exact ⟨c89, c104⟩))))))]; exact fr_n en.symm) dX3_copy_130
                rw [show fd_copy B S y fr yt to_ nm = none from (if_pos c4).trans ((if_pos c11).trans ((if_neg (by rw [hcj]; exact c29)).trans ((if_neg (by rw [hcq]; exact c40)).trans ((if_pos (by rw [hcj, hcq]; exact c68)).trans (if_pos (by rw [hcj, hcq]; exact ⟨c89, c104⟩))))))]
                rw [hcj, hcq, hcf, hco, hcm]
                exact hP
              · refine lv_aload_n hx hb dX3_copy_107 rfl (lv_at hl 0 rfl) ?_
                refine lv_ldc (v := -1000000001) hx hb hown wd1 dX3_copy_108 ?_
                refine hz_ce (As := [.int (-1000000001)]) (rest := []) ⟨hx, hb, hml, hown, hts⟩ (c3_found l D cI cJ (x0 := x0) (a0 := a0) (kc0 := kc0) (tc0 := tc0) (tp0 := tp0) (sh0 := sh0) (fd0 := fd0) (kf := kf) (F := F) (f := -1000000001) (k := 0) (hk := by omega) (hfk := by decide)) (cwV 1 hts gX3_copy_X3_found rfl rfl rfl (by decide +kernel) ⟨Nat.le_of_ble_eq_true rfl, Nat.le_of_ble_eq_true rfl⟩) hK hP hD hS [0, 5] rfl (by decide) (hz_ha [x0, fd0] rfl rfl) (w' := [(x0, .inr (3, [.ref a0, .ref kc0, .ref tc0, .ref tp0, .ref sh0, .ref fd0, .int (kf)])), (sh0, .inr (1, [.ref sb0, .ref ss0, .ref sc0])), (sb0, .inl (cI, 4, .inl B)), (ss0, .inl (cI, 4, .inl S)), (sc0, .inl (cJ, 160, .inr (.inl C))), (fd0, .inl (cI, 7, .inl (sp_fd F 0)))]) (hz_pt_eq 6 [1, 2, 3, 4] [(sh0, .inr (1, [.ref sb0, .ref ss0, .ref sc0])), (sb0, .inl (cI, 4, .inl B)), (ss0, .inl (cI, 4, .inl S)), (sc0, .inl (cJ, 160, .inr (.inl C)))] rfl rfl rfl rfl rfl rfl rfl) [0, 1] rfl 0 rfl rfl rfl rfl hl.1 rfl (Nat.le_of_ble_eq_true rfl) dX3_copy_110 ⟨Nat.zero_le _, Nat.zero_le _⟩ (fun H locs hP hD hS => ?_)
                refine W.eq (g2 := F0 m 113 ls [.int ((-1000000001))]) rfl ?_
                refine hz_ei hx hb hr hlocks rfl ?_ hS (by rw [show fd_copy B S y fr yt to_ nm = some 0 from (if_pos c4).trans ((if_pos c11).trans ((if_neg (by rw [hcj]; exact c29)).trans ((if_neg (by rw [hcq]; exact c40)).trans ((if_pos (by rw [hcj, hcq]; exact c68)).trans (if_neg (by rw [hcj, hcq]; exact fun h => c104 h.2))))))]; rfl) dX3_copy_113
                rw [show fd_copy B S y fr yt to_ nm = some 0 from (if_pos c4).trans ((if_pos c11).trans ((if_neg (by rw [hcj]; exact c29)).trans ((if_neg (by rw [hcq]; exact c40)).trans ((if_pos (by rw [hcj, hcq]; exact c68)).trans (if_neg (by rw [hcj, hcq]; exact fun h => c104 h.2))))))]
                exact hP
          · refine lv_aload_n hx hb dX3_copy_71 rfl (lv_at hl 0 rfl) ?_
            refine lv_ldc (v := -1000000003) hx hb hown wd5 dX3_copy_72 ?_
            refine hz_ce (As := [.int (-1000000003)]) (rest := []) ⟨hx, hb, hml, hown, hts⟩ (c3_found l D cI cJ (x0 := x0) (a0 := a0) (kc0 := kc0) (tc0 := tc0) (tp0 := tp0) (sh0 := sh0) (fd0 := fd0) (kf := kf) (F := F) (f := -1000000003) (k := 2) (hk := by omega) (hfk := by decide)) (cwV 1 hts gX3_copy_X3_found rfl rfl rfl (by decide +kernel) ⟨Nat.le_of_ble_eq_true rfl, Nat.le_of_ble_eq_true rfl⟩) hK hP hD hS [0, 5] rfl (by decide) (hz_ha [x0, fd0] rfl rfl) (w' := [(x0, .inr (3, [.ref a0, .ref kc0, .ref tc0, .ref tp0, .ref sh0, .ref fd0, .int (kf)])), (sh0, .inr (1, [.ref sb0, .ref ss0, .ref sc0])), (sb0, .inl (cI, 4, .inl B)), (ss0, .inl (cI, 4, .inl S)), (sc0, .inl (cJ, 160, .inr (.inl C))), (fd0, .inl (cI, 7, .inl (sp_fd F 2)))]) (hz_pt_eq 6 [1, 2, 3, 4] [(sh0, .inr (1, [.ref sb0, .ref ss0, .ref sc0])), (sb0, .inl (cI, 4, .inl B)), (ss0, .inl (cI, 4, .inl S)), (sc0, .inl (cJ, 160, .inr (.inl C)))] rfl rfl rfl rfl rfl rfl rfl) [0, 1] rfl 0 rfl rfl rfl rfl hl.1 rfl (Nat.le_of_ble_eq_true rfl) dX3_copy_74 ⟨Nat.zero_le _, Nat.zero_le _⟩ (fun H locs hP hD hS => ?_)
            refine W.eq (g2 := F0 m 77 ls [.int ((-1000000003))]) rfl ?_
            refine hz_ei hx hb hr hlocks rfl ?_ hS (by rw [show fd_copy B S y fr yt to_ nm = some 2 from (if_pos c4).trans ((if_pos c11).trans ((if_neg (by rw [hcj]; exact c29)).trans ((if_neg (by rw [hcq]; exact c40)).trans (if_neg (by rw [hcj, hcq]; exact c68)))))]; rfl) dX3_copy_77
            rw [show fd_copy B S y fr yt to_ nm = some 2 from (if_pos c4).trans ((if_pos c11).trans ((if_neg (by rw [hcj]; exact c29)).trans ((if_neg (by rw [hcq]; exact c40)).trans (if_neg (by rw [hcj, hcq]; exact c68)))))]
            exact hP
        · refine lv_aload_n hx hb dX3_copy_43 rfl (lv_at hl 0 rfl) ?_
          refine lv_ldc (v := -1000000006) hx hb hown wd3 dX3_copy_44 ?_
          refine hz_ce (As := [.int (-1000000006)]) (rest := []) ⟨hx, hb, hml, hown, hts⟩ (c3_found l D cI cJ (x0 := x0) (a0 := a0) (kc0 := kc0) (tc0 := tc0) (tp0 := tp0) (sh0 := sh0) (fd0 := fd0) (kf := kf) (F := F) (f := -1000000006) (k := 5) (hk := by omega) (hfk := by decide)) (cwV 1 hts gX3_copy_X3_found rfl rfl rfl (by decide +kernel) ⟨Nat.le_of_ble_eq_true rfl, Nat.le_of_ble_eq_true rfl⟩) hK hP hD hS [0, 5] rfl (by decide) (hz_ha [x0, fd0] rfl rfl) (w' := [(x0, .inr (3, [.ref a0, .ref kc0, .ref tc0, .ref tp0, .ref sh0, .ref fd0, .int (kf)])), (sh0, .inr (1, [.ref sb0, .ref ss0, .ref sc0])), (sb0, .inl (cI, 4, .inl B)), (ss0, .inl (cI, 4, .inl S)), (sc0, .inl (cJ, 160, .inr (.inl C))), (fd0, .inl (cI, 7, .inl (sp_fd F 5)))]) (hz_pt_eq 6 [1, 2, 3, 4] [(sh0, .inr (1, [.ref sb0, .ref ss0, .ref sc0])), (sb0, .inl (cI, 4, .inl B)), (ss0, .inl (cI, 4, .inl S)), (sc0, .inl (cJ, 160, .inr (.inl C)))] rfl rfl rfl rfl rfl rfl rfl) [0, 1] rfl 0 rfl rfl rfl rfl hl.1 rfl (Nat.le_of_ble_eq_true rfl) dX3_copy_46 ⟨Nat.zero_le _, Nat.zero_le _⟩ (fun H locs hP hD hS => ?_)
          refine W.eq (g2 := F0 m 49 ls [.int ((-1000000006))]) rfl ?_
          refine hz_ei hx hb hr hlocks rfl ?_ hS (by rw [show fd_copy B S y fr yt to_ nm = some 5 from (if_pos c4).trans ((if_pos c11).trans ((if_neg (by rw [hcj]; exact c29)).trans (if_pos (by rw [hcq]; exact c40))))]; rfl) dX3_copy_49
          rw [show fd_copy B S y fr yt to_ nm = some 5 from (if_pos c4).trans ((if_pos c11).trans ((if_neg (by rw [hcj]; exact c29)).trans (if_pos (by rw [hcq]; exact c40))))]
          exact hP
    · refine lv_aload_n hx hb dX3_copy_14 rfl (lv_at hl 0 rfl) ?_
      refine lv_ldc (v := -1000000001) hx hb hown wd1 dX3_copy_15 ?_
      refine hz_ce (As := [.int (-1000000001)]) (rest := []) ⟨hx, hb, hml, hown, hts⟩ (c3_found l D cI cJ (x0 := x0) (a0 := a0) (kc0 := kc0) (tc0 := tc0) (tp0 := tp0) (sh0 := sh0) (fd0 := fd0) (kf := kf) (F := F) (f := -1000000001) (k := 0) (hk := by omega) (hfk := by decide)) (cwV 1 hts gX3_copy_X3_found rfl rfl rfl (by decide +kernel) ⟨Nat.le_of_ble_eq_true rfl, Nat.le_of_ble_eq_true rfl⟩) hK hP hD hS [0, 5] rfl (by decide) (hz_ha [x0, fd0] rfl rfl) (w' := [(x0, .inr (3, [.ref a0, .ref kc0, .ref tc0, .ref tp0, .ref sh0, .ref fd0, .int (kf)])), (sh0, .inr (1, [.ref sb0, .ref ss0, .ref sc0])), (sb0, .inl (cI, 4, .inl B)), (ss0, .inl (cI, 4, .inl S)), (sc0, .inl (cJ, 160, .inr (.inl C))), (fd0, .inl (cI, 7, .inl (sp_fd F 0)))]) (hz_pt_eq 6 [1, 2, 3, 4] [(sh0, .inr (1, [.ref sb0, .ref ss0, .ref sc0])), (sb0, .inl (cI, 4, .inl B)), (ss0, .inl (cI, 4, .inl S)), (sc0, .inl (cJ, 160, .inr (.inl C)))] rfl rfl rfl rfl rfl rfl rfl) [0, 1] rfl 0 rfl rfl rfl rfl hl.1 rfl (Nat.le_of_ble_eq_true rfl) dX3_copy_17 ⟨Nat.zero_le _, Nat.zero_le _⟩ (fun H locs hP hD hS => ?_)
      refine W.eq (g2 := F0 m 20 ls [.int ((-1000000001))]) rfl ?_
      refine hz_ei hx hb hr hlocks rfl ?_ hS (by rw [show fd_copy B S y fr yt to_ nm = some 0 from (if_pos c4).trans (if_neg c11)]; rfl) dX3_copy_20
      rw [show fd_copy B S y fr yt to_ nm = some 0 from (if_pos c4).trans (if_neg c11)]
      exact hP
