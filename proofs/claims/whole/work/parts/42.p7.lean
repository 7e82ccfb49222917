set_option maxHeartbeats 4000000 in
set_option maxRecDepth 100000 in
theorem c1_isOne (l : Launch) (D : va_G) (cI cJ : ClassId) (x : Int32)  : hz_MP l yX1_isOne wsX1_isOne { frames := 0, cells := 0, slots := 0, locals := 0 } [.int (x)] D zcl [(cI, .int), (cJ, .long)] [] (.int (hz_b (hz_in x 4))) := by
  refine hz_mp (cc := cX1_isOne) (maxL := 1) (ret := (some .boolean)) (by decide) rfl (Nat.le_of_ble_eq_true rfl) ?_
  intro p e s m below meth c hx hb hr hts hown hlocks hml hP hK ls hl
  have hown : s.vm.findClass RX1 = some m.cls := hown
  have hl : lv_has ls 1 [(0, .int (x))] := hl
  refine lv_iload_n hx hb dX1_isOne_0 rfl (lv_at hl 0 rfl) ?_
  refine lv_if_lt (tgt := 13) hx hb dX1_isOne_1 (by decide) (fun c1 => ?_) (fun c1 => ?_)
  · refine lv_iconst (v := nI 0) hx hb dX1_isOne_13 (by decide) ?_
    exact hz_ri hx hb hr hlocks rfl ((hz_bf (fun h => absurd c1 (Int32.not_lt.mpr ((hz_rin2 x (n := 4) (by decide)).mpr h).1))).symm) dX1_isOne_14
  · refine lv_iload_n hx hb dX1_isOne_4 rfl (lv_at hl 0 rfl) ?_
    refine lv_iconst (v := nI 4) hx hb dX1_isOne_5 (by decide) ?_
    refine lv_icmp_ge (tgt := 13) hx hb dX1_isOne_6 (by decide) (fun c6 => ?_) (fun c6 => ?_)
    · refine lv_iconst (v := nI 0) hx hb dX1_isOne_13 (by decide) ?_
      exact hz_ri hx hb hr hlocks rfl ((hz_bf (fun h => absurd c6 (Int32.not_le.mpr ((hz_rin2 x (n := 4) (by decide)).mpr h).2))).symm) dX1_isOne_14
    · refine lv_iconst (v := nI 1) hx hb dX1_isOne_9 (by decide) ?_
      refine lv_goto (tgt := 14) hx hb dX1_isOne_10 (by decide) ?_
      exact hz_ri hx hb hr hlocks rfl ((hz_bt ((hz_rin2 x (n := 4) (by decide)).mp ⟨Int32.not_lt.mp c1, Int32.not_le.mp c6⟩)).symm) dX1_isOne_14
set_option maxHeartbeats 4000000 in
set_option maxRecDepth 100000 in
theorem c1_mayHave (l : Launch) (D : va_G) (cI cJ : ClassId) (x : Int32)  : hz_MP l yX1_mayHave wsX1_mayHave { frames := 0, cells := 0, slots := 0, locals := 0 } [.int (x)] D zcl [(cI, .int), (cJ, .long)] [] (.int (hz_b (hz_bits x))) := by
  refine hz_mp (cc := cX1_mayHave) (maxL := 1) (ret := (some .boolean)) (by decide) rfl (Nat.le_of_ble_eq_true rfl) ?_
  intro p e s m below meth c hx hb hr hts hown hlocks hml hP hK ls hl
  have hown : s.vm.findClass RX1 = some m.cls := hown
  have hl : lv_has ls 1 [(0, .int (x))] := hl
  refine lv_iload_n hx hb dX1_mayHave_0 rfl (lv_at hl 0 rfl) ?_
  refine lv_if_eq (tgt := 22) hx hb dX1_mayHave_1 (by decide) (fun c1 => ?_) (fun c1 => ?_)
  · refine lv_iconst (v := nI 1) hx hb dX1_mayHave_22 (by decide) ?_
    refine lv_goto (tgt := 27) hx hb dX1_mayHave_23 (by decide) ?_
    exact hz_ri hx hb hr hlocks rfl ((hz_bt (Or.inl c1)).symm) dX1_mayHave_27
  · refine lv_iload_n hx hb dX1_mayHave_4 rfl (lv_at hl 0 rfl) ?_
    refine lv_bipush (v := nI 8) hx hb dX1_mayHave_5 (by decide) ?_
    refine lv_icmp_eq (tgt := 22) hx hb dX1_mayHave_7 (by decide) (fun c7 => ?_) (fun c7 => ?_)
    · refine lv_iconst (v := nI 1) hx hb dX1_mayHave_22 (by decide) ?_
      refine lv_goto (tgt := 27) hx hb dX1_mayHave_23 (by decide) ?_
      exact hz_ri hx hb hr hlocks rfl ((hz_bt (Or.inr (Or.inl c7))).symm) dX1_mayHave_27
    · refine lv_iload_n hx hb dX1_mayHave_10 rfl (lv_at hl 0 rfl) ?_
      refine lv_bipush (v := nI 16) hx hb dX1_mayHave_11 (by decide) ?_
      refine lv_icmp_eq (tgt := 22) hx hb dX1_mayHave_13 (by decide) (fun c13 => ?_) (fun c13 => ?_)
      · refine lv_iconst (v := nI 1) hx hb dX1_mayHave_22 (by decide) ?_
        refine lv_goto (tgt := 27) hx hb dX1_mayHave_23 (by decide) ?_
        exact hz_ri hx hb hr hlocks rfl ((hz_bt (Or.inr (Or.inr (Or.inl c13)))).symm) dX1_mayHave_27
      · refine lv_iload_n hx hb dX1_mayHave_16 rfl (lv_at hl 0 rfl) ?_
        refine lv_bipush (v := nI 64) hx hb dX1_mayHave_17 (by decide) ?_
        refine lv_icmp_ne (tgt := 26) hx hb dX1_mayHave_19 (by decide) (fun c19 => ?_) (fun c19 => ?_)
        · refine lv_iconst (v := nI 0) hx hb dX1_mayHave_26 (by decide) ?_
          exact hz_ri hx hb hr hlocks rfl ((hz_bf (fun h => h.elim c1 (fun h => h.elim c7 (fun h => h.elim c13 c19)))).symm) dX1_mayHave_27
        · refine lv_iconst (v := nI 1) hx hb dX1_mayHave_22 (by decide) ?_
          refine lv_goto (tgt := 27) hx hb dX1_mayHave_23 (by decide) ?_
          exact hz_ri hx hb hr hlocks rfl ((hz_bt (Or.inr (Or.inr (Or.inr c19)))).symm) dX1_mayHave_27
set_option maxHeartbeats 4000000 in
set_option maxRecDepth 100000 in
theorem c1_isMissing (l : Launch) (D : va_G) (cI cJ : ClassId) (sh0 sb0 ss0 sc0 : Nat) (B : Nat → Int32) (j : Nat) (hj : j < 4) : hz_MP l yX1_isMissing wsX1_isMissing { frames := 0, cells := 0, slots := 0, locals := 0 } [.ref sh0, .int (nI j)] D zcl [(cI, .int), (cJ, .long)] [(sh0, .inr (1, [.ref sb0, .ref ss0, .ref sc0])), (sb0, .inl (cI, 4, .inl B))] (.int (hz_b (B j = 0))) := by
  refine hz_mp (cc := cX1_isMissing) (maxL := 2) (ret := (some .boolean)) (by decide) rfl (Nat.le_of_ble_eq_true rfl) ?_
  intro p e s m below meth c hx hb hr hts hown hlocks hml hP hK ls hl
  have hown : s.vm.findClass RX1 = some m.cls := hown
  have hl : lv_has ls 2 [(0, .ref sh0), (1, .int (nI j))] := hl
  have hinX1 : ∀ w ∈ u_ws RX1 TX1 3, w ∈ wsX1_isMissing := fun w h => List.mem_cons_of_mem _ (List.mem_append_right _ (h))
  have wd1 := hts (.fieldLink RX1 9 "HurtSpeech$Sheets" "bits" "[I") (List.mem_of_getElem? (i := 1) rfl)
  refine lv_aload_n hx hb dX1_isMissing_0 rfl (lv_at hl 0 rfl) ?_
  refine va_get hx hb hts hinX1 hown hK hP 0 rfl rfl 0 (by decide) wd1 (fun _ h => h) rfl dX1_isMissing_1 ?_
  refine lv_iload_n hx hb dX1_isMissing_4 rfl (lv_at hl 1 rfl) ?_
  refine hz_iald (j := j) hx hb hK hP 1 0 rfl rfl (by omega) (Nat.le_of_ble_eq_true rfl) dX1_isMissing_5 ?_
  refine lv_if_ne (tgt := 13) hx hb dX1_isMissing_6 (by decide) (fun c6 => ?_) (fun c6 => ?_)
  · refine lv_iconst (v := nI 0) hx hb dX1_isMissing_13 (by decide) ?_
    exact hz_ri hx hb hr hlocks rfl ((hz_bf c6).symm) dX1_isMissing_14
  · refine lv_iconst (v := nI 1) hx hb dX1_isMissing_9 (by decide) ?_
    refine lv_goto (tgt := 14) hx hb dX1_isMissing_10 (by decide) ?_
    exact hz_ri hx hb hr hlocks rfl ((hz_bt c6).symm) dX1_isMissing_14
set_option maxHeartbeats 4000000 in
set_option maxRecDepth 100000 in
theorem c1_lowest (l : Launch) (D : va_G) (cI cJ : ClassId) (x : Int32) (v : Int64)  : hz_MP l yX1_lowest wsX1_lowest { frames := 0, cells := 0, slots := 0, locals := 0 } [.int (x), .long (v)] D zcl [(cI, .int), (cJ, .long)] [] (.long (sp_cut x v)) := by
  refine hz_mp (cc := cX1_lowest) (maxL := 3) (ret := (some .long)) (by decide) rfl (Nat.le_of_ble_eq_true rfl) ?_
  intro p e s m below meth c hx hb hr hts hown hlocks hml hP hK ls hl
  have hown : s.vm.findClass RX1 = some m.cls := hown
  have hl : lv_has ls 3 [(0, .int (x)), (1, .long (v))] := hl
  refine lv_iload_n hx hb dX1_lowest_0 rfl (lv_at hl 0 rfl) ?_
  refine lv_bipush (v := nI 8) hx hb dX1_lowest_1 (by decide) ?_
  refine lv_icmp_ne (tgt := 11) hx hb dX1_lowest_3 (by decide) (fun c3 => ?_) (fun c3 => ?_)
  · refine lv_iload_n hx hb dX1_lowest_11 rfl (lv_at hl 0 rfl) ?_
    refine lv_bipush (v := nI 16) hx hb dX1_lowest_12 (by decide) ?_
    refine lv_icmp_ne (tgt := 24) hx hb dX1_lowest_14 (by decide) (fun c14 => ?_) (fun c14 => ?_)
    · refine lv_lload_n hx hb dX1_lowest_24 rfl (lv_at hl 1 rfl) ?_
      exact hz_rl hx hb hr hlocks (((if_neg c3).trans (if_neg c14)).symm) dX1_lowest_25
    · refine lv_lload_n hx hb dX1_lowest_17 rfl (lv_at hl 1 rfl) ?_
      refine lv_l2i (v := v.toInt32) hx hb dX1_lowest_18 rfl ?_
      refine lv_i2s (v := v.toInt32.toInt16.toInt32) hx hb dX1_lowest_19 rfl ?_
      refine lv_i2l (v := v.toInt32.toInt16.toInt32.toInt64) hx hb dX1_lowest_20 rfl ?_
      refine lv_goto (tgt := 25) hx hb dX1_lowest_21 (by decide) ?_
      exact hz_rl hx hb hr hlocks (((if_neg c3).trans (if_pos c14)).symm) dX1_lowest_25
  · refine lv_lload_n hx hb dX1_lowest_6 rfl (lv_at hl 1 rfl) ?_
    refine lv_l2i (v := v.toInt32) hx hb dX1_lowest_7 rfl ?_
    refine lv_i2b (v := v.toInt32.toInt8.toInt32) hx hb dX1_lowest_8 rfl ?_
    refine lv_i2l (v := v.toInt32.toInt8.toInt32.toInt64) hx hb dX1_lowest_9 rfl ?_
    exact hz_rl hx hb hr hlocks ((if_pos c3).symm) dX1_lowest_10
set_option maxHeartbeats 4000000 in
set_option maxRecDepth 100000 in
theorem c1_numberAt (l : Launch) (D : va_G) (cI cJ : ClassId) (sh0 sb0 ss0 sc0 : Nat) (C : Nat → Int64) (j k : Nat) (hj : j < 4) (hk : k < 40) : hz_MP l yX1_numberAt wsX1_numberAt { frames := 0, cells := 0, slots := 0, locals := 0 } [.ref sh0, .int (nI j), .int (nI k)] D zcl [(cI, .int), (cJ, .long)] [(sh0, .inr (1, [.ref sb0, .ref ss0, .ref sc0])), (sc0, .inl (cJ, 160, .inr (.inl C)))] (.long (C (40 * j + k))) := by
  refine hz_mp (cc := cX1_numberAt) (maxL := 3) (ret := (some .long)) (by decide) rfl (Nat.le_of_ble_eq_true rfl) ?_
  intro p e s m below meth c hx hb hr hts hown hlocks hml hP hK ls hl
  have hown : s.vm.findClass RX1 = some m.cls := hown
  have hl : lv_has ls 3 [(0, .ref sh0), (1, .int (nI j)), (2, .int (nI k))] := hl
  have hinX1 : ∀ w ∈ u_ws RX1 TX1 3, w ∈ wsX1_numberAt := fun w h => List.mem_cons_of_mem _ (List.mem_append_right _ (h))
  have wd1 := hts (.fieldLink RX1 16 "HurtSpeech$Sheets" "numbers" "[J") (List.mem_of_getElem? (i := 1) rfl)
  refine lv_aload_n hx hb dX1_numberAt_0 rfl (lv_at hl 0 rfl) ?_
  refine va_get hx hb hts hinX1 hown hK hP 0 rfl rfl 2 (by decide) wd1 (fun _ h => h) rfl dX1_numberAt_1 ?_
  refine lv_bipush (v := nI 40) hx hb dX1_numberAt_4 (by decide) ?_
  refine lv_iload_n hx hb dX1_numberAt_6 rfl (lv_at hl 1 rfl) ?_
  refine hz_imul hx hb dX1_numberAt_7 ?_
  refine lv_iload_n hx hb dX1_numberAt_8 rfl (lv_at hl 2 rfl) ?_
  refine hz_iadd hx hb dX1_numberAt_9 ?_
  refine hz_lald (j := 40 * j + k) hx hb hK hP 1 1 rfl rfl (by omega) (Nat.le_of_ble_eq_true rfl) dX1_numberAt_10 ?_
  exact hz_rl hx hb hr hlocks (rfl) dX1_numberAt_11
set_option maxHeartbeats 4000000 in
set_option maxRecDepth 100000 in
theorem c1_put (l : Launch) (D : va_G) (cI cJ : ClassId) (sh0 sb0 ss0 sc0 : Nat) (B : Nat → Int32) (C : Nat → Int64) (j k : Nat) (v : Int64) (hj : j < 4) (hk : k < 40) : hz_ME l yX1_put wsX1_put { frames := 1, cells := 0, slots := 0, locals := 22 } [.ref sh0, .int (nI j), .int (nI k), .long (v)] D zcl [(cI, .int), (cJ, .long)] [(sh0, .inr (1, [.ref sb0, .ref ss0, .ref sc0])), (sb0, .inl (cI, 4, .inl B)), (sc0, .inl (cJ, 160, .inr (.inl C)))] [(sh0, .inr (1, [.ref sb0, .ref ss0, .ref sc0])), (sb0, .inl (cI, 4, .inl B)), (sc0, .inl (cJ, 160, .inr (.inl (vp_updL C (40 * j + k) (sp_cut (B j) v)))))] none := by
  refine hz_me (cc := cX1_put) (maxL := 5) (ret := none) (by decide) rfl (Nat.le_of_ble_eq_true rfl) ?_
  intro p e s m below meth c hx hb hr hts hown hlocks hml hP hK hD ls hl
  have hS : va_S (hz_a [(sh0, .inr (1, [.ref sb0, .ref ss0, .ref sc0])), (sb0, .inl (cI, 4, .inl B)), (sc0, .inl (cJ, 160, .inr (.inl C)))]) s.heap s.heap [] := va_S.rf
  have hown : s.vm.findClass RX1 = some m.cls := hown
  have hl : lv_has ls 5 [(0, .ref sh0), (1, .int (nI j)), (2, .int (nI k)), (3, .long (v))] := hl
  have hinX1 : ∀ w ∈ u_ws RX1 TX1 3, w ∈ wsX1_put := fun w h => List.mem_cons_of_mem _ (List.mem_append_right _ (h))
  have wd1 := hts (.fieldLink RX1 16 "HurtSpeech$Sheets" "numbers" "[J") (List.mem_of_getElem? (i := 1) rfl)
  have wd2 := hts (.fieldLink RX1 9 "HurtSpeech$Sheets" "bits" "[I") (List.mem_of_getElem? (i := 2) rfl)
  refine lv_aload_n hx hb dX1_put_0 rfl (lv_at hl 0 rfl) ?_
  refine va_get hx hb hts hinX1 hown hK hP 0 rfl rfl 2 (by decide) wd1 (fun _ h => h) rfl dX1_put_1 ?_
  refine lv_bipush (v := nI 40) hx hb dX1_put_4 (by decide) ?_
  refine lv_iload_n hx hb dX1_put_6 rfl (lv_at hl 1 rfl) ?_
  refine hz_imul hx hb dX1_put_7 ?_
  refine lv_iload_n hx hb dX1_put_8 rfl (lv_at hl 2 rfl) ?_
  refine hz_iadd hx hb dX1_put_9 ?_
  refine lv_aload_n hx hb dX1_put_10 rfl (lv_at hl 0 rfl) ?_
  refine va_get hx hb hts hinX1 hown hK hP 0 rfl rfl 0 (by decide) wd2 (fun _ h => h) rfl dX1_put_11 ?_
  refine lv_iload_n hx hb dX1_put_14 rfl (lv_at hl 1 rfl) ?_
  refine hz_iald (j := j) hx hb hK hP 1 0 rfl rfl (by omega) (Nat.le_of_ble_eq_true rfl) dX1_put_15 ?_
  refine lv_lload_n hx hb dX1_put_16 rfl (lv_at hl 3 rfl) ?_
  refine hz_cs (As := [.int (B j), .long (v)]) (rest := [.int (nI (40 * j + k)), .ref sc0]) ⟨hx, hb, hml, hown, hts⟩ (c1_lowest l D cI cJ (x := B j) (v := v) ) (va_cwS 2 hts gX1_put_X1_lowest rfl rfl rfl (by decide +kernel) ⟨Nat.le_of_ble_eq_true rfl, Nat.le_of_ble_eq_true rfl⟩) hK hP [] rfl [0, 1] rfl rfl hl.1 rfl (Nat.le_of_ble_eq_true rfl) dX1_put_17 ⟨Nat.zero_le _, Nat.zero_le _⟩ ?_
  refine hz_last (j := 40 * j + k) hx hb hK hP hD hS 2 1 rfl rfl (by omega) (Nat.le_of_ble_eq_true rfl) dX1_put_20 (w' := [(sh0, .inr (1, [.ref sb0, .ref ss0, .ref sc0])), (sb0, .inl (cI, 4, .inl B)), (sc0, .inl (cJ, 160, .inr (.inl (vp_updL C (40 * j + k) (sp_cut (B j) v)))))]) rfl (fun H locs hP hD hS => ?_)
  refine hz_ev hx hb hr hlocks ?_ hS dX1_put_21
  exact hP
set_option maxHeartbeats 4000000 in
set_option maxRecDepth 100000 in
theorem c1_lay (l : Launch) (D : va_G) (cI cJ : ClassId) (sh0 sb0 ss0 sc0 : Nat) (B S : Nat → Int32) (C : Nat → Int64) (j : Nat) (b n : Int32) (hj : j < 4) : hz_ME l yX1_lay wsX1_lay { frames := 0, cells := 0, slots := 0, locals := 0 } [.ref sh0, .int (nI j), .int (b), .int (n)] D zcl [(cI, .int), (cJ, .long)] [(sh0, .inr (1, [.ref sb0, .ref ss0, .ref sc0])), (sb0, .inl (cI, 4, .inl B)), (ss0, .inl (cI, 4, .inl S)), (sc0, .inl (cJ, 160, .inr (.inl C)))] [(sh0, .inr (1, [.ref sb0, .ref ss0, .ref sc0])), (sb0, .inl (cI, 4, .inl (upd B j b))), (ss0, .inl (cI, 4, .inl (upd S j (if b = 0 then nI 0 else n)))), (sc0, .inl (cJ, 160, .inr (.inl (sp_zC C j 40))))] (some (.int (if b = 0 then nI 0 else n))) := by
  refine hz_me (cc := cX1_lay) (maxL := 5) (ret := (some .int)) (by decide) rfl (Nat.le_of_ble_eq_true rfl) ?_
  intro p e s m below meth c hx hb hr hts hown hlocks hml hP hK hD ls hl
  have hS : va_S (hz_a [(sh0, .inr (1, [.ref sb0, .ref ss0, .ref sc0])), (sb0, .inl (cI, 4, .inl B)), (ss0, .inl (cI, 4, .inl S)), (sc0, .inl (cJ, 160, .inr (.inl C)))]) s.heap s.heap [] := va_S.rf
  have hown : s.vm.findClass RX1 = some m.cls := hown
  have hl : lv_has ls 5 [(0, .ref sh0), (1, .int (nI j)), (2, .int (b)), (3, .int (n))] := hl
  have hinX1 : ∀ w ∈ u_ws RX1 TX1 3, w ∈ wsX1_lay := fun w h => List.mem_cons_of_mem _ (List.mem_append_right _ (h))
  have wd1 := hts (.fieldLink RX1 9 "HurtSpeech$Sheets" "bits" "[I") (List.mem_of_getElem? (i := 1) rfl)
  have wd2 := hts (.fieldLink RX1 13 "HurtSpeech$Sheets" "sizes" "[I") (List.mem_of_getElem? (i := 2) rfl)
  have wd3 := hts (.fieldLink RX1 16 "HurtSpeech$Sheets" "numbers" "[J") (List.mem_of_getElem? (i := 3) rfl)
  refine lv_aload_n hx hb dX1_lay_0 rfl (lv_at hl 0 rfl) ?_
  refine va_get hx hb hts hinX1 hown hK hP 0 rfl rfl 0 (by decide) wd1 (fun _ h => h) rfl dX1_lay_1 ?_
  refine lv_iload_n hx hb dX1_lay_4 rfl (lv_at hl 1 rfl) ?_
  refine lv_iload_n hx hb dX1_lay_5 rfl (lv_at hl 2 rfl) ?_
  refine hz_iast (j := j) hx hb hK hP hD hS 1 0 rfl rfl (by omega) (Nat.le_of_ble_eq_true rfl) dX1_lay_6 (w' := [(sh0, .inr (1, [.ref sb0, .ref ss0, .ref sc0])), (sb0, .inl (cI, 4, .inl (upd B j b))), (ss0, .inl (cI, 4, .inl S)), (sc0, .inl (cJ, 160, .inr (.inl C)))]) rfl (fun H locs hP hD hS => ?_)
  refine lv_aload_n hx hb dX1_lay_7 rfl (lv_at hl 0 rfl) ?_
  refine va_get hx hb hts hinX1 hown hK hP 0 rfl rfl 1 (by decide) wd2 (fun _ h => h) rfl dX1_lay_8 ?_
  refine lv_iload_n hx hb dX1_lay_11 rfl (lv_at hl 1 rfl) ?_
  refine lv_iload_n hx hb dX1_lay_12 rfl (lv_at hl 2 rfl) ?_
  refine hz_dia (ls := ls) (if b = 0 then nI 0 else n) 21 [.int (nI j), .ref ss0] (fun jn21 => ?_) ?_
  · refine lv_if_ne (tgt := 20) hx hb dX1_lay_13 (by decide) (fun c13 => ?_) (fun c13 => ?_)
    · refine lv_iload_n hx hb dX1_lay_20 rfl (lv_at hl 3 rfl) ?_
      exact hz_ct ((if_neg c13).symm) jn21
    · refine lv_iconst (v := nI 0) hx hb dX1_lay_16 (by decide) ?_
      refine lv_goto (tgt := 21) hx hb dX1_lay_17 (by decide) ?_
      exact hz_ct ((if_pos c13).symm) jn21
  · refine hz_iast (j := j) hx hb hK hP hD hS 2 0 rfl rfl (by omega) (Nat.le_of_ble_eq_true rfl) dX1_lay_21 (w' := [(sh0, .inr (1, [.ref sb0, .ref ss0, .ref sc0])), (sb0, .inl (cI, 4, .inl (upd B j b))), (ss0, .inl (cI, 4, .inl (upd S j (if b = 0 then nI 0 else n)))), (sc0, .inl (cJ, 160, .inr (.inl C)))]) rfl (fun H locs hP hD hS => ?_)
    refine lv_iconst (v := nI 0) hx hb dX1_lay_22 (by decide) ?_
    refine lv_istore (lv' := [(4, .int (nI 0)), (0, .ref sh0), (1, .int (nI j)), (2, .int (b)), (3, .int (n))]) hx hb dX1_lay_23 hl (by decide) rfl (fun ls hl => ?_)
    have loop : ∀ (nn : Nat) (k : Nat) (ls : Array Slot) (H : Heap) (locs : List Loc), 40 - k < nn → (k ≤ 40) → lv_has ls 5 [(4, .int (nI k)), (0, .ref sh0), (1, .int (nI j)), (2, .int (b)), (3, .int (n))] → va_P D zcl [(sh0, .inr (1, [.ref sb0, .ref ss0, .ref sc0])), (sb0, .inl (cI, 4, .inl (upd B j b))), (ss0, .inl (cI, 4, .inl (upd S j (if b = 0 then nI 0 else n)))), (sc0, .inl (cJ, 160, .inr (.inl (sp_zC C j k))))] H → va_D (hz_a [(sh0, .inr (1, [.ref sb0, .ref ss0, .ref sc0])), (sb0, .inl (cI, 4, .inl B)), (ss0, .inl (cI, 4, .inl S)), (sc0, .inl (cJ, 160, .inr (.inl C)))]) [(sh0, .inr (1, [.ref sb0, .ref ss0, .ref sc0])), (sb0, .inl (cI, 4, .inl (upd B j b))), (ss0, .inl (cI, 4, .inl (upd S j (if b = 0 then nI 0 else n)))), (sc0, .inl (cJ, 160, .inr (.inl (sp_zC C j k))))] → va_S (hz_a [(sh0, .inr (1, [.ref sb0, .ref ss0, .ref sc0])), (sb0, .inl (cI, 4, .inl B)), (ss0, .inl (cI, 4, .inl S)), (sc0, .inl (cJ, 160, .inr (.inl C)))]) s.heap H locs → W p l e (headSpec wsX1_lay { frames := 0, cells := 0, slots := 0, locals := 0 }).room s m ([.ref sh0, .int (nI j), .int (b), .int (n)] : List Value).toArray below meth c H locs 0 0 (MQ below (hz_E D zcl [(sh0, .inr (1, [.ref sb0, .ref ss0, .ref sc0])), (sb0, .inl (cI, 4, .inl (upd B j b))), (ss0, .inl (cI, 4, .inl (upd S j (if b = 0 then nI 0 else n)))), (sc0, .inl (cJ, 160, .inr (.inl (sp_zC C j 40))))] (some (.int (if b = 0 then nI 0 else n))) (hz_a [(sh0, .inr (1, [.ref sb0, .ref ss0, .ref sc0])), (sb0, .inl (cI, 4, .inl B)), (ss0, .inl (cI, 4, .inl S)), (sc0, .inl (cJ, 160, .inr (.inl C)))])) ([.ref sh0, .int (nI j), .int (b), .int (n)] : List Value).toArray s 0 0 (hz_a [(sh0, .inr (1, [.ref sb0, .ref ss0, .ref sc0])), (sb0, .inl (cI, 4, .inl B)), (ss0, .inl (cI, 4, .inl S)), (sc0, .inl (cJ, 160, .inr (.inl C)))])) (F0 m 25 ls []) := by
      intro nn
      induction nn with
      | zero => intro k ls H locs hnn hk hl hP hD hS; exact absurd hnn (Nat.not_lt_zero _)
      | succ nn ihloop =>
        intro k ls H locs hnn hk hl hP hD hS
        refine lv_iload hx hb dX1_lay_25 (lv_at hl 0 rfl) ?_
        refine lv_bipush (v := nI 40) hx hb dX1_lay_27 (by decide) ?_
        refine hz_icmp_ge (tgt := 51) (by omega) (by omega) hx hb dX1_lay_29 (by decide) (fun c29 => ?_) (fun c29 => ?_)
        · refine lv_aload_n hx hb dX1_lay_51 rfl (lv_at hl 1 rfl) ?_
          refine va_get hx hb hts hinX1 hown hK hP 0 rfl rfl 1 (by decide) wd2 (fun _ h => h) rfl dX1_lay_52 ?_
          refine lv_iload_n hx hb dX1_lay_55 rfl (lv_at hl 2 rfl) ?_
          refine hz_iald (j := j) hx hb hK hP 2 0 rfl rfl (by omega) (Nat.le_of_ble_eq_true rfl) dX1_lay_56 ?_
          refine hz_ei hx hb hr hlocks rfl ?_ hS (pk_us) dX1_lay_57
          obtain rfl : k = 40 := by omega
          exact hP
        · refine lv_aload_n hx hb dX1_lay_32 rfl (lv_at hl 1 rfl) ?_
          refine va_get hx hb hts hinX1 hown hK hP 0 rfl rfl 2 (by decide) wd3 (fun _ h => h) rfl dX1_lay_33 ?_
          refine lv_bipush (v := nI 40) hx hb dX1_lay_36 (by decide) ?_
          refine lv_iload_n hx hb dX1_lay_38 rfl (lv_at hl 2 rfl) ?_
          refine hz_imul hx hb dX1_lay_39 ?_
          refine lv_iload hx hb dX1_lay_40 (lv_at hl 0 rfl) ?_
          refine hz_iadd hx hb dX1_lay_42 ?_
          refine lv_lconst (v := 0) hx hb dX1_lay_43 (by decide) ?_
          refine hz_last (j := 40 * j + k) hx hb hK hP hD hS 3 1 rfl rfl (by omega) (Nat.le_of_ble_eq_true rfl) dX1_lay_44 (w' := [(sh0, .inr (1, [.ref sb0, .ref ss0, .ref sc0])), (sb0, .inl (cI, 4, .inl (upd B j b))), (ss0, .inl (cI, 4, .inl (upd S j (if b = 0 then nI 0 else n)))), (sc0, .inl (cJ, 160, .inr (.inl (vp_updL (sp_zC C j k) (40 * j + k) 0))))]) rfl (fun H locs hP hD hS => ?_)
          refine lv_iinc (v := nI (k + 1)) (lv' := [(4, .int (nI (k + 1))), (0, .ref sh0), (1, .int (nI j)), (2, .int (b)), (3, .int (n))]) hx hb dX1_lay_45 hl (k := 0) rfl (nI_1 _) (by decide) rfl (fun ls hl => ?_)
          refine lv_goto (tgt := 25) hx hb dX1_lay_48 (by decide) ?_
          rw [zC_s] at hP hD
          exact ihloop (k + 1) ls _ _ (by omega) (by omega) (lv_sub hl [0, 1, 2, 3, 4] rfl) hP hD hS
    rw [← zC_0 C j] at hP
    exact loop _ 0 ls _ _ (Nat.lt_succ_self _) (by omega) (lv_sub hl [0, 1, 2, 3, 4] rfl) hP (hz_D_a2 hD rfl) hS
set_option maxHeartbeats 4000000 in
set_option maxRecDepth 100000 in
theorem c4_isSheet (l : Launch) (D : va_G) (cI cJ : ClassId) (x : Int32)  : hz_MP l yX4_isSheet wsX4_isSheet { frames := 1, cells := 0, slots := 0, locals := 23 } [.int (x)] D zcl [(cI, .int), (cJ, .long)] [] (.int (hz_b (hz_in x 4))) := by
  refine hz_mp (cc := cX4_isSheet) (maxL := 1) (ret := (some .boolean)) (by decide) rfl (Nat.le_of_ble_eq_true rfl) ?_
  intro p e s m below meth c hx hb hr hts hown hlocks hml hP hK ls hl
  have hown : s.vm.findClass RX4 = some m.cls := hown
  have hl : lv_has ls 1 [(0, .int (x))] := hl
  refine lv_iload_n hx hb dX4_isSheet_0 rfl (lv_at hl 0 rfl) ?_
  refine lv_i2l (v := x.toInt64) hx hb dX4_isSheet_1 rfl ?_
  refine lv_iconst (v := nI 0) hx hb dX4_isSheet_2 (by decide) ?_
  refine lv_iconst (v := nI 3) hx hb dX4_isSheet_3 (by decide) ?_
  refine hz_cs (As := [.long (x.toInt64), .int (nI 0), .int (nI 3)]) (rest := []) ⟨hx, hb, hml, hown, hts⟩ (c4_in32 l D cI cJ (x := x) (a := nI 0) (b := nI 3) ) (va_cwS 3 hts gX4_isSheet_X4_in rfl rfl rfl (by decide +kernel) ⟨Nat.le_of_ble_eq_true rfl, Nat.le_of_ble_eq_true rfl⟩) hK hP [] rfl [0, 1] rfl rfl hl.1 rfl (Nat.le_of_ble_eq_true rfl) dX4_isSheet_4 ⟨Nat.zero_le _, Nat.zero_le _⟩ ?_
  exact hz_ri hx hb hr hlocks (hz_nb _) (hz_be (hz_rin3 x (b := 3) (by decide))) dX4_isSheet_7
set_option maxHeartbeats 4000000 in
set_option maxRecDepth 100000 in
theorem c4_cutTo (l : Launch) (D : va_G) (cI cJ : ClassId) (x : Int32) (v : Int64)  : hz_MP l yX4_cutTo wsX4_cutTo { frames := 0, cells := 0, slots := 0, locals := 0 } [.int (x), .long (v)] D zcl [(cI, .int), (cJ, .long)] [] (.long (sp_cut x v)) := by
  refine hz_mp (cc := cX4_cutTo) (maxL := 3) (ret := (some .long)) (by decide) rfl (Nat.le_of_ble_eq_true rfl) ?_
  intro p e s m below meth c hx hb hr hts hown hlocks hml hP hK ls hl
  have hown : s.vm.findClass RX4 = some m.cls := hown
  have hl : lv_has ls 3 [(0, .int (x)), (1, .long (v))] := hl
  refine lv_iload_n hx hb dX4_cutTo_0 rfl (lv_at hl 0 rfl) ?_
  refine lv_bipush (v := nI 8) hx hb dX4_cutTo_1 (by decide) ?_
  refine lv_icmp_ne (tgt := 13) hx hb dX4_cutTo_3 (by decide) (fun c3 => ?_) (fun c3 => ?_)
  · refine lv_iload_n hx hb dX4_cutTo_13 rfl (lv_at hl 0 rfl) ?_
    refine lv_bipush (v := nI 16) hx hb dX4_cutTo_14 (by decide) ?_
    refine lv_icmp_ne (tgt := 26) hx hb dX4_cutTo_16 (by decide) (fun c16 => ?_) (fun c16 => ?_)
    · refine lv_lload_n hx hb dX4_cutTo_26 rfl (lv_at hl 1 rfl) ?_
      exact hz_rl hx hb hr hlocks (((if_neg c3).trans (if_neg c16)).symm) dX4_cutTo_27
    · refine lv_lload_n hx hb dX4_cutTo_19 rfl (lv_at hl 1 rfl) ?_
      refine lv_l2i (v := v.toInt32) hx hb dX4_cutTo_20 rfl ?_
      refine lv_i2s (v := v.toInt32.toInt16.toInt32) hx hb dX4_cutTo_21 rfl ?_
      refine lv_i2l (v := v.toInt32.toInt16.toInt32.toInt64) hx hb dX4_cutTo_22 rfl ?_
      refine lv_goto (tgt := 27) hx hb dX4_cutTo_23 (by decide) ?_
      exact hz_rl hx hb hr hlocks (((if_neg c3).trans (if_pos c16)).symm) dX4_cutTo_27
  · refine lv_lload_n hx hb dX4_cutTo_6 rfl (lv_at hl 1 rfl) ?_
    refine lv_l2i (v := v.toInt32) hx hb dX4_cutTo_7 rfl ?_
    refine lv_i2b (v := v.toInt32.toInt8.toInt32) hx hb dX4_cutTo_8 rfl ?_
    refine lv_i2l (v := v.toInt32.toInt8.toInt32.toInt64) hx hb dX4_cutTo_9 rfl ?_
    refine lv_goto (tgt := 27) hx hb dX4_cutTo_10 (by decide) ?_
    exact hz_rl hx hb hr hlocks ((if_pos c3).symm) dX4_cutTo_27
set_option maxHeartbeats 4000000 in
set_option maxRecDepth 100000 in
theorem c4_notThere (l : Launch) (D : va_G) (cI cJ : ClassId) (h0 ab : Nat) (fs : List Value) (B : Nat → Int32) (x : Int32) (hf13 : fs[13]? = some (.ref ab)) : hz_MP l yX4_notThere wsX4_notThere { frames := 2, cells := 0, slots := 0, locals := 43 } [.ref h0, .int (x)] D zcl [(cI, .int), (cJ, .long)] [(h0, .inr (4, fs)), (ab, .inl (cI, 4, .inl B))] (.int (sp_nt B x)) := by
  refine hz_mp (cc := cX4_notThere) (maxL := 2) (ret := (some .int)) (by decide) rfl (Nat.le_of_ble_eq_true rfl) ?_
  intro p e s m below meth c hx hb hr hts hown hlocks hml hP hK ls hl
  have hown : s.vm.findClass RX4 = some m.cls := hown
  have hl : lv_has ls 2 [(0, .ref h0), (1, .int (x))] := hl
  have hinX4 : ∀ w ∈ u_ws RX4 TX4 16, w ∈ wsX4_notThere := fun w h => List.mem_cons_of_mem _ (List.mem_append_right _ (h))
  have wd1 := hts (.constant RX4 35 (-1000000001)) (List.mem_of_getElem? (i := 1) rfl)
  have wd2 := hts (.fieldLink RX4 25 "HurtSpeechModel" "bitsOf" "[I") (List.mem_of_getElem? (i := 2) rfl)
  have wd3 := hts (.constant RX4 206 (-1000000006)) (List.mem_of_getElem? (i := 3) rfl)
  refine lv_iload_n hx hb dX4_notThere_0 rfl (lv_at hl 1 rfl) ?_
  refine hz_cs (As := [.int (x)]) (rest := []) ⟨hx, hb, hml, hown, hts⟩ (c4_isSheet l D cI cJ (x := x) ) (va_cwS 1 hts gX4_notThere_X4_isSheet rfl rfl rfl (by decide +kernel) ⟨Nat.le_of_ble_eq_true rfl, Nat.le_of_ble_eq_true rfl⟩) hK hP [] rfl [0, 1] rfl rfl hl.1 rfl (Nat.le_of_ble_eq_true rfl) dX4_notThere_1 ⟨Nat.zero_le _, Nat.zero_le _⟩ ?_
  refine hz_ifb_ne (tgt := 12) hx hb dX4_notThere_4 (by decide) (fun c4 => ?_) (fun c4 => ?_)
  · obtain ⟨j, hj, rfl⟩ := hz_in_of c4 (by decide)
    refine lv_aload_n hx hb dX4_notThere_12 rfl (lv_at hl 0 rfl) ?_
    refine va_get hx hb hts hinX4 hown hK hP 0 rfl rfl 13 (by decide) wd2 (fun _ h => h) hf13 dX4_notThere_13 ?_
    refine lv_iload_n hx hb dX4_notThere_16 rfl (lv_at hl 1 rfl) ?_
    refine hz_iald (j := j) hx hb hK hP 1 0 rfl rfl (by omega) (Nat.le_of_ble_eq_true rfl) dX4_notThere_17 ?_
    refine lv_if_ne (tgt := 26) hx hb dX4_notThere_18 (by decide) (fun c18 => ?_) (fun c18 => ?_)
    · refine lv_iconst (v := nI 0) hx hb dX4_notThere_26 (by decide) ?_
      exact hz_ri hx hb hr hlocks rfl ((by rw [sp_nt, if_pos c4, cl, nI_clamp (by omega), if_neg c18])) dX4_notThere_27
    · refine lv_ldc (v := -1000000006) hx hb hown wd3 dX4_notThere_21 ?_
      refine lv_goto (tgt := 27) hx hb dX4_notThere_23 (by decide) ?_
      exact hz_ri hx hb hr hlocks rfl ((by rw [sp_nt, if_pos c4, cl, nI_clamp (by omega), if_pos c18])) dX4_notThere_27
  · refine lv_ldc (v := -1000000001) hx hb hown wd1 dX4_notThere_7 ?_
    refine lv_goto (tgt := 27) hx hb dX4_notThere_9 (by decide) ?_
    exact hz_ri hx hb hr hlocks rfl ((if_neg c4).symm) dX4_notThere_27
set_option maxHeartbeats 4000000 in
set_option maxRecDepth 100000 in
theorem c3_findingOfSheet (l : Launch) (D : va_G) (cI cJ : ClassId) (x0 a0 kc0 tc0 tp0 fd0 : Nat) (kf : Int32) (sh0 sb0 ss0 sc0 : Nat) (B : Nat → Int32) (x : Int32)  : hz_MP l yX3_findingOfSheet wsX3_findingOfSheet { frames := 1, cells := 0, slots := 0, locals := 21 } [.ref x0, .int (x)] D zcl [(cI, .int), (cJ, .long)] [(x0, .inr (3, [.ref a0, .ref kc0, .ref tc0, .ref tp0, .ref sh0, .ref fd0, .int (kf)])), (sh0, .inr (1, [.ref sb0, .ref ss0, .ref sc0])), (sb0, .inl (cI, 4, .inl B))] (.int (sp_nt B x)) := by
  refine hz_mp (cc := cX3_findingOfSheet) (maxL := 2) (ret := (some .int)) (by decide) rfl (Nat.le_of_ble_eq_true rfl) ?_
  intro p e s m below meth c hx hb hr hts hown hlocks hml hP hK ls hl
  have hown : s.vm.findClass RX3 = some m.cls := hown
  have hl : lv_has ls 2 [(0, .ref x0), (1, .int (x))] := hl
  have hinX3 : ∀ w ∈ u_ws RX3 TX3 7, w ∈ wsX3_findingOfSheet := fun w h => List.mem_cons_of_mem _ (List.mem_append_left _ (List.mem_append_right _ (h)))
  have wd1 := hts (.constant RX3 48 (-1000000001)) (List.mem_of_getElem? (i := 1) rfl)
  have wd2 := hts (.fieldLink RX3 32 "HurtSpeech" "sheets" "LHurtSpeech$Sheets;") (List.mem_of_getElem? (i := 2) rfl)
  have wd3 := hts (.constant RX3 213 (-1000000006)) (List.mem_of_getElem? (i := 3) rfl)
  refine lv_iload_n hx hb dX3_findingOfSheet_0 rfl (lv_at hl 1 rfl) ?_
  refine hz_cs (As := [.int (x)]) (rest := []) ⟨hx, hb, hml, hown, hts⟩ (c1_isOne l D cI cJ (x := x) ) (va_cwS 1 hts gX3_findingOfSheet_X1_isOne rfl rfl rfl (by decide +kernel) ⟨Nat.le_of_ble_eq_true rfl, Nat.le_of_ble_eq_true rfl⟩) hK hP [] rfl [0, 1] rfl rfl hl.1 rfl (Nat.le_of_ble_eq_true rfl) dX3_findingOfSheet_1 ⟨Nat.zero_le _, Nat.zero_le _⟩ ?_
  refine hz_ifb_ne (tgt := 10) hx hb dX3_findingOfSheet_4 (by decide) (fun c4 => ?_) (fun c4 => ?_)
  · obtain ⟨j, hj, rfl⟩ := hz_in_of c4 (by decide)
    refine lv_aload_n hx hb dX3_findingOfSheet_10 rfl (lv_at hl 0 rfl) ?_
    refine va_get hx hb hts hinX3 hown hK hP 0 rfl rfl 4 (by decide) wd2 (fun _ h => h) rfl dX3_findingOfSheet_11 ?_
    refine lv_iload_n hx hb dX3_findingOfSheet_14 rfl (lv_at hl 1 rfl) ?_
    refine hz_cv (As := [.int (nI j)]) (rest := []) ⟨hx, hb, hml, hown, hts⟩ (c1_isMissing l D cI cJ (sh0 := sh0) (sb0 := sb0) (ss0 := ss0) (sc0 := sc0) (B := B) (j := j) (hj := by omega)) (cwV 1 hts gX3_findingOfSheet_X1_isMissing rfl rfl rfl (by decide +kernel) ⟨Nat.le_of_ble_eq_true rfl, Nat.le_of_ble_eq_true rfl⟩) hK hP [1, 2] rfl [0, 1] rfl 1 rfl rfl rfl rfl hl.1 rfl (Nat.le_of_ble_eq_true rfl) dX3_findingOfSheet_15 ⟨Nat.zero_le _, Nat.zero_le _⟩ ?_
    refine hz_ifb_eq (tgt := 26) hx hb dX3_findingOfSheet_18 (by decide) (fun c18 => ?_) (fun c18 => ?_)
    · refine lv_iconst (v := nI 0) hx hb dX3_findingOfSheet_26 (by decide) ?_
      exact hz_ri hx hb hr hlocks rfl ((by rw [sp_nt, if_pos c4, cl, nI_clamp (by omega), if_neg c18])) dX3_findingOfSheet_27
    · refine lv_ldc (v := -1000000006) hx hb hown wd3 dX3_findingOfSheet_21 ?_
      refine lv_goto (tgt := 27) hx hb dX3_findingOfSheet_23 (by decide) ?_
      exact hz_ri hx hb hr hlocks rfl ((by rw [sp_nt, if_pos c4, cl, nI_clamp (by omega), if_pos c18])) dX3_findingOfSheet_27
  · refine lv_ldc (v := -1000000001) hx hb hown wd1 dX3_findingOfSheet_7 ?_
    exact hz_ri hx hb hr hlocks rfl ((if_neg c4).symm) dX3_findingOfSheet_9
set_option maxHeartbeats 4000000 in
set_option maxRecDepth 100000 in
theorem c3_sheet (l : Launch) (D : va_G) (cI cJ : ClassId) (x0 a0 kc0 tc0 tp0 fd0 : Nat) (kf : Int32) (sh0 sb0 ss0 sc0 : Nat) (F B S : Nat → Int32) (C : Nat → Int64) (y b n : Int32)  : hz_ME l yX3_sheet wsX3_sheet { frames := 2, cells := 0, slots := 0, locals := 44 } [.ref x0, .int (y), .int (b), .int (n)] D zcl [(cI, .int), (cJ, .long)] [(x0, .inr (3, [.ref a0, .ref kc0, .ref tc0, .ref tp0, .ref sh0, .ref fd0, .int (kf)])), (sh0, .inr (1, [.ref sb0, .ref ss0, .ref sc0])), (sb0, .inl (cI, 4, .inl B)), (ss0, .inl (cI, 4, .inl S)), (sc0, .inl (cJ, 160, .inr (.inl C))), (fd0, .inl (cI, 7, .inl F))] [(x0, .inr (3, [.ref a0, .ref kc0, .ref tc0, .ref tp0, .ref sh0, .ref fd0, .int (kf)])), (sh0, .inr (1, [.ref sb0, .ref ss0, .ref sc0])), (sb0, .inl (cI, 4, .inl (sp_fM (fd_sheet y b n) B (upd B (cl y) b)))), (ss0, .inl (cI, 4, .inl (sp_fM (fd_sheet y b n) S (upd S (cl y) (if b = 0 then nI 0 else n))))), (sc0, .inl (cJ, 160, .inr (.inl (sp_fC (fd_sheet y b n) C (sp_zC C (cl y) 40))))), (fd0, .inl (cI, 7, .inl (sp_ff F (fd_sheet y b n))))] (some (.int (sp_fr (fd_sheet y b n) (if b = 0 then nI 0 else n)))) := by
  refine hz_me (cc := cX3_sheet) (maxL := 4) (ret := (some .int)) (by decide) rfl (Nat.le_of_ble_eq_true rfl) ?_
  intro p e s m below meth c hx hb hr hts hown hlocks hml hP hK hD ls hl
  have hS : va_S (hz_a [(x0, .inr (3, [.ref a0, .ref kc0, .ref tc0, .ref tp0, .ref sh0, .ref fd0, .int (kf)])), (sh0, .inr (1, [.ref sb0, .ref ss0, .ref sc0])), (sb0, .inl (cI, 4, .inl B)), (ss0, .inl (cI, 4, .inl S)), (sc0, .inl (cJ, 160, .inr (.inl C))), (fd0, .inl (cI, 7, .inl F))]) s.heap s.heap [] := va_S.rf
  have hown : s.vm.findClass RX3 = some m.cls := hown
  have hl : lv_has ls 4 [(0, .ref x0), (1, .int (y)), (2, .int (b)), (3, .int (n))] := hl
  have hinX3 : ∀ w ∈ u_ws RX3 TX3 7, w ∈ wsX3_sheet := fun w h => List.mem_cons_of_mem _ (List.mem_append_left _ (List.mem_append_right _ (h)))
  have wd1 := hts (.constant RX3 48 (-1000000001)) (List.mem_of_getElem? (i := 1) rfl)
  have wd2 := hts (.constant RX3 192 (-1000000007)) (List.mem_of_getElem? (i := 2) rfl)
  have wd3 := hts (.fieldLink RX3 32 "HurtSpeech" "sheets" "LHurtSpeech$Sheets;") (List.mem_of_getElem? (i := 3) rfl)
  refine lv_iload_n hx hb dX3_sheet_0 rfl (lv_at hl 1 rfl) ?_
  refine hz_cs (As := [.int (y)]) (rest := []) ⟨hx, hb, hml, hown, hts⟩ (c1_isOne l D cI cJ (x := y) ) (va_cwS 1 hts gX3_sheet_X1_isOne rfl rfl rfl (by decide +kernel) ⟨Nat.le_of_ble_eq_true rfl, Nat.le_of_ble_eq_true rfl⟩) hK hP [] rfl [0, 1] rfl rfl hl.1 rfl (Nat.le_of_ble_eq_true rfl) dX3_sheet_1 ⟨Nat.zero_le _, Nat.zero_le _⟩ ?_
  refine hz_ifb_eq (tgt := 14) hx hb dX3_sheet_4 (by decide) (fun c4 => ?_) (fun c4 => ?_)
  · refine lv_aload_n hx hb dX3_sheet_14 rfl (lv_at hl 0 rfl) ?_
    refine lv_ldc (v := -1000000001) hx hb hown wd1 dX3_sheet_15 ?_
    refine hz_ce (As := [.int (-1000000001)]) (rest := []) ⟨hx, hb, hml, hown, hts⟩ (c3_found l D cI cJ (x0 := x0) (a0 := a0) (kc0 := kc0) (tc0 := tc0) (tp0 := tp0) (sh0 := sh0) (fd0 := fd0) (kf := kf) (F := F) (f := -1000000001) (k := 0) (hk := by omega) (hfk := by decide)) (cwV 1 hts gX3_sheet_X3_found rfl rfl rfl (by decide +kernel) ⟨Nat.le_of_ble_eq_true rfl, Nat.le_of_ble_eq_true rfl⟩) hK hP hD hS [0, 5] rfl (by decide) (hz_ha [x0, fd0] rfl rfl) (w' := [(x0, .inr (3, [.ref a0, .ref kc0, .ref tc0, .ref tp0, .ref sh0, .ref fd0, .int (kf)])), (sh0, .inr (1, [.ref sb0, .ref ss0, .ref sc0])), (sb0, .inl (cI, 4, .inl B)), (ss0, .inl (cI, 4, .inl S)), (sc0, .inl (cJ, 160, .inr (.inl C))), (fd0, .inl (cI, 7, .inl (sp_fd F 0)))]) (hz_pt_eq 6 [1, 2, 3, 4] [(sh0, .inr (1, [.ref sb0, .ref ss0, .ref sc0])), (sb0, .inl (cI, 4, .inl B)), (ss0, .inl (cI, 4, .inl S)), (sc0, .inl (cJ, 160, .inr (.inl C)))] rfl rfl rfl rfl rfl rfl rfl) [0, 1] rfl 0 rfl rfl rfl rfl hl.1 rfl (Nat.le_of_ble_eq_true rfl) dX3_sheet_17 ⟨Nat.zero_le _, Nat.zero_le _⟩ (fun H locs hP hD hS => ?_)
    refine W.eq (g2 := F0 m 20 ls [.int ((-1000000001))]) rfl ?_
    refine hz_ei hx hb hr hlocks rfl ?_ hS (by rw [show fd_sheet y b n = some 0 from if_neg c4]; rfl) dX3_sheet_20
    rw [show fd_sheet y b n = some 0 from if_neg c4]
    exact hP
  · refine lv_iload_n hx hb dX3_sheet_7 rfl (lv_at hl 2 rfl) ?_
    refine hz_cs (As := [.int (b)]) (rest := []) ⟨hx, hb, hml, hown, hts⟩ (c1_mayHave l D cI cJ (x := b) ) (va_cwS 1 hts gX3_sheet_X1_mayHave rfl rfl rfl (by decide +kernel) ⟨Nat.le_of_ble_eq_true rfl, Nat.le_of_ble_eq_true rfl⟩) hK hP [] rfl [0, 1] rfl rfl hl.1 rfl (Nat.le_of_ble_eq_true rfl) dX3_sheet_8 ⟨Nat.zero_le _, Nat.zero_le _⟩ ?_
    refine hz_ifb_ne (tgt := 21) hx hb dX3_sheet_11 (by decide) (fun c11 => ?_) (fun c11 => ?_)
    · refine lv_iload_n hx hb dX3_sheet_21 rfl (lv_at hl 3 rfl) ?_
      refine lv_if_ge (tgt := 32) hx hb dX3_sheet_22 (by decide) (fun c22 => ?_) (fun c22 => ?_)
      · refine lv_iload_n hx hb dX3_sheet_32 rfl (lv_at hl 3 rfl) ?_
        refine lv_bipush (v := nI 40) hx hb dX3_sheet_33 (by decide) ?_
        refine lv_icmp_le (tgt := 45) hx hb dX3_sheet_35 (by decide) (fun c35 => ?_) (fun c35 => ?_)
        · obtain ⟨j, hj, rfl⟩ := hz_in_of c4 (by decide)
          refine lv_aload_n hx hb dX3_sheet_45 rfl (lv_at hl 0 rfl) ?_
          refine va_get hx hb hts hinX3 hown hK hP 0 rfl rfl 4 (by decide) wd3 (fun _ h => h) rfl dX3_sheet_46 ?_
          refine lv_iload_n hx hb dX3_sheet_49 rfl (lv_at hl 1 rfl) ?_
          refine lv_iload_n hx hb dX3_sheet_50 rfl (lv_at hl 2 rfl) ?_
          refine lv_iload_n hx hb dX3_sheet_51 rfl (lv_at hl 3 rfl) ?_
          refine hz_ce (As := [.int (nI j), .int (b), .int (n)]) (rest := []) ⟨hx, hb, hml, hown, hts⟩ (c1_lay l D cI cJ (sh0 := sh0) (sb0 := sb0) (ss0 := ss0) (sc0 := sc0) (B := B) (S := S) (C := C) (j := j) (b := b) (n := n) (hj := by omega)) (cwV 3 hts gX3_sheet_X1_lay rfl rfl rfl (by decide +kernel) ⟨Nat.le_of_ble_eq_true rfl, Nat.le_of_ble_eq_true rfl⟩) hK hP hD hS [1, 2, 3, 4] rfl (by decide) (hz_ha [sh0, sb0, ss0, sc0] rfl rfl) (w' := [(x0, .inr (3, [.ref a0, .ref kc0, .ref tc0, .ref tp0, .ref sh0, .ref fd0, .int (kf)])), (sh0, .inr (1, [.ref sb0, .ref ss0, .ref sc0])), (sb0, .inl (cI, 4, .inl (upd B j b))), (ss0, .inl (cI, 4, .inl (upd S j (if b = 0 then nI 0 else n)))), (sc0, .inl (cJ, 160, .inr (.inl (sp_zC C j 40)))), (fd0, .inl (cI, 7, .inl F))]) (hz_pt_eq 6 [0, 5] [(x0, .inr (3, [.ref a0, .ref kc0, .ref tc0, .ref tp0, .ref sh0, .ref fd0, .int (kf)])), (fd0, .inl (cI, 7, .inl F))] rfl rfl rfl rfl rfl rfl rfl) [0, 1] rfl 1 rfl rfl rfl rfl hl.1 rfl (Nat.le_of_ble_eq_true rfl) dX3_sheet_52 ⟨Nat.zero_le _, Nat.zero_le _⟩ (fun H locs hP hD hS => ?_)
          refine W.eq (g2 := F0 m 55 ls [.int (if b = 0 then nI 0 else n)]) rfl ?_
          refine hz_ei hx hb hr hlocks rfl ?_ hS (by rw [show fd_sheet (nI j) b n = none from (if_pos c4).trans ((if_pos c11).trans ((if_neg (Int32.not_lt.mpr c22)).trans (if_pos c35)))]; exact fr_n rfl) dX3_sheet_55
          rw [show fd_sheet (nI j) b n = none from (if_pos c4).trans ((if_pos c11).trans ((if_neg (Int32.not_lt.mpr c22)).trans (if_pos c35)))]
          rw [cl, nI_clamp (by omega)]
          exact hP
        · refine lv_aload_n hx hb dX3_sheet_38 rfl (lv_at hl 0 rfl) ?_
          refine lv_ldc (v := -1000000001) hx hb hown wd1 dX3_sheet_39 ?_
          refine hz_ce (As := [.int (-1000000001)]) (rest := []) ⟨hx, hb, hml, hown, hts⟩ (c3_found l D cI cJ (x0 := x0) (a0 := a0) (kc0 := kc0) (tc0 := tc0) (tp0 := tp0) (sh0 := sh0) (fd0 := fd0) (kf := kf) (F := F) (f := -1000000001) (k := 0) (hk := by omega) (hfk := by decide)) (cwV 1 hts gX3_sheet_X3_found rfl rfl rfl (by decide +kernel) ⟨Nat.le_of_ble_eq_true rfl, Nat.le_of_ble_eq_true rfl⟩) hK hP hD hS [0, 5] rfl (by decide) (hz_ha [x0, fd0] rfl rfl) (w' := [(x0, .inr (3, [.ref a0, .ref kc0, .ref tc0, .ref tp0, .ref sh0, .ref fd0, .int (kf)])), (sh0, .inr (1, [.ref sb0, .ref ss0, .ref sc0])), (sb0, .inl (cI, 4, .inl B)), (ss0, .inl (cI, 4, .inl S)), (sc0, .inl (cJ, 160, .inr (.inl C))), (fd0, .inl (cI, 7, .inl (sp_fd F 0)))]) (hz_pt_eq 6 [1, 2, 3, 4] [(sh0, .inr (1, [.ref sb0, .ref ss0, .ref sc0])), (sb0, .inl (cI, 4, .inl B)), (ss0, .inl (cI, 4, .inl S)), (sc0, .inl (cJ, 160, .inr (.inl C)))] rfl rfl rfl rfl rfl rfl rfl) [0, 1] rfl 0 rfl rfl rfl rfl hl.1 rfl (Nat.le_of_ble_eq_true rfl) dX3_sheet_41 ⟨Nat.zero_le _, Nat.zero_le _⟩ (fun H locs hP hD hS => ?_)
          refine W.eq (g2 := F0 m 44 ls [.int ((-1000000001))]) rfl ?_
          refine hz_ei hx hb hr hlocks rfl ?_ hS (by rw [show fd_sheet y b n = some 0 from (if_pos c4).trans ((if_pos c11).trans ((if_neg (Int32.not_lt.mpr c22)).trans (if_neg c35)))]; rfl) dX3_sheet_44
          rw [show fd_sheet y b n = some 0 from (if_pos c4).trans ((if_pos c11).trans ((if_neg (Int32.not_lt.mpr c22)).trans (if_neg c35)))]
          exact hP
      · refine lv_aload_n hx hb dX3_sheet_25 rfl (lv_at hl 0 rfl) ?_
        refine lv_ldc (v := -1000000007) hx hb hown wd2 dX3_sheet_26 ?_
        refine hz_ce (As := [.int (-1000000007)]) (rest := []) ⟨hx, hb, hml, hown, hts⟩ (c3_found l D cI cJ (x0 := x0) (a0 := a0) (kc0 := kc0) (tc0 := tc0) (tp0 := tp0) (sh0 := sh0) (fd0 := fd0) (kf := kf) (F := F) (f := -1000000007) (k := 6) (hk := by omega) (hfk := by decide)) (cwV 1 hts gX3_sheet_X3_found rfl rfl rfl (by decide +kernel) ⟨Nat.le_of_ble_eq_true rfl, Nat.le_of_ble_eq_true rfl⟩) hK hP hD hS [0, 5] rfl (by decide) (hz_ha [x0, fd0] rfl rfl) (w' := [(x0, .inr (3, [.ref a0, .ref kc0, .ref tc0, .ref tp0, .ref sh0, .ref fd0, .int (kf)])), (sh0, .inr (1, [.ref sb0, .ref ss0, .ref sc0])), (sb0, .inl (cI, 4, .inl B)), (ss0, .inl (cI, 4, .inl S)), (sc0, .inl (cJ, 160, .inr (.inl C))), (fd0, .inl (cI, 7, .inl (sp_fd F 6)))]) (hz_pt_eq 6 [1, 2, 3, 4] [(sh0, .inr (1, [.ref sb0, .ref ss0, .ref sc0])), (sb0, .inl (cI, 4, .inl B)), (ss0, .inl (cI, 4, .inl S)), (sc0, .inl (cJ, 160, .inr (.inl C)))] rfl rfl rfl rfl rfl rfl rfl) [0, 1] rfl 0 rfl rfl rfl rfl hl.1 rfl (Nat.le_of_ble_eq_true rfl) dX3_sheet_28 ⟨Nat.zero_le _, Nat.zero_le _⟩ (fun H locs hP hD hS => ?_)
        refine W.eq (g2 := F0 m 31 ls [.int ((-1000000007))]) rfl ?_
        refine hz_ei hx hb hr hlocks rfl ?_ hS (by rw [show fd_sheet y b n = some 6 from (if_pos c4).trans ((if_pos c11).trans (if_pos (Int32.not_le.mp c22)))]; rfl) dX3_sheet_31
        rw [show fd_sheet y b n = some 6 from (if_pos c4).trans ((if_pos c11).trans (if_pos (Int32.not_le.mp c22)))]
        exact hP
    · refine lv_aload_n hx hb dX3_sheet_14 rfl (lv_at hl 0 rfl) ?_
      refine lv_ldc (v := -1000000001) hx hb hown wd1 dX3_sheet_15 ?_
      refine hz_ce (As := [.int (-1000000001)]) (rest := []) ⟨hx, hb, hml, hown, hts⟩ (c3_found l D cI cJ (x0 := x0) (a0 := a0) (kc0 := kc0) (tc0 := tc0) (tp0 := tp0) (sh0 := sh0) (fd0 := fd0) (kf := kf) (F := F) (f := -1000000001) (k := 0) (hk := by omega) (hfk := by decide)) (cwV 1 hts gX3_sheet_X3_found rfl rfl rfl (by decide +kernel) ⟨Nat.le_of_ble_eq_true rfl, Nat.le_of_ble_eq_true rfl⟩) hK hP hD hS [0, 5] rfl (by decide) (hz_ha [x0, fd0] rfl rfl) (w' := [(x0, .inr (3, [.ref a0, .ref kc0, .ref tc0, .ref tp0, .ref sh0, .ref fd0, .int (kf)])), (sh0, .inr (1, [.ref sb0, .ref ss0, .ref sc0])), (sb0, .inl (cI, 4, .inl B)), (ss0, .inl (cI, 4, .inl S)), (sc0, .inl (cJ, 160, .inr (.inl C))), (fd0, .inl (cI, 7, .inl (sp_fd F 0)))]) (hz_pt_eq 6 [1, 2, 3, 4] [(sh0, .inr (1, [.ref sb0, .ref ss0, .ref sc0])), (sb0, .inl (cI, 4, .inl B)), (ss0, .inl (cI, 4, .inl S)), (sc0, .inl (cJ, 160, .inr (.inl C)))] rfl rfl rfl rfl rfl rfl rfl) [0, 1] rfl 0 rfl rfl rfl rfl hl.1 rfl (Nat.le_of_ble_eq_true rfl) dX3_sheet_17 ⟨Nat.zero_le _, Nat.zero_le _⟩ (fun H locs hP hD hS => ?_)
      refine W.eq (g2 := F0 m 20 ls [.int ((-1000000001))]) rfl ?_
      refine hz_ei hx hb hr hlocks rfl ?_ hS (by rw [show fd_sheet y b n = some 0 from (if_pos c4).trans (if_neg c11)]; rfl) dX3_sheet_20
      rw [show fd_sheet y b n = some 0 from (if_pos c4).trans (if_neg c11)]
      exact hP
set_option maxHeartbeats 4000000 in
set_option maxRecDepth 100000 in
theorem c4_sheet (l : Launch) (D : va_G) (cI cJ : ClassId) (h0 af ab as_ ac : Nat) (fs : List Value) (F B S : Nat → Int32) (C : Nat → Int64) (y b n : Int32) (hf4 : fs[4]? = some (.ref af)) (hf13 : fs[13]? = some (.ref ab)) (hf14 : fs[14]? = some (.ref as_)) (hf15 : fs[15]? = some (.ref ac)) : hz_ME l yX4_sheet wsX4_sheet { frames := 2, cells := 0, slots := 0, locals := 43 } [.ref h0, .int (y), .int (b), .int (n)] D zcl [(cI, .int), (cJ, .long)] [(h0, .inr (4, fs)), (af, .inl (cI, 7, .inl F)), (ab, .inl (cI, 4, .inl B)), (as_, .inl (cI, 4, .inl S)), (ac, .inl (cJ, 160, .inr (.inl C)))] [(h0, .inr (4, fs)), (af, .inl (cI, 7, .inl (sp_ff F (fd_sheet y b n)))), (ab, .inl (cI, 4, .inl (sp_fM (fd_sheet y b n) B (upd B (cl y) b)))), (as_, .inl (cI, 4, .inl (sp_fM (fd_sheet y b n) S (upd S (cl y) (if b = 0 then nI 0 else n))))), (ac, .inl (cJ, 160, .inr (.inl (sp_fC (fd_sheet y b n) C (sp_zC C (cl y) 40)))))] (some (.int (sp_fr (fd_sheet y b n) (if b = 0 then nI 0 else n)))) := by
  refine hz_me (cc := cX4_sheet) (maxL := 5) (ret := (some .int)) (by decide) rfl (Nat.le_of_ble_eq_true rfl) ?_
  intro p e s m below meth c hx hb hr hts hown hlocks hml hP hK hD ls hl
  have hS : va_S (hz_a [(h0, .inr (4, fs)), (af, .inl (cI, 7, .inl F)), (ab, .inl (cI, 4, .inl B)), (as_, .inl (cI, 4, .inl S)), (ac, .inl (cJ, 160, .inr (.inl C)))]) s.heap s.heap [] := va_S.rf
  have hown : s.vm.findClass RX4 = some m.cls := hown
  have hl : lv_has ls 5 [(0, .ref h0), (1, .int (y)), (2, .int (b)), (3, .int (n))] := hl
  have hinX4 : ∀ w ∈ u_ws RX4 TX4 16, w ∈ wsX4_sheet := fun w h => List.mem_cons_of_mem _ (List.mem_append_right _ (h))
  have wd1 := hts (.constant RX4 35 (-1000000001)) (List.mem_of_getElem? (i := 1) rfl)
  have wd2 := hts (.constant RX4 205 (-1000000007)) (List.mem_of_getElem? (i := 2) rfl)
  have wd3 := hts (.fieldLink RX4 25 "HurtSpeechModel" "bitsOf" "[I") (List.mem_of_getElem? (i := 3) rfl)
  have wd4 := hts (.fieldLink RX4 28 "HurtSpeechModel" "sizeOf" "[I") (List.mem_of_getElem? (i := 4) rfl)
  have wd5 := hts (.fieldLink RX4 31 "HurtSpeechModel" "cells" "[J") (List.mem_of_getElem? (i := 5) rfl)
  refine lv_iload_n hx hb dX4_sheet_0 rfl (lv_at hl 1 rfl) ?_
  refine hz_cs (As := [.int (y)]) (rest := []) ⟨hx, hb, hml, hown, hts⟩ (c4_isSheet l D cI cJ (x := y) ) (va_cwS 1 hts gX4_sheet_X4_isSheet rfl rfl rfl (by decide +kernel) ⟨Nat.le_of_ble_eq_true rfl, Nat.le_of_ble_eq_true rfl⟩) hK hP [] rfl [0, 1] rfl rfl hl.1 rfl (Nat.le_of_ble_eq_true rfl) dX4_sheet_1 ⟨Nat.zero_le _, Nat.zero_le _⟩ ?_
  refine hz_ifb_eq (tgt := 29) hx hb dX4_sheet_4 (by decide) (fun c4 => ?_) (fun c4 => ?_)
  · refine lv_aload_n hx hb dX4_sheet_29 rfl (lv_at hl 0 rfl) ?_
    refine lv_ldc (v := -1000000001) hx hb hown wd1 dX4_sheet_30 ?_
    refine hz_ce (As := [.int (-1000000001)]) (rest := []) ⟨hx, hb, hml, hown, hts⟩ (c4_finds l D cI cJ (h0 := h0) (af := af) (fs := fs) (F := F) (f := -1000000001) (k := 0) (hf := by first | assumption | rfl) (hk := by omega) (hfk := by decide)) (cwV 1 hts gX4_sheet_X4_finds rfl rfl rfl (by decide +kernel) ⟨Nat.le_of_ble_eq_true rfl, Nat.le_of_ble_eq_true rfl⟩) hK hP hD hS [0, 1] rfl (by decide) (hz_ha [h0, af] rfl rfl) (w' := [(h0, .inr (4, fs)), (af, .inl (cI, 7, .inl (sp_fd F 0))), (ab, .inl (cI, 4, .inl B)), (as_, .inl (cI, 4, .inl S)), (ac, .inl (cJ, 160, .inr (.inl C)))]) (hz_pt_eq 5 [2, 3, 4] [(ab, .inl (cI, 4, .inl B)), (as_, .inl (cI, 4, .inl S)), (ac, .inl (cJ, 160, .inr (.inl C)))] rfl rfl rfl rfl rfl rfl rfl) [0, 1] rfl 0 rfl rfl rfl rfl hl.1 rfl (Nat.le_of_ble_eq_true rfl) dX4_sheet_32 ⟨Nat.zero_le _, Nat.zero_le _⟩ (fun H locs hP hD hS => ?_)
    refine W.eq (g2 := F0 m 35 ls [.int ((-1000000001))]) rfl ?_
    refine hz_ei hx hb hr hlocks rfl ?_ hS (by rw [show fd_sheet y b n = some 0 from if_neg c4]; rfl) dX4_sheet_35
    rw [show fd_sheet y b n = some 0 from if_neg c4]
    exact hP
  · refine lv_iload_n hx hb dX4_sheet_7 rfl (lv_at hl 2 rfl) ?_
    refine lv_if_eq (tgt := 36) hx hb dX4_sheet_8 (by decide) (fun c8 => ?_) (fun c8 => ?_)
    · refine lv_iload_n hx hb dX4_sheet_36 rfl (lv_at hl 3 rfl) ?_
      refine lv_if_ge (tgt := 47) hx hb dX4_sheet_37 (by decide) (fun c37 => ?_) (fun c37 => ?_)
      · refine lv_iload_n hx hb dX4_sheet_47 rfl (lv_at hl 3 rfl) ?_
        refine lv_bipush (v := nI 40) hx hb dX4_sheet_48 (by decide) ?_
        refine lv_icmp_le (tgt := 60) hx hb dX4_sheet_50 (by decide) (fun c50 => ?_) (fun c50 => ?_)
        · obtain ⟨j, hj, ej⟩ := hz_in_of c4 (by decide)
          rw [ej] at hl
          have hcj : cl y = j := by rw [ej, cl, nI_clamp (by omega)]
          refine lv_aload_n hx hb dX4_sheet_60 rfl (lv_at hl 0 rfl) ?_
          refine va_get hx hb hts hinX4 hown hK hP 0 rfl rfl 13 (by decide) wd3 (fun _ h => h) hf13 dX4_sheet_61 ?_
          refine lv_iload_n hx hb dX4_sheet_64 rfl (lv_at hl 1 rfl) ?_
          refine lv_iload_n hx hb dX4_sheet_65 rfl (lv_at hl 2 rfl) ?_
          refine hz_iast (j := j) hx hb hK hP hD hS 2 0 rfl rfl (by omega) (Nat.le_of_ble_eq_true rfl) dX4_sheet_66 (w' := [(h0, .inr (4, fs)), (af, .inl (cI, 7, .inl F)), (ab, .inl (cI, 4, .inl (upd B j b))), (as_, .inl (cI, 4, .inl S)), (ac, .inl (cJ, 160, .inr (.inl C)))]) rfl (fun H locs hP hD hS => ?_)
          refine lv_aload_n hx hb dX4_sheet_67 rfl (lv_at hl 0 rfl) ?_
          refine va_get hx hb hts hinX4 hown hK hP 0 rfl rfl 14 (by decide) wd4 (fun _ h => h) hf14 dX4_sheet_68 ?_
          refine lv_iload_n hx hb dX4_sheet_71 rfl (lv_at hl 1 rfl) ?_
          refine lv_iload_n hx hb dX4_sheet_72 rfl (lv_at hl 2 rfl) ?_
          refine hz_dia (ls := ls) (if b = 0 then nI 0 else n) 81 [.int (nI j), .ref as_] (fun jn81 => ?_) ?_
          · refine lv_if_ne (tgt := 80) hx hb dX4_sheet_73 (by decide) (fun c73 => ?_) (fun c73 => ?_)
            · refine lv_iload_n hx hb dX4_sheet_80 rfl (lv_at hl 3 rfl) ?_
              exact hz_ct ((if_neg c73).symm) jn81
            · refine lv_iconst (v := nI 0) hx hb dX4_sheet_76 (by decide) ?_
              refine lv_goto (tgt := 81) hx hb dX4_sheet_77 (by decide) ?_
              exact hz_ct ((if_pos c73).symm) jn81
          · refine hz_iast (j := j) hx hb hK hP hD hS 3 0 rfl rfl (by omega) (Nat.le_of_ble_eq_true rfl) dX4_sheet_81 (w' := [(h0, .inr (4, fs)), (af, .inl (cI, 7, .inl F)), (ab, .inl (cI, 4, .inl (upd B j b))), (as_, .inl (cI, 4, .inl (upd S j (if b = 0 then nI 0 else n)))), (ac, .inl (cJ, 160, .inr (.inl C)))]) rfl (fun H locs hP hD hS => ?_)
            refine lv_iconst (v := nI 0) hx hb dX4_sheet_82 (by decide) ?_
            refine lv_istore (lv' := [(4, .int (nI 0)), (0, .ref h0), (1, .int (nI j)), (2, .int (b)), (3, .int (n))]) hx hb dX4_sheet_83 hl (by decide) rfl (fun ls hl => ?_)
            have loop : ∀ (nn : Nat) (k : Nat) (ls : Array Slot) (H : Heap) (locs : List Loc), 40 - k < nn → (k ≤ 40) → lv_has ls 5 [(4, .int (nI k)), (0, .ref h0), (1, .int (nI j)), (2, .int (b)), (3, .int (n))] → va_P D zcl [(h0, .inr (4, fs)), (af, .inl (cI, 7, .inl F)), (ab, .inl (cI, 4, .inl (upd B j b))), (as_, .inl (cI, 4, .inl (upd S j (if b = 0 then nI 0 else n)))), (ac, .inl (cJ, 160, .inr (.inl (sp_zC C j k))))] H → va_D (hz_a [(h0, .inr (4, fs)), (af, .inl (cI, 7, .inl F)), (ab, .inl (cI, 4, .inl B)), (as_, .inl (cI, 4, .inl S)), (ac, .inl (cJ, 160, .inr (.inl C)))]) [(h0, .inr (4, fs)), (af, .inl (cI, 7, .inl F)), (ab, .inl (cI, 4, .inl (upd B j b))), (as_, .inl (cI, 4, .inl (upd S j (if b = 0 then nI 0 else n)))), (ac, .inl (cJ, 160, .inr (.inl (sp_zC C j k))))] → va_S (hz_a [(h0, .inr (4, fs)), (af, .inl (cI, 7, .inl F)), (ab, .inl (cI, 4, .inl B)), (as_, .inl (cI, 4, .inl S)), (ac, .inl (cJ, 160, .inr (.inl C)))]) s.heap H locs → W p l e (headSpec wsX4_sheet { frames := 2, cells := 0, slots := 0, locals := 43 }).room s m ([.ref h0, .int (y), .int (b), .int (n)] : List Value).toArray below meth c H locs 0 0 (MQ below (hz_E D zcl [(h0, .inr (4, fs)), (af, .inl (cI, 7, .inl (sp_ff F (fd_sheet y b n)))), (ab, .inl (cI, 4, .inl (sp_fM (fd_sheet y b n) B (upd B (cl y) b)))), (as_, .inl (cI, 4, .inl (sp_fM (fd_sheet y b n) S (upd S (cl y) (if b = 0 then nI 0 else n))))), (ac, .inl (cJ, 160, .inr (.inl (sp_fC (fd_sheet y b n) C (sp_zC C (cl y) 40)))))] (some (.int (sp_fr (fd_sheet y b n) (if b = 0 then nI 0 else n)))) (hz_a [(h0, .inr (4, fs)), (af, .inl (cI, 7, .inl F)), (ab, .inl (cI, 4, .inl B)), (as_, .inl (cI, 4, .inl S)), (ac, .inl (cJ, 160, .inr (.inl C)))])) ([.ref h0, .int (y), .int (b), .int (n)] : List Value).toArray s 0 0 (hz_a [(h0, .inr (4, fs)), (af, .inl (cI, 7, .inl F)), (ab, .inl (cI, 4, .inl B)), (as_, .inl (cI, 4, .inl S)), (ac, .inl (cJ, 160, .inr (.inl C)))])) (F0 m 85 ls []) := by
              intro nn
              induction nn with
              | zero => intro k ls H locs hnn hk hl hP hD hS; exact absurd hnn (Nat.not_lt_zero _)
              | succ nn ihloop =>
                intro k ls H locs hnn hk hl hP hD hS
                refine lv_iload hx hb dX4_sheet_85 (lv_at hl 0 rfl) ?_
                refine lv_bipush (v := nI 40) hx hb dX4_sheet_87 (by decide) ?_
                refine hz_icmp_ge (tgt := 111) (by omega) (by omega) hx hb dX4_sheet_89 (by decide) (fun c89 => ?_) (fun c89 => ?_)
                · refine lv_aload_n hx hb dX4_sheet_111 rfl (lv_at hl 1 rfl) ?_
                  refine va_get hx hb hts hinX4 hown hK hP 0 rfl rfl 14 (by decide) wd4 (fun _ h => h) hf14 dX4_sheet_112 ?_
                  refine lv_iload_n hx hb dX4_sheet_115 rfl (lv_at hl 2 rfl) ?_
                  refine hz_iald (j := j) hx hb hK hP 3 0 rfl rfl (by omega) (Nat.le_of_ble_eq_true rfl) dX4_sheet_116 ?_
                  refine hz_ei hx hb hr hlocks rfl ?_ hS (by rw [show fd_sheet y b n = none from (if_pos c4).trans ((if_pos (Or.inl c8)).trans ((if_neg (Int32.not_lt.mpr c37)).trans (if_pos c50)))]; exact fr_n pk_us) dX4_sheet_117
                  rw [show fd_sheet y b n = none from (if_pos c4).trans ((if_pos (Or.inl c8)).trans ((if_neg (Int32.not_lt.mpr c37)).trans (if_pos c50)))]
                  rw [hcj]
                  obtain rfl : k = 40 := by omega
                  exact hP
                · refine lv_aload_n hx hb dX4_sheet_92 rfl (lv_at hl 1 rfl) ?_
                  refine va_get hx hb hts hinX4 hown hK hP 0 rfl rfl 15 (by decide) wd5 (fun _ h => h) hf15 dX4_sheet_93 ?_
                  refine lv_bipush (v := nI 40) hx hb dX4_sheet_96 (by decide) ?_
                  refine lv_iload_n hx hb dX4_sheet_98 rfl (lv_at hl 2 rfl) ?_
                  refine hz_imul hx hb dX4_sheet_99 ?_
                  refine lv_iload hx hb dX4_sheet_100 (lv_at hl 0 rfl) ?_
                  refine hz_iadd hx hb dX4_sheet_102 ?_
                  refine lv_lconst (v := 0) hx hb dX4_sheet_103 (by decide) ?_
                  refine hz_last (j := 40 * j + k) hx hb hK hP hD hS 4 1 rfl rfl (by omega) (Nat.le_of_ble_eq_true rfl) dX4_sheet_104 (w' := [(h0, .inr (4, fs)), (af, .inl (cI, 7, .inl F)), (ab, .inl (cI, 4, .inl (upd B j b))), (as_, .inl (cI, 4, .inl (upd S j (if b = 0 then nI 0 else n)))), (ac, .inl (cJ, 160, .inr (.inl (vp_updL (sp_zC C j k) (40 * j + k) 0))))]) rfl (fun H locs hP hD hS => ?_)
                  refine lv_iinc (v := nI (k + 1)) (lv' := [(4, .int (nI (k + 1))), (0, .ref h0), (1, .int (nI j)), (2, .int (b)), (3, .int (n))]) hx hb dX4_sheet_105 hl (k := 0) rfl (nI_1 _) (by decide) rfl (fun ls hl => ?_)
                  refine lv_goto (tgt := 85) hx hb dX4_sheet_108 (by decide) ?_
                  rw [zC_s] at hP hD
                  exact ihloop (k + 1) ls _ _ (by omega) (by omega) (lv_sub hl [0, 1, 2, 3, 4] rfl) hP hD hS
            rw [← zC_0 C j] at hP
            exact loop _ 0 ls _ _ (Nat.lt_succ_self _) (by omega) (lv_sub hl [0, 1, 2, 3, 4] rfl) hP (hz_D_a2 hD rfl) hS
        · refine lv_aload_n hx hb dX4_sheet_53 rfl (lv_at hl 0 rfl) ?_
          refine lv_ldc (v := -1000000001) hx hb hown wd1 dX4_sheet_54 ?_
          refine hz_ce (As := [.int (-1000000001)]) (rest := []) ⟨hx, hb, hml, hown, hts⟩ (c4_finds l D cI cJ (h0 := h0) (af := af) (fs := fs) (F := F) (f := -1000000001) (k := 0) (hf := by first | assumption | rfl) (hk := by omega) (hfk := by decide)) (cwV 1 hts gX4_sheet_X4_finds rfl rfl rfl (by decide +kernel) ⟨Nat.le_of_ble_eq_true rfl, Nat.le_of_ble_eq_true rfl⟩) hK hP hD hS [0, 1] rfl (by decide) (hz_ha [h0, af] rfl rfl) (w' := [(h0, .inr (4, fs)), (af, .inl (cI, 7, .inl (sp_fd F 0))), (ab, .inl (cI, 4, .inl B)), (as_, .inl (cI, 4, .inl S)), (ac, .inl (cJ, 160, .inr (.inl C)))]) (hz_pt_eq 5 [2, 3, 4] [(ab, .inl (cI, 4, .inl B)), (as_, .inl (cI, 4, .inl S)), (ac, .inl (cJ, 160, .inr (.inl C)))] rfl rfl rfl rfl rfl rfl rfl) [0, 1] rfl 0 rfl rfl rfl rfl hl.1 rfl (Nat.le_of_ble_eq_true rfl) dX4_sheet_56 ⟨Nat.zero_le _, Nat.zero_le _⟩ (fun H locs hP hD hS => ?_)
          refine W.eq (g2 := F0 m 59 ls [.int ((-1000000001))]) rfl ?_
          refine hz_ei hx hb hr hlocks rfl ?_ hS (by rw [show fd_sheet y b n = some 0 from (if_pos c4).trans ((if_pos (Or.inl c8)).trans ((if_neg (Int32.not_lt.mpr c37)).trans (if_neg c50)))]; rfl) dX4_sheet_59
          rw [show fd_sheet y b n = some 0 from (if_pos c4).trans ((if_pos (Or.inl c8)).trans ((if_neg (Int32.not_lt.mpr c37)).trans (if_neg c50)))]
          exact hP
      · refine lv_aload_n hx hb dX4_sheet_40 rfl (lv_at hl 0 rfl) ?_
        refine lv_ldc (v := -1000000007) hx hb hown wd2 dX4_sheet_41 ?_
        refine hz_ce (As := [.int (-1000000007)]) (rest := []) ⟨hx, hb, hml, hown, hts⟩ (c4_finds l D cI cJ (h0 := h0) (af := af) (fs := fs) (F := F) (f := -1000000007) (k := 6) (hf := by first | assumption | rfl) (hk := by omega) (hfk := by decide)) (cwV 1 hts gX4_sheet_X4_finds rfl rfl rfl (by decide +kernel) ⟨Nat.le_of_ble_eq_true rfl, Nat.le_of_ble_eq_true rfl⟩) hK hP hD hS [0, 1] rfl (by decide) (hz_ha [h0, af] rfl rfl) (w' := [(h0, .inr (4, fs)), (af, .inl (cI, 7, .inl (sp_fd F 6))), (ab, .inl (cI, 4, .inl B)), (as_, .inl (cI, 4, .inl S)), (ac, .inl (cJ, 160, .inr (.inl C)))]) (hz_pt_eq 5 [2, 3, 4] [(ab, .inl (cI, 4, .inl B)), (as_, .inl (cI, 4, .inl S)), (ac, .inl (cJ, 160, .inr (.inl C)))] rfl rfl rfl rfl rfl rfl rfl) [0, 1] rfl 0 rfl rfl rfl rfl hl.1 rfl (Nat.le_of_ble_eq_true rfl) dX4_sheet_43 ⟨Nat.zero_le _, Nat.zero_le _⟩ (fun H locs hP hD hS => ?_)
        refine W.eq (g2 := F0 m 46 ls [.int ((-1000000007))]) rfl ?_
        refine hz_ei hx hb hr hlocks rfl ?_ hS (by rw [show fd_sheet y b n = some 6 from (if_pos c4).trans ((if_pos (Or.inl c8)).trans (if_pos (Int32.not_le.mp c37)))]; rfl) dX4_sheet_46
        rw [show fd_sheet y b n = some 6 from (if_pos c4).trans ((if_pos (Or.inl c8)).trans (if_pos (Int32.not_le.mp c37)))]
        exact hP
    · refine lv_iload_n hx hb dX4_sheet_11 rfl (lv_at hl 2 rfl) ?_
      refine lv_bipush (v := nI 8) hx hb dX4_sheet_12 (by decide) ?_
      refine lv_icmp_eq (tgt := 36) hx hb dX4_sheet_14 (by decide) (fun c14 => ?_) (fun c14 => ?_)
      · refine lv_iload_n hx hb dX4_sheet_36 rfl (lv_at hl 3 rfl) ?_
        refine lv_if_ge (tgt := 47) hx hb dX4_sheet_37 (by decide) (fun c37 => ?_) (fun c37 => ?_)
        · refine lv_iload_n hx hb dX4_sheet_47 rfl (lv_at hl 3 rfl) ?_
          refine lv_bipush (v := nI 40) hx hb dX4_sheet_48 (by decide) ?_
          refine lv_icmp_le (tgt := 60) hx hb dX4_sheet_50 (by decide) (fun c50 => ?_) (fun c50 => ?_)
          · obtain ⟨j, hj, ej⟩ := hz_in_of c4 (by decide)
            rw [ej] at hl
            have hcj : cl y = j := by rw [ej, cl, nI_clamp (by omega)]
            refine lv_aload_n hx hb dX4_sheet_60 rfl (lv_at hl 0 rfl) ?_
            refine va_get hx hb hts hinX4 hown hK hP 0 rfl rfl 13 (by decide) wd3 (fun _ h => h) hf13 dX4_sheet_61 ?_
            refine lv_iload_n hx hb dX4_sheet_64 rfl (lv_at hl 1 rfl) ?_
            refine lv_iload_n hx hb dX4_sheet_65 rfl (lv_at hl 2 rfl) ?_
            refine hz_iast (j := j) hx hb hK hP hD hS 2 0 rfl rfl (by omega) (Nat.le_of_ble_eq_true rfl) dX4_sheet_66 (w' := [(h0, .inr (4, fs)), (af, .inl (cI, 7, .inl F)), (ab, .inl (cI, 4, .inl (upd B j b))), (as_, .inl (cI, 4, .inl S)), (ac, .inl (cJ, 160, .inr (.inl C)))]) rfl (fun H locs hP hD hS => ?_)
            refine lv_aload_n hx hb dX4_sheet_67 rfl (lv_at hl 0 rfl) ?_
            refine va_get hx hb hts hinX4 hown hK hP 0 rfl rfl 14 (by decide) wd4 (fun _ h => h) hf14 dX4_sheet_68 ?_
            refine lv_iload_n hx hb dX4_sheet_71 rfl (lv_at hl 1 rfl) ?_
            refine lv_iload_n hx hb dX4_sheet_72 rfl (lv_at hl 2 rfl) ?_
            refine hz_dia (ls := ls) (if b = 0 then nI 0 else n) 81 [.int (nI j), .ref as_] (fun jn81 => ?_) ?_
            · refine lv_if_ne (tgt := 80) hx hb dX4_sheet_73 (by decide) (fun c73 => ?_) (fun c73 => ?_)
              · refine lv_iload_n hx hb dX4_sheet_80 rfl (lv_at hl 3 rfl) ?_
                exact hz_ct ((if_neg c73).symm) jn81
              · refine lv_iconst (v := nI 0) hx hb dX4_sheet_76 (by decide) ?_
                refine lv_goto (tgt := 81) hx hb dX4_sheet_77 (by decide) ?_
                exact hz_ct ((if_pos c73).symm) jn81
            · refine hz_iast (j := j) hx hb hK hP hD hS 3 0 rfl rfl (by omega) (Nat.le_of_ble_eq_true rfl) dX4_sheet_81 (w' := [(h0, .inr (4, fs)), (af, .inl (cI, 7, .inl F)), (ab, .inl (cI, 4, .inl (upd B j b))), (as_, .inl (cI, 4, .inl (upd S j (if b = 0 then nI 0 else n)))), (ac, .inl (cJ, 160, .inr (.inl C)))]) rfl (fun H locs hP hD hS => ?_)
              refine lv_iconst (v := nI 0) hx hb dX4_sheet_82 (by decide) ?_
              refine lv_istore (lv' := [(4, .int (nI 0)), (0, .ref h0), (1, .int (nI j)), (2, .int (b)), (3, .int (n))]) hx hb dX4_sheet_83 hl (by decide) rfl (fun ls hl => ?_)
              have loop : ∀ (nn : Nat) (k : Nat) (ls : Array Slot) (H : Heap) (locs : List Loc), 40 - k < nn → (k ≤ 40) → lv_has ls 5 [(4, .int (nI k)), (0, .ref h0), (1, .int (nI j)), (2, .int (b)), (3, .int (n))] → va_P D zcl [(h0, .inr (4, fs)), (af, .inl (cI, 7, .inl F)), (ab, .inl (cI, 4, .inl (upd B j b))), (as_, .inl (cI, 4, .inl (upd S j (if b = 0 then nI 0 else n)))), (ac, .inl (cJ, 160, .inr (.inl (sp_zC C j k))))] H → va_D (hz_a [(h0, .inr (4, fs)), (af, .inl (cI, 7, .inl F)), (ab, .inl (cI, 4, .inl B)), (as_, .inl (cI, 4, .inl S)), (ac, .inl (cJ, 160, .inr (.inl C)))]) [(h0, .inr (4, fs)), (af, .inl (cI, 7, .inl F)), (ab, .inl (cI, 4, .inl (upd B j b))), (as_, .inl (cI, 4, .inl (upd S j (if b = 0 then nI 0 else n)))), (ac, .inl (cJ, 160, .inr (.inl (sp_zC C j k))))] → va_S (hz_a [(h0, .inr (4, fs)), (af, .inl (cI, 7, .inl F)), (ab, .inl (cI, 4, .inl B)), (as_, .inl (cI, 4, .inl S)), (ac, .inl (cJ, 160, .inr (.inl C)))]) s.heap H locs → W p l e (headSpec wsX4_sheet { frames := 2, cells := 0, slots := 0, locals := 43 }).room s m ([.ref h0, .int (y), .int (b), .int (n)] : List Value).toArray below meth c H locs 0 0 (MQ below (hz_E D zcl [(h0, .inr (4, fs)), (af, .inl (cI, 7, .inl (sp_ff F (fd_sheet y b n)))), (ab, .inl (cI, 4, .inl (sp_fM (fd_sheet y b n) B (upd B (cl y) b)))), (as_, .inl (cI, 4, .inl (sp_fM (fd_sheet y b n) S (upd S (cl y) (if b = 0 then nI 0 else n))))), (ac, .inl (cJ, 160, .inr (.inl (sp_fC (fd_sheet y b n) C (sp_zC C (cl y) 40)))))] (some (.int (sp_fr (fd_sheet y b n) (if b = 0 then nI 0 else n)))) (hz_a [(h0, .inr (4, fs)), (af, .inl (cI, 7, .inl F)), (ab, .inl (cI, 4, .inl B)), (as_, .inl (cI, 4, .inl S)), (ac, .inl (cJ, 160, .inr (.inl C)))])) ([.ref h0, .int (y), .int (b), .int (n)] : List Value).toArray s 0 0 (hz_a [(h0, .inr (4, fs)), (af, .inl (cI, 7, .inl F)), (ab, .inl (cI, 4, .inl B)), (as_, .inl (cI, 4, .inl S)), (ac, .inl (cJ, 160, .inr (.inl C)))])) (F0 m 85 ls []) := by
                intro nn
                induction nn with
                | zero => intro k ls H locs hnn hk hl hP hD hS; exact absurd hnn (Nat.not_lt_zero _)
                | succ nn ihloop =>
                  intro k ls H locs hnn hk hl hP hD hS
                  refine lv_iload hx hb dX4_sheet_85 (lv_at hl 0 rfl) ?_
                  refine lv_bipush (v := nI 40) hx hb dX4_sheet_87 (by decide) ?_
                  refine hz_icmp_ge (tgt := 111) (by omega) (by omega) hx hb dX4_sheet_89 (by decide) (fun c89 => ?_) (fun c89 => ?_)
                  · refine lv_aload_n hx hb dX4_sheet_111 rfl (lv_at hl 1 rfl) ?_
                    refine va_get hx hb hts hinX4 hown hK hP 0 rfl rfl 14 (by decide) wd4 (fun _ h => h) hf14 dX4_sheet_112 ?_
                    refine lv_iload_n hx hb dX4_sheet_115 rfl (lv_at hl 2 rfl) ?_
                    refine hz_iald (j := j) hx hb hK hP 3 0 rfl rfl (by omega) (Nat.le_of_ble_eq_true rfl) dX4_sheet_116 ?_
                    refine hz_ei hx hb hr hlocks rfl ?_ hS (by rw [show fd_sheet y b n = none from (if_pos c4).trans ((if_pos (Or.inr (Or.inl c14))).trans ((if_neg (Int32.not_lt.mpr c37)).trans (if_pos c50)))]; exact fr_n pk_us) dX4_sheet_117
                    rw [show fd_sheet y b n = none from (if_pos c4).trans ((if_pos (Or.inr (Or.inl c14))).trans ((if_neg (Int32.not_lt.mpr c37)).trans (if_pos c50)))]
                    rw [hcj]
                    obtain rfl : k = 40 := by omega
                    exact hP
                  · refine lv_aload_n hx hb dX4_sheet_92 rfl (lv_at hl 1 rfl) ?_
                    refine va_get hx hb hts hinX4 hown hK hP 0 rfl rfl 15 (by decide) wd5 (fun _ h => h) hf15 dX4_sheet_93 ?_
                    refine lv_bipush (v := nI 40) hx hb dX4_sheet_96 (by decide) ?_
                    refine lv_iload_n hx hb dX4_sheet_98 rfl (lv_at hl 2 rfl) ?_
                    refine hz_imul hx hb dX4_sheet_99 ?_
                    refine lv_iload hx hb dX4_sheet_100 (lv_at hl 0 rfl) ?_
                    refine hz_iadd hx hb dX4_sheet_102 ?_
                    refine lv_lconst (v := 0) hx hb dX4_sheet_103 (by decide) ?_
                    refine hz_last (j := 40 * j + k) hx hb hK hP hD hS 4 1 rfl rfl (by omega) (Nat.le_of_ble_eq_true rfl) dX4_sheet_104 (w' := [(h0, .inr (4, fs)), (af, .inl (cI, 7, .inl F)), (ab, .inl (cI, 4, .inl (upd B j b))), (as_, .inl (cI, 4, .inl (upd S j (if b = 0 then nI 0 else n)))), (ac, .inl (cJ, 160, .inr (.inl (vp_updL (sp_zC C j k) (40 * j + k) 0))))]) rfl (fun H locs hP hD hS => ?_)
                    refine lv_iinc (v := nI (k + 1)) (lv' := [(4, .int (nI (k + 1))), (0, .ref h0), (1, .int (nI j)), (2, .int (b)), (3, .int (n))]) hx hb dX4_sheet_105 hl (k := 0) rfl (nI_1 _) (by decide) rfl (fun ls hl => ?_)
                    refine lv_goto (tgt := 85) hx hb dX4_sheet_108 (by decide) ?_
                    rw [zC_s] at hP hD
                    exact ihloop (k + 1) ls _ _ (by omega) (by omega) (lv_sub hl [0, 1, 2, 3, 4] rfl) hP hD hS
              rw [← zC_0 C j] at hP
              exact loop _ 0 ls _ _ (Nat.lt_succ_self _) (by omega) (lv_sub hl [0, 1, 2, 3, 4] rfl) hP (hz_D_a2 hD rfl) hS
          · refine lv_aload_n hx hb dX4_sheet_53 rfl (lv_at hl 0 rfl) ?_
            refine lv_ldc (v := -1000000001) hx hb hown wd1 dX4_sheet_54 ?_
            refine hz_ce (As := [.int (-1000000001)]) (rest := []) ⟨hx, hb, hml, hown, hts⟩ (c4_finds l D cI cJ (h0 := h0) (af := af) (fs := fs) (F := F) (f := -1000000001) (k := 0) (hf := by first | assumption | rfl) (hk := by omega) (hfk := by decide)) (cwV 1 hts gX4_sheet_X4_finds rfl rfl rfl (by decide +kernel) ⟨Nat.le_of_ble_eq_true rfl, Nat.le_of_ble_eq_true rfl⟩) hK hP hD hS [0, 1] rfl (by decide) (hz_ha [h0, af] rfl rfl) (w' := [(h0, .inr (4, fs)), (af, .inl (cI, 7, .inl (sp_fd F 0))), (ab, .inl (cI, 4, .inl B)), (as_, .inl (cI, 4, .inl S)), (ac, .inl (cJ, 160, .inr (.inl C)))]) (hz_pt_eq 5 [2, 3, 4] [(ab, .inl (cI, 4, .inl B)), (as_, .inl (cI, 4, .inl S)), (ac, .inl (cJ, 160, .inr (.inl C)))] rfl rfl rfl rfl rfl rfl rfl) [0, 1] rfl 0 rfl rfl rfl rfl hl.1 rfl (Nat.le_of_ble_eq_true rfl) dX4_sheet_56 ⟨Nat.zero_le _, Nat.zero_le _⟩ (fun H locs hP hD hS => ?_)
            refine W.eq (g2 := F0 m 59 ls [.int ((-1000000001))]) rfl ?_
            refine hz_ei hx hb hr hlocks rfl ?_ hS (by rw [show fd_sheet y b n = some 0 from (if_pos c4).trans ((if_pos (Or.inr (Or.inl c14))).trans ((if_neg (Int32.not_lt.mpr c37)).trans (if_neg c50)))]; rfl) dX4_sheet_59
            rw [show fd_sheet y b n = some 0 from (if_pos c4).trans ((if_pos (Or.inr (Or.inl c14))).trans ((if_neg (Int32.not_lt.mpr c37)).trans (if_neg c50)))]
            exact hP
        · refine lv_aload_n hx hb dX4_sheet_40 rfl (lv_at hl 0 rfl) ?_
          refine lv_ldc (v := -1000000007) hx hb hown wd2 dX4_sheet_41 ?_
          refine hz_ce (As := [.int (-1000000007)]) (rest := []) ⟨hx, hb, hml, hown, hts⟩ (c4_finds l D cI cJ (h0 := h0) (af := af) (fs := fs) (F := F) (f := -1000000007) (k := 6) (hf := by first | assumption | rfl) (hk := by omega) (hfk := by decide)) (cwV 1 hts gX4_sheet_X4_finds rfl rfl rfl (by decide +kernel) ⟨Nat.le_of_ble_eq_true rfl, Nat.le_of_ble_eq_true rfl⟩) hK hP hD hS [0, 1] rfl (by decide) (hz_ha [h0, af] rfl rfl) (w' := [(h0, .inr (4, fs)), (af, .inl (cI, 7, .inl (sp_fd F 6))), (ab, .inl (cI, 4, .inl B)), (as_, .inl (cI, 4, .inl S)), (ac, .inl (cJ, 160, .inr (.inl C)))]) (hz_pt_eq 5 [2, 3, 4] [(ab, .inl (cI, 4, .inl B)), (as_, .inl (cI, 4, .inl S)), (ac, .inl (cJ, 160, .inr (.inl C)))] rfl rfl rfl rfl rfl rfl rfl) [0, 1] rfl 0 rfl rfl rfl rfl hl.1 rfl (Nat.le_of_ble_eq_true rfl) dX4_sheet_43 ⟨Nat.zero_le _, Nat.zero_le _⟩ (fun H locs hP hD hS => ?_)
          refine W.eq (g2 := F0 m 46 ls [.int ((-1000000007))]) rfl ?_
          refine hz_ei hx hb hr hlocks rfl ?_ hS (by rw [show fd_sheet y b n = some 6 from (if_pos c4).trans ((if_pos (Or.inr (Or.inl c14))).trans (if_pos (Int32.not_le.mp c37)))]; rfl) dX4_sheet_46
          rw [show fd_sheet y b n = some 6 from (if_pos c4).trans ((if_pos (Or.inr (Or.inl c14))).trans (if_pos (Int32.not_le.mp c37)))]
          exact hP
      · refine lv_iload_n hx hb dX4_sheet_17 rfl (lv_at hl 2 rfl) ?_
        refine lv_bipush (v := nI 16) hx hb dX4_sheet_18 (by decide) ?_
        refine lv_icmp_eq (tgt := 36) hx hb dX4_sheet_20 (by decide) (fun c20 => ?_) (fun c20 => ?_)
        · refine lv_iload_n hx hb dX4_sheet_36 rfl (lv_at hl 3 rfl) ?_
          refine lv_if_ge (tgt := 47) hx hb dX4_sheet_37 (by decide) (fun c37 => ?_) (fun c37 => ?_)
          · refine lv_iload_n hx hb dX4_sheet_47 rfl (lv_at hl 3 rfl) ?_
            refine lv_bipush (v := nI 40) hx hb dX4_sheet_48 (by decide) ?_
            refine lv_icmp_le (tgt := 60) hx hb dX4_sheet_50 (by decide) (fun c50 => ?_) (fun c50 => ?_)
            · obtain ⟨j, hj, ej⟩ := hz_in_of c4 (by decide)
              rw [ej] at hl
              have hcj : cl y = j := by rw [ej, cl, nI_clamp (by omega)]
              refine lv_aload_n hx hb dX4_sheet_60 rfl (lv_at hl 0 rfl) ?_
              refine va_get hx hb hts hinX4 hown hK hP 0 rfl rfl 13 (by decide) wd3 (fun _ h => h) hf13 dX4_sheet_61 ?_
              refine lv_iload_n hx hb dX4_sheet_64 rfl (lv_at hl 1 rfl) ?_
              refine lv_iload_n hx hb dX4_sheet_65 rfl (lv_at hl 2 rfl) ?_
              refine hz_iast (j := j) hx hb hK hP hD hS 2 0 rfl rfl (by omega) (Nat.le_of_ble_eq_true rfl) dX4_sheet_66 (w' := [(h0, .inr (4, fs)), (af, .inl (cI, 7, .inl F)), (ab, .inl (cI, 4, .inl (upd B j b))), (as_, .inl (cI, 4, .inl S)), (ac, .inl (cJ, 160, .inr (.inl C)))]) rfl (fun H locs hP hD hS => ?_)
              refine lv_aload_n hx hb dX4_sheet_67 rfl (lv_at hl 0 rfl) ?_
              refine va_get hx hb hts hinX4 hown hK hP 0 rfl rfl 14 (by decide) wd4 (fun _ h => h) hf14 dX4_sheet_68 ?_
              refine lv_iload_n hx hb dX4_sheet_71 rfl (lv_at hl 1 rfl) ?_
              refine lv_iload_n hx hb dX4_sheet_72 rfl (lv_at hl 2 rfl) ?_
              refine hz_dia (ls := ls) (if b = 0 then nI 0 else n) 81 [.int (nI j), .ref as_] (fun jn81 => ?_) ?_
              · refine lv_if_ne (tgt := 80) hx hb dX4_sheet_73 (by decide) (fun c73 => ?_) (fun c73 => ?_)
                · refine lv_iload_n hx hb dX4_sheet_80 rfl (lv_at hl 3 rfl) ?_
                  exact hz_ct ((if_neg c73).symm) jn81
                · refine lv_iconst (v := nI 0) hx hb dX4_sheet_76 (by decide) ?_
                  refine lv_goto (tgt := 81) hx hb dX4_sheet_77 (by decide) ?_
                  exact hz_ct ((if_pos c73).symm) jn81
              · refine hz_iast (j := j) hx hb hK hP hD hS 3 0 rfl rfl (by omega) (Nat.le_of_ble_eq_true rfl) dX4_sheet_81 (w' := [(h0, .inr (4, fs)), (af, .inl (cI, 7, .inl F)), (ab, .inl (cI, 4, .inl (upd B j b))), (as_, .inl (cI, 4, .inl (upd S j (if b = 0 then nI 0 else n)))), (ac, .inl (cJ, 160, .inr (.inl C)))]) rfl (fun H locs hP hD hS => ?_)
                refine lv_iconst (v := nI 0) hx hb dX4_sheet_82 (by decide) ?_
                refine lv_istore (lv' := [(4, .int (nI 0)), (0, .ref h0), (1, .int (nI j)), (2, .int (b)), (3, .int (n))]) hx hb dX4_sheet_83 hl (by decide) rfl (fun ls hl => ?_)
                have loop : ∀ (nn : Nat) (k : Nat) (ls : Array Slot) (H : Heap) (locs : List Loc), 40 - k < nn → (k ≤ 40) → lv_has ls 5 [(4, .int (nI k)), (0, .ref h0), (1, .int (nI j)), (2, .int (b)), (3, .int (n))] → va_P D zcl [(h0, .inr (4, fs)), (af, .inl (cI, 7, .inl F)), (ab, .inl (cI, 4, .inl (upd B j b))), (as_, .inl (cI, 4, .inl (upd S j (if b = 0 then nI 0 else n)))), (ac, .inl (cJ, 160, .inr (.inl (sp_zC C j k))))] H → va_D (hz_a [(h0, .inr (4, fs)), (af, .inl (cI, 7, .inl F)), (ab, .inl (cI, 4, .inl B)), (as_, .inl (cI, 4, .inl S)), (ac, .inl (cJ, 160, .inr (.inl C)))]) [(h0, .inr (4, fs)), (af, .inl (cI, 7, .inl F)), (ab, .inl (cI, 4, .inl (upd B j b))), (as_, .inl (cI, 4, .inl (upd S j (if b = 0 then nI 0 else n)))), (ac, .inl (cJ, 160, .inr (.inl (sp_zC C j k))))] → va_S (hz_a [(h0, .inr (4, fs)), (af, .inl (cI, 7, .inl F)), (ab, .inl (cI, 4, .inl B)), (as_, .inl (cI, 4, .inl S)), (ac, .inl (cJ, 160, .inr (.inl C)))]) s.heap H locs → W p l e (headSpec wsX4_sheet { frames := 2, cells := 0, slots := 0, locals := 43 }).room s m ([.ref h0, .int (y), .int (b), .int (n)] : List Value).toArray below meth c H locs 0 0 (MQ below (hz_E D zcl [(h0, .inr (4, fs)), (af, .inl (cI, 7, .inl (sp_ff F (fd_sheet y b n)))), (ab, .inl (cI, 4, .inl (sp_fM (fd_sheet y b n) B (upd B (cl y) b)))), (as_, .inl (cI, 4, .inl (sp_fM (fd_sheet y b n) S (upd S (cl y) (if b = 0 then nI 0 else n))))), (ac, .inl (cJ, 160, .inr (.inl (sp_fC (fd_sheet y b n) C (sp_zC C (cl y) 40)))))] (some (.int (sp_fr (fd_sheet y b n) (if b = 0 then nI 0 else n)))) (hz_a [(h0, .inr (4, fs)), (af, .inl (cI, 7, .inl F)), (ab, .inl (cI, 4, .inl B)), (as_, .inl (cI, 4, .inl S)), (ac, .inl (cJ, 160, .inr (.inl C)))])) ([.ref h0, .int (y), .int (b), .int (n)] : List Value).toArray s 0 0 (hz_a [(h0, .inr (4, fs)), (af, .inl (cI, 7, .inl F)), (ab, .inl (cI, 4, .inl B)), (as_, .inl (cI, 4, .inl S)), (ac, .inl (cJ, 160, .inr (.inl C)))])) (F0 m 85 ls []) := by
                  intro nn
                  induction nn with
                  | zero => intro k ls H locs hnn hk hl hP hD hS; exact absurd hnn (Nat.not_lt_zero _)
                  | succ nn ihloop =>
                    intro k ls H locs hnn hk hl hP hD hS
                    refine lv_iload hx hb dX4_sheet_85 (lv_at hl 0 rfl) ?_
                    refine lv_bipush (v := nI 40) hx hb dX4_sheet_87 (by decide) ?_
                    refine hz_icmp_ge (tgt := 111) (by omega) (by omega) hx hb dX4_sheet_89 (by decide) (fun c89 => ?_) (fun c89 => ?_)
                    · refine lv_aload_n hx hb dX4_sheet_111 rfl (lv_at hl 1 rfl) ?_
                      refine va_get hx hb hts hinX4 hown hK hP 0 rfl rfl 14 (by decide) wd4 (fun _ h => h) hf14 dX4_sheet_112 ?_
                      refine lv_iload_n hx hb dX4_sheet_115 rfl (lv_at hl 2 rfl) ?_
                      refine hz_iald (j := j) hx hb hK hP 3 0 rfl rfl (by omega) (Nat.le_of_ble_eq_true rfl) dX4_sheet_116 ?_
                      refine hz_ei hx hb hr hlocks rfl ?_ hS (by rw [show fd_sheet y b n = none from (if_pos c4).trans ((if_pos (Or.inr (Or.inr (Or.inl c20)))).trans ((if_neg (Int32.not_lt.mpr c37)).trans (if_pos c50)))]; exact fr_n pk_us) dX4_sheet_117
                      rw [show fd_sheet y b n = none from (if_pos c4).trans ((if_pos (Or.inr (Or.inr (Or.inl c20)))).trans ((if_neg (Int32.not_lt.mpr c37)).trans (if_pos c50)))]
                      rw [hcj]
                      obtain rfl : k = 40 := by omega
                      exact hP
                    · refine lv_aload_n hx hb dX4_sheet_92 rfl (lv_at hl 1 rfl) ?_
                      refine va_get hx hb hts hinX4 hown hK hP 0 rfl rfl 15 (by decide) wd5 (fun _ h => h) hf15 dX4_sheet_93 ?_
                      refine lv_bipush (v := nI 40) hx hb dX4_sheet_96 (by decide) ?_
                      refine lv_iload_n hx hb dX4_sheet_98 rfl (lv_at hl 2 rfl) ?_
                      refine hz_imul hx hb dX4_sheet_99 ?_
                      refine lv_iload hx hb dX4_sheet_100 (lv_at hl 0 rfl) ?_
                      refine hz_iadd hx hb dX4_sheet_102 ?_
                      refine lv_lconst (v := 0) hx hb dX4_sheet_103 (by decide) ?_
                      refine hz_last (j := 40 * j + k) hx hb hK hP hD hS 4 1 rfl rfl (by omega) (Nat.le_of_ble_eq_true rfl) dX4_sheet_104 (w' := [(h0, .inr (4, fs)), (af, .inl (cI, 7, .inl F)), (ab, .inl (cI, 4, .inl (upd B j b))), (as_, .inl (cI, 4, .inl (upd S j (if b = 0 then nI 0 else n)))), (ac, .inl (cJ, 160, .inr (.inl (vp_updL (sp_zC C j k) (40 * j + k) 0))))]) rfl (fun H locs hP hD hS => ?_)
                      refine lv_iinc (v := nI (k + 1)) (lv' := [(4, .int (nI (k + 1))), (0, .ref h0), (1, .int (nI j)), (2, .int (b)), (3, .int (n))]) hx hb dX4_sheet_105 hl (k := 0) rfl (nI_1 _) (by decide) rfl (fun ls hl => ?_)
                      refine lv_goto (tgt := 85) hx hb dX4_sheet_108 (by decide) ?_
                      rw [zC_s] at hP hD
                      exact ihloop (k + 1) ls _ _ (by omega) (by omega) (lv_sub hl [0, 1, 2, 3, 4] rfl) hP hD hS
                rw [← zC_0 C j] at hP
                exact loop _ 0 ls _ _ (Nat.lt_succ_self _) (by omega) (lv_sub hl [0, 1, 2, 3, 4] rfl) hP (hz_D_a2 hD rfl) hS
            · refine lv_aload_n hx hb dX4_sheet_53 rfl (lv_at hl 0 rfl) ?_
              refine lv_ldc (v := -1000000001) hx hb hown wd1 dX4_sheet_54 ?_
              refine hz_ce (As := [.int (-1000000001)]) (rest := []) ⟨hx, hb, hml, hown, hts⟩ (c4_finds l D cI cJ (h0 := h0) (af := af) (fs := fs) (F := F) (f := -1000000001) (k := 0) (hf := by first | assumption | rfl) (hk := by omega) (hfk := by decide)) (cwV 1 hts gX4_sheet_X4_finds rfl rfl rfl (by decide +kernel) ⟨Nat.le_of_ble_eq_true rfl, Nat.le_of_ble_eq_true rfl⟩) hK hP hD hS [0, 1] rfl (by decide) (hz_ha [h0, af] rfl rfl) (w' := [(h0, .inr (4, fs)), (af, .inl (cI, 7, .inl (sp_fd F 0))), (ab, .inl (cI, 4, .inl B)), (as_, .inl (cI, 4, .inl S)), (ac, .inl (cJ, 160, .inr (.inl C)))]) (hz_pt_eq 5 [2, 3, 4] [(ab, .inl (cI, 4, .inl B)), (as_, .inl (cI, 4, .inl S)), (ac, .inl (cJ, 160, .inr (.inl C)))] rfl rfl rfl rfl rfl rfl rfl) [0, 1] rfl 0 rfl rfl rfl rfl hl.1 rfl (Nat.le_of_ble_eq_true rfl) dX4_sheet_56 ⟨Nat.zero_le _, Nat.zero_le _⟩ (fun H locs hP hD hS => ?_)
              refine W.eq (g2 := F0 m 59 ls [.int ((-1000000001))]) rfl ?_
              refine hz_ei hx hb hr hlocks rfl ?_ hS (by rw [show fd_sheet y b n = some 0 from (if_pos c4).trans ((if_pos (Or.inr (Or.inr (Or.inl c20)))).trans ((if_neg (Int32.not_lt.mpr c37)).trans (if_neg c50)))]; rfl) dX4_sheet_59
              rw [show fd_sheet y b n = some 0 from (if_pos c4).trans ((if_pos (Or.inr (Or.inr (Or.inl c20)))).trans ((if_neg (Int32.not_lt.mpr c37)).trans (if_neg c50)))]
              exact hP
          · refine lv_aload_n hx hb dX4_sheet_40 rfl (lv_at hl 0 rfl) ?_
            refine lv_ldc (v := -1000000007) hx hb hown wd2 dX4_sheet_41 ?_
            refine hz_ce (As := [.int (-1000000007)]) (rest := []) ⟨hx, hb, hml, hown, hts⟩ (c4_finds l D cI cJ (h0 := h0) (af := af) (fs := fs) (F := F) (f := -1000000007) (k := 6) (hf := by first | assumption | rfl) (hk := by omega) (hfk := by decide)) (cwV 1 hts gX4_sheet_X4_finds rfl rfl rfl (by decide +kernel) ⟨Nat.le_of_ble_eq_true rfl, Nat.le_of_ble_eq_true rfl⟩) hK hP hD hS [0, 1] rfl (by decide) (hz_ha [h0, af] rfl rfl) (w' := [(h0, .inr (4, fs)), (af, .inl (cI, 7, .inl (sp_fd F 6))), (ab, .inl (cI, 4, .inl B)), (as_, .inl (cI, 4, .inl S)), (ac, .inl (cJ, 160, .inr (.inl C)))]) (hz_pt_eq 5 [2, 3, 4] [(ab, .inl (cI, 4, .inl B)), (as_, .inl (cI, 4, .inl S)), (ac, .inl (cJ, 160, .inr (.inl C)))] rfl rfl rfl rfl rfl rfl rfl) [0, 1] rfl 0 rfl rfl rfl rfl hl.1 rfl (Nat.le_of_ble_eq_true rfl) dX4_sheet_43 ⟨Nat.zero_le _, Nat.zero_le _⟩ (fun H locs hP hD hS => ?_)
            refine W.eq (g2 := F0 m 46 ls [.int ((-1000000007))]) rfl ?_
            refine hz_ei hx hb hr hlocks rfl ?_ hS (by rw [show fd_sheet y b n = some 6 from (if_pos c4).trans ((if_pos (Or.inr (Or.inr (Or.inl c20)))).trans (if_pos (Int32.not_le.mp c37)))]; rfl) dX4_sheet_46
            rw [show fd_sheet y b n = some 6 from (if_pos c4).trans ((if_pos (Or.inr (Or.inr (Or.inl c20)))).trans (if_pos (Int32.not_le.mp c37)))]
            exact hP
        · refine lv_iload_n hx hb dX4_sheet_23 rfl (lv_at hl 2 rfl) ?_
          refine lv_bipush (v := nI 64) hx hb dX4_sheet_24 (by decide) ?_
          refine lv_icmp_eq (tgt := 36) hx hb dX4_sheet_26 (by decide) (fun c26 => ?_) (fun c26 => ?_)
          · refine lv_iload_n hx hb dX4_sheet_36 rfl (lv_at hl 3 rfl) ?_
            refine lv_if_ge (tgt := 47) hx hb dX4_sheet_37 (by decide) (fun c37 => ?_) (fun c37 => ?_)
            · refine lv_iload_n hx hb dX4_sheet_47 rfl (lv_at hl 3 rfl) ?_
              refine lv_bipush (v := nI 40) hx hb dX4_sheet_48 (by decide) ?_
              refine lv_icmp_le (tgt := 60) hx hb dX4_sheet_50 (by decide) (fun c50 => ?_) (fun c50 => ?_)
              · obtain ⟨j, hj, ej⟩ := hz_in_of c4 (by decide)
                rw [ej] at hl
                have hcj : cl y = j := by rw [ej, cl, nI_clamp (by omega)]
                refine lv_aload_n hx hb dX4_sheet_60 rfl (lv_at hl 0 rfl) ?_
                refine va_get hx hb hts hinX4 hown hK hP 0 rfl rfl 13 (by decide) wd3 (fun _ h => h) hf13 dX4_sheet_61 ?_
                refine lv_iload_n hx hb dX4_sheet_64 rfl (lv_at hl 1 rfl) ?_
                refine lv_iload_n hx hb dX4_sheet_65 rfl (lv_at hl 2 rfl) ?_
                refine hz_iast (j := j) hx hb hK hP hD hS 2 0 rfl rfl (by omega) (Nat.le_of_ble_eq_true rfl) dX4_sheet_66 (w' := [(h0, .inr (4, fs)), (af, .inl (cI, 7, .inl F)), (ab, .inl (cI, 4, .inl (upd B j b))), (as_, .inl (cI, 4, .inl S)), (ac, .inl (cJ, 160, .inr (.inl C)))]) rfl (fun H locs hP hD hS => ?_)
                refine lv_aload_n hx hb dX4_sheet_67 rfl (lv_at hl 0 rfl) ?_
                refine va_get hx hb hts hinX4 hown hK hP 0 rfl rfl 14 (by decide) wd4 (fun _ h => h) hf14 dX4_sheet_68 ?_
                refine lv_iload_n hx hb dX4_sheet_71 rfl (lv_at hl 1 rfl) ?_
                refine lv_iload_n hx hb dX4_sheet_72 rfl (lv_at hl 2 rfl) ?_
                refine hz_dia (ls := ls) (if b = 0 then nI 0 else n) 81 [.int (nI j), .ref as_] (fun jn81 => ?_) ?_
                · refine lv_if_ne (tgt := 80) hx hb dX4_sheet_73 (by decide) (fun c73 => ?_) (fun c73 => ?_)
                  · refine lv_iload_n hx hb dX4_sheet_80 rfl (lv_at hl 3 rfl) ?_
                    exact hz_ct ((if_neg c73).symm) jn81
                  · refine lv_iconst (v := nI 0) hx hb dX4_sheet_76 (by decide) ?_
                    refine lv_goto (tgt := 81) hx hb dX4_sheet_77 (by decide) ?_
                    exact hz_ct ((if_pos c73).symm) jn81
                · refine hz_iast (j := j) hx hb hK hP hD hS 3 0 rfl rfl (by omega) (Nat.le_of_ble_eq_true rfl) dX4_sheet_81 (w' := [(h0, .inr (4, fs)), (af, .inl (cI, 7, .inl F)), (ab, .inl (cI, 4, .inl (upd B j b))), (as_, .inl (cI, 4, .inl (upd S j (if b = 0 then nI 0 else n)))), (ac, .inl (cJ, 160, .inr (.inl C)))]) rfl (fun H locs hP hD hS => ?_)
                  refine lv_iconst (v := nI 0) hx hb dX4_sheet_82 (by decide) ?_
                  refine lv_istore (lv' := [(4, .int (nI 0)), (0, .ref h0), (1, .int (nI j)), (2, .int (b)), (3, .int (n))]) hx hb dX4_sheet_83 hl (by decide) rfl (fun ls hl => ?_)
                  have loop : ∀ (nn : Nat) (k : Nat) (ls : Array Slot) (H : Heap) (locs : List Loc), 40 - k < nn → (k ≤ 40) → lv_has ls 5 [(4, .int (nI k)), (0, .ref h0), (1, .int (nI j)), (2, .int (b)), (3, .int (n))] → va_P D zcl [(h0, .inr (4, fs)), (af, .inl (cI, 7, .inl F)), (ab, .inl (cI, 4, .inl (upd B j b))), (as_, .inl (cI, 4, .inl (upd S j (if b = 0 then nI 0 else n)))), (ac, .inl (cJ, 160, .inr (.inl (sp_zC C j k))))] H → va_D (hz_a [(h0, .inr (4, fs)), (af, .inl (cI, 7, .inl F)), (ab, .inl (cI, 4, .inl B)), (as_, .inl (cI, 4, .inl S)), (ac, .inl (cJ, 160, .inr (.inl C)))]) [(h0, .inr (4, fs)), (af, .inl (cI, 7, .inl F)), (ab, .inl (cI, 4, .inl (upd B j b))), (as_, .inl (cI, 4, .inl (upd S j (if b = 0 then nI 0 else n)))), (ac, .inl (cJ, 160, .inr (.inl (sp_zC C j k))))] → va_S (hz_a [(h0, .inr (4, fs)), (af, .inl (cI, 7, .inl F)), (ab, .inl (cI, 4, .inl B)), (as_, .inl (cI, 4, .inl S)), (ac, .inl (cJ, 160, .inr (.inl C)))]) s.heap H locs → W p l e (headSpec wsX4_sheet { frames := 2, cells := 0, slots := 0, locals := 43 }).room s m ([.ref h0, .int (y), .int (b), .int (n)] : List Value).toArray below meth c H locs 0 0 (MQ below (hz_E D zcl [(h0, .inr (4, fs)), (af, .inl (cI, 7, .inl (sp_ff F (fd_sheet y b n)))), (ab, .inl (cI, 4, .inl (sp_fM (fd_sheet y b n) B (upd B (cl y) b)))), (as_, .inl (cI, 4, .inl (sp_fM (fd_sheet y b n) S (upd S (cl y) (if b = 0 then nI 0 else n))))), (ac, .inl (cJ, 160, .inr (.inl (sp_fC (fd_sheet y b n) C (sp_zC C (cl y) 40)))))] (some (.int (sp_fr (fd_sheet y b n) (if b = 0 then nI 0 else n)))) (hz_a [(h0, .inr (4, fs)), (af, .inl (cI, 7, .inl F)), (ab, .inl (cI, 4, .inl B)), (as_, .inl (cI, 4, .inl S)), (ac, .inl (cJ, 160, .inr (.inl C)))])) ([.ref h0, .int (y), .int (b), .int (n)] : List Value).toArray s 0 0 (hz_a [(h0, .inr (4, fs)), (af, .inl (cI, 7, .inl F)), (ab, .inl (cI, 4, .inl B)), (as_, .inl (cI, 4, .inl S)), (ac, .inl (cJ, 160, .inr (.inl C)))])) (F0 m 85 ls []) := by
                    intro nn
                    induction nn with
                    | zero => intro k ls H locs hnn hk hl hP hD hS; exact absurd hnn (Nat.not_lt_zero _)
                    | succ nn ihloop =>
                      intro k ls H locs hnn hk hl hP hD hS
                      refine lv_iload hx hb dX4_sheet_85 (lv_at hl 0 rfl) ?_
                      refine lv_bipush (v := nI 40) hx hb dX4_sheet_87 (by decide) ?_
                      refine hz_icmp_ge (tgt := 111) (by omega) (by omega) hx hb dX4_sheet_89 (by decide) (fun c89 => ?_) (fun c89 => ?_)
                      · refine lv_aload_n hx hb dX4_sheet_111 rfl (lv_at hl 1 rfl) ?_
                        refine va_get hx hb hts hinX4 hown hK hP 0 rfl rfl 14 (by decide) wd4 (fun _ h => h) hf14 dX4_sheet_112 ?_
                        refine lv_iload_n hx hb dX4_sheet_115 rfl (lv_at hl 2 rfl) ?_
                        refine hz_iald (j := j) hx hb hK hP 3 0 rfl rfl (by omega) (Nat.le_of_ble_eq_true rfl) dX4_sheet_116 ?_
                        refine hz_ei hx hb hr hlocks rfl ?_ hS (by rw [show fd_sheet y b n = none from (if_pos c4).trans ((if_pos (Or.inr (Or.inr (Or.inr c26)))).trans ((if_neg (Int32.not_lt.mpr c37)).trans (if_pos c50)))]; exact fr_n pk_us) dX4_sheet_117
                        rw [show fd_sheet y b n = none from (if_pos c4).trans ((if_pos (Or.inr (Or.inr (Or.inr c26)))).trans ((if_neg (Int32.not_lt.mpr c37)).trans (if_pos c50)))]
                        rw [hcj]
                        obtain rfl : k = 40 := by omega
                        exact hP
                      · refine lv_aload_n hx hb dX4_sheet_92 rfl (lv_at hl 1 rfl) ?_
                        refine va_get hx hb hts hinX4 hown hK hP 0 rfl rfl 15 (by decide) wd5 (fun _ h => h) hf15 dX4_sheet_93 ?_
                        refine lv_bipush (v := nI 40) hx hb dX4_sheet_96 (by decide) ?_
                        refine lv_iload_n hx hb dX4_sheet_98 rfl (lv_at hl 2 rfl) ?_
                        refine hz_imul hx hb dX4_sheet_99 ?_
                        refine lv_iload hx hb dX4_sheet_100 (lv_at hl 0 rfl) ?_
                        refine hz_iadd hx hb dX4_sheet_102 ?_
                        refine lv_lconst (v := 0) hx hb dX4_sheet_103 (by decide) ?_
                        refine hz_last (j := 40 * j + k) hx hb hK hP hD hS 4 1 rfl rfl (by omega) (Nat.le_of_ble_eq_true rfl) dX4_sheet_104 (w' := [(h0, .inr (4, fs)), (af, .inl (cI, 7, .inl F)), (ab, .inl (cI, 4, .inl (upd B j b))), (as_, .inl (cI, 4, .inl (upd S j (if b = 0 then nI 0 else n)))), (ac, .inl (cJ, 160, .inr (.inl (vp_updL (sp_zC C j k) (40 * j + k) 0))))]) rfl (fun H locs hP hD hS => ?_)
                        refine lv_iinc (v := nI (k + 1)) (lv' := [(4, .int (nI (k + 1))), (0, .ref h0), (1, .int (nI j)), (2, .int (b)), (3, .int (n))]) hx hb dX4_sheet_105 hl (k := 0) rfl (nI_1 _) (by decide) rfl (fun ls hl => ?_)
                        refine lv_goto (tgt := 85) hx hb dX4_sheet_108 (by decide) ?_
                        rw [zC_s] at hP hD
                        exact ihloop (k + 1) ls _ _ (by omega) (by omega) (lv_sub hl [0, 1, 2, 3, 4] rfl) hP hD hS
                  rw [← zC_0 C j] at hP
                  exact loop _ 0 ls _ _ (Nat.lt_succ_self _) (by omega) (lv_sub hl [0, 1, 2, 3, 4] rfl) hP (hz_D_a2 hD rfl) hS
              · refine lv_aload_n hx hb dX4_sheet_53 rfl (lv_at hl 0 rfl) ?_
                refine lv_ldc (v := -1000000001) hx hb hown wd1 dX4_sheet_54 ?_
                refine hz_ce (As := [.int (-1000000001)]) (rest := []) ⟨hx, hb, hml, hown, hts⟩ (c4_finds l D cI cJ (h0 := h0) (af := af) (fs := fs) (F := F) (f := -1000000001) (k := 0) (hf := by first | assumption | rfl) (hk := by omega) (hfk := by decide)) (cwV 1 hts gX4_sheet_X4_finds rfl rfl rfl (by decide +kernel) ⟨Nat.le_of_ble_eq_true rfl, Nat.le_of_ble_eq_true rfl⟩) hK hP hD hS [0, 1] rfl (by decide) (hz_ha [h0, af] rfl rfl) (w' := [(h0, .inr (4, fs)), (af, .inl (cI, 7, .inl (sp_fd F 0))), (ab, .inl (cI, 4, .inl B)), (as_, .inl (cI, 4, .inl S)), (ac, .inl (cJ, 160, .inr (.inl C)))]) (hz_pt_eq 5 [2, 3, 4] [(ab, .inl (cI, 4, .inl B)), (as_, .inl (cI, 4, .inl S)), (ac, .inl (cJ, 160, .inr (.inl C)))] rfl rfl rfl rfl rfl rfl rfl) [0, 1] rfl 0 rfl rfl rfl rfl hl.1 rfl (Nat.le_of_ble_eq_true rfl) dX4_sheet_56 ⟨Nat.zero_le _, Nat.zero_le _⟩ (fun H locs hP hD hS => ?_)
                refine W.eq (g2 := F0 m 59 ls [.int ((-1000000001))]) rfl ?_
                refine hz_ei hx hb hr hlocks rfl ?_ hS (by rw [show fd_sheet y b n = some 0 from (if_pos c4).trans ((if_pos (Or.inr (Or.inr (Or.inr c26)))).trans ((if_neg (Int32.not_lt.mpr c37)).trans (if_neg c50)))]; rfl) dX4_sheet_59
                rw [show fd_sheet y b n = some 0 from (if_pos c4).trans ((if_pos (Or.inr (Or.inr (Or.inr c26)))).trans ((if_neg (Int32.not_lt.mpr c37)).trans (if_neg c50)))]
                exact hP
            · refine lv_aload_n hx hb dX4_sheet_40 rfl (lv_at hl 0 rfl) ?_
              refine lv_ldc (v := -1000000007) hx hb hown wd2 dX4_sheet_41 ?_
              refine hz_ce (As := [.int (-1000000007)]) (rest := []) ⟨hx, hb, hml, hown, hts⟩ (c4_finds l D cI cJ (h0 := h0) (af := af) (fs := fs) (F := F) (f := -1000000007) (k := 6) (hf := by first | assumption | rfl) (hk := by omega) (hfk := by decide)) (cwV 1 hts gX4_sheet_X4_finds rfl rfl rfl (by decide +kernel) ⟨Nat.le_of_ble_eq_true rfl, Nat.le_of_ble_eq_true rfl⟩) hK hP hD hS [0, 1] rfl (by decide) (hz_ha [h0, af] rfl rfl) (w' := [(h0, .inr (4, fs)), (af, .inl (cI, 7, .inl (sp_fd F 6))), (ab, .inl (cI, 4, .inl B)), (as_, .inl (cI, 4, .inl S)), (ac, .inl (cJ, 160, .inr (.inl C)))]) (hz_pt_eq 5 [2, 3, 4] [(ab, .inl (cI, 4, .inl B)), (as_, .inl (cI, 4, .inl S)), (ac, .inl (cJ, 160, .inr (.inl C)))] rfl rfl rfl rfl rfl rfl rfl) [0, 1] rfl 0 rfl rfl rfl rfl hl.1 rfl (Nat.le_of_ble_eq_true rfl) dX4_sheet_43 ⟨Nat.zero_le _, Nat.zero_le _⟩ (fun H locs hP hD hS => ?_)
              refine W.eq (g2 := F0 m 46 ls [.int ((-1000000007))]) rfl ?_
              refine hz_ei hx hb hr hlocks rfl ?_ hS (by rw [show fd_sheet y b n = some 6 from (if_pos c4).trans ((if_pos (Or.inr (Or.inr (Or.inr c26)))).trans (if_pos (Int32.not_le.mp c37)))]; rfl) dX4_sheet_46
              rw [show fd_sheet y b n = some 6 from (if_pos c4).trans ((if_pos (Or.inr (Or.inr (Or.inr c26)))).trans (if_pos (Int32.not_le.mp c37)))]
              exact hP
          · refine lv_aload_n hx hb dX4_sheet_29 rfl (lv_at hl 0 rfl) ?_
            refine lv_ldc (v := -1000000001) hx hb hown wd1 dX4_sheet_30 ?_
            refine hz_ce (As := [.int (-1000000001)]) (rest := []) ⟨hx, hb, hml, hown, hts⟩ (c4_finds l D cI cJ (h0 := h0) (af := af) (fs := fs) (F := F) (f := -1000000001) (k := 0) (hf := by first | assumption | rfl) (hk := by omega) (hfk := by decide)) (cwV 1 hts gX4_sheet_X4_finds rfl rfl rfl (by decide +kernel) ⟨Nat.le_of_ble_eq_true rfl, Nat.le_of_ble_eq_true rfl⟩) hK hP hD hS [0, 1] rfl (by decide) (hz_ha [h0, af] rfl rfl) (w' := [(h0, .inr (4, fs)), (af, .inl (cI, 7, .inl (sp_fd F 0))), (ab, .inl (cI, 4, .inl B)), (as_, .inl (cI, 4, .inl S)), (ac, .inl (cJ, 160, .inr (.inl C)))]) (hz_pt_eq 5 [2, 3, 4] [(ab, .inl (cI, 4, .inl B)), (as_, .inl (cI, 4, .inl S)), (ac, .inl (cJ, 160, .inr (.inl C)))] rfl rfl rfl rfl rfl rfl rfl) [0, 1] rfl 0 rfl rfl rfl rfl hl.1 rfl (Nat.le_of_ble_eq_true rfl) dX4_sheet_32 ⟨Nat.zero_le _, Nat.zero_le _⟩ (fun H locs hP hD hS => ?_)
            refine W.eq (g2 := F0 m 35 ls [.int ((-1000000001))]) rfl ?_
            refine hz_ei hx hb hr hlocks rfl ?_ hS (by rw [show fd_sheet y b n = some 0 from (if_pos c4).trans (if_neg (fun h => h.elim c8 (fun h => h.elim c14 (fun h => h.elim c20 c26))))]; rfl) dX4_sheet_35
            rw [show fd_sheet y b n = some 0 from (if_pos c4).trans (if_neg (fun h => h.elim c8 (fun h => h.elim c14 (fun h => h.elim c20 c26))))]
            exact hP
set_option maxHeartbeats 4000000 in
set_option maxRecDepth 100000 in
theorem c3_write (l : Launch) (D : va_G) (cI cJ : ClassId) (x0 a0 kc0 tc0 tp0 fd0 : Nat) (kf : Int32) (sh0 sb0 ss0 sc0 : Nat) (F B S : Nat → Int32) (C : Nat → Int64) (y i : Int32) (v : Int64) (hZ : hz_Z S) : hz_ME l yX3_write wsX3_write { frames := 2, cells := 0, slots := 0, locals := 46 } [.ref x0, .int (y), .int (i), .long (v)] D zcl [(cI, .int), (cJ, .long)] [(x0, .inr (3, [.ref a0, .ref kc0, .ref tc0, .ref tp0, .ref sh0, .ref fd0, .int (kf)])), (sh0, .inr (1, [.ref sb0, .ref ss0, .ref sc0])), (sb0, .inl (cI, 4, .inl B)), (ss0, .inl (cI, 4, .inl S)), (sc0, .inl (cJ, 160, .inr (.inl C))), (fd0, .inl (cI, 7, .inl F))] [(x0, .inr (3, [.ref a0, .ref kc0, .ref tc0, .ref tp0, .ref sh0, .ref fd0, .int (kf)])), (sh0, .inr (1, [.ref sb0, .ref ss0, .ref sc0])), (sb0, .inl (cI, 4, .inl B)), (ss0, .inl (cI, 4, .inl S)), (sc0, .inl (cJ, 160, .inr (.inl (sp_fC (fd_write B S y i) C (vp_updL C (40 * cl y + cl i) (sp_cut (B (cl y)) v)))))), (fd0, .inl (cI, 7, .inl (sp_ff F (fd_write B S y i))))] (some (.long (sp_frl (fd_write B S y i) (C (40 * cl y + cl i))))) := by
  refine hz_me (cc := cX3_write) (maxL := 8) (ret := (some .long)) (by decide) rfl (Nat.le_of_ble_eq_true rfl) ?_
  intro p e s m below meth c hx hb hr hts hown hlocks hml hP hK hD ls hl
  have hS : va_S (hz_a [(x0, .inr (3, [.ref a0, .ref kc0, .ref tc0, .ref tp0, .ref sh0, .ref fd0, .int (kf)])), (sh0, .inr (1, [.ref sb0, .ref ss0, .ref sc0])), (sb0, .inl (cI, 4, .inl B)), (ss0, .inl (cI, 4, .inl S)), (sc0, .inl (cJ, 160, .inr (.inl C))), (fd0, .inl (cI, 7, .inl F))]) s.heap s.heap [] := va_S.rf
  have hown : s.vm.findClass RX3 = some m.cls := hown
  have hl : lv_has ls 8 [(0, .ref x0), (1, .int (y)), (2, .int (i)), (3, .long (v))] := hl
  have hinX1 : ∀ w ∈ u_ws RX1 TX1 3, w ∈ wsX3_write := fun w h => List.mem_cons_of_mem _ (List.mem_append_right _ (h))
  have hinX3 : ∀ w ∈ u_ws RX3 TX3 7, w ∈ wsX3_write := fun w h => List.mem_cons_of_mem _ (List.mem_append_left _ (List.mem_append_right _ (h)))
  have wd1 := hts (.fieldLink RX3 32 "HurtSpeech" "sheets" "LHurtSpeech$Sheets;") (List.mem_of_getElem? (i := 1) rfl)
  have wd2 := hts (.fieldLink RX3 199 "HurtSpeech$Sheets" "sizes" "[I") (List.mem_of_getElem? (i := 2) rfl)
  have wd3 := hts (.constant RX3 48 (-1000000001)) (List.mem_of_getElem? (i := 3) rfl)
  refine lv_aload_n hx hb dX3_write_0 rfl (lv_at hl 0 rfl) ?_
  refine lv_iload_n hx hb dX3_write_1 rfl (lv_at hl 1 rfl) ?_
  refine hz_cv (As := [.int (y)]) (rest := []) ⟨hx, hb, hml, hown, hts⟩ (c3_findingOfSheet l D cI cJ (x0 := x0) (a0 := a0) (kc0 := kc0) (tc0 := tc0) (tp0 := tp0) (fd0 := fd0) (kf := kf) (sh0 := sh0) (sb0 := sb0) (ss0 := ss0) (sc0 := sc0) (B := B) (x := y) ) (cwV 1 hts gX3_write_X3_findingOfSheet rfl rfl rfl (by decide +kernel) ⟨Nat.le_of_ble_eq_true rfl, Nat.le_of_ble_eq_true rfl⟩) hK hP [0, 1, 2] rfl [0, 1] rfl 0 rfl rfl rfl rfl hl.1 rfl (Nat.le_of_ble_eq_true rfl) dX3_write_2 ⟨Nat.zero_le _, Nat.zero_le _⟩ ?_
  rcases nt_cases B y with ⟨hno, ent⟩ | ⟨j, hj, ey, hb0, ent⟩ | ⟨j, hj, ey, hb0, ent⟩
  · refine hz_ct (y := -1000000001) ent ?_
    refine lv_istore (lv' := [(5, .int (-1000000001)), (0, .ref x0), (1, .int (y)), (2, .int (i)), (3, .long (v))]) hx hb dX3_write_5 hl (by decide) rfl (fun ls hl => ?_)
    refine lv_iload hx hb dX3_write_7 (lv_at hl 0 rfl) ?_
    refine lv_if_eq (tgt := 20) hx hb dX3_write_9 (by decide) (fun h => absurd h (by first | decide | omega | exact hz_nneg (by omega) | exact hz_nneg' (by omega))) (fun _ => ?_)
    refine lv_aload_n hx hb dX3_write_12 rfl (lv_at hl 1 rfl) ?_
    refine lv_iload hx hb dX3_write_13 (lv_at hl 0 rfl) ?_
    refine hz_ce (As := [.int (-1000000001)]) (rest := []) ⟨hx, hb, hml, hown, hts⟩ (c3_found l D cI cJ (x0 := x0) (a0 := a0) (kc0 := kc0) (tc0 := tc0) (tp0 := tp0) (sh0 := sh0) (fd0 := fd0) (kf := kf) (F := F) (f := -1000000001) (k := 0) (hk := by omega) (hfk := by decide)) (cwV 1 hts gX3_write_X3_found rfl rfl rfl (by decide +kernel) ⟨Nat.le_of_ble_eq_true rfl, Nat.le_of_ble_eq_true rfl⟩) hK hP hD hS [0, 5] rfl (by decide) (hz_ha [x0, fd0] rfl rfl) (w' := [(x0, .inr (3, [.ref a0, .ref kc0, .ref tc0, .ref tp0, .ref sh0, .ref fd0, .int (kf)])), (sh0, .inr (1, [.ref sb0, .ref ss0, .ref sc0])), (sb0, .inl (cI, 4, .inl B)), (ss0, .inl (cI, 4, .inl S)), (sc0, .inl (cJ, 160, .inr (.inl C))), (fd0, .inl (cI, 7, .inl (sp_fd F 0)))]) (hz_pt_eq 6 [1, 2, 3, 4] [(sh0, .inr (1, [.ref sb0, .ref ss0, .ref sc0])), (sb0, .inl (cI, 4, .inl B)), (ss0, .inl (cI, 4, .inl S)), (sc0, .inl (cJ, 160, .inr (.inl C)))] rfl rfl rfl rfl rfl rfl rfl) [0, 1] rfl 0 rfl rfl rfl rfl hl.1 rfl (Nat.le_of_ble_eq_true rfl) dX3_write_15 ⟨Nat.zero_le _, Nat.zero_le _⟩ (fun H locs hP hD hS => ?_)
    refine W.eq (g2 := F0 m 18 ls [.int ((-1000000001))]) rfl ?_
    refine lv_i2l (v := ((-1000000001)).toInt64) hx hb dX3_write_18 rfl ?_
    refine hz_el hx hb hr hlocks ?_ hS (by rw [show fd_write B S y i = some 0 from if_neg hno]; rfl) dX3_write_19
    rw [show fd_write B S y i = some 0 from if_neg hno]
    exact hP
  · refine hz_ct (y := -1000000006) ent ?_
    have hcj : cl y = j := by rw [ey, cl, nI_clamp (by omega)]
    refine lv_istore (lv' := [(5, .int (-1000000006)), (0, .ref x0), (1, .int (y)), (2, .int (i)), (3, .long (v))]) hx hb dX3_write_5 hl (by decide) rfl (fun ls hl => ?_)
    refine lv_iload hx hb dX3_write_7 (lv_at hl 0 rfl) ?_
    refine lv_if_eq (tgt := 20) hx hb dX3_write_9 (by decide) (fun h => absurd h (by first | decide | omega | exact hz_nneg (by omega) | exact hz_nneg' (by omega))) (fun _ => ?_)
    refine lv_aload_n hx hb dX3_write_12 rfl (lv_at hl 1 rfl) ?_
    refine lv_iload hx hb dX3_write_13 (lv_at hl 0 rfl) ?_
    refine hz_ce (As := [.int (-1000000006)]) (rest := []) ⟨hx, hb, hml, hown, hts⟩ (c3_found l D cI cJ (x0 := x0) (a0 := a0) (kc0 := kc0) (tc0 := tc0) (tp0 := tp0) (sh0 := sh0) (fd0 := fd0) (kf := kf) (F := F) (f := -1000000006) (k := 5) (hk := by omega) (hfk := by decide)) (cwV 1 hts gX3_write_X3_found rfl rfl rfl (by decide +kernel) ⟨Nat.le_of_ble_eq_true rfl, Nat.le_of_ble_eq_true rfl⟩) hK hP hD hS [0, 5] rfl (by decide) (hz_ha [x0, fd0] rfl rfl) (w' := [(x0, .inr (3, [.ref a0, .ref kc0, .ref tc0, .ref tp0, .ref sh0, .ref fd0, .int (kf)])), (sh0, .inr (1, [.ref sb0, .ref ss0, .ref sc0])), (sb0, .inl (cI, 4, .inl B)), (ss0, .inl (cI, 4, .inl S)), (sc0, .inl (cJ, 160, .inr (.inl C))), (fd0, .inl (cI, 7, .inl (sp_fd F 5)))]) (hz_pt_eq 6 [1, 2, 3, 4] [(sh0, .inr (1, [.ref sb0, .ref ss0, .ref sc0])), (sb0, .inl (cI, 4, .inl B)), (ss0, .inl (cI, 4, .inl S)), (sc0, .inl (cJ, 160, .inr (.inl C)))] rfl rfl rfl rfl rfl rfl rfl) [0, 1] rfl 0 rfl rfl rfl rfl hl.1 rfl (Nat.le_of_ble_eq_true rfl) dX3_write_15 ⟨Nat.zero_le _, Nat.zero_le _⟩ (fun H locs hP hD hS => ?_)
    refine W.eq (g2 := F0 m 18 ls [.int ((-1000000006))]) rfl ?_
    refine lv_i2l (v := ((-1000000006)).toInt64) hx hb dX3_write_18 rfl ?_
    refine hz_el hx hb hr hlocks ?_ hS (by rw [show fd_write B S y i = some 5 from (if_pos (by rw [ey]; exact (hz_in_nI (by omega)).mpr hj)).trans (if_pos (by rw [hcj]; exact hb0))]; rfl) dX3_write_19
    rw [show fd_write B S y i = some 5 from (if_pos (by rw [ey]; exact (hz_in_nI (by omega)).mpr hj)).trans (if_pos (by rw [hcj]; exact hb0))]
    exact hP
  · refine hz_ct (y := nI 0) ent ?_
    rw [ey] at hl
    have hcj : cl y = j := by rw [ey, cl, nI_clamp (by omega)]
    obtain ⟨hSj, hS40⟩ := hZ j hj
    have hy4 : hz_in y 4 := by rw [ey]; exact (hz_in_nI (by omega)).mpr hj
    refine lv_istore (lv' := [(5, .int (nI 0)), (0, .ref x0), (1, .int (nI j)), (2, .int (i)), (3, .long (v))]) hx hb dX3_write_5 hl (by decide) rfl (fun ls hl => ?_)
    refine lv_iload hx hb dX3_write_7 (lv_at hl 0 rfl) ?_
    refine lv_if_eq (tgt := 20) hx hb dX3_write_9 (by decide) (fun _ => ?_) (fun h => absurd h (by first | decide | omega | exact hz_nneg (by omega) | exact hz_nneg' (by omega)))
    refine lv_iload_n hx hb dX3_write_20 rfl (lv_at hl 3 rfl) ?_
    refine lv_iconst (v := nI 0) hx hb dX3_write_21 (by decide) ?_
    refine lv_aload_n hx hb dX3_write_22 rfl (lv_at hl 1 rfl) ?_
    refine va_get hx hb hts hinX3 hown hK hP 0 rfl rfl 4 (by decide) wd1 (fun _ h => h) rfl dX3_write_23 ?_
    refine va_get hx hb hts hinX1 hown hK hP 1 rfl rfl 1 (by decide) wd2 (fun _ h => h) rfl dX3_write_26 ?_
    refine lv_iload_n hx hb dX3_write_29 rfl (lv_at hl 2 rfl) ?_
    refine hz_iald (j := j) hx hb hK hP 3 0 rfl rfl (by omega) (Nat.le_of_ble_eq_true rfl) dX3_write_30 ?_
    refine hz_ct (y := nI (cl (S j))) hSj ?_
    refine lv_iconst (v := nI 1) hx hb dX3_write_31 (by decide) ?_
    refine lv_isub hx hb dX3_write_32 ?_
    refine hz_cs (As := [.int (i), .int (nI 0), .int ((nI (cl (S j))) - (nI 1))]) (rest := []) ⟨hx, hb, hml, hown, hts⟩ (c3_isWithin l D cI cJ (x := i) (a := nI 0) (b := (nI (cl (S j))) - (nI 1)) ) (va_cwS 3 hts gX3_write_X3_isWithin rfl rfl rfl (by decide +kernel) ⟨Nat.le_of_ble_eq_true rfl, Nat.le_of_ble_eq_true rfl⟩) hK hP [] rfl [0, 1] rfl rfl hl.1 rfl (Nat.le_of_ble_eq_true rfl) dX3_write_33 ⟨Nat.zero_le _, Nat.zero_le _⟩ ?_
    refine hz_ifb_ne (tgt := 47) hx hb dX3_write_36 (by decide) (fun c36 => ?_) (fun c36 => ?_)
    · obtain ⟨k, hk, ei⟩ := hz_in_of ((hz_rin _ (by omega)).mp c36) (by omega)
      rw [ei] at hl
      have hck : cl i = k := by rw [ei, cl, nI_clamp (by omega)]
      refine lv_aload_n hx hb dX3_write_47 rfl (lv_at hl 1 rfl) ?_
      refine va_get hx hb hts hinX3 hown hK hP 0 rfl rfl 4 (by decide) wd1 (fun _ h => h) rfl dX3_write_48 ?_
      refine lv_iload_n hx hb dX3_write_51 rfl (lv_at hl 2 rfl) ?_
      refine lv_iload_n hx hb dX3_write_52 rfl (lv_at hl 3 rfl) ?_
      refine hz_cv (As := [.int (nI j), .int (nI k)]) (rest := []) ⟨hx, hb, hml, hown, hts⟩ (c1_numberAt l D cI cJ (sh0 := sh0) (sb0 := sb0) (ss0 := ss0) (sc0 := sc0) (C := C) (j := j) (k := k) (hj := by omega) (hk := by omega)) (cwV 2 hts gX3_write_X1_numberAt rfl rfl rfl (by decide +kernel) ⟨Nat.le_of_ble_eq_true rfl, Nat.le_of_ble_eq_true rfl⟩) hK hP [1, 4] rfl [0, 1] rfl 1 rfl rfl rfl rfl hl.1 rfl (Nat.le_of_ble_eq_true rfl) dX3_write_53 ⟨Nat.zero_le _, Nat.zero_le _⟩ ?_
      refine lv_lstore (lv' := [(6, .long (C (40 * j + k))), (5, .int (nI 0)), (0, .ref x0), (1, .int (nI j)), (2, .int (nI k)), (3, .long (v))]) hx hb dX3_write_56 hl (by decide) rfl (fun ls hl => ?_)
      refine lv_aload_n hx hb dX3_write_58 rfl (lv_at hl 2 rfl) ?_
      refine va_get hx hb hts hinX3 hown hK hP 0 rfl rfl 4 (by decide) wd1 (fun _ h => h) rfl dX3_write_59 ?_
      refine lv_iload_n hx hb dX3_write_62 rfl (lv_at hl 3 rfl) ?_
      refine lv_iload_n hx hb dX3_write_63 rfl (lv_at hl 4 rfl) ?_
      refine lv_lload_n hx hb dX3_write_64 rfl (lv_at hl 5 rfl) ?_
      refine hz_ce (As := [.int (nI j), .int (nI k), .long (v)]) (rest := []) ⟨hx, hb, hml, hown, hts⟩ (c1_put l D cI cJ (sh0 := sh0) (sb0 := sb0) (ss0 := ss0) (sc0 := sc0) (B := B) (C := C) (j := j) (k := k) (v := v) (hj := by omega) (hk := by omega)) (cwV 3 hts gX3_write_X1_put rfl rfl rfl (by decide +kernel) ⟨Nat.le_of_ble_eq_true rfl, Nat.le_of_ble_eq_true rfl⟩) hK hP hD hS [1, 2, 4] rfl (by decide) (hz_ha [sh0, sb0, sc0] rfl rfl) (w' := [(x0, .inr (3, [.ref a0, .ref kc0, .ref tc0, .ref tp0, .ref sh0, .ref fd0, .int (kf)])), (sh0, .inr (1, [.ref sb0, .ref ss0, .ref sc0])), (sb0, .inl (cI, 4, .inl B)), (ss0, .inl (cI, 4, .inl S)), (sc0, .inl (cJ, 160, .inr (.inl (vp_updL C (40 * j + k) (sp_cut (B j) v))))), (fd0, .inl (cI, 7, .inl F))]) (hz_pt_eq 6 [0, 3, 5] [(x0, .inr (3, [.ref a0, .ref kc0, .ref tc0, .ref tp0, .ref sh0, .ref fd0, .int (kf)])), (ss0, .inl (cI, 4, .inl S)), (fd0, .inl (cI, 7, .inl F))] rfl rfl rfl rfl rfl rfl rfl) [0, 1] rfl 1 rfl rfl rfl rfl hl.1 rfl (Nat.le_of_ble_eq_true rfl) dX3_write_65 ⟨Nat.zero_le _, Nat.zero_le _⟩ (fun H locs hP hD hS => ?_)
      refine W.eq (g2 := F0 m 68 ls []) rfl ?_
      refine lv_lload hx hb dX3_write_68 (lv_at hl 0 rfl) ?_
      refine hz_el hx hb hr hlocks ?_ hS (by rw [show fd_write B S y i = none from (if_pos hy4).trans ((if_neg (by rw [hcj]; exact hb0)).trans (if_pos (by rw [hcj]; exact (hz_rin _ (by omega)).mp c36)))]; exact frl_n (by rw [hcj, hck])) dX3_write_70
      rw [show fd_write B S y i = none from (if_pos hy4).trans ((if_neg (by rw [hcj]; exact hb0)).trans (if_pos (by rw [hcj]; exact (hz_rin _ (by omega)).mp c36)))]
      rw [hcj, hck]
      exact hP
    · refine lv_aload_n hx hb dX3_write_39 rfl (lv_at hl 1 rfl) ?_
      refine lv_ldc (v := -1000000001) hx hb hown wd3 dX3_write_40 ?_
      refine hz_ce (As := [.int (-1000000001)]) (rest := []) ⟨hx, hb, hml, hown, hts⟩ (c3_found l D cI cJ (x0 := x0) (a0 := a0) (kc0 := kc0) (tc0 := tc0) (tp0 := tp0) (sh0 := sh0) (fd0 := fd0) (kf := kf) (F := F) (f := -1000000001) (k := 0) (hk := by omega) (hfk := by decide)) (cwV 1 hts gX3_write_X3_found rfl rfl rfl (by decide +kernel) ⟨Nat.le_of_ble_eq_true rfl, Nat.le_of_ble_eq_true rfl⟩) hK hP hD hS [0, 5] rfl (by decide) (hz_ha [x0, fd0] rfl rfl) (w' := [(x0, .inr (3, [.ref a0, .ref kc0, .ref tc0, .ref tp0, .ref sh0, .ref fd0, .int (kf)])), (sh0, .inr (1, [.ref sb0, .ref ss0, .ref sc0])), (sb0, .inl (cI, 4, .inl B)), (ss0, .inl (cI, 4, .inl S)), (sc0, .inl (cJ, 160, .inr (.inl C))), (fd0, .inl (cI, 7, .inl (sp_fd F 0)))]) (hz_pt_eq 6 [1, 2, 3, 4] [(sh0, .inr (1, [.ref sb0, .ref ss0, .ref sc0])), (sb0, .inl (cI, 4, .inl B)), (ss0, .inl (cI, 4, .inl S)), (sc0, .inl (cJ, 160, .inr (.inl C)))] rfl rfl rfl rfl rfl rfl rfl) [0, 1] rfl 0 rfl rfl rfl rfl hl.1 rfl (Nat.le_of_ble_eq_true rfl) dX3_write_42 ⟨Nat.zero_le _, Nat.zero_le _⟩ (fun H locs hP hD hS => ?_)
      refine W.eq (g2 := F0 m 45 ls [.int ((-1000000001))]) rfl ?_
      refine lv_i2l (v := ((-1000000001)).toInt64) hx hb dX3_write_45 rfl ?_
      refine hz_el hx hb hr hlocks ?_ hS (by rw [show fd_write B S y i = some 0 from (if_pos hy4).trans ((if_neg (by rw [hcj]; exact hb0)).trans (if_neg (by rw [hcj]; exact fun h => c36 ((hz_rin _ (by omega)).mpr h))))]; rfl) dX3_write_46
      rw [show fd_write B S y i = some 0 from (if_pos hy4).trans ((if_neg (by rw [hcj]; exact hb0)).trans (if_neg (by rw [hcj]; exact fun h => c36 ((hz_rin _ (by omega)).mpr h))))]
      exact hP
set_option maxHeartbeats 4000000 in
set_option maxRecDepth 100000 in
theorem c4_write (l : Launch) (D : va_G) (cI cJ : ClassId) (h0 af ab as_ ac : Nat) (fs : List Value) (F B S : Nat → Int32) (C : Nat → Int64) (y i : Int32) (v : Int64) (hf4 : fs[4]? = some (.ref af)) (hf13 : fs[13]? = some (.ref ab)) (hf14 : fs[14]? = some (.ref as_)) (hf15 : fs[15]? = some (.ref ac)) (hZ : hz_Z S) : hz_ME l yX4_write wsX4_write { frames := 3, cells := 0, slots := 0, locals := 64 } [.ref h0, .int (y), .int (i), .long (v)] D zcl [(cI, .int), (cJ, .long)] [(h0, .inr (4, fs)), (af, .inl (cI, 7, .inl F)), (ab, .inl (cI, 4, .inl B)), (as_, .inl (cI, 4, .inl S)), (ac, .inl (cJ, 160, .inr (.inl C)))] [(h0, .inr (4, fs)), (af, .inl (cI, 7, .inl (sp_ff F (fd_write B S y i)))), (ab, .inl (cI, 4, .inl B)), (as_, .inl (cI, 4, .inl S)), (ac, .inl (cJ, 160, .inr (.inl (sp_fC (fd_write B S y i) C (vp_updL C (40 * cl y + cl i) (sp_cut (B (cl y)) v))))))] (some (.long (sp_frl (fd_write B S y i) (C (40 * cl y + cl i))))) := by
  refine hz_me (cc := cX4_write) (maxL := 8) (ret := (some .long)) (by decide) rfl (Nat.le_of_ble_eq_true rfl) ?_
  intro p e s m below meth c hx hb hr hts hown hlocks hml hP hK hD ls hl
  have hS : va_S (hz_a [(h0, .inr (4, fs)), (af, .inl (cI, 7, .inl F)), (ab, .inl (cI, 4, .inl B)), (as_, .inl (cI, 4, .inl S)), (ac, .inl (cJ, 160, .inr (.inl C)))]) s.heap s.heap [] := va_S.rf
  have hown : s.vm.findClass RX4 = some m.cls := hown
  have hl : lv_has ls 8 [(0, .ref h0), (1, .int (y)), (2, .int (i)), (3, .long (v))] := hl
  have hinX4 : ∀ w ∈ u_ws RX4 TX4 16, w ∈ wsX4_write := fun w h => List.mem_cons_of_mem _ (List.mem_append_right _ (h))
  have wd1 := hts (.fieldLink RX4 28 "HurtSpeechModel" "sizeOf" "[I") (List.mem_of_getElem? (i := 1) rfl)
  have wd2 := hts (.constant RX4 35 (-1000000001)) (List.mem_of_getElem? (i := 2) rfl)
  have wd3 := hts (.fieldLink RX4 31 "HurtSpeechModel" "cells" "[J") (List.mem_of_getElem? (i := 3) rfl)
  have wd4 := hts (.fieldLink RX4 25 "HurtSpeechModel" "bitsOf" "[I") (List.mem_of_getElem? (i := 4) rfl)
  refine lv_aload_n hx hb dX4_write_0 rfl (lv_at hl 0 rfl) ?_
  refine lv_iload_n hx hb dX4_write_1 rfl (lv_at hl 1 rfl) ?_
  refine hz_cv (As := [.int (y)]) (rest := []) ⟨hx, hb, hml, hown, hts⟩ (c4_notThere l D cI cJ (h0 := h0) (ab := ab) (fs := fs) (B := B) (x := y) (hf13 := by first | assumption | rfl)) (cwV 1 hts gX4_write_X4_notThere rfl rfl rfl (by decide +kernel) ⟨Nat.le_of_ble_eq_true rfl, Nat.le_of_ble_eq_true rfl⟩) hK hP [0, 2] rfl [0, 1] rfl 0 rfl rfl rfl rfl hl.1 rfl (Nat.le_of_ble_eq_true rfl) dX4_write_2 ⟨Nat.zero_le _, Nat.zero_le _⟩ ?_
  rcases nt_cases B y with ⟨hno, ent⟩ | ⟨j, hj, ey, hb0, ent⟩ | ⟨j, hj, ey, hb0, ent⟩
  · refine hz_ct (y := -1000000001) ent ?_
    refine lv_istore (lv' := [(5, .int (-1000000001)), (0, .ref h0), (1, .int (y)), (2, .int (i)), (3, .long (v))]) hx hb dX4_write_5 hl (by decide) rfl (fun ls hl => ?_)
    refine lv_iload hx hb dX4_write_7 (lv_at hl 0 rfl) ?_
    refine lv_if_ne (tgt := 33) hx hb dX4_write_9 (by decide) (fun _ => ?_) (fun h => absurd h (by first | decide | omega | exact hz_nneg (by omega) | exact hz_nneg' (by omega)))
    refine lv_iload hx hb dX4_write_33 (lv_at hl 0 rfl) ?_
    refine lv_if_eq (tgt := 46) hx hb dX4_write_35 (by decide) (fun h => absurd h (by first | decide | omega | exact hz_nneg (by omega) | exact hz_nneg' (by omega))) (fun _ => ?_)
    refine lv_aload_n hx hb dX4_write_38 rfl (lv_at hl 1 rfl) ?_
    refine lv_iload hx hb dX4_write_39 (lv_at hl 0 rfl) ?_
    refine hz_ce (As := [.int (-1000000001)]) (rest := []) ⟨hx, hb, hml, hown, hts⟩ (c4_finds l D cI cJ (h0 := h0) (af := af) (fs := fs) (F := F) (f := -1000000001) (k := 0) (hf := by first | assumption | rfl) (hk := by omega) (hfk := by decide)) (cwV 1 hts gX4_write_X4_finds rfl rfl rfl (by decide +kernel) ⟨Nat.le_of_ble_eq_true rfl, Nat.le_of_ble_eq_true rfl⟩) hK hP hD hS [0, 1] rfl (by decide) (hz_ha [h0, af] rfl rfl) (w' := [(h0, .inr (4, fs)), (af, .inl (cI, 7, .inl (sp_fd F 0))), (ab, .inl (cI, 4, .inl B)), (as_, .inl (cI, 4, .inl S)), (ac, .inl (cJ, 160, .inr (.inl C)))]) (hz_pt_eq 5 [2, 3, 4] [(ab, .inl (cI, 4, .inl B)), (as_, .inl (cI, 4, .inl S)), (ac, .inl (cJ, 160, .inr (.inl C)))] rfl rfl rfl rfl rfl rfl rfl) [0, 1] rfl 0 rfl rfl rfl rfl hl.1 rfl (Nat.le_of_ble_eq_true rfl) dX4_write_41 ⟨Nat.zero_le _, Nat.zero_le _⟩ (fun H locs hP hD hS => ?_)
    refine W.eq (g2 := F0 m 44 ls [.int ((-1000000001))]) rfl ?_
    refine lv_i2l (v := ((-1000000001)).toInt64) hx hb dX4_write_44 rfl ?_
    refine hz_el hx hb hr hlocks ?_ hS (by rw [show fd_write B S y i = some 0 from if_neg hno]; rfl) dX4_write_45
    rw [show fd_write B S y i = some 0 from if_neg hno]
    exact hP
  · refine hz_ct (y := -1000000006) ent ?_
    have hcj : cl y = j := by rw [ey, cl, nI_clamp (by omega)]
    refine lv_istore (lv' := [(5, .int (-1000000006)), (0, .ref h0), (1, .int (y)), (2, .int (i)), (3, .long (v))]) hx hb dX4_write_5 hl (by decide) rfl (fun ls hl => ?_)
    refine lv_iload hx hb dX4_write_7 (lv_at hl 0 rfl) ?_
    refine lv_if_ne (tgt := 33) hx hb dX4_write_9 (by decide) (fun _ => ?_) (fun h => absurd h (by first | decide | omega | exact hz_nneg (by omega) | exact hz_nneg' (by omega)))
    refine lv_iload hx hb dX4_write_33 (lv_at hl 0 rfl) ?_
    refine lv_if_eq (tgt := 46) hx hb dX4_write_35 (by decide) (fun h => absurd h (by first | decide | omega | exact hz_nneg (by omega) | exact hz_nneg' (by omega))) (fun _ => ?_)
    refine lv_aload_n hx hb dX4_write_38 rfl (lv_at hl 1 rfl) ?_
    refine lv_iload hx hb dX4_write_39 (lv_at hl 0 rfl) ?_
    refine hz_ce (As := [.int (-1000000006)]) (rest := []) ⟨hx, hb, hml, hown, hts⟩ (c4_finds l D cI cJ (h0 := h0) (af := af) (fs := fs) (F := F) (f := -1000000006) (k := 5) (hf := by first | assumption | rfl) (hk := by omega) (hfk := by decide)) (cwV 1 hts gX4_write_X4_finds rfl rfl rfl (by decide +kernel) ⟨Nat.le_of_ble_eq_true rfl, Nat.le_of_ble_eq_true rfl⟩) hK hP hD hS [0, 1] rfl (by decide) (hz_ha [h0, af] rfl rfl) (w' := [(h0, .inr (4, fs)), (af, .inl (cI, 7, .inl (sp_fd F 5))), (ab, .inl (cI, 4, .inl B)), (as_, .inl (cI, 4, .inl S)), (ac, .inl (cJ, 160, .inr (.inl C)))]) (hz_pt_eq 5 [2, 3, 4] [(ab, .inl (cI, 4, .inl B)), (as_, .inl (cI, 4, .inl S)), (ac, .inl (cJ, 160, .inr (.inl C)))] rfl rfl rfl rfl rfl rfl rfl) [0, 1] rfl 0 rfl rfl rfl rfl hl.1 rfl (Nat.le_of_ble_eq_true rfl) dX4_write_41 ⟨Nat.zero_le _, Nat.zero_le _⟩ (fun H locs hP hD hS => ?_)
    refine W.eq (g2 := F0 m 44 ls [.int ((-1000000006))]) rfl ?_
    refine lv_i2l (v := ((-1000000006)).toInt64) hx hb dX4_write_44 rfl ?_
    refine hz_el hx hb hr hlocks ?_ hS (by rw [show fd_write B S y i = some 5 from (if_pos (by rw [ey]; exact (hz_in_nI (by omega)).mpr hj)).trans (if_pos (by rw [hcj]; exact hb0))]; rfl) dX4_write_45
    rw [show fd_write B S y i = some 5 from (if_pos (by rw [ey]; exact (hz_in_nI (by omega)).mpr hj)).trans (if_pos (by rw [hcj]; exact hb0))]
    exact hP
  · refine hz_ct (y := nI 0) ent ?_
    rw [ey] at hl
    have hcj : cl y = j := by rw [ey, cl, nI_clamp (by omega)]
    obtain ⟨hSj, hS40⟩ := hZ j hj
    have hy4 : hz_in y 4 := by rw [ey]; exact (hz_in_nI (by omega)).mpr hj
    refine lv_istore (lv' := [(5, .int (nI 0)), (0, .ref h0), (1, .int (nI j)), (2, .int (i)), (3, .long (v))]) hx hb dX4_write_5 hl (by decide) rfl (fun ls hl => ?_)
    refine lv_iload hx hb dX4_write_7 (lv_at hl 0 rfl) ?_
    refine lv_if_ne (tgt := 33) hx hb dX4_write_9 (by decide) (fun h => absurd h (by first | decide | omega | exact hz_nneg (by omega) | exact hz_nneg' (by omega))) (fun _ => ?_)
    refine lv_iload_n hx hb dX4_write_12 rfl (lv_at hl 3 rfl) ?_
    refine lv_i2l (v := i.toInt64) hx hb dX4_write_13 rfl ?_
    refine lv_iconst (v := nI 0) hx hb dX4_write_14 (by decide) ?_
    refine lv_aload_n hx hb dX4_write_15 rfl (lv_at hl 1 rfl) ?_
    refine va_get hx hb hts hinX4 hown hK hP 0 rfl rfl 14 (by decide) wd1 (fun _ h => h) hf14 dX4_write_16 ?_
    refine lv_iload_n hx hb dX4_write_19 rfl (lv_at hl 2 rfl) ?_
    refine hz_iald (j := j) hx hb hK hP 3 0 rfl rfl (by omega) (Nat.le_of_ble_eq_true rfl) dX4_write_20 ?_
    refine hz_ct (y := nI (cl (S j))) hSj ?_
    refine lv_iconst (v := nI 1) hx hb dX4_write_21 (by decide) ?_
    refine lv_isub hx hb dX4_write_22 ?_
    refine hz_cs (As := [.long (i.toInt64), .int (nI 0), .int ((nI (cl (S j))) - (nI 1))]) (rest := []) ⟨hx, hb, hml, hown, hts⟩ (c4_in32 l D cI cJ (x := i) (a := nI 0) (b := (nI (cl (S j))) - (nI 1)) ) (va_cwS 3 hts gX4_write_X4_in rfl rfl rfl (by decide +kernel) ⟨Nat.le_of_ble_eq_true rfl, Nat.le_of_ble_eq_true rfl⟩) hK hP [] rfl [0, 1] rfl rfl hl.1 rfl (Nat.le_of_ble_eq_true rfl) dX4_write_23 ⟨Nat.zero_le _, Nat.zero_le _⟩ ?_
    refine hz_ifb_ne (tgt := 33) hx hb dX4_write_26 (by decide) (fun c26 => ?_) (fun c26 => ?_)
    · refine lv_iload hx hb dX4_write_33 (lv_at hl 0 rfl) ?_
      refine lv_if_eq (tgt := 46) hx hb dX4_write_35 (by decide) (fun _ => ?_) (fun h => absurd h (by first | decide | omega | exact hz_nneg (by omega) | exact hz_nneg' (by omega)))
      obtain ⟨k, hk, ei⟩ := hz_in_of ((hz_rin _ (by omega)).mp c26) (by omega)
      rw [ei] at hl
      have hck : cl i = k := by rw [ei, cl, nI_clamp (by omega)]
      refine lv_aload_n hx hb dX4_write_46 rfl (lv_at hl 1 rfl) ?_
      refine va_get hx hb hts hinX4 hown hK hP 0 rfl rfl 15 (by decide) wd3 (fun _ h => h) hf15 dX4_write_47 ?_
      refine lv_bipush (v := nI 40) hx hb dX4_write_50 (by decide) ?_
      refine lv_iload_n hx hb dX4_write_52 rfl (lv_at hl 2 rfl) ?_
      refine hz_imul hx hb dX4_write_53 ?_
      refine lv_iload_n hx hb dX4_write_54 rfl (lv_at hl 3 rfl) ?_
      refine hz_iadd hx hb dX4_write_55 ?_
      refine hz_lald (j := 40 * j + k) hx hb hK hP 4 1 rfl rfl (by omega) (Nat.le_of_ble_eq_true rfl) dX4_write_56 ?_
      refine lv_lstore (lv' := [(6, .long (C (40 * j + k))), (5, .int (nI 0)), (0, .ref h0), (1, .int (nI j)), (2, .int (nI k)), (3, .long (v))]) hx hb dX4_write_57 hl (by decide) rfl (fun ls hl => ?_)
      refine lv_aload_n hx hb dX4_write_59 rfl (lv_at hl 2 rfl) ?_
      refine va_get hx hb hts hinX4 hown hK hP 0 rfl rfl 15 (by decide) wd3 (fun _ h => h) hf15 dX4_write_60 ?_
      refine lv_bipush (v := nI 40) hx hb dX4_write_63 (by decide) ?_
      refine lv_iload_n hx hb dX4_write_65 rfl (lv_at hl 3 rfl) ?_
      refine hz_imul hx hb dX4_write_66 ?_
      refine lv_iload_n hx hb dX4_write_67 rfl (lv_at hl 4 rfl) ?_
      refine hz_iadd hx hb dX4_write_68 ?_
      refine lv_aload_n hx hb dX4_write_69 rfl (lv_at hl 2 rfl) ?_
      refine va_get hx hb hts hinX4 hown hK hP 0 rfl rfl 13 (by decide) wd4 (fun _ h => h) hf13 dX4_write_70 ?_
      refine lv_iload_n hx hb dX4_write_73 rfl (lv_at hl 3 rfl) ?_
      refine hz_iald (j := j) hx hb hK hP 2 0 rfl rfl (by omega) (Nat.le_of_ble_eq_true rfl) dX4_write_74 ?_
      refine lv_lload_n hx hb dX4_write_75 rfl (lv_at hl 5 rfl) ?_
      refine hz_cs (As := [.int (B j), .long (v)]) (rest := [.int (nI (40 * j + k)), .ref ac]) ⟨hx, hb, hml, hown, hts⟩ (c4_cutTo l D cI cJ (x := B j) (v := v) ) (va_cwS 2 hts gX4_write_X4_cutTo rfl rfl rfl (by decide +kernel) ⟨Nat.le_of_ble_eq_true rfl, Nat.le_of_ble_eq_true rfl⟩) hK hP [] rfl [0, 1] rfl rfl hl.1 rfl (Nat.le_of_ble_eq_true rfl) dX4_write_76 ⟨Nat.zero_le _, Nat.zero_le _⟩ ?_
      refine hz_last (j := 40 * j + k) hx hb hK hP hD hS 4 1 rfl rfl (by omega) (Nat.le_of_ble_eq_true rfl) dX4_write_79 (w' := [(h0, .inr (4, fs)), (af, .inl (cI, 7, .inl F)), (ab, .inl (cI, 4, .inl B)), (as_, .inl (cI, 4, .inl S)), (ac, .inl (cJ, 160, .inr (.inl (vp_updL C (40 * j + k) (sp_cut (B j) v)))))]) rfl (fun H locs hP hD hS => ?_)
      refine lv_lload hx hb dX4_write_80 (lv_at hl 0 rfl) ?_
      refine hz_el hx hb hr hlocks ?_ hS (by rw [show fd_write B S y i = none from (if_pos hy4).trans ((if_neg (by rw [hcj]; exact hb0)).trans (if_pos (by rw [hcj]; exact (hz_rin _ (by omega)).mp c26)))]; exact frl_n (by rw [hcj, hck])) dX4_write_82
      rw [show fd_write B S y i = none from (if_pos hy4).trans ((if_neg (by rw [hcj]; exact hb0)).trans (if_pos (by rw [hcj]; exact (hz_rin _ (by omega)).mp c26)))]
      rw [hcj, hck]
      exact hP
    · refine lv_ldc (v := -1000000001) hx hb hown wd2 dX4_write_29 ?_
      refine lv_istore (lv' := [(5, .int (-1000000001)), (0, .ref h0), (1, .int (nI j)), (2, .int (i)), (3, .long (v))]) hx hb dX4_write_31 hl (by decide) rfl (fun ls hl => ?_)
      refine lv_iload hx hb dX4_write_33 (lv_at hl 0 rfl) ?_
      refine lv_if_eq (tgt := 46) hx hb dX4_write_35 (by decide) (fun h => absurd h (by first | decide | omega | exact hz_nneg (by omega) | exact hz_nneg' (by omega))) (fun _ => ?_)
      refine lv_aload_n hx hb dX4_write_38 rfl (lv_at hl 1 rfl) ?_
      refine lv_iload hx hb dX4_write_39 (lv_at hl 0 rfl) ?_
      refine hz_ce (As := [.int (-1000000001)]) (rest := []) ⟨hx, hb, hml, hown, hts⟩ (c4_finds l D cI cJ (h0 := h0) (af := af) (fs := fs) (F := F) (f := -1000000001) (k := 0) (hf := by first | assumption | rfl) (hk := by omega) (hfk := by decide)) (cwV 1 hts gX4_write_X4_finds rfl rfl rfl (by decide +kernel) ⟨Nat.le_of_ble_eq_true rfl, Nat.le_of_ble_eq_true rfl⟩) hK hP hD hS [0, 1] rfl (by decide) (hz_ha [h0, af] rfl rfl) (w' := [(h0, .inr (4, fs)), (af, .inl (cI, 7, .inl (sp_fd F 0))), (ab, .inl (cI, 4, .inl B)), (as_, .inl (cI, 4, .inl S)), (ac, .inl (cJ, 160, .inr (.inl C)))]) (hz_pt_eq 5 [2, 3, 4] [(ab, .inl (cI, 4, .inl B)), (as_, .inl (cI, 4, .inl S)), (ac, .inl (cJ, 160, .inr (.inl C)))] rfl rfl rfl rfl rfl rfl rfl) [0, 1] rfl 0 rfl rfl rfl rfl hl.1 rfl (Nat.le_of_ble_eq_true rfl) dX4_write_41 ⟨Nat.zero_le _, Nat.zero_le _⟩ (fun H locs hP hD hS => ?_)
      refine W.eq (g2 := F0 m 44 ls [.int ((-1000000001))]) rfl ?_
      refine lv_i2l (v := ((-1000000001)).toInt64) hx hb dX4_write_44 rfl ?_
      refine hz_el hx hb hr hlocks ?_ hS (by rw [show fd_write B S y i = some 0 from (if_pos hy4).trans ((if_neg (by rw [hcj]; exact hb0)).trans (if_neg (by rw [hcj]; exact fun h => c26 ((hz_rin _ (by omega)).mpr h))))]; rfl) dX4_write_45
      rw [show fd_write B S y i = some 0 from (if_pos hy4).trans ((if_neg (by rw [hcj]; exact hb0)).trans (if_neg (by rw [hcj]; exact fun h => c26 ((hz_rin _ (by omega)).mpr h))))]
      exact hP
