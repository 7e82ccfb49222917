set_option maxHeartbeats 4000000 in
set_option maxRecDepth 100000 in
theorem c0_hasDelegate (l : Launch) (D : va_G) (cI cJ : ClassId) (a0 k_ p_ t_ h_ w_ b_ g_ i_ f_ : Nat) (M : Nat → Int32) (x : Int32) (hM1 : M 1 = nI (nD M)) (hD8 : nD M ≤ 8) : hz_MP l yX0_hasDelegate wsX0_hasDelegate { frames := 0, cells := 0, slots := 0, locals := 0 } [.ref a0, .int (x)] D zcl [(cI, .int), (cJ, .long)] [(a0, .inr (0, [.int (M 0), .int (M 1), .ref k_, .ref p_, .ref t_, .ref h_, .ref w_, .int (M 2), .ref b_, .ref g_, .ref i_, .ref f_]))] (.int (hz_b (hz_in x (nD M)))) := by
  refine hz_mp (cc := cX0_hasDelegate) (maxL := 2) (ret := (some .boolean)) (by decide) rfl (Nat.le_of_ble_eq_true rfl) ?_
  intro p e s m below meth c hx hb hr hts hown hlocks hml hP hK ls hl
  have hown : s.vm.findClass RX0 = some m.cls := hown
  have hl : lv_has ls 2 [(0, .ref a0), (1, .int (x))] := hl
  have hinX0 : ∀ w ∈ u_ws RX0 TX0 12, w ∈ wsX0_hasDelegate := fun w h => List.mem_cons_of_mem _ (List.mem_append_right _ (h))
  have wd1 := hts (.fieldLink RX0 39 "HurtSpeech$Congress" "delegates" "I") (List.mem_of_getElem? (i := 1) rfl)
  refine lv_iload_n hx hb dX0_hasDelegate_0 rfl (lv_at hl 1 rfl) ?_
  refine lv_if_lt (tgt := 16) hx hb dX0_hasDelegate_1 (by decide) (fun c1 => ?_) (fun c1 => ?_)
  · refine lv_iconst (v := nI 0) hx hb dX0_hasDelegate_16 (by decide) ?_
    exact hz_ri hx hb hr hlocks rfl (by first | exact (hz_bt ((hz_rin2 x (by omega)).mp ⟨Int32.not_lt.mp c1, Int32.not_le.mp c9⟩)).symm | exact (hz_bf (fun h => absurd c9 (Int32.not_le.mpr ((hz_rin2 x (by omega)).mpr h).2))).symm | exact (hz_bf (fun h => absurd c1 (Int32.not_lt.mpr ((hz_rin2 x (by omega)).mpr h).1))).symm) dX0_hasDelegate_17
  · refine lv_iload_n hx hb dX0_hasDelegate_4 rfl (lv_at hl 1 rfl) ?_
    refine lv_aload_n hx hb dX0_hasDelegate_5 rfl (lv_at hl 0 rfl) ?_
    refine va_get hx hb hts hinX0 hown hK hP 0 rfl rfl 1 (by decide) wd1 (fun _ h => h) rfl dX0_hasDelegate_6 ?_
    refine hz_ct (y := nI (nD M)) hM1 ?_
    refine lv_icmp_ge (tgt := 16) hx hb dX0_hasDelegate_9 (by decide) (fun c9 => ?_) (fun c9 => ?_)
    · refine lv_iconst (v := nI 0) hx hb dX0_hasDelegate_16 (by decide) ?_
      exact hz_ri hx hb hr hlocks rfl (by first | exact (hz_bt ((hz_rin2 x (by omega)).mp ⟨Int32.not_lt.mp c1, Int32.not_le.mp c9⟩)).symm | exact (hz_bf (fun h => absurd c9 (Int32.not_le.mpr ((hz_rin2 x (by omega)).mpr h).2))).symm | exact (hz_bf (fun h => absurd c1 (Int32.not_lt.mpr ((hz_rin2 x (by omega)).mpr h).1))).symm) dX0_hasDelegate_17
    · refine lv_iconst (v := nI 1) hx hb dX0_hasDelegate_12 (by decide) ?_
      refine lv_goto (tgt := 17) hx hb dX0_hasDelegate_13 (by decide) ?_
      exact hz_ri hx hb hr hlocks rfl (by first | exact (hz_bt ((hz_rin2 x (by omega)).mp ⟨Int32.not_lt.mp c1, Int32.not_le.mp c9⟩)).symm | exact (hz_bf (fun h => absurd c9 (Int32.not_le.mpr ((hz_rin2 x (by omega)).mpr h).2))).symm | exact (hz_bf (fun h => absurd c1 (Int32.not_lt.mpr ((hz_rin2 x (by omega)).mpr h).1))).symm) dX0_hasDelegate_17
set_option maxHeartbeats 4000000 in
set_option maxRecDepth 100000 in
theorem c0_hasSpeech (l : Launch) (D : va_G) (cI cJ : ClassId) (a0 k_ p_ t_ h_ w_ b_ g_ i_ f_ : Nat) (M : Nat → Int32) (x : Int32) (hM2 : M 2 = nI (nS M)) (hS8 : nS M ≤ 8) : hz_MP l yX0_hasSpeech wsX0_hasSpeech { frames := 0, cells := 0, slots := 0, locals := 0 } [.ref a0, .int (x)] D zcl [(cI, .int), (cJ, .long)] [(a0, .inr (0, [.int (M 0), .int (M 1), .ref k_, .ref p_, .ref t_, .ref h_, .ref w_, .int (M 2), .ref b_, .ref g_, .ref i_, .ref f_]))] (.int (hz_b (hz_in x (nS M)))) := by
  refine hz_mp (cc := cX0_hasSpeech) (maxL := 2) (ret := (some .boolean)) (by decide) rfl (Nat.le_of_ble_eq_true rfl) ?_
  intro p e s m below meth c hx hb hr hts hown hlocks hml hP hK ls hl
  have hown : s.vm.findClass RX0 = some m.cls := hown
  have hl : lv_has ls 2 [(0, .ref a0), (1, .int (x))] := hl
  have hinX0 : ∀ w ∈ u_ws RX0 TX0 12, w ∈ wsX0_hasSpeech := fun w h => List.mem_cons_of_mem _ (List.mem_append_right _ (h))
  have wd1 := hts (.fieldLink RX0 43 "HurtSpeech$Congress" "speeches" "I") (List.mem_of_getElem? (i := 1) rfl)
  refine lv_iload_n hx hb dX0_hasSpeech_0 rfl (lv_at hl 1 rfl) ?_
  refine lv_if_lt (tgt := 16) hx hb dX0_hasSpeech_1 (by decide) (fun c1 => ?_) (fun c1 => ?_)
  · refine lv_iconst (v := nI 0) hx hb dX0_hasSpeech_16 (by decide) ?_
    exact hz_ri hx hb hr hlocks rfl (by first | exact (hz_bt ((hz_rin2 x (by omega)).mp ⟨Int32.not_lt.mp c1, Int32.not_le.mp c9⟩)).symm | exact (hz_bf (fun h => absurd c9 (Int32.not_le.mpr ((hz_rin2 x (by omega)).mpr h).2))).symm | exact (hz_bf (fun h => absurd c1 (Int32.not_lt.mpr ((hz_rin2 x (by omega)).mpr h).1))).symm) dX0_hasSpeech_17
  · refine lv_iload_n hx hb dX0_hasSpeech_4 rfl (lv_at hl 1 rfl) ?_
    refine lv_aload_n hx hb dX0_hasSpeech_5 rfl (lv_at hl 0 rfl) ?_
    refine va_get hx hb hts hinX0 hown hK hP 0 rfl rfl 7 (by decide) wd1 (fun _ h => h) rfl dX0_hasSpeech_6 ?_
    refine hz_ct (y := nI (nS M)) hM2 ?_
    refine lv_icmp_ge (tgt := 16) hx hb dX0_hasSpeech_9 (by decide) (fun c9 => ?_) (fun c9 => ?_)
    · refine lv_iconst (v := nI 0) hx hb dX0_hasSpeech_16 (by decide) ?_
      exact hz_ri hx hb hr hlocks rfl (by first | exact (hz_bt ((hz_rin2 x (by omega)).mp ⟨Int32.not_lt.mp c1, Int32.not_le.mp c9⟩)).symm | exact (hz_bf (fun h => absurd c9 (Int32.not_le.mpr ((hz_rin2 x (by omega)).mpr h).2))).symm | exact (hz_bf (fun h => absurd c1 (Int32.not_lt.mpr ((hz_rin2 x (by omega)).mpr h).1))).symm) dX0_hasSpeech_17
    · refine lv_iconst (v := nI 1) hx hb dX0_hasSpeech_12 (by decide) ?_
      refine lv_goto (tgt := 17) hx hb dX0_hasSpeech_13 (by decide) ?_
      exact hz_ri hx hb hr hlocks rfl (by first | exact (hz_bt ((hz_rin2 x (by omega)).mp ⟨Int32.not_lt.mp c1, Int32.not_le.mp c9⟩)).symm | exact (hz_bf (fun h => absurd c9 (Int32.not_le.mpr ((hz_rin2 x (by omega)).mpr h).2))).symm | exact (hz_bf (fun h => absurd c1 (Int32.not_lt.mpr ((hz_rin2 x (by omega)).mpr h).1))).symm) dX0_hasSpeech_17
set_option maxHeartbeats 4000000 in
set_option maxRecDepth 100000 in
theorem c0_lossOf (l : Launch) (D : va_G) (cI cJ : ClassId) (a0 k_ p_ t_ h_ w_ b_ g_ i_ f_ : Nat) (s0 d0 z0 : Int32) (M : Nat → Int32) (d z : Nat) (f : Int32) (hd : d < 8) (hs : z < 8) (hat : (-1 : Int) ≤ (M (43 + 4 * z + 2)).toInt) : hz_MP l yX0_lossOf wsX0_lossOf { frames := 1, cells := 0, slots := 0, locals := 21 } [.ref a0, .int (nI d), .int (nI z), .int (f)] D zcl [(cI, .int), (cJ, .long)] [(a0, .inr (0, [.int (s0), .int (d0), .ref k_, .ref p_, .ref t_, .ref h_, .ref w_, .int (z0), .ref b_, .ref g_, .ref i_, .ref f_])), (k_, .inl (cI, 8, .inl (fun x_ => M (3 + 5 * x_)))), (p_, .inl (cI, 8, .inl (fun x_ => M (3 + 5 * x_ + 1)))), (b_, .inl (cI, 8, .inl (fun x_ => M (43 + 4 * x_)))), (g_, .inl (cI, 8, .inl (fun x_ => M (43 + 4 * x_ + 1)))), (i_, .inl (cI, 8, .inl (fun x_ => M (43 + 4 * x_ + 2))))] (.int (sp_loses M d z f)) := by
  refine hz_mp (cc := cX0_lossOf) (maxL := 7) (ret := (some .int)) (by decide) rfl (Nat.le_of_ble_eq_true rfl) ?_
  intro p e s m below meth c hx hb hr hts hown hlocks hml hP hK ls hl
  have hown : s.vm.findClass RX0 = some m.cls := hown
  have hl : lv_has ls 7 [(0, .ref a0), (1, .int (nI d)), (2, .int (nI z)), (3, .int (f))] := hl
  have hinX0 : ∀ w ∈ u_ws RX0 TX0 12, w ∈ wsX0_lossOf := fun w h => List.mem_cons_of_mem _ (List.mem_append_right _ (h))
  have wd1 := hts (.fieldLink RX0 27 "HurtSpeech$Congress" "by" "[I") (List.mem_of_getElem? (i := 1) rfl)
  have wd2 := hts (.fieldLink RX0 33 "HurtSpeech$Congress" "at" "[I") (List.mem_of_getElem? (i := 2) rfl)
  have wd3 := hts (.fieldLink RX0 30 "HurtSpeech$Congress" "tongue" "[I") (List.mem_of_getElem? (i := 3) rfl)
  have wd4 := hts (.fieldLink RX0 11 "HurtSpeech$Congress" "kind" "[I") (List.mem_of_getElem? (i := 4) rfl)
  have wd5 := hts (.fieldLink RX0 15 "HurtSpeech$Congress" "pride" "[I") (List.mem_of_getElem? (i := 5) rfl)
  have wd6 := hts (.methodLink RX0 51 Lib.Math.max.name) (List.mem_of_getElem? (i := 6) rfl)
  have wd7 := hts (.static Lib.Math.max.name) (List.mem_of_getElem? (i := 7) rfl)
  have wd8 := hts (.initialized "java/lang/Math") (List.mem_of_getElem? (i := 8) rfl)
  have wd9 := hts (.code Lib.Math.max.name Lib.Math.max.code 2 (some .int)) (List.mem_of_getElem? (i := 9) rfl)
  refine lv_aload_n hx hb dX0_lossOf_0 rfl (lv_at hl 0 rfl) ?_
  refine va_get hx hb hts hinX0 hown hK hP 0 rfl rfl 8 (by decide) wd1 (fun _ h => h) rfl dX0_lossOf_1 ?_
  refine lv_iload_n hx hb dX0_lossOf_4 rfl (lv_at hl 2 rfl) ?_
  refine hz_iald (j := z) hx hb hK hP 3 0 rfl rfl (by omega) (Nat.le_of_ble_eq_true rfl) dX0_lossOf_5 ?_
  refine hz_ct (y := M (43 + 4 * z)) rfl ?_
  refine lv_iload_n hx hb dX0_lossOf_6 rfl (lv_at hl 1 rfl) ?_
  refine lv_icmp_eq (tgt := 20) hx hb dX0_lossOf_7 (by decide) (fun c7 => ?_) (fun c7 => ?_)
  · refine lv_iconst (v := nI 0) hx hb dX0_lossOf_20 (by decide) ?_
    exact hz_ri hx hb hr hlocks rfl (by first | exact (by rw [sp_loses, if_pos c7]) | exact (by rw [sp_loses, if_neg c7, if_neg (by rw [c17]; decide)]) | (rw [sp_loses, if_neg c7, if_pos hat0]; first | exact (k5_1 c71).symm | exact (k5_2 c71).symm | exact (k5_0 c71).symm | (rw [k5_3 c71]; first | exact (if_pos c111).symm | exact (if_neg c111).symm) | (rw [k5_4 c71]; exact hz_max0 _) | (rw [k5_5 c71]; first | exact (if_pos c148).symm | exact (if_neg c148).symm))) dX0_lossOf_21
  · refine lv_aload_n hx hb dX0_lossOf_10 rfl (lv_at hl 0 rfl) ?_
    refine va_get hx hb hts hinX0 hown hK hP 0 rfl rfl 10 (by decide) wd2 (fun _ h => h) rfl dX0_lossOf_11 ?_
    refine lv_iload_n hx hb dX0_lossOf_14 rfl (lv_at hl 2 rfl) ?_
    refine hz_iald (j := z) hx hb hK hP 5 0 rfl rfl (by omega) (Nat.le_of_ble_eq_true rfl) dX0_lossOf_15 ?_
    refine hz_ct (y := M (43 + 4 * z + 2)) rfl ?_
    refine lv_iconst (v := -1) hx hb dX0_lossOf_16 (by decide) ?_
    refine lv_icmp_ne (tgt := 22) hx hb dX0_lossOf_17 (by decide) (fun c17 => ?_) (fun c17 => ?_)
    · refine lv_aload_n hx hb dX0_lossOf_22 rfl (lv_at hl 0 rfl) ?_
      refine va_get hx hb hts hinX0 hown hK hP 0 rfl rfl 10 (by decide) wd2 (fun _ h => h) rfl dX0_lossOf_23 ?_
      refine lv_iload_n hx hb dX0_lossOf_26 rfl (lv_at hl 2 rfl) ?_
      refine hz_iald (j := z) hx hb hK hP 5 0 rfl rfl (by omega) (Nat.le_of_ble_eq_true rfl) dX0_lossOf_27 ?_
      refine hz_ct (y := M (43 + 4 * z + 2)) rfl ?_
      refine lv_iload_n hx hb dX0_lossOf_28 rfl (lv_at hl 1 rfl) ?_
      have hat0 : 0 ≤ M (43 + 4 * z + 2) := hz_at0 hat c17
      refine hz_dia (ls := ls) (sp_plain M d z f) 39 [] (fun jn39 => ?_) ?_
      · refine lv_icmp_ne (tgt := 36) hx hb dX0_lossOf_29 (by decide) (fun c29 => ?_) (fun c29 => ?_)
        · refine lv_iload_n hx hb dX0_lossOf_36 rfl (lv_at hl 3 rfl) ?_
          refine lv_iconst (v := nI 5) hx hb dX0_lossOf_37 (by decide) ?_
          refine lv_idiv hx hb dX0_lossOf_38 (by decide) ?_
          exact hz_ct (by first | exact (if_pos c29).symm | exact (if_neg c29).symm) jn39
        · refine lv_iload_n hx hb dX0_lossOf_32 rfl (lv_at hl 3 rfl) ?_
          refine lv_goto (tgt := 39) hx hb dX0_lossOf_33 (by decide) ?_
          exact hz_ct (by first | exact (if_pos c29).symm | exact (if_neg c29).symm) jn39
      · refine lv_istore (lv' := [(4, .int (sp_plain M d z f)), (0, .ref a0), (1, .int (nI d)), (2, .int (nI z)), (3, .int (f))]) hx hb dX0_lossOf_39 hl (by decide) rfl (fun ls hl => ?_)
        refine lv_aload_n hx hb dX0_lossOf_41 rfl (lv_at hl 1 rfl) ?_
        refine va_get hx hb hts hinX0 hown hK hP 0 rfl rfl 9 (by decide) wd3 (fun _ h => h) rfl dX0_lossOf_42 ?_
        refine lv_iload_n hx hb dX0_lossOf_45 rfl (lv_at hl 3 rfl) ?_
        refine hz_iald (j := z) hx hb hK hP 4 0 rfl rfl (by omega) (Nat.le_of_ble_eq_true rfl) dX0_lossOf_46 ?_
        refine hz_ct (y := M (43 + 4 * z + 1)) rfl ?_
        refine lv_iconst (v := nI 1) hx hb dX0_lossOf_47 (by decide) ?_
        refine hz_dia (ls := ls) (sp_peer M d z f) 57 [] (fun jn57 => ?_) ?_
        · refine lv_icmp_ne (tgt := 56) hx hb dX0_lossOf_48 (by decide) (fun c48 => ?_) (fun c48 => ?_)
          · refine lv_iconst (v := nI 0) hx hb dX0_lossOf_56 (by decide) ?_
            exact hz_ct (by first | exact (if_pos c48).symm | exact (if_neg c48).symm) jn57
          · refine lv_iload hx hb dX0_lossOf_51 (lv_at hl 0 rfl) ?_
            refine lv_goto (tgt := 57) hx hb dX0_lossOf_53 (by decide) ?_
            exact hz_ct (by first | exact (if_pos c48).symm | exact (if_neg c48).symm) jn57
        · refine lv_istore (lv' := [(5, .int (sp_peer M d z f)), (4, .int (sp_plain M d z f)), (0, .ref a0), (1, .int (nI d)), (2, .int (nI z)), (3, .int (f))]) hx hb dX0_lossOf_57 hl (by decide) rfl (fun ls hl => ?_)
          refine lv_iload hx hb dX0_lossOf_59 (lv_at hl 1 rfl) ?_
          refine lv_iconst (v := nI 2) hx hb dX0_lossOf_61 (by decide) ?_
          refine lv_idiv hx hb dX0_lossOf_62 (by decide) ?_
          refine lv_istore (lv' := [(6, .int ((sp_plain M d z f) / (nI 2))), (5, .int (sp_peer M d z f)), (4, .int (sp_plain M d z f)), (0, .ref a0), (1, .int (nI d)), (2, .int (nI z)), (3, .int (f))]) hx hb dX0_lossOf_63 hl (by decide) rfl (fun ls hl => ?_)
          refine lv_aload_n hx hb dX0_lossOf_65 rfl (lv_at hl 3 rfl) ?_
          refine va_get hx hb hts hinX0 hown hK hP 0 rfl rfl 2 (by decide) wd4 (fun _ h => h) rfl dX0_lossOf_66 ?_
          refine lv_iload_n hx hb dX0_lossOf_69 rfl (lv_at hl 4 rfl) ?_
          refine hz_iald (j := d) hx hb hK hP 1 0 rfl rfl (by omega) (Nat.le_of_ble_eq_true rfl) dX0_lossOf_70 ?_
          refine hz_ct (y := M (3 + 5 * d)) rfl ?_
          rcases hz_sw1_5 (M (3 + 5 * d)) with c71 | c71 | c71 | c71 | c71 | c71
          · refine lv_tableIn (tgt := 104) hx hb dX0_lossOf_71 (by rw [c71]; decide) (by rw [c71]; decide) (off := 33) (by rw [c71]; decide) (by decide) ?_
            refine lv_iload hx hb dX0_lossOf_104 (lv_at hl 1 rfl) ?_
            exact hz_ri hx hb hr hlocks rfl (by first | exact (by rw [sp_loses, if_pos c7]) | exact (by rw [sp_loses, if_neg c7, if_neg (by rw [c17]; decide)]) | (rw [sp_loses, if_neg c7, if_pos hat0]; first | exact (k5_1 c71).symm | exact (k5_2 c71).symm | exact (k5_0 c71).symm | (rw [k5_3 c71]; first | exact (if_pos c111).symm | exact (if_neg c111).symm) | (rw [k5_4 c71]; exact hz_max0 _) | (rw [k5_5 c71]; first | exact (if_pos c148).symm | exact (if_neg c148).symm))) dX0_lossOf_106
          · refine lv_tableIn (tgt := 107) hx hb dX0_lossOf_71 (by rw [c71]; decide) (by rw [c71]; decide) (off := 36) (by rw [c71]; decide) (by decide) ?_
            refine lv_iload hx hb dX0_lossOf_107 (lv_at hl 0 rfl) ?_
            exact hz_ri hx hb hr hlocks rfl (by first | exact (by rw [sp_loses, if_pos c7]) | exact (by rw [sp_loses, if_neg c7, if_neg (by rw [c17]; decide)]) | (rw [sp_loses, if_neg c7, if_pos hat0]; first | exact (k5_1 c71).symm | exact (k5_2 c71).symm | exact (k5_0 c71).symm | (rw [k5_3 c71]; first | exact (if_pos c111).symm | exact (if_neg c111).symm) | (rw [k5_4 c71]; exact hz_max0 _) | (rw [k5_5 c71]; first | exact (if_pos c148).symm | exact (if_neg c148).symm))) dX0_lossOf_109
          · refine lv_tableIn (tgt := 110) hx hb dX0_lossOf_71 (by rw [c71]; decide) (by rw [c71]; decide) (off := 39) (by rw [c71]; decide) (by decide) ?_
            refine lv_iload_n hx hb dX0_lossOf_110 rfl (lv_at hl 6 rfl) ?_
            refine lv_if_le (tgt := 126) hx hb dX0_lossOf_111 (by decide) (fun c111 => ?_) (fun c111 => ?_)
            · refine lv_iload hx hb dX0_lossOf_126 (lv_at hl 2 rfl) ?_
              exact hz_ri hx hb hr hlocks rfl (by first | exact (by rw [sp_loses, if_pos c7]) | exact (by rw [sp_loses, if_neg c7, if_neg (by rw [c17]; decide)]) | (rw [sp_loses, if_neg c7, if_pos hat0]; first | exact (k5_1 c71).symm | exact (k5_2 c71).symm | exact (k5_0 c71).symm | (rw [k5_3 c71]; first | exact (if_pos c111).symm | exact (if_neg c111).symm) | (rw [k5_4 c71]; exact hz_max0 _) | (rw [k5_5 c71]; first | exact (if_pos c148).symm | exact (if_neg c148).symm))) dX0_lossOf_128
            · refine lv_iload hx hb dX0_lossOf_114 (lv_at hl 2 rfl) ?_
              refine lv_aload_n hx hb dX0_lossOf_116 rfl (lv_at hl 3 rfl) ?_
              refine va_get hx hb hts hinX0 hown hK hP 0 rfl rfl 3 (by decide) wd5 (fun _ h => h) rfl dX0_lossOf_117 ?_
              refine lv_iload_n hx hb dX0_lossOf_120 rfl (lv_at hl 4 rfl) ?_
              refine hz_iald (j := d) hx hb hK hP 2 0 rfl rfl (by omega) (Nat.le_of_ble_eq_true rfl) dX0_lossOf_121 ?_
              refine hz_ct (y := M (3 + 5 * d + 1)) rfl ?_
              refine lv_iadd hx hb dX0_lossOf_122 ?_
              refine lv_goto (tgt := 128) hx hb dX0_lossOf_123 (by decide) ?_
              exact hz_ri hx hb hr hlocks rfl (by first | exact (by rw [sp_loses, if_pos c7]) | exact (by rw [sp_loses, if_neg c7, if_neg (by rw [c17]; decide)]) | (rw [sp_loses, if_neg c7, if_pos hat0]; first | exact (k5_1 c71).symm | exact (k5_2 c71).symm | exact (k5_0 c71).symm | (rw [k5_3 c71]; first | exact (if_pos c111).symm | exact (if_neg c111).symm) | (rw [k5_4 c71]; exact hz_max0 _) | (rw [k5_5 c71]; first | exact (if_pos c148).symm | exact (if_neg c148).symm))) dX0_lossOf_128
          · refine lv_tableIn (tgt := 129) hx hb dX0_lossOf_71 (by rw [c71]; decide) (by rw [c71]; decide) (off := 58) (by rw [c71]; decide) (by decide) ?_
            refine lv_iload hx hb dX0_lossOf_129 (lv_at hl 1 rfl) ?_
            refine lv_aload_n hx hb dX0_lossOf_131 rfl (lv_at hl 3 rfl) ?_
            refine va_get hx hb hts hinX0 hown hK hP 0 rfl rfl 3 (by decide) wd5 (fun _ h => h) rfl dX0_lossOf_132 ?_
            refine lv_iload_n hx hb dX0_lossOf_135 rfl (lv_at hl 4 rfl) ?_
            refine hz_iald (j := d) hx hb hK hP 2 0 rfl rfl (by omega) (Nat.le_of_ble_eq_true rfl) dX0_lossOf_136 ?_
            refine hz_ct (y := M (3 + 5 * d + 1)) rfl ?_
            refine lv_iconst (v := nI 2) hx hb dX0_lossOf_137 (by decide) ?_
            refine lv_idiv hx hb dX0_lossOf_138 (by decide) ?_
            refine lv_isub hx hb dX0_lossOf_139 ?_
            refine lv_iconst (v := nI 0) hx hb dX0_lossOf_140 (by decide) ?_
            refine va_mmax hx hb (hml.trans hl.1.symm) hown wd6 wd7 wd8 wd9 (Nat.le_of_ble_eq_true rfl) (Nat.le_of_ble_eq_true rfl) (Nat.zero_le _) (Nat.zero_le _) dX0_lossOf_141 ?_
            exact hz_ri hx hb hr hlocks rfl (by first | exact (by rw [sp_loses, if_pos c7]) | exact (by rw [sp_loses, if_neg c7, if_neg (by rw [c17]; decide)]) | (rw [sp_loses, if_neg c7, if_pos hat0]; first | exact (k5_1 c71).symm | exact (k5_2 c71).symm | exact (k5_0 c71).symm | (rw [k5_3 c71]; first | exact (if_pos c111).symm | exact (if_neg c111).symm) | (rw [k5_4 c71]; exact hz_max0 _) | (rw [k5_5 c71]; first | exact (if_pos c148).symm | exact (if_neg c148).symm))) dX0_lossOf_144
          · refine lv_tableIn (tgt := 145) hx hb dX0_lossOf_71 (by rw [c71]; decide) (by rw [c71]; decide) (off := 74) (by rw [c71]; decide) (by decide) ?_
            refine lv_iload_n hx hb dX0_lossOf_145 rfl (lv_at hl 6 rfl) ?_
            refine lv_bipush (v := nI 10) hx hb dX0_lossOf_146 (by decide) ?_
            refine lv_icmp_lt (tgt := 158) hx hb dX0_lossOf_148 (by decide) (fun c148 => ?_) (fun c148 => ?_)
            · refine lv_iload hx hb dX0_lossOf_158 (lv_at hl 0 rfl) ?_
              exact hz_ri hx hb hr hlocks rfl (by first | exact (by rw [sp_loses, if_pos c7]) | exact (by rw [sp_loses, if_neg c7, if_neg (by rw [c17]; decide)]) | (rw [sp_loses, if_neg c7, if_pos hat0]; first | exact (k5_1 c71).symm | exact (k5_2 c71).symm | exact (k5_0 c71).symm | (rw [k5_3 c71]; first | exact (if_pos c111).symm | exact (if_neg c111).symm) | (rw [k5_4 c71]; exact hz_max0 _) | (rw [k5_5 c71]; first | exact (if_pos c148).symm | exact (if_neg c148).symm))) dX0_lossOf_160
            · refine lv_iload hx hb dX0_lossOf_151 (lv_at hl 0 rfl) ?_
              refine lv_iconst (v := nI 1) hx hb dX0_lossOf_153 (by decide) ?_
              refine lv_iadd hx hb dX0_lossOf_154 ?_
              refine lv_goto (tgt := 160) hx hb dX0_lossOf_155 (by decide) ?_
              exact hz_ri hx hb hr hlocks rfl (by first | exact (by rw [sp_loses, if_pos c7]) | exact (by rw [sp_loses, if_neg c7, if_neg (by rw [c17]; decide)]) | (rw [sp_loses, if_neg c7, if_pos hat0]; first | exact (k5_1 c71).symm | exact (k5_2 c71).symm | exact (k5_0 c71).symm | (rw [k5_3 c71]; first | exact (if_pos c111).symm | exact (if_neg c111).symm) | (rw [k5_4 c71]; exact hz_max0 _) | (rw [k5_5 c71]; first | exact (if_pos c148).symm | exact (if_neg c148).symm))) dX0_lossOf_160
          · refine lv_tableOut (tgt := 161) hx hb dX0_lossOf_71 (by omega) (by decide) ?_
            refine lv_iload hx hb dX0_lossOf_161 (lv_at hl 2 rfl) ?_
            exact hz_ri hx hb hr hlocks rfl (by first | exact (by rw [sp_loses, if_pos c7]) | exact (by rw [sp_loses, if_neg c7, if_neg (by rw [c17]; decide)]) | (rw [sp_loses, if_neg c7, if_pos hat0]; first | exact (k5_1 c71).symm | exact (k5_2 c71).symm | exact (k5_0 c71).symm | (rw [k5_3 c71]; first | exact (if_pos c111).symm | exact (if_neg c111).symm) | (rw [k5_4 c71]; exact hz_max0 _) | (rw [k5_5 c71]; first | exact (if_pos c148).symm | exact (if_neg c148).symm))) dX0_lossOf_163
    · refine lv_iconst (v := nI 0) hx hb dX0_lossOf_20 (by decide) ?_
      exact hz_ri hx hb hr hlocks rfl (by first | exact (by rw [sp_loses, if_pos c7]) | exact (by rw [sp_loses, if_neg c7, if_neg (by rw [c17]; decide)]) | (rw [sp_loses, if_neg c7, if_pos hat0]; first | exact (k5_1 c71).symm | exact (k5_2 c71).symm | exact (k5_0 c71).symm | (rw [k5_3 c71]; first | exact (if_pos c111).symm | exact (if_neg c111).symm) | (rw [k5_4 c71]; exact hz_max0 _) | (rw [k5_5 c71]; first | exact (if_pos c148).symm | exact (if_neg c148).symm))) dX0_lossOf_21
set_option maxHeartbeats 4000000 in
set_option maxRecDepth 100000 in
theorem c0_interpreterOf (l : Launch) (D : va_G) (cI cJ : ClassId) (a0 k_ p_ t_ h_ w_ b_ g_ i_ f_ : Nat) (M : Nat → Int32) (z : Nat) (hM1 : M 1 = nI (nD M)) (hD8 : nD M ≤ 8) (hs : z < 8) (hat : (-1 : Int) ≤ (M (43 + 4 * z + 2)).toInt) : hz_MP l yX0_interpreterOf wsX0_interpreterOf { frames := 2, cells := 0, slots := 0, locals := 47 } [.ref a0, .int (nI z)] D zcl [(cI, .int), (cJ, .long)] [(a0, .inr (0, [.int (M 0), .int (M 1), .ref k_, .ref p_, .ref t_, .ref h_, .ref w_, .int (M 2), .ref b_, .ref g_, .ref i_, .ref f_])), (k_, .inl (cI, 8, .inl (fun x_ => M (3 + 5 * x_)))), (p_, .inl (cI, 8, .inl (fun x_ => M (3 + 5 * x_ + 1)))), (t_, .inl (cI, 8, .inl (fun x_ => M (3 + 5 * x_ + 2)))), (h_, .inl (cI, 8, .inl (fun x_ => M (3 + 5 * x_ + 3)))), (w_, .inl (cI, 8, .inl (fun x_ => M (3 + 5 * x_ + 4)))), (b_, .inl (cI, 8, .inl (fun x_ => M (43 + 4 * x_)))), (g_, .inl (cI, 8, .inl (fun x_ => M (43 + 4 * x_ + 1)))), (i_, .inl (cI, 8, .inl (fun x_ => M (43 + 4 * x_ + 2)))), (f_, .inl (cI, 8, .inl (fun x_ => M (43 + 4 * x_ + 3))))] (.int (hz_o (sp_who M z))) := by
  refine hz_mp (cc := cX0_interpreterOf) (maxL := 7) (ret := (some .int)) (by decide) rfl (Nat.le_of_ble_eq_true rfl) ?_
  intro p e s m below meth c hx hb hr hts hown hlocks hml hP hK ls hl
  have hown : s.vm.findClass RX0 = some m.cls := hown
  have hl : lv_has ls 7 [(0, .ref a0), (1, .int (nI z))] := hl
  have hinX0 : ∀ w ∈ u_ws RX0 TX0 12, w ∈ wsX0_interpreterOf := fun w h => List.mem_cons_of_mem _ (List.mem_append_right _ (h))
  have wd1 := hts (.fieldLink RX0 39 "HurtSpeech$Congress" "delegates" "I") (List.mem_of_getElem? (i := 1) rfl)
  have wd2 := hts (.fieldLink RX0 27 "HurtSpeech$Congress" "by" "[I") (List.mem_of_getElem? (i := 2) rfl)
  have wd3 := hts (.fieldLink RX0 18 "HurtSpeech$Congress" "tongues" "[I") (List.mem_of_getElem? (i := 3) rfl)
  have wd4 := hts (.fieldLink RX0 30 "HurtSpeech$Congress" "tongue" "[I") (List.mem_of_getElem? (i := 4) rfl)
  have wd5 := hts (.fieldLink RX0 36 "HurtSpeech$Congress" "force" "[I") (List.mem_of_getElem? (i := 5) rfl)
  refine lv_iconst (v := -1) hx hb dX0_interpreterOf_0 (by decide) ?_
  refine lv_istore_n (lv' := [(2, .int (-1)), (0, .ref a0), (1, .int (nI z))]) hx hb dX0_interpreterOf_1 rfl hl (by decide) rfl (fun ls hl => ?_)
  refine lv_iconst (v := nI 0) hx hb dX0_interpreterOf_2 (by decide) ?_
  refine lv_istore_n (lv' := [(3, .int (nI 0)), (2, .int (-1)), (0, .ref a0), (1, .int (nI z))]) hx hb dX0_interpreterOf_3 rfl hl (by decide) rfl (fun ls hl => ?_)
  refine lv_iconst (v := nI 0) hx hb dX0_interpreterOf_4 (by decide) ?_
  refine lv_istore (lv' := [(4, .int (nI 0)), (3, .int (nI 0)), (2, .int (-1)), (0, .ref a0), (1, .int (nI z))]) hx hb dX0_interpreterOf_5 hl (by decide) rfl (fun ls hl => ?_)
  have loop : ∀ (nn : Nat) (d : Nat) (ls : Array Slot), nD M - d < nn → (d ≤ nD M) → lv_has ls 7 [(4, .int (nI d)), (3, .int ((sp_it M z d).2)), (2, .int (hz_o (sp_it M z d).1)), (0, .ref a0), (1, .int (nI z))] → W p l e (headSpec wsX0_interpreterOf { frames := 2, cells := 0, slots := 0, locals := 47 }).room s m ([.ref a0, .int (nI z)] : List Value).toArray below meth c s.heap [] 0 0 (MQ below (hz_V (.int (hz_o (sp_who M z)))) ([.ref a0, .int (nI z)] : List Value).toArray s 0 0 (fun _ => False)) (F0 m 7 ls []) := by
    intro nn
    induction nn with
    | zero => intro d ls hnn hdn hl; exact absurd hnn (Nat.not_lt_zero _)
    | succ nn ihloop =>
      intro d ls hnn hdn hl
      refine lv_iload hx hb dX0_interpreterOf_7 (lv_at hl 0 rfl) ?_
      refine lv_aload_n hx hb dX0_interpreterOf_9 rfl (lv_at hl 3 rfl) ?_
      refine va_get hx hb hts hinX0 hown hK hP 0 rfl rfl 1 (by decide) wd1 (fun _ h => h) rfl dX0_interpreterOf_10 ?_
      refine hz_ct (y := nI (nD M)) hM1 ?_
      refine hz_icmp_ge (tgt := 96) (by omega) (by omega) hx hb dX0_interpreterOf_13 (by decide) (fun c13 => ?_) (fun c13 => ?_)
      · refine lv_iload_n hx hb dX0_interpreterOf_96 rfl (lv_at hl 2 rfl) ?_
        exact hz_ri hx hb hr hlocks rfl (by rw [show d = nD M by omega]) dX0_interpreterOf_97
      · refine lv_iload hx hb dX0_interpreterOf_16 (lv_at hl 0 rfl) ?_
        refine lv_aload_n hx hb dX0_interpreterOf_18 rfl (lv_at hl 3 rfl) ?_
        refine va_get hx hb hts hinX0 hown hK hP 0 rfl rfl 8 (by decide) wd2 (fun _ h => h) rfl dX0_interpreterOf_19 ?_
        refine lv_iload_n hx hb dX0_interpreterOf_22 rfl (lv_at hl 4 rfl) ?_
        refine hz_iald (j := z) hx hb hK hP 6 0 rfl rfl (by omega) (Nat.le_of_ble_eq_true rfl) dX0_interpreterOf_23 ?_
        refine hz_ct (y := M (43 + 4 * z)) rfl ?_
        refine hz_dia (ls := ls) (hz_b (¬ nI d = M (43 + 4 * z) ∧ (M (3 + 5 * d + 2) >>> (M (43 + 4 * z + 1) &&& 31)) &&& nI 1 = nI 1)) 52 [] (fun jn52 => ?_) ?_
        · refine lv_icmp_eq (tgt := 51) hx hb dX0_interpreterOf_24 (by decide) (fun c24 => ?_) (fun c24 => ?_)
          · refine lv_iconst (v := nI 0) hx hb dX0_interpreterOf_51 (by decide) ?_
            exact hz_ct (by first | exact (hz_bt ⟨c24, c44⟩).symm | exact (hz_bf (fun h => c44 h.2)).symm | exact (hz_bf (fun h => h.1 c24)).symm) jn52
          · refine lv_aload_n hx hb dX0_interpreterOf_27 rfl (lv_at hl 3 rfl) ?_
            refine va_get hx hb hts hinX0 hown hK hP 0 rfl rfl 4 (by decide) wd3 (fun _ h => h) rfl dX0_interpreterOf_28 ?_
            refine lv_iload hx hb dX0_interpreterOf_31 (lv_at hl 0 rfl) ?_
            refine hz_iald (j := d) hx hb hK hP 3 0 rfl rfl (by omega) (Nat.le_of_ble_eq_true rfl) dX0_interpreterOf_33 ?_
            refine hz_ct (y := M (3 + 5 * d + 2)) rfl ?_
            refine lv_aload_n hx hb dX0_interpreterOf_34 rfl (lv_at hl 3 rfl) ?_
            refine va_get hx hb hts hinX0 hown hK hP 0 rfl rfl 9 (by decide) wd4 (fun _ h => h) rfl dX0_interpreterOf_35 ?_
            refine lv_iload_n hx hb dX0_interpreterOf_38 rfl (lv_at hl 4 rfl) ?_
            refine hz_iald (j := z) hx hb hK hP 7 0 rfl rfl (by omega) (Nat.le_of_ble_eq_true rfl) dX0_interpreterOf_39 ?_
            refine hz_ct (y := M (43 + 4 * z + 1)) rfl ?_
            refine lv_ishr hx hb dX0_interpreterOf_40 ?_
            refine lv_iconst (v := nI 1) hx hb dX0_interpreterOf_41 (by decide) ?_
            refine lv_iand hx hb dX0_interpreterOf_42 ?_
            refine lv_iconst (v := nI 1) hx hb dX0_interpreterOf_43 (by decide) ?_
            refine lv_icmp_ne (tgt := 51) hx hb dX0_interpreterOf_44 (by decide) (fun c44 => ?_) (fun c44 => ?_)
            · refine lv_iconst (v := nI 0) hx hb dX0_interpreterOf_51 (by decide) ?_
              exact hz_ct (by first | exact (hz_bt ⟨c24, c44⟩).symm | exact (hz_bf (fun h => c44 h.2)).symm | exact (hz_bf (fun h => h.1 c24)).symm) jn52
            · refine lv_iconst (v := nI 1) hx hb dX0_interpreterOf_47 (by decide) ?_
              refine lv_goto (tgt := 52) hx hb dX0_interpreterOf_48 (by decide) ?_
              exact hz_ct (by first | exact (hz_bt ⟨c24, c44⟩).symm | exact (hz_bf (fun h => c44 h.2)).symm | exact (hz_bf (fun h => h.1 c24)).symm) jn52
        · refine lv_istore (lv' := [(5, .int (hz_b (¬ nI d = M (43 + 4 * z) ∧ (M (3 + 5 * d + 2) >>> (M (43 + 4 * z + 1) &&& 31)) &&& nI 1 = nI 1))), (4, .int (nI d)), (3, .int ((sp_it M z d).2)), (2, .int (hz_o (sp_it M z d).1)), (0, .ref a0), (1, .int (nI z))]) hx hb dX0_interpreterOf_52 hl (by decide) rfl (fun ls hl => ?_)
          refine lv_iload hx hb dX0_interpreterOf_54 (lv_at hl 0 rfl) ?_
          refine hz_dia (ls := ls) (sp_l M z d) 76 [] (fun jn76 => ?_) ?_
          · refine hz_ifb_eq (tgt := 75) hx hb dX0_interpreterOf_56 (by decide) (fun c56 => ?_) (fun c56 => ?_)
            · refine lv_iconst (v := nI 0) hx hb dX0_interpreterOf_75 (by decide) ?_
              exact hz_ct (by first | exact (if_pos c56.2).symm | exact sp_l_no c56) jn76
            · refine lv_aload_n hx hb dX0_interpreterOf_59 rfl (lv_at hl 4 rfl) ?_
              refine lv_iload hx hb dX0_interpreterOf_60 (lv_at hl 1 rfl) ?_
              refine lv_iload_n hx hb dX0_interpreterOf_62 rfl (lv_at hl 5 rfl) ?_
              refine lv_aload_n hx hb dX0_interpreterOf_63 rfl (lv_at hl 4 rfl) ?_
              refine va_get hx hb hts hinX0 hown hK hP 0 rfl rfl 11 (by decide) wd5 (fun _ h => h) rfl dX0_interpreterOf_64 ?_
              refine lv_iload_n hx hb dX0_interpreterOf_67 rfl (lv_at hl 5 rfl) ?_
              refine hz_iald (j := z) hx hb hK hP 9 0 rfl rfl (by omega) (Nat.le_of_ble_eq_true rfl) dX0_interpreterOf_68 ?_
              refine hz_ct (y := M (43 + 4 * z + 3)) rfl ?_
              refine hz_cv (As := [.int (nI d), .int (nI z), .int (M (43 + 4 * z + 3))]) (rest := []) ⟨hx, hb, hml, hown, hts⟩ (c0_lossOf l D cI cJ (a0 := a0) (k_ := k_) (p_ := p_) (t_ := t_) (h_ := h_) (w_ := w_) (b_ := b_) (g_ := g_) (i_ := i_) (f_ := f_) (s0 := M 0) (d0 := M 1) (z0 := M 2) (M := M) (d := d) (z := z) (f := M (43 + 4 * z + 3)) (hd := by omega) (hs := by omega) (hat := by first | assumption | rfl)) (cwV 3 hts gX0_interpreterOf_X0_lossOf rfl rfl rfl (by decide +kernel) ⟨Nat.le_of_ble_eq_true rfl, Nat.le_of_ble_eq_true rfl⟩) hK hP [0, 1, 2, 6, 7, 8] rfl [0, 1] rfl 0 rfl rfl rfl rfl hl.1 rfl (Nat.le_of_ble_eq_true rfl) dX0_interpreterOf_69 ⟨Nat.zero_le _, Nat.zero_le _⟩ ?_
              refine lv_goto (tgt := 76) hx hb dX0_interpreterOf_72 (by decide) ?_
              exact hz_ct (by first | exact (if_pos c56.2).symm | exact sp_l_no c56) jn76
          · refine lv_istore (lv' := [(6, .int (sp_l M z d)), (5, .int (hz_b (¬ nI d = M (43 + 4 * z) ∧ (M (3 + 5 * d + 2) >>> (M (43 + 4 * z + 1) &&& 31)) &&& nI 1 = nI 1))), (4, .int (nI d)), (3, .int ((sp_it M z d).2)), (2, .int (hz_o (sp_it M z d).1)), (0, .ref a0), (1, .int (nI z))]) hx hb dX0_interpreterOf_76 hl (by decide) rfl (fun ls hl => ?_)
            refine lv_iload hx hb dX0_interpreterOf_78 (lv_at hl 0 rfl) ?_
            refine lv_iload_n hx hb dX0_interpreterOf_80 rfl (lv_at hl 3 rfl) ?_
            refine lv_icmp_le (tgt := 90) hx hb dX0_interpreterOf_81 (by decide) (fun c81 => ?_) (fun c81 => ?_)
            · refine lv_iinc (v := nI (d + 1)) (lv' := [(4, .int (nI (d + 1))), (6, .int (sp_l M z d)), (5, .int (hz_b (¬ nI d = M (43 + 4 * z) ∧ (M (3 + 5 * d + 2) >>> (M (43 + 4 * z + 1) &&& 31)) &&& nI 1 = nI 1))), (3, .int ((sp_it M z d).2)), (2, .int (hz_o (sp_it M z d).1)), (0, .ref a0), (1, .int (nI z))]) hx hb dX0_interpreterOf_90 hl (k := 2) rfl (nI_1 _) (by decide) rfl (fun ls hl => ?_)
              refine lv_goto (tgt := 7) hx hb dX0_interpreterOf_93 (by decide) ?_
              exact ihloop (d + 1) ls (by omega) (by omega) (by first | (rw [sp_it_no (Int32.not_lt.mpr c81)]; exact lv_sub hl [0, 3, 4, 5, 6] rfl) | (rw [sp_it_yes (Int32.not_le.mp c81)]; exact lv_sub hl [0, 3, 4, 5, 6] rfl))
            · refine lv_iload hx hb dX0_interpreterOf_84 (lv_at hl 0 rfl) ?_
              refine lv_istore_n (lv' := [(3, .int (sp_l M z d)), (6, .int (sp_l M z d)), (5, .int (hz_b (¬ nI d = M (43 + 4 * z) ∧ (M (3 + 5 * d + 2) >>> (M (43 + 4 * z + 1) &&& 31)) &&& nI 1 = nI 1))), (4, .int (nI d)), (2, .int (hz_o (sp_it M z d).1)), (0, .ref a0), (1, .int (nI z))]) hx hb dX0_interpreterOf_86 rfl hl (by decide) rfl (fun ls hl => ?_)
              refine lv_iload hx hb dX0_interpreterOf_87 (lv_at hl 3 rfl) ?_
              refine lv_istore_n (lv' := [(2, .int (nI d)), (3, .int (sp_l M z d)), (6, .int (sp_l M z d)), (5, .int (hz_b (¬ nI d = M (43 + 4 * z) ∧ (M (3 + 5 * d + 2) >>> (M (43 + 4 * z + 1) &&& 31)) &&& nI 1 = nI 1))), (4, .int (nI d)), (0, .ref a0), (1, .int (nI z))]) hx hb dX0_interpreterOf_89 rfl hl (by decide) rfl (fun ls hl => ?_)
              refine lv_iinc (v := nI (d + 1)) (lv' := [(4, .int (nI (d + 1))), (2, .int (nI d)), (3, .int (sp_l M z d)), (6, .int (sp_l M z d)), (5, .int (hz_b (¬ nI d = M (43 + 4 * z) ∧ (M (3 + 5 * d + 2) >>> (M (43 + 4 * z + 1) &&& 31)) &&& nI 1 = nI 1))), (0, .ref a0), (1, .int (nI z))]) hx hb dX0_interpreterOf_90 hl (k := 4) rfl (nI_1 _) (by decide) rfl (fun ls hl => ?_)
              refine lv_goto (tgt := 7) hx hb dX0_interpreterOf_93 (by decide) ?_
              exact ihloop (d + 1) ls (by omega) (by omega) (by first | (rw [sp_it_no (Int32.not_lt.mpr c81)]; exact lv_sub hl [0, 2, 1, 5, 6] rfl) | (rw [sp_it_yes (Int32.not_le.mp c81)]; exact lv_sub hl [0, 2, 1, 5, 6] rfl))
  exact loop _ 0 ls (Nat.lt_succ_self _) (by omega) (lv_sub hl [0, 1, 2, 3, 4] rfl)
set_option maxHeartbeats 4000000 in
set_option maxRecDepth 100000 in
theorem c0_renderedBy (l : Launch) (D : va_G) (cI cJ : ClassId) (a0 k_ p_ t_ h_ w_ b_ g_ i_ f_ : Nat) (s0 d0 z0 : Int32) (M : Nat → Int32) (d : Nat) (f : Int32) (hd : d < 8) (hf : hz_r f 0 99) (hq : hz_r (M (3 + 5 * d + 1)) 0 20) : hz_MP l yX0_renderedBy wsX0_renderedBy { frames := 1, cells := 0, slots := 0, locals := 21 } [.ref a0, .int (nI d), .int (f)] D zcl [(cI, .int), (cJ, .long)] [(a0, .inr (0, [.int (s0), .int (d0), .ref k_, .ref p_, .ref t_, .ref h_, .ref w_, .int (z0), .ref b_, .ref g_, .ref i_, .ref f_])), (k_, .inl (cI, 8, .inl (fun x_ => M (3 + 5 * x_)))), (p_, .inl (cI, 8, .inl (fun x_ => M (3 + 5 * x_ + 1))))] (.int (sp_rend M d f)) := by
  refine hz_mp (cc := cX0_renderedBy) (maxL := 5) (ret := (some .int)) (by decide) rfl (Nat.le_of_ble_eq_true rfl) ?_
  intro p e s m below meth c hx hb hr hts hown hlocks hml hP hK ls hl
  have hown : s.vm.findClass RX0 = some m.cls := hown
  have hl : lv_has ls 5 [(0, .ref a0), (1, .int (nI d)), (2, .int (f))] := hl
  have hinX0 : ∀ w ∈ u_ws RX0 TX0 12, w ∈ wsX0_renderedBy := fun w h => List.mem_cons_of_mem _ (List.mem_append_right _ (h))
  have wd1 := hts (.fieldLink RX0 15 "HurtSpeech$Congress" "pride" "[I") (List.mem_of_getElem? (i := 1) rfl)
  have wd2 := hts (.methodLink RX0 51 Lib.Math.max.name) (List.mem_of_getElem? (i := 2) rfl)
  have wd3 := hts (.static Lib.Math.max.name) (List.mem_of_getElem? (i := 3) rfl)
  have wd4 := hts (.initialized "java/lang/Math") (List.mem_of_getElem? (i := 4) rfl)
  have wd5 := hts (.code Lib.Math.max.name Lib.Math.max.code 2 (some .int)) (List.mem_of_getElem? (i := 5) rfl)
  have wd6 := hts (.fieldLink RX0 11 "HurtSpeech$Congress" "kind" "[I") (List.mem_of_getElem? (i := 6) rfl)
  have wd7 := hts (.methodLink RX0 61 Lib.Math.min.name) (List.mem_of_getElem? (i := 7) rfl)
  have wd8 := hts (.static Lib.Math.min.name) (List.mem_of_getElem? (i := 8) rfl)
  have wd9 := hts (.code Lib.Math.min.name Lib.Math.min.code 2 (some .int)) (List.mem_of_getElem? (i := 9) rfl)
  refine lv_iload_n hx hb dX0_renderedBy_0 rfl (lv_at hl 2 rfl) ?_
  refine lv_aload_n hx hb dX0_renderedBy_1 rfl (lv_at hl 0 rfl) ?_
  refine va_get hx hb hts hinX0 hown hK hP 0 rfl rfl 3 (by decide) wd1 (fun _ h => h) rfl dX0_renderedBy_2 ?_
  refine lv_iload_n hx hb dX0_renderedBy_5 rfl (lv_at hl 1 rfl) ?_
  refine hz_iald (j := d) hx hb hK hP 2 0 rfl rfl (by omega) (Nat.le_of_ble_eq_true rfl) dX0_renderedBy_6 ?_
  refine hz_ct (y := M (3 + 5 * d + 1)) rfl ?_
  refine lv_isub hx hb dX0_renderedBy_7 ?_
  refine lv_iconst (v := nI 0) hx hb dX0_renderedBy_8 (by decide) ?_
  refine va_mmax hx hb (hml.trans hl.1.symm) hown wd2 wd3 wd4 wd5 (Nat.le_of_ble_eq_true rfl) (Nat.le_of_ble_eq_true rfl) (Nat.zero_le _) (Nat.zero_le _) dX0_renderedBy_9 ?_
  refine hz_ct (y := sp_rpl M d f) (hz_rpl hf hq) ?_
  refine lv_istore_n (lv' := [(3, .int (sp_rpl M d f)), (0, .ref a0), (1, .int (nI d)), (2, .int (f))]) hx hb dX0_renderedBy_12 rfl hl (by decide) rfl (fun ls hl => ?_)
  refine lv_iload_n hx hb dX0_renderedBy_13 rfl (lv_at hl 3 rfl) ?_
  refine lv_iconst (v := nI 2) hx hb dX0_renderedBy_14 (by decide) ?_
  refine lv_idiv hx hb dX0_renderedBy_15 (by decide) ?_
  refine lv_istore (lv' := [(4, .int (f / (nI 2))), (3, .int (sp_rpl M d f)), (0, .ref a0), (1, .int (nI d)), (2, .int (f))]) hx hb dX0_renderedBy_16 hl (by decide) rfl (fun ls hl => ?_)
  refine lv_aload_n hx hb dX0_renderedBy_18 rfl (lv_at hl 2 rfl) ?_
  refine va_get hx hb hts hinX0 hown hK hP 0 rfl rfl 2 (by decide) wd6 (fun _ h => h) rfl dX0_renderedBy_19 ?_
  refine lv_iload_n hx hb dX0_renderedBy_22 rfl (lv_at hl 3 rfl) ?_
  refine hz_iald (j := d) hx hb hK hP 1 0 rfl rfl (by omega) (Nat.le_of_ble_eq_true rfl) dX0_renderedBy_23 ?_
  refine hz_ct (y := M (3 + 5 * d)) rfl ?_
  rcases hz_sw1_5 (M (3 + 5 * d)) with c24 | c24 | c24 | c24 | c24 | c24
  · refine lv_tableIn (tgt := 60) hx hb dX0_renderedBy_24 (by rw [c24]; decide) (by rw [c24]; decide) (off := 36) (by rw [c24]; decide) (by decide) ?_
    refine lv_iload hx hb dX0_renderedBy_60 (lv_at hl 0 rfl) ?_
    exact hz_ri hx hb hr hlocks rfl (by rw [sp_rend]; first | exact (k5_1 c24).symm | exact (k5_2 c24).symm | (rw [k5_3 c24]; exact hz_twice (sp_rpl_r hf hq)) | exact (k5_4 c24).symm | (rw [k5_5 c24]; exact hz_less1 hf) | exact (k5_0 c24).symm) dX0_renderedBy_62
  · refine lv_tableIn (tgt := 63) hx hb dX0_renderedBy_24 (by rw [c24]; decide) (by rw [c24]; decide) (off := 39) (by rw [c24]; decide) (by decide) ?_
    refine lv_iload_n hx hb dX0_renderedBy_63 rfl (lv_at hl 4 rfl) ?_
    exact hz_ri hx hb hr hlocks rfl (by rw [sp_rend]; first | exact (k5_1 c24).symm | exact (k5_2 c24).symm | (rw [k5_3 c24]; exact hz_twice (sp_rpl_r hf hq)) | exact (k5_4 c24).symm | (rw [k5_5 c24]; exact hz_less1 hf) | exact (k5_0 c24).symm) dX0_renderedBy_64
  · refine lv_tableIn (tgt := 65) hx hb dX0_renderedBy_24 (by rw [c24]; decide) (by rw [c24]; decide) (off := 41) (by rw [c24]; decide) (by decide) ?_
    refine lv_iconst (v := nI 2) hx hb dX0_renderedBy_65 (by decide) ?_
    refine lv_iload_n hx hb dX0_renderedBy_66 rfl (lv_at hl 1 rfl) ?_
    refine lv_imul hx hb dX0_renderedBy_67 ?_
    refine lv_bipush (v := nI 99) hx hb dX0_renderedBy_68 (by decide) ?_
    refine va_mmin hx hb (hml.trans hl.1.symm) hown wd7 wd8 wd4 wd9 (Nat.le_of_ble_eq_true rfl) (Nat.le_of_ble_eq_true rfl) (Nat.zero_le _) (Nat.zero_le _) dX0_renderedBy_70 ?_
    exact hz_ri hx hb hr hlocks rfl (by rw [sp_rend]; first | exact (k5_1 c24).symm | exact (k5_2 c24).symm | (rw [k5_3 c24]; exact hz_twice (sp_rpl_r hf hq)) | exact (k5_4 c24).symm | (rw [k5_5 c24]; exact hz_less1 hf) | exact (k5_0 c24).symm) dX0_renderedBy_73
  · refine lv_tableIn (tgt := 74) hx hb dX0_renderedBy_24 (by rw [c24]; decide) (by rw [c24]; decide) (off := 50) (by rw [c24]; decide) (by decide) ?_
    refine lv_iload hx hb dX0_renderedBy_74 (lv_at hl 0 rfl) ?_
    refine lv_aload_n hx hb dX0_renderedBy_76 rfl (lv_at hl 2 rfl) ?_
    refine va_get hx hb hts hinX0 hown hK hP 0 rfl rfl 3 (by decide) wd1 (fun _ h => h) rfl dX0_renderedBy_77 ?_
    refine lv_iload_n hx hb dX0_renderedBy_80 rfl (lv_at hl 3 rfl) ?_
    refine hz_iald (j := d) hx hb hK hP 2 0 rfl rfl (by omega) (Nat.le_of_ble_eq_true rfl) dX0_renderedBy_81 ?_
    refine hz_ct (y := M (3 + 5 * d + 1)) rfl ?_
    refine lv_iconst (v := nI 4) hx hb dX0_renderedBy_82 (by decide) ?_
    refine lv_idiv hx hb dX0_renderedBy_83 (by decide) ?_
    refine lv_iadd hx hb dX0_renderedBy_84 ?_
    exact hz_ri hx hb hr hlocks rfl (by rw [sp_rend]; first | exact (k5_1 c24).symm | exact (k5_2 c24).symm | (rw [k5_3 c24]; exact hz_twice (sp_rpl_r hf hq)) | exact (k5_4 c24).symm | (rw [k5_5 c24]; exact hz_less1 hf) | exact (k5_0 c24).symm) dX0_renderedBy_85
  · refine lv_tableIn (tgt := 86) hx hb dX0_renderedBy_24 (by rw [c24]; decide) (by rw [c24]; decide) (off := 62) (by rw [c24]; decide) (by decide) ?_
    refine lv_iload_n hx hb dX0_renderedBy_86 rfl (lv_at hl 4 rfl) ?_
    refine lv_iconst (v := nI 1) hx hb dX0_renderedBy_87 (by decide) ?_
    refine lv_isub hx hb dX0_renderedBy_88 ?_
    refine lv_iconst (v := nI 0) hx hb dX0_renderedBy_89 (by decide) ?_
    refine va_mmax hx hb (hml.trans hl.1.symm) hown wd2 wd3 wd4 wd5 (Nat.le_of_ble_eq_true rfl) (Nat.le_of_ble_eq_true rfl) (Nat.zero_le _) (Nat.zero_le _) dX0_renderedBy_90 ?_
    exact hz_ri hx hb hr hlocks rfl (by rw [sp_rend]; first | exact (k5_1 c24).symm | exact (k5_2 c24).symm | (rw [k5_3 c24]; exact hz_twice (sp_rpl_r hf hq)) | exact (k5_4 c24).symm | (rw [k5_5 c24]; exact hz_less1 hf) | exact (k5_0 c24).symm) dX0_renderedBy_93
  · refine lv_tableOut (tgt := 94) hx hb dX0_renderedBy_24 (by omega) (by decide) ?_
    refine lv_iload_n hx hb dX0_renderedBy_94 rfl (lv_at hl 1 rfl) ?_
    exact hz_ri hx hb hr hlocks rfl (by rw [sp_rend]; first | exact (k5_1 c24).symm | exact (k5_2 c24).symm | (rw [k5_3 c24]; exact hz_twice (sp_rpl_r hf hq)) | exact (k5_4 c24).symm | (rw [k5_5 c24]; exact hz_less1 hf) | exact (k5_0 c24).symm) dX0_renderedBy_95
set_option maxHeartbeats 4000000 in
set_option maxRecDepth 100000 in
theorem c0_comesOverWith (l : Launch) (D : va_G) (cI cJ : ClassId) (a0 k_ p_ t_ h_ w_ b_ g_ i_ f_ : Nat) (M : Nat → Int32) (b z : Nat) (hI : hz_I b M) (hs : z < 8) : hz_MP l yX0_comesOverWith wsX0_comesOverWith { frames := 3, cells := 0, slots := 0, locals := 73 } [.ref a0, .int (nI z)] D zcl [(cI, .int), (cJ, .long)] [(a0, .inr (0, [.int (M 0), .int (M 1), .ref k_, .ref p_, .ref t_, .ref h_, .ref w_, .int (M 2), .ref b_, .ref g_, .ref i_, .ref f_])), (k_, .inl (cI, 8, .inl (fun x_ => M (3 + 5 * x_)))), (p_, .inl (cI, 8, .inl (fun x_ => M (3 + 5 * x_ + 1)))), (t_, .inl (cI, 8, .inl (fun x_ => M (3 + 5 * x_ + 2)))), (h_, .inl (cI, 8, .inl (fun x_ => M (3 + 5 * x_ + 3)))), (w_, .inl (cI, 8, .inl (fun x_ => M (3 + 5 * x_ + 4)))), (b_, .inl (cI, 8, .inl (fun x_ => M (43 + 4 * x_)))), (g_, .inl (cI, 8, .inl (fun x_ => M (43 + 4 * x_ + 1)))), (i_, .inl (cI, 8, .inl (fun x_ => M (43 + 4 * x_ + 2)))), (f_, .inl (cI, 8, .inl (fun x_ => M (43 + 4 * x_ + 3))))] (.int (sp_over M z)) := by
  refine hz_mp (cc := cX0_comesOverWith) (maxL := 3) (ret := (some .int)) (by decide) rfl (Nat.le_of_ble_eq_true rfl) ?_
  intro p e s m below meth c hx hb hr hts hown hlocks hml hP hK ls hl
  have hown : s.vm.findClass RX0 = some m.cls := hown
  have hl : lv_has ls 3 [(0, .ref a0), (1, .int (nI z))] := hl
  have hinX0 : ∀ w ∈ u_ws RX0 TX0 12, w ∈ wsX0_comesOverWith := fun w h => List.mem_cons_of_mem _ (List.mem_append_right _ (h))
  have wd1 := hts (.fieldLink RX0 36 "HurtSpeech$Congress" "force" "[I") (List.mem_of_getElem? (i := 1) rfl)
  obtain ⟨⟨hM0, hTb, hM1, hD8, hM2, hS8⟩, hID, hIS⟩ := id hI
  refine lv_aload_n hx hb dX0_comesOverWith_0 rfl (lv_at hl 0 rfl) ?_
  refine lv_iload_n hx hb dX0_comesOverWith_1 rfl (lv_at hl 1 rfl) ?_
  refine hz_cv (As := [.int (nI z)]) (rest := []) ⟨hx, hb, hml, hown, hts⟩ (c0_interpreterOf l D cI cJ (a0 := a0) (k_ := k_) (p_ := p_) (t_ := t_) (h_ := h_) (w_ := w_) (b_ := b_) (g_ := g_) (i_ := i_) (f_ := f_) (M := M) (z := z) (hM1 := by first | assumption | rfl) (hD8 := by first | assumption | rfl) (hs := by omega) (hat := (hIS z hs).1)) (cwV 1 hts gX0_comesOverWith_X0_interpreterOf rfl rfl rfl (by decide +kernel) ⟨Nat.le_of_ble_eq_true rfl, Nat.le_of_ble_eq_true rfl⟩) hK hP [0, 1, 2, 3, 4, 5, 6, 7, 8, 9] rfl [0, 1] rfl 0 rfl rfl rfl rfl hl.1 rfl (Nat.le_of_ble_eq_true rfl) dX0_comesOverWith_2 ⟨Nat.zero_le _, Nat.zero_le _⟩ ?_
  rcases hw : sp_who M (z) with _ | j
  · refine hz_ct (y := -1) rfl ?_
    refine lv_istore_n (lv' := [(2, .int (-1)), (0, .ref a0), (1, .int (nI z))]) hx hb dX0_comesOverWith_5 rfl hl (by decide) rfl (fun ls hl => ?_)
    refine lv_iload_n hx hb dX0_comesOverWith_6 rfl (lv_at hl 0 rfl) ?_
    refine lv_iconst (v := -1) hx hb dX0_comesOverWith_7 (by decide) ?_
    refine lv_icmp_ne (tgt := 15) hx hb dX0_comesOverWith_8 (by decide) (fun h => absurd h (by first | decide | omega | exact hz_nneg (by omega) | exact hz_nneg' (by omega))) (fun _ => ?_)
    refine lv_iconst (v := nI 0) hx hb dX0_comesOverWith_11 (by decide) ?_
    refine lv_goto (tgt := 26) hx hb dX0_comesOverWith_12 (by decide) ?_
    exact hz_ri hx hb hr hlocks rfl (by rw [sp_over, hw]) dX0_comesOverWith_26
  · have hj := sp_it_lt M (z) _ j hw
    refine hz_ct (y := nI j) rfl ?_
    refine lv_istore_n (lv' := [(2, .int (nI j)), (0, .ref a0), (1, .int (nI z))]) hx hb dX0_comesOverWith_5 rfl hl (by decide) rfl (fun ls hl => ?_)
    refine lv_iload_n hx hb dX0_comesOverWith_6 rfl (lv_at hl 0 rfl) ?_
    refine lv_iconst (v := -1) hx hb dX0_comesOverWith_7 (by decide) ?_
    refine lv_icmp_ne (tgt := 15) hx hb dX0_comesOverWith_8 (by decide) (fun _ => ?_) (fun h => absurd h (by first | decide | omega | exact hz_nneg (by omega) | exact hz_nneg' (by omega)))
    refine lv_aload_n hx hb dX0_comesOverWith_15 rfl (lv_at hl 1 rfl) ?_
    refine lv_iload_n hx hb dX0_comesOverWith_16 rfl (lv_at hl 0 rfl) ?_
    refine lv_aload_n hx hb dX0_comesOverWith_17 rfl (lv_at hl 1 rfl) ?_
    refine va_get hx hb hts hinX0 hown hK hP 0 rfl rfl 11 (by decide) wd1 (fun _ h => h) rfl dX0_comesOverWith_18 ?_
    refine lv_iload_n hx hb dX0_comesOverWith_21 rfl (lv_at hl 2 rfl) ?_
    refine hz_iald (j := z) hx hb hK hP 9 0 rfl rfl (by omega) (Nat.le_of_ble_eq_true rfl) dX0_comesOverWith_22 ?_
    refine hz_ct (y := M (43 + 4 * z + 3)) rfl ?_
    refine hz_cv (As := [.int (nI j), .int (M (43 + 4 * z + 3))]) (rest := []) ⟨hx, hb, hml, hown, hts⟩ (c0_renderedBy l D cI cJ (a0 := a0) (k_ := k_) (p_ := p_) (t_ := t_) (h_ := h_) (w_ := w_) (b_ := b_) (g_ := g_) (i_ := i_) (f_ := f_) (s0 := M 0) (d0 := M 1) (z0 := M 2) (M := M) (d := j) (f := M (43 + 4 * z + 3)) (hd := by omega) (hf := (hIS z hs).2) (hq := (hID j (by omega)).1)) (cwV 2 hts gX0_comesOverWith_X0_renderedBy rfl rfl rfl (by decide +kernel) ⟨Nat.le_of_ble_eq_true rfl, Nat.le_of_ble_eq_true rfl⟩) hK hP [0, 1, 2] rfl [0, 1] rfl 0 rfl rfl rfl rfl hl.1 rfl (Nat.le_of_ble_eq_true rfl) dX0_comesOverWith_23 ⟨Nat.zero_le _, Nat.zero_le _⟩ ?_
    exact hz_ri hx hb hr hlocks rfl (by rw [sp_over, hw]) dX0_comesOverWith_26
set_option maxHeartbeats 4000000 in
set_option maxRecDepth 100000 in
theorem c0_wouldWeep (l : Launch) (D : va_G) (cI cJ : ClassId) (a0 k_ p_ t_ h_ w_ b_ g_ i_ f_ : Nat) (M : Nat → Int32) (d0 z0 : Int32) (d : Nat) (hd : d < 8) : hz_MP l yX0_wouldWeep wsX0_wouldWeep { frames := 0, cells := 0, slots := 0, locals := 0 } [.ref a0, .int (nI d)] D zcl [(cI, .int), (cJ, .long)] [(a0, .inr (0, [.int (M 0), .int (d0), .ref k_, .ref p_, .ref t_, .ref h_, .ref w_, .int (z0), .ref b_, .ref g_, .ref i_, .ref f_])), (k_, .inl (cI, 8, .inl (fun x_ => M (3 + 5 * x_)))), (p_, .inl (cI, 8, .inl (fun x_ => M (3 + 5 * x_ + 1)))), (h_, .inl (cI, 8, .inl (fun x_ => M (3 + 5 * x_ + 3))))] (.int (sp_wk M d)) := by
  refine hz_mp (cc := cX0_wouldWeep) (maxL := 2) (ret := (some .boolean)) (by decide) rfl (Nat.le_of_ble_eq_true rfl) ?_
  intro p e s m below meth c hx hb hr hts hown hlocks hml hP hK ls hl
  have hown : s.vm.findClass RX0 = some m.cls := hown
  have hl : lv_has ls 2 [(0, .ref a0), (1, .int (nI d))] := hl
  have hinX0 : ∀ w ∈ u_ws RX0 TX0 12, w ∈ wsX0_wouldWeep := fun w h => List.mem_cons_of_mem _ (List.mem_append_right _ (h))
  have wd1 := hts (.fieldLink RX0 11 "HurtSpeech$Congress" "kind" "[I") (List.mem_of_getElem? (i := 1) rfl)
  have wd2 := hts (.fieldLink RX0 21 "HurtSpeech$Congress" "hurt" "[I") (List.mem_of_getElem? (i := 2) rfl)
  have wd3 := hts (.fieldLink RX0 15 "HurtSpeech$Congress" "pride" "[I") (List.mem_of_getElem? (i := 3) rfl)
  have wd4 := hts (.fieldLink RX0 71 "HurtSpeech$Congress" "session" "I") (List.mem_of_getElem? (i := 4) rfl)
  refine lv_aload_n hx hb dX0_wouldWeep_0 rfl (lv_at hl 0 rfl) ?_
  refine va_get hx hb hts hinX0 hown hK hP 0 rfl rfl 2 (by decide) wd1 (fun _ h => h) rfl dX0_wouldWeep_1 ?_
  refine lv_iload_n hx hb dX0_wouldWeep_4 rfl (lv_at hl 1 rfl) ?_
  refine hz_iald (j := d) hx hb hK hP 1 0 rfl rfl (by omega) (Nat.le_of_ble_eq_true rfl) dX0_wouldWeep_5 ?_
  refine hz_ct (y := M (3 + 5 * d)) rfl ?_
  rcases hz_sw1_5 (M (3 + 5 * d)) with c6 | c6 | c6 | c6 | c6 | c6
  · refine lv_tableIn (tgt := 40) hx hb dX0_wouldWeep_6 (by rw [c6]; decide) (by rw [c6]; decide) (off := 34) (by rw [c6]; decide) (by decide) ?_
    refine lv_aload_n hx hb dX0_wouldWeep_40 rfl (lv_at hl 0 rfl) ?_
    refine va_get hx hb hts hinX0 hown hK hP 0 rfl rfl 5 (by decide) wd2 (fun _ h => h) rfl dX0_wouldWeep_41 ?_
    refine lv_iload_n hx hb dX0_wouldWeep_44 rfl (lv_at hl 1 rfl) ?_
    refine hz_iald (j := d) hx hb hK hP 3 0 rfl rfl (by omega) (Nat.le_of_ble_eq_true rfl) dX0_wouldWeep_45 ?_
    refine hz_ct (y := M (3 + 5 * d + 3)) rfl ?_
    refine lv_sipush (v := nI 400) hx hb dX0_wouldWeep_46 (by decide) ?_
    refine lv_icmp_lt (tgt := 56) hx hb dX0_wouldWeep_49 (by decide) (fun c49 => ?_) (fun c49 => ?_)
    · refine lv_iconst (v := nI 0) hx hb dX0_wouldWeep_56 (by decide) ?_
      exact hz_ri hx hb hr hlocks rfl (by rw [sp_wk]; first | (rw [k5_1 c6]; first | exact (hz_bt (Int32.not_lt.mp c49)).symm | exact (hz_bf (fun h => absurd c49 (Int32.not_lt.mpr h))).symm) | exact (k5_2 c6).symm | (rw [k5_3 c6]; first | exact (hz_bt (Int32.not_lt.mp c68)).symm | exact (hz_bf (fun h => absurd c68 (Int32.not_lt.mpr h))).symm) | (rw [k5_4 c6]; first | exact (hz_bt ⟨Int32.not_lt.mp c86, Int32.not_lt.mp c97⟩).symm | exact (hz_bf (fun h => absurd c97 (Int32.not_lt.mpr h.2))).symm | exact (hz_bf (fun h => absurd c86 (Int32.not_lt.mpr h.1))).symm) | (rw [k5_5 c6]; first | exact (hz_bt c115).symm | exact (hz_bf c115).symm) | (rw [k5_0 c6]; first | exact (hz_bt (Int32.not_lt.mp c132)).symm | exact (hz_bf (fun h => absurd c132 (Int32.not_lt.mpr h))).symm)) dX0_wouldWeep_57
    · refine lv_iconst (v := nI 1) hx hb dX0_wouldWeep_52 (by decide) ?_
      refine lv_goto (tgt := 57) hx hb dX0_wouldWeep_53 (by decide) ?_
      exact hz_ri hx hb hr hlocks rfl (by rw [sp_wk]; first | (rw [k5_1 c6]; first | exact (hz_bt (Int32.not_lt.mp c49)).symm | exact (hz_bf (fun h => absurd c49 (Int32.not_lt.mpr h))).symm) | exact (k5_2 c6).symm | (rw [k5_3 c6]; first | exact (hz_bt (Int32.not_lt.mp c68)).symm | exact (hz_bf (fun h => absurd c68 (Int32.not_lt.mpr h))).symm) | (rw [k5_4 c6]; first | exact (hz_bt ⟨Int32.not_lt.mp c86, Int32.not_lt.mp c97⟩).symm | exact (hz_bf (fun h => absurd c97 (Int32.not_lt.mpr h.2))).symm | exact (hz_bf (fun h => absurd c86 (Int32.not_lt.mpr h.1))).symm) | (rw [k5_5 c6]; first | exact (hz_bt c115).symm | exact (hz_bf c115).symm) | (rw [k5_0 c6]; first | exact (hz_bt (Int32.not_lt.mp c132)).symm | exact (hz_bf (fun h => absurd c132 (Int32.not_lt.mpr h))).symm)) dX0_wouldWeep_57
  · refine lv_tableIn (tgt := 58) hx hb dX0_wouldWeep_6 (by rw [c6]; decide) (by rw [c6]; decide) (off := 52) (by rw [c6]; decide) (by decide) ?_
    refine lv_iconst (v := nI 0) hx hb dX0_wouldWeep_58 (by decide) ?_
    exact hz_ri hx hb hr hlocks rfl (by rw [sp_wk]; first | (rw [k5_1 c6]; first | exact (hz_bt (Int32.not_lt.mp c49)).symm | exact (hz_bf (fun h => absurd c49 (Int32.not_lt.mpr h))).symm) | exact (k5_2 c6).symm | (rw [k5_3 c6]; first | exact (hz_bt (Int32.not_lt.mp c68)).symm | exact (hz_bf (fun h => absurd c68 (Int32.not_lt.mpr h))).symm) | (rw [k5_4 c6]; first | exact (hz_bt ⟨Int32.not_lt.mp c86, Int32.not_lt.mp c97⟩).symm | exact (hz_bf (fun h => absurd c97 (Int32.not_lt.mpr h.2))).symm | exact (hz_bf (fun h => absurd c86 (Int32.not_lt.mpr h.1))).symm) | (rw [k5_5 c6]; first | exact (hz_bt c115).symm | exact (hz_bf c115).symm) | (rw [k5_0 c6]; first | exact (hz_bt (Int32.not_lt.mp c132)).symm | exact (hz_bf (fun h => absurd c132 (Int32.not_lt.mpr h))).symm)) dX0_wouldWeep_59
  · refine lv_tableIn (tgt := 60) hx hb dX0_wouldWeep_6 (by rw [c6]; decide) (by rw [c6]; decide) (off := 54) (by rw [c6]; decide) (by decide) ?_
    refine lv_aload_n hx hb dX0_wouldWeep_60 rfl (lv_at hl 0 rfl) ?_
    refine va_get hx hb hts hinX0 hown hK hP 0 rfl rfl 5 (by decide) wd2 (fun _ h => h) rfl dX0_wouldWeep_61 ?_
    refine lv_iload_n hx hb dX0_wouldWeep_64 rfl (lv_at hl 1 rfl) ?_
    refine hz_iald (j := d) hx hb hK hP 3 0 rfl rfl (by omega) (Nat.le_of_ble_eq_true rfl) dX0_wouldWeep_65 ?_
    refine hz_ct (y := M (3 + 5 * d + 3)) rfl ?_
    refine lv_bipush (v := nI 40) hx hb dX0_wouldWeep_66 (by decide) ?_
    refine lv_icmp_lt (tgt := 75) hx hb dX0_wouldWeep_68 (by decide) (fun c68 => ?_) (fun c68 => ?_)
    · refine lv_iconst (v := nI 0) hx hb dX0_wouldWeep_75 (by decide) ?_
      exact hz_ri hx hb hr hlocks rfl (by rw [sp_wk]; first | (rw [k5_1 c6]; first | exact (hz_bt (Int32.not_lt.mp c49)).symm | exact (hz_bf (fun h => absurd c49 (Int32.not_lt.mpr h))).symm) | exact (k5_2 c6).symm | (rw [k5_3 c6]; first | exact (hz_bt (Int32.not_lt.mp c68)).symm | exact (hz_bf (fun h => absurd c68 (Int32.not_lt.mpr h))).symm) | (rw [k5_4 c6]; first | exact (hz_bt ⟨Int32.not_lt.mp c86, Int32.not_lt.mp c97⟩).symm | exact (hz_bf (fun h => absurd c97 (Int32.not_lt.mpr h.2))).symm | exact (hz_bf (fun h => absurd c86 (Int32.not_lt.mpr h.1))).symm) | (rw [k5_5 c6]; first | exact (hz_bt c115).symm | exact (hz_bf c115).symm) | (rw [k5_0 c6]; first | exact (hz_bt (Int32.not_lt.mp c132)).symm | exact (hz_bf (fun h => absurd c132 (Int32.not_lt.mpr h))).symm)) dX0_wouldWeep_76
    · refine lv_iconst (v := nI 1) hx hb dX0_wouldWeep_71 (by decide) ?_
      refine lv_goto (tgt := 76) hx hb dX0_wouldWeep_72 (by decide) ?_
      exact hz_ri hx hb hr hlocks rfl (by rw [sp_wk]; first | (rw [k5_1 c6]; first | exact (hz_bt (Int32.not_lt.mp c49)).symm | exact (hz_bf (fun h => absurd c49 (Int32.not_lt.mpr h))).symm) | exact (k5_2 c6).symm | (rw [k5_3 c6]; first | exact (hz_bt (Int32.not_lt.mp c68)).symm | exact (hz_bf (fun h => absurd c68 (Int32.not_lt.mpr h))).symm) | (rw [k5_4 c6]; first | exact (hz_bt ⟨Int32.not_lt.mp c86, Int32.not_lt.mp c97⟩).symm | exact (hz_bf (fun h => absurd c97 (Int32.not_lt.mpr h.2))).symm | exact (hz_bf (fun h => absurd c86 (Int32.not_lt.mpr h.1))).symm) | (rw [k5_5 c6]; first | exact (hz_bt c115).symm | exact (hz_bf c115).symm) | (rw [k5_0 c6]; first | exact (hz_bt (Int32.not_lt.mp c132)).symm | exact (hz_bf (fun h => absurd c132 (Int32.not_lt.mpr h))).symm)) dX0_wouldWeep_76
  · refine lv_tableIn (tgt := 77) hx hb dX0_wouldWeep_6 (by rw [c6]; decide) (by rw [c6]; decide) (off := 71) (by rw [c6]; decide) (by decide) ?_
    refine lv_aload_n hx hb dX0_wouldWeep_77 rfl (lv_at hl 0 rfl) ?_
    refine va_get hx hb hts hinX0 hown hK hP 0 rfl rfl 5 (by decide) wd2 (fun _ h => h) rfl dX0_wouldWeep_78 ?_
    refine lv_iload_n hx hb dX0_wouldWeep_81 rfl (lv_at hl 1 rfl) ?_
    refine hz_iald (j := d) hx hb hK hP 3 0 rfl rfl (by omega) (Nat.le_of_ble_eq_true rfl) dX0_wouldWeep_82 ?_
    refine hz_ct (y := M (3 + 5 * d + 3)) rfl ?_
    refine lv_sipush (v := nI 400) hx hb dX0_wouldWeep_83 (by decide) ?_
    refine lv_icmp_lt (tgt := 104) hx hb dX0_wouldWeep_86 (by decide) (fun c86 => ?_) (fun c86 => ?_)
    · refine lv_iconst (v := nI 0) hx hb dX0_wouldWeep_104 (by decide) ?_
      exact hz_ri hx hb hr hlocks rfl (by rw [sp_wk]; first | (rw [k5_1 c6]; first | exact (hz_bt (Int32.not_lt.mp c49)).symm | exact (hz_bf (fun h => absurd c49 (Int32.not_lt.mpr h))).symm) | exact (k5_2 c6).symm | (rw [k5_3 c6]; first | exact (hz_bt (Int32.not_lt.mp c68)).symm | exact (hz_bf (fun h => absurd c68 (Int32.not_lt.mpr h))).symm) | (rw [k5_4 c6]; first | exact (hz_bt ⟨Int32.not_lt.mp c86, Int32.not_lt.mp c97⟩).symm | exact (hz_bf (fun h => absurd c97 (Int32.not_lt.mpr h.2))).symm | exact (hz_bf (fun h => absurd c86 (Int32.not_lt.mpr h.1))).symm) | (rw [k5_5 c6]; first | exact (hz_bt c115).symm | exact (hz_bf c115).symm) | (rw [k5_0 c6]; first | exact (hz_bt (Int32.not_lt.mp c132)).symm | exact (hz_bf (fun h => absurd c132 (Int32.not_lt.mpr h))).symm)) dX0_wouldWeep_105
    · refine lv_aload_n hx hb dX0_wouldWeep_89 rfl (lv_at hl 0 rfl) ?_
      refine va_get hx hb hts hinX0 hown hK hP 0 rfl rfl 3 (by decide) wd3 (fun _ h => h) rfl dX0_wouldWeep_90 ?_
      refine lv_iload_n hx hb dX0_wouldWeep_93 rfl (lv_at hl 1 rfl) ?_
      refine hz_iald (j := d) hx hb hK hP 2 0 rfl rfl (by omega) (Nat.le_of_ble_eq_true rfl) dX0_wouldWeep_94 ?_
      refine hz_ct (y := M (3 + 5 * d + 1)) rfl ?_
      refine lv_bipush (v := nI 10) hx hb dX0_wouldWeep_95 (by decide) ?_
      refine lv_icmp_gt (tgt := 104) hx hb dX0_wouldWeep_97 (by decide) (fun c97 => ?_) (fun c97 => ?_)
      · refine lv_iconst (v := nI 0) hx hb dX0_wouldWeep_104 (by decide) ?_
        exact hz_ri hx hb hr hlocks rfl (by rw [sp_wk]; first | (rw [k5_1 c6]; first | exact (hz_bt (Int32.not_lt.mp c49)).symm | exact (hz_bf (fun h => absurd c49 (Int32.not_lt.mpr h))).symm) | exact (k5_2 c6).symm | (rw [k5_3 c6]; first | exact (hz_bt (Int32.not_lt.mp c68)).symm | exact (hz_bf (fun h => absurd c68 (Int32.not_lt.mpr h))).symm) | (rw [k5_4 c6]; first | exact (hz_bt ⟨Int32.not_lt.mp c86, Int32.not_lt.mp c97⟩).symm | exact (hz_bf (fun h => absurd c97 (Int32.not_lt.mpr h.2))).symm | exact (hz_bf (fun h => absurd c86 (Int32.not_lt.mpr h.1))).symm) | (rw [k5_5 c6]; first | exact (hz_bt c115).symm | exact (hz_bf c115).symm) | (rw [k5_0 c6]; first | exact (hz_bt (Int32.not_lt.mp c132)).symm | exact (hz_bf (fun h => absurd c132 (Int32.not_lt.mpr h))).symm)) dX0_wouldWeep_105
      · refine lv_iconst (v := nI 1) hx hb dX0_wouldWeep_100 (by decide) ?_
        refine lv_goto (tgt := 105) hx hb dX0_wouldWeep_101 (by decide) ?_
        exact hz_ri hx hb hr hlocks rfl (by rw [sp_wk]; first | (rw [k5_1 c6]; first | exact (hz_bt (Int32.not_lt.mp c49)).symm | exact (hz_bf (fun h => absurd c49 (Int32.not_lt.mpr h))).symm) | exact (k5_2 c6).symm | (rw [k5_3 c6]; first | exact (hz_bt (Int32.not_lt.mp c68)).symm | exact (hz_bf (fun h => absurd c68 (Int32.not_lt.mpr h))).symm) | (rw [k5_4 c6]; first | exact (hz_bt ⟨Int32.not_lt.mp c86, Int32.not_lt.mp c97⟩).symm | exact (hz_bf (fun h => absurd c97 (Int32.not_lt.mpr h.2))).symm | exact (hz_bf (fun h => absurd c86 (Int32.not_lt.mpr h.1))).symm) | (rw [k5_5 c6]; first | exact (hz_bt c115).symm | exact (hz_bf c115).symm) | (rw [k5_0 c6]; first | exact (hz_bt (Int32.not_lt.mp c132)).symm | exact (hz_bf (fun h => absurd c132 (Int32.not_lt.mpr h))).symm)) dX0_wouldWeep_105
  · refine lv_tableIn (tgt := 106) hx hb dX0_wouldWeep_6 (by rw [c6]; decide) (by rw [c6]; decide) (off := 100) (by rw [c6]; decide) (by decide) ?_
    refine lv_aload_n hx hb dX0_wouldWeep_106 rfl (lv_at hl 0 rfl) ?_
    refine va_get hx hb hts hinX0 hown hK hP 0 rfl rfl 0 (by decide) wd4 (fun _ h => h) rfl dX0_wouldWeep_107 ?_
    refine lv_bipush (v := nI 7) hx hb dX0_wouldWeep_110 (by decide) ?_
    refine lv_irem hx hb dX0_wouldWeep_112 (by decide) ?_
    refine lv_bipush (v := nI 6) hx hb dX0_wouldWeep_113 (by decide) ?_
    refine lv_icmp_ne (tgt := 122) hx hb dX0_wouldWeep_115 (by decide) (fun c115 => ?_) (fun c115 => ?_)
    · refine lv_iconst (v := nI 0) hx hb dX0_wouldWeep_122 (by decide) ?_
      exact hz_ri hx hb hr hlocks rfl (by rw [sp_wk]; first | (rw [k5_1 c6]; first | exact (hz_bt (Int32.not_lt.mp c49)).symm | exact (hz_bf (fun h => absurd c49 (Int32.not_lt.mpr h))).symm) | exact (k5_2 c6).symm | (rw [k5_3 c6]; first | exact (hz_bt (Int32.not_lt.mp c68)).symm | exact (hz_bf (fun h => absurd c68 (Int32.not_lt.mpr h))).symm) | (rw [k5_4 c6]; first | exact (hz_bt ⟨Int32.not_lt.mp c86, Int32.not_lt.mp c97⟩).symm | exact (hz_bf (fun h => absurd c97 (Int32.not_lt.mpr h.2))).symm | exact (hz_bf (fun h => absurd c86 (Int32.not_lt.mpr h.1))).symm) | (rw [k5_5 c6]; first | exact (hz_bt c115).symm | exact (hz_bf c115).symm) | (rw [k5_0 c6]; first | exact (hz_bt (Int32.not_lt.mp c132)).symm | exact (hz_bf (fun h => absurd c132 (Int32.not_lt.mpr h))).symm)) dX0_wouldWeep_123
    · refine lv_iconst (v := nI 1) hx hb dX0_wouldWeep_118 (by decide) ?_
      refine lv_goto (tgt := 123) hx hb dX0_wouldWeep_119 (by decide) ?_
      exact hz_ri hx hb hr hlocks rfl (by rw [sp_wk]; first | (rw [k5_1 c6]; first | exact (hz_bt (Int32.not_lt.mp c49)).symm | exact (hz_bf (fun h => absurd c49 (Int32.not_lt.mpr h))).symm) | exact (k5_2 c6).symm | (rw [k5_3 c6]; first | exact (hz_bt (Int32.not_lt.mp c68)).symm | exact (hz_bf (fun h => absurd c68 (Int32.not_lt.mpr h))).symm) | (rw [k5_4 c6]; first | exact (hz_bt ⟨Int32.not_lt.mp c86, Int32.not_lt.mp c97⟩).symm | exact (hz_bf (fun h => absurd c97 (Int32.not_lt.mpr h.2))).symm | exact (hz_bf (fun h => absurd c86 (Int32.not_lt.mpr h.1))).symm) | (rw [k5_5 c6]; first | exact (hz_bt c115).symm | exact (hz_bf c115).symm) | (rw [k5_0 c6]; first | exact (hz_bt (Int32.not_lt.mp c132)).symm | exact (hz_bf (fun h => absurd c132 (Int32.not_lt.mpr h))).symm)) dX0_wouldWeep_123
  · refine lv_tableOut (tgt := 124) hx hb dX0_wouldWeep_6 (by omega) (by decide) ?_
    refine lv_aload_n hx hb dX0_wouldWeep_124 rfl (lv_at hl 0 rfl) ?_
    refine va_get hx hb hts hinX0 hown hK hP 0 rfl rfl 5 (by decide) wd2 (fun _ h => h) rfl dX0_wouldWeep_125 ?_
    refine lv_iload_n hx hb dX0_wouldWeep_128 rfl (lv_at hl 1 rfl) ?_
    refine hz_iald (j := d) hx hb hK hP 3 0 rfl rfl (by omega) (Nat.le_of_ble_eq_true rfl) dX0_wouldWeep_129 ?_
    refine hz_ct (y := M (3 + 5 * d + 3)) rfl ?_
    refine lv_bipush (v := nI 100) hx hb dX0_wouldWeep_130 (by decide) ?_
    refine lv_icmp_lt (tgt := 139) hx hb dX0_wouldWeep_132 (by decide) (fun c132 => ?_) (fun c132 => ?_)
    · refine lv_iconst (v := nI 0) hx hb dX0_wouldWeep_139 (by decide) ?_
      exact hz_ri hx hb hr hlocks rfl (by rw [sp_wk]; first | (rw [k5_1 c6]; first | exact (hz_bt (Int32.not_lt.mp c49)).symm | exact (hz_bf (fun h => absurd c49 (Int32.not_lt.mpr h))).symm) | exact (k5_2 c6).symm | (rw [k5_3 c6]; first | exact (hz_bt (Int32.not_lt.mp c68)).symm | exact (hz_bf (fun h => absurd c68 (Int32.not_lt.mpr h))).symm) | (rw [k5_4 c6]; first | exact (hz_bt ⟨Int32.not_lt.mp c86, Int32.not_lt.mp c97⟩).symm | exact (hz_bf (fun h => absurd c97 (Int32.not_lt.mpr h.2))).symm | exact (hz_bf (fun h => absurd c86 (Int32.not_lt.mpr h.1))).symm) | (rw [k5_5 c6]; first | exact (hz_bt c115).symm | exact (hz_bf c115).symm) | (rw [k5_0 c6]; first | exact (hz_bt (Int32.not_lt.mp c132)).symm | exact (hz_bf (fun h => absurd c132 (Int32.not_lt.mpr h))).symm)) dX0_wouldWeep_140
    · refine lv_iconst (v := nI 1) hx hb dX0_wouldWeep_135 (by decide) ?_
      refine lv_goto (tgt := 140) hx hb dX0_wouldWeep_136 (by decide) ?_
      exact hz_ri hx hb hr hlocks rfl (by rw [sp_wk]; first | (rw [k5_1 c6]; first | exact (hz_bt (Int32.not_lt.mp c49)).symm | exact (hz_bf (fun h => absurd c49 (Int32.not_lt.mpr h))).symm) | exact (k5_2 c6).symm | (rw [k5_3 c6]; first | exact (hz_bt (Int32.not_lt.mp c68)).symm | exact (hz_bf (fun h => absurd c68 (Int32.not_lt.mpr h))).symm) | (rw [k5_4 c6]; first | exact (hz_bt ⟨Int32.not_lt.mp c86, Int32.not_lt.mp c97⟩).symm | exact (hz_bf (fun h => absurd c97 (Int32.not_lt.mpr h.2))).symm | exact (hz_bf (fun h => absurd c86 (Int32.not_lt.mpr h.1))).symm) | (rw [k5_5 c6]; first | exact (hz_bt c115).symm | exact (hz_bf c115).symm) | (rw [k5_0 c6]; first | exact (hz_bt (Int32.not_lt.mp c132)).symm | exact (hz_bf (fun h => absurd c132 (Int32.not_lt.mpr h))).symm)) dX0_wouldWeep_140
set_option maxHeartbeats 4000000 in
set_option maxRecDepth 100000 in
theorem c0_nextSpeech (l : Launch) (D : va_G) (cI cJ : ClassId) (a0 k_ p_ t_ h_ w_ b_ g_ i_ f_ : Nat) (M : Nat → Int32) (hM0 : M 0 = nI (nT M)) (hT : nT M < 2 ^ 31) (hM2 : M 2 = nI (nS M)) (hS8 : nS M ≤ 8) : hz_MP l yX0_nextSpeech wsX0_nextSpeech { frames := 0, cells := 0, slots := 0, locals := 0 } [.ref a0] D zcl [(cI, .int), (cJ, .long)] [(a0, .inr (0, [.int (M 0), .int (M 1), .ref k_, .ref p_, .ref t_, .ref h_, .ref w_, .int (M 2), .ref b_, .ref g_, .ref i_, .ref f_]))] (.int (if nS M = 0 then -1 else nI (nT M % nS M))) := by
  refine hz_mp (cc := cX0_nextSpeech) (maxL := 1) (ret := (some .int)) (by decide) rfl (Nat.le_of_ble_eq_true rfl) ?_
  intro p e s m below meth c hx hb hr hts hown hlocks hml hP hK ls hl
  have hown : s.vm.findClass RX0 = some m.cls := hown
  have hl : lv_has ls 1 [(0, .ref a0)] := hl
  have hinX0 : ∀ w ∈ u_ws RX0 TX0 12, w ∈ wsX0_nextSpeech := fun w h => List.mem_cons_of_mem _ (List.mem_append_right _ (h))
  have wd1 := hts (.fieldLink RX0 43 "HurtSpeech$Congress" "speeches" "I") (List.mem_of_getElem? (i := 1) rfl)
  have wd2 := hts (.fieldLink RX0 71 "HurtSpeech$Congress" "session" "I") (List.mem_of_getElem? (i := 2) rfl)
  refine lv_aload_n hx hb dX0_nextSpeech_0 rfl (lv_at hl 0 rfl) ?_
  refine va_get hx hb hts hinX0 hown hK hP 0 rfl rfl 7 (by decide) wd1 (fun _ h => h) rfl dX0_nextSpeech_1 ?_
  refine hz_ct (y := nI (nS M)) hM2 ?_
  refine hz_ifn_le (tgt := 19) (by omega) hx hb dX0_nextSpeech_4 (by decide) (fun c4 => ?_) (fun c4 => ?_)
  · refine lv_iconst (v := -1) hx hb dX0_nextSpeech_19 (by decide) ?_
    exact hz_ri hx hb hr hlocks rfl (by first | exact (if_pos c4).symm | exact (if_neg (Nat.pos_iff_ne_zero.mp c4)).symm) dX0_nextSpeech_20
  · refine lv_aload_n hx hb dX0_nextSpeech_7 rfl (lv_at hl 0 rfl) ?_
    refine va_get hx hb hts hinX0 hown hK hP 0 rfl rfl 0 (by decide) wd2 (fun _ h => h) rfl dX0_nextSpeech_8 ?_
    refine hz_ct (y := nI (nT M)) hM0 ?_
    refine lv_aload_n hx hb dX0_nextSpeech_11 rfl (lv_at hl 0 rfl) ?_
    refine va_get hx hb hts hinX0 hown hK hP 0 rfl rfl 7 (by decide) wd1 (fun _ h => h) rfl dX0_nextSpeech_12 ?_
    refine hz_ct (y := nI (nS M)) hM2 ?_
    refine hz_irem hT c4 (by omega) hx hb dX0_nextSpeech_15 ?_
    refine lv_goto (tgt := 20) hx hb dX0_nextSpeech_16 (by decide) ?_
    exact hz_ri hx hb hr hlocks rfl (by first | exact (if_pos c4).symm | exact (if_neg (Nat.pos_iff_ne_zero.mp c4)).symm) dX0_nextSpeech_20
set_option maxHeartbeats 4000000 in
set_option maxRecDepth 100000 in
theorem c0_sumOf (l : Launch) (D : va_G) (cI cJ : ClassId) (r_ : Nat) (F : Nat → Int32) (n : Nat) (hn : n ≤ 8) : hz_MP l yX0_sumOf wsX0_sumOf { frames := 0, cells := 0, slots := 0, locals := 0 } [.ref r_, .int (nI n)] D zcl [(cI, .int), (cJ, .long)] [(r_, .inl (cI, 8, .inl F))] (.int (sp_sum F n)) := by
  refine hz_mp (cc := cX0_sumOf) (maxL := 4) (ret := (some .int)) (by decide) rfl (Nat.le_of_ble_eq_true rfl) ?_
  intro p e s m below meth c hx hb hr hts hown hlocks hml hP hK ls hl
  have hown : s.vm.findClass RX0 = some m.cls := hown
  have hl : lv_has ls 4 [(0, .ref r_), (1, .int (nI n))] := hl
  refine lv_iconst (v := nI 0) hx hb dX0_sumOf_0 (by decide) ?_
  refine lv_istore_n (lv' := [(2, .int (nI 0)), (0, .ref r_), (1, .int (nI n))]) hx hb dX0_sumOf_1 rfl hl (by decide) rfl (fun ls hl => ?_)
  refine lv_iconst (v := nI 0) hx hb dX0_sumOf_2 (by decide) ?_
  refine lv_istore_n (lv' := [(3, .int (nI 0)), (2, .int (nI 0)), (0, .ref r_), (1, .int (nI n))]) hx hb dX0_sumOf_3 rfl hl (by decide) rfl (fun ls hl => ?_)
  have loop : ∀ (nn : Nat) (k : Nat) (ls : Array Slot), n - k < nn → (k ≤ n) → lv_has ls 4 [(3, .int (nI k)), (2, .int (sp_sum F k)), (0, .ref r_), (1, .int (nI n))] → W p l e (headSpec wsX0_sumOf { frames := 0, cells := 0, slots := 0, locals := 0 }).room s m ([.ref r_, .int (nI n)] : List Value).toArray below meth c s.heap [] 0 0 (MQ below (hz_V (.int (sp_sum F n))) ([.ref r_, .int (nI n)] : List Value).toArray s 0 0 (fun _ => False)) (F0 m 4 ls []) := by
    intro nn
    induction nn with
    | zero => intro k ls hnn hk hl; exact absurd hnn (Nat.not_lt_zero _)
    | succ nn ihloop =>
      intro k ls hnn hk hl
      refine lv_iload_n hx hb dX0_sumOf_4 rfl (lv_at hl 0 rfl) ?_
      refine lv_iload_n hx hb dX0_sumOf_5 rfl (lv_at hl 3 rfl) ?_
      refine hz_icmp_ge (tgt := 21) (by omega) (by omega) hx hb dX0_sumOf_6 (by decide) (fun c6 => ?_) (fun c6 => ?_)
      · refine lv_iload_n hx hb dX0_sumOf_21 rfl (lv_at hl 1 rfl) ?_
        exact hz_ri hx hb hr hlocks rfl (by rw [show k = n by omega]) dX0_sumOf_22
      · refine lv_iload_n hx hb dX0_sumOf_9 rfl (lv_at hl 1 rfl) ?_
        refine lv_aload_n hx hb dX0_sumOf_10 rfl (lv_at hl 2 rfl) ?_
        refine lv_iload_n hx hb dX0_sumOf_11 rfl (lv_at hl 0 rfl) ?_
        refine hz_iald (j := k) hx hb hK hP 0 0 rfl rfl (by omega) (Nat.le_of_ble_eq_true rfl) dX0_sumOf_12 ?_
        refine lv_iadd hx hb dX0_sumOf_13 ?_
        refine lv_istore_n (lv' := [(2, .int ((sp_sum F k) + (F k))), (3, .int (nI k)), (0, .ref r_), (1, .int (nI n))]) hx hb dX0_sumOf_14 rfl hl (by decide) rfl (fun ls hl => ?_)
        refine lv_iinc (v := nI (k + 1)) (lv' := [(3, .int (nI (k + 1))), (2, .int ((sp_sum F k) + (F k))), (0, .ref r_), (1, .int (nI n))]) hx hb dX0_sumOf_15 hl (k := 1) rfl (nI_1 _) (by decide) rfl (fun ls hl => ?_)
        refine lv_goto (tgt := 4) hx hb dX0_sumOf_18 (by decide) ?_
        exact ihloop (k + 1) ls (by omega) (by omega) (lv_sub hl [0, 1, 2, 3] rfl)
  exact loop _ 0 ls (Nat.lt_succ_self _) (by omega) (lv_sub hl [0, 1, 2, 3] rfl)
set_option maxHeartbeats 4000000 in
set_option maxRecDepth 100000 in
theorem c0_hurtOfAll (l : Launch) (D : va_G) (cI cJ : ClassId) (a0 k_ p_ t_ h_ w_ b_ g_ i_ f_ : Nat) (M : Nat → Int32) (hM1 : M 1 = nI (nD M)) (hD8 : nD M ≤ 8) : hz_MP l yX0_hurtOfAll wsX0_hurtOfAll { frames := 1, cells := 0, slots := 0, locals := 23 } [.ref a0] D zcl [(cI, .int), (cJ, .long)] [(a0, .inr (0, [.int (M 0), .int (M 1), .ref k_, .ref p_, .ref t_, .ref h_, .ref w_, .int (M 2), .ref b_, .ref g_, .ref i_, .ref f_])), (k_, .inl (cI, 8, .inl (fun x_ => M (3 + 5 * x_)))), (p_, .inl (cI, 8, .inl (fun x_ => M (3 + 5 * x_ + 1)))), (t_, .inl (cI, 8, .inl (fun x_ => M (3 + 5 * x_ + 2)))), (h_, .inl (cI, 8, .inl (fun x_ => M (3 + 5 * x_ + 3)))), (w_, .inl (cI, 8, .inl (fun x_ => M (3 + 5 * x_ + 4)))), (b_, .inl (cI, 8, .inl (fun x_ => M (43 + 4 * x_)))), (g_, .inl (cI, 8, .inl (fun x_ => M (43 + 4 * x_ + 1)))), (i_, .inl (cI, 8, .inl (fun x_ => M (43 + 4 * x_ + 2)))), (f_, .inl (cI, 8, .inl (fun x_ => M (43 + 4 * x_ + 3))))] (.int (sp_sum (fun d => M (3 + 5 * d + 3)) (nD M))) := by
  refine hz_mp (cc := cX0_hurtOfAll) (maxL := 1) (ret := (some .int)) (by decide) rfl (Nat.le_of_ble_eq_true rfl) ?_
  intro p e s m below meth c hx hb hr hts hown hlocks hml hP hK ls hl
  have hown : s.vm.findClass RX0 = some m.cls := hown
  have hl : lv_has ls 1 [(0, .ref a0)] := hl
  have hinX0 : ∀ w ∈ u_ws RX0 TX0 12, w ∈ wsX0_hurtOfAll := fun w h => List.mem_cons_of_mem _ (List.mem_append_right _ (h))
  have wd1 := hts (.fieldLink RX0 21 "HurtSpeech$Congress" "hurt" "[I") (List.mem_of_getElem? (i := 1) rfl)
  have wd2 := hts (.fieldLink RX0 39 "HurtSpeech$Congress" "delegates" "I") (List.mem_of_getElem? (i := 2) rfl)
  refine lv_aload_n hx hb dX0_hurtOfAll_0 rfl (lv_at hl 0 rfl) ?_
  refine va_get hx hb hts hinX0 hown hK hP 0 rfl rfl 5 (by decide) wd1 (fun _ h => h) rfl dX0_hurtOfAll_1 ?_
  refine lv_aload_n hx hb dX0_hurtOfAll_4 rfl (lv_at hl 0 rfl) ?_
  refine va_get hx hb hts hinX0 hown hK hP 0 rfl rfl 1 (by decide) wd2 (fun _ h => h) rfl dX0_hurtOfAll_5 ?_
  refine hz_ct (y := nI (nD M)) hM1 ?_
  refine hz_cs (As := [.ref h_, .int (nI (nD M))]) (rest := []) ⟨hx, hb, hml, hown, hts⟩ (c0_sumOf l D cI cJ (r_ := h_) (F := fun x_ => M (3 + 5 * x_ + 3)) (n := nD M) (hn := by first | assumption | rfl)) (va_cwS 2 hts gX0_hurtOfAll_X0_sumOf rfl rfl rfl (by decide +kernel) ⟨Nat.le_of_ble_eq_true rfl, Nat.le_of_ble_eq_true rfl⟩) hK hP [4] rfl [0, 1] rfl rfl hl.1 rfl (Nat.le_of_ble_eq_true rfl) dX0_hurtOfAll_8 ⟨Nat.zero_le _, Nat.zero_le _⟩ ?_
  exact hz_ri hx hb hr hlocks rfl (rfl) dX0_hurtOfAll_11
set_option maxHeartbeats 4000000 in
set_option maxRecDepth 100000 in
theorem c0_weptOfAll (l : Launch) (D : va_G) (cI cJ : ClassId) (a0 k_ p_ t_ h_ w_ b_ g_ i_ f_ : Nat) (M : Nat → Int32) (hM1 : M 1 = nI (nD M)) (hD8 : nD M ≤ 8) : hz_MP l yX0_weptOfAll wsX0_weptOfAll { frames := 1, cells := 0, slots := 0, locals := 23 } [.ref a0] D zcl [(cI, .int), (cJ, .long)] [(a0, .inr (0, [.int (M 0), .int (M 1), .ref k_, .ref p_, .ref t_, .ref h_, .ref w_, .int (M 2), .ref b_, .ref g_, .ref i_, .ref f_])), (k_, .inl (cI, 8, .inl (fun x_ => M (3 + 5 * x_)))), (p_, .inl (cI, 8, .inl (fun x_ => M (3 + 5 * x_ + 1)))), (t_, .inl (cI, 8, .inl (fun x_ => M (3 + 5 * x_ + 2)))), (h_, .inl (cI, 8, .inl (fun x_ => M (3 + 5 * x_ + 3)))), (w_, .inl (cI, 8, .inl (fun x_ => M (3 + 5 * x_ + 4)))), (b_, .inl (cI, 8, .inl (fun x_ => M (43 + 4 * x_)))), (g_, .inl (cI, 8, .inl (fun x_ => M (43 + 4 * x_ + 1)))), (i_, .inl (cI, 8, .inl (fun x_ => M (43 + 4 * x_ + 2)))), (f_, .inl (cI, 8, .inl (fun x_ => M (43 + 4 * x_ + 3))))] (.int (sp_sum (fun d => M (3 + 5 * d + 4)) (nD M))) := by
  refine hz_mp (cc := cX0_weptOfAll) (maxL := 1) (ret := (some .int)) (by decide) rfl (Nat.le_of_ble_eq_true rfl) ?_
  intro p e s m below meth c hx hb hr hts hown hlocks hml hP hK ls hl
  have hown : s.vm.findClass RX0 = some m.cls := hown
  have hl : lv_has ls 1 [(0, .ref a0)] := hl
  have hinX0 : ∀ w ∈ u_ws RX0 TX0 12, w ∈ wsX0_weptOfAll := fun w h => List.mem_cons_of_mem _ (List.mem_append_right _ (h))
  have wd1 := hts (.fieldLink RX0 24 "HurtSpeech$Congress" "wept" "[I") (List.mem_of_getElem? (i := 1) rfl)
  have wd2 := hts (.fieldLink RX0 39 "HurtSpeech$Congress" "delegates" "I") (List.mem_of_getElem? (i := 2) rfl)
  refine lv_aload_n hx hb dX0_weptOfAll_0 rfl (lv_at hl 0 rfl) ?_
  refine va_get hx hb hts hinX0 hown hK hP 0 rfl rfl 6 (by decide) wd1 (fun _ h => h) rfl dX0_weptOfAll_1 ?_
  refine lv_aload_n hx hb dX0_weptOfAll_4 rfl (lv_at hl 0 rfl) ?_
  refine va_get hx hb hts hinX0 hown hK hP 0 rfl rfl 1 (by decide) wd2 (fun _ h => h) rfl dX0_weptOfAll_5 ?_
  refine hz_ct (y := nI (nD M)) hM1 ?_
  refine hz_cs (As := [.ref w_, .int (nI (nD M))]) (rest := []) ⟨hx, hb, hml, hown, hts⟩ (c0_sumOf l D cI cJ (r_ := w_) (F := fun x_ => M (3 + 5 * x_ + 4)) (n := nD M) (hn := by first | assumption | rfl)) (va_cwS 2 hts gX0_weptOfAll_X0_sumOf rfl rfl rfl (by decide +kernel) ⟨Nat.le_of_ble_eq_true rfl, Nat.le_of_ble_eq_true rfl⟩) hK hP [5] rfl [0, 1] rfl rfl hl.1 rfl (Nat.le_of_ble_eq_true rfl) dX0_weptOfAll_8 ⟨Nat.zero_le _, Nat.zero_le _⟩ ?_
  exact hz_ri hx hb hr hlocks rfl (rfl) dX0_weptOfAll_11
set_option maxHeartbeats 4000000 in
set_option maxRecDepth 100000 in
theorem c0_forceOfAll (l : Launch) (D : va_G) (cI cJ : ClassId) (a0 k_ p_ t_ h_ w_ b_ g_ i_ f_ : Nat) (M : Nat → Int32) (hM2 : M 2 = nI (nS M)) (hS8 : nS M ≤ 8) : hz_MP l yX0_forceOfAll wsX0_forceOfAll { frames := 1, cells := 0, slots := 0, locals := 23 } [.ref a0] D zcl [(cI, .int), (cJ, .long)] [(a0, .inr (0, [.int (M 0), .int (M 1), .ref k_, .ref p_, .ref t_, .ref h_, .ref w_, .int (M 2), .ref b_, .ref g_, .ref i_, .ref f_])), (k_, .inl (cI, 8, .inl (fun x_ => M (3 + 5 * x_)))), (p_, .inl (cI, 8, .inl (fun x_ => M (3 + 5 * x_ + 1)))), (t_, .inl (cI, 8, .inl (fun x_ => M (3 + 5 * x_ + 2)))), (h_, .inl (cI, 8, .inl (fun x_ => M (3 + 5 * x_ + 3)))), (w_, .inl (cI, 8, .inl (fun x_ => M (3 + 5 * x_ + 4)))), (b_, .inl (cI, 8, .inl (fun x_ => M (43 + 4 * x_)))), (g_, .inl (cI, 8, .inl (fun x_ => M (43 + 4 * x_ + 1)))), (i_, .inl (cI, 8, .inl (fun x_ => M (43 + 4 * x_ + 2)))), (f_, .inl (cI, 8, .inl (fun x_ => M (43 + 4 * x_ + 3))))] (.int (sp_sum (fun d => M (43 + 4 * d + 3)) (nS M))) := by
  refine hz_mp (cc := cX0_forceOfAll) (maxL := 1) (ret := (some .int)) (by decide) rfl (Nat.le_of_ble_eq_true rfl) ?_
  intro p e s m below meth c hx hb hr hts hown hlocks hml hP hK ls hl
  have hown : s.vm.findClass RX0 = some m.cls := hown
  have hl : lv_has ls 1 [(0, .ref a0)] := hl
  have hinX0 : ∀ w ∈ u_ws RX0 TX0 12, w ∈ wsX0_forceOfAll := fun w h => List.mem_cons_of_mem _ (List.mem_append_right _ (h))
  have wd1 := hts (.fieldLink RX0 36 "HurtSpeech$Congress" "force" "[I") (List.mem_of_getElem? (i := 1) rfl)
  have wd2 := hts (.fieldLink RX0 43 "HurtSpeech$Congress" "speeches" "I") (List.mem_of_getElem? (i := 2) rfl)
  refine lv_aload_n hx hb dX0_forceOfAll_0 rfl (lv_at hl 0 rfl) ?_
  refine va_get hx hb hts hinX0 hown hK hP 0 rfl rfl 11 (by decide) wd1 (fun _ h => h) rfl dX0_forceOfAll_1 ?_
  refine lv_aload_n hx hb dX0_forceOfAll_4 rfl (lv_at hl 0 rfl) ?_
  refine va_get hx hb hts hinX0 hown hK hP 0 rfl rfl 7 (by decide) wd2 (fun _ h => h) rfl dX0_forceOfAll_5 ?_
  refine hz_ct (y := nI (nS M)) hM2 ?_
  refine hz_cs (As := [.ref f_, .int (nI (nS M))]) (rest := []) ⟨hx, hb, hml, hown, hts⟩ (c0_sumOf l D cI cJ (r_ := f_) (F := fun x_ => M (43 + 4 * x_ + 3)) (n := nS M) (hn := by first | assumption | rfl)) (va_cwS 2 hts gX0_forceOfAll_X0_sumOf rfl rfl rfl (by decide +kernel) ⟨Nat.le_of_ble_eq_true rfl, Nat.le_of_ble_eq_true rfl⟩) hK hP [9] rfl [0, 1] rfl rfl hl.1 rfl (Nat.le_of_ble_eq_true rfl) dX0_forceOfAll_8 ⟨Nat.zero_le _, Nat.zero_le _⟩ ?_
  exact hz_ri hx hb hr hlocks rfl (rfl) dX0_forceOfAll_11
set_option maxHeartbeats 4000000 in
set_option maxRecDepth 100000 in
theorem c0_gestured (l : Launch) (D : va_G) (cI cJ : ClassId) (a0 k_ p_ t_ h_ w_ b_ g_ i_ f_ : Nat) (M : Nat → Int32) (b : Nat) (hI : hz_I b M) : hz_MP l yX0_gestured wsX0_gestured { frames := 3, cells := 0, slots := 0, locals := 73 } [.ref a0] D zcl [(cI, .int), (cJ, .long)] [(a0, .inr (0, [.int (M 0), .int (M 1), .ref k_, .ref p_, .ref t_, .ref h_, .ref w_, .int (M 2), .ref b_, .ref g_, .ref i_, .ref f_])), (k_, .inl (cI, 8, .inl (fun x_ => M (3 + 5 * x_)))), (p_, .inl (cI, 8, .inl (fun x_ => M (3 + 5 * x_ + 1)))), (t_, .inl (cI, 8, .inl (fun x_ => M (3 + 5 * x_ + 2)))), (h_, .inl (cI, 8, .inl (fun x_ => M (3 + 5 * x_ + 3)))), (w_, .inl (cI, 8, .inl (fun x_ => M (3 + 5 * x_ + 4)))), (b_, .inl (cI, 8, .inl (fun x_ => M (43 + 4 * x_)))), (g_, .inl (cI, 8, .inl (fun x_ => M (43 + 4 * x_ + 1)))), (i_, .inl (cI, 8, .inl (fun x_ => M (43 + 4 * x_ + 2)))), (f_, .inl (cI, 8, .inl (fun x_ => M (43 + 4 * x_ + 3))))] (.int (sp_un M (nS M))) := by
  refine hz_mp (cc := cX0_gestured) (maxL := 3) (ret := (some .int)) (by decide) rfl (Nat.le_of_ble_eq_true rfl) ?_
  intro p e s m below meth c hx hb hr hts hown hlocks hml hP hK ls hl
  have hown : s.vm.findClass RX0 = some m.cls := hown
  have hl : lv_has ls 3 [(0, .ref a0)] := hl
  have hinX0 : ∀ w ∈ u_ws RX0 TX0 12, w ∈ wsX0_gestured := fun w h => List.mem_cons_of_mem _ (List.mem_append_right _ (h))
  have wd1 := hts (.fieldLink RX0 43 "HurtSpeech$Congress" "speeches" "I") (List.mem_of_getElem? (i := 1) rfl)
  obtain ⟨⟨hM0, hTb, hM1, hD8, hM2, hS8⟩, hID, hIS⟩ := id hI
  refine lv_iconst (v := nI 0) hx hb dX0_gestured_0 (by decide) ?_
  refine lv_istore_n (lv' := [(1, .int (nI 0)), (0, .ref a0)]) hx hb dX0_gestured_1 rfl hl (by decide) rfl (fun ls hl => ?_)
  refine lv_iconst (v := nI 0) hx hb dX0_gestured_2 (by decide) ?_
  refine lv_istore_n (lv' := [(2, .int (nI 0)), (1, .int (nI 0)), (0, .ref a0)]) hx hb dX0_gestured_3 rfl hl (by decide) rfl (fun ls hl => ?_)
  have loop : ∀ (nn : Nat) (z : Nat) (ls : Array Slot), nS M - z < nn → (z ≤ nS M) → lv_has ls 3 [(2, .int (nI z)), (1, .int (sp_un M z)), (0, .ref a0)] → W p l e (headSpec wsX0_gestured { frames := 3, cells := 0, slots := 0, locals := 73 }).room s m ([.ref a0] : List Value).toArray below meth c s.heap [] 0 0 (MQ below (hz_V (.int (sp_un M (nS M)))) ([.ref a0] : List Value).toArray s 0 0 (fun _ => False)) (F0 m 4 ls []) := by
    intro nn
    induction nn with
    | zero => intro z ls hnn hzn hl; exact absurd hnn (Nat.not_lt_zero _)
    | succ nn ihloop =>
      intro z ls hnn hzn hl
      refine lv_iload_n hx hb dX0_gestured_4 rfl (lv_at hl 0 rfl) ?_
      refine lv_aload_n hx hb dX0_gestured_5 rfl (lv_at hl 2 rfl) ?_
      refine va_get hx hb hts hinX0 hown hK hP 0 rfl rfl 7 (by decide) wd1 (fun _ h => h) rfl dX0_gestured_6 ?_
      refine hz_ct (y := nI (nS M)) hM2 ?_
      refine hz_icmp_ge (tgt := 33) (by omega) (by omega) hx hb dX0_gestured_9 (by decide) (fun c9 => ?_) (fun c9 => ?_)
      · refine lv_iload_n hx hb dX0_gestured_33 rfl (lv_at hl 1 rfl) ?_
        exact hz_ri hx hb hr hlocks rfl (by rw [show z = nS M by omega]) dX0_gestured_34
      · refine lv_aload_n hx hb dX0_gestured_12 rfl (lv_at hl 2 rfl) ?_
        refine lv_iload_n hx hb dX0_gestured_13 rfl (lv_at hl 0 rfl) ?_
        refine hz_cv (As := [.int (nI z)]) (rest := []) ⟨hx, hb, hml, hown, hts⟩ (c0_interpreterOf l D cI cJ (a0 := a0) (k_ := k_) (p_ := p_) (t_ := t_) (h_ := h_) (w_ := w_) (b_ := b_) (g_ := g_) (i_ := i_) (f_ := f_) (M := M) (z := z) (hM1 := by first | assumption | rfl) (hD8 := by first | assumption | rfl) (hs := by omega) (hat := (hIS z (by omega)).1)) (cwV 1 hts gX0_gestured_X0_interpreterOf rfl rfl rfl (by decide +kernel) ⟨Nat.le_of_ble_eq_true rfl, Nat.le_of_ble_eq_true rfl⟩) hK hP [0, 1, 2, 3, 4, 5, 6, 7, 8, 9] rfl [0, 1] rfl 0 rfl rfl rfl rfl hl.1 rfl (Nat.le_of_ble_eq_true rfl) dX0_gestured_14 ⟨Nat.zero_le _, Nat.zero_le _⟩ ?_
        rcases hw : sp_who M (z) with _ | j
        · refine hz_ct (y := -1) rfl ?_
          refine lv_iconst (v := -1) hx hb dX0_gestured_17 (by decide) ?_
          refine lv_icmp_ne (tgt := 27) hx hb dX0_gestured_18 (by decide) (fun h => absurd h (by first | decide | omega | exact hz_nneg (by omega) | exact hz_nneg' (by omega))) (fun _ => ?_)
          refine lv_iload_n hx hb dX0_gestured_21 rfl (lv_at hl 1 rfl) ?_
          refine lv_iconst (v := nI 1) hx hb dX0_gestured_22 (by decide) ?_
          refine lv_iload_n hx hb dX0_gestured_23 rfl (lv_at hl 0 rfl) ?_
          refine lv_ishl hx hb dX0_gestured_24 ?_
          refine lv_ior hx hb dX0_gestured_25 ?_
          refine lv_istore_n (lv' := [(1, .int ((sp_un M z) ||| ((nI 1) <<< ((nI z) &&& 31)))), (2, .int (nI z)), (0, .ref a0)]) hx hb dX0_gestured_26 rfl hl (by decide) rfl (fun ls hl => ?_)
          refine lv_iinc (v := nI (z + 1)) (lv' := [(2, .int (nI (z + 1))), (1, .int ((sp_un M z) ||| ((nI 1) <<< ((nI z) &&& 31)))), (0, .ref a0)]) hx hb dX0_gestured_27 hl (k := 1) rfl (nI_1 _) (by decide) rfl (fun ls hl => ?_)
          refine lv_goto (tgt := 4) hx hb dX0_gestured_30 (by decide) ?_
          exact ihloop (z + 1) ls (by omega) (by omega) (by first | (rw [sp_un, sp_ub, hw]; exact lv_sub hl [0, 1, 2] rfl) | (rw [sp_un, sp_ub, hw, hz_or0]; exact lv_sub hl [0, 1, 2] rfl))
        · have hj := sp_it_lt M (z) _ j hw
          refine hz_ct (y := nI j) rfl ?_
          refine lv_iconst (v := -1) hx hb dX0_gestured_17 (by decide) ?_
          refine lv_icmp_ne (tgt := 27) hx hb dX0_gestured_18 (by decide) (fun _ => ?_) (fun h => absurd h (by first | decide | omega | exact hz_nneg (by omega) | exact hz_nneg' (by omega)))
          refine lv_iinc (v := nI (z + 1)) (lv' := [(2, .int (nI (z + 1))), (1, .int (sp_un M z)), (0, .ref a0)]) hx hb dX0_gestured_27 hl (k := 0) rfl (nI_1 _) (by decide) rfl (fun ls hl => ?_)
          refine lv_goto (tgt := 4) hx hb dX0_gestured_30 (by decide) ?_
          exact ihloop (z + 1) ls (by omega) (by omega) (by first | (rw [sp_un, sp_ub, hw]; exact lv_sub hl [0, 1, 2] rfl) | (rw [sp_un, sp_ub, hw, hz_or0]; exact lv_sub hl [0, 1, 2] rfl))
  exact loop _ 0 ls (Nat.lt_succ_self _) (by omega) (lv_sub hl [0, 1, 2] rfl)
set_option maxHeartbeats 4000000 in
set_option maxRecDepth 100000 in
theorem c0_hurtBy (l : Launch) (D : va_G) (cI cJ : ClassId) (a0 k_ p_ t_ h_ w_ b_ g_ i_ f_ : Nat) (M : Nat → Int32) (b z : Nat) (hI : hz_I b M) (hs : z < 8) : hz_MP l yX0_hurtBy wsX0_hurtBy { frames := 4, cells := 0, slots := 0, locals := 95 } [.ref a0, .int (nI z)] D zcl [(cI, .int), (cJ, .long)] [(a0, .inr (0, [.int (M 0), .int (M 1), .ref k_, .ref p_, .ref t_, .ref h_, .ref w_, .int (M 2), .ref b_, .ref g_, .ref i_, .ref f_])), (k_, .inl (cI, 8, .inl (fun x_ => M (3 + 5 * x_)))), (p_, .inl (cI, 8, .inl (fun x_ => M (3 + 5 * x_ + 1)))), (t_, .inl (cI, 8, .inl (fun x_ => M (3 + 5 * x_ + 2)))), (h_, .inl (cI, 8, .inl (fun x_ => M (3 + 5 * x_ + 3)))), (w_, .inl (cI, 8, .inl (fun x_ => M (3 + 5 * x_ + 4)))), (b_, .inl (cI, 8, .inl (fun x_ => M (43 + 4 * x_)))), (g_, .inl (cI, 8, .inl (fun x_ => M (43 + 4 * x_ + 1)))), (i_, .inl (cI, 8, .inl (fun x_ => M (43 + 4 * x_ + 2)))), (f_, .inl (cI, 8, .inl (fun x_ => M (43 + 4 * x_ + 3))))] (.int (sp_hs M z (sp_over M z) (nD M))) := by
  refine hz_mp (cc := cX0_hurtBy) (maxL := 5) (ret := (some .int)) (by decide) rfl (Nat.le_of_ble_eq_true rfl) ?_
  intro p e s m below meth c hx hb hr hts hown hlocks hml hP hK ls hl
  have hown : s.vm.findClass RX0 = some m.cls := hown
  have hl : lv_has ls 5 [(0, .ref a0), (1, .int (nI z))] := hl
  have hinX0 : ∀ w ∈ u_ws RX0 TX0 12, w ∈ wsX0_hurtBy := fun w h => List.mem_cons_of_mem _ (List.mem_append_right _ (h))
  have wd1 := hts (.fieldLink RX0 39 "HurtSpeech$Congress" "delegates" "I") (List.mem_of_getElem? (i := 1) rfl)
  obtain ⟨⟨hM0, hTb, hM1, hD8, hM2, hS8⟩, hID, hIS⟩ := id hI
  refine lv_aload_n hx hb dX0_hurtBy_0 rfl (lv_at hl 0 rfl) ?_
  refine lv_iload_n hx hb dX0_hurtBy_1 rfl (lv_at hl 1 rfl) ?_
  refine hz_cv (As := [.int (nI z)]) (rest := []) ⟨hx, hb, hml, hown, hts⟩ (c0_comesOverWith l D cI cJ (a0 := a0) (k_ := k_) (p_ := p_) (t_ := t_) (h_ := h_) (w_ := w_) (b_ := b_) (g_ := g_) (i_ := i_) (f_ := f_) (M := M) (b := b) (z := z) (hI := by first | assumption | rfl) (hs := by omega)) (cwV 1 hts gX0_hurtBy_X0_comesOverWith rfl rfl rfl (by decide +kernel) ⟨Nat.le_of_ble_eq_true rfl, Nat.le_of_ble_eq_true rfl⟩) hK hP [0, 1, 2, 3, 4, 5, 6, 7, 8, 9] rfl [0, 1] rfl 0 rfl rfl rfl rfl hl.1 rfl (Nat.le_of_ble_eq_true rfl) dX0_hurtBy_2 ⟨Nat.zero_le _, Nat.zero_le _⟩ ?_
  refine lv_istore_n (lv' := [(2, .int (sp_over M z)), (0, .ref a0), (1, .int (nI z))]) hx hb dX0_hurtBy_5 rfl hl (by decide) rfl (fun ls hl => ?_)
  refine lv_iconst (v := nI 0) hx hb dX0_hurtBy_6 (by decide) ?_
  refine lv_istore_n (lv' := [(3, .int (nI 0)), (2, .int (sp_over M z)), (0, .ref a0), (1, .int (nI z))]) hx hb dX0_hurtBy_7 rfl hl (by decide) rfl (fun ls hl => ?_)
  refine lv_iconst (v := nI 0) hx hb dX0_hurtBy_8 (by decide) ?_
  refine lv_istore (lv' := [(4, .int (nI 0)), (3, .int (nI 0)), (2, .int (sp_over M z)), (0, .ref a0), (1, .int (nI z))]) hx hb dX0_hurtBy_9 hl (by decide) rfl (fun ls hl => ?_)
  have loop : ∀ (nn : Nat) (d : Nat) (ls : Array Slot), nD M - d < nn → (d ≤ nD M) → lv_has ls 5 [(4, .int (nI d)), (3, .int (sp_hs M z (sp_over M z) d)), (2, .int (sp_over M z)), (0, .ref a0), (1, .int (nI z))] → W p l e (headSpec wsX0_hurtBy { frames := 4, cells := 0, slots := 0, locals := 95 }).room s m ([.ref a0, .int (nI z)] : List Value).toArray below meth c s.heap [] 0 0 (MQ below (hz_V (.int (sp_hs M z (sp_over M z) (nD M)))) ([.ref a0, .int (nI z)] : List Value).toArray s 0 0 (fun _ => False)) (F0 m 11 ls []) := by
    intro nn
    induction nn with
    | zero => intro d ls hnn hdn hl; exact absurd hnn (Nat.not_lt_zero _)
    | succ nn ihloop =>
      intro d ls hnn hdn hl
      refine lv_iload hx hb dX0_hurtBy_11 (lv_at hl 0 rfl) ?_
      refine lv_aload_n hx hb dX0_hurtBy_13 rfl (lv_at hl 3 rfl) ?_
      refine va_get hx hb hts hinX0 hown hK hP 0 rfl rfl 1 (by decide) wd1 (fun _ h => h) rfl dX0_hurtBy_14 ?_
      refine hz_ct (y := nI (nD M)) hM1 ?_
      refine hz_icmp_ge (tgt := 44) (by omega) (by omega) hx hb dX0_hurtBy_17 (by decide) (fun c17 => ?_) (fun c17 => ?_)
      · refine lv_iload_n hx hb dX0_hurtBy_44 rfl (lv_at hl 1 rfl) ?_
        exact hz_ri hx hb hr hlocks rfl (by rw [show d = nD M by omega]) dX0_hurtBy_45
      · refine lv_aload_n hx hb dX0_hurtBy_20 rfl (lv_at hl 3 rfl) ?_
        refine lv_iload hx hb dX0_hurtBy_21 (lv_at hl 0 rfl) ?_
        refine lv_iload_n hx hb dX0_hurtBy_23 rfl (lv_at hl 4 rfl) ?_
        refine lv_iload_n hx hb dX0_hurtBy_24 rfl (lv_at hl 2 rfl) ?_
        refine hz_cv (As := [.int (nI d), .int (nI z), .int (sp_over M z)]) (rest := []) ⟨hx, hb, hml, hown, hts⟩ (c0_lossOf l D cI cJ (a0 := a0) (k_ := k_) (p_ := p_) (t_ := t_) (h_ := h_) (w_ := w_) (b_ := b_) (g_ := g_) (i_ := i_) (f_ := f_) (s0 := M 0) (d0 := M 1) (z0 := M 2) (M := M) (d := d) (z := z) (f := sp_over M z) (hd := by omega) (hs := by omega) (hat := (hIS z hs).1)) (cwV 3 hts gX0_hurtBy_X0_lossOf rfl rfl rfl (by decide +kernel) ⟨Nat.le_of_ble_eq_true rfl, Nat.le_of_ble_eq_true rfl⟩) hK hP [0, 1, 2, 6, 7, 8] rfl [0, 1] rfl 0 rfl rfl rfl rfl hl.1 rfl (Nat.le_of_ble_eq_true rfl) dX0_hurtBy_25 ⟨Nat.zero_le _, Nat.zero_le _⟩ ?_
        refine lv_if_le (tgt := 38) hx hb dX0_hurtBy_28 (by decide) (fun c28 => ?_) (fun c28 => ?_)
        · refine lv_iinc (v := nI (d + 1)) (lv' := [(4, .int (nI (d + 1))), (3, .int (sp_hs M z (sp_over M z) d)), (2, .int (sp_over M z)), (0, .ref a0), (1, .int (nI z))]) hx hb dX0_hurtBy_38 hl (k := 0) rfl (nI_1 _) (by decide) rfl (fun ls hl => ?_)
          refine lv_goto (tgt := 11) hx hb dX0_hurtBy_41 (by decide) ?_
          exact ihloop (d + 1) ls (by omega) (by omega) (by first | (rw [sp_hs, if_neg c28]; exact lv_sub hl [0, 1, 2, 3, 4] rfl) | (rw [sp_hs, if_pos c28, hz_or0]; exact lv_sub hl [0, 1, 2, 3, 4] rfl))
        · refine lv_iload_n hx hb dX0_hurtBy_31 rfl (lv_at hl 1 rfl) ?_
          refine lv_iconst (v := nI 1) hx hb dX0_hurtBy_32 (by decide) ?_
          refine lv_iload hx hb dX0_hurtBy_33 (lv_at hl 0 rfl) ?_
          refine lv_ishl hx hb dX0_hurtBy_35 ?_
          refine lv_ior hx hb dX0_hurtBy_36 ?_
          refine lv_istore_n (lv' := [(3, .int ((sp_hs M z (sp_over M z) d) ||| ((nI 1) <<< ((nI d) &&& 31)))), (4, .int (nI d)), (2, .int (sp_over M z)), (0, .ref a0), (1, .int (nI z))]) hx hb dX0_hurtBy_37 rfl hl (by decide) rfl (fun ls hl => ?_)
          refine lv_iinc (v := nI (d + 1)) (lv' := [(4, .int (nI (d + 1))), (3, .int ((sp_hs M z (sp_over M z) d) ||| ((nI 1) <<< ((nI d) &&& 31)))), (2, .int (sp_over M z)), (0, .ref a0), (1, .int (nI z))]) hx hb dX0_hurtBy_38 hl (k := 1) rfl (nI_1 _) (by decide) rfl (fun ls hl => ?_)
          refine lv_goto (tgt := 11) hx hb dX0_hurtBy_41 (by decide) ?_
          exact ihloop (d + 1) ls (by omega) (by omega) (by first | (rw [sp_hs, if_neg c28]; exact lv_sub hl [0, 1, 2, 3, 4] rfl) | (rw [sp_hs, if_pos c28, hz_or0]; exact lv_sub hl [0, 1, 2, 3, 4] rfl))
  exact loop _ 0 ls (Nat.lt_succ_self _) (by omega) (lv_sub hl [0, 1, 2, 3, 4] rfl)
set_option maxHeartbeats 4000000 in
set_option maxRecDepth 100000 in
theorem c0_mostHurt (l : Launch) (D : va_G) (cI cJ : ClassId) (a0 k_ p_ t_ h_ w_ b_ g_ i_ f_ : Nat) (M : Nat → Int32) (hM1 : M 1 = nI (nD M)) (hD8 : nD M ≤ 8) (hpos : 0 < nD M) : hz_MP l yX0_mostHurt wsX0_mostHurt { frames := 0, cells := 0, slots := 0, locals := 0 } [.ref a0] D zcl [(cI, .int), (cJ, .long)] [(a0, .inr (0, [.int (M 0), .int (M 1), .ref k_, .ref p_, .ref t_, .ref h_, .ref w_, .int (M 2), .ref b_, .ref g_, .ref i_, .ref f_])), (k_, .inl (cI, 8, .inl (fun x_ => M (3 + 5 * x_)))), (p_, .inl (cI, 8, .inl (fun x_ => M (3 + 5 * x_ + 1)))), (t_, .inl (cI, 8, .inl (fun x_ => M (3 + 5 * x_ + 2)))), (h_, .inl (cI, 8, .inl (fun x_ => M (3 + 5 * x_ + 3)))), (w_, .inl (cI, 8, .inl (fun x_ => M (3 + 5 * x_ + 4)))), (b_, .inl (cI, 8, .inl (fun x_ => M (43 + 4 * x_)))), (g_, .inl (cI, 8, .inl (fun x_ => M (43 + 4 * x_ + 1)))), (i_, .inl (cI, 8, .inl (fun x_ => M (43 + 4 * x_ + 2)))), (f_, .inl (cI, 8, .inl (fun x_ => M (43 + 4 * x_ + 3))))] (.int (nI (sp_mx (fun x_ => M (3 + 5 * x_ + 3)) (nD M)))) := by
  refine hz_mp (cc := cX0_mostHurt) (maxL := 3) (ret := (some .int)) (by decide) rfl (Nat.le_of_ble_eq_true rfl) ?_
  intro p e s m below meth c hx hb hr hts hown hlocks hml hP hK ls hl
  have hown : s.vm.findClass RX0 = some m.cls := hown
  have hl : lv_has ls 3 [(0, .ref a0)] := hl
  have hinX0 : ∀ w ∈ u_ws RX0 TX0 12, w ∈ wsX0_mostHurt := fun w h => List.mem_cons_of_mem _ (List.mem_append_right _ (h))
  have wd1 := hts (.fieldLink RX0 39 "HurtSpeech$Congress" "delegates" "I") (List.mem_of_getElem? (i := 1) rfl)
  have wd2 := hts (.fieldLink RX0 21 "HurtSpeech$Congress" "hurt" "[I") (List.mem_of_getElem? (i := 2) rfl)
  refine lv_iconst (v := nI 0) hx hb dX0_mostHurt_0 (by decide) ?_
  refine lv_istore_n (lv' := [(1, .int (nI 0)), (0, .ref a0)]) hx hb dX0_mostHurt_1 rfl hl (by decide) rfl (fun ls hl => ?_)
  refine lv_iconst (v := nI 1) hx hb dX0_mostHurt_2 (by decide) ?_
  refine lv_istore_n (lv' := [(2, .int (nI 1)), (1, .int (nI 0)), (0, .ref a0)]) hx hb dX0_mostHurt_3 rfl hl (by decide) rfl (fun ls hl => ?_)
  have loop : ∀ (nn : Nat) (d : Nat) (ls : Array Slot), nD M - d < nn → (d ≤ nD M) → (1 ≤ d) → lv_has ls 3 [(2, .int (nI d)), (1, .int (nI (sp_mx (fun x_ => M (3 + 5 * x_ + 3)) d))), (0, .ref a0)] → W p l e (headSpec wsX0_mostHurt { frames := 0, cells := 0, slots := 0, locals := 0 }).room s m ([.ref a0] : List Value).toArray below meth c s.heap [] 0 0 (MQ below (hz_V (.int (nI (sp_mx (fun x_ => M (3 + 5 * x_ + 3)) (nD M))))) ([.ref a0] : List Value).toArray s 0 0 (fun _ => False)) (F0 m 4 ls []) := by
    intro nn
    induction nn with
    | zero => intro d ls hnn hdn hd1 hl; exact absurd hnn (Nat.not_lt_zero _)
    | succ nn ihloop =>
      intro d ls hnn hdn hd1 hl
      have hmx := sp_mx_lt (fun x_ => M (3 + 5 * x_ + 3)) d (by omega)
      refine lv_iload_n hx hb dX0_mostHurt_4 rfl (lv_at hl 0 rfl) ?_
      refine lv_aload_n hx hb dX0_mostHurt_5 rfl (lv_at hl 2 rfl) ?_
      refine va_get hx hb hts hinX0 hown hK hP 0 rfl rfl 1 (by decide) wd1 (fun _ h => h) rfl dX0_mostHurt_6 ?_
      refine hz_ct (y := nI (nD M)) hM1 ?_
      refine hz_icmp_ge (tgt := 35) (by omega) (by omega) hx hb dX0_mostHurt_9 (by decide) (fun c9 => ?_) (fun c9 => ?_)
      · refine lv_iload_n hx hb dX0_mostHurt_35 rfl (lv_at hl 1 rfl) ?_
        exact hz_ri hx hb hr hlocks rfl (by rw [show d = nD M by omega]) dX0_mostHurt_36
      · refine lv_aload_n hx hb dX0_mostHurt_12 rfl (lv_at hl 2 rfl) ?_
        refine va_get hx hb hts hinX0 hown hK hP 0 rfl rfl 5 (by decide) wd2 (fun _ h => h) rfl dX0_mostHurt_13 ?_
        refine lv_iload_n hx hb dX0_mostHurt_16 rfl (lv_at hl 0 rfl) ?_
        refine hz_iald (j := d) hx hb hK hP 4 0 rfl rfl (by omega) (Nat.le_of_ble_eq_true rfl) dX0_mostHurt_17 ?_
        refine hz_ct (y := M (3 + 5 * d + 3)) rfl ?_
        refine lv_aload_n hx hb dX0_mostHurt_18 rfl (lv_at hl 2 rfl) ?_
        refine va_get hx hb hts hinX0 hown hK hP 0 rfl rfl 5 (by decide) wd2 (fun _ h => h) rfl dX0_mostHurt_19 ?_
        refine lv_iload_n hx hb dX0_mostHurt_22 rfl (lv_at hl 1 rfl) ?_
        refine hz_iald (j := sp_mx (fun x_ => M (3 + 5 * x_ + 3)) d) hx hb hK hP 4 0 rfl rfl (by omega) (Nat.le_of_ble_eq_true rfl) dX0_mostHurt_23 ?_
        refine hz_ct (y := M (3 + 5 * (sp_mx (fun x_ => M (3 + 5 * x_ + 3)) d) + 3)) rfl ?_
        refine lv_icmp_le (tgt := 29) hx hb dX0_mostHurt_24 (by decide) (fun c24 => ?_) (fun c24 => ?_)
        · refine lv_iinc (v := nI (d + 1)) (lv' := [(2, .int (nI (d + 1))), (1, .int (nI (sp_mx (fun x_ => M (3 + 5 * x_ + 3)) d))), (0, .ref a0)]) hx hb dX0_mostHurt_29 hl (k := 0) rfl (nI_1 _) (by decide) rfl (fun ls hl => ?_)
          refine lv_goto (tgt := 4) hx hb dX0_mostHurt_32 (by decide) ?_
          exact ihloop (d + 1) ls (by omega) (by omega) (by omega) (by first | (rw [sp_mx, if_neg (by omega), if_pos c24]; exact lv_sub hl [0, 1, 2] rfl) | (rw [sp_mx, if_neg (by omega), if_neg c24]; exact lv_sub hl [0, 1, 2] rfl))
        · refine lv_iload_n hx hb dX0_mostHurt_27 rfl (lv_at hl 0 rfl) ?_
          refine lv_istore_n (lv' := [(1, .int (nI d)), (2, .int (nI d)), (0, .ref a0)]) hx hb dX0_mostHurt_28 rfl hl (by decide) rfl (fun ls hl => ?_)
          refine lv_iinc (v := nI (d + 1)) (lv' := [(2, .int (nI (d + 1))), (1, .int (nI d)), (0, .ref a0)]) hx hb dX0_mostHurt_29 hl (k := 1) rfl (nI_1 _) (by decide) rfl (fun ls hl => ?_)
          refine lv_goto (tgt := 4) hx hb dX0_mostHurt_32 (by decide) ?_
          exact ihloop (d + 1) ls (by omega) (by omega) (by omega) (by first | (rw [sp_mx, if_neg (by omega), if_pos c24]; exact lv_sub hl [0, 1, 2] rfl) | (rw [sp_mx, if_neg (by omega), if_neg c24]; exact lv_sub hl [0, 1, 2] rfl))
  exact loop _ 1 ls (Nat.lt_succ_self _) (by omega) (by omega) (lv_sub hl [0, 1, 2] rfl)
set_option maxHeartbeats 4000000 in
set_option maxRecDepth 100000 in
theorem c0_mostOf (l : Launch) (D : va_G) (cI cJ : ClassId) (x : Int32)  : hz_MP l yX0_mostOf wsX0_mostOf { frames := 0, cells := 0, slots := 0, locals := 0 } [.int (x)] D zcl [(cI, .int), (cJ, .long)] [] (.int (sp_mo x)) := by
  refine hz_mp (cc := cX0_mostOf) (maxL := 1) (ret := (some .int)) (by decide) rfl (Nat.le_of_ble_eq_true rfl) ?_
  intro p e s m below meth c hx hb hr hts hown hlocks hml hP hK ls hl
  have hown : s.vm.findClass RX0 = some m.cls := hown
  have hl : lv_has ls 1 [(0, .int (x))] := hl
  have wd1 := hts (.constant RX0 46 (99999)) (List.mem_of_getElem? (i := 1) rfl)
  refine lv_iload_n hx hb dX0_mostOf_0 rfl (lv_at hl 0 rfl) ?_
  rcases hz_sw1_4 x with c1 | c1 | c1 | c1 | c1
  · refine lv_tableIn (tgt := 32) hx hb dX0_mostOf_1 (by rw [c1]; decide) (by rw [c1]; decide) (off := 31) (by rw [c1]; decide) (by decide) ?_
    refine lv_bipush (v := nI 20) hx hb dX0_mostOf_32 (by decide) ?_
    exact hz_ri hx hb hr hlocks rfl (by first | exact (mo_1 c1).symm | exact (mo_2 c1).symm | exact (mo_3 c1).symm | exact (mo_4 c1).symm | exact (mo_0 c1).symm) dX0_mostOf_34
  · refine lv_tableIn (tgt := 35) hx hb dX0_mostOf_1 (by rw [c1]; decide) (by rw [c1]; decide) (off := 34) (by rw [c1]; decide) (by decide) ?_
    refine lv_bipush (v := nI 15) hx hb dX0_mostOf_35 (by decide) ?_
    exact hz_ri hx hb hr hlocks rfl (by first | exact (mo_1 c1).symm | exact (mo_2 c1).symm | exact (mo_3 c1).symm | exact (mo_4 c1).symm | exact (mo_0 c1).symm) dX0_mostOf_37
  · refine lv_tableIn (tgt := 38) hx hb dX0_mostOf_1 (by rw [c1]; decide) (by rw [c1]; decide) (off := 37) (by rw [c1]; decide) (by decide) ?_
    refine lv_ldc (v := nI 99999) hx hb hown wd1 dX0_mostOf_38 ?_
    exact hz_ri hx hb hr hlocks rfl (by first | exact (mo_1 c1).symm | exact (mo_2 c1).symm | exact (mo_3 c1).symm | exact (mo_4 c1).symm | exact (mo_0 c1).symm) dX0_mostOf_40
  · refine lv_tableIn (tgt := 41) hx hb dX0_mostOf_1 (by rw [c1]; decide) (by rw [c1]; decide) (off := 40) (by rw [c1]; decide) (by decide) ?_
    refine lv_sipush (v := nI 999) hx hb dX0_mostOf_41 (by decide) ?_
    exact hz_ri hx hb hr hlocks rfl (by first | exact (mo_1 c1).symm | exact (mo_2 c1).symm | exact (mo_3 c1).symm | exact (mo_4 c1).symm | exact (mo_0 c1).symm) dX0_mostOf_44
  · refine lv_tableOut (tgt := 45) hx hb dX0_mostOf_1 (by omega) (by decide) ?_
    refine lv_iconst (v := -1) hx hb dX0_mostOf_45 (by decide) ?_
    exact hz_ri hx hb hr hlocks rfl (by first | exact (mo_1 c1).symm | exact (mo_2 c1).symm | exact (mo_3 c1).symm | exact (mo_4 c1).symm | exact (mo_0 c1).symm) dX0_mostOf_46
