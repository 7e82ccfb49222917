set_option maxHeartbeats 4000000 in
set_option maxRecDepth 100000 in
theorem c4_in (l : Launch) (D : va_G) (cI cJ : ClassId) (v : Int64) (a b : Int32)  : hz_MP l yX4_in wsX4_in { frames := 0, cells := 0, slots := 0, locals := 0 } [.long (v), .int (a), .int (b)] D zcl [(cI, .int), (cJ, .long)] [] (.int (hz_b (a.toInt64 ≤ v ∧ v ≤ b.toInt64))) := by
  refine hz_mp (cc := cX4_in) (maxL := 4) (ret := (some .boolean)) (by decide) rfl (Nat.le_of_ble_eq_true rfl) ?_
  intro p e s m below meth c hx hb hr hts hown hlocks hml hP hK ls hl
  have hown : s.vm.findClass RX4 = some m.cls := hown
  have hl : lv_has ls 4 [(0, .long (v)), (2, .int (a)), (3, .int (b))] := hl
  refine lv_lload_n hx hb dX4_in_0 rfl (lv_at hl 0 rfl) ?_
  refine lv_iload_n hx hb dX4_in_1 rfl (lv_at hl 1 rfl) ?_
  refine lv_i2l (v := a.toInt64) hx hb dX4_in_2 rfl ?_
  refine W.lcmp hx hb dX4_in_3 ?_
  refine hz_ifl_lt (tgt := 18) hx hb dX4_in_4 (by decide) (fun c4 => ?_) (fun c4 => ?_)
  · refine lv_iconst (v := nI 0) hx hb dX4_in_18 (by decide) ?_
    exact hz_ri hx hb hr hlocks rfl (by first | exact (hz_bt ⟨Int64.not_lt.mp c4, Int64.not_lt.mp c11⟩).symm | exact (hz_bf (fun h => absurd c11 (Int64.not_lt.mpr h.2))).symm | exact (hz_bf (fun h => absurd c4 (Int64.not_lt.mpr h.1))).symm) dX4_in_19
  · refine lv_lload_n hx hb dX4_in_7 rfl (lv_at hl 0 rfl) ?_
    refine lv_iload_n hx hb dX4_in_8 rfl (lv_at hl 2 rfl) ?_
    refine lv_i2l (v := b.toInt64) hx hb dX4_in_9 rfl ?_
    refine W.lcmp hx hb dX4_in_10 ?_
    refine hz_ifl_gt (tgt := 18) hx hb dX4_in_11 (by decide) (fun c11 => ?_) (fun c11 => ?_)
    · refine lv_iconst (v := nI 0) hx hb dX4_in_18 (by decide) ?_
      exact hz_ri hx hb hr hlocks rfl (by first | exact (hz_bt ⟨Int64.not_lt.mp c4, Int64.not_lt.mp c11⟩).symm | exact (hz_bf (fun h => absurd c11 (Int64.not_lt.mpr h.2))).symm | exact (hz_bf (fun h => absurd c4 (Int64.not_lt.mpr h.1))).symm) dX4_in_19
    · refine lv_iconst (v := nI 1) hx hb dX4_in_14 (by decide) ?_
      refine lv_goto (tgt := 19) hx hb dX4_in_15 (by decide) ?_
      exact hz_ri hx hb hr hlocks rfl (by first | exact (hz_bt ⟨Int64.not_lt.mp c4, Int64.not_lt.mp c11⟩).symm | exact (hz_bf (fun h => absurd c11 (Int64.not_lt.mpr h.2))).symm | exact (hz_bf (fun h => absurd c4 (Int64.not_lt.mpr h.1))).symm) dX4_in_19
set_option maxHeartbeats 4000000 in
set_option maxRecDepth 100000 in
theorem c4_held (l : Launch) (D : va_G) (cI cJ : ClassId) (v a b : Int32)  : hz_MP l yX4_held wsX4_held { frames := 0, cells := 0, slots := 0, locals := 0 } [.int (v), .int (a), .int (b)] D zcl [(cI, .int), (cJ, .long)] [] (.int (sp_held v a b)) := by
  refine hz_mp (cc := cX4_held) (maxL := 3) (ret := (some .int)) (by decide) rfl (Nat.le_of_ble_eq_true rfl) ?_
  intro p e s m below meth c hx hb hr hts hown hlocks hml hP hK ls hl
  have hown : s.vm.findClass RX4 = some m.cls := hown
  have hl : lv_has ls 3 [(0, .int (v)), (1, .int (a)), (2, .int (b))] := hl
  refine lv_iload_n hx hb dX4_held_0 rfl (lv_at hl 0 rfl) ?_
  refine lv_iload_n hx hb dX4_held_1 rfl (lv_at hl 1 rfl) ?_
  refine lv_icmp_ge (tgt := 9) hx hb dX4_held_2 (by decide) (fun c2 => ?_) (fun c2 => ?_)
  · refine lv_iload_n hx hb dX4_held_9 rfl (lv_at hl 0 rfl) ?_
    refine lv_iload_n hx hb dX4_held_10 rfl (lv_at hl 2 rfl) ?_
    refine lv_icmp_le (tgt := 18) hx hb dX4_held_11 (by decide) (fun c11 => ?_) (fun c11 => ?_)
    · refine lv_iload_n hx hb dX4_held_18 rfl (lv_at hl 0 rfl) ?_
      exact hz_ri hx hb hr hlocks rfl (by first | exact (by rw [sp_held, if_neg (Int32.not_lt.mpr c2), if_neg (Int32.not_lt.mpr c11)]) | exact (by rw [sp_held, if_neg (Int32.not_lt.mpr c2), if_pos (Int32.not_le.mp c11)]) | exact (by rw [sp_held, if_pos (Int32.not_le.mp c2)])) dX4_held_19
    · refine lv_iload_n hx hb dX4_held_14 rfl (lv_at hl 2 rfl) ?_
      refine lv_goto (tgt := 19) hx hb dX4_held_15 (by decide) ?_
      exact hz_ri hx hb hr hlocks rfl (by first | exact (by rw [sp_held, if_neg (Int32.not_lt.mpr c2), if_neg (Int32.not_lt.mpr c11)]) | exact (by rw [sp_held, if_neg (Int32.not_lt.mpr c2), if_pos (Int32.not_le.mp c11)]) | exact (by rw [sp_held, if_pos (Int32.not_le.mp c2)])) dX4_held_19
  · refine lv_iload_n hx hb dX4_held_5 rfl (lv_at hl 1 rfl) ?_
    refine lv_goto (tgt := 19) hx hb dX4_held_6 (by decide) ?_
    exact hz_ri hx hb hr hlocks rfl (by first | exact (by rw [sp_held, if_neg (Int32.not_lt.mpr c2), if_neg (Int32.not_lt.mpr c11)]) | exact (by rw [sp_held, if_neg (Int32.not_lt.mpr c2), if_pos (Int32.not_le.mp c11)]) | exact (by rw [sp_held, if_pos (Int32.not_le.mp c2)])) dX4_held_19
set_option maxHeartbeats 4000000 in
set_option maxRecDepth 100000 in
theorem c4_it (l : Launch) (D : va_G) (cI cJ : ClassId) (h0 am : Nat) (fs : List Value) (M : Nat → Int32) (d w : Nat) (hf : fs[0]? = some (.ref am)) (hd : d < 8) (hw : w < 5) : hz_MP l yX4_it wsX4_it { frames := 0, cells := 0, slots := 0, locals := 0 } [.ref h0, .int (nI d), .int (nI w)] D zcl [(cI, .int), (cJ, .long)] [(h0, .inr (4, fs)), (am, .inl (cI, 75, .inl M))] (.int (M (3 + 5 * d + w))) := by
  refine hz_mp (cc := cX4_it) (maxL := 3) (ret := (some .int)) (by decide) rfl (Nat.le_of_ble_eq_true rfl) ?_
  intro p e s m below meth c hx hb hr hts hown hlocks hml hP hK ls hl
  have hown : s.vm.findClass RX4 = some m.cls := hown
  have hl : lv_has ls 3 [(0, .ref h0), (1, .int (nI d)), (2, .int (nI w))] := hl
  have hinX4 : ∀ w ∈ u_ws RX4 TX4 16, w ∈ wsX4_it := fun w h => List.mem_cons_of_mem _ (List.mem_append_right _ (h))
  have wd1 := hts (.fieldLink RX4 9 "HurtSpeechModel" "m" "[I") (List.mem_of_getElem? (i := 1) rfl)
  refine lv_aload_n hx hb dX4_it_0 rfl (lv_at hl 0 rfl) ?_
  refine va_get hx hb hts hinX4 hown hK hP 0 rfl rfl 0 (by decide) wd1 (fun _ h => h) hf dX4_it_1 ?_
  refine lv_iconst (v := nI 3) hx hb dX4_it_4 (by decide) ?_
  refine lv_iconst (v := nI 5) hx hb dX4_it_5 (by decide) ?_
  refine lv_iload_n hx hb dX4_it_6 rfl (lv_at hl 1 rfl) ?_
  refine hz_imul hx hb dX4_it_7 ?_
  refine hz_iadd hx hb dX4_it_8 ?_
  refine lv_iload_n hx hb dX4_it_9 rfl (lv_at hl 2 rfl) ?_
  refine hz_iadd hx hb dX4_it_10 ?_
  refine hz_iald (j := 3 + 5 * d + w) hx hb hK hP 1 0 rfl rfl (by omega) (Nat.le_of_ble_eq_true rfl) dX4_it_11 ?_
  exact hz_ri hx hb hr hlocks rfl (rfl) dX4_it_12
set_option maxHeartbeats 4000000 in
set_option maxRecDepth 100000 in
theorem c4_about (l : Launch) (D : va_G) (cI cJ : ClassId) (h0 am : Nat) (fs : List Value) (M : Nat → Int32) (z w : Nat) (hf : fs[0]? = some (.ref am)) (hs : z < 8) (hw : w < 4) : hz_MP l yX4_about wsX4_about { frames := 0, cells := 0, slots := 0, locals := 0 } [.ref h0, .int (nI z), .int (nI w)] D zcl [(cI, .int), (cJ, .long)] [(h0, .inr (4, fs)), (am, .inl (cI, 75, .inl M))] (.int (M (43 + 4 * z + w))) := by
  refine hz_mp (cc := cX4_about) (maxL := 3) (ret := (some .int)) (by decide) rfl (Nat.le_of_ble_eq_true rfl) ?_
  intro p e s m below meth c hx hb hr hts hown hlocks hml hP hK ls hl
  have hown : s.vm.findClass RX4 = some m.cls := hown
  have hl : lv_has ls 3 [(0, .ref h0), (1, .int (nI z)), (2, .int (nI w))] := hl
  have hinX4 : ∀ w ∈ u_ws RX4 TX4 16, w ∈ wsX4_about := fun w h => List.mem_cons_of_mem _ (List.mem_append_right _ (h))
  have wd1 := hts (.fieldLink RX4 9 "HurtSpeechModel" "m" "[I") (List.mem_of_getElem? (i := 1) rfl)
  refine lv_aload_n hx hb dX4_about_0 rfl (lv_at hl 0 rfl) ?_
  refine va_get hx hb hts hinX4 hown hK hP 0 rfl rfl 0 (by decide) wd1 (fun _ h => h) hf dX4_about_1 ?_
  refine lv_bipush (v := nI 43) hx hb dX4_about_4 (by decide) ?_
  refine lv_iconst (v := nI 4) hx hb dX4_about_6 (by decide) ?_
  refine lv_iload_n hx hb dX4_about_7 rfl (lv_at hl 1 rfl) ?_
  refine hz_imul hx hb dX4_about_8 ?_
  refine hz_iadd hx hb dX4_about_9 ?_
  refine lv_iload_n hx hb dX4_about_10 rfl (lv_at hl 2 rfl) ?_
  refine hz_iadd hx hb dX4_about_11 ?_
  refine hz_iald (j := 43 + 4 * z + w) hx hb hK hP 1 0 rfl rfl (by omega) (Nat.le_of_ble_eq_true rfl) dX4_about_12 ?_
  exact hz_ri hx hb hr hlocks rfl (rfl) dX4_about_13
set_option maxHeartbeats 4000000 in
set_option maxRecDepth 100000 in
theorem c4_losesBy (l : Launch) (D : va_G) (cI cJ : ClassId) (h0 am : Nat) (fs : List Value) (M : Nat → Int32) (d z : Nat) (f : Int32) (hf : fs[0]? = some (.ref am)) (hd : d < 8) (hs : z < 8) : hz_MP l yX4_losesBy wsX4_losesBy { frames := 1, cells := 0, slots := 0, locals := 22 } [.ref h0, .int (nI d), .int (nI z), .int (f)] D zcl [(cI, .int), (cJ, .long)] [(h0, .inr (4, fs)), (am, .inl (cI, 75, .inl M))] (.int (sp_loses M d z f)) := by
  refine hz_mp (cc := cX4_losesBy) (maxL := 7) (ret := (some .int)) (by decide) rfl (Nat.le_of_ble_eq_true rfl) ?_
  intro p e s m below meth c hx hb hr hts hown hlocks hml hP hK ls hl
  have hown : s.vm.findClass RX4 = some m.cls := hown
  have hl : lv_has ls 7 [(0, .ref h0), (1, .int (nI d)), (2, .int (nI z)), (3, .int (f))] := hl
  refine lv_aload_n hx hb dX4_losesBy_0 rfl (lv_at hl 0 rfl) ?_
  refine lv_iload_n hx hb dX4_losesBy_1 rfl (lv_at hl 2 rfl) ?_
  refine lv_iconst (v := nI 0) hx hb dX4_losesBy_2 (by decide) ?_
  refine hz_cv (As := [.int (nI z), .int (nI 0)]) (rest := []) ⟨hx, hb, hml, hown, hts⟩ (c4_about l D cI cJ (h0 := h0) (am := am) (fs := fs) (M := M) (z := z) (w := 0) (hf := by first | assumption | rfl) (hs := by omega) (hw := by omega)) (cwV 2 hts gX4_losesBy_X4_about rfl rfl rfl (by decide +kernel) ⟨Nat.le_of_ble_eq_true rfl, Nat.le_of_ble_eq_true rfl⟩) hK hP [0, 1] rfl [0, 1] rfl 0 rfl rfl rfl rfl hl.1 rfl (Nat.le_of_ble_eq_true rfl) dX4_losesBy_3 ⟨Nat.zero_le _, Nat.zero_le _⟩ ?_
  refine hz_ct (y := M (43 + 4 * z)) rfl ?_
  refine lv_iload_n hx hb dX4_losesBy_6 rfl (lv_at hl 1 rfl) ?_
  refine lv_icmp_eq (tgt := 19) hx hb dX4_losesBy_7 (by decide) (fun c7 => ?_) (fun c7 => ?_)
  · refine lv_iconst (v := nI 0) hx hb dX4_losesBy_19 (by decide) ?_
    exact hz_ri hx hb hr hlocks rfl (by first | exact (by rw [sp_loses, if_pos c7]) | exact (by rw [sp_loses, if_neg c7, if_neg c16]) | (rw [sp_loses, if_neg c7, if_pos c16]; first | exact (k5_1 c77).symm | exact (k5_2 c77).symm | exact (k5_0 c77).symm | (rw [k5_3 c77]; first | exact (if_pos c121).symm | exact (if_neg c121).symm) | (rw [k5_4 c77]; first | exact (if_pos c141).symm | exact (if_neg c141).symm) | (rw [k5_5 c77]; first | exact (if_pos c154).symm | exact (if_neg c154).symm))) dX4_losesBy_20
  · refine lv_aload_n hx hb dX4_losesBy_10 rfl (lv_at hl 0 rfl) ?_
    refine lv_iload_n hx hb dX4_losesBy_11 rfl (lv_at hl 2 rfl) ?_
    refine lv_iconst (v := nI 2) hx hb dX4_losesBy_12 (by decide) ?_
    refine hz_cv (As := [.int (nI z), .int (nI 2)]) (rest := []) ⟨hx, hb, hml, hown, hts⟩ (c4_about l D cI cJ (h0 := h0) (am := am) (fs := fs) (M := M) (z := z) (w := 2) (hf := by first | assumption | rfl) (hs := by omega) (hw := by omega)) (cwV 2 hts gX4_losesBy_X4_about rfl rfl rfl (by decide +kernel) ⟨Nat.le_of_ble_eq_true rfl, Nat.le_of_ble_eq_true rfl⟩) hK hP [0, 1] rfl [0, 1] rfl 0 rfl rfl rfl rfl hl.1 rfl (Nat.le_of_ble_eq_true rfl) dX4_losesBy_13 ⟨Nat.zero_le _, Nat.zero_le _⟩ ?_
    refine lv_if_ge (tgt := 21) hx hb dX4_losesBy_16 (by decide) (fun c16 => ?_) (fun c16 => ?_)
    · refine lv_aload_n hx hb dX4_losesBy_21 rfl (lv_at hl 0 rfl) ?_
      refine lv_iload_n hx hb dX4_losesBy_22 rfl (lv_at hl 2 rfl) ?_
      refine lv_iconst (v := nI 2) hx hb dX4_losesBy_23 (by decide) ?_
      refine hz_cv (As := [.int (nI z), .int (nI 2)]) (rest := []) ⟨hx, hb, hml, hown, hts⟩ (c4_about l D cI cJ (h0 := h0) (am := am) (fs := fs) (M := M) (z := z) (w := 2) (hf := by first | assumption | rfl) (hs := by omega) (hw := by omega)) (cwV 2 hts gX4_losesBy_X4_about rfl rfl rfl (by decide +kernel) ⟨Nat.le_of_ble_eq_true rfl, Nat.le_of_ble_eq_true rfl⟩) hK hP [0, 1] rfl [0, 1] rfl 0 rfl rfl rfl rfl hl.1 rfl (Nat.le_of_ble_eq_true rfl) dX4_losesBy_24 ⟨Nat.zero_le _, Nat.zero_le _⟩ ?_
      refine lv_iload_n hx hb dX4_losesBy_27 rfl (lv_at hl 1 rfl) ?_
      refine hz_dia (ls := ls) (sp_plain M d z f) 38 [] (fun jn38 => ?_) ?_
      · refine lv_icmp_ne (tgt := 35) hx hb dX4_losesBy_28 (by decide) (fun c28 => ?_) (fun c28 => ?_)
        · refine lv_iload_n hx hb dX4_losesBy_35 rfl (lv_at hl 3 rfl) ?_
          refine lv_iconst (v := nI 5) hx hb dX4_losesBy_36 (by decide) ?_
          refine lv_idiv hx hb dX4_losesBy_37 (by decide) ?_
          exact hz_ct (by first | exact (if_pos c28).symm | exact (if_neg c28).symm) jn38
        · refine lv_iload_n hx hb dX4_losesBy_31 rfl (lv_at hl 3 rfl) ?_
          refine lv_goto (tgt := 38) hx hb dX4_losesBy_32 (by decide) ?_
          exact hz_ct (by first | exact (if_pos c28).symm | exact (if_neg c28).symm) jn38
      · refine lv_istore (lv' := [(4, .int (sp_plain M d z f)), (0, .ref h0), (1, .int (nI d)), (2, .int (nI z)), (3, .int (f))]) hx hb dX4_losesBy_38 hl (by decide) rfl (fun ls hl => ?_)
        refine lv_aload_n hx hb dX4_losesBy_40 rfl (lv_at hl 1 rfl) ?_
        refine lv_iload_n hx hb dX4_losesBy_41 rfl (lv_at hl 3 rfl) ?_
        refine lv_iconst (v := nI 1) hx hb dX4_losesBy_42 (by decide) ?_
        refine hz_cv (As := [.int (nI z), .int (nI 1)]) (rest := []) ⟨hx, hb, hml, hown, hts⟩ (c4_about l D cI cJ (h0 := h0) (am := am) (fs := fs) (M := M) (z := z) (w := 1) (hf := by first | assumption | rfl) (hs := by omega) (hw := by omega)) (cwV 2 hts gX4_losesBy_X4_about rfl rfl rfl (by decide +kernel) ⟨Nat.le_of_ble_eq_true rfl, Nat.le_of_ble_eq_true rfl⟩) hK hP [0, 1] rfl [0, 1] rfl 0 rfl rfl rfl rfl hl.1 rfl (Nat.le_of_ble_eq_true rfl) dX4_losesBy_43 ⟨Nat.zero_le _, Nat.zero_le _⟩ ?_
        refine lv_iconst (v := nI 1) hx hb dX4_losesBy_46 (by decide) ?_
        refine hz_dia (ls := ls) (sp_peer M d z f) 56 [] (fun jn56 => ?_) ?_
        · refine lv_icmp_ne (tgt := 55) hx hb dX4_losesBy_47 (by decide) (fun c47 => ?_) (fun c47 => ?_)
          · refine lv_iconst (v := nI 0) hx hb dX4_losesBy_55 (by decide) ?_
            exact hz_ct (by first | exact (if_pos c47).symm | exact (if_neg c47).symm) jn56
          · refine lv_iload hx hb dX4_losesBy_50 (lv_at hl 0 rfl) ?_
            refine lv_goto (tgt := 56) hx hb dX4_losesBy_52 (by decide) ?_
            exact hz_ct (by first | exact (if_pos c47).symm | exact (if_neg c47).symm) jn56
        · refine lv_istore (lv' := [(5, .int (sp_peer M d z f)), (4, .int (sp_plain M d z f)), (0, .ref h0), (1, .int (nI d)), (2, .int (nI z)), (3, .int (f))]) hx hb dX4_losesBy_56 hl (by decide) rfl (fun ls hl => ?_)
          refine lv_iload hx hb dX4_losesBy_58 (lv_at hl 0 rfl) ?_
          refine lv_aload_n hx hb dX4_losesBy_60 rfl (lv_at hl 2 rfl) ?_
          refine lv_iload_n hx hb dX4_losesBy_61 rfl (lv_at hl 3 rfl) ?_
          refine lv_iconst (v := nI 1) hx hb dX4_losesBy_62 (by decide) ?_
          refine hz_cv (As := [.int (nI d), .int (nI 1)]) (rest := [.int (sp_peer M d z f)]) ⟨hx, hb, hml, hown, hts⟩ (c4_it l D cI cJ (h0 := h0) (am := am) (fs := fs) (M := M) (d := d) (w := 1) (hf := by first | assumption | rfl) (hd := by omega) (hw := by omega)) (cwV 2 hts gX4_losesBy_X4_it rfl rfl rfl (by decide +kernel) ⟨Nat.le_of_ble_eq_true rfl, Nat.le_of_ble_eq_true rfl⟩) hK hP [0, 1] rfl [0, 1] rfl 0 rfl rfl rfl rfl hl.1 rfl (Nat.le_of_ble_eq_true rfl) dX4_losesBy_63 ⟨Nat.zero_le _, Nat.zero_le _⟩ ?_
          refine lv_iconst (v := nI 2) hx hb dX4_losesBy_66 (by decide) ?_
          refine lv_idiv hx hb dX4_losesBy_67 (by decide) ?_
          refine lv_isub hx hb dX4_losesBy_68 ?_
          refine lv_istore (lv' := [(6, .int ((sp_peer M d z f) - ((M (3 + 5 * d + 1)) / (nI 2)))), (5, .int (sp_peer M d z f)), (4, .int (sp_plain M d z f)), (0, .ref h0), (1, .int (nI d)), (2, .int (nI z)), (3, .int (f))]) hx hb dX4_losesBy_69 hl (by decide) rfl (fun ls hl => ?_)
          have eL : sp_peer M d z f - M (3 + 5 * d + 1) / nI 2 = sp_lord M d z f := rfl
          refine lv_aload_n hx hb dX4_losesBy_71 rfl (lv_at hl 3 rfl) ?_
          refine lv_iload_n hx hb dX4_losesBy_72 rfl (lv_at hl 4 rfl) ?_
          refine lv_iconst (v := nI 0) hx hb dX4_losesBy_73 (by decide) ?_
          refine hz_cv (As := [.int (nI d), .int (nI 0)]) (rest := []) ⟨hx, hb, hml, hown, hts⟩ (c4_it l D cI cJ (h0 := h0) (am := am) (fs := fs) (M := M) (d := d) (w := 0) (hf := by first | assumption | rfl) (hd := by omega) (hw := by omega)) (cwV 2 hts gX4_losesBy_X4_it rfl rfl rfl (by decide +kernel) ⟨Nat.le_of_ble_eq_true rfl, Nat.le_of_ble_eq_true rfl⟩) hK hP [0, 1] rfl [0, 1] rfl 0 rfl rfl rfl rfl hl.1 rfl (Nat.le_of_ble_eq_true rfl) dX4_losesBy_74 ⟨Nat.zero_le _, Nat.zero_le _⟩ ?_
          refine hz_ct (y := M (3 + 5 * d)) rfl ?_
          rcases hz_sw1_5 (M (3 + 5 * d)) with c77 | c77 | c77 | c77 | c77 | c77
          · refine lv_tableIn (tgt := 112) hx hb dX4_losesBy_77 (by rw [c77]; decide) (by rw [c77]; decide) (off := 35) (by rw [c77]; decide) (by decide) ?_
            refine lv_iload hx hb dX4_losesBy_112 (lv_at hl 1 rfl) ?_
            exact hz_ri hx hb hr hlocks rfl (by first | exact (by rw [sp_loses, if_pos c7]) | exact (by rw [sp_loses, if_neg c7, if_neg c16]) | (rw [sp_loses, if_neg c7, if_pos c16]; first | exact (k5_1 c77).symm | exact (k5_2 c77).symm | exact (k5_0 c77).symm | (rw [k5_3 c77]; first | exact (if_pos c121).symm | exact (if_neg c121).symm) | (rw [k5_4 c77]; first | exact (if_pos c141).symm | exact (if_neg c141).symm) | (rw [k5_5 c77]; first | exact (if_pos c154).symm | exact (if_neg c154).symm))) dX4_losesBy_114
          · refine lv_tableIn (tgt := 115) hx hb dX4_losesBy_77 (by rw [c77]; decide) (by rw [c77]; decide) (off := 38) (by rw [c77]; decide) (by decide) ?_
            refine lv_iload hx hb dX4_losesBy_115 (lv_at hl 2 rfl) ?_
            refine lv_iconst (v := nI 2) hx hb dX4_losesBy_117 (by decide) ?_
            refine lv_idiv hx hb dX4_losesBy_118 (by decide) ?_
            exact hz_ri hx hb hr hlocks rfl (by first | exact (by rw [sp_loses, if_pos c7]) | exact (by rw [sp_loses, if_neg c7, if_neg c16]) | (rw [sp_loses, if_neg c7, if_pos c16]; first | exact (k5_1 c77).symm | exact (k5_2 c77).symm | exact (k5_0 c77).symm | (rw [k5_3 c77]; first | exact (if_pos c121).symm | exact (if_neg c121).symm) | (rw [k5_4 c77]; first | exact (if_pos c141).symm | exact (if_neg c141).symm) | (rw [k5_5 c77]; first | exact (if_pos c154).symm | exact (if_neg c154).symm))) dX4_losesBy_119
          · refine lv_tableIn (tgt := 120) hx hb dX4_losesBy_77 (by rw [c77]; decide) (by rw [c77]; decide) (off := 43) (by rw [c77]; decide) (by decide) ?_
            refine lv_iload_n hx hb dX4_losesBy_120 rfl (lv_at hl 6 rfl) ?_
            refine lv_if_le (tgt := 136) hx hb dX4_losesBy_121 (by decide) (fun c121 => ?_) (fun c121 => ?_)
            · refine lv_iload hx hb dX4_losesBy_136 (lv_at hl 2 rfl) ?_
              exact hz_ri hx hb hr hlocks rfl (by first | exact (by rw [sp_loses, if_pos c7]) | exact (by rw [sp_loses, if_neg c7, if_neg c16]) | (rw [sp_loses, if_neg c7, if_pos c16]; first | exact (k5_1 c77).symm | exact (k5_2 c77).symm | exact (k5_0 c77).symm | (rw [k5_3 c77]; first | exact (if_pos c121).symm | exact (if_neg c121).symm) | (rw [k5_4 c77]; first | exact (if_pos c141).symm | exact (if_neg c141).symm) | (rw [k5_5 c77]; first | exact (if_pos c154).symm | exact (if_neg c154).symm))) dX4_losesBy_138
            · refine lv_iload hx hb dX4_losesBy_124 (lv_at hl 2 rfl) ?_
              refine lv_aload_n hx hb dX4_losesBy_126 rfl (lv_at hl 3 rfl) ?_
              refine lv_iload_n hx hb dX4_losesBy_127 rfl (lv_at hl 4 rfl) ?_
              refine lv_iconst (v := nI 1) hx hb dX4_losesBy_128 (by decide) ?_
              refine hz_cv (As := [.int (nI d), .int (nI 1)]) (rest := [.int (sp_plain M d z f)]) ⟨hx, hb, hml, hown, hts⟩ (c4_it l D cI cJ (h0 := h0) (am := am) (fs := fs) (M := M) (d := d) (w := 1) (hf := by first | assumption | rfl) (hd := by omega) (hw := by omega)) (cwV 2 hts gX4_losesBy_X4_it rfl rfl rfl (by decide +kernel) ⟨Nat.le_of_ble_eq_true rfl, Nat.le_of_ble_eq_true rfl⟩) hK hP [0, 1] rfl [0, 1] rfl 0 rfl rfl rfl rfl hl.1 rfl (Nat.le_of_ble_eq_true rfl) dX4_losesBy_129 ⟨Nat.zero_le _, Nat.zero_le _⟩ ?_
              refine lv_iadd hx hb dX4_losesBy_132 ?_
              refine lv_goto (tgt := 138) hx hb dX4_losesBy_133 (by decide) ?_
              exact hz_ri hx hb hr hlocks rfl (by first | exact (by rw [sp_loses, if_pos c7]) | exact (by rw [sp_loses, if_neg c7, if_neg c16]) | (rw [sp_loses, if_neg c7, if_pos c16]; first | exact (k5_1 c77).symm | exact (k5_2 c77).symm | exact (k5_0 c77).symm | (rw [k5_3 c77]; first | exact (if_pos c121).symm | exact (if_neg c121).symm) | (rw [k5_4 c77]; first | exact (if_pos c141).symm | exact (if_neg c141).symm) | (rw [k5_5 c77]; first | exact (if_pos c154).symm | exact (if_neg c154).symm))) dX4_losesBy_138
          · refine lv_tableIn (tgt := 139) hx hb dX4_losesBy_77 (by rw [c77]; decide) (by rw [c77]; decide) (off := 62) (by rw [c77]; decide) (by decide) ?_
            refine lv_iload hx hb dX4_losesBy_139 (lv_at hl 0 rfl) ?_
            refine lv_if_ge (tgt := 148) hx hb dX4_losesBy_141 (by decide) (fun c141 => ?_) (fun c141 => ?_)
            · refine lv_iload hx hb dX4_losesBy_148 (lv_at hl 0 rfl) ?_
              exact hz_ri hx hb hr hlocks rfl (by first | exact (by rw [sp_loses, if_pos c7]) | exact (by rw [sp_loses, if_neg c7, if_neg c16]) | (rw [sp_loses, if_neg c7, if_pos c16]; first | exact (k5_1 c77).symm | exact (k5_2 c77).symm | exact (k5_0 c77).symm | (rw [k5_3 c77]; first | exact (if_pos c121).symm | exact (if_neg c121).symm) | (rw [k5_4 c77]; first | exact (if_pos c141).symm | exact (if_neg c141).symm) | (rw [k5_5 c77]; first | exact (if_pos c154).symm | exact (if_neg c154).symm))) dX4_losesBy_150
            · refine lv_iconst (v := nI 0) hx hb dX4_losesBy_144 (by decide) ?_
              refine lv_goto (tgt := 150) hx hb dX4_losesBy_145 (by decide) ?_
              exact hz_ri hx hb hr hlocks rfl (by first | exact (by rw [sp_loses, if_pos c7]) | exact (by rw [sp_loses, if_neg c7, if_neg c16]) | (rw [sp_loses, if_neg c7, if_pos c16]; first | exact (k5_1 c77).symm | exact (k5_2 c77).symm | exact (k5_0 c77).symm | (rw [k5_3 c77]; first | exact (if_pos c121).symm | exact (if_neg c121).symm) | (rw [k5_4 c77]; first | exact (if_pos c141).symm | exact (if_neg c141).symm) | (rw [k5_5 c77]; first | exact (if_pos c154).symm | exact (if_neg c154).symm))) dX4_losesBy_150
          · refine lv_tableIn (tgt := 151) hx hb dX4_losesBy_77 (by rw [c77]; decide) (by rw [c77]; decide) (off := 74) (by rw [c77]; decide) (by decide) ?_
            refine lv_iload_n hx hb dX4_losesBy_151 rfl (lv_at hl 6 rfl) ?_
            refine lv_bipush (v := nI 10) hx hb dX4_losesBy_152 (by decide) ?_
            refine lv_icmp_lt (tgt := 166) hx hb dX4_losesBy_154 (by decide) (fun c154 => ?_) (fun c154 => ?_)
            · refine lv_iload hx hb dX4_losesBy_166 (lv_at hl 2 rfl) ?_
              refine lv_iconst (v := nI 2) hx hb dX4_losesBy_168 (by decide) ?_
              refine lv_idiv hx hb dX4_losesBy_169 (by decide) ?_
              exact hz_ri hx hb hr hlocks rfl (by first | exact (by rw [sp_loses, if_pos c7]) | exact (by rw [sp_loses, if_neg c7, if_neg c16]) | (rw [sp_loses, if_neg c7, if_pos c16]; first | exact (k5_1 c77).symm | exact (k5_2 c77).symm | exact (k5_0 c77).symm | (rw [k5_3 c77]; first | exact (if_pos c121).symm | exact (if_neg c121).symm) | (rw [k5_4 c77]; first | exact (if_pos c141).symm | exact (if_neg c141).symm) | (rw [k5_5 c77]; first | exact (if_pos c154).symm | exact (if_neg c154).symm))) dX4_losesBy_170
            · refine lv_iload hx hb dX4_losesBy_157 (lv_at hl 2 rfl) ?_
              refine lv_iconst (v := nI 2) hx hb dX4_losesBy_159 (by decide) ?_
              refine lv_idiv hx hb dX4_losesBy_160 (by decide) ?_
              refine lv_iconst (v := nI 1) hx hb dX4_losesBy_161 (by decide) ?_
              refine lv_iadd hx hb dX4_losesBy_162 ?_
              refine lv_goto (tgt := 170) hx hb dX4_losesBy_163 (by decide) ?_
              exact hz_ri hx hb hr hlocks rfl (by first | exact (by rw [sp_loses, if_pos c7]) | exact (by rw [sp_loses, if_neg c7, if_neg c16]) | (rw [sp_loses, if_neg c7, if_pos c16]; first | exact (k5_1 c77).symm | exact (k5_2 c77).symm | exact (k5_0 c77).symm | (rw [k5_3 c77]; first | exact (if_pos c121).symm | exact (if_neg c121).symm) | (rw [k5_4 c77]; first | exact (if_pos c141).symm | exact (if_neg c141).symm) | (rw [k5_5 c77]; first | exact (if_pos c154).symm | exact (if_neg c154).symm))) dX4_losesBy_170
          · refine lv_tableOut (tgt := 171) hx hb dX4_losesBy_77 (by omega) (by decide) ?_
            refine lv_iload hx hb dX4_losesBy_171 (lv_at hl 2 rfl) ?_
            exact hz_ri hx hb hr hlocks rfl (by first | exact (by rw [sp_loses, if_pos c7]) | exact (by rw [sp_loses, if_neg c7, if_neg c16]) | (rw [sp_loses, if_neg c7, if_pos c16]; first | exact (k5_1 c77).symm | exact (k5_2 c77).symm | exact (k5_0 c77).symm | (rw [k5_3 c77]; first | exact (if_pos c121).symm | exact (if_neg c121).symm) | (rw [k5_4 c77]; first | exact (if_pos c141).symm | exact (if_neg c141).symm) | (rw [k5_5 c77]; first | exact (if_pos c154).symm | exact (if_neg c154).symm))) dX4_losesBy_173
    · refine lv_iconst (v := nI 0) hx hb dX4_losesBy_19 (by decide) ?_
      exact hz_ri hx hb hr hlocks rfl (by first | exact (by rw [sp_loses, if_pos c7]) | exact (by rw [sp_loses, if_neg c7, if_neg c16]) | (rw [sp_loses, if_neg c7, if_pos c16]; first | exact (k5_1 c77).symm | exact (k5_2 c77).symm | exact (k5_0 c77).symm | (rw [k5_3 c77]; first | exact (if_pos c121).symm | exact (if_neg c121).symm) | (rw [k5_4 c77]; first | exact (if_pos c141).symm | exact (if_neg c141).symm) | (rw [k5_5 c77]; first | exact (if_pos c154).symm | exact (if_neg c154).symm))) dX4_losesBy_20
set_option maxHeartbeats 4000000 in
set_option maxRecDepth 100000 in
theorem c4_rendersBy (l : Launch) (D : va_G) (cI cJ : ClassId) (h0 am : Nat) (fs : List Value) (M : Nat → Int32) (d : Nat) (f : Int32) (hf : fs[0]? = some (.ref am)) (hd : d < 8) : hz_MP l yX4_rendersBy wsX4_rendersBy { frames := 1, cells := 0, slots := 0, locals := 22 } [.ref h0, .int (nI d), .int (f)] D zcl [(cI, .int), (cJ, .long)] [(h0, .inr (4, fs)), (am, .inl (cI, 75, .inl M))] (.int (sp_rend M d f)) := by
  refine hz_mp (cc := cX4_rendersBy) (maxL := 4) (ret := (some .int)) (by decide) rfl (Nat.le_of_ble_eq_true rfl) ?_
  intro p e s m below meth c hx hb hr hts hown hlocks hml hP hK ls hl
  have hown : s.vm.findClass RX4 = some m.cls := hown
  have hl : lv_has ls 4 [(0, .ref h0), (1, .int (nI d)), (2, .int (f))] := hl
  refine lv_iload_n hx hb dX4_rendersBy_0 rfl (lv_at hl 2 rfl) ?_
  refine lv_aload_n hx hb dX4_rendersBy_1 rfl (lv_at hl 0 rfl) ?_
  refine lv_iload_n hx hb dX4_rendersBy_2 rfl (lv_at hl 1 rfl) ?_
  refine lv_iconst (v := nI 1) hx hb dX4_rendersBy_3 (by decide) ?_
  refine hz_cv (As := [.int (nI d), .int (nI 1)]) (rest := [.int (f)]) ⟨hx, hb, hml, hown, hts⟩ (c4_it l D cI cJ (h0 := h0) (am := am) (fs := fs) (M := M) (d := d) (w := 1) (hf := by first | assumption | rfl) (hd := by omega) (hw := by omega)) (cwV 2 hts gX4_rendersBy_X4_it rfl rfl rfl (by decide +kernel) ⟨Nat.le_of_ble_eq_true rfl, Nat.le_of_ble_eq_true rfl⟩) hK hP [0, 1] rfl [0, 1] rfl 0 rfl rfl rfl rfl hl.1 rfl (Nat.le_of_ble_eq_true rfl) dX4_rendersBy_4 ⟨Nat.zero_le _, Nat.zero_le _⟩ ?_
  refine hz_dia (ls := ls) (sp_rpl M d f) 22 [] (fun jn22 => ?_) ?_
  · refine lv_icmp_le (tgt := 21) hx hb dX4_rendersBy_7 (by decide) (fun c7 => ?_) (fun c7 => ?_)
    · refine lv_iconst (v := nI 0) hx hb dX4_rendersBy_21 (by decide) ?_
      exact hz_ct (by first | exact (if_pos c7).symm | exact (if_neg c7).symm) jn22
    · refine lv_iload_n hx hb dX4_rendersBy_10 rfl (lv_at hl 2 rfl) ?_
      refine lv_aload_n hx hb dX4_rendersBy_11 rfl (lv_at hl 0 rfl) ?_
      refine lv_iload_n hx hb dX4_rendersBy_12 rfl (lv_at hl 1 rfl) ?_
      refine lv_iconst (v := nI 1) hx hb dX4_rendersBy_13 (by decide) ?_
      refine hz_cv (As := [.int (nI d), .int (nI 1)]) (rest := [.int (f)]) ⟨hx, hb, hml, hown, hts⟩ (c4_it l D cI cJ (h0 := h0) (am := am) (fs := fs) (M := M) (d := d) (w := 1) (hf := by first | assumption | rfl) (hd := by omega) (hw := by omega)) (cwV 2 hts gX4_rendersBy_X4_it rfl rfl rfl (by decide +kernel) ⟨Nat.le_of_ble_eq_true rfl, Nat.le_of_ble_eq_true rfl⟩) hK hP [0, 1] rfl [0, 1] rfl 0 rfl rfl rfl rfl hl.1 rfl (Nat.le_of_ble_eq_true rfl) dX4_rendersBy_14 ⟨Nat.zero_le _, Nat.zero_le _⟩ ?_
      refine lv_isub hx hb dX4_rendersBy_17 ?_
      refine lv_goto (tgt := 22) hx hb dX4_rendersBy_18 (by decide) ?_
      exact hz_ct (by first | exact (if_pos c7).symm | exact (if_neg c7).symm) jn22
  · refine lv_istore_n (lv' := [(3, .int (sp_rpl M d f)), (0, .ref h0), (1, .int (nI d)), (2, .int (f))]) hx hb dX4_rendersBy_22 rfl hl (by decide) rfl (fun ls hl => ?_)
    refine lv_aload_n hx hb dX4_rendersBy_23 rfl (lv_at hl 1 rfl) ?_
    refine lv_iload_n hx hb dX4_rendersBy_24 rfl (lv_at hl 2 rfl) ?_
    refine lv_iconst (v := nI 0) hx hb dX4_rendersBy_25 (by decide) ?_
    refine hz_cv (As := [.int (nI d), .int (nI 0)]) (rest := []) ⟨hx, hb, hml, hown, hts⟩ (c4_it l D cI cJ (h0 := h0) (am := am) (fs := fs) (M := M) (d := d) (w := 0) (hf := by first | assumption | rfl) (hd := by omega) (hw := by omega)) (cwV 2 hts gX4_rendersBy_X4_it rfl rfl rfl (by decide +kernel) ⟨Nat.le_of_ble_eq_true rfl, Nat.le_of_ble_eq_true rfl⟩) hK hP [0, 1] rfl [0, 1] rfl 0 rfl rfl rfl rfl hl.1 rfl (Nat.le_of_ble_eq_true rfl) dX4_rendersBy_26 ⟨Nat.zero_le _, Nat.zero_le _⟩ ?_
    refine hz_ct (y := M (3 + 5 * d)) rfl ?_
    rcases hz_sw1_5 (M (3 + 5 * d)) with c29 | c29 | c29 | c29 | c29 | c29
    · refine lv_tableIn (tgt := 64) hx hb dX4_rendersBy_29 (by rw [c29]; decide) (by rw [c29]; decide) (off := 35) (by rw [c29]; decide) (by decide) ?_
      refine lv_iload_n hx hb dX4_rendersBy_64 rfl (lv_at hl 3 rfl) ?_
      refine lv_iconst (v := nI 2) hx hb dX4_rendersBy_65 (by decide) ?_
      refine lv_idiv hx hb dX4_rendersBy_66 (by decide) ?_
      exact hz_ri hx hb hr hlocks rfl (by rw [sp_rend]; first | exact (k5_1 c29).symm | exact (k5_2 c29).symm | exact (k5_3 c29).symm | exact (k5_4 c29).symm | exact (k5_0 c29).symm | (rw [k5_5 c29]; first | exact (if_pos c94).symm | exact (if_neg c94).symm)) dX4_rendersBy_67
    · refine lv_tableIn (tgt := 68) hx hb dX4_rendersBy_29 (by rw [c29]; decide) (by rw [c29]; decide) (off := 39) (by rw [c29]; decide) (by decide) ?_
      refine lv_iload_n hx hb dX4_rendersBy_68 rfl (lv_at hl 3 rfl) ?_
      exact hz_ri hx hb hr hlocks rfl (by rw [sp_rend]; first | exact (k5_1 c29).symm | exact (k5_2 c29).symm | exact (k5_3 c29).symm | exact (k5_4 c29).symm | exact (k5_0 c29).symm | (rw [k5_5 c29]; first | exact (if_pos c94).symm | exact (if_neg c94).symm)) dX4_rendersBy_69
    · refine lv_tableIn (tgt := 70) hx hb dX4_rendersBy_29 (by rw [c29]; decide) (by rw [c29]; decide) (off := 41) (by rw [c29]; decide) (by decide) ?_
      refine lv_iconst (v := nI 2) hx hb dX4_rendersBy_70 (by decide) ?_
      refine lv_iload_n hx hb dX4_rendersBy_71 rfl (lv_at hl 0 rfl) ?_
      refine lv_imul hx hb dX4_rendersBy_72 ?_
      refine lv_iconst (v := nI 0) hx hb dX4_rendersBy_73 (by decide) ?_
      refine lv_bipush (v := nI 99) hx hb dX4_rendersBy_74 (by decide) ?_
      refine hz_cs (As := [.int ((nI 2) * (sp_rpl M d f)), .int (nI 0), .int (nI 99)]) (rest := []) ⟨hx, hb, hml, hown, hts⟩ (c4_held l D cI cJ (v := (nI 2) * (sp_rpl M d f)) (a := nI 0) (b := nI 99) ) (va_cwS 3 hts gX4_rendersBy_X4_held rfl rfl rfl (by decide +kernel) ⟨Nat.le_of_ble_eq_true rfl, Nat.le_of_ble_eq_true rfl⟩) hK hP [] rfl [0, 1] rfl rfl hl.1 rfl (Nat.le_of_ble_eq_true rfl) dX4_rendersBy_76 ⟨Nat.zero_le _, Nat.zero_le _⟩ ?_
      exact hz_ri hx hb hr hlocks rfl (by rw [sp_rend]; first | exact (k5_1 c29).symm | exact (k5_2 c29).symm | exact (k5_3 c29).symm | exact (k5_4 c29).symm | exact (k5_0 c29).symm | (rw [k5_5 c29]; first | exact (if_pos c94).symm | exact (if_neg c94).symm)) dX4_rendersBy_79
    · refine lv_tableIn (tgt := 80) hx hb dX4_rendersBy_29 (by rw [c29]; decide) (by rw [c29]; decide) (off := 51) (by rw [c29]; decide) (by decide) ?_
      refine lv_iload_n hx hb dX4_rendersBy_80 rfl (lv_at hl 3 rfl) ?_
      refine lv_iconst (v := nI 2) hx hb dX4_rendersBy_81 (by decide) ?_
      refine lv_idiv hx hb dX4_rendersBy_82 (by decide) ?_
      refine lv_aload_n hx hb dX4_rendersBy_83 rfl (lv_at hl 1 rfl) ?_
      refine lv_iload_n hx hb dX4_rendersBy_84 rfl (lv_at hl 2 rfl) ?_
      refine lv_iconst (v := nI 1) hx hb dX4_rendersBy_85 (by decide) ?_
      refine hz_cv (As := [.int (nI d), .int (nI 1)]) (rest := [.int (f / (nI 2))]) ⟨hx, hb, hml, hown, hts⟩ (c4_it l D cI cJ (h0 := h0) (am := am) (fs := fs) (M := M) (d := d) (w := 1) (hf := by first | assumption | rfl) (hd := by omega) (hw := by omega)) (cwV 2 hts gX4_rendersBy_X4_it rfl rfl rfl (by decide +kernel) ⟨Nat.le_of_ble_eq_true rfl, Nat.le_of_ble_eq_true rfl⟩) hK hP [0, 1] rfl [0, 1] rfl 0 rfl rfl rfl rfl hl.1 rfl (Nat.le_of_ble_eq_true rfl) dX4_rendersBy_86 ⟨Nat.zero_le _, Nat.zero_le _⟩ ?_
      refine lv_iconst (v := nI 4) hx hb dX4_rendersBy_89 (by decide) ?_
      refine lv_idiv hx hb dX4_rendersBy_90 (by decide) ?_
      refine lv_iadd hx hb dX4_rendersBy_91 ?_
      exact hz_ri hx hb hr hlocks rfl (by rw [sp_rend]; first | exact (k5_1 c29).symm | exact (k5_2 c29).symm | exact (k5_3 c29).symm | exact (k5_4 c29).symm | exact (k5_0 c29).symm | (rw [k5_5 c29]; first | exact (if_pos c94).symm | exact (if_neg c94).symm)) dX4_rendersBy_92
    · refine lv_tableIn (tgt := 93) hx hb dX4_rendersBy_29 (by rw [c29]; decide) (by rw [c29]; decide) (off := 64) (by rw [c29]; decide) (by decide) ?_
      refine lv_iload_n hx hb dX4_rendersBy_93 rfl (lv_at hl 3 rfl) ?_
      refine lv_if_le (tgt := 103) hx hb dX4_rendersBy_94 (by decide) (fun c94 => ?_) (fun c94 => ?_)
      · refine lv_iconst (v := nI 0) hx hb dX4_rendersBy_103 (by decide) ?_
        exact hz_ri hx hb hr hlocks rfl (by rw [sp_rend]; first | exact (k5_1 c29).symm | exact (k5_2 c29).symm | exact (k5_3 c29).symm | exact (k5_4 c29).symm | exact (k5_0 c29).symm | (rw [k5_5 c29]; first | exact (if_pos c94).symm | exact (if_neg c94).symm)) dX4_rendersBy_104
      · refine lv_iload_n hx hb dX4_rendersBy_97 rfl (lv_at hl 3 rfl) ?_
        refine lv_iconst (v := nI 1) hx hb dX4_rendersBy_98 (by decide) ?_
        refine lv_isub hx hb dX4_rendersBy_99 ?_
        refine lv_goto (tgt := 104) hx hb dX4_rendersBy_100 (by decide) ?_
        exact hz_ri hx hb hr hlocks rfl (by rw [sp_rend]; first | exact (k5_1 c29).symm | exact (k5_2 c29).symm | exact (k5_3 c29).symm | exact (k5_4 c29).symm | exact (k5_0 c29).symm | (rw [k5_5 c29]; first | exact (if_pos c94).symm | exact (if_neg c94).symm)) dX4_rendersBy_104
    · refine lv_tableOut (tgt := 105) hx hb dX4_rendersBy_29 (by omega) (by decide) ?_
      refine lv_iload_n hx hb dX4_rendersBy_105 rfl (lv_at hl 0 rfl) ?_
      exact hz_ri hx hb hr hlocks rfl (by rw [sp_rend]; first | exact (k5_1 c29).symm | exact (k5_2 c29).symm | exact (k5_3 c29).symm | exact (k5_4 c29).symm | exact (k5_0 c29).symm | (rw [k5_5 c29]; first | exact (if_pos c94).symm | exact (if_neg c94).symm)) dX4_rendersBy_106
set_option maxHeartbeats 4000000 in
set_option maxRecDepth 100000 in
theorem c4_doesWeep (l : Launch) (D : va_G) (cI cJ : ClassId) (h0 am : Nat) (fs : List Value) (M : Nat → Int32) (d : Nat) (hf : fs[0]? = some (.ref am)) (hd : d < 8) : hz_MP l yX4_doesWeep wsX4_doesWeep { frames := 1, cells := 0, slots := 0, locals := 22 } [.ref h0, .int (nI d)] D zcl [(cI, .int), (cJ, .long)] [(h0, .inr (4, fs)), (am, .inl (cI, 75, .inl M))] (.int (sp_wk M d)) := by
  refine hz_mp (cc := cX4_doesWeep) (maxL := 3) (ret := (some .boolean)) (by decide) rfl (Nat.le_of_ble_eq_true rfl) ?_
  intro p e s m below meth c hx hb hr hts hown hlocks hml hP hK ls hl
  have hown : s.vm.findClass RX4 = some m.cls := hown
  have hl : lv_has ls 3 [(0, .ref h0), (1, .int (nI d))] := hl
  have hinX4 : ∀ w ∈ u_ws RX4 TX4 16, w ∈ wsX4_doesWeep := fun w h => List.mem_cons_of_mem _ (List.mem_append_right _ (h))
  have wd1 := hts (.fieldLink RX4 9 "HurtSpeechModel" "m" "[I") (List.mem_of_getElem? (i := 1) rfl)
  refine lv_aload_n hx hb dX4_doesWeep_0 rfl (lv_at hl 0 rfl) ?_
  refine lv_iload_n hx hb dX4_doesWeep_1 rfl (lv_at hl 1 rfl) ?_
  refine lv_iconst (v := nI 3) hx hb dX4_doesWeep_2 (by decide) ?_
  refine hz_cv (As := [.int (nI d), .int (nI 3)]) (rest := []) ⟨hx, hb, hml, hown, hts⟩ (c4_it l D cI cJ (h0 := h0) (am := am) (fs := fs) (M := M) (d := d) (w := 3) (hf := by first | assumption | rfl) (hd := by omega) (hw := by omega)) (cwV 2 hts gX4_doesWeep_X4_it rfl rfl rfl (by decide +kernel) ⟨Nat.le_of_ble_eq_true rfl, Nat.le_of_ble_eq_true rfl⟩) hK hP [0, 1] rfl [0, 1] rfl 0 rfl rfl rfl rfl hl.1 rfl (Nat.le_of_ble_eq_true rfl) dX4_doesWeep_3 ⟨Nat.zero_le _, Nat.zero_le _⟩ ?_
  refine lv_istore_n (lv' := [(2, .int (M (3 + 5 * d + 3))), (0, .ref h0), (1, .int (nI d))]) hx hb dX4_doesWeep_6 rfl hl (by decide) rfl (fun ls hl => ?_)
  refine lv_aload_n hx hb dX4_doesWeep_7 rfl (lv_at hl 1 rfl) ?_
  refine lv_iload_n hx hb dX4_doesWeep_8 rfl (lv_at hl 2 rfl) ?_
  refine lv_iconst (v := nI 0) hx hb dX4_doesWeep_9 (by decide) ?_
  refine hz_cv (As := [.int (nI d), .int (nI 0)]) (rest := []) ⟨hx, hb, hml, hown, hts⟩ (c4_it l D cI cJ (h0 := h0) (am := am) (fs := fs) (M := M) (d := d) (w := 0) (hf := by first | assumption | rfl) (hd := by omega) (hw := by omega)) (cwV 2 hts gX4_doesWeep_X4_it rfl rfl rfl (by decide +kernel) ⟨Nat.le_of_ble_eq_true rfl, Nat.le_of_ble_eq_true rfl⟩) hK hP [0, 1] rfl [0, 1] rfl 0 rfl rfl rfl rfl hl.1 rfl (Nat.le_of_ble_eq_true rfl) dX4_doesWeep_10 ⟨Nat.zero_le _, Nat.zero_le _⟩ ?_
  refine hz_ct (y := M (3 + 5 * d)) rfl ?_
  rcases hz_sw1_5 (M (3 + 5 * d)) with c13 | c13 | c13 | c13 | c13 | c13
  · refine lv_tableIn (tgt := 48) hx hb dX4_doesWeep_13 (by rw [c13]; decide) (by rw [c13]; decide) (off := 35) (by rw [c13]; decide) (by decide) ?_
    refine lv_iload_n hx hb dX4_doesWeep_48 rfl (lv_at hl 0 rfl) ?_
    refine lv_sipush (v := nI 400) hx hb dX4_doesWeep_49 (by decide) ?_
    refine lv_icmp_lt (tgt := 59) hx hb dX4_doesWeep_52 (by decide) (fun c52 => ?_) (fun c52 => ?_)
    · refine lv_iconst (v := nI 0) hx hb dX4_doesWeep_59 (by decide) ?_
      exact hz_ri hx hb hr hlocks rfl (by rw [sp_wk]; first | (rw [k5_1 c13]; first | exact (hz_bt (Int32.not_lt.mp c52)).symm | exact (hz_bf (fun h => absurd c52 (Int32.not_lt.mpr h))).symm) | exact (k5_2 c13).symm | (rw [k5_3 c13]; first | exact (hz_bt (Int32.not_lt.mp c66)).symm | exact (hz_bf (fun h => absurd c66 (Int32.not_lt.mpr h))).symm) | (rw [k5_4 c13]; first | exact (hz_bt ⟨Int32.not_lt.mp c79, Int32.not_lt.mp c90⟩).symm | exact (hz_bf (fun h => absurd c90 (Int32.not_lt.mpr h.2))).symm | exact (hz_bf (fun h => absurd c79 (Int32.not_lt.mpr h.1))).symm) | (rw [k5_5 c13]; first | exact (hz_bt c110).symm | exact (hz_bf c110).symm) | (rw [k5_0 c13]; first | exact (hz_bt (Int32.not_lt.mp c122)).symm | exact (hz_bf (fun h => absurd c122 (Int32.not_lt.mpr h))).symm)) dX4_doesWeep_60
    · refine lv_iconst (v := nI 1) hx hb dX4_doesWeep_55 (by decide) ?_
      refine lv_goto (tgt := 60) hx hb dX4_doesWeep_56 (by decide) ?_
      exact hz_ri hx hb hr hlocks rfl (by rw [sp_wk]; first | (rw [k5_1 c13]; first | exact (hz_bt (Int32.not_lt.mp c52)).symm | exact (hz_bf (fun h => absurd c52 (Int32.not_lt.mpr h))).symm) | exact (k5_2 c13).symm | (rw [k5_3 c13]; first | exact (hz_bt (Int32.not_lt.mp c66)).symm | exact (hz_bf (fun h => absurd c66 (Int32.not_lt.mpr h))).symm) | (rw [k5_4 c13]; first | exact (hz_bt ⟨Int32.not_lt.mp c79, Int32.not_lt.mp c90⟩).symm | exact (hz_bf (fun h => absurd c90 (Int32.not_lt.mpr h.2))).symm | exact (hz_bf (fun h => absurd c79 (Int32.not_lt.mpr h.1))).symm) | (rw [k5_5 c13]; first | exact (hz_bt c110).symm | exact (hz_bf c110).symm) | (rw [k5_0 c13]; first | exact (hz_bt (Int32.not_lt.mp c122)).symm | exact (hz_bf (fun h => absurd c122 (Int32.not_lt.mpr h))).symm)) dX4_doesWeep_60
  · refine lv_tableIn (tgt := 61) hx hb dX4_doesWeep_13 (by rw [c13]; decide) (by rw [c13]; decide) (off := 48) (by rw [c13]; decide) (by decide) ?_
    refine lv_iconst (v := nI 0) hx hb dX4_doesWeep_61 (by decide) ?_
    exact hz_ri hx hb hr hlocks rfl (by rw [sp_wk]; first | (rw [k5_1 c13]; first | exact (hz_bt (Int32.not_lt.mp c52)).symm | exact (hz_bf (fun h => absurd c52 (Int32.not_lt.mpr h))).symm) | exact (k5_2 c13).symm | (rw [k5_3 c13]; first | exact (hz_bt (Int32.not_lt.mp c66)).symm | exact (hz_bf (fun h => absurd c66 (Int32.not_lt.mpr h))).symm) | (rw [k5_4 c13]; first | exact (hz_bt ⟨Int32.not_lt.mp c79, Int32.not_lt.mp c90⟩).symm | exact (hz_bf (fun h => absurd c90 (Int32.not_lt.mpr h.2))).symm | exact (hz_bf (fun h => absurd c79 (Int32.not_lt.mpr h.1))).symm) | (rw [k5_5 c13]; first | exact (hz_bt c110).symm | exact (hz_bf c110).symm) | (rw [k5_0 c13]; first | exact (hz_bt (Int32.not_lt.mp c122)).symm | exact (hz_bf (fun h => absurd c122 (Int32.not_lt.mpr h))).symm)) dX4_doesWeep_62
  · refine lv_tableIn (tgt := 63) hx hb dX4_doesWeep_13 (by rw [c13]; decide) (by rw [c13]; decide) (off := 50) (by rw [c13]; decide) (by decide) ?_
    refine lv_iload_n hx hb dX4_doesWeep_63 rfl (lv_at hl 0 rfl) ?_
    refine lv_bipush (v := nI 40) hx hb dX4_doesWeep_64 (by decide) ?_
    refine lv_icmp_lt (tgt := 73) hx hb dX4_doesWeep_66 (by decide) (fun c66 => ?_) (fun c66 => ?_)
    · refine lv_iconst (v := nI 0) hx hb dX4_doesWeep_73 (by decide) ?_
      exact hz_ri hx hb hr hlocks rfl (by rw [sp_wk]; first | (rw [k5_1 c13]; first | exact (hz_bt (Int32.not_lt.mp c52)).symm | exact (hz_bf (fun h => absurd c52 (Int32.not_lt.mpr h))).symm) | exact (k5_2 c13).symm | (rw [k5_3 c13]; first | exact (hz_bt (Int32.not_lt.mp c66)).symm | exact (hz_bf (fun h => absurd c66 (Int32.not_lt.mpr h))).symm) | (rw [k5_4 c13]; first | exact (hz_bt ⟨Int32.not_lt.mp c79, Int32.not_lt.mp c90⟩).symm | exact (hz_bf (fun h => absurd c90 (Int32.not_lt.mpr h.2))).symm | exact (hz_bf (fun h => absurd c79 (Int32.not_lt.mpr h.1))).symm) | (rw [k5_5 c13]; first | exact (hz_bt c110).symm | exact (hz_bf c110).symm) | (rw [k5_0 c13]; first | exact (hz_bt (Int32.not_lt.mp c122)).symm | exact (hz_bf (fun h => absurd c122 (Int32.not_lt.mpr h))).symm)) dX4_doesWeep_74
    · refine lv_iconst (v := nI 1) hx hb dX4_doesWeep_69 (by decide) ?_
      refine lv_goto (tgt := 74) hx hb dX4_doesWeep_70 (by decide) ?_
      exact hz_ri hx hb hr hlocks rfl (by rw [sp_wk]; first | (rw [k5_1 c13]; first | exact (hz_bt (Int32.not_lt.mp c52)).symm | exact (hz_bf (fun h => absurd c52 (Int32.not_lt.mpr h))).symm) | exact (k5_2 c13).symm | (rw [k5_3 c13]; first | exact (hz_bt (Int32.not_lt.mp c66)).symm | exact (hz_bf (fun h => absurd c66 (Int32.not_lt.mpr h))).symm) | (rw [k5_4 c13]; first | exact (hz_bt ⟨Int32.not_lt.mp c79, Int32.not_lt.mp c90⟩).symm | exact (hz_bf (fun h => absurd c90 (Int32.not_lt.mpr h.2))).symm | exact (hz_bf (fun h => absurd c79 (Int32.not_lt.mpr h.1))).symm) | (rw [k5_5 c13]; first | exact (hz_bt c110).symm | exact (hz_bf c110).symm) | (rw [k5_0 c13]; first | exact (hz_bt (Int32.not_lt.mp c122)).symm | exact (hz_bf (fun h => absurd c122 (Int32.not_lt.mpr h))).symm)) dX4_doesWeep_74
  · refine lv_tableIn (tgt := 75) hx hb dX4_doesWeep_13 (by rw [c13]; decide) (by rw [c13]; decide) (off := 62) (by rw [c13]; decide) (by decide) ?_
    refine lv_iload_n hx hb dX4_doesWeep_75 rfl (lv_at hl 0 rfl) ?_
    refine lv_sipush (v := nI 400) hx hb dX4_doesWeep_76 (by decide) ?_
    refine lv_icmp_lt (tgt := 97) hx hb dX4_doesWeep_79 (by decide) (fun c79 => ?_) (fun c79 => ?_)
    · refine lv_iconst (v := nI 0) hx hb dX4_doesWeep_97 (by decide) ?_
      exact hz_ri hx hb hr hlocks rfl (by rw [sp_wk]; first | (rw [k5_1 c13]; first | exact (hz_bt (Int32.not_lt.mp c52)).symm | exact (hz_bf (fun h => absurd c52 (Int32.not_lt.mpr h))).symm) | exact (k5_2 c13).symm | (rw [k5_3 c13]; first | exact (hz_bt (Int32.not_lt.mp c66)).symm | exact (hz_bf (fun h => absurd c66 (Int32.not_lt.mpr h))).symm) | (rw [k5_4 c13]; first | exact (hz_bt ⟨Int32.not_lt.mp c79, Int32.not_lt.mp c90⟩).symm | exact (hz_bf (fun h => absurd c90 (Int32.not_lt.mpr h.2))).symm | exact (hz_bf (fun h => absurd c79 (Int32.not_lt.mpr h.1))).symm) | (rw [k5_5 c13]; first | exact (hz_bt c110).symm | exact (hz_bf c110).symm) | (rw [k5_0 c13]; first | exact (hz_bt (Int32.not_lt.mp c122)).symm | exact (hz_bf (fun h => absurd c122 (Int32.not_lt.mpr h))).symm)) dX4_doesWeep_98
    · refine lv_aload_n hx hb dX4_doesWeep_82 rfl (lv_at hl 1 rfl) ?_
      refine lv_iload_n hx hb dX4_doesWeep_83 rfl (lv_at hl 2 rfl) ?_
      refine lv_iconst (v := nI 1) hx hb dX4_doesWeep_84 (by decide) ?_
      refine hz_cv (As := [.int (nI d), .int (nI 1)]) (rest := []) ⟨hx, hb, hml, hown, hts⟩ (c4_it l D cI cJ (h0 := h0) (am := am) (fs := fs) (M := M) (d := d) (w := 1) (hf := by first | assumption | rfl) (hd := by omega) (hw := by omega)) (cwV 2 hts gX4_doesWeep_X4_it rfl rfl rfl (by decide +kernel) ⟨Nat.le_of_ble_eq_true rfl, Nat.le_of_ble_eq_true rfl⟩) hK hP [0, 1] rfl [0, 1] rfl 0 rfl rfl rfl rfl hl.1 rfl (Nat.le_of_ble_eq_true rfl) dX4_doesWeep_85 ⟨Nat.zero_le _, Nat.zero_le _⟩ ?_
      refine lv_bipush (v := nI 10) hx hb dX4_doesWeep_88 (by decide) ?_
      refine lv_icmp_gt (tgt := 97) hx hb dX4_doesWeep_90 (by decide) (fun c90 => ?_) (fun c90 => ?_)
      · refine lv_iconst (v := nI 0) hx hb dX4_doesWeep_97 (by decide) ?_
        exact hz_ri hx hb hr hlocks rfl (by rw [sp_wk]; first | (rw [k5_1 c13]; first | exact (hz_bt (Int32.not_lt.mp c52)).symm | exact (hz_bf (fun h => absurd c52 (Int32.not_lt.mpr h))).symm) | exact (k5_2 c13).symm | (rw [k5_3 c13]; first | exact (hz_bt (Int32.not_lt.mp c66)).symm | exact (hz_bf (fun h => absurd c66 (Int32.not_lt.mpr h))).symm) | (rw [k5_4 c13]; first | exact (hz_bt ⟨Int32.not_lt.mp c79, Int32.not_lt.mp c90⟩).symm | exact (hz_bf (fun h => absurd c90 (Int32.not_lt.mpr h.2))).symm | exact (hz_bf (fun h => absurd c79 (Int32.not_lt.mpr h.1))).symm) | (rw [k5_5 c13]; first | exact (hz_bt c110).symm | exact (hz_bf c110).symm) | (rw [k5_0 c13]; first | exact (hz_bt (Int32.not_lt.mp c122)).symm | exact (hz_bf (fun h => absurd c122 (Int32.not_lt.mpr h))).symm)) dX4_doesWeep_98
      · refine lv_iconst (v := nI 1) hx hb dX4_doesWeep_93 (by decide) ?_
        refine lv_goto (tgt := 98) hx hb dX4_doesWeep_94 (by decide) ?_
        exact hz_ri hx hb hr hlocks rfl (by rw [sp_wk]; first | (rw [k5_1 c13]; first | exact (hz_bt (Int32.not_lt.mp c52)).symm | exact (hz_bf (fun h => absurd c52 (Int32.not_lt.mpr h))).symm) | exact (k5_2 c13).symm | (rw [k5_3 c13]; first | exact (hz_bt (Int32.not_lt.mp c66)).symm | exact (hz_bf (fun h => absurd c66 (Int32.not_lt.mpr h))).symm) | (rw [k5_4 c13]; first | exact (hz_bt ⟨Int32.not_lt.mp c79, Int32.not_lt.mp c90⟩).symm | exact (hz_bf (fun h => absurd c90 (Int32.not_lt.mpr h.2))).symm | exact (hz_bf (fun h => absurd c79 (Int32.not_lt.mpr h.1))).symm) | (rw [k5_5 c13]; first | exact (hz_bt c110).symm | exact (hz_bf c110).symm) | (rw [k5_0 c13]; first | exact (hz_bt (Int32.not_lt.mp c122)).symm | exact (hz_bf (fun h => absurd c122 (Int32.not_lt.mpr h))).symm)) dX4_doesWeep_98
  · refine lv_tableIn (tgt := 99) hx hb dX4_doesWeep_13 (by rw [c13]; decide) (by rw [c13]; decide) (off := 86) (by rw [c13]; decide) (by decide) ?_
    refine lv_aload_n hx hb dX4_doesWeep_99 rfl (lv_at hl 1 rfl) ?_
    refine va_get hx hb hts hinX4 hown hK hP 0 rfl rfl 0 (by decide) wd1 (fun _ h => h) hf dX4_doesWeep_100 ?_
    refine lv_iconst (v := nI 0) hx hb dX4_doesWeep_103 (by decide) ?_
    refine hz_iald (j := 0) hx hb hK hP 1 0 rfl rfl (by omega) (Nat.le_of_ble_eq_true rfl) dX4_doesWeep_104 ?_
    refine lv_bipush (v := nI 7) hx hb dX4_doesWeep_105 (by decide) ?_
    refine lv_irem hx hb dX4_doesWeep_107 (by decide) ?_
    refine lv_bipush (v := nI 6) hx hb dX4_doesWeep_108 (by decide) ?_
    refine lv_icmp_ne (tgt := 117) hx hb dX4_doesWeep_110 (by decide) (fun c110 => ?_) (fun c110 => ?_)
    · refine lv_iconst (v := nI 0) hx hb dX4_doesWeep_117 (by decide) ?_
      exact hz_ri hx hb hr hlocks rfl (by rw [sp_wk]; first | (rw [k5_1 c13]; first | exact (hz_bt (Int32.not_lt.mp c52)).symm | exact (hz_bf (fun h => absurd c52 (Int32.not_lt.mpr h))).symm) | exact (k5_2 c13).symm | (rw [k5_3 c13]; first | exact (hz_bt (Int32.not_lt.mp c66)).symm | exact (hz_bf (fun h => absurd c66 (Int32.not_lt.mpr h))).symm) | (rw [k5_4 c13]; first | exact (hz_bt ⟨Int32.not_lt.mp c79, Int32.not_lt.mp c90⟩).symm | exact (hz_bf (fun h => absurd c90 (Int32.not_lt.mpr h.2))).symm | exact (hz_bf (fun h => absurd c79 (Int32.not_lt.mpr h.1))).symm) | (rw [k5_5 c13]; first | exact (hz_bt c110).symm | exact (hz_bf c110).symm) | (rw [k5_0 c13]; first | exact (hz_bt (Int32.not_lt.mp c122)).symm | exact (hz_bf (fun h => absurd c122 (Int32.not_lt.mpr h))).symm)) dX4_doesWeep_118
    · refine lv_iconst (v := nI 1) hx hb dX4_doesWeep_113 (by decide) ?_
      refine lv_goto (tgt := 118) hx hb dX4_doesWeep_114 (by decide) ?_
      exact hz_ri hx hb hr hlocks rfl (by rw [sp_wk]; first | (rw [k5_1 c13]; first | exact (hz_bt (Int32.not_lt.mp c52)).symm | exact (hz_bf (fun h => absurd c52 (Int32.not_lt.mpr h))).symm) | exact (k5_2 c13).symm | (rw [k5_3 c13]; first | exact (hz_bt (Int32.not_lt.mp c66)).symm | exact (hz_bf (fun h => absurd c66 (Int32.not_lt.mpr h))).symm) | (rw [k5_4 c13]; first | exact (hz_bt ⟨Int32.not_lt.mp c79, Int32.not_lt.mp c90⟩).symm | exact (hz_bf (fun h => absurd c90 (Int32.not_lt.mpr h.2))).symm | exact (hz_bf (fun h => absurd c79 (Int32.not_lt.mpr h.1))).symm) | (rw [k5_5 c13]; first | exact (hz_bt c110).symm | exact (hz_bf c110).symm) | (rw [k5_0 c13]; first | exact (hz_bt (Int32.not_lt.mp c122)).symm | exact (hz_bf (fun h => absurd c122 (Int32.not_lt.mpr h))).symm)) dX4_doesWeep_118
  · refine lv_tableOut (tgt := 119) hx hb dX4_doesWeep_13 (by omega) (by decide) ?_
    refine lv_iload_n hx hb dX4_doesWeep_119 rfl (lv_at hl 0 rfl) ?_
    refine lv_bipush (v := nI 100) hx hb dX4_doesWeep_120 (by decide) ?_
    refine lv_icmp_lt (tgt := 129) hx hb dX4_doesWeep_122 (by decide) (fun c122 => ?_) (fun c122 => ?_)
    · refine lv_iconst (v := nI 0) hx hb dX4_doesWeep_129 (by decide) ?_
      exact hz_ri hx hb hr hlocks rfl (by rw [sp_wk]; first | (rw [k5_1 c13]; first | exact (hz_bt (Int32.not_lt.mp c52)).symm | exact (hz_bf (fun h => absurd c52 (Int32.not_lt.mpr h))).symm) | exact (k5_2 c13).symm | (rw [k5_3 c13]; first | exact (hz_bt (Int32.not_lt.mp c66)).symm | exact (hz_bf (fun h => absurd c66 (Int32.not_lt.mpr h))).symm) | (rw [k5_4 c13]; first | exact (hz_bt ⟨Int32.not_lt.mp c79, Int32.not_lt.mp c90⟩).symm | exact (hz_bf (fun h => absurd c90 (Int32.not_lt.mpr h.2))).symm | exact (hz_bf (fun h => absurd c79 (Int32.not_lt.mpr h.1))).symm) | (rw [k5_5 c13]; first | exact (hz_bt c110).symm | exact (hz_bf c110).symm) | (rw [k5_0 c13]; first | exact (hz_bt (Int32.not_lt.mp c122)).symm | exact (hz_bf (fun h => absurd c122 (Int32.not_lt.mpr h))).symm)) dX4_doesWeep_130
    · refine lv_iconst (v := nI 1) hx hb dX4_doesWeep_125 (by decide) ?_
      refine lv_goto (tgt := 130) hx hb dX4_doesWeep_126 (by decide) ?_
      exact hz_ri hx hb hr hlocks rfl (by rw [sp_wk]; first | (rw [k5_1 c13]; first | exact (hz_bt (Int32.not_lt.mp c52)).symm | exact (hz_bf (fun h => absurd c52 (Int32.not_lt.mpr h))).symm) | exact (k5_2 c13).symm | (rw [k5_3 c13]; first | exact (hz_bt (Int32.not_lt.mp c66)).symm | exact (hz_bf (fun h => absurd c66 (Int32.not_lt.mpr h))).symm) | (rw [k5_4 c13]; first | exact (hz_bt ⟨Int32.not_lt.mp c79, Int32.not_lt.mp c90⟩).symm | exact (hz_bf (fun h => absurd c90 (Int32.not_lt.mpr h.2))).symm | exact (hz_bf (fun h => absurd c79 (Int32.not_lt.mpr h.1))).symm) | (rw [k5_5 c13]; first | exact (hz_bt c110).symm | exact (hz_bf c110).symm) | (rw [k5_0 c13]; first | exact (hz_bt (Int32.not_lt.mp c122)).symm | exact (hz_bf (fun h => absurd c122 (Int32.not_lt.mpr h))).symm)) dX4_doesWeep_130
set_option maxHeartbeats 4000000 in
set_option maxRecDepth 100000 in
theorem c4_interpreter (l : Launch) (D : va_G) (cI cJ : ClassId) (h0 am : Nat) (fs : List Value) (M : Nat → Int32) (z : Nat) (hf : fs[0]? = some (.ref am)) (hM1 : M 1 = nI (nD M)) (hD8 : nD M ≤ 8) (hs : z < 8) : hz_MP l yX4_interpreter wsX4_interpreter { frames := 2, cells := 0, slots := 0, locals := 48 } [.ref h0, .int (nI z)] D zcl [(cI, .int), (cJ, .long)] [(h0, .inr (4, fs)), (am, .inl (cI, 75, .inl M))] (.int (hz_o (sp_who M z))) := by
  refine hz_mp (cc := cX4_interpreter) (maxL := 7) (ret := (some .int)) (by decide) rfl (Nat.le_of_ble_eq_true rfl) ?_
  intro p e s m below meth c hx hb hr hts hown hlocks hml hP hK ls hl
  have hown : s.vm.findClass RX4 = some m.cls := hown
  have hl : lv_has ls 7 [(0, .ref h0), (1, .int (nI z))] := hl
  have hinX4 : ∀ w ∈ u_ws RX4 TX4 16, w ∈ wsX4_interpreter := fun w h => List.mem_cons_of_mem _ (List.mem_append_right _ (h))
  have wd1 := hts (.fieldLink RX4 9 "HurtSpeechModel" "m" "[I") (List.mem_of_getElem? (i := 1) rfl)
  refine lv_iconst (v := -1) hx hb dX4_interpreter_0 (by decide) ?_
  refine lv_istore_n (lv' := [(2, .int (-1)), (0, .ref h0), (1, .int (nI z))]) hx hb dX4_interpreter_1 rfl hl (by decide) rfl (fun ls hl => ?_)
  refine lv_iconst (v := nI 0) hx hb dX4_interpreter_2 (by decide) ?_
  refine lv_istore_n (lv' := [(3, .int (nI 0)), (2, .int (-1)), (0, .ref h0), (1, .int (nI z))]) hx hb dX4_interpreter_3 rfl hl (by decide) rfl (fun ls hl => ?_)
  refine lv_iconst (v := nI 0) hx hb dX4_interpreter_4 (by decide) ?_
  refine lv_istore (lv' := [(4, .int (nI 0)), (3, .int (nI 0)), (2, .int (-1)), (0, .ref h0), (1, .int (nI z))]) hx hb dX4_interpreter_5 hl (by decide) rfl (fun ls hl => ?_)
  have loop : ∀ (nn : Nat) (d : Nat) (ls : Array Slot), nD M - d < nn → (d ≤ nD M) → lv_has ls 7 [(4, .int (nI d)), (3, .int ((sp_it M z d).2)), (2, .int (hz_o (sp_it M z d).1)), (0, .ref h0), (1, .int (nI z))] → W p l e (headSpec wsX4_interpreter { frames := 2, cells := 0, slots := 0, locals := 48 }).room s m ([.ref h0, .int (nI z)] : List Value).toArray below meth c s.heap [] 0 0 (MQ below (hz_V (.int (hz_o (sp_who M z)))) ([.ref h0, .int (nI z)] : List Value).toArray s 0 0 (fun _ => False)) (F0 m 7 ls []) := by
    intro nn
    induction nn with
    | zero => intro d ls hnn hdn hl; exact absurd hnn (Nat.not_lt_zero _)
    | succ nn ihloop =>
      intro d ls hnn hdn hl
      refine lv_iload hx hb dX4_interpreter_7 (lv_at hl 0 rfl) ?_
      refine lv_aload_n hx hb dX4_interpreter_9 rfl (lv_at hl 3 rfl) ?_
      refine va_get hx hb hts hinX4 hown hK hP 0 rfl rfl 0 (by decide) wd1 (fun _ h => h) hf dX4_interpreter_10 ?_
      refine lv_iconst (v := nI 1) hx hb dX4_interpreter_13 (by decide) ?_
      refine hz_iald (j := 1) hx hb hK hP 1 0 rfl rfl (by omega) (Nat.le_of_ble_eq_true rfl) dX4_interpreter_14 ?_
      refine hz_ct (y := nI (nD M)) hM1 ?_
      refine hz_icmp_ge (tgt := 101) (by omega) (by omega) hx hb dX4_interpreter_15 (by decide) (fun c15 => ?_) (fun c15 => ?_)
      · refine lv_iload_n hx hb dX4_interpreter_101 rfl (lv_at hl 2 rfl) ?_
        exact hz_ri hx hb hr hlocks rfl (by rw [show d = nD M by omega]) dX4_interpreter_102
      · refine lv_aload_n hx hb dX4_interpreter_18 rfl (lv_at hl 3 rfl) ?_
        refine lv_iload hx hb dX4_interpreter_19 (lv_at hl 0 rfl) ?_
        refine lv_iconst (v := nI 2) hx hb dX4_interpreter_21 (by decide) ?_
        refine hz_cv (As := [.int (nI d), .int (nI 2)]) (rest := []) ⟨hx, hb, hml, hown, hts⟩ (c4_it l D cI cJ (h0 := h0) (am := am) (fs := fs) (M := M) (d := d) (w := 2) (hf := by first | assumption | rfl) (hd := by omega) (hw := by omega)) (cwV 2 hts gX4_interpreter_X4_it rfl rfl rfl (by decide +kernel) ⟨Nat.le_of_ble_eq_true rfl, Nat.le_of_ble_eq_true rfl⟩) hK hP [0, 1] rfl [0, 1] rfl 0 rfl rfl rfl rfl hl.1 rfl (Nat.le_of_ble_eq_true rfl) dX4_interpreter_22 ⟨Nat.zero_le _, Nat.zero_le _⟩ ?_
        refine lv_aload_n hx hb dX4_interpreter_25 rfl (lv_at hl 3 rfl) ?_
        refine lv_iload_n hx hb dX4_interpreter_26 rfl (lv_at hl 4 rfl) ?_
        refine lv_iconst (v := nI 1) hx hb dX4_interpreter_27 (by decide) ?_
        refine hz_cv (As := [.int (nI z), .int (nI 1)]) (rest := [.int (M (3 + 5 * d + 2))]) ⟨hx, hb, hml, hown, hts⟩ (c4_about l D cI cJ (h0 := h0) (am := am) (fs := fs) (M := M) (z := z) (w := 1) (hf := by first | assumption | rfl) (hs := by omega) (hw := by omega)) (cwV 2 hts gX4_interpreter_X4_about rfl rfl rfl (by decide +kernel) ⟨Nat.le_of_ble_eq_true rfl, Nat.le_of_ble_eq_true rfl⟩) hK hP [0, 1] rfl [0, 1] rfl 0 rfl rfl rfl rfl hl.1 rfl (Nat.le_of_ble_eq_true rfl) dX4_interpreter_28 ⟨Nat.zero_le _, Nat.zero_le _⟩ ?_
        refine lv_ishr hx hb dX4_interpreter_31 ?_
        refine lv_iconst (v := nI 1) hx hb dX4_interpreter_32 (by decide) ?_
        refine lv_iand hx hb dX4_interpreter_33 ?_
        refine lv_iconst (v := nI 1) hx hb dX4_interpreter_34 (by decide) ?_
        refine hz_dia (ls := ls) (hz_b ((M (3 + 5 * d + 2) >>> (M (43 + 4 * z + 1) &&& 31)) &&& nI 1 = nI 1)) 43 [] (fun jn43 => ?_) ?_
        · refine lv_icmp_ne (tgt := 42) hx hb dX4_interpreter_35 (by decide) (fun c35 => ?_) (fun c35 => ?_)
          · refine lv_iconst (v := nI 0) hx hb dX4_interpreter_42 (by decide) ?_
            exact hz_ct (by first | exact (hz_bt c35).symm | exact (hz_bf c35).symm) jn43
          · refine lv_iconst (v := nI 1) hx hb dX4_interpreter_38 (by decide) ?_
            refine lv_goto (tgt := 43) hx hb dX4_interpreter_39 (by decide) ?_
            exact hz_ct (by first | exact (hz_bt c35).symm | exact (hz_bf c35).symm) jn43
        · refine lv_istore (lv' := [(5, .int (hz_b ((M (3 + 5 * d + 2) >>> (M (43 + 4 * z + 1) &&& 31)) &&& nI 1 = nI 1))), (4, .int (nI d)), (3, .int ((sp_it M z d).2)), (2, .int (hz_o (sp_it M z d).1)), (0, .ref h0), (1, .int (nI z))]) hx hb dX4_interpreter_43 hl (by decide) rfl (fun ls hl => ?_)
          refine lv_iload hx hb dX4_interpreter_45 (lv_at hl 0 rfl) ?_
          refine hz_dia (ls := ls) (sp_l M z d) 67 [] (fun jn67 => ?_) ?_
          · refine hz_ifb_eq (tgt := 66) hx hb dX4_interpreter_47 (by decide) (fun c47 => ?_) (fun c47 => ?_)
            · refine lv_iconst (v := nI 0) hx hb dX4_interpreter_66 (by decide) ?_
              exact hz_ct (by first | exact (if_pos c47).symm | exact (if_neg c47).symm) jn67
            · refine lv_aload_n hx hb dX4_interpreter_50 rfl (lv_at hl 4 rfl) ?_
              refine lv_iload hx hb dX4_interpreter_51 (lv_at hl 1 rfl) ?_
              refine lv_iload_n hx hb dX4_interpreter_53 rfl (lv_at hl 5 rfl) ?_
              refine lv_aload_n hx hb dX4_interpreter_54 rfl (lv_at hl 4 rfl) ?_
              refine lv_iload_n hx hb dX4_interpreter_55 rfl (lv_at hl 5 rfl) ?_
              refine lv_iconst (v := nI 3) hx hb dX4_interpreter_56 (by decide) ?_
              refine hz_cv (As := [.int (nI z), .int (nI 3)]) (rest := [.int (nI z), .int (nI d), .ref h0]) ⟨hx, hb, hml, hown, hts⟩ (c4_about l D cI cJ (h0 := h0) (am := am) (fs := fs) (M := M) (z := z) (w := 3) (hf := by first | assumption | rfl) (hs := by omega) (hw := by omega)) (cwV 2 hts gX4_interpreter_X4_about rfl rfl rfl (by decide +kernel) ⟨Nat.le_of_ble_eq_true rfl, Nat.le_of_ble_eq_true rfl⟩) hK hP [0, 1] rfl [0, 1] rfl 0 rfl rfl rfl rfl hl.1 rfl (Nat.le_of_ble_eq_true rfl) dX4_interpreter_57 ⟨Nat.zero_le _, Nat.zero_le _⟩ ?_
              refine hz_cv (As := [.int (nI d), .int (nI z), .int (M (43 + 4 * z + 3))]) (rest := []) ⟨hx, hb, hml, hown, hts⟩ (c4_losesBy l D cI cJ (h0 := h0) (am := am) (fs := fs) (M := M) (d := d) (z := z) (f := M (43 + 4 * z + 3)) (hf := by first | assumption | rfl) (hd := by omega) (hs := by omega)) (cwV 3 hts gX4_interpreter_X4_losesBy rfl rfl rfl (by decide +kernel) ⟨Nat.le_of_ble_eq_true rfl, Nat.le_of_ble_eq_true rfl⟩) hK hP [0, 1] rfl [0, 1] rfl 0 rfl rfl rfl rfl hl.1 rfl (Nat.le_of_ble_eq_true rfl) dX4_interpreter_60 ⟨Nat.zero_le _, Nat.zero_le _⟩ ?_
              refine lv_goto (tgt := 67) hx hb dX4_interpreter_63 (by decide) ?_
              exact hz_ct (by first | exact (if_pos c47).symm | exact (if_neg c47).symm) jn67
          · refine lv_istore (lv' := [(6, .int (sp_l M z d)), (5, .int (hz_b ((M (3 + 5 * d + 2) >>> (M (43 + 4 * z + 1) &&& 31)) &&& nI 1 = nI 1))), (4, .int (nI d)), (3, .int ((sp_it M z d).2)), (2, .int (hz_o (sp_it M z d).1)), (0, .ref h0), (1, .int (nI z))]) hx hb dX4_interpreter_67 hl (by decide) rfl (fun ls hl => ?_)
            refine lv_iload hx hb dX4_interpreter_69 (lv_at hl 0 rfl) ?_
            refine lv_iload_n hx hb dX4_interpreter_71 rfl (lv_at hl 3 rfl) ?_
            refine hz_dia (ls := ls) (hz_o (sp_it M z (d + 1)).1) 81 [] (fun jn81 => ?_) ?_
            · refine lv_icmp_le (tgt := 80) hx hb dX4_interpreter_72 (by decide) (fun c72 => ?_) (fun c72 => ?_)
              · refine lv_iload_n hx hb dX4_interpreter_80 rfl (lv_at hl 4 rfl) ?_
                exact hz_ct (by rw [sp_it_1]; first | exact (if_pos (Int32.not_le.mp c72)).symm | exact (if_neg (Int32.not_lt.mpr c72)).symm) jn81
              · refine lv_iload hx hb dX4_interpreter_75 (lv_at hl 2 rfl) ?_
                refine lv_goto (tgt := 81) hx hb dX4_interpreter_77 (by decide) ?_
                exact hz_ct (by rw [sp_it_1]; first | exact (if_pos (Int32.not_le.mp c72)).symm | exact (if_neg (Int32.not_lt.mpr c72)).symm) jn81
            · refine lv_istore_n (lv' := [(2, .int (hz_o (sp_it M z (d + 1)).1)), (6, .int (sp_l M z d)), (5, .int (hz_b ((M (3 + 5 * d + 2) >>> (M (43 + 4 * z + 1) &&& 31)) &&& nI 1 = nI 1))), (4, .int (nI d)), (3, .int ((sp_it M z d).2)), (0, .ref h0), (1, .int (nI z))]) hx hb dX4_interpreter_81 rfl hl (by decide) rfl (fun ls hl => ?_)
              refine lv_iload hx hb dX4_interpreter_82 (lv_at hl 1 rfl) ?_
              refine lv_iload_n hx hb dX4_interpreter_84 rfl (lv_at hl 4 rfl) ?_
              refine hz_dia (ls := ls) ((sp_it M z (d + 1)).2) 94 [] (fun jn94 => ?_) ?_
              · refine lv_icmp_le (tgt := 93) hx hb dX4_interpreter_85 (by decide) (fun c85 => ?_) (fun c85 => ?_)
                · refine lv_iload_n hx hb dX4_interpreter_93 rfl (lv_at hl 4 rfl) ?_
                  exact hz_ct (by rw [sp_it_2]; first | exact (if_pos (Int32.not_le.mp c85)).symm | exact (if_neg (Int32.not_lt.mpr c85)).symm) jn94
                · refine lv_iload hx hb dX4_interpreter_88 (lv_at hl 1 rfl) ?_
                  refine lv_goto (tgt := 94) hx hb dX4_interpreter_90 (by decide) ?_
                  exact hz_ct (by rw [sp_it_2]; first | exact (if_pos (Int32.not_le.mp c85)).symm | exact (if_neg (Int32.not_lt.mpr c85)).symm) jn94
              · refine lv_istore_n (lv' := [(3, .int ((sp_it M z (d + 1)).2)), (2, .int (hz_o (sp_it M z (d + 1)).1)), (6, .int (sp_l M z d)), (5, .int (hz_b ((M (3 + 5 * d + 2) >>> (M (43 + 4 * z + 1) &&& 31)) &&& nI 1 = nI 1))), (4, .int (nI d)), (0, .ref h0), (1, .int (nI z))]) hx hb dX4_interpreter_94 rfl hl (by decide) rfl (fun ls hl => ?_)
                refine lv_iinc (v := nI (d + 1)) (lv' := [(4, .int (nI (d + 1))), (3, .int ((sp_it M z (d + 1)).2)), (2, .int (hz_o (sp_it M z (d + 1)).1)), (6, .int (sp_l M z d)), (5, .int (hz_b ((M (3 + 5 * d + 2) >>> (M (43 + 4 * z + 1) &&& 31)) &&& nI 1 = nI 1))), (0, .ref h0), (1, .int (nI z))]) hx hb dX4_interpreter_95 hl (k := 4) rfl (nI_1 _) (by decide) rfl (fun ls hl => ?_)
                refine lv_goto (tgt := 7) hx hb dX4_interpreter_98 (by decide) ?_
                exact ihloop (d + 1) ls (by omega) (by omega) (lv_sub hl [0, 1, 2, 5, 6] rfl)
  exact loop _ 0 ls (Nat.lt_succ_self _) (by omega) (lv_sub hl [0, 1, 2, 3, 4] rfl)
set_option maxHeartbeats 4000000 in
set_option maxRecDepth 100000 in
theorem c4_overBy (l : Launch) (D : va_G) (cI cJ : ClassId) (h0 am : Nat) (fs : List Value) (M : Nat → Int32) (z : Nat) (hf : fs[0]? = some (.ref am)) (hM1 : M 1 = nI (nD M)) (hD8 : nD M ≤ 8) (hs : z < 8) : hz_MP l yX4_overBy wsX4_overBy { frames := 3, cells := 0, slots := 0, locals := 74 } [.ref h0, .int (nI z)] D zcl [(cI, .int), (cJ, .long)] [(h0, .inr (4, fs)), (am, .inl (cI, 75, .inl M))] (.int (sp_over M z)) := by
  refine hz_mp (cc := cX4_overBy) (maxL := 3) (ret := (some .int)) (by decide) rfl (Nat.le_of_ble_eq_true rfl) ?_
  intro p e s m below meth c hx hb hr hts hown hlocks hml hP hK ls hl
  have hown : s.vm.findClass RX4 = some m.cls := hown
  have hl : lv_has ls 3 [(0, .ref h0), (1, .int (nI z))] := hl
  refine lv_aload_n hx hb dX4_overBy_0 rfl (lv_at hl 0 rfl) ?_
  refine lv_iload_n hx hb dX4_overBy_1 rfl (lv_at hl 1 rfl) ?_
  refine hz_cv (As := [.int (nI z)]) (rest := []) ⟨hx, hb, hml, hown, hts⟩ (c4_interpreter l D cI cJ (h0 := h0) (am := am) (fs := fs) (M := M) (z := z) (hf := by first | assumption | rfl) (hM1 := by first | assumption | rfl) (hD8 := by first | assumption | rfl) (hs := by omega)) (cwV 1 hts gX4_overBy_X4_interpreter rfl rfl rfl (by decide +kernel) ⟨Nat.le_of_ble_eq_true rfl, Nat.le_of_ble_eq_true rfl⟩) hK hP [0, 1] rfl [0, 1] rfl 0 rfl rfl rfl rfl hl.1 rfl (Nat.le_of_ble_eq_true rfl) dX4_overBy_2 ⟨Nat.zero_le _, Nat.zero_le _⟩ ?_
  rcases hw : sp_who M z with _ | j
  · refine hz_ct (y := -1) rfl ?_
    refine lv_istore_n (lv' := [(2, .int (-1)), (0, .ref h0), (1, .int (nI z))]) hx hb dX4_overBy_5 rfl hl (by decide) rfl (fun ls hl => ?_)
    refine lv_iload_n hx hb dX4_overBy_6 rfl (lv_at hl 0 rfl) ?_
    refine lv_if_ge (tgt := 14) hx hb dX4_overBy_7 (by decide) (fun h => absurd h (by first | decide | omega | exact hz_nneg (by omega) | exact hz_nneg' (by omega))) (fun _ => ?_)
    refine lv_iconst (v := nI 0) hx hb dX4_overBy_10 (by decide) ?_
    refine lv_goto (tgt := 25) hx hb dX4_overBy_11 (by decide) ?_
    exact hz_ri hx hb hr hlocks rfl (by rw [sp_over, hw]) dX4_overBy_25
  · have hj := sp_it_lt M z _ j hw
    refine hz_ct (y := nI j) rfl ?_
    refine lv_istore_n (lv' := [(2, .int (nI j)), (0, .ref h0), (1, .int (nI z))]) hx hb dX4_overBy_5 rfl hl (by decide) rfl (fun ls hl => ?_)
    refine lv_iload_n hx hb dX4_overBy_6 rfl (lv_at hl 0 rfl) ?_
    refine hz_ifn_ge (tgt := 14) (by omega) hx hb dX4_overBy_7 (by decide) ?_
    refine lv_aload_n hx hb dX4_overBy_14 rfl (lv_at hl 1 rfl) ?_
    refine lv_iload_n hx hb dX4_overBy_15 rfl (lv_at hl 0 rfl) ?_
    refine lv_aload_n hx hb dX4_overBy_16 rfl (lv_at hl 1 rfl) ?_
    refine lv_iload_n hx hb dX4_overBy_17 rfl (lv_at hl 2 rfl) ?_
    refine lv_iconst (v := nI 3) hx hb dX4_overBy_18 (by decide) ?_
    refine hz_cv (As := [.int (nI z), .int (nI 3)]) (rest := [.int (nI j), .ref h0]) ⟨hx, hb, hml, hown, hts⟩ (c4_about l D cI cJ (h0 := h0) (am := am) (fs := fs) (M := M) (z := z) (w := 3) (hf := by first | assumption | rfl) (hs := by omega) (hw := by omega)) (cwV 2 hts gX4_overBy_X4_about rfl rfl rfl (by decide +kernel) ⟨Nat.le_of_ble_eq_true rfl, Nat.le_of_ble_eq_true rfl⟩) hK hP [0, 1] rfl [0, 1] rfl 0 rfl rfl rfl rfl hl.1 rfl (Nat.le_of_ble_eq_true rfl) dX4_overBy_19 ⟨Nat.zero_le _, Nat.zero_le _⟩ ?_
    refine hz_cv (As := [.int (nI j), .int (M (43 + 4 * z + 3))]) (rest := []) ⟨hx, hb, hml, hown, hts⟩ (c4_rendersBy l D cI cJ (h0 := h0) (am := am) (fs := fs) (M := M) (d := j) (f := M (43 + 4 * z + 3)) (hf := by first | assumption | rfl) (hd := by omega)) (cwV 2 hts gX4_overBy_X4_rendersBy rfl rfl rfl (by decide +kernel) ⟨Nat.le_of_ble_eq_true rfl, Nat.le_of_ble_eq_true rfl⟩) hK hP [0, 1] rfl [0, 1] rfl 0 rfl rfl rfl rfl hl.1 rfl (Nat.le_of_ble_eq_true rfl) dX4_overBy_22 ⟨Nat.zero_le _, Nat.zero_le _⟩ ?_
    exact hz_ri hx hb hr hlocks rfl (by rw [sp_over, hw]) dX4_overBy_25
theorem c4_in32 (l : Launch) (D : va_G) (cI cJ : ClassId) (x a b : Int32) : hz_MP l yX4_in wsX4_in { frames := 0, cells := 0, slots := 0, locals := 0 } [.long x.toInt64, .int a, .int b] D zcl [(cI, .int), (cJ, .long)] [] (.int (hz_b (a ≤ x ∧ x ≤ b))) := by
  rw [← hz_be (hz_w32 x a b)]
  exact c4_in l D cI cJ x.toInt64 a b
set_option maxHeartbeats 4000000 in
set_option maxRecDepth 100000 in
theorem c4_isThere (l : Launch) (D : va_G) (cI cJ : ClassId) (h0 am : Nat) (fs : List Value) (M : Nat → Int32) (x : Int32) (hf : fs[0]? = some (.ref am)) (hM1 : M 1 = nI (nD M)) (hD8 : nD M ≤ 8) : hz_MP l yX4_isThere wsX4_isThere { frames := 1, cells := 0, slots := 0, locals := 23 } [.ref h0, .int (x)] D zcl [(cI, .int), (cJ, .long)] [(h0, .inr (4, fs)), (am, .inl (cI, 75, .inl M))] (.int (hz_b (hz_in x (nD M)))) := by
  refine hz_mp (cc := cX4_isThere) (maxL := 2) (ret := (some .boolean)) (by decide) rfl (Nat.le_of_ble_eq_true rfl) ?_
  intro p e s m below meth c hx hb hr hts hown hlocks hml hP hK ls hl
  have hown : s.vm.findClass RX4 = some m.cls := hown
  have hl : lv_has ls 2 [(0, .ref h0), (1, .int (x))] := hl
  have hinX4 : ∀ w ∈ u_ws RX4 TX4 16, w ∈ wsX4_isThere := fun w h => List.mem_cons_of_mem _ (List.mem_append_right _ (h))
  have wd1 := hts (.fieldLink RX4 9 "HurtSpeechModel" "m" "[I") (List.mem_of_getElem? (i := 1) rfl)
  refine lv_iload_n hx hb dX4_isThere_0 rfl (lv_at hl 1 rfl) ?_
  refine lv_i2l (v := x.toInt64) hx hb dX4_isThere_1 rfl ?_
  refine lv_iconst (v := nI 0) hx hb dX4_isThere_2 (by decide) ?_
  refine lv_aload_n hx hb dX4_isThere_3 rfl (lv_at hl 0 rfl) ?_
  refine va_get hx hb hts hinX4 hown hK hP 0 rfl rfl 0 (by decide) wd1 (fun _ h => h) hf dX4_isThere_4 ?_
  refine lv_iconst (v := nI 1) hx hb dX4_isThere_7 (by decide) ?_
  refine hz_iald (j := 1) hx hb hK hP 1 0 rfl rfl (by omega) (Nat.le_of_ble_eq_true rfl) dX4_isThere_8 ?_
  refine hz_ct (y := nI (nD M)) hM1 ?_
  refine lv_iconst (v := nI 1) hx hb dX4_isThere_9 (by decide) ?_
  refine lv_isub hx hb dX4_isThere_10 ?_
  refine hz_cs (As := [.long (x.toInt64), .int (nI 0), .int ((nI (nD M)) - (nI 1))]) (rest := []) ⟨hx, hb, hml, hown, hts⟩ (c4_in32 l D cI cJ (x := x) (a := nI 0) (b := (nI (nD M)) - (nI 1)) ) (va_cwS 3 hts gX4_isThere_X4_in rfl rfl rfl (by decide +kernel) ⟨Nat.le_of_ble_eq_true rfl, Nat.le_of_ble_eq_true rfl⟩) hK hP [] rfl [0, 1] rfl rfl hl.1 rfl (Nat.le_of_ble_eq_true rfl) dX4_isThere_11 ⟨Nat.zero_le _, Nat.zero_le _⟩ ?_
  exact hz_ri hx hb hr hlocks (hz_nb _) (hz_be (hz_rin x (by omega))) dX4_isThere_14
set_option maxHeartbeats 4000000 in
set_option maxRecDepth 100000 in
theorem c4_isSpeech (l : Launch) (D : va_G) (cI cJ : ClassId) (h0 am : Nat) (fs : List Value) (M : Nat → Int32) (x : Int32) (hf : fs[0]? = some (.ref am)) (hM2 : M 2 = nI (nS M)) (hS8 : nS M ≤ 8) : hz_MP l yX4_isSpeech wsX4_isSpeech { frames := 1, cells := 0, slots := 0, locals := 23 } [.ref h0, .int (x)] D zcl [(cI, .int), (cJ, .long)] [(h0, .inr (4, fs)), (am, .inl (cI, 75, .inl M))] (.int (hz_b (hz_in x (nS M)))) := by
  refine hz_mp (cc := cX4_isSpeech) (maxL := 2) (ret := (some .boolean)) (by decide) rfl (Nat.le_of_ble_eq_true rfl) ?_
  intro p e s m below meth c hx hb hr hts hown hlocks hml hP hK ls hl
  have hown : s.vm.findClass RX4 = some m.cls := hown
  have hl : lv_has ls 2 [(0, .ref h0), (1, .int (x))] := hl
  have hinX4 : ∀ w ∈ u_ws RX4 TX4 16, w ∈ wsX4_isSpeech := fun w h => List.mem_cons_of_mem _ (List.mem_append_right _ (h))
  have wd1 := hts (.fieldLink RX4 9 "HurtSpeechModel" "m" "[I") (List.mem_of_getElem? (i := 1) rfl)
  refine lv_iload_n hx hb dX4_isSpeech_0 rfl (lv_at hl 1 rfl) ?_
  refine lv_i2l (v := x.toInt64) hx hb dX4_isSpeech_1 rfl ?_
  refine lv_iconst (v := nI 0) hx hb dX4_isSpeech_2 (by decide) ?_
  refine lv_aload_n hx hb dX4_isSpeech_3 rfl (lv_at hl 0 rfl) ?_
  refine va_get hx hb hts hinX4 hown hK hP 0 rfl rfl 0 (by decide) wd1 (fun _ h => h) hf dX4_isSpeech_4 ?_
  refine lv_iconst (v := nI 2) hx hb dX4_isSpeech_7 (by decide) ?_
  refine hz_iald (j := 2) hx hb hK hP 1 0 rfl rfl (by omega) (Nat.le_of_ble_eq_true rfl) dX4_isSpeech_8 ?_
  refine hz_ct (y := nI (nS M)) hM2 ?_
  refine lv_iconst (v := nI 1) hx hb dX4_isSpeech_9 (by decide) ?_
  refine lv_isub hx hb dX4_isSpeech_10 ?_
  refine hz_cs (As := [.long (x.toInt64), .int (nI 0), .int ((nI (nS M)) - (nI 1))]) (rest := []) ⟨hx, hb, hml, hown, hts⟩ (c4_in32 l D cI cJ (x := x) (a := nI 0) (b := (nI (nS M)) - (nI 1)) ) (va_cwS 3 hts gX4_isSpeech_X4_in rfl rfl rfl (by decide +kernel) ⟨Nat.le_of_ble_eq_true rfl, Nat.le_of_ble_eq_true rfl⟩) hK hP [] rfl [0, 1] rfl rfl hl.1 rfl (Nat.le_of_ble_eq_true rfl) dX4_isSpeech_11 ⟨Nat.zero_le _, Nat.zero_le _⟩ ?_
  exact hz_ri hx hb hr hlocks (hz_nb _) (hz_be (hz_rin x (by omega))) dX4_isSpeech_14
set_option maxHeartbeats 4000000 in
set_option maxRecDepth 100000 in
theorem c4_finds (l : Launch) (D : va_G) (cI cJ : ClassId) (h0 af : Nat) (fs : List Value) (F : Nat → Int32) (f : Int32) (k : Nat) (hf : fs[4]? = some (.ref af)) (hk : k < 7) (hfk : -1000000001 - f = nI k) : hz_ME l yX4_finds wsX4_finds { frames := 0, cells := 0, slots := 0, locals := 0 } [.ref h0, .int (f)] D zcl [(cI, .int), (cJ, .long)] [(h0, .inr (4, fs)), (af, .inl (cI, 7, .inl F))] [(h0, .inr (4, fs)), (af, .inl (cI, 7, .inl (sp_fd F k)))] (some (.int (f))) := by
  refine hz_me (cc := cX4_finds) (maxL := 2) (ret := (some .int)) (by decide) rfl (Nat.le_of_ble_eq_true rfl) ?_
  intro p e s m below meth c hx hb hr hts hown hlocks hml hP hK hD ls hl
  have hS : va_S (hz_a [(h0, .inr (4, fs)), (af, .inl (cI, 7, .inl F))]) s.heap s.heap [] := va_S.rf
  have hown : s.vm.findClass RX4 = some m.cls := hown
  have hl : lv_has ls 2 [(0, .ref h0), (1, .int (f))] := hl
  have hinX4 : ∀ w ∈ u_ws RX4 TX4 16, w ∈ wsX4_finds := fun w h => List.mem_cons_of_mem _ (List.mem_append_right _ (h))
  have wd1 := hts (.fieldLink RX4 19 "HurtSpeechModel" "found" "[I") (List.mem_of_getElem? (i := 1) rfl)
  have wd2 := hts (.constant RX4 35 (-1000000001)) (List.mem_of_getElem? (i := 2) rfl)
  refine lv_aload_n hx hb dX4_finds_0 rfl (lv_at hl 0 rfl) ?_
  refine va_get hx hb hts hinX4 hown hK hP 0 rfl rfl 4 (by decide) wd1 (fun _ h => h) hf dX4_finds_1 ?_
  refine lv_ldc (v := -1000000001) hx hb hown wd2 dX4_finds_4 ?_
  refine lv_iload_n hx hb dX4_finds_6 rfl (lv_at hl 1 rfl) ?_
  refine lv_isub hx hb dX4_finds_7 ?_
  refine hz_ct (y := nI (k)) (hfk) ?_
  refine lv_dup2_11 hx hb dX4_finds_8 rfl rfl ?_
  refine hz_iald (j := k) hx hb hK hP 1 0 rfl rfl (by omega) (Nat.le_of_ble_eq_true rfl) dX4_finds_9 ?_
  refine lv_iconst (v := nI 1) hx hb dX4_finds_10 (by decide) ?_
  refine lv_iadd hx hb dX4_finds_11 ?_
  refine hz_iast (j := k) hx hb hK hP hD hS 1 0 rfl rfl (by omega) (Nat.le_of_ble_eq_true rfl) dX4_finds_12 (w' := [(h0, .inr (4, fs)), (af, .inl (cI, 7, .inl (upd F k ((F k) + (nI 1)))))]) rfl (fun H locs hP hD hS => ?_)
  refine lv_iload_n hx hb dX4_finds_13 rfl (lv_at hl 1 rfl) ?_
  refine hz_ei hx hb hr hlocks rfl ?_ hS (rfl) dX4_finds_14
  exact hP
set_option maxHeartbeats 4000000 in
set_option maxRecDepth 100000 in
theorem c4_put (l : Launch) (D : va_G) (cI cJ : ClassId) (h0 am : Nat) (fs : List Value) (M : Nat → Int32) (d w : Nat) (x : Int32) (hf : fs[0]? = some (.ref am)) (hd : d < 8) (hw : w < 5) : hz_ME l yX4_put wsX4_put { frames := 0, cells := 0, slots := 0, locals := 0 } [.ref h0, .int (nI d), .int (nI w), .int (x)] D zcl [(cI, .int), (cJ, .long)] [(h0, .inr (4, fs)), (am, .inl (cI, 75, .inl M))] [(h0, .inr (4, fs)), (am, .inl (cI, 75, .inl (upd M (3 + 5 * d + w) x)))] none := by
  refine hz_me (cc := cX4_put) (maxL := 4) (ret := none) (by decide) rfl (Nat.le_of_ble_eq_true rfl) ?_
  intro p e s m below meth c hx hb hr hts hown hlocks hml hP hK hD ls hl
  have hS : va_S (hz_a [(h0, .inr (4, fs)), (am, .inl (cI, 75, .inl M))]) s.heap s.heap [] := va_S.rf
  have hown : s.vm.findClass RX4 = some m.cls := hown
  have hl : lv_has ls 4 [(0, .ref h0), (1, .int (nI d)), (2, .int (nI w)), (3, .int (x))] := hl
  have hinX4 : ∀ w ∈ u_ws RX4 TX4 16, w ∈ wsX4_put := fun w h => List.mem_cons_of_mem _ (List.mem_append_right _ (h))
  have wd1 := hts (.fieldLink RX4 9 "HurtSpeechModel" "m" "[I") (List.mem_of_getElem? (i := 1) rfl)
  refine lv_aload_n hx hb dX4_put_0 rfl (lv_at hl 0 rfl) ?_
  refine va_get hx hb hts hinX4 hown hK hP 0 rfl rfl 0 (by decide) wd1 (fun _ h => h) hf dX4_put_1 ?_
  refine lv_iconst (v := nI 3) hx hb dX4_put_4 (by decide) ?_
  refine lv_iconst (v := nI 5) hx hb dX4_put_5 (by decide) ?_
  refine lv_iload_n hx hb dX4_put_6 rfl (lv_at hl 1 rfl) ?_
  refine hz_imul hx hb dX4_put_7 ?_
  refine hz_iadd hx hb dX4_put_8 ?_
  refine lv_iload_n hx hb dX4_put_9 rfl (lv_at hl 2 rfl) ?_
  refine hz_iadd hx hb dX4_put_10 ?_
  refine lv_iload_n hx hb dX4_put_11 rfl (lv_at hl 3 rfl) ?_
  refine hz_iast (j := 3 + 5 * d + w) hx hb hK hP hD hS 1 0 rfl rfl (by omega) (Nat.le_of_ble_eq_true rfl) dX4_put_12 (w' := [(h0, .inr (4, fs)), (am, .inl (cI, 75, .inl (upd M (3 + 5 * d + w) x)))]) rfl (fun H locs hP hD hS => ?_)
  refine hz_ev hx hb hr hlocks ?_ hS dX4_put_13
  exact hP
set_option maxHeartbeats 4000000 in
set_option maxRecDepth 100000 in
theorem c4_becomes (l : Launch) (D : va_G) (cI cJ : ClassId) (h0 am : Nat) (fs : List Value) (M : Nat → Int32) (i : Nat) (x : Int32) (hf : fs[0]? = some (.ref am)) (hi : i < 75) : hz_ME l yX4_becomes wsX4_becomes { frames := 0, cells := 0, slots := 0, locals := 0 } [.ref h0, .int (nI i), .int (x)] D zcl [(cI, .int), (cJ, .long)] [(h0, .inr (4, fs)), (am, .inl (cI, 75, .inl M))] [(h0, .inr (4, fs)), (am, .inl (cI, 75, .inl (upd M i x)))] (some (.int (M i))) := by
  refine hz_me (cc := cX4_becomes) (maxL := 4) (ret := (some .int)) (by decide) rfl (Nat.le_of_ble_eq_true rfl) ?_
  intro p e s m below meth c hx hb hr hts hown hlocks hml hP hK hD ls hl
  have hS : va_S (hz_a [(h0, .inr (4, fs)), (am, .inl (cI, 75, .inl M))]) s.heap s.heap [] := va_S.rf
  have hown : s.vm.findClass RX4 = some m.cls := hown
  have hl : lv_has ls 4 [(0, .ref h0), (1, .int (nI i)), (2, .int (x))] := hl
  have hinX4 : ∀ w ∈ u_ws RX4 TX4 16, w ∈ wsX4_becomes := fun w h => List.mem_cons_of_mem _ (List.mem_append_right _ (h))
  have wd1 := hts (.fieldLink RX4 9 "HurtSpeechModel" "m" "[I") (List.mem_of_getElem? (i := 1) rfl)
  refine lv_aload_n hx hb dX4_becomes_0 rfl (lv_at hl 0 rfl) ?_
  refine va_get hx hb hts hinX4 hown hK hP 0 rfl rfl 0 (by decide) wd1 (fun _ h => h) hf dX4_becomes_1 ?_
  refine lv_iload_n hx hb dX4_becomes_4 rfl (lv_at hl 1 rfl) ?_
  refine hz_iald (j := i) hx hb hK hP 1 0 rfl rfl (by omega) (Nat.le_of_ble_eq_true rfl) dX4_becomes_5 ?_
  refine lv_istore_n (lv' := [(3, .int (M i)), (0, .ref h0), (1, .int (nI i)), (2, .int (x))]) hx hb dX4_becomes_6 rfl hl (by decide) rfl (fun ls hl => ?_)
  refine lv_aload_n hx hb dX4_becomes_7 rfl (lv_at hl 1 rfl) ?_
  refine va_get hx hb hts hinX4 hown hK hP 0 rfl rfl 0 (by decide) wd1 (fun _ h => h) hf dX4_becomes_8 ?_
  refine lv_iload_n hx hb dX4_becomes_11 rfl (lv_at hl 2 rfl) ?_
  refine lv_iload_n hx hb dX4_becomes_12 rfl (lv_at hl 3 rfl) ?_
  refine hz_iast (j := i) hx hb hK hP hD hS 1 0 rfl rfl (by omega) (Nat.le_of_ble_eq_true rfl) dX4_becomes_13 (w' := [(h0, .inr (4, fs)), (am, .inl (cI, 75, .inl (upd M i x)))]) rfl (fun H locs hP hD hS => ?_)
  refine lv_iload_n hx hb dX4_becomes_14 rfl (lv_at hl 0 rfl) ?_
  refine hz_ei hx hb hr hlocks rfl ?_ hS (rfl) dX4_becomes_15
  exact hP
set_option maxHeartbeats 4000000 in
set_option maxRecDepth 100000 in
theorem c4_comesAs (l : Launch) (D : va_G) (cI cJ : ClassId) (h0 am : Nat) (fs : List Value) (M : Nat → Int32) (k q t : Int32) (hf : fs[0]? = some (.ref am)) (hM1 : M 1 = nI (nD M)) (hD8 : nD M ≤ 8) (hlt : nD M < 8) : hz_ME l yX4_comesAs wsX4_comesAs { frames := 1, cells := 0, slots := 0, locals := 23 } [.ref h0, .int (k), .int (q), .int (t)] D zcl [(cI, .int), (cJ, .long)] [(h0, .inr (4, fs)), (am, .inl (cI, 75, .inl M))] [(h0, .inr (4, fs)), (am, .inl (cI, 75, .inl (sp_add M k q t)))] (some (.int (nI (nD M)))) := by
  refine hz_me (cc := cX4_comesAs) (maxL := 5) (ret := (some .int)) (by decide) rfl (Nat.le_of_ble_eq_true rfl) ?_
  intro p e s m below meth c hx hb hr hts hown hlocks hml hP hK hD ls hl
  have hS : va_S (hz_a [(h0, .inr (4, fs)), (am, .inl (cI, 75, .inl M))]) s.heap s.heap [] := va_S.rf
  have hown : s.vm.findClass RX4 = some m.cls := hown
  have hl : lv_has ls 5 [(0, .ref h0), (1, .int (k)), (2, .int (q)), (3, .int (t))] := hl
  have hinX4 : ∀ w ∈ u_ws RX4 TX4 16, w ∈ wsX4_comesAs := fun w h => List.mem_cons_of_mem _ (List.mem_append_right _ (h))
  have wd1 := hts (.fieldLink RX4 9 "HurtSpeechModel" "m" "[I") (List.mem_of_getElem? (i := 1) rfl)
  refine lv_aload_n hx hb dX4_comesAs_0 rfl (lv_at hl 0 rfl) ?_
  refine va_get hx hb hts hinX4 hown hK hP 0 rfl rfl 0 (by decide) wd1 (fun _ h => h) hf dX4_comesAs_1 ?_
  refine lv_iconst (v := nI 1) hx hb dX4_comesAs_4 (by decide) ?_
  refine hz_iald (j := 1) hx hb hK hP 1 0 rfl rfl (by omega) (Nat.le_of_ble_eq_true rfl) dX4_comesAs_5 ?_
  refine hz_ct (y := nI (nD M)) hM1 ?_
  refine lv_istore (lv' := [(4, .int (nI (nD M))), (0, .ref h0), (1, .int (k)), (2, .int (q)), (3, .int (t))]) hx hb dX4_comesAs_6 hl (by decide) rfl (fun ls hl => ?_)
  refine lv_aload_n hx hb dX4_comesAs_8 rfl (lv_at hl 1 rfl) ?_
  refine va_get hx hb hts hinX4 hown hK hP 0 rfl rfl 0 (by decide) wd1 (fun _ h => h) hf dX4_comesAs_9 ?_
  refine lv_iconst (v := nI 1) hx hb dX4_comesAs_12 (by decide) ?_
  refine lv_dup2_11 hx hb dX4_comesAs_13 rfl rfl ?_
  refine hz_iald (j := 1) hx hb hK hP 1 0 rfl rfl (by omega) (Nat.le_of_ble_eq_true rfl) dX4_comesAs_14 ?_
  refine hz_ct (y := nI (nD M)) hM1 ?_
  refine lv_iconst (v := nI 1) hx hb dX4_comesAs_15 (by decide) ?_
  refine hz_iadd hx hb dX4_comesAs_16 ?_
  refine hz_iast (j := 1) hx hb hK hP hD hS 1 0 rfl rfl (by omega) (Nat.le_of_ble_eq_true rfl) dX4_comesAs_17 (w' := [(h0, .inr (4, fs)), (am, .inl (cI, 75, .inl (upd M 1 (nI (nD M + 1)))))]) rfl (fun H locs hP hD hS => ?_)
  refine lv_aload_n hx hb dX4_comesAs_18 rfl (lv_at hl 1 rfl) ?_
  refine lv_iload hx hb dX4_comesAs_19 (lv_at hl 0 rfl) ?_
  refine lv_iconst (v := nI 0) hx hb dX4_comesAs_21 (by decide) ?_
  refine lv_iload_n hx hb dX4_comesAs_22 rfl (lv_at hl 2 rfl) ?_
  refine hz_ce (As := [.int (nI (nD M)), .int (nI 0), .int (k)]) (rest := []) ⟨hx, hb, hml, hown, hts⟩ (c4_put l D cI cJ (h0 := h0) (am := am) (fs := fs) (M := upd M 1 (nI (nD M + 1))) (d := nD M) (w := 0) (x := k) (hf := by first | assumption | rfl) (hd := by omega) (hw := by omega)) (cwV 3 hts gX4_comesAs_X4_put rfl rfl rfl (by decide +kernel) ⟨Nat.le_of_ble_eq_true rfl, Nat.le_of_ble_eq_true rfl⟩) hK hP hD hS [0, 1] rfl (by decide) rfl (w' := [(h0, .inr (4, fs)), (am, .inl (cI, 75, .inl (upd (upd M 1 (nI (nD M + 1))) (3 + 5 * (nD M) + 0) k)))]) rfl [0, 1] rfl 0 rfl rfl rfl rfl hl.1 rfl (Nat.le_of_ble_eq_true rfl) dX4_comesAs_23 ⟨Nat.zero_le _, Nat.zero_le _⟩ (fun H locs hP hD hS => ?_)
  refine W.eq (g2 := F0 m 26 ls []) rfl ?_
  refine lv_aload_n hx hb dX4_comesAs_26 rfl (lv_at hl 1 rfl) ?_
  refine lv_iload hx hb dX4_comesAs_27 (lv_at hl 0 rfl) ?_
  refine lv_iconst (v := nI 1) hx hb dX4_comesAs_29 (by decide) ?_
  refine lv_iload_n hx hb dX4_comesAs_30 rfl (lv_at hl 3 rfl) ?_
  refine hz_ce (As := [.int (nI (nD M)), .int (nI 1), .int (q)]) (rest := []) ⟨hx, hb, hml, hown, hts⟩ (c4_put l D cI cJ (h0 := h0) (am := am) (fs := fs) (M := upd (upd M 1 (nI (nD M + 1))) (3 + 5 * (nD M) + 0) k) (d := nD M) (w := 1) (x := q) (hf := by first | assumption | rfl) (hd := by omega) (hw := by omega)) (cwV 3 hts gX4_comesAs_X4_put rfl rfl rfl (by decide +kernel) ⟨Nat.le_of_ble_eq_true rfl, Nat.le_of_ble_eq_true rfl⟩) hK hP hD hS [0, 1] rfl (by decide) rfl (w' := [(h0, .inr (4, fs)), (am, .inl (cI, 75, .inl (upd (upd (upd M 1 (nI (nD M + 1))) (3 + 5 * (nD M) + 0) k) (3 + 5 * (nD M) + 1) q)))]) rfl [0, 1] rfl 0 rfl rfl rfl rfl hl.1 rfl (Nat.le_of_ble_eq_true rfl) dX4_comesAs_31 ⟨Nat.zero_le _, Nat.zero_le _⟩ (fun H locs hP hD hS => ?_)
  refine W.eq (g2 := F0 m 34 ls []) rfl ?_
  refine lv_aload_n hx hb dX4_comesAs_34 rfl (lv_at hl 1 rfl) ?_
  refine lv_iload hx hb dX4_comesAs_35 (lv_at hl 0 rfl) ?_
  refine lv_iconst (v := nI 2) hx hb dX4_comesAs_37 (by decide) ?_
  refine lv_iload_n hx hb dX4_comesAs_38 rfl (lv_at hl 4 rfl) ?_
  refine hz_ce (As := [.int (nI (nD M)), .int (nI 2), .int (t)]) (rest := []) ⟨hx, hb, hml, hown, hts⟩ (c4_put l D cI cJ (h0 := h0) (am := am) (fs := fs) (M := upd (upd (upd M 1 (nI (nD M + 1))) (3 + 5 * (nD M) + 0) k) (3 + 5 * (nD M) + 1) q) (d := nD M) (w := 2) (x := t) (hf := by first | assumption | rfl) (hd := by omega) (hw := by omega)) (cwV 3 hts gX4_comesAs_X4_put rfl rfl rfl (by decide +kernel) ⟨Nat.le_of_ble_eq_true rfl, Nat.le_of_ble_eq_true rfl⟩) hK hP hD hS [0, 1] rfl (by decide) rfl (w' := [(h0, .inr (4, fs)), (am, .inl (cI, 75, .inl (upd (upd (upd (upd M 1 (nI (nD M + 1))) (3 + 5 * (nD M) + 0) k) (3 + 5 * (nD M) + 1) q) (3 + 5 * (nD M) + 2) t)))]) rfl [0, 1] rfl 0 rfl rfl rfl rfl hl.1 rfl (Nat.le_of_ble_eq_true rfl) dX4_comesAs_39 ⟨Nat.zero_le _, Nat.zero_le _⟩ (fun H locs hP hD hS => ?_)
  refine W.eq (g2 := F0 m 42 ls []) rfl ?_
  refine lv_aload_n hx hb dX4_comesAs_42 rfl (lv_at hl 1 rfl) ?_
  refine lv_iload hx hb dX4_comesAs_43 (lv_at hl 0 rfl) ?_
  refine lv_iconst (v := nI 3) hx hb dX4_comesAs_45 (by decide) ?_
  refine lv_iconst (v := nI 0) hx hb dX4_comesAs_46 (by decide) ?_
  refine hz_ce (As := [.int (nI (nD M)), .int (nI 3), .int (nI 0)]) (rest := []) ⟨hx, hb, hml, hown, hts⟩ (c4_put l D cI cJ (h0 := h0) (am := am) (fs := fs) (M := upd (upd (upd (upd M 1 (nI (nD M + 1))) (3 + 5 * (nD M) + 0) k) (3 + 5 * (nD M) + 1) q) (3 + 5 * (nD M) + 2) t) (d := nD M) (w := 3) (x := nI 0) (hf := by first | assumption | rfl) (hd := by omega) (hw := by omega)) (cwV 3 hts gX4_comesAs_X4_put rfl rfl rfl (by decide +kernel) ⟨Nat.le_of_ble_eq_true rfl, Nat.le_of_ble_eq_true rfl⟩) hK hP hD hS [0, 1] rfl (by decide) rfl (w' := [(h0, .inr (4, fs)), (am, .inl (cI, 75, .inl (upd (upd (upd (upd (upd M 1 (nI (nD M + 1))) (3 + 5 * (nD M) + 0) k) (3 + 5 * (nD M) + 1) q) (3 + 5 * (nD M) + 2) t) (3 + 5 * (nD M) + 3) (nI 0))))]) rfl [0, 1] rfl 0 rfl rfl rfl rfl hl.1 rfl (Nat.le_of_ble_eq_true rfl) dX4_comesAs_47 ⟨Nat.zero_le _, Nat.zero_le _⟩ (fun H locs hP hD hS => ?_)
  refine W.eq (g2 := F0 m 50 ls []) rfl ?_
  refine lv_aload_n hx hb dX4_comesAs_50 rfl (lv_at hl 1 rfl) ?_
  refine lv_iload hx hb dX4_comesAs_51 (lv_at hl 0 rfl) ?_
  refine lv_iconst (v := nI 4) hx hb dX4_comesAs_53 (by decide) ?_
  refine lv_iconst (v := nI 0) hx hb dX4_comesAs_54 (by decide) ?_
  refine hz_ce (As := [.int (nI (nD M)), .int (nI 4), .int (nI 0)]) (rest := []) ⟨hx, hb, hml, hown, hts⟩ (c4_put l D cI cJ (h0 := h0) (am := am) (fs := fs) (M := upd (upd (upd (upd (upd M 1 (nI (nD M + 1))) (3 + 5 * (nD M) + 0) k) (3 + 5 * (nD M) + 1) q) (3 + 5 * (nD M) + 2) t) (3 + 5 * (nD M) + 3) (nI 0)) (d := nD M) (w := 4) (x := nI 0) (hf := by first | assumption | rfl) (hd := by omega) (hw := by omega)) (cwV 3 hts gX4_comesAs_X4_put rfl rfl rfl (by decide +kernel) ⟨Nat.le_of_ble_eq_true rfl, Nat.le_of_ble_eq_true rfl⟩) hK hP hD hS [0, 1] rfl (by decide) rfl (w' := [(h0, .inr (4, fs)), (am, .inl (cI, 75, .inl (upd (upd (upd (upd (upd (upd M 1 (nI (nD M + 1))) (3 + 5 * (nD M) + 0) k) (3 + 5 * (nD M) + 1) q) (3 + 5 * (nD M) + 2) t) (3 + 5 * (nD M) + 3) (nI 0)) (3 + 5 * (nD M) + 4) (nI 0))))]) rfl [0, 1] rfl 0 rfl rfl rfl rfl hl.1 rfl (Nat.le_of_ble_eq_true rfl) dX4_comesAs_55 ⟨Nat.zero_le _, Nat.zero_le _⟩ (fun H locs hP hD hS => ?_)
  refine W.eq (g2 := F0 m 58 ls []) rfl ?_
  refine lv_iload hx hb dX4_comesAs_58 (lv_at hl 0 rfl) ?_
  refine hz_ei hx hb hr hlocks rfl ?_ hS (rfl) dX4_comesAs_60
  exact hP
set_option maxHeartbeats 4000000 in
set_option maxRecDepth 100000 in
theorem c4_isHeld (l : Launch) (D : va_G) (cI cJ : ClassId) (h0 am : Nat) (fs : List Value) (M : Nat → Int32) (by_ tg at_ fo : Int32) (hf : fs[0]? = some (.ref am)) (hM2 : M 2 = nI (nS M)) (hS8 : nS M ≤ 8) (hlt : nS M < 8) : hz_ME l yX4_isHeld wsX4_isHeld { frames := 0, cells := 0, slots := 0, locals := 0 } [.ref h0, .int (by_), .int (tg), .int (at_), .int (fo)] D zcl [(cI, .int), (cJ, .long)] [(h0, .inr (4, fs)), (am, .inl (cI, 75, .inl M))] [(h0, .inr (4, fs)), (am, .inl (cI, 75, .inl (sp_addS M by_ tg at_ fo)))] (some (.int (nI (nS M)))) := by
  refine hz_me (cc := cX4_isHeld) (maxL := 6) (ret := (some .int)) (by decide) rfl (Nat.le_of_ble_eq_true rfl) ?_
  intro p e s m below meth c hx hb hr hts hown hlocks hml hP hK hD ls hl
  have hS : va_S (hz_a [(h0, .inr (4, fs)), (am, .inl (cI, 75, .inl M))]) s.heap s.heap [] := va_S.rf
  have hown : s.vm.findClass RX4 = some m.cls := hown
  have hl : lv_has ls 6 [(0, .ref h0), (1, .int (by_)), (2, .int (tg)), (3, .int (at_)), (4, .int (fo))] := hl
  have hinX4 : ∀ w ∈ u_ws RX4 TX4 16, w ∈ wsX4_isHeld := fun w h => List.mem_cons_of_mem _ (List.mem_append_right _ (h))
  have wd1 := hts (.fieldLink RX4 9 "HurtSpeechModel" "m" "[I") (List.mem_of_getElem? (i := 1) rfl)
  refine lv_aload_n hx hb dX4_isHeld_0 rfl (lv_at hl 0 rfl) ?_
  refine va_get hx hb hts hinX4 hown hK hP 0 rfl rfl 0 (by decide) wd1 (fun _ h => h) hf dX4_isHeld_1 ?_
  refine lv_iconst (v := nI 2) hx hb dX4_isHeld_4 (by decide) ?_
  refine hz_iald (j := 2) hx hb hK hP 1 0 rfl rfl (by omega) (Nat.le_of_ble_eq_true rfl) dX4_isHeld_5 ?_
  refine hz_ct (y := nI (nS M)) hM2 ?_
  refine lv_istore (lv' := [(5, .int (nI (nS M))), (0, .ref h0), (1, .int (by_)), (2, .int (tg)), (3, .int (at_)), (4, .int (fo))]) hx hb dX4_isHeld_6 hl (by decide) rfl (fun ls hl => ?_)
  refine lv_aload_n hx hb dX4_isHeld_8 rfl (lv_at hl 1 rfl) ?_
  refine va_get hx hb hts hinX4 hown hK hP 0 rfl rfl 0 (by decide) wd1 (fun _ h => h) hf dX4_isHeld_9 ?_
  refine lv_iconst (v := nI 2) hx hb dX4_isHeld_12 (by decide) ?_
  refine lv_dup2_11 hx hb dX4_isHeld_13 rfl rfl ?_
  refine hz_iald (j := 2) hx hb hK hP 1 0 rfl rfl (by omega) (Nat.le_of_ble_eq_true rfl) dX4_isHeld_14 ?_
  refine hz_ct (y := nI (nS M)) hM2 ?_
  refine lv_iconst (v := nI 1) hx hb dX4_isHeld_15 (by decide) ?_
  refine hz_iadd hx hb dX4_isHeld_16 ?_
  refine hz_iast (j := 2) hx hb hK hP hD hS 1 0 rfl rfl (by omega) (Nat.le_of_ble_eq_true rfl) dX4_isHeld_17 (w' := [(h0, .inr (4, fs)), (am, .inl (cI, 75, .inl (upd M 2 (nI (nS M + 1)))))]) rfl (fun H locs hP hD hS => ?_)
  refine lv_aload_n hx hb dX4_isHeld_18 rfl (lv_at hl 1 rfl) ?_
  refine va_get hx hb hts hinX4 hown hK hP 0 rfl rfl 0 (by decide) wd1 (fun _ h => h) hf dX4_isHeld_19 ?_
  refine lv_bipush (v := nI 43) hx hb dX4_isHeld_22 (by decide) ?_
  refine lv_iconst (v := nI 4) hx hb dX4_isHeld_24 (by decide) ?_
  refine lv_iload hx hb dX4_isHeld_25 (lv_at hl 0 rfl) ?_
  refine hz_imul hx hb dX4_isHeld_27 ?_
  refine hz_iadd hx hb dX4_isHeld_28 ?_
  refine lv_iload_n hx hb dX4_isHeld_29 rfl (lv_at hl 2 rfl) ?_
  refine hz_iast (j := 43 + 4 * (nS M)) hx hb hK hP hD hS 1 0 rfl rfl (by omega) (Nat.le_of_ble_eq_true rfl) dX4_isHeld_30 (w' := [(h0, .inr (4, fs)), (am, .inl (cI, 75, .inl (upd (upd M 2 (nI (nS M + 1))) (43 + 4 * (nS M)) by_)))]) rfl (fun H locs hP hD hS => ?_)
  refine lv_aload_n hx hb dX4_isHeld_31 rfl (lv_at hl 1 rfl) ?_
  refine va_get hx hb hts hinX4 hown hK hP 0 rfl rfl 0 (by decide) wd1 (fun _ h => h) hf dX4_isHeld_32 ?_
  refine lv_bipush (v := nI 43) hx hb dX4_isHeld_35 (by decide) ?_
  refine lv_iconst (v := nI 4) hx hb dX4_isHeld_37 (by decide) ?_
  refine lv_iload hx hb dX4_isHeld_38 (lv_at hl 0 rfl) ?_
  refine hz_imul hx hb dX4_isHeld_40 ?_
  refine hz_iadd hx hb dX4_isHeld_41 ?_
  refine lv_iconst (v := nI 1) hx hb dX4_isHeld_42 (by decide) ?_
  refine hz_iadd hx hb dX4_isHeld_43 ?_
  refine lv_iload_n hx hb dX4_isHeld_44 rfl (lv_at hl 3 rfl) ?_
  refine hz_iast (j := 43 + 4 * (nS M) + 1) hx hb hK hP hD hS 1 0 rfl rfl (by omega) (Nat.le_of_ble_eq_true rfl) dX4_isHeld_45 (w' := [(h0, .inr (4, fs)), (am, .inl (cI, 75, .inl (upd (upd (upd M 2 (nI (nS M + 1))) (43 + 4 * (nS M)) by_) (43 + 4 * (nS M) + 1) tg)))]) rfl (fun H locs hP hD hS => ?_)
  refine lv_aload_n hx hb dX4_isHeld_46 rfl (lv_at hl 1 rfl) ?_
  refine va_get hx hb hts hinX4 hown hK hP 0 rfl rfl 0 (by decide) wd1 (fun _ h => h) hf dX4_isHeld_47 ?_
  refine lv_bipush (v := nI 43) hx hb dX4_isHeld_50 (by decide) ?_
  refine lv_iconst (v := nI 4) hx hb dX4_isHeld_52 (by decide) ?_
  refine lv_iload hx hb dX4_isHeld_53 (lv_at hl 0 rfl) ?_
  refine hz_imul hx hb dX4_isHeld_55 ?_
  refine hz_iadd hx hb dX4_isHeld_56 ?_
  refine lv_iconst (v := nI 2) hx hb dX4_isHeld_57 (by decide) ?_
  refine hz_iadd hx hb dX4_isHeld_58 ?_
  refine lv_iload_n hx hb dX4_isHeld_59 rfl (lv_at hl 4 rfl) ?_
  refine hz_iast (j := 43 + 4 * (nS M) + 2) hx hb hK hP hD hS 1 0 rfl rfl (by omega) (Nat.le_of_ble_eq_true rfl) dX4_isHeld_60 (w' := [(h0, .inr (4, fs)), (am, .inl (cI, 75, .inl (upd (upd (upd (upd M 2 (nI (nS M + 1))) (43 + 4 * (nS M)) by_) (43 + 4 * (nS M) + 1) tg) (43 + 4 * (nS M) + 2) at_)))]) rfl (fun H locs hP hD hS => ?_)
  refine lv_aload_n hx hb dX4_isHeld_61 rfl (lv_at hl 1 rfl) ?_
  refine va_get hx hb hts hinX4 hown hK hP 0 rfl rfl 0 (by decide) wd1 (fun _ h => h) hf dX4_isHeld_62 ?_
  refine lv_bipush (v := nI 43) hx hb dX4_isHeld_65 (by decide) ?_
  refine lv_iconst (v := nI 4) hx hb dX4_isHeld_67 (by decide) ?_
  refine lv_iload hx hb dX4_isHeld_68 (lv_at hl 0 rfl) ?_
  refine hz_imul hx hb dX4_isHeld_70 ?_
  refine hz_iadd hx hb dX4_isHeld_71 ?_
  refine lv_iconst (v := nI 3) hx hb dX4_isHeld_72 (by decide) ?_
  refine hz_iadd hx hb dX4_isHeld_73 ?_
  refine lv_iload hx hb dX4_isHeld_74 (lv_at hl 5 rfl) ?_
  refine hz_iast (j := 43 + 4 * (nS M) + 3) hx hb hK hP hD hS 1 0 rfl rfl (by omega) (Nat.le_of_ble_eq_true rfl) dX4_isHeld_76 (w' := [(h0, .inr (4, fs)), (am, .inl (cI, 75, .inl (upd (upd (upd (upd (upd M 2 (nI (nS M + 1))) (43 + 4 * (nS M)) by_) (43 + 4 * (nS M) + 1) tg) (43 + 4 * (nS M) + 2) at_) (43 + 4 * (nS M) + 3) fo)))]) rfl (fun H locs hP hD hS => ?_)
  refine lv_iload hx hb dX4_isHeld_77 (lv_at hl 0 rfl) ?_
  refine hz_ei hx hb hr hlocks rfl ?_ hS (rfl) dX4_isHeld_79
  exact hP
set_option maxHeartbeats 4000000 in
set_option maxRecDepth 100000 in
theorem c4_copyAll (l : Launch) (D : va_G) (cI cJ : ClassId) (a1 a2 : Nat) (F G : Nat → Int32)  : hz_ME l yX4_copyAll wsX4_copyAll { frames := 0, cells := 0, slots := 0, locals := 0 } [.ref a1, .ref a2] D zcl [(cI, .int), (cJ, .long)] [(a1, .inl (cI, 75, .inl F)), (a2, .inl (cI, 75, .inl G))] [(a1, .inl (cI, 75, .inl F)), (a2, .inl (cI, 75, .inl F))] none := by
  refine hz_me (cc := cX4_copyAll) (maxL := 3) (ret := none) (by decide) rfl (Nat.le_of_ble_eq_true rfl) ?_
  intro p e s m below meth c hx hb hr hts hown hlocks hml hP hK hD ls hl
  have hS : va_S (hz_a [(a1, .inl (cI, 75, .inl F)), (a2, .inl (cI, 75, .inl G))]) s.heap s.heap [] := va_S.rf
  have hown : s.vm.findClass RX4 = some m.cls := hown
  have hl : lv_has ls 3 [(0, .ref a1), (1, .ref a2)] := hl
  refine lv_iconst (v := nI 0) hx hb dX4_copyAll_0 (by decide) ?_
  refine lv_istore_n (lv' := [(2, .int (nI 0)), (0, .ref a1), (1, .ref a2)]) hx hb dX4_copyAll_1 rfl hl (by decide) rfl (fun ls hl => ?_)
  have loop : ∀ (nn : Nat) (k : Nat) (ls : Array Slot) (H : Heap) (locs : List Loc), 75 - k < nn → (k ≤ 75) → lv_has ls 3 [(2, .int (nI k)), (0, .ref a1), (1, .ref a2)] → va_P D zcl [(a1, .inl (cI, 75, .inl F)), (a2, .inl (cI, 75, .inl (fa_fill F G k)))] H → va_D (hz_a [(a1, .inl (cI, 75, .inl F)), (a2, .inl (cI, 75, .inl G))]) [(a1, .inl (cI, 75, .inl F)), (a2, .inl (cI, 75, .inl (fa_fill F G k)))] → va_S (hz_a [(a1, .inl (cI, 75, .inl F)), (a2, .inl (cI, 75, .inl G))]) s.heap H locs → W p l e (headSpec wsX4_copyAll { frames := 0, cells := 0, slots := 0, locals := 0 }).room s m ([.ref a1, .ref a2] : List Value).toArray below meth c H locs 0 0 (MQ below (hz_E D zcl [(a1, .inl (cI, 75, .inl F)), (a2, .inl (cI, 75, .inl F))] none (hz_a [(a1, .inl (cI, 75, .inl F)), (a2, .inl (cI, 75, .inl G))])) ([.ref a1, .ref a2] : List Value).toArray s 0 0 (hz_a [(a1, .inl (cI, 75, .inl F)), (a2, .inl (cI, 75, .inl G))])) (F0 m 2 ls []) := by
    intro nn
    induction nn with
    | zero => intro k ls H locs hnn hk hl hP hD hS; exact absurd hnn (Nat.not_lt_zero _)
    | succ nn ihloop =>
      intro k ls H locs hnn hk hl hP hD hS
      refine lv_iload_n hx hb dX4_copyAll_2 rfl (lv_at hl 0 rfl) ?_
      refine lv_bipush (v := nI 75) hx hb dX4_copyAll_3 (by decide) ?_
      refine hz_icmp_ge (tgt := 20) (by omega) (by omega) hx hb dX4_copyAll_5 (by decide) (fun c5 => ?_) (fun c5 => ?_)
      · refine hz_ev hx hb hr hlocks ?_ hS dX4_copyAll_20
        exact hz_sw hP 1 rfl (g := F) (fun j hj => fa_fill_in (by omega))
      · refine lv_aload_n hx hb dX4_copyAll_8 rfl (lv_at hl 2 rfl) ?_
        refine lv_iload_n hx hb dX4_copyAll_9 rfl (lv_at hl 0 rfl) ?_
        refine lv_aload_n hx hb dX4_copyAll_10 rfl (lv_at hl 1 rfl) ?_
        refine lv_iload_n hx hb dX4_copyAll_11 rfl (lv_at hl 0 rfl) ?_
        refine hz_iald (j := k) hx hb hK hP 0 0 rfl rfl (by omega) (Nat.le_of_ble_eq_true rfl) dX4_copyAll_12 ?_
        refine hz_iast (j := k) hx hb hK hP hD hS 1 0 rfl rfl (by omega) (Nat.le_of_ble_eq_true rfl) dX4_copyAll_13 (w' := [(a1, .inl (cI, 75, .inl F)), (a2, .inl (cI, 75, .inl (upd (fa_fill F G k) k (F k))))]) rfl (fun H locs hP hD hS => ?_)
        refine lv_iinc (v := nI (k + 1)) (lv' := [(2, .int (nI (k + 1))), (0, .ref a1), (1, .ref a2)]) hx hb dX4_copyAll_14 hl (k := 0) rfl (nI_1 _) (by decide) rfl (fun ls hl => ?_)
        refine lv_goto (tgt := 2) hx hb dX4_copyAll_17 (by decide) ?_
        rw [fa_fill_succ] at hP hD
        exact ihloop (k + 1) ls _ _ (by omega) (by omega) (lv_sub hl [0, 1, 2] rfl) hP hD hS
  exact loop _ 0 ls _ _ (Nat.lt_succ_self _) (by omega) (lv_sub hl [0, 1, 2] rfl) hP hD hS
set_option maxHeartbeats 4000000 in
set_option maxRecDepth 100000 in
theorem c4_thinks (l : Launch) (D : va_G) (cI cJ : ClassId) (h0 am aw : Nat) (fs : List Value) (M G : Nat → Int32) (hf : fs[0]? = some (.ref am)) (hf2 : fs[2]? = some (.ref aw)) : hz_ME l yX4_thinks wsX4_thinks { frames := 1, cells := 0, slots := 0, locals := 22 } [.ref h0] D zcl [(cI, .int), (cJ, .long)] [(h0, .inr (4, fs)), (am, .inl (cI, 75, .inl M)), (aw, .inl (cI, 75, .inl G))] [(h0, .inr (4, fs)), (am, .inl (cI, 75, .inl M)), (aw, .inl (cI, 75, .inl M))] none := by
  refine hz_me (cc := cX4_thinks) (maxL := 1) (ret := none) (by decide) rfl (Nat.le_of_ble_eq_true rfl) ?_
  intro p e s m below meth c hx hb hr hts hown hlocks hml hP hK hD ls hl
  have hS : va_S (hz_a [(h0, .inr (4, fs)), (am, .inl (cI, 75, .inl M)), (aw, .inl (cI, 75, .inl G))]) s.heap s.heap [] := va_S.rf
  have hown : s.vm.findClass RX4 = some m.cls := hown
  have hl : lv_has ls 1 [(0, .ref h0)] := hl
  have hinX4 : ∀ w ∈ u_ws RX4 TX4 16, w ∈ wsX4_thinks := fun w h => List.mem_cons_of_mem _ (List.mem_append_right _ (h))
  have wd1 := hts (.fieldLink RX4 9 "HurtSpeechModel" "m" "[I") (List.mem_of_getElem? (i := 1) rfl)
  have wd2 := hts (.fieldLink RX4 16 "HurtSpeechModel" "was" "[I") (List.mem_of_getElem? (i := 2) rfl)
  refine lv_aload_n hx hb dX4_thinks_0 rfl (lv_at hl 0 rfl) ?_
  refine va_get hx hb hts hinX4 hown hK hP 0 rfl rfl 0 (by decide) wd1 (fun _ h => h) hf dX4_thinks_1 ?_
  refine lv_aload_n hx hb dX4_thinks_4 rfl (lv_at hl 0 rfl) ?_
  refine va_get hx hb hts hinX4 hown hK hP 0 rfl rfl 2 (by decide) wd2 (fun _ h => h) hf2 dX4_thinks_5 ?_
  refine hz_cse (As := [.ref am, .ref aw]) (rest := []) ⟨hx, hb, hml, hown, hts⟩ (c4_copyAll l D cI cJ (a1 := am) (a2 := aw) (F := M) (G := G) ) (va_cwS 2 hts gX4_thinks_X4_copyAll rfl rfl rfl (by decide +kernel) ⟨Nat.le_of_ble_eq_true rfl, Nat.le_of_ble_eq_true rfl⟩) hK hP hD hS [1, 2] rfl (by decide) rfl (w' := [(h0, .inr (4, fs)), (am, .inl (cI, 75, .inl M)), (aw, .inl (cI, 75, .inl M))]) rfl [0, 1] rfl rfl hl.1 rfl (Nat.le_of_ble_eq_true rfl) dX4_thinks_8 ⟨Nat.zero_le _, Nat.zero_le _⟩ (fun H locs hP hD hS => ?_)
  refine W.eq (g2 := F0 m 11 ls []) rfl ?_
  refine hz_ev hx hb hr hlocks ?_ hS dX4_thinks_11
  exact hP
set_option maxHeartbeats 4000000 in
set_option maxRecDepth 100000 in
theorem c4_putsBack (l : Launch) (D : va_G) (cI cJ : ClassId) (h0 am aw : Nat) (fs : List Value) (M G : Nat → Int32) (hf : fs[0]? = some (.ref am)) (hf2 : fs[2]? = some (.ref aw)) : hz_ME l yX4_putsBack wsX4_putsBack { frames := 1, cells := 0, slots := 0, locals := 22 } [.ref h0] D zcl [(cI, .int), (cJ, .long)] [(h0, .inr (4, fs)), (am, .inl (cI, 75, .inl M)), (aw, .inl (cI, 75, .inl G))] [(h0, .inr (4, fs)), (am, .inl (cI, 75, .inl G)), (aw, .inl (cI, 75, .inl G))] none := by
  refine hz_me (cc := cX4_putsBack) (maxL := 1) (ret := none) (by decide) rfl (Nat.le_of_ble_eq_true rfl) ?_
  intro p e s m below meth c hx hb hr hts hown hlocks hml hP hK hD ls hl
  have hS : va_S (hz_a [(h0, .inr (4, fs)), (am, .inl (cI, 75, .inl M)), (aw, .inl (cI, 75, .inl G))]) s.heap s.heap [] := va_S.rf
  have hown : s.vm.findClass RX4 = some m.cls := hown
  have hl : lv_has ls 1 [(0, .ref h0)] := hl
  have hinX4 : ∀ w ∈ u_ws RX4 TX4 16, w ∈ wsX4_putsBack := fun w h => List.mem_cons_of_mem _ (List.mem_append_right _ (h))
  have wd1 := hts (.fieldLink RX4 16 "HurtSpeechModel" "was" "[I") (List.mem_of_getElem? (i := 1) rfl)
  have wd2 := hts (.fieldLink RX4 9 "HurtSpeechModel" "m" "[I") (List.mem_of_getElem? (i := 2) rfl)
  refine lv_aload_n hx hb dX4_putsBack_0 rfl (lv_at hl 0 rfl) ?_
  refine va_get hx hb hts hinX4 hown hK hP 0 rfl rfl 2 (by decide) wd1 (fun _ h => h) hf2 dX4_putsBack_1 ?_
  refine lv_aload_n hx hb dX4_putsBack_4 rfl (lv_at hl 0 rfl) ?_
  refine va_get hx hb hts hinX4 hown hK hP 0 rfl rfl 0 (by decide) wd2 (fun _ h => h) hf dX4_putsBack_5 ?_
  refine hz_cse (As := [.ref aw, .ref am]) (rest := []) ⟨hx, hb, hml, hown, hts⟩ (c4_copyAll l D cI cJ (a1 := aw) (a2 := am) (F := G) (G := M) ) (va_cwS 2 hts gX4_putsBack_X4_copyAll rfl rfl rfl (by decide +kernel) ⟨Nat.le_of_ble_eq_true rfl, Nat.le_of_ble_eq_true rfl⟩) hK hP hD hS [2, 1] rfl (by decide) rfl (w' := [(h0, .inr (4, fs)), (am, .inl (cI, 75, .inl G)), (aw, .inl (cI, 75, .inl G))]) rfl [0, 1] rfl rfl hl.1 rfl (Nat.le_of_ble_eq_true rfl) dX4_putsBack_8 ⟨Nat.zero_le _, Nat.zero_le _⟩ (fun H locs hP hD hS => ?_)
  refine W.eq (g2 := F0 m 11 ls []) rfl ?_
  refine hz_ev hx hb hr hlocks ?_ hS dX4_putsBack_11
  exact hP
set_option maxHeartbeats 4000000 in
set_option maxRecDepth 100000 in
theorem c4_allHurt (l : Launch) (D : va_G) (cI cJ : ClassId) (h0 am : Nat) (fs : List Value) (M : Nat → Int32) (hf : fs[0]? = some (.ref am)) (hM1 : M 1 = nI (nD M)) (hD8 : nD M ≤ 8) : hz_MP l yX4_allHurt wsX4_allHurt { frames := 1, cells := 0, slots := 0, locals := 22 } [.ref h0] D zcl [(cI, .int), (cJ, .long)] [(h0, .inr (4, fs)), (am, .inl (cI, 75, .inl M))] (.int (sp_sum (fun d => M (3 + 5 * d + 3)) (nD M))) := by
  refine hz_mp (cc := cX4_allHurt) (maxL := 3) (ret := (some .int)) (by decide) rfl (Nat.le_of_ble_eq_true rfl) ?_
  intro p e s m below meth c hx hb hr hts hown hlocks hml hP hK ls hl
  have hown : s.vm.findClass RX4 = some m.cls := hown
  have hl : lv_has ls 3 [(0, .ref h0)] := hl
  have hinX4 : ∀ w ∈ u_ws RX4 TX4 16, w ∈ wsX4_allHurt := fun w h => List.mem_cons_of_mem _ (List.mem_append_right _ (h))
  have wd1 := hts (.fieldLink RX4 9 "HurtSpeechModel" "m" "[I") (List.mem_of_getElem? (i := 1) rfl)
  refine lv_iconst (v := nI 0) hx hb dX4_allHurt_0 (by decide) ?_
  refine lv_istore_n (lv' := [(1, .int (nI 0)), (0, .ref h0)]) hx hb dX4_allHurt_1 rfl hl (by decide) rfl (fun ls hl => ?_)
  refine lv_iconst (v := nI 0) hx hb dX4_allHurt_2 (by decide) ?_
  refine lv_istore_n (lv' := [(2, .int (nI 0)), (1, .int (nI 0)), (0, .ref h0)]) hx hb dX4_allHurt_3 rfl hl (by decide) rfl (fun ls hl => ?_)
  have loop : ∀ (nn : Nat) (d : Nat) (ls : Array Slot), nD M - d < nn → (d ≤ nD M) → lv_has ls 3 [(2, .int (nI d)), (1, .int (sp_sum (fun d => M (3 + 5 * d + 3)) d)), (0, .ref h0)] → W p l e (headSpec wsX4_allHurt { frames := 1, cells := 0, slots := 0, locals := 22 }).room s m ([.ref h0] : List Value).toArray below meth c s.heap [] 0 0 (MQ below (hz_V (.int (sp_sum (fun d => M (3 + 5 * d + 3)) (nD M)))) ([.ref h0] : List Value).toArray s 0 0 (fun _ => False)) (F0 m 4 ls []) := by
    intro nn
    induction nn with
    | zero => intro d ls hnn hdn hl; exact absurd hnn (Nat.not_lt_zero _)
    | succ nn ihloop =>
      intro d ls hnn hdn hl
      refine lv_iload_n hx hb dX4_allHurt_4 rfl (lv_at hl 0 rfl) ?_
      refine lv_aload_n hx hb dX4_allHurt_5 rfl (lv_at hl 2 rfl) ?_
      refine va_get hx hb hts hinX4 hown hK hP 0 rfl rfl 0 (by decide) wd1 (fun _ h => h) hf dX4_allHurt_6 ?_
      refine lv_iconst (v := nI 1) hx hb dX4_allHurt_9 (by decide) ?_
      refine hz_iald (j := 1) hx hb hK hP 1 0 rfl rfl (by omega) (Nat.le_of_ble_eq_true rfl) dX4_allHurt_10 ?_
      refine hz_ct (y := nI (nD M)) hM1 ?_
      refine hz_icmp_ge (tgt := 29) (by omega) (by omega) hx hb dX4_allHurt_11 (by decide) (fun c11 => ?_) (fun c11 => ?_)
      · refine lv_iload_n hx hb dX4_allHurt_29 rfl (lv_at hl 1 rfl) ?_
        exact hz_ri hx hb hr hlocks rfl (by rw [show d = nD M by omega]) dX4_allHurt_30
      · refine lv_iload_n hx hb dX4_allHurt_14 rfl (lv_at hl 1 rfl) ?_
        refine lv_aload_n hx hb dX4_allHurt_15 rfl (lv_at hl 2 rfl) ?_
        refine lv_iload_n hx hb dX4_allHurt_16 rfl (lv_at hl 0 rfl) ?_
        refine lv_iconst (v := nI 3) hx hb dX4_allHurt_17 (by decide) ?_
        refine hz_cv (As := [.int (nI d), .int (nI 3)]) (rest := [.int (sp_sum (fun d => M (3 + 5 * d + 3)) d)]) ⟨hx, hb, hml, hown, hts⟩ (c4_it l D cI cJ (h0 := h0) (am := am) (fs := fs) (M := M) (d := d) (w := 3) (hf := by first | assumption | rfl) (hd := by omega) (hw := by omega)) (cwV 2 hts gX4_allHurt_X4_it rfl rfl rfl (by decide +kernel) ⟨Nat.le_of_ble_eq_true rfl, Nat.le_of_ble_eq_true rfl⟩) hK hP [0, 1] rfl [0, 1] rfl 0 rfl rfl rfl rfl hl.1 rfl (Nat.le_of_ble_eq_true rfl) dX4_allHurt_18 ⟨Nat.zero_le _, Nat.zero_le _⟩ ?_
        refine lv_iadd hx hb dX4_allHurt_21 ?_
        refine lv_istore_n (lv' := [(1, .int ((sp_sum (fun d => M (3 + 5 * d + 3)) d) + (M (3 + 5 * d + 3)))), (2, .int (nI d)), (0, .ref h0)]) hx hb dX4_allHurt_22 rfl hl (by decide) rfl (fun ls hl => ?_)
        refine lv_iinc (v := nI (d + 1)) (lv' := [(2, .int (nI (d + 1))), (1, .int ((sp_sum (fun d => M (3 + 5 * d + 3)) d) + (M (3 + 5 * d + 3)))), (0, .ref h0)]) hx hb dX4_allHurt_23 hl (k := 1) rfl (nI_1 _) (by decide) rfl (fun ls hl => ?_)
        refine lv_goto (tgt := 4) hx hb dX4_allHurt_26 (by decide) ?_
        exact ihloop (d + 1) ls (by omega) (by omega) (lv_sub hl [0, 1, 2] rfl)
  exact loop _ 0 ls (Nat.lt_succ_self _) (by omega) (lv_sub hl [0, 1, 2] rfl)
set_option maxHeartbeats 4000000 in
set_option maxRecDepth 100000 in
theorem c4_allForce (l : Launch) (D : va_G) (cI cJ : ClassId) (h0 am : Nat) (fs : List Value) (M : Nat → Int32) (hf : fs[0]? = some (.ref am)) (hM2 : M 2 = nI (nS M)) (hS8 : nS M ≤ 8) : hz_MP l yX4_allForce wsX4_allForce { frames := 1, cells := 0, slots := 0, locals := 22 } [.ref h0] D zcl [(cI, .int), (cJ, .long)] [(h0, .inr (4, fs)), (am, .inl (cI, 75, .inl M))] (.int (sp_sum (fun d => M (43 + 4 * d + 3)) (nS M))) := by
  refine hz_mp (cc := cX4_allForce) (maxL := 3) (ret := (some .int)) (by decide) rfl (Nat.le_of_ble_eq_true rfl) ?_
  intro p e s m below meth c hx hb hr hts hown hlocks hml hP hK ls hl
  have hown : s.vm.findClass RX4 = some m.cls := hown
  have hl : lv_has ls 3 [(0, .ref h0)] := hl
  have hinX4 : ∀ w ∈ u_ws RX4 TX4 16, w ∈ wsX4_allForce := fun w h => List.mem_cons_of_mem _ (List.mem_append_right _ (h))
  have wd1 := hts (.fieldLink RX4 9 "HurtSpeechModel" "m" "[I") (List.mem_of_getElem? (i := 1) rfl)
  refine lv_iconst (v := nI 0) hx hb dX4_allForce_0 (by decide) ?_
  refine lv_istore_n (lv' := [(1, .int (nI 0)), (0, .ref h0)]) hx hb dX4_allForce_1 rfl hl (by decide) rfl (fun ls hl => ?_)
  refine lv_iconst (v := nI 0) hx hb dX4_allForce_2 (by decide) ?_
  refine lv_istore_n (lv' := [(2, .int (nI 0)), (1, .int (nI 0)), (0, .ref h0)]) hx hb dX4_allForce_3 rfl hl (by decide) rfl (fun ls hl => ?_)
  have loop : ∀ (nn : Nat) (d : Nat) (ls : Array Slot), nS M - d < nn → (d ≤ nS M) → lv_has ls 3 [(2, .int (nI d)), (1, .int (sp_sum (fun d => M (43 + 4 * d + 3)) d)), (0, .ref h0)] → W p l e (headSpec wsX4_allForce { frames := 1, cells := 0, slots := 0, locals := 22 }).room s m ([.ref h0] : List Value).toArray below meth c s.heap [] 0 0 (MQ below (hz_V (.int (sp_sum (fun d => M (43 + 4 * d + 3)) (nS M)))) ([.ref h0] : List Value).toArray s 0 0 (fun _ => False)) (F0 m 4 ls []) := by
    intro nn
    induction nn with
    | zero => intro d ls hnn hdn hl; exact absurd hnn (Nat.not_lt_zero _)
    | succ nn ihloop =>
      intro d ls hnn hdn hl
      refine lv_iload_n hx hb dX4_allForce_4 rfl (lv_at hl 0 rfl) ?_
      refine lv_aload_n hx hb dX4_allForce_5 rfl (lv_at hl 2 rfl) ?_
      refine va_get hx hb hts hinX4 hown hK hP 0 rfl rfl 0 (by decide) wd1 (fun _ h => h) hf dX4_allForce_6 ?_
      refine lv_iconst (v := nI 2) hx hb dX4_allForce_9 (by decide) ?_
      refine hz_iald (j := 2) hx hb hK hP 1 0 rfl rfl (by omega) (Nat.le_of_ble_eq_true rfl) dX4_allForce_10 ?_
      refine hz_ct (y := nI (nS M)) hM2 ?_
      refine hz_icmp_ge (tgt := 29) (by omega) (by omega) hx hb dX4_allForce_11 (by decide) (fun c11 => ?_) (fun c11 => ?_)
      · refine lv_iload_n hx hb dX4_allForce_29 rfl (lv_at hl 1 rfl) ?_
        exact hz_ri hx hb hr hlocks rfl (by rw [show d = nS M by omega]) dX4_allForce_30
      · refine lv_iload_n hx hb dX4_allForce_14 rfl (lv_at hl 1 rfl) ?_
        refine lv_aload_n hx hb dX4_allForce_15 rfl (lv_at hl 2 rfl) ?_
        refine lv_iload_n hx hb dX4_allForce_16 rfl (lv_at hl 0 rfl) ?_
        refine lv_iconst (v := nI 3) hx hb dX4_allForce_17 (by decide) ?_
        refine hz_cv (As := [.int (nI d), .int (nI 3)]) (rest := [.int (sp_sum (fun d => M (43 + 4 * d + 3)) d)]) ⟨hx, hb, hml, hown, hts⟩ (c4_about l D cI cJ (h0 := h0) (am := am) (fs := fs) (M := M) (z := d) (w := 3) (hf := by first | assumption | rfl) (hs := by omega) (hw := by omega)) (cwV 2 hts gX4_allForce_X4_about rfl rfl rfl (by decide +kernel) ⟨Nat.le_of_ble_eq_true rfl, Nat.le_of_ble_eq_true rfl⟩) hK hP [0, 1] rfl [0, 1] rfl 0 rfl rfl rfl rfl hl.1 rfl (Nat.le_of_ble_eq_true rfl) dX4_allForce_18 ⟨Nat.zero_le _, Nat.zero_le _⟩ ?_
        refine lv_iadd hx hb dX4_allForce_21 ?_
        refine lv_istore_n (lv' := [(1, .int ((sp_sum (fun d => M (43 + 4 * d + 3)) d) + (M (43 + 4 * d + 3)))), (2, .int (nI d)), (0, .ref h0)]) hx hb dX4_allForce_22 rfl hl (by decide) rfl (fun ls hl => ?_)
        refine lv_iinc (v := nI (d + 1)) (lv' := [(2, .int (nI (d + 1))), (1, .int ((sp_sum (fun d => M (43 + 4 * d + 3)) d) + (M (43 + 4 * d + 3)))), (0, .ref h0)]) hx hb dX4_allForce_23 hl (k := 1) rfl (nI_1 _) (by decide) rfl (fun ls hl => ?_)
        refine lv_goto (tgt := 4) hx hb dX4_allForce_26 (by decide) ?_
        exact ihloop (d + 1) ls (by omega) (by omega) (lv_sub hl [0, 1, 2] rfl)
  exact loop _ 0 ls (Nat.lt_succ_self _) (by omega) (lv_sub hl [0, 1, 2] rfl)
set_option maxHeartbeats 4000000 in
set_option maxRecDepth 100000 in
theorem c4_allWept (l : Launch) (D : va_G) (cI cJ : ClassId) (h0 am : Nat) (fs : List Value) (M : Nat → Int32) (hf : fs[0]? = some (.ref am)) (hM1 : M 1 = nI (nD M)) (hD8 : nD M ≤ 8) : hz_MP l yX4_allWept wsX4_allWept { frames := 1, cells := 0, slots := 0, locals := 22 } [.ref h0] D zcl [(cI, .int), (cJ, .long)] [(h0, .inr (4, fs)), (am, .inl (cI, 75, .inl M))] (.int (sp_sum (fun d => M (3 + 5 * d + 4)) (nD M))) := by
  refine hz_mp (cc := cX4_allWept) (maxL := 3) (ret := (some .int)) (by decide) rfl (Nat.le_of_ble_eq_true rfl) ?_
  intro p e s m below meth c hx hb hr hts hown hlocks hml hP hK ls hl
  have hown : s.vm.findClass RX4 = some m.cls := hown
  have hl : lv_has ls 3 [(0, .ref h0)] := hl
  have hinX4 : ∀ w ∈ u_ws RX4 TX4 16, w ∈ wsX4_allWept := fun w h => List.mem_cons_of_mem _ (List.mem_append_right _ (h))
  have wd1 := hts (.fieldLink RX4 9 "HurtSpeechModel" "m" "[I") (List.mem_of_getElem? (i := 1) rfl)
  refine lv_iconst (v := nI 0) hx hb dX4_allWept_0 (by decide) ?_
  refine lv_istore_n (lv' := [(1, .int (nI 0)), (0, .ref h0)]) hx hb dX4_allWept_1 rfl hl (by decide) rfl (fun ls hl => ?_)
  refine lv_iconst (v := nI 0) hx hb dX4_allWept_2 (by decide) ?_
  refine lv_istore_n (lv' := [(2, .int (nI 0)), (1, .int (nI 0)), (0, .ref h0)]) hx hb dX4_allWept_3 rfl hl (by decide) rfl (fun ls hl => ?_)
  have loop : ∀ (nn : Nat) (d : Nat) (ls : Array Slot), nD M - d < nn → (d ≤ nD M) → lv_has ls 3 [(2, .int (nI d)), (1, .int (sp_sum (fun d => M (3 + 5 * d + 4)) d)), (0, .ref h0)] → W p l e (headSpec wsX4_allWept { frames := 1, cells := 0, slots := 0, locals := 22 }).room s m ([.ref h0] : List Value).toArray below meth c s.heap [] 0 0 (MQ below (hz_V (.int (sp_sum (fun d => M (3 + 5 * d + 4)) (nD M)))) ([.ref h0] : List Value).toArray s 0 0 (fun _ => False)) (F0 m 4 ls []) := by
    intro nn
    induction nn with
    | zero => intro d ls hnn hdn hl; exact absurd hnn (Nat.not_lt_zero _)
    | succ nn ihloop =>
      intro d ls hnn hdn hl
      refine lv_iload_n hx hb dX4_allWept_4 rfl (lv_at hl 0 rfl) ?_
      refine lv_aload_n hx hb dX4_allWept_5 rfl (lv_at hl 2 rfl) ?_
      refine va_get hx hb hts hinX4 hown hK hP 0 rfl rfl 0 (by decide) wd1 (fun _ h => h) hf dX4_allWept_6 ?_
      refine lv_iconst (v := nI 1) hx hb dX4_allWept_9 (by decide) ?_
      refine hz_iald (j := 1) hx hb hK hP 1 0 rfl rfl (by omega) (Nat.le_of_ble_eq_true rfl) dX4_allWept_10 ?_
      refine hz_ct (y := nI (nD M)) hM1 ?_
      refine hz_icmp_ge (tgt := 29) (by omega) (by omega) hx hb dX4_allWept_11 (by decide) (fun c11 => ?_) (fun c11 => ?_)
      · refine lv_iload_n hx hb dX4_allWept_29 rfl (lv_at hl 1 rfl) ?_
        exact hz_ri hx hb hr hlocks rfl (by rw [show d = nD M by omega]) dX4_allWept_30
      · refine lv_iload_n hx hb dX4_allWept_14 rfl (lv_at hl 1 rfl) ?_
        refine lv_aload_n hx hb dX4_allWept_15 rfl (lv_at hl 2 rfl) ?_
        refine lv_iload_n hx hb dX4_allWept_16 rfl (lv_at hl 0 rfl) ?_
        refine lv_iconst (v := nI 4) hx hb dX4_allWept_17 (by decide) ?_
        refine hz_cv (As := [.int (nI d), .int (nI 4)]) (rest := [.int (sp_sum (fun d => M (3 + 5 * d + 4)) d)]) ⟨hx, hb, hml, hown, hts⟩ (c4_it l D cI cJ (h0 := h0) (am := am) (fs := fs) (M := M) (d := d) (w := 4) (hf := by first | assumption | rfl) (hd := by omega) (hw := by omega)) (cwV 2 hts gX4_allWept_X4_it rfl rfl rfl (by decide +kernel) ⟨Nat.le_of_ble_eq_true rfl, Nat.le_of_ble_eq_true rfl⟩) hK hP [0, 1] rfl [0, 1] rfl 0 rfl rfl rfl rfl hl.1 rfl (Nat.le_of_ble_eq_true rfl) dX4_allWept_18 ⟨Nat.zero_le _, Nat.zero_le _⟩ ?_
        refine lv_iadd hx hb dX4_allWept_21 ?_
        refine lv_istore_n (lv' := [(1, .int ((sp_sum (fun d => M (3 + 5 * d + 4)) d) + (M (3 + 5 * d + 4)))), (2, .int (nI d)), (0, .ref h0)]) hx hb dX4_allWept_22 rfl hl (by decide) rfl (fun ls hl => ?_)
        refine lv_iinc (v := nI (d + 1)) (lv' := [(2, .int (nI (d + 1))), (1, .int ((sp_sum (fun d => M (3 + 5 * d + 4)) d) + (M (3 + 5 * d + 4)))), (0, .ref h0)]) hx hb dX4_allWept_23 hl (k := 1) rfl (nI_1 _) (by decide) rfl (fun ls hl => ?_)
        refine lv_goto (tgt := 4) hx hb dX4_allWept_26 (by decide) ?_
        exact ihloop (d + 1) ls (by omega) (by omega) (lv_sub hl [0, 1, 2] rfl)
  exact loop _ 0 ls (Nat.lt_succ_self _) (by omega) (lv_sub hl [0, 1, 2] rfl)
set_option maxHeartbeats 4000000 in
set_option maxRecDepth 100000 in
theorem c4_unheard (l : Launch) (D : va_G) (cI cJ : ClassId) (h0 am : Nat) (fs : List Value) (M : Nat → Int32) (hf : fs[0]? = some (.ref am)) (hM1 : M 1 = nI (nD M)) (hD8 : nD M ≤ 8) (hM2 : M 2 = nI (nS M)) (hS8 : nS M ≤ 8) : hz_MP l yX4_unheard wsX4_unheard { frames := 3, cells := 0, slots := 0, locals := 74 } [.ref h0] D zcl [(cI, .int), (cJ, .long)] [(h0, .inr (4, fs)), (am, .inl (cI, 75, .inl M))] (.int (sp_un M (nS M))) := by
  refine hz_mp (cc := cX4_unheard) (maxL := 3) (ret := (some .int)) (by decide) rfl (Nat.le_of_ble_eq_true rfl) ?_
  intro p e s m below meth c hx hb hr hts hown hlocks hml hP hK ls hl
  have hown : s.vm.findClass RX4 = some m.cls := hown
  have hl : lv_has ls 3 [(0, .ref h0)] := hl
  have hinX4 : ∀ w ∈ u_ws RX4 TX4 16, w ∈ wsX4_unheard := fun w h => List.mem_cons_of_mem _ (List.mem_append_right _ (h))
  have wd1 := hts (.fieldLink RX4 9 "HurtSpeechModel" "m" "[I") (List.mem_of_getElem? (i := 1) rfl)
  refine lv_iconst (v := nI 0) hx hb dX4_unheard_0 (by decide) ?_
  refine lv_istore_n (lv' := [(1, .int (nI 0)), (0, .ref h0)]) hx hb dX4_unheard_1 rfl hl (by decide) rfl (fun ls hl => ?_)
  refine lv_iconst (v := nI 0) hx hb dX4_unheard_2 (by decide) ?_
  refine lv_istore_n (lv' := [(2, .int (nI 0)), (1, .int (nI 0)), (0, .ref h0)]) hx hb dX4_unheard_3 rfl hl (by decide) rfl (fun ls hl => ?_)
  have loop : ∀ (nn : Nat) (z : Nat) (ls : Array Slot), nS M - z < nn → (z ≤ nS M) → lv_has ls 3 [(2, .int (nI z)), (1, .int (sp_un M z)), (0, .ref h0)] → W p l e (headSpec wsX4_unheard { frames := 3, cells := 0, slots := 0, locals := 74 }).room s m ([.ref h0] : List Value).toArray below meth c s.heap [] 0 0 (MQ below (hz_V (.int (sp_un M (nS M)))) ([.ref h0] : List Value).toArray s 0 0 (fun _ => False)) (F0 m 4 ls []) := by
    intro nn
    induction nn with
    | zero => intro z ls hnn hzn hl; exact absurd hnn (Nat.not_lt_zero _)
    | succ nn ihloop =>
      intro z ls hnn hzn hl
      refine lv_iload_n hx hb dX4_unheard_4 rfl (lv_at hl 0 rfl) ?_
      refine lv_aload_n hx hb dX4_unheard_5 rfl (lv_at hl 2 rfl) ?_
      refine va_get hx hb hts hinX4 hown hK hP 0 rfl rfl 0 (by decide) wd1 (fun _ h => h) hf dX4_unheard_6 ?_
      refine lv_iconst (v := nI 2) hx hb dX4_unheard_9 (by decide) ?_
      refine hz_iald (j := 2) hx hb hK hP 1 0 rfl rfl (by omega) (Nat.le_of_ble_eq_true rfl) dX4_unheard_10 ?_
      refine hz_ct (y := nI (nS M)) hM2 ?_
      refine hz_icmp_ge (tgt := 38) (by omega) (by omega) hx hb dX4_unheard_11 (by decide) (fun c11 => ?_) (fun c11 => ?_)
      · refine lv_iload_n hx hb dX4_unheard_38 rfl (lv_at hl 1 rfl) ?_
        exact hz_ri hx hb hr hlocks rfl (by rw [show z = nS M by omega]) dX4_unheard_39
      · refine lv_iload_n hx hb dX4_unheard_14 rfl (lv_at hl 1 rfl) ?_
        refine lv_aload_n hx hb dX4_unheard_15 rfl (lv_at hl 2 rfl) ?_
        refine lv_iload_n hx hb dX4_unheard_16 rfl (lv_at hl 0 rfl) ?_
        refine hz_cv (As := [.int (nI z)]) (rest := [.int (sp_un M z)]) ⟨hx, hb, hml, hown, hts⟩ (c4_interpreter l D cI cJ (h0 := h0) (am := am) (fs := fs) (M := M) (z := z) (hf := by first | assumption | rfl) (hM1 := by first | assumption | rfl) (hD8 := by first | assumption | rfl) (hs := by omega)) (cwV 1 hts gX4_unheard_X4_interpreter rfl rfl rfl (by decide +kernel) ⟨Nat.le_of_ble_eq_true rfl, Nat.le_of_ble_eq_true rfl⟩) hK hP [0, 1] rfl [0, 1] rfl 0 rfl rfl rfl rfl hl.1 rfl (Nat.le_of_ble_eq_true rfl) dX4_unheard_17 ⟨Nat.zero_le _, Nat.zero_le _⟩ ?_
        rcases hw : sp_who M z with _ | j
        · refine hz_ct (y := -1) rfl ?_
          refine lv_if_ge (tgt := 29) hx hb dX4_unheard_20 (by decide) (fun h => absurd h (by first | decide | omega | exact hz_nneg (by omega) | exact hz_nneg' (by omega))) (fun _ => ?_)
          refine lv_iconst (v := nI 1) hx hb dX4_unheard_23 (by decide) ?_
          refine lv_iload_n hx hb dX4_unheard_24 rfl (lv_at hl 0 rfl) ?_
          refine lv_ishl hx hb dX4_unheard_25 ?_
          refine lv_goto (tgt := 30) hx hb dX4_unheard_26 (by decide) ?_
          refine hz_ct (y := sp_ub M z) (by rw [sp_ub, hw]) ?_
          refine lv_ior hx hb dX4_unheard_30 ?_
          refine lv_istore_n (lv' := [(1, .int ((sp_un M z) ||| (sp_ub M z))), (2, .int (nI z)), (0, .ref h0)]) hx hb dX4_unheard_31 rfl hl (by decide) rfl (fun ls hl => ?_)
          refine lv_iinc (v := nI (z + 1)) (lv' := [(2, .int (nI (z + 1))), (1, .int ((sp_un M z) ||| (sp_ub M z))), (0, .ref h0)]) hx hb dX4_unheard_32 hl (k := 1) rfl (nI_1 _) (by decide) rfl (fun ls hl => ?_)
          refine lv_goto (tgt := 4) hx hb dX4_unheard_35 (by decide) ?_
          exact ihloop (z + 1) ls (by omega) (by omega) (lv_sub hl [0, 1, 2] rfl)
        · have hj := sp_it_lt M z _ j hw
          refine hz_ct (y := nI j) rfl ?_
          refine hz_ifn_ge (tgt := 29) (by omega) hx hb dX4_unheard_20 (by decide) ?_
          refine lv_iconst (v := nI 0) hx hb dX4_unheard_29 (by decide) ?_
          refine hz_ct (y := sp_ub M z) (by rw [sp_ub, hw]) ?_
          refine lv_ior hx hb dX4_unheard_30 ?_
          refine lv_istore_n (lv' := [(1, .int ((sp_un M z) ||| (sp_ub M z))), (2, .int (nI z)), (0, .ref h0)]) hx hb dX4_unheard_31 rfl hl (by decide) rfl (fun ls hl => ?_)
          refine lv_iinc (v := nI (z + 1)) (lv' := [(2, .int (nI (z + 1))), (1, .int ((sp_un M z) ||| (sp_ub M z))), (0, .ref h0)]) hx hb dX4_unheard_32 hl (k := 1) rfl (nI_1 _) (by decide) rfl (fun ls hl => ?_)
          refine lv_goto (tgt := 4) hx hb dX4_unheard_35 (by decide) ?_
          exact ihloop (z + 1) ls (by omega) (by omega) (lv_sub hl [0, 1, 2] rfl)
  exact loop _ 0 ls (Nat.lt_succ_self _) (by omega) (lv_sub hl [0, 1, 2] rfl)
set_option maxHeartbeats 4000000 in
set_option maxRecDepth 100000 in
theorem c4_isHeard (l : Launch) (D : va_G) (cI cJ : ClassId) (h0 am ak aw af at_ ab as_ ac : Nat) (kf wp tp tk bg ap vl bd : Int32) (M : Nat → Int32) (z : Nat) (hM1 : M 1 = nI (nD M)) (hD8 : nD M ≤ 8) (hs : z < 8) : hz_ME l yX4_isHeard wsX4_isHeard { frames := 4, cells := 0, slots := 0, locals := 96 } [.ref h0, .int (nI z)] D zcl [(cI, .int), (cJ, .long)] [(h0, .inr (4, [.ref am, .ref ak, .ref aw, .int (kf), .ref af, .int (wp), .ref at_, .int (tp), .int (tk), .int (bg), .int (ap), .int (vl), .int (bd), .ref ab, .ref as_, .ref ac])), (am, .inl (cI, 75, .inl M))] [(h0, .inr (4, [.ref am, .ref ak, .ref aw, .int (kf), .ref af, .int (sp_hW M z wp), .ref at_, .int (tp), .int (tk), .int (bg), .int (ap), .int (vl), .int (bd), .ref ab, .ref as_, .ref ac])), (am, .inl (cI, 75, .inl (sp_hM M z)))] none := by
  refine hz_me (cc := cX4_isHeard) (maxL := 5) (ret := none) (by decide) rfl (Nat.le_of_ble_eq_true rfl) ?_
  intro p e s m below meth c hx hb hr hts hown hlocks hml hP hK hD ls hl
  have hS : va_S (hz_a [(h0, .inr (4, [.ref am, .ref ak, .ref aw, .int (kf), .ref af, .int (wp), .ref at_, .int (tp), .int (tk), .int (bg), .int (ap), .int (vl), .int (bd), .ref ab, .ref as_, .ref ac])), (am, .inl (cI, 75, .inl M))]) s.heap s.heap [] := va_S.rf
  have hown : s.vm.findClass RX4 = some m.cls := hown
  have hl : lv_has ls 5 [(0, .ref h0), (1, .int (nI z))] := hl
  have hinX4 : ∀ w ∈ u_ws RX4 TX4 16, w ∈ wsX4_isHeard := fun w h => List.mem_cons_of_mem _ (List.mem_append_right _ (h))
  have wd1 := hts (.fieldLink RX4 9 "HurtSpeechModel" "m" "[I") (List.mem_of_getElem? (i := 1) rfl)
  have wd2 := hts (.constant RX4 80 (99999)) (List.mem_of_getElem? (i := 2) rfl)
  have wd3 := hts (.fieldLink RX4 102 "HurtSpeechModel" "weeper" "I") (List.mem_of_getElem? (i := 3) rfl)
  refine lv_aload_n hx hb dX4_isHeard_0 rfl (lv_at hl 0 rfl) ?_
  refine lv_iload_n hx hb dX4_isHeard_1 rfl (lv_at hl 1 rfl) ?_
  refine hz_cv (As := [.int (nI z)]) (rest := []) ⟨hx, hb, hml, hown, hts⟩ (c4_interpreter l D cI cJ (h0 := h0) (am := am) (fs := [.ref am, .ref ak, .ref aw, .int (kf), .ref af, .int (wp), .ref at_, .int (tp), .int (tk), .int (bg), .int (ap), .int (vl), .int (bd), .ref ab, .ref as_, .ref ac]) (M := M) (z := z) (hf := by first | assumption | rfl) (hM1 := by first | assumption | rfl) (hD8 := by first | assumption | rfl) (hs := by omega)) (cwV 1 hts gX4_isHeard_X4_interpreter rfl rfl rfl (by decide +kernel) ⟨Nat.le_of_ble_eq_true rfl, Nat.le_of_ble_eq_true rfl⟩) hK hP [0, 1] rfl [0, 1] rfl 0 rfl rfl rfl rfl hl.1 rfl (Nat.le_of_ble_eq_true rfl) dX4_isHeard_2 ⟨Nat.zero_le _, Nat.zero_le _⟩ ?_
  rcases hw : sp_who M z with _ | j
  · refine hz_ct (y := -1) rfl ?_
    refine lv_istore_n (lv' := [(2, .int (-1)), (0, .ref h0), (1, .int (nI z))]) hx hb dX4_isHeard_5 rfl hl (by decide) rfl (fun ls hl => ?_)
    refine lv_iload_n hx hb dX4_isHeard_6 rfl (lv_at hl 0 rfl) ?_
    refine lv_if_ge (tgt := 11) hx hb dX4_isHeard_7 (by decide) (fun h => absurd h (by first | decide | omega | exact hz_nneg (by omega) | exact hz_nneg' (by omega))) (fun _ => ?_)
    refine hz_ev hx hb hr hlocks ?_ hS dX4_isHeard_10
    rw [show sp_hM M z = M by simp only [sp_hM, hw], show sp_hW M z wp = wp by simp only [sp_hW, hw]]
    exact hP
  · have hj := sp_it_lt M z _ j hw
    refine hz_ct (y := nI j) rfl ?_
    refine lv_istore_n (lv' := [(2, .int (nI j)), (0, .ref h0), (1, .int (nI z))]) hx hb dX4_isHeard_5 rfl hl (by decide) rfl (fun ls hl => ?_)
    refine lv_iload_n hx hb dX4_isHeard_6 rfl (lv_at hl 0 rfl) ?_
    refine hz_ifn_ge (tgt := 11) (by omega) hx hb dX4_isHeard_7 (by decide) ?_
    refine lv_aload_n hx hb dX4_isHeard_11 rfl (lv_at hl 1 rfl) ?_
    refine lv_iload_n hx hb dX4_isHeard_12 rfl (lv_at hl 2 rfl) ?_
    refine hz_cv (As := [.int (nI z)]) (rest := []) ⟨hx, hb, hml, hown, hts⟩ (c4_overBy l D cI cJ (h0 := h0) (am := am) (fs := [.ref am, .ref ak, .ref aw, .int (kf), .ref af, .int (wp), .ref at_, .int (tp), .int (tk), .int (bg), .int (ap), .int (vl), .int (bd), .ref ab, .ref as_, .ref ac]) (M := M) (z := z) (hf := by first | assumption | rfl) (hM1 := by first | assumption | rfl) (hD8 := by first | assumption | rfl) (hs := by omega)) (cwV 1 hts gX4_isHeard_X4_overBy rfl rfl rfl (by decide +kernel) ⟨Nat.le_of_ble_eq_true rfl, Nat.le_of_ble_eq_true rfl⟩) hK hP [0, 1] rfl [0, 1] rfl 0 rfl rfl rfl rfl hl.1 rfl (Nat.le_of_ble_eq_true rfl) dX4_isHeard_13 ⟨Nat.zero_le _, Nat.zero_le _⟩ ?_
    refine lv_istore_n (lv' := [(3, .int (sp_over M z)), (2, .int (nI j)), (0, .ref h0), (1, .int (nI z))]) hx hb dX4_isHeard_16 rfl hl (by decide) rfl (fun ls hl => ?_)
    refine lv_iconst (v := nI 0) hx hb dX4_isHeard_17 (by decide) ?_
    refine lv_istore (lv' := [(4, .int (nI 0)), (3, .int (sp_over M z)), (2, .int (nI j)), (0, .ref h0), (1, .int (nI z))]) hx hb dX4_isHeard_18 hl (by decide) rfl (fun ls hl => ?_)
    have loop : ∀ (nn : Nat) (d : Nat) (ls : Array Slot) (H : Heap) (locs : List Loc), nD M - d < nn → (d ≤ nD M) → lv_has ls 5 [(4, .int (nI d)), (3, .int (sp_over M z)), (2, .int (nI j)), (0, .ref h0), (1, .int (nI z))] → va_P D zcl [(h0, .inr (4, [.ref am, .ref ak, .ref aw, .int (kf), .ref af, .int (wp), .ref at_, .int (tp), .int (tk), .int (bg), .int (ap), .int (vl), .int (bd), .ref ab, .ref as_, .ref ac])), (am, .inl (cI, 75, .inl (sp_ha M z (sp_over M z) d)))] H → va_D (hz_a [(h0, .inr (4, [.ref am, .ref ak, .ref aw, .int (kf), .ref af, .int (wp), .ref at_, .int (tp), .int (tk), .int (bg), .int (ap), .int (vl), .int (bd), .ref ab, .ref as_, .ref ac])), (am, .inl (cI, 75, .inl M))]) [(h0, .inr (4, [.ref am, .ref ak, .ref aw, .int (kf), .ref af, .int (wp), .ref at_, .int (tp), .int (tk), .int (bg), .int (ap), .int (vl), .int (bd), .ref ab, .ref as_, .ref ac])), (am, .inl (cI, 75, .inl (sp_ha M z (sp_over M z) d)))] → va_S (hz_a [(h0, .inr (4, [.ref am, .ref ak, .ref aw, .int (kf), .ref af, .int (wp), .ref at_, .int (tp), .int (tk), .int (bg), .int (ap), .int (vl), .int (bd), .ref ab, .ref as_, .ref ac])), (am, .inl (cI, 75, .inl M))]) s.heap H locs → W p l e (headSpec wsX4_isHeard { frames := 4, cells := 0, slots := 0, locals := 96 }).room s m ([.ref h0, .int (nI z)] : List Value).toArray below meth c H locs 0 0 (MQ below (hz_E D zcl [(h0, .inr (4, [.ref am, .ref ak, .ref aw, .int (kf), .ref af, .int (sp_hW M z wp), .ref at_, .int (tp), .int (tk), .int (bg), .int (ap), .int (vl), .int (bd), .ref ab, .ref as_, .ref ac])), (am, .inl (cI, 75, .inl (sp_hM M z)))] none (hz_a [(h0, .inr (4, [.ref am, .ref ak, .ref aw, .int (kf), .ref af, .int (wp), .ref at_, .int (tp), .int (tk), .int (bg), .int (ap), .int (vl), .int (bd), .ref ab, .ref as_, .ref ac])), (am, .inl (cI, 75, .inl M))])) ([.ref h0, .int (nI z)] : List Value).toArray s 0 0 (hz_a [(h0, .inr (4, [.ref am, .ref ak, .ref aw, .int (kf), .ref af, .int (wp), .ref at_, .int (tp), .int (tk), .int (bg), .int (ap), .int (vl), .int (bd), .ref ab, .ref as_, .ref ac])), (am, .inl (cI, 75, .inl M))])) (F0 m 20 ls []) := by
      intro nn
      induction nn with
      | zero => intro d ls H locs hnn hdn hl hP hD hS; exact absurd hnn (Nat.not_lt_zero _)
      | succ nn ihloop =>
        intro d ls H locs hnn hdn hl hP hD hS
        have hA1 : sp_ha M z (sp_over M z) d 1 = nI (nD M) := (sp_ha_o M z _ 1 d (fun k hk => by omega)).trans hM1
        refine lv_iload hx hb dX4_isHeard_20 (lv_at hl 0 rfl) ?_
        refine lv_aload_n hx hb dX4_isHeard_22 rfl (lv_at hl 3 rfl) ?_
        refine va_get hx hb hts hinX4 hown hK hP 0 rfl rfl 0 (by decide) wd1 (fun _ h => h) rfl dX4_isHeard_23 ?_
        refine lv_iconst (v := nI 1) hx hb dX4_isHeard_26 (by decide) ?_
        refine hz_iald (j := 1) hx hb hK hP 1 0 rfl rfl (by omega) (Nat.le_of_ble_eq_true rfl) dX4_isHeard_27 ?_
        refine hz_ct (y := nI (nD M)) hA1 ?_
        refine hz_icmp_ge (tgt := 66) (by omega) (by omega) hx hb dX4_isHeard_28 (by decide) (fun c28 => ?_) (fun c28 => ?_)
        · obtain rfl : d = nD M := by omega
          refine lv_aload_n hx hb dX4_isHeard_66 rfl (lv_at hl 3 rfl) ?_
          refine lv_iload_n hx hb dX4_isHeard_67 rfl (lv_at hl 2 rfl) ?_
          refine hz_cv (As := [.int (nI j)]) (rest := []) ⟨hx, hb, hml, hown, hts⟩ (c4_doesWeep l D cI cJ (h0 := h0) (am := am) (fs := [.ref am, .ref ak, .ref aw, .int (kf), .ref af, .int (wp), .ref at_, .int (tp), .int (tk), .int (bg), .int (ap), .int (vl), .int (bd), .ref ab, .ref as_, .ref ac]) (M := sp_ha M z (sp_over M z) (nD M)) (d := j) (hf := by first | assumption | rfl) (hd := by omega)) (cwV 1 hts gX4_isHeard_X4_doesWeep rfl rfl rfl (by decide +kernel) ⟨Nat.le_of_ble_eq_true rfl, Nat.le_of_ble_eq_true rfl⟩) hK hP [0, 1] rfl [0, 1] rfl 0 rfl rfl rfl rfl hl.1 rfl (Nat.le_of_ble_eq_true rfl) dX4_isHeard_68 ⟨Nat.zero_le _, Nat.zero_le _⟩ ?_
          refine lv_if_eq (tgt := 135) hx hb dX4_isHeard_71 (by decide) (fun c71 => ?_) (fun c71 => ?_)
          · refine hz_ev hx hb hr hlocks ?_ hS dX4_isHeard_135
            first
              | (rw [show sp_hM M z = sp_ha M z (sp_over M z) (nD M) by simp only [sp_hM, hw, if_pos c71], show sp_hW M z wp = wp by simp only [sp_hW, hw, if_pos c71]]; exact hP)
              | (rw [show sp_hM M z = sp_w3 (sp_ha M z (sp_over M z) (nD M)) z j by simp only [sp_hM, hw, if_neg c71], show sp_hW M z wp = nI j by simp only [sp_hW, hw, if_neg c71]]; exact hP)
          · refine lv_aload_n hx hb dX4_isHeard_74 rfl (lv_at hl 3 rfl) ?_
            refine lv_iload_n hx hb dX4_isHeard_75 rfl (lv_at hl 2 rfl) ?_
            refine lv_iconst (v := nI 4) hx hb dX4_isHeard_76 (by decide) ?_
            refine lv_aload_n hx hb dX4_isHeard_77 rfl (lv_at hl 3 rfl) ?_
            refine lv_iload_n hx hb dX4_isHeard_78 rfl (lv_at hl 2 rfl) ?_
            refine lv_iconst (v := nI 4) hx hb dX4_isHeard_79 (by decide) ?_
            refine hz_cv (As := [.int (nI j), .int (nI 4)]) (rest := [.int (nI 4), .int (nI j), .ref h0]) ⟨hx, hb, hml, hown, hts⟩ (c4_it l D cI cJ (h0 := h0) (am := am) (fs := [.ref am, .ref ak, .ref aw, .int (kf), .ref af, .int (wp), .ref at_, .int (tp), .int (tk), .int (bg), .int (ap), .int (vl), .int (bd), .ref ab, .ref as_, .ref ac]) (M := sp_ha M z (sp_over M z) (nD M)) (d := j) (w := 4) (hf := by first | assumption | rfl) (hd := by omega) (hw := by omega)) (cwV 2 hts gX4_isHeard_X4_it rfl rfl rfl (by decide +kernel) ⟨Nat.le_of_ble_eq_true rfl, Nat.le_of_ble_eq_true rfl⟩) hK hP [0, 1] rfl [0, 1] rfl 0 rfl rfl rfl rfl hl.1 rfl (Nat.le_of_ble_eq_true rfl) dX4_isHeard_80 ⟨Nat.zero_le _, Nat.zero_le _⟩ ?_
            refine lv_iconst (v := nI 1) hx hb dX4_isHeard_83 (by decide) ?_
            refine lv_iadd hx hb dX4_isHeard_84 ?_
            refine lv_iconst (v := nI 0) hx hb dX4_isHeard_85 (by decide) ?_
            refine lv_sipush (v := nI 999) hx hb dX4_isHeard_86 (by decide) ?_
            refine hz_cs (As := [.int (((sp_ha M z (sp_over M z) (nD M)) (3 + 5 * j + 4)) + (nI 1)), .int (nI 0), .int (nI 999)]) (rest := [.int (nI 4), .int (nI j), .ref h0]) ⟨hx, hb, hml, hown, hts⟩ (c4_held l D cI cJ (v := ((sp_ha M z (sp_over M z) (nD M)) (3 + 5 * j + 4)) + (nI 1)) (a := nI 0) (b := nI 999) ) (va_cwS 3 hts gX4_isHeard_X4_held rfl rfl rfl (by decide +kernel) ⟨Nat.le_of_ble_eq_true rfl, Nat.le_of_ble_eq_true rfl⟩) hK hP [] rfl [0, 1] rfl rfl hl.1 rfl (Nat.le_of_ble_eq_true rfl) dX4_isHeard_89 ⟨Nat.zero_le _, Nat.zero_le _⟩ ?_
            refine hz_ce (As := [.int (nI j), .int (nI 4), .int (sp_held (((sp_ha M z (sp_over M z) (nD M)) (3 + 5 * j + 4)) + (nI 1)) (nI 0) (nI 999))]) (rest := []) ⟨hx, hb, hml, hown, hts⟩ (c4_put l D cI cJ (h0 := h0) (am := am) (fs := [.ref am, .ref ak, .ref aw, .int (kf), .ref af, .int (wp), .ref at_, .int (tp), .int (tk), .int (bg), .int (ap), .int (vl), .int (bd), .ref ab, .ref as_, .ref ac]) (M := sp_ha M z (sp_over M z) (nD M)) (d := j) (w := 4) (x := sp_held (((sp_ha M z (sp_over M z) (nD M)) (3 + 5 * j + 4)) + (nI 1)) (nI 0) (nI 999)) (hf := by first | assumption | rfl) (hd := by omega) (hw := by omega)) (cwV 3 hts gX4_isHeard_X4_put rfl rfl rfl (by decide +kernel) ⟨Nat.le_of_ble_eq_true rfl, Nat.le_of_ble_eq_true rfl⟩) hK hP hD hS [0, 1] rfl (by decide) rfl (w' := [(h0, .inr (4, [.ref am, .ref ak, .ref aw, .int (kf), .ref af, .int (wp), .ref at_, .int (tp), .int (tk), .int (bg), .int (ap), .int (vl), .int (bd), .ref ab, .ref as_, .ref ac])), (am, .inl (cI, 75, .inl (upd (sp_ha M z (sp_over M z) (nD M)) (3 + 5 * j + 4) (sp_held (((sp_ha M z (sp_over M z) (nD M)) (3 + 5 * j + 4)) + (nI 1)) (nI 0) (nI 999)))))]) rfl [0, 1] rfl 0 rfl rfl rfl rfl hl.1 rfl (Nat.le_of_ble_eq_true rfl) dX4_isHeard_92 ⟨Nat.zero_le _, Nat.zero_le _⟩ (fun H locs hP hD hS => ?_)
            refine W.eq (g2 := F0 m 95 ls []) rfl ?_
            have hP : va_P D zcl [(h0, .inr (4, [.ref am, .ref ak, .ref aw, .int (kf), .ref af, .int (wp), .ref at_, .int (tp), .int (tk), .int (bg), .int (ap), .int (vl), .int (bd), .ref ab, .ref as_, .ref ac])), (am, .inl (cI, 75, .inl (sp_w1 (sp_ha M z (sp_over M z) (nD M)) j)))] H := hP
            have hD : va_D (hz_a [(h0, .inr (4, [.ref am, .ref ak, .ref aw, .int (kf), .ref af, .int (wp), .ref at_, .int (tp), .int (tk), .int (bg), .int (ap), .int (vl), .int (bd), .ref ab, .ref as_, .ref ac])), (am, .inl (cI, 75, .inl M))]) [(h0, .inr (4, [.ref am, .ref ak, .ref aw, .int (kf), .ref af, .int (wp), .ref at_, .int (tp), .int (tk), .int (bg), .int (ap), .int (vl), .int (bd), .ref ab, .ref as_, .ref ac])), (am, .inl (cI, 75, .inl (sp_w1 (sp_ha M z (sp_over M z) (nD M)) j)))] := hD
            refine lv_aload_n hx hb dX4_isHeard_95 rfl (lv_at hl 3 rfl) ?_
            refine lv_iload_n hx hb dX4_isHeard_96 rfl (lv_at hl 2 rfl) ?_
            refine lv_iconst (v := nI 3) hx hb dX4_isHeard_97 (by decide) ?_
            refine lv_aload_n hx hb dX4_isHeard_98 rfl (lv_at hl 3 rfl) ?_
            refine lv_iload_n hx hb dX4_isHeard_99 rfl (lv_at hl 2 rfl) ?_
            refine lv_iconst (v := nI 3) hx hb dX4_isHeard_100 (by decide) ?_
            refine hz_cv (As := [.int (nI j), .int (nI 3)]) (rest := [.int (nI 3), .int (nI j), .ref h0]) ⟨hx, hb, hml, hown, hts⟩ (c4_it l D cI cJ (h0 := h0) (am := am) (fs := [.ref am, .ref ak, .ref aw, .int (kf), .ref af, .int (wp), .ref at_, .int (tp), .int (tk), .int (bg), .int (ap), .int (vl), .int (bd), .ref ab, .ref as_, .ref ac]) (M := sp_w1 (sp_ha M z (sp_over M z) (nD M)) j) (d := j) (w := 3) (hf := by first | assumption | rfl) (hd := by omega) (hw := by omega)) (cwV 2 hts gX4_isHeard_X4_it rfl rfl rfl (by decide +kernel) ⟨Nat.le_of_ble_eq_true rfl, Nat.le_of_ble_eq_true rfl⟩) hK hP [0, 1] rfl [0, 1] rfl 0 rfl rfl rfl rfl hl.1 rfl (Nat.le_of_ble_eq_true rfl) dX4_isHeard_101 ⟨Nat.zero_le _, Nat.zero_le _⟩ ?_
            refine lv_iconst (v := nI 2) hx hb dX4_isHeard_104 (by decide) ?_
            refine lv_idiv hx hb dX4_isHeard_105 (by decide) ?_
            refine hz_ce (As := [.int (nI j), .int (nI 3), .int (((sp_w1 (sp_ha M z (sp_over M z) (nD M)) j) (3 + 5 * j + 3)) / (nI 2))]) (rest := []) ⟨hx, hb, hml, hown, hts⟩ (c4_put l D cI cJ (h0 := h0) (am := am) (fs := [.ref am, .ref ak, .ref aw, .int (kf), .ref af, .int (wp), .ref at_, .int (tp), .int (tk), .int (bg), .int (ap), .int (vl), .int (bd), .ref ab, .ref as_, .ref ac]) (M := sp_w1 (sp_ha M z (sp_over M z) (nD M)) j) (d := j) (w := 3) (x := ((sp_w1 (sp_ha M z (sp_over M z) (nD M)) j) (3 + 5 * j + 3)) / (nI 2)) (hf := by first | assumption | rfl) (hd := by omega) (hw := by omega)) (cwV 3 hts gX4_isHeard_X4_put rfl rfl rfl (by decide +kernel) ⟨Nat.le_of_ble_eq_true rfl, Nat.le_of_ble_eq_true rfl⟩) hK hP hD hS [0, 1] rfl (by decide) rfl (w' := [(h0, .inr (4, [.ref am, .ref ak, .ref aw, .int (kf), .ref af, .int (wp), .ref at_, .int (tp), .int (tk), .int (bg), .int (ap), .int (vl), .int (bd), .ref ab, .ref as_, .ref ac])), (am, .inl (cI, 75, .inl (upd (sp_w1 (sp_ha M z (sp_over M z) (nD M)) j) (3 + 5 * j + 3) (((sp_w1 (sp_ha M z (sp_over M z) (nD M)) j) (3 + 5 * j + 3)) / (nI 2)))))]) rfl [0, 1] rfl 0 rfl rfl rfl rfl hl.1 rfl (Nat.le_of_ble_eq_true rfl) dX4_isHeard_106 ⟨Nat.zero_le _, Nat.zero_le _⟩ (fun H locs hP hD hS => ?_)
            refine W.eq (g2 := F0 m 109 ls []) rfl ?_
            have hP : va_P D zcl [(h0, .inr (4, [.ref am, .ref ak, .ref aw, .int (kf), .ref af, .int (wp), .ref at_, .int (tp), .int (tk), .int (bg), .int (ap), .int (vl), .int (bd), .ref ab, .ref as_, .ref ac])), (am, .inl (cI, 75, .inl (sp_w2 (sp_ha M z (sp_over M z) (nD M)) j)))] H := hP
            have hD : va_D (hz_a [(h0, .inr (4, [.ref am, .ref ak, .ref aw, .int (kf), .ref af, .int (wp), .ref at_, .int (tp), .int (tk), .int (bg), .int (ap), .int (vl), .int (bd), .ref ab, .ref as_, .ref ac])), (am, .inl (cI, 75, .inl M))]) [(h0, .inr (4, [.ref am, .ref ak, .ref aw, .int (kf), .ref af, .int (wp), .ref at_, .int (tp), .int (tk), .int (bg), .int (ap), .int (vl), .int (bd), .ref ab, .ref as_, .ref ac])), (am, .inl (cI, 75, .inl (sp_w2 (sp_ha M z (sp_over M z) (nD M)) j)))] := hD
            refine lv_aload_n hx hb dX4_isHeard_109 rfl (lv_at hl 3 rfl) ?_
            refine va_get hx hb hts hinX4 hown hK hP 0 rfl rfl 0 (by decide) wd1 (fun _ h => h) rfl dX4_isHeard_110 ?_
            refine lv_bipush (v := nI 43) hx hb dX4_isHeard_113 (by decide) ?_
            refine lv_iconst (v := nI 4) hx hb dX4_isHeard_115 (by decide) ?_
            refine lv_iload_n hx hb dX4_isHeard_116 rfl (lv_at hl 4 rfl) ?_
            refine hz_imul hx hb dX4_isHeard_117 ?_
            refine hz_iadd hx hb dX4_isHeard_118 ?_
            refine lv_iconst (v := nI 3) hx hb dX4_isHeard_119 (by decide) ?_
            refine hz_iadd hx hb dX4_isHeard_120 ?_
            refine lv_aload_n hx hb dX4_isHeard_121 rfl (lv_at hl 3 rfl) ?_
            refine lv_iload_n hx hb dX4_isHeard_122 rfl (lv_at hl 4 rfl) ?_
            refine lv_iconst (v := nI 3) hx hb dX4_isHeard_123 (by decide) ?_
            refine hz_cv (As := [.int (nI z), .int (nI 3)]) (rest := [.int (nI (43 + 4 * z + 3)), .ref am]) ⟨hx, hb, hml, hown, hts⟩ (c4_about l D cI cJ (h0 := h0) (am := am) (fs := [.ref am, .ref ak, .ref aw, .int (kf), .ref af, .int (wp), .ref at_, .int (tp), .int (tk), .int (bg), .int (ap), .int (vl), .int (bd), .ref ab, .ref as_, .ref ac]) (M := sp_w2 (sp_ha M z (sp_over M z) (nD M)) j) (z := z) (w := 3) (hf := by first | assumption | rfl) (hs := by omega) (hw := by omega)) (cwV 2 hts gX4_isHeard_X4_about rfl rfl rfl (by decide +kernel) ⟨Nat.le_of_ble_eq_true rfl, Nat.le_of_ble_eq_true rfl⟩) hK hP [0, 1] rfl [0, 1] rfl 0 rfl rfl rfl rfl hl.1 rfl (Nat.le_of_ble_eq_true rfl) dX4_isHeard_124 ⟨Nat.zero_le _, Nat.zero_le _⟩ ?_
            refine lv_iconst (v := nI 2) hx hb dX4_isHeard_127 (by decide) ?_
            refine lv_idiv hx hb dX4_isHeard_128 (by decide) ?_
            refine hz_iast (j := 43 + 4 * z + 3) hx hb hK hP hD hS 1 0 rfl rfl (by omega) (Nat.le_of_ble_eq_true rfl) dX4_isHeard_129 (w' := [(h0, .inr (4, [.ref am, .ref ak, .ref aw, .int (kf), .ref af, .int (wp), .ref at_, .int (tp), .int (tk), .int (bg), .int (ap), .int (vl), .int (bd), .ref ab, .ref as_, .ref ac])), (am, .inl (cI, 75, .inl (upd (sp_w2 (sp_ha M z (sp_over M z) (nD M)) j) (43 + 4 * z + 3) (((sp_w2 (sp_ha M z (sp_over M z) (nD M)) j) (43 + 4 * z + 3)) / (nI 2)))))]) rfl (fun H locs hP hD hS => ?_)
            have hP : va_P D zcl [(h0, .inr (4, [.ref am, .ref ak, .ref aw, .int (kf), .ref af, .int (wp), .ref at_, .int (tp), .int (tk), .int (bg), .int (ap), .int (vl), .int (bd), .ref ab, .ref as_, .ref ac])), (am, .inl (cI, 75, .inl (sp_w3 (sp_ha M z (sp_over M z) (nD M)) z j)))] H := hP
            have hD : va_D (hz_a [(h0, .inr (4, [.ref am, .ref ak, .ref aw, .int (kf), .ref af, .int (wp), .ref at_, .int (tp), .int (tk), .int (bg), .int (ap), .int (vl), .int (bd), .ref ab, .ref as_, .ref ac])), (am, .inl (cI, 75, .inl M))]) [(h0, .inr (4, [.ref am, .ref ak, .ref aw, .int (kf), .ref af, .int (wp), .ref at_, .int (tp), .int (tk), .int (bg), .int (ap), .int (vl), .int (bd), .ref ab, .ref as_, .ref ac])), (am, .inl (cI, 75, .inl (sp_w3 (sp_ha M z (sp_over M z) (nD M)) z j)))] := hD
            refine lv_aload_n hx hb dX4_isHeard_130 rfl (lv_at hl 3 rfl) ?_
            refine lv_iload_n hx hb dX4_isHeard_131 rfl (lv_at hl 2 rfl) ?_
            refine va_put hx hb hts hinX4 tyX4 tyX4_ok nmX4 hown hK hP hD hS 0 rfl rfl 5 (by decide) wd3 (fun _ h => h) rfl (tyX4_ok 5 (by decide)) rfl rfl (Nat.le_of_ble_eq_true rfl) dX4_isHeard_132 (fun H locs hP hD hS => ?_)
            have hP : va_P D zcl [(h0, .inr (4, [.ref am, .ref ak, .ref aw, .int (kf), .ref af, .int (nI j), .ref at_, .int (tp), .int (tk), .int (bg), .int (ap), .int (vl), .int (bd), .ref ab, .ref as_, .ref ac])), (am, .inl (cI, 75, .inl (sp_w3 (sp_ha M z (sp_over M z) (nD M)) z j)))] H := hP
            have hD : va_D (hz_a [(h0, .inr (4, [.ref am, .ref ak, .ref aw, .int (kf), .ref af, .int (wp), .ref at_, .int (tp), .int (tk), .int (bg), .int (ap), .int (vl), .int (bd), .ref ab, .ref as_, .ref ac])), (am, .inl (cI, 75, .inl M))]) [(h0, .inr (4, [.ref am, .ref ak, .ref aw, .int (kf), .ref af, .int (nI j), .ref at_, .int (tp), .int (tk), .int (bg), .int (ap), .int (vl), .int (bd), .ref ab, .ref as_, .ref ac])), (am, .inl (cI, 75, .inl (sp_w3 (sp_ha M z (sp_over M z) (nD M)) z j)))] := hD
            refine hz_ev hx hb hr hlocks ?_ hS dX4_isHeard_135
            first
              | (rw [show sp_hM M z = sp_ha M z (sp_over M z) (nD M) by simp only [sp_hM, hw, if_pos c71], show sp_hW M z wp = wp by simp only [sp_hW, hw, if_pos c71]]; exact hP)
              | (rw [show sp_hM M z = sp_w3 (sp_ha M z (sp_over M z) (nD M)) z j by simp only [sp_hM, hw, if_neg c71], show sp_hW M z wp = nI j by simp only [sp_hW, hw, if_neg c71]]; exact hP)
        · refine lv_aload_n hx hb dX4_isHeard_31 rfl (lv_at hl 3 rfl) ?_
          refine lv_iload hx hb dX4_isHeard_32 (lv_at hl 0 rfl) ?_
          refine lv_iconst (v := nI 3) hx hb dX4_isHeard_34 (by decide) ?_
          refine lv_aload_n hx hb dX4_isHeard_35 rfl (lv_at hl 3 rfl) ?_
          refine lv_iload hx hb dX4_isHeard_36 (lv_at hl 0 rfl) ?_
          refine lv_iconst (v := nI 3) hx hb dX4_isHeard_38 (by decide) ?_
          refine hz_cv (As := [.int (nI d), .int (nI 3)]) (rest := [.int (nI 3), .int (nI d), .ref h0]) ⟨hx, hb, hml, hown, hts⟩ (c4_it l D cI cJ (h0 := h0) (am := am) (fs := [.ref am, .ref ak, .ref aw, .int (kf), .ref af, .int (wp), .ref at_, .int (tp), .int (tk), .int (bg), .int (ap), .int (vl), .int (bd), .ref ab, .ref as_, .ref ac]) (M := sp_ha M z (sp_over M z) d) (d := d) (w := 3) (hf := by first | assumption | rfl) (hd := by omega) (hw := by omega)) (cwV 2 hts gX4_isHeard_X4_it rfl rfl rfl (by decide +kernel) ⟨Nat.le_of_ble_eq_true rfl, Nat.le_of_ble_eq_true rfl⟩) hK hP [0, 1] rfl [0, 1] rfl 0 rfl rfl rfl rfl hl.1 rfl (Nat.le_of_ble_eq_true rfl) dX4_isHeard_39 ⟨Nat.zero_le _, Nat.zero_le _⟩ ?_
          refine lv_aload_n hx hb dX4_isHeard_42 rfl (lv_at hl 3 rfl) ?_
          refine lv_iload hx hb dX4_isHeard_43 (lv_at hl 0 rfl) ?_
          refine lv_iload_n hx hb dX4_isHeard_45 rfl (lv_at hl 4 rfl) ?_
          refine lv_iload_n hx hb dX4_isHeard_46 rfl (lv_at hl 1 rfl) ?_
          refine hz_cv (As := [.int (nI d), .int (nI z), .int (sp_over M z)]) (rest := [.int ((sp_ha M z (sp_over M z) d) (3 + 5 * d + 3)), .int (nI 3), .int (nI d), .ref h0]) ⟨hx, hb, hml, hown, hts⟩ (c4_losesBy l D cI cJ (h0 := h0) (am := am) (fs := [.ref am, .ref ak, .ref aw, .int (kf), .ref af, .int (wp), .ref at_, .int (tp), .int (tk), .int (bg), .int (ap), .int (vl), .int (bd), .ref ab, .ref as_, .ref ac]) (M := sp_ha M z (sp_over M z) d) (d := d) (z := z) (f := sp_over M z) (hf := by first | assumption | rfl) (hd := by omega) (hs := by omega)) (cwV 3 hts gX4_isHeard_X4_losesBy rfl rfl rfl (by decide +kernel) ⟨Nat.le_of_ble_eq_true rfl, Nat.le_of_ble_eq_true rfl⟩) hK hP [0, 1] rfl [0, 1] rfl 0 rfl rfl rfl rfl hl.1 rfl (Nat.le_of_ble_eq_true rfl) dX4_isHeard_47 ⟨Nat.zero_le _, Nat.zero_le _⟩ ?_
          refine lv_iadd hx hb dX4_isHeard_50 ?_
          refine lv_iconst (v := nI 0) hx hb dX4_isHeard_51 (by decide) ?_
          refine lv_ldc (v := nI 99999) hx hb hown wd2 dX4_isHeard_52 ?_
          refine hz_cs (As := [.int (((sp_ha M z (sp_over M z) d) (3 + 5 * d + 3)) + (sp_loses (sp_ha M z (sp_over M z) d) d z (sp_over M z))), .int (nI 0), .int (nI 99999)]) (rest := [.int (nI 3), .int (nI d), .ref h0]) ⟨hx, hb, hml, hown, hts⟩ (c4_held l D cI cJ (v := ((sp_ha M z (sp_over M z) d) (3 + 5 * d + 3)) + (sp_loses (sp_ha M z (sp_over M z) d) d z (sp_over M z))) (a := nI 0) (b := nI 99999) ) (va_cwS 3 hts gX4_isHeard_X4_held rfl rfl rfl (by decide +kernel) ⟨Nat.le_of_ble_eq_true rfl, Nat.le_of_ble_eq_true rfl⟩) hK hP [] rfl [0, 1] rfl rfl hl.1 rfl (Nat.le_of_ble_eq_true rfl) dX4_isHeard_54 ⟨Nat.zero_le _, Nat.zero_le _⟩ ?_
          refine hz_ce (As := [.int (nI d), .int (nI 3), .int (sp_held (((sp_ha M z (sp_over M z) d) (3 + 5 * d + 3)) + (sp_loses (sp_ha M z (sp_over M z) d) d z (sp_over M z))) (nI 0) (nI 99999))]) (rest := []) ⟨hx, hb, hml, hown, hts⟩ (c4_put l D cI cJ (h0 := h0) (am := am) (fs := [.ref am, .ref ak, .ref aw, .int (kf), .ref af, .int (wp), .ref at_, .int (tp), .int (tk), .int (bg), .int (ap), .int (vl), .int (bd), .ref ab, .ref as_, .ref ac]) (M := sp_ha M z (sp_over M z) d) (d := d) (w := 3) (x := sp_held (((sp_ha M z (sp_over M z) d) (3 + 5 * d + 3)) + (sp_loses (sp_ha M z (sp_over M z) d) d z (sp_over M z))) (nI 0) (nI 99999)) (hf := by first | assumption | rfl) (hd := by omega) (hw := by omega)) (cwV 3 hts gX4_isHeard_X4_put rfl rfl rfl (by decide +kernel) ⟨Nat.le_of_ble_eq_true rfl, Nat.le_of_ble_eq_true rfl⟩) hK hP hD hS [0, 1] rfl (by decide) rfl (w' := [(h0, .inr (4, [.ref am, .ref ak, .ref aw, .int (kf), .ref af, .int (wp), .ref at_, .int (tp), .int (tk), .int (bg), .int (ap), .int (vl), .int (bd), .ref ab, .ref as_, .ref ac])), (am, .inl (cI, 75, .inl (upd (sp_ha M z (sp_over M z) d) (3 + 5 * d + 3) (sp_held (((sp_ha M z (sp_over M z) d) (3 + 5 * d + 3)) + (sp_loses (sp_ha M z (sp_over M z) d) d z (sp_over M z))) (nI 0) (nI 99999)))))]) rfl [0, 1] rfl 0 rfl rfl rfl rfl hl.1 rfl (Nat.le_of_ble_eq_true rfl) dX4_isHeard_57 ⟨Nat.zero_le _, Nat.zero_le _⟩ (fun H locs hP hD hS => ?_)
          refine W.eq (g2 := F0 m 60 ls []) rfl ?_
          refine lv_iinc (v := nI (d + 1)) (lv' := [(4, .int (nI (d + 1))), (3, .int (sp_over M z)), (2, .int (nI j)), (0, .ref h0), (1, .int (nI z))]) hx hb dX4_isHeard_60 hl (k := 0) rfl (nI_1 _) (by decide) rfl (fun ls hl => ?_)
          refine lv_goto (tgt := 20) hx hb dX4_isHeard_63 (by decide) ?_
          exact ihloop (d + 1) ls _ _ (by omega) (by omega) (lv_sub hl [0, 1, 2, 3, 4] rfl) hP hD hS
    exact loop _ 0 ls _ _ (Nat.lt_succ_self _) (by omega) (lv_sub hl [0, 1, 2, 3, 4] rfl) hP hD hS
set_option maxHeartbeats 4000000 in
set_option maxRecDepth 100000 in
theorem c4_goes (l : Launch) (D : va_G) (cI cJ : ClassId) (h0 am ak aw af at_ ab as_ ac : Nat) (kf wp tp tk bg ap vl bd : Int32) (M : Nat → Int32) (b : Nat) (hI : hz_I b M) (hb30 : b < 2 ^ 30) : hz_ME l yX4_goes wsX4_goes { frames := 5, cells := 0, slots := 0, locals := 120 } [.ref h0] D zcl [(cI, .int), (cJ, .long)] [(h0, .inr (4, [.ref am, .ref ak, .ref aw, .int (kf), .ref af, .int (wp), .ref at_, .int (tp), .int (tk), .int (bg), .int (ap), .int (vl), .int (bd), .ref ab, .ref as_, .ref ac])), (am, .inl (cI, 75, .inl M))] [(h0, .inr (4, [.ref am, .ref ak, .ref aw, .int (kf), .ref af, .int (sp_gW M), .ref at_, .int (tp), .int (tk), .int (bg), .int (ap), .int (vl), .int (bd), .ref ab, .ref as_, .ref ac])), (am, .inl (cI, 75, .inl (sp_gM M)))] none := by
  refine hz_me (cc := cX4_goes) (maxL := 1) (ret := none) (by decide) rfl (Nat.le_of_ble_eq_true rfl) ?_
  intro p e s m below meth c hx hb hr hts hown hlocks hml hP hK hD ls hl
  have hS : va_S (hz_a [(h0, .inr (4, [.ref am, .ref ak, .ref aw, .int (kf), .ref af, .int (wp), .ref at_, .int (tp), .int (tk), .int (bg), .int (ap), .int (vl), .int (bd), .ref ab, .ref as_, .ref ac])), (am, .inl (cI, 75, .inl M))]) s.heap s.heap [] := va_S.rf
  have hown : s.vm.findClass RX4 = some m.cls := hown
  have hl : lv_has ls 1 [(0, .ref h0)] := hl
  have hinX4 : ∀ w ∈ u_ws RX4 TX4 16, w ∈ wsX4_goes := fun w h => List.mem_cons_of_mem _ (List.mem_append_right _ (h))
  have wd1 := hts (.fieldLink RX4 102 "HurtSpeechModel" "weeper" "I") (List.mem_of_getElem? (i := 1) rfl)
  have wd2 := hts (.fieldLink RX4 9 "HurtSpeechModel" "m" "[I") (List.mem_of_getElem? (i := 2) rfl)
  obtain ⟨⟨hM0, hTb, hM1, hD8, hM2, hS8⟩, -, -⟩ := id hI
  refine lv_aload_n hx hb dX4_goes_0 rfl (lv_at hl 0 rfl) ?_
  refine lv_iconst (v := -1) hx hb dX4_goes_1 (by decide) ?_
  refine va_put hx hb hts hinX4 tyX4 tyX4_ok nmX4 hown hK hP hD hS 0 rfl rfl 5 (by decide) wd1 (fun _ h => h) rfl (tyX4_ok 5 (by decide)) rfl rfl (Nat.le_of_ble_eq_true rfl) dX4_goes_2 (fun H locs hP hD hS => ?_)
  have hP : va_P D zcl [(h0, .inr (4, [.ref am, .ref ak, .ref aw, .int (kf), .ref af, .int (-1), .ref at_, .int (tp), .int (tk), .int (bg), .int (ap), .int (vl), .int (bd), .ref ab, .ref as_, .ref ac])), (am, .inl (cI, 75, .inl M))] H := hP
  have hD : va_D (hz_a [(h0, .inr (4, [.ref am, .ref ak, .ref aw, .int (kf), .ref af, .int (wp), .ref at_, .int (tp), .int (tk), .int (bg), .int (ap), .int (vl), .int (bd), .ref ab, .ref as_, .ref ac])), (am, .inl (cI, 75, .inl M))]) [(h0, .inr (4, [.ref am, .ref ak, .ref aw, .int (kf), .ref af, .int (-1), .ref at_, .int (tp), .int (tk), .int (bg), .int (ap), .int (vl), .int (bd), .ref ab, .ref as_, .ref ac])), (am, .inl (cI, 75, .inl M))] := hD
  refine lv_aload_n hx hb dX4_goes_5 rfl (lv_at hl 0 rfl) ?_
  refine va_get hx hb hts hinX4 hown hK hP 0 rfl rfl 0 (by decide) wd2 (fun _ h => h) rfl dX4_goes_6 ?_
  refine lv_iconst (v := nI 2) hx hb dX4_goes_9 (by decide) ?_
  refine hz_iald (j := 2) hx hb hK hP 1 0 rfl rfl (by omega) (Nat.le_of_ble_eq_true rfl) dX4_goes_10 ?_
  refine hz_ct (y := nI (nS M)) hM2 ?_
  refine hz_ifn_le (tgt := 31) (by omega) hx hb dX4_goes_11 (by decide) (fun c11 => ?_) (fun c11 => ?_)
  · refine lv_aload_n hx hb dX4_goes_31 rfl (lv_at hl 0 rfl) ?_
    refine va_get hx hb hts hinX4 hown hK hP 0 rfl rfl 0 (by decide) wd2 (fun _ h => h) rfl dX4_goes_32 ?_
    refine lv_iconst (v := nI 0) hx hb dX4_goes_35 (by decide) ?_
    refine lv_dup2_11 hx hb dX4_goes_36 rfl rfl ?_
    refine hz_iald (j := 0) hx hb hK hP 1 0 rfl rfl (by omega) (Nat.le_of_ble_eq_true rfl) dX4_goes_37 ?_
    refine lv_iconst (v := nI 1) hx hb dX4_goes_38 (by decide) ?_
    refine lv_iadd hx hb dX4_goes_39 ?_
    refine hz_iast (j := 0) hx hb hK hP hD hS 1 0 rfl rfl (by omega) (Nat.le_of_ble_eq_true rfl) dX4_goes_40 (w' := [(h0, .inr (4, [.ref am, .ref ak, .ref aw, .int (kf), .ref af, .int (-1), .ref at_, .int (tp), .int (tk), .int (bg), .int (ap), .int (vl), .int (bd), .ref ab, .ref as_, .ref ac])), (am, .inl (cI, 75, .inl (upd M 0 ((M 0) + (nI 1)))))]) rfl (fun H locs hP hD hS => ?_)
    refine hz_ev hx hb hr hlocks ?_ hS dX4_goes_41
    first
      | (simp only [sp_gM, sp_g0, sp_gW, if_pos c11]; exact hP)
      | (simp only [sp_gM, sp_g0, sp_gW, if_neg (Nat.pos_iff_ne_zero.mp c11)]; exact hP)
  · refine lv_aload_n hx hb dX4_goes_14 rfl (lv_at hl 0 rfl) ?_
    refine lv_aload_n hx hb dX4_goes_15 rfl (lv_at hl 0 rfl) ?_
    refine va_get hx hb hts hinX4 hown hK hP 0 rfl rfl 0 (by decide) wd2 (fun _ h => h) rfl dX4_goes_16 ?_
    refine lv_iconst (v := nI 0) hx hb dX4_goes_19 (by decide) ?_
    refine hz_iald (j := 0) hx hb hK hP 1 0 rfl rfl (by omega) (Nat.le_of_ble_eq_true rfl) dX4_goes_20 ?_
    refine hz_ct (y := nI (nT M)) (hM0) ?_
    refine lv_aload_n hx hb dX4_goes_21 rfl (lv_at hl 0 rfl) ?_
    refine va_get hx hb hts hinX4 hown hK hP 0 rfl rfl 0 (by decide) wd2 (fun _ h => h) rfl dX4_goes_22 ?_
    refine lv_iconst (v := nI 2) hx hb dX4_goes_25 (by decide) ?_
    refine hz_iald (j := 2) hx hb hK hP 1 0 rfl rfl (by omega) (Nat.le_of_ble_eq_true rfl) dX4_goes_26 ?_
    refine hz_ct (y := nI (nS M)) hM2 ?_
    refine hz_irem (by omega) c11 (by omega) hx hb dX4_goes_27 ?_
    refine hz_ce (As := [.int (nI ((nT M) % (nS M)))]) (rest := []) ⟨hx, hb, hml, hown, hts⟩ (c4_isHeard l D cI cJ (h0 := h0) (am := am) (ak := ak) (aw := aw) (af := af) (at_ := at_) (ab := ab) (as_ := as_) (ac := ac) (kf := kf) (wp := -1) (tp := tp) (tk := tk) (bg := bg) (ap := ap) (vl := vl) (bd := bd) (M := M) (z := (nT M) % (nS M)) (hM1 := by first | assumption | rfl) (hD8 := by first | assumption | rfl) (hs := Nat.lt_of_lt_of_le (Nat.mod_lt _ c11) hS8)) (cwV 1 hts gX4_goes_X4_isHeard rfl rfl rfl (by decide +kernel) ⟨Nat.le_of_ble_eq_true rfl, Nat.le_of_ble_eq_true rfl⟩) hK hP hD hS [0, 1] rfl (by decide) rfl (w' := [(h0, .inr (4, [.ref am, .ref ak, .ref aw, .int (kf), .ref af, .int (sp_hW M ((nT M) % (nS M)) (-1)), .ref at_, .int (tp), .int (tk), .int (bg), .int (ap), .int (vl), .int (bd), .ref ab, .ref as_, .ref ac])), (am, .inl (cI, 75, .inl (sp_hM M ((nT M) % (nS M)))))]) rfl [0, 1] rfl 0 rfl rfl rfl rfl hl.1 rfl (Nat.le_of_ble_eq_true rfl) dX4_goes_28 ⟨Nat.zero_le _, Nat.zero_le _⟩ (fun H locs hP hD hS => ?_)
    refine W.eq (g2 := F0 m 31 ls []) rfl ?_
    refine lv_aload_n hx hb dX4_goes_31 rfl (lv_at hl 0 rfl) ?_
    refine va_get hx hb hts hinX4 hown hK hP 0 rfl rfl 0 (by decide) wd2 (fun _ h => h) rfl dX4_goes_32 ?_
    refine lv_iconst (v := nI 0) hx hb dX4_goes_35 (by decide) ?_
    refine lv_dup2_11 hx hb dX4_goes_36 rfl rfl ?_
    refine hz_iald (j := 0) hx hb hK hP 1 0 rfl rfl (by omega) (Nat.le_of_ble_eq_true rfl) dX4_goes_37 ?_
    refine lv_iconst (v := nI 1) hx hb dX4_goes_38 (by decide) ?_
    refine lv_iadd hx hb dX4_goes_39 ?_
    refine hz_iast (j := 0) hx hb hK hP hD hS 1 0 rfl rfl (by omega) (Nat.le_of_ble_eq_true rfl) dX4_goes_40 (w' := [(h0, .inr (4, [.ref am, .ref ak, .ref aw, .int (kf), .ref af, .int (sp_hW M ((nT M) % (nS M)) (-1)), .ref at_, .int (tp), .int (tk), .int (bg), .int (ap), .int (vl), .int (bd), .ref ab, .ref as_, .ref ac])), (am, .inl (cI, 75, .inl (upd (sp_hM M ((nT M) % (nS M))) 0 (((sp_hM M ((nT M) % (nS M))) 0) + (nI 1)))))]) rfl (fun H locs hP hD hS => ?_)
    refine hz_ev hx hb hr hlocks ?_ hS dX4_goes_41
    first
      | (simp only [sp_gM, sp_g0, sp_gW, if_pos c11]; exact hP)
      | (simp only [sp_gM, sp_g0, sp_gW, if_neg (Nat.pos_iff_ne_zero.mp c11)]; exact hP)
set_option maxHeartbeats 4000000 in
set_option maxRecDepth 100000 in
theorem c4_goesFor (l : Launch) (D : va_G) (cI cJ : ClassId) (h0 am ak aw af at_ ab as_ ac : Nat) (kf wp tp tk bg ap vl bd : Int32) (M : Nat → Int32) (b n : Nat) (hI : hz_I b M) (hbn : b + n ≤ 2 ^ 30) : hz_ME l yX4_goesFor wsX4_goesFor { frames := 6, cells := 0, slots := 0, locals := 140 } [.ref h0, .int (nI n)] D zcl [(cI, .int), (cJ, .long)] [(h0, .inr (4, [.ref am, .ref ak, .ref aw, .int (kf), .ref af, .int (wp), .ref at_, .int (tp), .int (tk), .int (bg), .int (ap), .int (vl), .int (bd), .ref ab, .ref as_, .ref ac])), (am, .inl (cI, 75, .inl M))] [(h0, .inr (4, [.ref am, .ref ak, .ref aw, .int (kf), .ref af, .int (sp_gNW M wp n), .ref at_, .int (tp), .int (tk), .int (bg), .int (ap), .int (vl), .int (bd), .ref ab, .ref as_, .ref ac])), (am, .inl (cI, 75, .inl (sp_gN n M)))] none := by
  refine hz_me (cc := cX4_goesFor) (maxL := 3) (ret := none) (by decide) rfl (Nat.le_of_ble_eq_true rfl) ?_
  intro p e s m below meth c hx hb hr hts hown hlocks hml hP hK hD ls hl
  have hS : va_S (hz_a [(h0, .inr (4, [.ref am, .ref ak, .ref aw, .int (kf), .ref af, .int (wp), .ref at_, .int (tp), .int (tk), .int (bg), .int (ap), .int (vl), .int (bd), .ref ab, .ref as_, .ref ac])), (am, .inl (cI, 75, .inl M))]) s.heap s.heap [] := va_S.rf
  have hown : s.vm.findClass RX4 = some m.cls := hown
  have hl : lv_has ls 3 [(0, .ref h0), (1, .int (nI n))] := hl
  refine lv_iconst (v := nI 0) hx hb dX4_goesFor_0 (by decide) ?_
  refine lv_istore_n (lv' := [(2, .int (nI 0)), (0, .ref h0), (1, .int (nI n))]) hx hb dX4_goesFor_1 rfl hl (by decide) rfl (fun ls hl => ?_)
  have loop : ∀ (nn : Nat) (k : Nat) (ls : Array Slot) (H : Heap) (locs : List Loc), n - k < nn → (k ≤ n) → lv_has ls 3 [(2, .int (nI k)), (0, .ref h0), (1, .int (nI n))] → va_P D zcl [(h0, .inr (4, [.ref am, .ref ak, .ref aw, .int (kf), .ref af, .int (sp_gNW M wp k), .ref at_, .int (tp), .int (tk), .int (bg), .int (ap), .int (vl), .int (bd), .ref ab, .ref as_, .ref ac])), (am, .inl (cI, 75, .inl (sp_gN k M)))] H → va_D (hz_a [(h0, .inr (4, [.ref am, .ref ak, .ref aw, .int (kf), .ref af, .int (wp), .ref at_, .int (tp), .int (tk), .int (bg), .int (ap), .int (vl), .int (bd), .ref ab, .ref as_, .ref ac])), (am, .inl (cI, 75, .inl M))]) [(h0, .inr (4, [.ref am, .ref ak, .ref aw, .int (kf), .ref af, .int (sp_gNW M wp k), .ref at_, .int (tp), .int (tk), .int (bg), .int (ap), .int (vl), .int (bd), .ref ab, .ref as_, .ref ac])), (am, .inl (cI, 75, .inl (sp_gN k M)))] → va_S (hz_a [(h0, .inr (4, [.ref am, .ref ak, .ref aw, .int (kf), .ref af, .int (wp), .ref at_, .int (tp), .int (tk), .int (bg), .int (ap), .int (vl), .int (bd), .ref ab, .ref as_, .ref ac])), (am, .inl (cI, 75, .inl M))]) s.heap H locs → W p l e (headSpec wsX4_goesFor { frames := 6, cells := 0, slots := 0, locals := 140 }).room s m ([.ref h0, .int (nI n)] : List Value).toArray below meth c H locs 0 0 (MQ below (hz_E D zcl [(h0, .inr (4, [.ref am, .ref ak, .ref aw, .int (kf), .ref af, .int (sp_gNW M wp n), .ref at_, .int (tp), .int (tk), .int (bg), .int (ap), .int (vl), .int (bd), .ref ab, .ref as_, .ref ac])), (am, .inl (cI, 75, .inl (sp_gN n M)))] none (hz_a [(h0, .inr (4, [.ref am, .ref ak, .ref aw, .int (kf), .ref af, .int (wp), .ref at_, .int (tp), .int (tk), .int (bg), .int (ap), .int (vl), .int (bd), .ref ab, .ref as_, .ref ac])), (am, .inl (cI, 75, .inl M))])) ([.ref h0, .int (nI n)] : List Value).toArray s 0 0 (hz_a [(h0, .inr (4, [.ref am, .ref ak, .ref aw, .int (kf), .ref af, .int (wp), .ref at_, .int (tp), .int (tk), .int (bg), .int (ap), .int (vl), .int (bd), .ref ab, .ref as_, .ref ac])), (am, .inl (cI, 75, .inl M))])) (F0 m 2 ls []) := by
    intro nn
    induction nn with
    | zero => intro k ls H locs hnn hk hl hP hD hS; exact absurd hnn (Nat.not_lt_zero _)
    | succ nn ihloop =>
      intro k ls H locs hnn hk hl hP hD hS
      have hIk := hz_I_gN hI k (by omega)
      refine lv_iload_n hx hb dX4_goesFor_2 rfl (lv_at hl 0 rfl) ?_
      refine lv_iload_n hx hb dX4_goesFor_3 rfl (lv_at hl 2 rfl) ?_
      refine hz_icmp_ge (tgt := 17) (by omega) (by omega) hx hb dX4_goesFor_4 (by decide) (fun c4 => ?_) (fun c4 => ?_)
      · obtain rfl : k = n := by omega
        refine hz_ev hx hb hr hlocks ?_ hS dX4_goesFor_17
        exact hP
      · refine lv_aload_n hx hb dX4_goesFor_7 rfl (lv_at hl 1 rfl) ?_
        refine hz_ce (As := []) (rest := []) ⟨hx, hb, hml, hown, hts⟩ (c4_goes l D cI cJ (h0 := h0) (am := am) (ak := ak) (aw := aw) (af := af) (at_ := at_) (ab := ab) (as_ := as_) (ac := ac) (kf := kf) (wp := sp_gNW M wp k) (tp := tp) (tk := tk) (bg := bg) (ap := ap) (vl := vl) (bd := bd) (M := sp_gN k M) (b := b + k) (hI := hIk) (hb30 := by omega)) (cwV 0 hts gX4_goesFor_X4_goes rfl rfl rfl (by decide +kernel) ⟨Nat.le_of_ble_eq_true rfl, Nat.le_of_ble_eq_true rfl⟩) hK hP hD hS [0, 1] rfl (by decide) rfl (w' := [(h0, .inr (4, [.ref am, .ref ak, .ref aw, .int (kf), .ref af, .int (sp_gW (sp_gN k M)), .ref at_, .int (tp), .int (tk), .int (bg), .int (ap), .int (vl), .int (bd), .ref ab, .ref as_, .ref ac])), (am, .inl (cI, 75, .inl (sp_gM (sp_gN k M))))]) rfl [0, 1] rfl 0 rfl rfl rfl rfl hl.1 rfl (Nat.le_of_ble_eq_true rfl) dX4_goesFor_8 ⟨Nat.zero_le _, Nat.zero_le _⟩ (fun H locs hP hD hS => ?_)
        refine W.eq (g2 := F0 m 11 ls []) rfl ?_
        refine lv_iinc (v := nI (k + 1)) (lv' := [(2, .int (nI (k + 1))), (0, .ref h0), (1, .int (nI n))]) hx hb dX4_goesFor_11 hl (k := 0) rfl (nI_1 _) (by decide) rfl (fun ls hl => ?_)
        refine lv_goto (tgt := 2) hx hb dX4_goesFor_14 (by decide) ?_
        exact ihloop (k + 1) ls _ _ (by omega) (by omega) (lv_sub hl [0, 1, 2] rfl) hP hD hS
  exact loop _ 0 ls _ _ (Nat.lt_succ_self _) (by omega) (lv_sub hl [0, 1, 2] rfl) hP hD hS
