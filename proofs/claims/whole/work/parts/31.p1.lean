set_option maxHeartbeats 4000000 in
set_option maxRecDepth 100000 in
theorem c3_isWithin (l : Launch) (D : va_G) (cI cJ : ClassId) (x a b : Int32)  : hz_MP l yX3_isWithin wsX3_isWithin { frames := 0, cells := 0, slots := 0, locals := 0 } [.int (x), .int (a), .int (b)] D zcl [(cI, .int), (cJ, .long)] [] (.int (hz_b (a ≤ x ∧ x ≤ b))) := by
  refine hz_mp (cc := cX3_isWithin) (maxL := 3) (ret := (some .boolean)) (by decide) rfl (Nat.le_of_ble_eq_true rfl) ?_
  intro p e s m below meth c hx hb hr hts hown hlocks hml hP hK ls hl
  have hown : s.vm.findClass RX3 = some m.cls := hown
  have hl : lv_has ls 3 [(0, .int (x)), (1, .int (a)), (2, .int (b))] := hl
  refine lv_iload_n hx hb dX3_isWithin_0 rfl (lv_at hl 0 rfl) ?_
  refine lv_iload_n hx hb dX3_isWithin_1 rfl (lv_at hl 1 rfl) ?_
  refine lv_icmp_lt (tgt := 14) hx hb dX3_isWithin_2 (by decide) (fun c2 => ?_) (fun c2 => ?_)
  · refine lv_iconst (v := nI 0) hx hb dX3_isWithin_14 (by decide) ?_
    exact hz_ri hx hb hr hlocks rfl ((hz_bf (fun h => absurd c2 (Int32.not_lt.mpr h.1))).symm) dX3_isWithin_15
  · refine lv_iload_n hx hb dX3_isWithin_5 rfl (lv_at hl 0 rfl) ?_
    refine lv_iload_n hx hb dX3_isWithin_6 rfl (lv_at hl 2 rfl) ?_
    refine lv_icmp_gt (tgt := 14) hx hb dX3_isWithin_7 (by decide) (fun c7 => ?_) (fun c7 => ?_)
    · refine lv_iconst (v := nI 0) hx hb dX3_isWithin_14 (by decide) ?_
      exact hz_ri hx hb hr hlocks rfl ((hz_bf (fun h => absurd c7 (Int32.not_lt.mpr h.2))).symm) dX3_isWithin_15
    · refine lv_iconst (v := nI 1) hx hb dX3_isWithin_10 (by decide) ?_
      refine lv_goto (tgt := 15) hx hb dX3_isWithin_11 (by decide) ?_
      exact hz_ri hx hb hr hlocks rfl ((hz_bt ⟨Int32.not_lt.mp c2, Int32.not_lt.mp c7⟩).symm) dX3_isWithin_15
set_option maxHeartbeats 4000000 in
set_option maxRecDepth 100000 in
theorem c3_exchange (l : Launch) (D : va_G) (cI cJ : ClassId) (r_ : Nat) (F : Nat → Int32) (i : Nat) (v : Int32) (hi : i < 8) : hz_ME l yX3_exchange wsX3_exchange { frames := 0, cells := 0, slots := 0, locals := 0 } [.ref r_, .int (nI i), .int (v)] D zcl [(cI, .int), (cJ, .long)] [(r_, .inl (cI, 8, .inl F))] [(r_, .inl (cI, 8, .inl (upd F i v)))] (some (.int (F i))) := by
  refine hz_me (cc := cX3_exchange) (maxL := 4) (ret := (some .int)) (by decide) rfl (Nat.le_of_ble_eq_true rfl) ?_
  intro p e s m below meth c hx hb hr hts hown hlocks hml hP hK hD ls hl
  have hS : va_S (hz_a [(r_, .inl (cI, 8, .inl F))]) s.heap s.heap [] := va_S.rf
  have hown : s.vm.findClass RX3 = some m.cls := hown
  have hl : lv_has ls 4 [(0, .ref r_), (1, .int (nI i)), (2, .int (v))] := hl
  refine lv_aload_n hx hb dX3_exchange_0 rfl (lv_at hl 0 rfl) ?_
  refine lv_iload_n hx hb dX3_exchange_1 rfl (lv_at hl 1 rfl) ?_
  refine hz_iald (j := i) hx hb hK hP 0 0 rfl rfl (by omega) (Nat.le_of_ble_eq_true rfl) dX3_exchange_2 ?_
  refine lv_istore_n (lv' := [(3, .int (F i)), (0, .ref r_), (1, .int (nI i)), (2, .int (v))]) hx hb dX3_exchange_3 rfl hl (by decide) rfl (fun ls hl => ?_)
  refine lv_aload_n hx hb dX3_exchange_4 rfl (lv_at hl 1 rfl) ?_
  refine lv_iload_n hx hb dX3_exchange_5 rfl (lv_at hl 2 rfl) ?_
  refine lv_iload_n hx hb dX3_exchange_6 rfl (lv_at hl 3 rfl) ?_
  refine hz_iast (j := i) hx hb hK hP hD hS 0 0 rfl rfl (by omega) (Nat.le_of_ble_eq_true rfl) dX3_exchange_7 (w' := [(r_, .inl (cI, 8, .inl (upd F i v)))]) rfl (fun H locs hP hD hS => ?_)
  refine lv_iload_n hx hb dX3_exchange_8 rfl (lv_at hl 0 rfl) ?_
  refine hz_ei hx hb hr hlocks rfl ?_ hS (rfl) dX3_exchange_9
  exact hP
set_option maxHeartbeats 4000000 in
set_option maxRecDepth 100000 in
theorem c3_found (l : Launch) (D : va_G) (cI cJ : ClassId) (x0 a0 kc0 tc0 tp0 sh0 fd0 : Nat) (kf : Int32) (F : Nat → Int32) (f : Int32) (k : Nat) (hk : k < 7) (hfk : -1000000001 - f = nI k) : hz_ME l yX3_found wsX3_found { frames := 1, cells := 0, slots := 0, locals := 22 } [.ref x0, .int (f)] D zcl [(cI, .int), (cJ, .long)] [(x0, .inr (3, [.ref a0, .ref kc0, .ref tc0, .ref tp0, .ref sh0, .ref fd0, .int (kf)])), (fd0, .inl (cI, 7, .inl F))] [(x0, .inr (3, [.ref a0, .ref kc0, .ref tc0, .ref tp0, .ref sh0, .ref fd0, .int (kf)])), (fd0, .inl (cI, 7, .inl (sp_fd F k)))] (some (.int (f))) := by
  refine hz_me (cc := cX3_found) (maxL := 3) (ret := (some .int)) (by decide) rfl (Nat.le_of_ble_eq_true rfl) ?_
  intro p e s m below meth c hx hb hr hts hown hlocks hml hP hK hD ls hl
  have hS : va_S (hz_a [(x0, .inr (3, [.ref a0, .ref kc0, .ref tc0, .ref tp0, .ref sh0, .ref fd0, .int (kf)])), (fd0, .inl (cI, 7, .inl F))]) s.heap s.heap [] := va_S.rf
  have hown : s.vm.findClass RX3 = some m.cls := hown
  have hl : lv_has ls 3 [(0, .ref x0), (1, .int (f))] := hl
  have hinX3 : ∀ w ∈ u_ws RX3 TX3 7, w ∈ wsX3_found := fun w h => List.mem_cons_of_mem _ (List.mem_append_right _ (h))
  have wd1 := hts (.constant RX3 48 (-1000000001)) (List.mem_of_getElem? (i := 1) rfl)
  have wd2 := hts (.fieldLink RX3 36 "HurtSpeech" "findings" "[I") (List.mem_of_getElem? (i := 2) rfl)
  refine lv_ldc (v := -1000000001) hx hb hown wd1 dX3_found_0 ?_
  refine lv_iload_n hx hb dX3_found_2 rfl (lv_at hl 1 rfl) ?_
  refine lv_isub hx hb dX3_found_3 ?_
  refine hz_ct (y := nI (k)) (hfk) ?_
  refine lv_istore_n (lv' := [(2, .int (nI k)), (0, .ref x0), (1, .int (f))]) hx hb dX3_found_4 rfl hl (by decide) rfl (fun ls hl => ?_)
  refine lv_iload_n hx hb dX3_found_5 rfl (lv_at hl 0 rfl) ?_
  refine lv_iconst (v := nI 0) hx hb dX3_found_6 (by decide) ?_
  refine lv_bipush (v := nI 6) hx hb dX3_found_7 (by decide) ?_
  refine hz_cs (As := [.int (nI k), .int (nI 0), .int (nI 6)]) (rest := []) ⟨hx, hb, hml, hown, hts⟩ (c3_isWithin l D cI cJ (x := nI k) (a := nI 0) (b := nI 6) ) (va_cwS 3 hts gX3_found_X3_isWithin rfl rfl rfl (by decide +kernel) ⟨Nat.le_of_ble_eq_true rfl, Nat.le_of_ble_eq_true rfl⟩) hK hP [] rfl [0, 1] rfl rfl hl.1 rfl (Nat.le_of_ble_eq_true rfl) dX3_found_9 ⟨Nat.zero_le _, Nat.zero_le _⟩ ?_
  refine hz_ifb_eq (tgt := 25) hx hb dX3_found_12 (by decide) (fun c12 => ?_) (fun c12 => ?_)
  · exact absurd ⟨nI_le (Nat.zero_le k) (by omega), nI_le (by omega) (by omega)⟩ c12
  · refine lv_aload_n hx hb dX3_found_15 rfl (lv_at hl 1 rfl) ?_
    refine va_get hx hb hts hinX3 hown hK hP 0 rfl rfl 5 (by decide) wd2 (fun _ h => h) rfl dX3_found_16 ?_
    refine lv_iload_n hx hb dX3_found_19 rfl (lv_at hl 0 rfl) ?_
    refine lv_dup2_11 hx hb dX3_found_20 rfl rfl ?_
    refine hz_iald (j := k) hx hb hK hP 1 0 rfl rfl (by omega) (Nat.le_of_ble_eq_true rfl) dX3_found_21 ?_
    refine lv_iconst (v := nI 1) hx hb dX3_found_22 (by decide) ?_
    refine lv_iadd hx hb dX3_found_23 ?_
    refine hz_iast (j := k) hx hb hK hP hD hS 1 0 rfl rfl (by omega) (Nat.le_of_ble_eq_true rfl) dX3_found_24 (w' := [(x0, .inr (3, [.ref a0, .ref kc0, .ref tc0, .ref tp0, .ref sh0, .ref fd0, .int (kf)])), (fd0, .inl (cI, 7, .inl (upd F k ((F k) + (nI 1)))))]) rfl (fun H locs hP hD hS => ?_)
    refine lv_iload_n hx hb dX3_found_25 rfl (lv_at hl 2 rfl) ?_
    refine hz_ei hx hb hr hlocks rfl ?_ hS (rfl) dX3_found_26
    exact hP
set_option maxHeartbeats 4000000 in
set_option maxRecDepth 100000 in
theorem c4_mt0 (l : Launch) (D : va_G) (cI cJ : ClassId) (h0 am : Nat) (fs : List Value) (M : Nat → Int32) (x : Int32) (hf : fs[0]? = some (.ref am)) (hM1 : M 1 = nI (nD M)) (hD8 : nD M ≤ 8) : hz_MP l yX4_mayTell wsX4_mayTell { frames := 2, cells := 0, slots := 0, locals := 44 } [.ref h0, .int (nI 0), .int (x)] D zcl [(cI, .int), (cJ, .long)] [(h0, .inr (4, fs)), (am, .inl (cI, 75, .inl M))] (.int (hz_b (hz_in x (nD M)))) := by
  refine hz_mp (cc := cX4_mayTell) (maxL := 3) (ret := (some .boolean)) (by decide) rfl (Nat.le_of_ble_eq_true rfl) ?_
  intro p e s m below meth c hx hb hr hts hown hlocks hml hP hK ls hl
  have hown : s.vm.findClass RX4 = some m.cls := hown
  have hl : lv_has ls 3 [(0, .ref h0), (1, .int (nI 0)), (2, .int (x))] := hl
  refine lv_iload_n hx hb dX4_mayTell_0 rfl (lv_at hl 1 rfl) ?_
  refine lv_tableIn (tgt := 32) hx hb dX4_mayTell_1 (by decide) (by decide) (off := 31) (by decide) (by decide) ?_
  refine lv_aload_n hx hb dX4_mayTell_32 rfl (lv_at hl 0 rfl) ?_
  refine lv_iload_n hx hb dX4_mayTell_33 rfl (lv_at hl 2 rfl) ?_
  refine hz_cv (As := [.int (x)]) (rest := []) ⟨hx, hb, hml, hown, hts⟩ (c4_isThere l D cI cJ (h0 := h0) (am := am) (fs := fs) (M := M) (x := x) (hf := by first | assumption | rfl) (hM1 := by first | assumption | rfl) (hD8 := by first | assumption | rfl)) (cwV 1 hts gX4_mayTell_X4_isThere rfl rfl rfl (by decide +kernel) ⟨Nat.le_of_ble_eq_true rfl, Nat.le_of_ble_eq_true rfl⟩) hK hP [0, 1] rfl [0, 1] rfl 0 rfl rfl rfl rfl hl.1 rfl (Nat.le_of_ble_eq_true rfl) dX4_mayTell_34 ⟨Nat.zero_le _, Nat.zero_le _⟩ ?_
  exact hz_ri hx hb hr hlocks (hz_nb _) (rfl) dX4_mayTell_37
set_option maxHeartbeats 4000000 in
set_option maxRecDepth 100000 in
theorem c4_mt1 (l : Launch) (D : va_G) (cI cJ : ClassId) (h0 am : Nat) (fs : List Value) (M : Nat → Int32) (x : Int32) (hf : fs[0]? = some (.ref am)) : hz_MP l yX4_mayTell wsX4_mayTell { frames := 2, cells := 0, slots := 0, locals := 44 } [.ref h0, .int (nI 1), .int (x)] D zcl [(cI, .int), (cJ, .long)] [(h0, .inr (4, fs)), (am, .inl (cI, 75, .inl M))] (.int (hz_b (hz_in x 4))) := by
  refine hz_mp (cc := cX4_mayTell) (maxL := 3) (ret := (some .boolean)) (by decide) rfl (Nat.le_of_ble_eq_true rfl) ?_
  intro p e s m below meth c hx hb hr hts hown hlocks hml hP hK ls hl
  have hown : s.vm.findClass RX4 = some m.cls := hown
  have hl : lv_has ls 3 [(0, .ref h0), (1, .int (nI 1)), (2, .int (x))] := hl
  refine lv_iload_n hx hb dX4_mayTell_0 rfl (lv_at hl 1 rfl) ?_
  refine lv_tableIn (tgt := 38) hx hb dX4_mayTell_1 (by decide) (by decide) (off := 37) (by decide) (by decide) ?_
  refine lv_iload_n hx hb dX4_mayTell_38 rfl (lv_at hl 2 rfl) ?_
  refine lv_i2l (v := x.toInt64) hx hb dX4_mayTell_39 rfl ?_
  refine lv_iconst (v := nI 0) hx hb dX4_mayTell_40 (by decide) ?_
  refine lv_iconst (v := nI 3) hx hb dX4_mayTell_41 (by decide) ?_
  refine hz_cs (As := [.long (x.toInt64), .int (nI 0), .int (nI 3)]) (rest := []) ⟨hx, hb, hml, hown, hts⟩ (c4_in32 l D cI cJ (x := x) (a := nI 0) (b := nI 3) ) (va_cwS 3 hts gX4_mayTell_X4_in rfl rfl rfl (by decide +kernel) ⟨Nat.le_of_ble_eq_true rfl, Nat.le_of_ble_eq_true rfl⟩) hK hP [] rfl [0, 1] rfl rfl hl.1 rfl (Nat.le_of_ble_eq_true rfl) dX4_mayTell_42 ⟨Nat.zero_le _, Nat.zero_le _⟩ ?_
  exact hz_ri hx hb hr hlocks (hz_nb _) (hz_be (hz_rin3 x (b := 3) (by decide))) dX4_mayTell_45
set_option maxHeartbeats 4000000 in
set_option maxRecDepth 100000 in
theorem c4_mt2 (l : Launch) (D : va_G) (cI cJ : ClassId) (h0 am : Nat) (fs : List Value) (M : Nat → Int32) (x : Int32) (hf : fs[0]? = some (.ref am)) (hM1 : M 1 = nI (nD M)) (hD8 : nD M ≤ 8) : hz_MP l yX4_mayTell wsX4_mayTell { frames := 2, cells := 0, slots := 0, locals := 44 } [.ref h0, .int (nI 2), .int (x)] D zcl [(cI, .int), (cJ, .long)] [(h0, .inr (4, fs)), (am, .inl (cI, 75, .inl M))] (.int (hz_b (x = -1 ∨ hz_in x (nD M)))) := by
  refine hz_mp (cc := cX4_mayTell) (maxL := 3) (ret := (some .boolean)) (by decide) rfl (Nat.le_of_ble_eq_true rfl) ?_
  intro p e s m below meth c hx hb hr hts hown hlocks hml hP hK ls hl
  have hown : s.vm.findClass RX4 = some m.cls := hown
  have hl : lv_has ls 3 [(0, .ref h0), (1, .int (nI 2)), (2, .int (x))] := hl
  refine lv_iload_n hx hb dX4_mayTell_0 rfl (lv_at hl 1 rfl) ?_
  refine lv_tableIn (tgt := 46) hx hb dX4_mayTell_1 (by decide) (by decide) (off := 45) (by decide) (by decide) ?_
  refine lv_iload_n hx hb dX4_mayTell_46 rfl (lv_at hl 2 rfl) ?_
  refine lv_iconst (v := -1) hx hb dX4_mayTell_47 (by decide) ?_
  refine lv_icmp_eq (tgt := 59) hx hb dX4_mayTell_48 (by decide) (fun c48 => ?_) (fun c48 => ?_)
  · refine lv_iconst (v := nI 1) hx hb dX4_mayTell_59 (by decide) ?_
    refine lv_goto (tgt := 64) hx hb dX4_mayTell_60 (by decide) ?_
    exact hz_ri hx hb hr hlocks rfl ((hz_bt (Or.inl c48)).symm) dX4_mayTell_64
  · refine lv_aload_n hx hb dX4_mayTell_51 rfl (lv_at hl 0 rfl) ?_
    refine lv_iload_n hx hb dX4_mayTell_52 rfl (lv_at hl 2 rfl) ?_
    refine hz_cv (As := [.int (x)]) (rest := []) ⟨hx, hb, hml, hown, hts⟩ (c4_isThere l D cI cJ (h0 := h0) (am := am) (fs := fs) (M := M) (x := x) (hf := by first | assumption | rfl) (hM1 := by first | assumption | rfl) (hD8 := by first | assumption | rfl)) (cwV 1 hts gX4_mayTell_X4_isThere rfl rfl rfl (by decide +kernel) ⟨Nat.le_of_ble_eq_true rfl, Nat.le_of_ble_eq_true rfl⟩) hK hP [0, 1] rfl [0, 1] rfl 0 rfl rfl rfl rfl hl.1 rfl (Nat.le_of_ble_eq_true rfl) dX4_mayTell_53 ⟨Nat.zero_le _, Nat.zero_le _⟩ ?_
    refine hz_ifb_eq (tgt := 63) hx hb dX4_mayTell_56 (by decide) (fun c56 => ?_) (fun c56 => ?_)
    · refine lv_iconst (v := nI 0) hx hb dX4_mayTell_63 (by decide) ?_
      exact hz_ri hx hb hr hlocks rfl ((hz_bf (fun h => h.elim c48 c56)).symm) dX4_mayTell_64
    · refine lv_iconst (v := nI 1) hx hb dX4_mayTell_59 (by decide) ?_
      refine lv_goto (tgt := 64) hx hb dX4_mayTell_60 (by decide) ?_
      exact hz_ri hx hb hr hlocks rfl ((hz_bt (Or.inr c56)).symm) dX4_mayTell_64
set_option maxHeartbeats 4000000 in
set_option maxRecDepth 100000 in
theorem c4_mt3 (l : Launch) (D : va_G) (cI cJ : ClassId) (h0 am : Nat) (fs : List Value) (M : Nat → Int32) (x : Int32) (hf : fs[0]? = some (.ref am)) : hz_MP l yX4_mayTell wsX4_mayTell { frames := 2, cells := 0, slots := 0, locals := 44 } [.ref h0, .int (nI 3), .int (x)] D zcl [(cI, .int), (cJ, .long)] [(h0, .inr (4, fs)), (am, .inl (cI, 75, .inl M))] (.int (hz_b (hz_in x 100))) := by
  refine hz_mp (cc := cX4_mayTell) (maxL := 3) (ret := (some .boolean)) (by decide) rfl (Nat.le_of_ble_eq_true rfl) ?_
  intro p e s m below meth c hx hb hr hts hown hlocks hml hP hK ls hl
  have hown : s.vm.findClass RX4 = some m.cls := hown
  have hl : lv_has ls 3 [(0, .ref h0), (1, .int (nI 3)), (2, .int (x))] := hl
  refine lv_iload_n hx hb dX4_mayTell_0 rfl (lv_at hl 1 rfl) ?_
  refine lv_tableIn (tgt := 65) hx hb dX4_mayTell_1 (by decide) (by decide) (off := 64) (by decide) (by decide) ?_
  refine lv_iload_n hx hb dX4_mayTell_65 rfl (lv_at hl 2 rfl) ?_
  refine lv_i2l (v := x.toInt64) hx hb dX4_mayTell_66 rfl ?_
  refine lv_iconst (v := nI 0) hx hb dX4_mayTell_67 (by decide) ?_
  refine lv_bipush (v := nI 99) hx hb dX4_mayTell_68 (by decide) ?_
  refine hz_cs (As := [.long (x.toInt64), .int (nI 0), .int (nI 99)]) (rest := []) ⟨hx, hb, hml, hown, hts⟩ (c4_in32 l D cI cJ (x := x) (a := nI 0) (b := nI 99) ) (va_cwS 3 hts gX4_mayTell_X4_in rfl rfl rfl (by decide +kernel) ⟨Nat.le_of_ble_eq_true rfl, Nat.le_of_ble_eq_true rfl⟩) hK hP [] rfl [0, 1] rfl rfl hl.1 rfl (Nat.le_of_ble_eq_true rfl) dX4_mayTell_70 ⟨Nat.zero_le _, Nat.zero_le _⟩ ?_
  exact hz_ri hx hb hr hlocks (hz_nb _) (hz_be (hz_rin3 x (b := 99) (by decide))) dX4_mayTell_73
set_option maxHeartbeats 4000000 in
set_option maxRecDepth 100000 in
theorem c4_mtn (l : Launch) (D : va_G) (cI cJ : ClassId) (h0 am : Nat) (fs : List Value) (M : Nat → Int32) (y x : Int32) (hf : fs[0]? = some (.ref am)) (hy : (y.toInt < 0 ∨ 3 < y.toInt) ∧ y ≠ nI 0 ∧ y ≠ nI 1 ∧ y ≠ nI 2 ∧ y ≠ nI 3) : hz_MP l yX4_mayTell wsX4_mayTell { frames := 2, cells := 0, slots := 0, locals := 44 } [.ref h0, .int (y), .int (x)] D zcl [(cI, .int), (cJ, .long)] [(h0, .inr (4, fs)), (am, .inl (cI, 75, .inl M))] (.int (nI 0)) := by
  refine hz_mp (cc := cX4_mayTell) (maxL := 3) (ret := (some .boolean)) (by decide) rfl (Nat.le_of_ble_eq_true rfl) ?_
  intro p e s m below meth c hx hb hr hts hown hlocks hml hP hK ls hl
  have hown : s.vm.findClass RX4 = some m.cls := hown
  have hl : lv_has ls 3 [(0, .ref h0), (1, .int (y)), (2, .int (x))] := hl
  refine lv_iload_n hx hb dX4_mayTell_0 rfl (lv_at hl 1 rfl) ?_
  refine lv_tableOut (tgt := 74) hx hb dX4_mayTell_1 hy.1 (by decide) ?_
  refine lv_iconst (v := nI 0) hx hb dX4_mayTell_74 (by decide) ?_
  exact hz_ri hx hb hr hlocks rfl (rfl) dX4_mayTell_75
set_option maxHeartbeats 4000000 in
set_option maxRecDepth 100000 in
theorem c4_mostOf (l : Launch) (D : va_G) (cI cJ : ClassId) (x : Int32) (hx4 : nI 1 ≤ x ∧ x ≤ nI 4) : hz_MP l yX4_mostOf wsX4_mostOf { frames := 0, cells := 0, slots := 0, locals := 0 } [.int (x)] D zcl [(cI, .int), (cJ, .long)] [] (.int (sp_mo x)) := by
  refine hz_mp (cc := cX4_mostOf) (maxL := 1) (ret := (some .int)) (by decide) rfl (Nat.le_of_ble_eq_true rfl) ?_
  intro p e s m below meth c hx hb hr hts hown hlocks hml hP hK ls hl
  have hown : s.vm.findClass RX4 = some m.cls := hown
  have hl : lv_has ls 1 [(0, .int (x))] := hl
  have wd1 := hts (.constant RX4 80 (99999)) (List.mem_of_getElem? (i := 1) rfl)
  refine lv_iload_n hx hb dX4_mostOf_0 rfl (lv_at hl 0 rfl) ?_
  refine lv_iconst (v := nI 1) hx hb dX4_mostOf_1 (by decide) ?_
  refine lv_icmp_ne (tgt := 10) hx hb dX4_mostOf_2 (by decide) (fun c2 => ?_) (fun c2 => ?_)
  · refine lv_iload_n hx hb dX4_mostOf_10 rfl (lv_at hl 0 rfl) ?_
    refine lv_iconst (v := nI 2) hx hb dX4_mostOf_11 (by decide) ?_
    refine lv_icmp_ne (tgt := 20) hx hb dX4_mostOf_12 (by decide) (fun c12 => ?_) (fun c12 => ?_)
    · refine lv_iload_n hx hb dX4_mostOf_20 rfl (lv_at hl 0 rfl) ?_
      refine lv_iconst (v := nI 3) hx hb dX4_mostOf_21 (by decide) ?_
      refine lv_icmp_ne (tgt := 30) hx hb dX4_mostOf_22 (by decide) (fun c22 => ?_) (fun c22 => ?_)
      · refine lv_sipush (v := nI 999) hx hb dX4_mostOf_30 (by decide) ?_
        exact hz_ri hx hb hr hlocks rfl ((mo_4 (hz_mo4e hx4 c2 c12 c22)).symm) dX4_mostOf_33
      · refine lv_ldc (v := nI 99999) hx hb hown wd1 dX4_mostOf_25 ?_
        refine lv_goto (tgt := 33) hx hb dX4_mostOf_27 (by decide) ?_
        exact hz_ri hx hb hr hlocks rfl ((mo_3 c22).symm) dX4_mostOf_33
    · refine lv_bipush (v := nI 15) hx hb dX4_mostOf_15 (by decide) ?_
      refine lv_goto (tgt := 33) hx hb dX4_mostOf_17 (by decide) ?_
      exact hz_ri hx hb hr hlocks rfl ((mo_2 c12).symm) dX4_mostOf_33
  · refine lv_bipush (v := nI 20) hx hb dX4_mostOf_5 (by decide) ?_
    refine lv_goto (tgt := 33) hx hb dX4_mostOf_7 (by decide) ?_
    exact hz_ri hx hb hr hlocks rfl ((mo_1 c2).symm) dX4_mostOf_33
set_option maxHeartbeats 4000000 in
set_option maxRecDepth 100000 in
theorem c4_delegate (l : Launch) (D : va_G) (cI cJ : ClassId) (h0 am af : Nat) (fs : List Value) (M F : Nat → Int32) (b : Nat) (x : Int32) (hf : fs[0]? = some (.ref am)) (hf4 : fs[4]? = some (.ref af)) (hI : hz_I b M) : hz_ME l yX4_delegate wsX4_delegate { frames := 2, cells := 0, slots := 0, locals := 47 } [.ref h0, .int (x)] D zcl [(cI, .int), (cJ, .long)] [(h0, .inr (4, fs)), (am, .inl (cI, 75, .inl M)), (af, .inl (cI, 7, .inl F))] [(h0, .inr (4, fs)), (am, .inl (cI, 75, .inl (sp_fM (fd_delegate M x) M (sp_add M x (nI 5) (nI 1))))), (af, .inl (cI, 7, .inl (sp_ff F (fd_delegate M x))))] (some (.int (sp_fr (fd_delegate M x) (nI (nD M))))) := by
  refine hz_me (cc := cX4_delegate) (maxL := 2) (ret := (some .int)) (by decide) rfl (Nat.le_of_ble_eq_true rfl) ?_
  intro p e s m below meth c hx hb hr hts hown hlocks hml hP hK hD ls hl
  have hS : va_S (hz_a [(h0, .inr (4, fs)), (am, .inl (cI, 75, .inl M)), (af, .inl (cI, 7, .inl F))]) s.heap s.heap [] := va_S.rf
  have hown : s.vm.findClass RX4 = some m.cls := hown
  have hl : lv_has ls 2 [(0, .ref h0), (1, .int (x))] := hl
  have hinX4 : ∀ w ∈ u_ws RX4 TX4 16, w ∈ wsX4_delegate := fun w h => List.mem_cons_of_mem _ (List.mem_append_right _ (h))
  have wd1 := hts (.constant RX4 35 (-1000000001)) (List.mem_of_getElem? (i := 1) rfl)
  have wd2 := hts (.fieldLink RX4 9 "HurtSpeechModel" "m" "[I") (List.mem_of_getElem? (i := 2) rfl)
  have wd3 := hts (.constant RX4 69 (-1000000002)) (List.mem_of_getElem? (i := 3) rfl)
  obtain ⟨⟨hM0, hTb, hM1, hD8, hM2, hS8⟩, hID, hIS⟩ := id hI
  refine lv_iload_n hx hb dX4_delegate_0 rfl (lv_at hl 1 rfl) ?_
  refine lv_i2l (v := x.toInt64) hx hb dX4_delegate_1 rfl ?_
  refine lv_iconst (v := nI 0) hx hb dX4_delegate_2 (by decide) ?_
  refine lv_iconst (v := nI 5) hx hb dX4_delegate_3 (by decide) ?_
  refine hz_cs (As := [.long (x.toInt64), .int (nI 0), .int (nI 5)]) (rest := []) ⟨hx, hb, hml, hown, hts⟩ (c4_in32 l D cI cJ (x := x) (a := nI 0) (b := nI 5) ) (va_cwS 3 hts gX4_delegate_X4_in rfl rfl rfl (by decide +kernel) ⟨Nat.le_of_ble_eq_true rfl, Nat.le_of_ble_eq_true rfl⟩) hK hP [] rfl [0, 1] rfl rfl hl.1 rfl (Nat.le_of_ble_eq_true rfl) dX4_delegate_4 ⟨Nat.zero_le _, Nat.zero_le _⟩ ?_
  refine hz_ifb_ne (tgt := 17) hx hb dX4_delegate_7 (by decide) (fun c7 => ?_) (fun c7 => ?_)
  · refine lv_aload_n hx hb dX4_delegate_17 rfl (lv_at hl 0 rfl) ?_
    refine va_get hx hb hts hinX4 hown hK hP 0 rfl rfl 0 (by decide) wd2 (fun _ h => h) hf dX4_delegate_18 ?_
    refine lv_iconst (v := nI 1) hx hb dX4_delegate_21 (by decide) ?_
    refine hz_iald (j := 1) hx hb hK hP 1 0 rfl rfl (by omega) (Nat.le_of_ble_eq_true rfl) dX4_delegate_22 ?_
    refine hz_ct (y := nI (nD M)) hM1 ?_
    refine lv_bipush (v := nI 8) hx hb dX4_delegate_23 (by decide) ?_
    refine hz_icmp_ne (tgt := 37) (by omega) (by omega) hx hb dX4_delegate_25 (by decide) (fun c25 => ?_) (fun c25 => ?_)
    · refine lv_aload_n hx hb dX4_delegate_37 rfl (lv_at hl 0 rfl) ?_
      refine lv_iload_n hx hb dX4_delegate_38 rfl (lv_at hl 1 rfl) ?_
      refine lv_iconst (v := nI 5) hx hb dX4_delegate_39 (by decide) ?_
      refine lv_iconst (v := nI 1) hx hb dX4_delegate_40 (by decide) ?_
      refine hz_ce (As := [.int (x), .int (nI 5), .int (nI 1)]) (rest := []) ⟨hx, hb, hml, hown, hts⟩ (c4_comesAs l D cI cJ (h0 := h0) (am := am) (fs := fs) (M := M) (k := x) (q := nI 5) (t := nI 1) (hf := by first | assumption | rfl) (hM1 := by first | assumption | rfl) (hD8 := by first | assumption | rfl) (hlt := by omega)) (cwV 3 hts gX4_delegate_X4_comesAs rfl rfl rfl (by decide +kernel) ⟨Nat.le_of_ble_eq_true rfl, Nat.le_of_ble_eq_true rfl⟩) hK hP hD hS [0, 1] rfl (by decide) rfl (w' := [(h0, .inr (4, fs)), (am, .inl (cI, 75, .inl (sp_add M x (nI 5) (nI 1)))), (af, .inl (cI, 7, .inl F))]) rfl [0, 1] rfl 0 rfl rfl rfl rfl hl.1 rfl (Nat.le_of_ble_eq_true rfl) dX4_delegate_41 ⟨Nat.zero_le _, Nat.zero_le _⟩ (fun H locs hP hD hS => ?_)
      refine W.eq (g2 := F0 m 44 ls [.int (nI (nD M))]) rfl ?_
      refine hz_ei hx hb hr hlocks rfl ?_ hS (by rw [show fd_delegate M x = none from (if_pos c7).trans (if_neg c25)]; exact fr_n rfl) dX4_delegate_44
      rw [show fd_delegate M x = none from (if_pos c7).trans (if_neg c25)]
      exact hP
    · refine lv_aload_n hx hb dX4_delegate_28 rfl (lv_at hl 0 rfl) ?_
      refine lv_ldc (v := -1000000002) hx hb hown wd3 dX4_delegate_29 ?_
      refine hz_ce (As := [.int (-1000000002)]) (rest := []) ⟨hx, hb, hml, hown, hts⟩ (c4_finds l D cI cJ (h0 := h0) (af := af) (fs := fs) (F := F) (f := -1000000002) (k := 1) (hf := by first | assumption | rfl) (hk := by omega) (hfk := by decide)) (cwV 1 hts gX4_delegate_X4_finds rfl rfl rfl (by decide +kernel) ⟨Nat.le_of_ble_eq_true rfl, Nat.le_of_ble_eq_true rfl⟩) hK hP hD hS [0, 2] rfl (by decide) rfl (w' := [(h0, .inr (4, fs)), (am, .inl (cI, 75, .inl M)), (af, .inl (cI, 7, .inl (sp_fd F 1)))]) rfl [0, 1] rfl 0 rfl rfl rfl rfl hl.1 rfl (Nat.le_of_ble_eq_true rfl) dX4_delegate_31 ⟨Nat.zero_le _, Nat.zero_le _⟩ (fun H locs hP hD hS => ?_)
      refine W.eq (g2 := F0 m 34 ls [.int ((-1000000002))]) rfl ?_
      refine lv_goto (tgt := 44) hx hb dX4_delegate_34 (by decide) ?_
      refine hz_ei hx hb hr hlocks rfl ?_ hS (by rw [show fd_delegate M x = some 1 from (if_pos c7).trans (if_pos c25)]; rfl) dX4_delegate_44
      rw [show fd_delegate M x = some 1 from (if_pos c7).trans (if_pos c25)]
      exact hP
  · refine lv_aload_n hx hb dX4_delegate_10 rfl (lv_at hl 0 rfl) ?_
    refine lv_ldc (v := -1000000001) hx hb hown wd1 dX4_delegate_11 ?_
    refine hz_ce (As := [.int (-1000000001)]) (rest := []) ⟨hx, hb, hml, hown, hts⟩ (c4_finds l D cI cJ (h0 := h0) (af := af) (fs := fs) (F := F) (f := -1000000001) (k := 0) (hf := by first | assumption | rfl) (hk := by omega) (hfk := by decide)) (cwV 1 hts gX4_delegate_X4_finds rfl rfl rfl (by decide +kernel) ⟨Nat.le_of_ble_eq_true rfl, Nat.le_of_ble_eq_true rfl⟩) hK hP hD hS [0, 2] rfl (by decide) rfl (w' := [(h0, .inr (4, fs)), (am, .inl (cI, 75, .inl M)), (af, .inl (cI, 7, .inl (sp_fd F 0)))]) rfl [0, 1] rfl 0 rfl rfl rfl rfl hl.1 rfl (Nat.le_of_ble_eq_true rfl) dX4_delegate_13 ⟨Nat.zero_le _, Nat.zero_le _⟩ (fun H locs hP hD hS => ?_)
    refine W.eq (g2 := F0 m 16 ls [.int ((-1000000001))]) rfl ?_
    refine hz_ei hx hb hr hlocks rfl ?_ hS (by rw [show fd_delegate M x = some 0 from if_neg c7]; rfl) dX4_delegate_16
    rw [show fd_delegate M x = some 0 from if_neg c7]
    exact hP
set_option maxHeartbeats 4000000 in
set_option maxRecDepth 100000 in
theorem c3_delegate (l : Launch) (D : va_G) (cI cJ : ClassId) (x0 kc0 tc0 tp0 sh0 fd0 : Nat) (kf : Int32) (a0 k_ p_ t_ h_ w_ b_ g_ i_ f_ : Nat) (M F : Nat → Int32) (b : Nat) (x : Int32) (hI : hz_I b M) : hz_ME l yX3_delegate wsX3_delegate { frames := 2, cells := 0, slots := 0, locals := 44 } [.ref x0, .int (x)] D zcl [(cI, .int), (cJ, .long)] [(x0, .inr (3, [.ref a0, .ref kc0, .ref tc0, .ref tp0, .ref sh0, .ref fd0, .int (kf)])), (a0, .inr (0, [.int (M 0), .int (M 1), .ref k_, .ref p_, .ref t_, .ref h_, .ref w_, .int (M 2), .ref b_, .ref g_, .ref i_, .ref f_])), (k_, .inl (cI, 8, .inl (fun x_ => M (3 + 5 * x_)))), (p_, .inl (cI, 8, .inl (fun x_ => M (3 + 5 * x_ + 1)))), (t_, .inl (cI, 8, .inl (fun x_ => M (3 + 5 * x_ + 2)))), (h_, .inl (cI, 8, .inl (fun x_ => M (3 + 5 * x_ + 3)))), (w_, .inl (cI, 8, .inl (fun x_ => M (3 + 5 * x_ + 4)))), (b_, .inl (cI, 8, .inl (fun x_ => M (43 + 4 * x_)))), (g_, .inl (cI, 8, .inl (fun x_ => M (43 + 4 * x_ + 1)))), (i_, .inl (cI, 8, .inl (fun x_ => M (43 + 4 * x_ + 2)))), (f_, .inl (cI, 8, .inl (fun x_ => M (43 + 4 * x_ + 3)))), (fd0, .inl (cI, 7, .inl F))] [(x0, .inr (3, [.ref a0, .ref kc0, .ref tc0, .ref tp0, .ref sh0, .ref fd0, .int (kf)])), (a0, .inr (0, [.int ((sp_fM (fd_delegate M x) M (sp_add M x (nI 5) (nI 1))) 0), .int ((sp_fM (fd_delegate M x) M (sp_add M x (nI 5) (nI 1))) 1), .ref k_, .ref p_, .ref t_, .ref h_, .ref w_, .int ((sp_fM (fd_delegate M x) M (sp_add M x (nI 5) (nI 1))) 2), .ref b_, .ref g_, .ref i_, .ref f_])), (k_, .inl (cI, 8, .inl (fun x_ => (sp_fM (fd_delegate M x) M (sp_add M x (nI 5) (nI 1))) (3 + 5 * x_)))), (p_, .inl (cI, 8, .inl (fun x_ => (sp_fM (fd_delegate M x) M (sp_add M x (nI 5) (nI 1))) (3 + 5 * x_ + 1)))), (t_, .inl (cI, 8, .inl (fun x_ => (sp_fM (fd_delegate M x) M (sp_add M x (nI 5) (nI 1))) (3 + 5 * x_ + 2)))), (h_, .inl (cI, 8, .inl (fun x_ => (sp_fM (fd_delegate M x) M (sp_add M x (nI 5) (nI 1))) (3 + 5 * x_ + 3)))), (w_, .inl (cI, 8, .inl (fun x_ => (sp_fM (fd_delegate M x) M (sp_add M x (nI 5) (nI 1))) (3 + 5 * x_ + 4)))), (b_, .inl (cI, 8, .inl (fun x_ => (sp_fM (fd_delegate M x) M (sp_add M x (nI 5) (nI 1))) (43 + 4 * x_)))), (g_, .inl (cI, 8, .inl (fun x_ => (sp_fM (fd_delegate M x) M (sp_add M x (nI 5) (nI 1))) (43 + 4 * x_ + 1)))), (i_, .inl (cI, 8, .inl (fun x_ => (sp_fM (fd_delegate M x) M (sp_add M x (nI 5) (nI 1))) (43 + 4 * x_ + 2)))), (f_, .inl (cI, 8, .inl (fun x_ => (sp_fM (fd_delegate M x) M (sp_add M x (nI 5) (nI 1))) (43 + 4 * x_ + 3)))), (fd0, .inl (cI, 7, .inl (sp_ff F (fd_delegate M x))))] (some (.int (sp_fr (fd_delegate M x) (nI (nD M))))) := by
  refine hz_me (cc := cX3_delegate) (maxL := 2) (ret := (some .int)) (by decide) rfl (Nat.le_of_ble_eq_true rfl) ?_
  intro p e s m below meth c hx hb hr hts hown hlocks hml hP hK hD ls hl
  have hS : va_S (hz_a [(x0, .inr (3, [.ref a0, .ref kc0, .ref tc0, .ref tp0, .ref sh0, .ref fd0, .int (kf)])), (a0, .inr (0, [.int (M 0), .int (M 1), .ref k_, .ref p_, .ref t_, .ref h_, .ref w_, .int (M 2), .ref b_, .ref g_, .ref i_, .ref f_])), (k_, .inl (cI, 8, .inl (fun x_ => M (3 + 5 * x_)))), (p_, .inl (cI, 8, .inl (fun x_ => M (3 + 5 * x_ + 1)))), (t_, .inl (cI, 8, .inl (fun x_ => M (3 + 5 * x_ + 2)))), (h_, .inl (cI, 8, .inl (fun x_ => M (3 + 5 * x_ + 3)))), (w_, .inl (cI, 8, .inl (fun x_ => M (3 + 5 * x_ + 4)))), (b_, .inl (cI, 8, .inl (fun x_ => M (43 + 4 * x_)))), (g_, .inl (cI, 8, .inl (fun x_ => M (43 + 4 * x_ + 1)))), (i_, .inl (cI, 8, .inl (fun x_ => M (43 + 4 * x_ + 2)))), (f_, .inl (cI, 8, .inl (fun x_ => M (43 + 4 * x_ + 3)))), (fd0, .inl (cI, 7, .inl F))]) s.heap s.heap [] := va_S.rf
  have hown : s.vm.findClass RX3 = some m.cls := hown
  have hl : lv_has ls 2 [(0, .ref x0), (1, .int (x))] := hl
  have hinX0 : ∀ w ∈ u_ws RX0 TX0 12, w ∈ wsX3_delegate := fun w h => List.mem_cons_of_mem _ (List.mem_append_right _ (h))
  have hinX3 : ∀ w ∈ u_ws RX3 TX3 7, w ∈ wsX3_delegate := fun w h => List.mem_cons_of_mem _ (List.mem_append_left _ (List.mem_append_right _ (h)))
  have wd1 := hts (.constant RX3 48 (-1000000001)) (List.mem_of_getElem? (i := 1) rfl)
  have wd2 := hts (.fieldLink RX3 10 "HurtSpeech" "live" "LHurtSpeech$Congress;") (List.mem_of_getElem? (i := 2) rfl)
  have wd3 := hts (.fieldLink RX3 53 "HurtSpeech$Congress" "delegates" "I") (List.mem_of_getElem? (i := 3) rfl)
  have wd4 := hts (.constant RX3 57 (-1000000002)) (List.mem_of_getElem? (i := 4) rfl)
  obtain ⟨⟨hM0, hTb, hM1, hD8, hM2, hS8⟩, hID, hIS⟩ := id hI
  refine lv_iload_n hx hb dX3_delegate_0 rfl (lv_at hl 1 rfl) ?_
  refine lv_iconst (v := nI 0) hx hb dX3_delegate_1 (by decide) ?_
  refine lv_iconst (v := nI 5) hx hb dX3_delegate_2 (by decide) ?_
  refine hz_cs (As := [.int (x), .int (nI 0), .int (nI 5)]) (rest := []) ⟨hx, hb, hml, hown, hts⟩ (c3_isWithin l D cI cJ (x := x) (a := nI 0) (b := nI 5) ) (va_cwS 3 hts gX3_delegate_X3_isWithin rfl rfl rfl (by decide +kernel) ⟨Nat.le_of_ble_eq_true rfl, Nat.le_of_ble_eq_true rfl⟩) hK hP [] rfl [0, 1] rfl rfl hl.1 rfl (Nat.le_of_ble_eq_true rfl) dX3_delegate_3 ⟨Nat.zero_le _, Nat.zero_le _⟩ ?_
  refine hz_ifb_ne (tgt := 16) hx hb dX3_delegate_6 (by decide) (fun c6 => ?_) (fun c6 => ?_)
  · refine lv_aload_n hx hb dX3_delegate_16 rfl (lv_at hl 0 rfl) ?_
    refine va_get hx hb hts hinX3 hown hK hP 0 rfl rfl 0 (by decide) wd2 (fun _ h => h) rfl dX3_delegate_17 ?_
    refine va_get hx hb hts hinX0 hown hK hP 1 rfl rfl 1 (by decide) wd3 (fun _ h => h) rfl dX3_delegate_20 ?_
    refine hz_ct (y := nI (nD M)) hM1 ?_
    refine lv_bipush (v := nI 8) hx hb dX3_delegate_23 (by decide) ?_
    refine hz_icmp_lt (tgt := 35) (by omega) (by omega) hx hb dX3_delegate_25 (by decide) (fun c25 => ?_) (fun c25 => ?_)
    · refine lv_aload_n hx hb dX3_delegate_35 rfl (lv_at hl 0 rfl) ?_
      refine va_get hx hb hts hinX3 hown hK hP 0 rfl rfl 0 (by decide) wd2 (fun _ h => h) rfl dX3_delegate_36 ?_
      refine lv_iload_n hx hb dX3_delegate_39 rfl (lv_at hl 1 rfl) ?_
      refine hz_ce (As := [.int (x)]) (rest := []) ⟨hx, hb, hml, hown, hts⟩ (c0_addDelegate l D cI cJ (a0 := a0) (k_ := k_) (p_ := p_) (t_ := t_) (h_ := h_) (w_ := w_) (b_ := b_) (g_ := g_) (i_ := i_) (f_ := f_) (M := M) (k := x) (hM1 := by first | assumption | rfl) (hD8 := by first | assumption | rfl) (hlt := by omega)) (cwV 1 hts gX3_delegate_X0_addDelegate rfl rfl rfl (by decide +kernel) ⟨Nat.le_of_ble_eq_true rfl, Nat.le_of_ble_eq_true rfl⟩) hK hP hD hS [1, 2, 3, 4, 5, 6, 7, 8, 9, 10] rfl (by decide) rfl (w' := [(x0, .inr (3, [.ref a0, .ref kc0, .ref tc0, .ref tp0, .ref sh0, .ref fd0, .int (kf)])), (a0, .inr (0, [.int ((sp_add M x (nI 5) (nI 1)) 0), .int ((sp_add M x (nI 5) (nI 1)) 1), .ref k_, .ref p_, .ref t_, .ref h_, .ref w_, .int ((sp_add M x (nI 5) (nI 1)) 2), .ref b_, .ref g_, .ref i_, .ref f_])), (k_, .inl (cI, 8, .inl (fun x_ => (sp_add M x (nI 5) (nI 1)) (3 + 5 * x_)))), (p_, .inl (cI, 8, .inl (fun x_ => (sp_add M x (nI 5) (nI 1)) (3 + 5 * x_ + 1)))), (t_, .inl (cI, 8, .inl (fun x_ => (sp_add M x (nI 5) (nI 1)) (3 + 5 * x_ + 2)))), (h_, .inl (cI, 8, .inl (fun x_ => (sp_add M x (nI 5) (nI 1)) (3 + 5 * x_ + 3)))), (w_, .inl (cI, 8, .inl (fun x_ => (sp_add M x (nI 5) (nI 1)) (3 + 5 * x_ + 4)))), (b_, .inl (cI, 8, .inl (fun x_ => (sp_add M x (nI 5) (nI 1)) (43 + 4 * x_)))), (g_, .inl (cI, 8, .inl (fun x_ => (sp_add M x (nI 5) (nI 1)) (43 + 4 * x_ + 1)))), (i_, .inl (cI, 8, .inl (fun x_ => (sp_add M x (nI 5) (nI 1)) (43 + 4 * x_ + 2)))), (f_, .inl (cI, 8, .inl (fun x_ => (sp_add M x (nI 5) (nI 1)) (43 + 4 * x_ + 3)))), (fd0, .inl (cI, 7, .inl F))]) rfl [0, 1] rfl 1 rfl rfl rfl rfl hl.1 rfl (Nat.le_of_ble_eq_true rfl) dX3_delegate_40 ⟨Nat.zero_le _, Nat.zero_le _⟩ (fun H locs hP hD hS => ?_)
      refine W.eq (g2 := F0 m 43 ls [.int (nI (nD M))]) rfl ?_
      refine hz_ei hx hb hr hlocks rfl ?_ hS (by rw [show fd_delegate M x = none from (if_pos c6).trans (if_neg (Nat.ne_of_lt c25))]; exact fr_n rfl) dX3_delegate_43
      rw [show fd_delegate M x = none from (if_pos c6).trans (if_neg (Nat.ne_of_lt c25))]
      exact hP
    · refine lv_aload_n hx hb dX3_delegate_28 rfl (lv_at hl 0 rfl) ?_
      refine lv_ldc (v := -1000000002) hx hb hown wd4 dX3_delegate_29 ?_
      refine hz_ce (As := [.int (-1000000002)]) (rest := []) ⟨hx, hb, hml, hown, hts⟩ (c3_found l D cI cJ (x0 := x0) (a0 := a0) (kc0 := kc0) (tc0 := tc0) (tp0 := tp0) (sh0 := sh0) (fd0 := fd0) (kf := kf) (F := F) (f := -1000000002) (k := 1) (hk := by omega) (hfk := by decide)) (cwV 1 hts gX3_delegate_X3_found rfl rfl rfl (by decide +kernel) ⟨Nat.le_of_ble_eq_true rfl, Nat.le_of_ble_eq_true rfl⟩) hK hP hD hS [0, 11] rfl (by decide) rfl (w' := [(x0, .inr (3, [.ref a0, .ref kc0, .ref tc0, .ref tp0, .ref sh0, .ref fd0, .int (kf)])), (a0, .inr (0, [.int (M 0), .int (M 1), .ref k_, .ref p_, .ref t_, .ref h_, .ref w_, .int (M 2), .ref b_, .ref g_, .ref i_, .ref f_])), (k_, .inl (cI, 8, .inl (fun x_ => M (3 + 5 * x_)))), (p_, .inl (cI, 8, .inl (fun x_ => M (3 + 5 * x_ + 1)))), (t_, .inl (cI, 8, .inl (fun x_ => M (3 + 5 * x_ + 2)))), (h_, .inl (cI, 8, .inl (fun x_ => M (3 + 5 * x_ + 3)))), (w_, .inl (cI, 8, .inl (fun x_ => M (3 + 5 * x_ + 4)))), (b_, .inl (cI, 8, .inl (fun x_ => M (43 + 4 * x_)))), (g_, .inl (cI, 8, .inl (fun x_ => M (43 + 4 * x_ + 1)))), (i_, .inl (cI, 8, .inl (fun x_ => M (43 + 4 * x_ + 2)))), (f_, .inl (cI, 8, .inl (fun x_ => M (43 + 4 * x_ + 3)))), (fd0, .inl (cI, 7, .inl (sp_fd F 1)))]) rfl [0, 1] rfl 0 rfl rfl rfl rfl hl.1 rfl (Nat.le_of_ble_eq_true rfl) dX3_delegate_31 ⟨Nat.zero_le _, Nat.zero_le _⟩ (fun H locs hP hD hS => ?_)
      refine W.eq (g2 := F0 m 34 ls [.int ((-1000000002))]) rfl ?_
      refine hz_ei hx hb hr hlocks rfl ?_ hS (by rw [show fd_delegate M x = some 1 from (if_pos c6).trans (if_pos (Nat.le_antisymm hD8 c25))]; rfl) dX3_delegate_34
      rw [show fd_delegate M x = some 1 from (if_pos c6).trans (if_pos (Nat.le_antisymm hD8 c25))]
      exact hP
  · refine lv_aload_n hx hb dX3_delegate_9 rfl (lv_at hl 0 rfl) ?_
    refine lv_ldc (v := -1000000001) hx hb hown wd1 dX3_delegate_10 ?_
    refine hz_ce (As := [.int (-1000000001)]) (rest := []) ⟨hx, hb, hml, hown, hts⟩ (c3_found l D cI cJ (x0 := x0) (a0 := a0) (kc0 := kc0) (tc0 := tc0) (tp0 := tp0) (sh0 := sh0) (fd0 := fd0) (kf := kf) (F := F) (f := -1000000001) (k := 0) (hk := by omega) (hfk := by decide)) (cwV 1 hts gX3_delegate_X3_found rfl rfl rfl (by decide +kernel) ⟨Nat.le_of_ble_eq_true rfl, Nat.le_of_ble_eq_true rfl⟩) hK hP hD hS [0, 11] rfl (by decide) rfl (w' := [(x0, .inr (3, [.ref a0, .ref kc0, .ref tc0, .ref tp0, .ref sh0, .ref fd0, .int (kf)])), (a0, .inr (0, [.int (M 0), .int (M 1), .ref k_, .ref p_, .ref t_, .ref h_, .ref w_, .int (M 2), .ref b_, .ref g_, .ref i_, .ref f_])), (k_, .inl (cI, 8, .inl (fun x_ => M (3 + 5 * x_)))), (p_, .inl (cI, 8, .inl (fun x_ => M (3 + 5 * x_ + 1)))), (t_, .inl (cI, 8, .inl (fun x_ => M (3 + 5 * x_ + 2)))), (h_, .inl (cI, 8, .inl (fun x_ => M (3 + 5 * x_ + 3)))), (w_, .inl (cI, 8, .inl (fun x_ => M (3 + 5 * x_ + 4)))), (b_, .inl (cI, 8, .inl (fun x_ => M (43 + 4 * x_)))), (g_, .inl (cI, 8, .inl (fun x_ => M (43 + 4 * x_ + 1)))), (i_, .inl (cI, 8, .inl (fun x_ => M (43 + 4 * x_ + 2)))), (f_, .inl (cI, 8, .inl (fun x_ => M (43 + 4 * x_ + 3)))), (fd0, .inl (cI, 7, .inl (sp_fd F 0)))]) rfl [0, 1] rfl 0 rfl rfl rfl rfl hl.1 rfl (Nat.le_of_ble_eq_true rfl) dX3_delegate_12 ⟨Nat.zero_le _, Nat.zero_le _⟩ (fun H locs hP hD hS => ?_)
    refine W.eq (g2 := F0 m 15 ls [.int ((-1000000001))]) rfl ?_
    refine hz_ei hx hb hr hlocks rfl ?_ hS (by rw [show fd_delegate M x = some 0 from if_neg c6]; rfl) dX3_delegate_15
    rw [show fd_delegate M x = some 0 from if_neg c6]
    exact hP
set_option maxHeartbeats 4000000 in
set_option maxRecDepth 100000 in
theorem c4_of (l : Launch) (D : va_G) (cI cJ : ClassId) (h0 am af : Nat) (fs : List Value) (M F : Nat → Int32) (b : Nat) (d w : Int32) (hf : fs[0]? = some (.ref am)) (hf4 : fs[4]? = some (.ref af)) (hI : hz_I b M) : hz_ME l yX4_of wsX4_of { frames := 2, cells := 0, slots := 0, locals := 44 } [.ref h0, .int (d), .int (w)] D zcl [(cI, .int), (cJ, .long)] [(h0, .inr (4, fs)), (am, .inl (cI, 75, .inl M)), (af, .inl (cI, 7, .inl F))] [(h0, .inr (4, fs)), (am, .inl (cI, 75, .inl M)), (af, .inl (cI, 7, .inl (sp_ff F (fd_of M d w))))] (some (.int (sp_fr (fd_of M d w) (sp_ofv M d w)))) := by
  refine hz_me (cc := cX4_of) (maxL := 3) (ret := (some .int)) (by decide) rfl (Nat.le_of_ble_eq_true rfl) ?_
  intro p e s m below meth c hx hb hr hts hown hlocks hml hP hK hD ls hl
  have hS : va_S (hz_a [(h0, .inr (4, fs)), (am, .inl (cI, 75, .inl M)), (af, .inl (cI, 7, .inl F))]) s.heap s.heap [] := va_S.rf
  have hown : s.vm.findClass RX4 = some m.cls := hown
  have hl : lv_has ls 3 [(0, .ref h0), (1, .int (d)), (2, .int (w))] := hl
  have wd1 := hts (.constant RX4 35 (-1000000001)) (List.mem_of_getElem? (i := 1) rfl)
  obtain ⟨⟨hM0, hTb, hM1, hD8, hM2, hS8⟩, hID, hIS⟩ := id hI
  refine lv_aload_n hx hb dX4_of_0 rfl (lv_at hl 0 rfl) ?_
  refine lv_iload_n hx hb dX4_of_1 rfl (lv_at hl 1 rfl) ?_
  refine hz_cv (As := [.int (d)]) (rest := []) ⟨hx, hb, hml, hown, hts⟩ (c4_isThere l D cI cJ (h0 := h0) (am := am) (fs := fs) (M := M) (x := d) (hf := by first | assumption | rfl) (hM1 := by first | assumption | rfl) (hD8 := by first | assumption | rfl)) (cwV 1 hts gX4_of_X4_isThere rfl rfl rfl (by decide +kernel) ⟨Nat.le_of_ble_eq_true rfl, Nat.le_of_ble_eq_true rfl⟩) hK hP [0, 1] rfl [0, 1] rfl 0 rfl rfl rfl rfl hl.1 rfl (Nat.le_of_ble_eq_true rfl) dX4_of_2 ⟨Nat.zero_le _, Nat.zero_le _⟩ ?_
  refine hz_ifb_eq (tgt := 18) hx hb dX4_of_5 (by decide) (fun c5 => ?_) (fun c5 => ?_)
  · refine lv_aload_n hx hb dX4_of_18 rfl (lv_at hl 0 rfl) ?_
    refine lv_ldc (v := -1000000001) hx hb hown wd1 dX4_of_19 ?_
    refine hz_ce (As := [.int (-1000000001)]) (rest := []) ⟨hx, hb, hml, hown, hts⟩ (c4_finds l D cI cJ (h0 := h0) (af := af) (fs := fs) (F := F) (f := -1000000001) (k := 0) (hf := by first | assumption | rfl) (hk := by omega) (hfk := by decide)) (cwV 1 hts gX4_of_X4_finds rfl rfl rfl (by decide +kernel) ⟨Nat.le_of_ble_eq_true rfl, Nat.le_of_ble_eq_true rfl⟩) hK hP hD hS [0, 2] rfl (by decide) rfl (w' := [(h0, .inr (4, fs)), (am, .inl (cI, 75, .inl M)), (af, .inl (cI, 7, .inl (sp_fd F 0)))]) rfl [0, 1] rfl 0 rfl rfl rfl rfl hl.1 rfl (Nat.le_of_ble_eq_true rfl) dX4_of_21 ⟨Nat.zero_le _, Nat.zero_le _⟩ (fun H locs hP hD hS => ?_)
    refine W.eq (g2 := F0 m 24 ls [.int ((-1000000001))]) rfl ?_
    refine hz_ei hx hb hr hlocks rfl ?_ hS (by rw [show fd_of M d w = some 0 from if_neg c5]; rfl) dX4_of_24
    rw [show fd_of M d w = some 0 from if_neg c5]
    exact hP
  · refine lv_iload_n hx hb dX4_of_8 rfl (lv_at hl 2 rfl) ?_
    refine lv_i2l (v := w.toInt64) hx hb dX4_of_9 rfl ?_
    refine lv_iconst (v := nI 0) hx hb dX4_of_10 (by decide) ?_
    refine lv_iconst (v := nI 5) hx hb dX4_of_11 (by decide) ?_
    refine hz_cs (As := [.long (w.toInt64), .int (nI 0), .int (nI 5)]) (rest := []) ⟨hx, hb, hml, hown, hts⟩ (c4_in32 l D cI cJ (x := w) (a := nI 0) (b := nI 5) ) (va_cwS 3 hts gX4_of_X4_in rfl rfl rfl (by decide +kernel) ⟨Nat.le_of_ble_eq_true rfl, Nat.le_of_ble_eq_true rfl⟩) hK hP [] rfl [0, 1] rfl rfl hl.1 rfl (Nat.le_of_ble_eq_true rfl) dX4_of_12 ⟨Nat.zero_le _, Nat.zero_le _⟩ ?_
    refine hz_ifb_ne (tgt := 25) hx hb dX4_of_15 (by decide) (fun c15 => ?_) (fun c15 => ?_)
    · obtain ⟨j, hj, rfl⟩ := hz_in_of c5 (by omega)
      obtain ⟨i, hi0, hi, rfl⟩ := hz_rg (by decide) (by decide) c15
      refine lv_iload_n hx hb dX4_of_25 rfl (lv_at hl 2 rfl) ?_
      refine lv_iconst (v := nI 5) hx hb dX4_of_26 (by decide) ?_
      refine hz_icmp_ge (tgt := 39) (by omega) (by omega) hx hb dX4_of_27 (by decide) (fun c27 => ?_) (fun c27 => ?_)
      · refine lv_aload_n hx hb dX4_of_39 rfl (lv_at hl 0 rfl) ?_
        refine lv_iload_n hx hb dX4_of_40 rfl (lv_at hl 1 rfl) ?_
        refine hz_cv (As := [.int (nI j)]) (rest := []) ⟨hx, hb, hml, hown, hts⟩ (c4_doesWeep l D cI cJ (h0 := h0) (am := am) (fs := fs) (M := M) (d := j) (hf := by first | assumption | rfl) (hd := by omega)) (cwV 1 hts gX4_of_X4_doesWeep rfl rfl rfl (by decide +kernel) ⟨Nat.le_of_ble_eq_true rfl, Nat.le_of_ble_eq_true rfl⟩) hK hP [0, 1] rfl [0, 1] rfl 0 rfl rfl rfl rfl hl.1 rfl (Nat.le_of_ble_eq_true rfl) dX4_of_41 ⟨Nat.zero_le _, Nat.zero_le _⟩ ?_
        refine lv_if_eq (tgt := 51) hx hb dX4_of_44 (by decide) (fun c44 => ?_) (fun c44 => ?_)
        · refine lv_iconst (v := nI 0) hx hb dX4_of_51 (by decide) ?_
          refine hz_ei hx hb hr hlocks rfl ?_ hS (by rw [show fd_of M (nI j) (nI i) = none from (if_pos c5).trans (if_pos c15)]; exact fr_n ((show nI 0 = sp_wk M j from c44.symm).trans (ofv_2 (by omega) c27 hi))) dX4_of_52
          rw [show fd_of M (nI j) (nI i) = none from (if_pos c5).trans (if_pos c15)]
          exact hP
        · refine lv_iconst (v := nI 1) hx hb dX4_of_47 (by decide) ?_
          refine lv_goto (tgt := 52) hx hb dX4_of_48 (by decide) ?_
          refine hz_ei hx hb hr hlocks rfl ?_ hS (by rw [show fd_of M (nI j) (nI i) = none from (if_pos c5).trans (if_pos c15)]; exact fr_n ((sp_wk_1 c44).symm.trans (ofv_2 (by omega) c27 hi))) dX4_of_52
          rw [show fd_of M (nI j) (nI i) = none from (if_pos c5).trans (if_pos c15)]
          exact hP
      · refine lv_aload_n hx hb dX4_of_30 rfl (lv_at hl 0 rfl) ?_
        refine lv_iload_n hx hb dX4_of_31 rfl (lv_at hl 1 rfl) ?_
        refine lv_iload_n hx hb dX4_of_32 rfl (lv_at hl 2 rfl) ?_
        refine hz_cv (As := [.int (nI j), .int (nI i)]) (rest := []) ⟨hx, hb, hml, hown, hts⟩ (c4_it l D cI cJ (h0 := h0) (am := am) (fs := fs) (M := M) (d := j) (w := i) (hf := by first | assumption | rfl) (hd := by omega) (hw := by omega)) (cwV 2 hts gX4_of_X4_it rfl rfl rfl (by decide +kernel) ⟨Nat.le_of_ble_eq_true rfl, Nat.le_of_ble_eq_true rfl⟩) hK hP [0, 1] rfl [0, 1] rfl 0 rfl rfl rfl rfl hl.1 rfl (Nat.le_of_ble_eq_true rfl) dX4_of_33 ⟨Nat.zero_le _, Nat.zero_le _⟩ ?_
        refine lv_goto (tgt := 52) hx hb dX4_of_36 (by decide) ?_
        refine hz_ei hx hb hr hlocks rfl ?_ hS (by rw [show fd_of M (nI j) (nI i) = none from (if_pos c5).trans (if_pos c15)]; exact fr_n (ofv_1 (by omega) (by omega))) dX4_of_52
        rw [show fd_of M (nI j) (nI i) = none from (if_pos c5).trans (if_pos c15)]
        exact hP
    · refine lv_aload_n hx hb dX4_of_18 rfl (lv_at hl 0 rfl) ?_
      refine lv_ldc (v := -1000000001) hx hb hown wd1 dX4_of_19 ?_
      refine hz_ce (As := [.int (-1000000001)]) (rest := []) ⟨hx, hb, hml, hown, hts⟩ (c4_finds l D cI cJ (h0 := h0) (af := af) (fs := fs) (F := F) (f := -1000000001) (k := 0) (hf := by first | assumption | rfl) (hk := by omega) (hfk := by decide)) (cwV 1 hts gX4_of_X4_finds rfl rfl rfl (by decide +kernel) ⟨Nat.le_of_ble_eq_true rfl, Nat.le_of_ble_eq_true rfl⟩) hK hP hD hS [0, 2] rfl (by decide) rfl (w' := [(h0, .inr (4, fs)), (am, .inl (cI, 75, .inl M)), (af, .inl (cI, 7, .inl (sp_fd F 0)))]) rfl [0, 1] rfl 0 rfl rfl rfl rfl hl.1 rfl (Nat.le_of_ble_eq_true rfl) dX4_of_21 ⟨Nat.zero_le _, Nat.zero_le _⟩ (fun H locs hP hD hS => ?_)
      refine W.eq (g2 := F0 m 24 ls [.int ((-1000000001))]) rfl ?_
      refine hz_ei hx hb hr hlocks rfl ?_ hS (by rw [show fd_of M d w = some 0 from (if_pos c5).trans (if_neg c15)]; rfl) dX4_of_24
      rw [show fd_of M d w = some 0 from (if_pos c5).trans (if_neg c15)]
      exact hP
set_option maxHeartbeats 4000000 in
set_option maxRecDepth 100000 in
theorem c3_of (l : Launch) (D : va_G) (cI cJ : ClassId) (x0 kc0 tc0 tp0 sh0 fd0 : Nat) (kf : Int32) (a0 k_ p_ t_ h_ w_ b_ g_ i_ f_ : Nat) (M F : Nat → Int32) (b : Nat) (d w : Int32) (hI : hz_I b M) : hz_ME l yX3_of wsX3_of { frames := 2, cells := 0, slots := 0, locals := 44 } [.ref x0, .int (d), .int (w)] D zcl [(cI, .int), (cJ, .long)] [(x0, .inr (3, [.ref a0, .ref kc0, .ref tc0, .ref tp0, .ref sh0, .ref fd0, .int (kf)])), (a0, .inr (0, [.int (M 0), .int (M 1), .ref k_, .ref p_, .ref t_, .ref h_, .ref w_, .int (M 2), .ref b_, .ref g_, .ref i_, .ref f_])), (k_, .inl (cI, 8, .inl (fun x_ => M (3 + 5 * x_)))), (p_, .inl (cI, 8, .inl (fun x_ => M (3 + 5 * x_ + 1)))), (t_, .inl (cI, 8, .inl (fun x_ => M (3 + 5 * x_ + 2)))), (h_, .inl (cI, 8, .inl (fun x_ => M (3 + 5 * x_ + 3)))), (w_, .inl (cI, 8, .inl (fun x_ => M (3 + 5 * x_ + 4)))), (b_, .inl (cI, 8, .inl (fun x_ => M (43 + 4 * x_)))), (g_, .inl (cI, 8, .inl (fun x_ => M (43 + 4 * x_ + 1)))), (i_, .inl (cI, 8, .inl (fun x_ => M (43 + 4 * x_ + 2)))), (f_, .inl (cI, 8, .inl (fun x_ => M (43 + 4 * x_ + 3)))), (fd0, .inl (cI, 7, .inl F))] [(x0, .inr (3, [.ref a0, .ref kc0, .ref tc0, .ref tp0, .ref sh0, .ref fd0, .int (kf)])), (a0, .inr (0, [.int (M 0), .int (M 1), .ref k_, .ref p_, .ref t_, .ref h_, .ref w_, .int (M 2), .ref b_, .ref g_, .ref i_, .ref f_])), (k_, .inl (cI, 8, .inl (fun x_ => M (3 + 5 * x_)))), (p_, .inl (cI, 8, .inl (fun x_ => M (3 + 5 * x_ + 1)))), (t_, .inl (cI, 8, .inl (fun x_ => M (3 + 5 * x_ + 2)))), (h_, .inl (cI, 8, .inl (fun x_ => M (3 + 5 * x_ + 3)))), (w_, .inl (cI, 8, .inl (fun x_ => M (3 + 5 * x_ + 4)))), (b_, .inl (cI, 8, .inl (fun x_ => M (43 + 4 * x_)))), (g_, .inl (cI, 8, .inl (fun x_ => M (43 + 4 * x_ + 1)))), (i_, .inl (cI, 8, .inl (fun x_ => M (43 + 4 * x_ + 2)))), (f_, .inl (cI, 8, .inl (fun x_ => M (43 + 4 * x_ + 3)))), (fd0, .inl (cI, 7, .inl (sp_ff F (fd_of M d w))))] (some (.int (sp_fr (fd_of M d w) (sp_ofv M d w)))) := by
  refine hz_me (cc := cX3_of) (maxL := 3) (ret := (some .int)) (by decide) rfl (Nat.le_of_ble_eq_true rfl) ?_
  intro p e s m below meth c hx hb hr hts hown hlocks hml hP hK hD ls hl
  have hS : va_S (hz_a [(x0, .inr (3, [.ref a0, .ref kc0, .ref tc0, .ref tp0, .ref sh0, .ref fd0, .int (kf)])), (a0, .inr (0, [.int (M 0), .int (M 1), .ref k_, .ref p_, .ref t_, .ref h_, .ref w_, .int (M 2), .ref b_, .ref g_, .ref i_, .ref f_])), (k_, .inl (cI, 8, .inl (fun x_ => M (3 + 5 * x_)))), (p_, .inl (cI, 8, .inl (fun x_ => M (3 + 5 * x_ + 1)))), (t_, .inl (cI, 8, .inl (fun x_ => M (3 + 5 * x_ + 2)))), (h_, .inl (cI, 8, .inl (fun x_ => M (3 + 5 * x_ + 3)))), (w_, .inl (cI, 8, .inl (fun x_ => M (3 + 5 * x_ + 4)))), (b_, .inl (cI, 8, .inl (fun x_ => M (43 + 4 * x_)))), (g_, .inl (cI, 8, .inl (fun x_ => M (43 + 4 * x_ + 1)))), (i_, .inl (cI, 8, .inl (fun x_ => M (43 + 4 * x_ + 2)))), (f_, .inl (cI, 8, .inl (fun x_ => M (43 + 4 * x_ + 3)))), (fd0, .inl (cI, 7, .inl F))]) s.heap s.heap [] := va_S.rf
  have hown : s.vm.findClass RX3 = some m.cls := hown
  have hl : lv_has ls 3 [(0, .ref x0), (1, .int (d)), (2, .int (w))] := hl
  have hinX3 : ∀ w ∈ u_ws RX3 TX3 7, w ∈ wsX3_of := fun w h => List.mem_cons_of_mem _ (List.mem_append_left _ (List.mem_append_right _ (h)))
  have wd1 := hts (.fieldLink RX3 10 "HurtSpeech" "live" "LHurtSpeech$Congress;") (List.mem_of_getElem? (i := 1) rfl)
  have wd2 := hts (.constant RX3 48 (-1000000001)) (List.mem_of_getElem? (i := 2) rfl)
  obtain ⟨⟨hM0, hTb, hM1, hD8, hM2, hS8⟩, hID, hIS⟩ := id hI
  refine lv_aload_n hx hb dX3_of_0 rfl (lv_at hl 0 rfl) ?_
  refine va_get hx hb hts hinX3 hown hK hP 0 rfl rfl 0 (by decide) wd1 (fun _ h => h) rfl dX3_of_1 ?_
  refine lv_iload_n hx hb dX3_of_4 rfl (lv_at hl 1 rfl) ?_
  refine hz_cv (As := [.int (d)]) (rest := []) ⟨hx, hb, hml, hown, hts⟩ (c0_hasDelegate l D cI cJ (a0 := a0) (k_ := k_) (p_ := p_) (t_ := t_) (h_ := h_) (w_ := w_) (b_ := b_) (g_ := g_) (i_ := i_) (f_ := f_) (M := M) (x := d) (hM1 := by first | assumption | rfl) (hD8 := by first | assumption | rfl)) (cwV 1 hts gX3_of_X0_hasDelegate rfl rfl rfl (by decide +kernel) ⟨Nat.le_of_ble_eq_true rfl, Nat.le_of_ble_eq_true rfl⟩) hK hP [1] rfl [0, 1] rfl 1 rfl rfl rfl rfl hl.1 rfl (Nat.le_of_ble_eq_true rfl) dX3_of_5 ⟨Nat.zero_le _, Nat.zero_le _⟩ ?_
  refine hz_ifb_eq (tgt := 20) hx hb dX3_of_8 (by decide) (fun c8 => ?_) (fun c8 => ?_)
  · refine lv_aload_n hx hb dX3_of_20 rfl (lv_at hl 0 rfl) ?_
    refine lv_ldc (v := -1000000001) hx hb hown wd2 dX3_of_21 ?_
    refine hz_ce (As := [.int (-1000000001)]) (rest := []) ⟨hx, hb, hml, hown, hts⟩ (c3_found l D cI cJ (x0 := x0) (a0 := a0) (kc0 := kc0) (tc0 := tc0) (tp0 := tp0) (sh0 := sh0) (fd0 := fd0) (kf := kf) (F := F) (f := -1000000001) (k := 0) (hk := by omega) (hfk := by decide)) (cwV 1 hts gX3_of_X3_found rfl rfl rfl (by decide +kernel) ⟨Nat.le_of_ble_eq_true rfl, Nat.le_of_ble_eq_true rfl⟩) hK hP hD hS [0, 11] rfl (by decide) rfl (w' := [(x0, .inr (3, [.ref a0, .ref kc0, .ref tc0, .ref tp0, .ref sh0, .ref fd0, .int (kf)])), (a0, .inr (0, [.int (M 0), .int (M 1), .ref k_, .ref p_, .ref t_, .ref h_, .ref w_, .int (M 2), .ref b_, .ref g_, .ref i_, .ref f_])), (k_, .inl (cI, 8, .inl (fun x_ => M (3 + 5 * x_)))), (p_, .inl (cI, 8, .inl (fun x_ => M (3 + 5 * x_ + 1)))), (t_, .inl (cI, 8, .inl (fun x_ => M (3 + 5 * x_ + 2)))), (h_, .inl (cI, 8, .inl (fun x_ => M (3 + 5 * x_ + 3)))), (w_, .inl (cI, 8, .inl (fun x_ => M (3 + 5 * x_ + 4)))), (b_, .inl (cI, 8, .inl (fun x_ => M (43 + 4 * x_)))), (g_, .inl (cI, 8, .inl (fun x_ => M (43 + 4 * x_ + 1)))), (i_, .inl (cI, 8, .inl (fun x_ => M (43 + 4 * x_ + 2)))), (f_, .inl (cI, 8, .inl (fun x_ => M (43 + 4 * x_ + 3)))), (fd0, .inl (cI, 7, .inl (sp_fd F 0)))]) rfl [0, 1] rfl 0 rfl rfl rfl rfl hl.1 rfl (Nat.le_of_ble_eq_true rfl) dX3_of_23 ⟨Nat.zero_le _, Nat.zero_le _⟩ (fun H locs hP hD hS => ?_)
    refine W.eq (g2 := F0 m 26 ls [.int ((-1000000001))]) rfl ?_
    refine hz_ei hx hb hr hlocks rfl ?_ hS (by rw [show fd_of M d w = some 0 from if_neg c8]; rfl) dX3_of_26
    rw [show fd_of M d w = some 0 from if_neg c8]
    exact hP
  · refine lv_iload_n hx hb dX3_of_11 rfl (lv_at hl 2 rfl) ?_
    refine lv_iconst (v := nI 0) hx hb dX3_of_12 (by decide) ?_
    refine lv_iconst (v := nI 5) hx hb dX3_of_13 (by decide) ?_
    refine hz_cs (As := [.int (w), .int (nI 0), .int (nI 5)]) (rest := []) ⟨hx, hb, hml, hown, hts⟩ (c3_isWithin l D cI cJ (x := w) (a := nI 0) (b := nI 5) ) (va_cwS 3 hts gX3_of_X3_isWithin rfl rfl rfl (by decide +kernel) ⟨Nat.le_of_ble_eq_true rfl, Nat.le_of_ble_eq_true rfl⟩) hK hP [] rfl [0, 1] rfl rfl hl.1 rfl (Nat.le_of_ble_eq_true rfl) dX3_of_14 ⟨Nat.zero_le _, Nat.zero_le _⟩ ?_
    refine hz_ifb_ne (tgt := 27) hx hb dX3_of_17 (by decide) (fun c17 => ?_) (fun c17 => ?_)
    · obtain ⟨j, hj, rfl⟩ := hz_in_of c8 (by omega)
      obtain ⟨i, hi0, hi, rfl⟩ := hz_rg (by decide) (by decide) c17
      rcases (show i = 0 ∨ i = 1 ∨ i = 2 ∨ i = 3 ∨ i = 4 ∨ i = 5 by omega) with rfl | rfl | rfl | rfl | rfl | rfl
      · refine lv_iload_n hx hb dX3_of_27 rfl (lv_at hl 2 rfl) ?_
        refine lv_iconst (v := nI 5) hx hb dX3_of_28 (by decide) ?_
        refine hz_icmp_ne (tgt := 49) (by omega) (by omega) hx hb dX3_of_29 (by decide) (fun _ => ?_) (fun h => absurd h (by first | decide | omega | exact hz_nneg (by omega) | exact hz_nneg' (by omega)))
        refine lv_aload_n hx hb dX3_of_49 rfl (lv_at hl 0 rfl) ?_
        refine va_get hx hb hts hinX3 hown hK hP 0 rfl rfl 0 (by decide) wd1 (fun _ h => h) rfl dX3_of_50 ?_
        refine lv_iload_n hx hb dX3_of_53 rfl (lv_at hl 2 rfl) ?_
        refine hz_cv (As := [.int (nI 0)]) (rest := []) ⟨hx, hb, hml, hown, hts⟩ (c0_dr0 l D cI cJ (a0 := a0) (k_ := k_) (p_ := p_) (t_ := t_) (h_ := h_) (w_ := w_) (b_ := b_) (g_ := g_) (i_ := i_) (f_ := f_) (s0 := M 0) (d0 := M 1) (z0 := M 2) ) (cwV 1 hts gX3_of_X0_delegateRow rfl rfl rfl (by decide +kernel) ⟨Nat.le_of_ble_eq_true rfl, Nat.le_of_ble_eq_true rfl⟩) hK hP [1] rfl [0, 1] rfl 1 rfl rfl rfl rfl hl.1 rfl (Nat.le_of_ble_eq_true rfl) dX3_of_54 ⟨Nat.zero_le _, Nat.zero_le _⟩ ?_
        refine lv_iload_n hx hb dX3_of_57 rfl (lv_at hl 1 rfl) ?_
        refine hz_iald (j := j) hx hb hK hP 2 0 rfl rfl (by omega) (Nat.le_of_ble_eq_true rfl) dX3_of_58 ?_
        refine hz_ct (y := M (3 + 5 * j)) rfl ?_
        refine hz_ei hx hb hr hlocks rfl ?_ hS (by rw [show fd_of M (nI j) (nI _) = none from (if_pos c8).trans (if_pos c17)]; exact fr_n (ofv_1 (j := j) (i := 0) (by omega) (by omega))) dX3_of_59
        rw [show fd_of M (nI j) (nI _) = none from (if_pos c8).trans (if_pos c17)]
        exact hP
      · refine lv_iload_n hx hb dX3_of_27 rfl (lv_at hl 2 rfl) ?_
        refine lv_iconst (v := nI 5) hx hb dX3_of_28 (by decide) ?_
        refine hz_icmp_ne (tgt := 49) (by omega) (by omega) hx hb dX3_of_29 (by decide) (fun _ => ?_) (fun h => absurd h (by first | decide | omega | exact hz_nneg (by omega) | exact hz_nneg' (by omega)))
        refine lv_aload_n hx hb dX3_of_49 rfl (lv_at hl 0 rfl) ?_
        refine va_get hx hb hts hinX3 hown hK hP 0 rfl rfl 0 (by decide) wd1 (fun _ h => h) rfl dX3_of_50 ?_
        refine lv_iload_n hx hb dX3_of_53 rfl (lv_at hl 2 rfl) ?_
        refine hz_cv (As := [.int (nI 1)]) (rest := []) ⟨hx, hb, hml, hown, hts⟩ (c0_dr1 l D cI cJ (a0 := a0) (k_ := k_) (p_ := p_) (t_ := t_) (h_ := h_) (w_ := w_) (b_ := b_) (g_ := g_) (i_ := i_) (f_ := f_) (s0 := M 0) (d0 := M 1) (z0 := M 2) ) (cwV 1 hts gX3_of_X0_delegateRow rfl rfl rfl (by decide +kernel) ⟨Nat.le_of_ble_eq_true rfl, Nat.le_of_ble_eq_true rfl⟩) hK hP [1] rfl [0, 1] rfl 1 rfl rfl rfl rfl hl.1 rfl (Nat.le_of_ble_eq_true rfl) dX3_of_54 ⟨Nat.zero_le _, Nat.zero_le _⟩ ?_
        refine lv_iload_n hx hb dX3_of_57 rfl (lv_at hl 1 rfl) ?_
        refine hz_iald (j := j) hx hb hK hP 3 0 rfl rfl (by omega) (Nat.le_of_ble_eq_true rfl) dX3_of_58 ?_
        refine hz_ct (y := M (3 + 5 * j + 1)) rfl ?_
        refine hz_ei hx hb hr hlocks rfl ?_ hS (by rw [show fd_of M (nI j) (nI _) = none from (if_pos c8).trans (if_pos c17)]; exact fr_n (ofv_1 (j := j) (i := 1) (by omega) (by omega))) dX3_of_59
        rw [show fd_of M (nI j) (nI _) = none from (if_pos c8).trans (if_pos c17)]
        exact hP
      · refine lv_iload_n hx hb dX3_of_27 rfl (lv_at hl 2 rfl) ?_
        refine lv_iconst (v := nI 5) hx hb dX3_of_28 (by decide) ?_
        refine hz_icmp_ne (tgt := 49) (by omega) (by omega) hx hb dX3_of_29 (by decide) (fun _ => ?_) (fun h => absurd h (by first | decide | omega | exact hz_nneg (by omega) | exact hz_nneg' (by omega)))
        refine lv_aload_n hx hb dX3_of_49 rfl (lv_at hl 0 rfl) ?_
        refine va_get hx hb hts hinX3 hown hK hP 0 rfl rfl 0 (by decide) wd1 (fun _ h => h) rfl dX3_of_50 ?_
        refine lv_iload_n hx hb dX3_of_53 rfl (lv_at hl 2 rfl) ?_
        refine hz_cv (As := [.int (nI 2)]) (rest := []) ⟨hx, hb, hml, hown, hts⟩ (c0_dr2 l D cI cJ (a0 := a0) (k_ := k_) (p_ := p_) (t_ := t_) (h_ := h_) (w_ := w_) (b_ := b_) (g_ := g_) (i_ := i_) (f_ := f_) (s0 := M 0) (d0 := M 1) (z0 := M 2) ) (cwV 1 hts gX3_of_X0_delegateRow rfl rfl rfl (by decide +kernel) ⟨Nat.le_of_ble_eq_true rfl, Nat.le_of_ble_eq_true rfl⟩) hK hP [1] rfl [0, 1] rfl 1 rfl rfl rfl rfl hl.1 rfl (Nat.le_of_ble_eq_true rfl) dX3_of_54 ⟨Nat.zero_le _, Nat.zero_le _⟩ ?_
        refine lv_iload_n hx hb dX3_of_57 rfl (lv_at hl 1 rfl) ?_
        refine hz_iald (j := j) hx hb hK hP 4 0 rfl rfl (by omega) (Nat.le_of_ble_eq_true rfl) dX3_of_58 ?_
        refine hz_ct (y := M (3 + 5 * j + 2)) rfl ?_
        refine hz_ei hx hb hr hlocks rfl ?_ hS (by rw [show fd_of M (nI j) (nI _) = none from (if_pos c8).trans (if_pos c17)]; exact fr_n (ofv_1 (j := j) (i := 2) (by omega) (by omega))) dX3_of_59
        rw [show fd_of M (nI j) (nI _) = none from (if_pos c8).trans (if_pos c17)]
        exact hP
      · refine lv_iload_n hx hb dX3_of_27 rfl (lv_at hl 2 rfl) ?_
        refine lv_iconst (v := nI 5) hx hb dX3_of_28 (by decide) ?_
        refine hz_icmp_ne (tgt := 49) (by omega) (by omega) hx hb dX3_of_29 (by decide) (fun _ => ?_) (fun h => absurd h (by first | decide | omega | exact hz_nneg (by omega) | exact hz_nneg' (by omega)))
        refine lv_aload_n hx hb dX3_of_49 rfl (lv_at hl 0 rfl) ?_
        refine va_get hx hb hts hinX3 hown hK hP 0 rfl rfl 0 (by decide) wd1 (fun _ h => h) rfl dX3_of_50 ?_
        refine lv_iload_n hx hb dX3_of_53 rfl (lv_at hl 2 rfl) ?_
        refine hz_cv (As := [.int (nI 3)]) (rest := []) ⟨hx, hb, hml, hown, hts⟩ (c0_dr3 l D cI cJ (a0 := a0) (k_ := k_) (p_ := p_) (t_ := t_) (h_ := h_) (w_ := w_) (b_ := b_) (g_ := g_) (i_ := i_) (f_ := f_) (s0 := M 0) (d0 := M 1) (z0 := M 2) ) (cwV 1 hts gX3_of_X0_delegateRow rfl rfl rfl (by decide +kernel) ⟨Nat.le_of_ble_eq_true rfl, Nat.le_of_ble_eq_true rfl⟩) hK hP [1] rfl [0, 1] rfl 1 rfl rfl rfl rfl hl.1 rfl (Nat.le_of_ble_eq_true rfl) dX3_of_54 ⟨Nat.zero_le _, Nat.zero_le _⟩ ?_
        refine lv_iload_n hx hb dX3_of_57 rfl (lv_at hl 1 rfl) ?_
        refine hz_iald (j := j) hx hb hK hP 5 0 rfl rfl (by omega) (Nat.le_of_ble_eq_true rfl) dX3_of_58 ?_
        refine hz_ct (y := M (3 + 5 * j + 3)) rfl ?_
        refine hz_ei hx hb hr hlocks rfl ?_ hS (by rw [show fd_of M (nI j) (nI _) = none from (if_pos c8).trans (if_pos c17)]; exact fr_n (ofv_1 (j := j) (i := 3) (by omega) (by omega))) dX3_of_59
        rw [show fd_of M (nI j) (nI _) = none from (if_pos c8).trans (if_pos c17)]
        exact hP
      · refine lv_iload_n hx hb dX3_of_27 rfl (lv_at hl 2 rfl) ?_
        refine lv_iconst (v := nI 5) hx hb dX3_of_28 (by decide) ?_
        refine hz_icmp_ne (tgt := 49) (by omega) (by omega) hx hb dX3_of_29 (by decide) (fun _ => ?_) (fun h => absurd h (by first | decide | omega | exact hz_nneg (by omega) | exact hz_nneg' (by omega)))
        refine lv_aload_n hx hb dX3_of_49 rfl (lv_at hl 0 rfl) ?_
        refine va_get hx hb hts hinX3 hown hK hP 0 rfl rfl 0 (by decide) wd1 (fun _ h => h) rfl dX3_of_50 ?_
        refine lv_iload_n hx hb dX3_of_53 rfl (lv_at hl 2 rfl) ?_
        refine hz_cv (As := [.int (nI 4)]) (rest := []) ⟨hx, hb, hml, hown, hts⟩ (c0_dr4 l D cI cJ (a0 := a0) (k_ := k_) (p_ := p_) (t_ := t_) (h_ := h_) (w_ := w_) (b_ := b_) (g_ := g_) (i_ := i_) (f_ := f_) (s0 := M 0) (d0 := M 1) (z0 := M 2) ) (cwV 1 hts gX3_of_X0_delegateRow rfl rfl rfl (by decide +kernel) ⟨Nat.le_of_ble_eq_true rfl, Nat.le_of_ble_eq_true rfl⟩) hK hP [1] rfl [0, 1] rfl 1 rfl rfl rfl rfl hl.1 rfl (Nat.le_of_ble_eq_true rfl) dX3_of_54 ⟨Nat.zero_le _, Nat.zero_le _⟩ ?_
        refine lv_iload_n hx hb dX3_of_57 rfl (lv_at hl 1 rfl) ?_
        refine hz_iald (j := j) hx hb hK hP 6 0 rfl rfl (by omega) (Nat.le_of_ble_eq_true rfl) dX3_of_58 ?_
        refine hz_ct (y := M (3 + 5 * j + 4)) rfl ?_
        refine hz_ei hx hb hr hlocks rfl ?_ hS (by rw [show fd_of M (nI j) (nI _) = none from (if_pos c8).trans (if_pos c17)]; exact fr_n (ofv_1 (j := j) (i := 4) (by omega) (by omega))) dX3_of_59
        rw [show fd_of M (nI j) (nI _) = none from (if_pos c8).trans (if_pos c17)]
        exact hP
      · refine lv_iload_n hx hb dX3_of_27 rfl (lv_at hl 2 rfl) ?_
        refine lv_iconst (v := nI 5) hx hb dX3_of_28 (by decide) ?_
        refine hz_icmp_ne (tgt := 49) (by omega) (by omega) hx hb dX3_of_29 (by decide) (fun h => absurd h (by first | decide | omega | exact hz_nneg (by omega) | exact hz_nneg' (by omega))) (fun _ => ?_)
        refine lv_aload_n hx hb dX3_of_32 rfl (lv_at hl 0 rfl) ?_
        refine va_get hx hb hts hinX3 hown hK hP 0 rfl rfl 0 (by decide) wd1 (fun _ h => h) rfl dX3_of_33 ?_
        refine lv_iload_n hx hb dX3_of_36 rfl (lv_at hl 1 rfl) ?_
        refine hz_cv (As := [.int (nI j)]) (rest := []) ⟨hx, hb, hml, hown, hts⟩ (c0_wouldWeep l D cI cJ (a0 := a0) (k_ := k_) (p_ := p_) (t_ := t_) (h_ := h_) (w_ := w_) (b_ := b_) (g_ := g_) (i_ := i_) (f_ := f_) (M := M) (d0 := M 1) (z0 := M 2) (d := j) (hd := by omega)) (cwV 1 hts gX3_of_X0_wouldWeep rfl rfl rfl (by decide +kernel) ⟨Nat.le_of_ble_eq_true rfl, Nat.le_of_ble_eq_true rfl⟩) hK hP [1, 2, 3, 5] rfl [0, 1] rfl 1 rfl rfl rfl rfl hl.1 rfl (Nat.le_of_ble_eq_true rfl) dX3_of_37 ⟨Nat.zero_le _, Nat.zero_le _⟩ ?_
        refine lv_if_eq (tgt := 47) hx hb dX3_of_40 (by decide) (fun c40 => ?_) (fun c40 => ?_)
        · refine lv_iconst (v := nI 0) hx hb dX3_of_47 (by decide) ?_
          refine hz_ei hx hb hr hlocks rfl ?_ hS (by rw [show fd_of M (nI j) (nI _) = none from (if_pos c8).trans (if_pos c17)]; exact fr_n ((show nI 0 = sp_wk M j from c40.symm).trans (ofv_2 (i := 5) (by omega) (by omega) (by omega)))) dX3_of_48
          rw [show fd_of M (nI j) (nI _) = none from (if_pos c8).trans (if_pos c17)]
          exact hP
        · refine lv_iconst (v := nI 1) hx hb dX3_of_43 (by decide) ?_
          refine lv_goto (tgt := 48) hx hb dX3_of_44 (by decide) ?_
          refine hz_ei hx hb hr hlocks rfl ?_ hS (by rw [show fd_of M (nI j) (nI _) = none from (if_pos c8).trans (if_pos c17)]; exact fr_n ((sp_wk_1 c40).symm.trans (ofv_2 (i := 5) (by omega) (by omega) (by omega)))) dX3_of_48
          rw [show fd_of M (nI j) (nI _) = none from (if_pos c8).trans (if_pos c17)]
          exact hP
    · refine lv_aload_n hx hb dX3_of_20 rfl (lv_at hl 0 rfl) ?_
      refine lv_ldc (v := -1000000001) hx hb hown wd2 dX3_of_21 ?_
      refine hz_ce (As := [.int (-1000000001)]) (rest := []) ⟨hx, hb, hml, hown, hts⟩ (c3_found l D cI cJ (x0 := x0) (a0 := a0) (kc0 := kc0) (tc0 := tc0) (tp0 := tp0) (sh0 := sh0) (fd0 := fd0) (kf := kf) (F := F) (f := -1000000001) (k := 0) (hk := by omega) (hfk := by decide)) (cwV 1 hts gX3_of_X3_found rfl rfl rfl (by decide +kernel) ⟨Nat.le_of_ble_eq_true rfl, Nat.le_of_ble_eq_true rfl⟩) hK hP hD hS [0, 11] rfl (by decide) rfl (w' := [(x0, .inr (3, [.ref a0, .ref kc0, .ref tc0, .ref tp0, .ref sh0, .ref fd0, .int (kf)])), (a0, .inr (0, [.int (M 0), .int (M 1), .ref k_, .ref p_, .ref t_, .ref h_, .ref w_, .int (M 2), .ref b_, .ref g_, .ref i_, .ref f_])), (k_, .inl (cI, 8, .inl (fun x_ => M (3 + 5 * x_)))), (p_, .inl (cI, 8, .inl (fun x_ => M (3 + 5 * x_ + 1)))), (t_, .inl (cI, 8, .inl (fun x_ => M (3 + 5 * x_ + 2)))), (h_, .inl (cI, 8, .inl (fun x_ => M (3 + 5 * x_ + 3)))), (w_, .inl (cI, 8, .inl (fun x_ => M (3 + 5 * x_ + 4)))), (b_, .inl (cI, 8, .inl (fun x_ => M (43 + 4 * x_)))), (g_, .inl (cI, 8, .inl (fun x_ => M (43 + 4 * x_ + 1)))), (i_, .inl (cI, 8, .inl (fun x_ => M (43 + 4 * x_ + 2)))), (f_, .inl (cI, 8, .inl (fun x_ => M (43 + 4 * x_ + 3)))), (fd0, .inl (cI, 7, .inl (sp_fd F 0)))]) rfl [0, 1] rfl 0 rfl rfl rfl rfl hl.1 rfl (Nat.le_of_ble_eq_true rfl) dX3_of_23 ⟨Nat.zero_le _, Nat.zero_le _⟩ (fun H locs hP hD hS => ?_)
      refine W.eq (g2 := F0 m 26 ls [.int ((-1000000001))]) rfl ?_
      refine hz_ei hx hb hr hlocks rfl ?_ hS (by rw [show fd_of M d w = some 0 from (if_pos c8).trans (if_neg c17)]; rfl) dX3_of_26
      rw [show fd_of M d w = some 0 from (if_pos c8).trans (if_neg c17)]
      exact hP
set_option maxHeartbeats 4000000 in
set_option maxRecDepth 100000 in
theorem c4_set (l : Launch) (D : va_G) (cI cJ : ClassId) (h0 am af : Nat) (fs : List Value) (M F : Nat → Int32) (b : Nat) (d w v : Int32) (hf : fs[0]? = some (.ref am)) (hf4 : fs[4]? = some (.ref af)) (hI : hz_I b M) : hz_ME l yX4_set wsX4_set { frames := 2, cells := 0, slots := 0, locals := 44 } [.ref h0, .int (d), .int (w), .int (v)] D zcl [(cI, .int), (cJ, .long)] [(h0, .inr (4, fs)), (am, .inl (cI, 75, .inl M)), (af, .inl (cI, 7, .inl F))] [(h0, .inr (4, fs)), (am, .inl (cI, 75, .inl (sp_fM (fd_set M d w v) M (upd M (3 + 5 * cl d + cl w) v)))), (af, .inl (cI, 7, .inl (sp_ff F (fd_set M d w v))))] (some (.int (sp_fr (fd_set M d w v) (M (3 + 5 * cl d + cl w))))) := by
  refine hz_me (cc := cX4_set) (maxL := 5) (ret := (some .int)) (by decide) rfl (Nat.le_of_ble_eq_true rfl) ?_
  intro p e s m below meth c hx hb hr hts hown hlocks hml hP hK hD ls hl
  have hS : va_S (hz_a [(h0, .inr (4, fs)), (am, .inl (cI, 75, .inl M)), (af, .inl (cI, 7, .inl F))]) s.heap s.heap [] := va_S.rf
  have hown : s.vm.findClass RX4 = some m.cls := hown
  have hl : lv_has ls 5 [(0, .ref h0), (1, .int (d)), (2, .int (w)), (3, .int (v))] := hl
  have wd1 := hts (.constant RX4 35 (-1000000001)) (List.mem_of_getElem? (i := 1) rfl)
  obtain ⟨⟨hM0, hTb, hM1, hD8, hM2, hS8⟩, hID, hIS⟩ := id hI
  refine lv_aload_n hx hb dX4_set_0 rfl (lv_at hl 0 rfl) ?_
  refine lv_iload_n hx hb dX4_set_1 rfl (lv_at hl 1 rfl) ?_
  refine hz_cv (As := [.int (d)]) (rest := []) ⟨hx, hb, hml, hown, hts⟩ (c4_isThere l D cI cJ (h0 := h0) (am := am) (fs := fs) (M := M) (x := d) (hf := by first | assumption | rfl) (hM1 := by first | assumption | rfl) (hD8 := by first | assumption | rfl)) (cwV 1 hts gX4_set_X4_isThere rfl rfl rfl (by decide +kernel) ⟨Nat.le_of_ble_eq_true rfl, Nat.le_of_ble_eq_true rfl⟩) hK hP [0, 1] rfl [0, 1] rfl 0 rfl rfl rfl rfl hl.1 rfl (Nat.le_of_ble_eq_true rfl) dX4_set_2 ⟨Nat.zero_le _, Nat.zero_le _⟩ ?_
  refine hz_ifb_eq (tgt := 35) hx hb dX4_set_5 (by decide) (fun c5 => ?_) (fun c5 => ?_)
  · refine lv_iconst (v := nI 0) hx hb dX4_set_35 (by decide) ?_
    refine lv_istore (lv' := [(4, .int (nI 0)), (0, .ref h0), (1, .int (d)), (2, .int (w)), (3, .int (v))]) hx hb dX4_set_36 hl (by decide) rfl (fun ls hl => ?_)
    refine lv_iload hx hb dX4_set_38 (lv_at hl 0 rfl) ?_
    refine lv_if_eq (tgt := 58) hx hb dX4_set_40 (by decide) (fun _ => ?_) (fun h => absurd h (by first | decide | omega | exact hz_nneg (by omega) | exact hz_nneg' (by omega)))
    refine lv_aload_n hx hb dX4_set_58 rfl (lv_at hl 1 rfl) ?_
    refine lv_ldc (v := -1000000001) hx hb hown wd1 dX4_set_59 ?_
    refine hz_ce (As := [.int (-1000000001)]) (rest := []) ⟨hx, hb, hml, hown, hts⟩ (c4_finds l D cI cJ (h0 := h0) (af := af) (fs := fs) (F := F) (f := -1000000001) (k := 0) (hf := by first | assumption | rfl) (hk := by omega) (hfk := by decide)) (cwV 1 hts gX4_set_X4_finds rfl rfl rfl (by decide +kernel) ⟨Nat.le_of_ble_eq_true rfl, Nat.le_of_ble_eq_true rfl⟩) hK hP hD hS [0, 2] rfl (by decide) rfl (w' := [(h0, .inr (4, fs)), (am, .inl (cI, 75, .inl M)), (af, .inl (cI, 7, .inl (sp_fd F 0)))]) rfl [0, 1] rfl 0 rfl rfl rfl rfl hl.1 rfl (Nat.le_of_ble_eq_true rfl) dX4_set_61 ⟨Nat.zero_le _, Nat.zero_le _⟩ (fun H locs hP hD hS => ?_)
    refine W.eq (g2 := F0 m 64 ls [.int ((-1000000001))]) rfl ?_
    refine hz_ei hx hb hr hlocks rfl ?_ hS (by rw [show fd_set M d w v = some 0 from if_neg c5]; rfl) dX4_set_64
    rw [show fd_set M d w v = some 0 from if_neg c5]
    exact hP
  · refine lv_iload_n hx hb dX4_set_8 rfl (lv_at hl 2 rfl) ?_
    refine lv_i2l (v := w.toInt64) hx hb dX4_set_9 rfl ?_
    refine lv_iconst (v := nI 1) hx hb dX4_set_10 (by decide) ?_
    refine lv_iconst (v := nI 4) hx hb dX4_set_11 (by decide) ?_
    refine hz_cs (As := [.long (w.toInt64), .int (nI 1), .int (nI 4)]) (rest := []) ⟨hx, hb, hml, hown, hts⟩ (c4_in32 l D cI cJ (x := w) (a := nI 1) (b := nI 4) ) (va_cwS 3 hts gX4_set_X4_in rfl rfl rfl (by decide +kernel) ⟨Nat.le_of_ble_eq_true rfl, Nat.le_of_ble_eq_true rfl⟩) hK hP [] rfl [0, 1] rfl rfl hl.1 rfl (Nat.le_of_ble_eq_true rfl) dX4_set_12 ⟨Nat.zero_le _, Nat.zero_le _⟩ ?_
    refine hz_ifb_eq (tgt := 35) hx hb dX4_set_15 (by decide) (fun c15 => ?_) (fun c15 => ?_)
    · refine lv_iconst (v := nI 0) hx hb dX4_set_35 (by decide) ?_
      refine lv_istore (lv' := [(4, .int (nI 0)), (0, .ref h0), (1, .int (d)), (2, .int (w)), (3, .int (v))]) hx hb dX4_set_36 hl (by decide) rfl (fun ls hl => ?_)
      refine lv_iload hx hb dX4_set_38 (lv_at hl 0 rfl) ?_
      refine lv_if_eq (tgt := 58) hx hb dX4_set_40 (by decide) (fun _ => ?_) (fun h => absurd h (by first | decide | omega | exact hz_nneg (by omega) | exact hz_nneg' (by omega)))
      refine lv_aload_n hx hb dX4_set_58 rfl (lv_at hl 1 rfl) ?_
      refine lv_ldc (v := -1000000001) hx hb hown wd1 dX4_set_59 ?_
      refine hz_ce (As := [.int (-1000000001)]) (rest := []) ⟨hx, hb, hml, hown, hts⟩ (c4_finds l D cI cJ (h0 := h0) (af := af) (fs := fs) (F := F) (f := -1000000001) (k := 0) (hf := by first | assumption | rfl) (hk := by omega) (hfk := by decide)) (cwV 1 hts gX4_set_X4_finds rfl rfl rfl (by decide +kernel) ⟨Nat.le_of_ble_eq_true rfl, Nat.le_of_ble_eq_true rfl⟩) hK hP hD hS [0, 2] rfl (by decide) rfl (w' := [(h0, .inr (4, fs)), (am, .inl (cI, 75, .inl M)), (af, .inl (cI, 7, .inl (sp_fd F 0)))]) rfl [0, 1] rfl 0 rfl rfl rfl rfl hl.1 rfl (Nat.le_of_ble_eq_true rfl) dX4_set_61 ⟨Nat.zero_le _, Nat.zero_le _⟩ (fun H locs hP hD hS => ?_)
      refine W.eq (g2 := F0 m 64 ls [.int ((-1000000001))]) rfl ?_
      refine hz_ei hx hb hr hlocks rfl ?_ hS (by rw [show fd_set M d w v = some 0 from (if_pos c5).trans (if_neg (hz_mo_no c15))]; rfl) dX4_set_64
      rw [show fd_set M d w v = some 0 from (if_pos c5).trans (if_neg (hz_mo_no c15))]
      exact hP
    · refine lv_iload_n hx hb dX4_set_18 rfl (lv_at hl 3 rfl) ?_
      refine lv_i2l (v := v.toInt64) hx hb dX4_set_19 rfl ?_
      refine lv_iconst (v := nI 0) hx hb dX4_set_20 (by decide) ?_
      refine lv_iload_n hx hb dX4_set_21 rfl (lv_at hl 2 rfl) ?_
      refine hz_cs (As := [.int (w)]) (rest := [.int (nI 0), .long (v.toInt64)]) ⟨hx, hb, hml, hown, hts⟩ (c4_mostOf l D cI cJ (x := w) (hx4 := c15)) (va_cwS 1 hts gX4_set_X4_mostOf rfl rfl rfl (by decide +kernel) ⟨Nat.le_of_ble_eq_true rfl, Nat.le_of_ble_eq_true rfl⟩) hK hP [] rfl [0, 1] rfl rfl hl.1 rfl (Nat.le_of_ble_eq_true rfl) dX4_set_22 ⟨Nat.zero_le _, Nat.zero_le _⟩ ?_
      refine hz_cs (As := [.long (v.toInt64), .int (nI 0), .int (sp_mo w)]) (rest := []) ⟨hx, hb, hml, hown, hts⟩ (c4_in32 l D cI cJ (x := v) (a := nI 0) (b := sp_mo w) ) (va_cwS 3 hts gX4_set_X4_in rfl rfl rfl (by decide +kernel) ⟨Nat.le_of_ble_eq_true rfl, Nat.le_of_ble_eq_true rfl⟩) hK hP [] rfl [0, 1] rfl rfl hl.1 rfl (Nat.le_of_ble_eq_true rfl) dX4_set_25 ⟨Nat.zero_le _, Nat.zero_le _⟩ ?_
      refine hz_ifb_eq (tgt := 35) hx hb dX4_set_28 (by decide) (fun c28 => ?_) (fun c28 => ?_)
      · refine lv_iconst (v := nI 0) hx hb dX4_set_35 (by decide) ?_
        refine lv_istore (lv' := [(4, .int (nI 0)), (0, .ref h0), (1, .int (d)), (2, .int (w)), (3, .int (v))]) hx hb dX4_set_36 hl (by decide) rfl (fun ls hl => ?_)
        refine lv_iload hx hb dX4_set_38 (lv_at hl 0 rfl) ?_
        refine lv_if_eq (tgt := 58) hx hb dX4_set_40 (by decide) (fun _ => ?_) (fun h => absurd h (by first | decide | omega | exact hz_nneg (by omega) | exact hz_nneg' (by omega)))
        refine lv_aload_n hx hb dX4_set_58 rfl (lv_at hl 1 rfl) ?_
        refine lv_ldc (v := -1000000001) hx hb hown wd1 dX4_set_59 ?_
        refine hz_ce (As := [.int (-1000000001)]) (rest := []) ⟨hx, hb, hml, hown, hts⟩ (c4_finds l D cI cJ (h0 := h0) (af := af) (fs := fs) (F := F) (f := -1000000001) (k := 0) (hf := by first | assumption | rfl) (hk := by omega) (hfk := by decide)) (cwV 1 hts gX4_set_X4_finds rfl rfl rfl (by decide +kernel) ⟨Nat.le_of_ble_eq_true rfl, Nat.le_of_ble_eq_true rfl⟩) hK hP hD hS [0, 2] rfl (by decide) rfl (w' := [(h0, .inr (4, fs)), (am, .inl (cI, 75, .inl M)), (af, .inl (cI, 7, .inl (sp_fd F 0)))]) rfl [0, 1] rfl 0 rfl rfl rfl rfl hl.1 rfl (Nat.le_of_ble_eq_true rfl) dX4_set_61 ⟨Nat.zero_le _, Nat.zero_le _⟩ (fun H locs hP hD hS => ?_)
        refine W.eq (g2 := F0 m 64 ls [.int ((-1000000001))]) rfl ?_
        refine hz_ei hx hb hr hlocks rfl ?_ hS (by rw [show fd_set M d w v = some 0 from (if_pos c5).trans (if_neg c28)]; rfl) dX4_set_64
        rw [show fd_set M d w v = some 0 from (if_pos c5).trans (if_neg c28)]
        exact hP
      · refine lv_iconst (v := nI 1) hx hb dX4_set_31 (by decide) ?_
        refine lv_goto (tgt := 36) hx hb dX4_set_32 (by decide) ?_
        refine lv_istore (lv' := [(4, .int (nI 1)), (0, .ref h0), (1, .int (d)), (2, .int (w)), (3, .int (v))]) hx hb dX4_set_36 hl (by decide) rfl (fun ls hl => ?_)
        refine lv_iload hx hb dX4_set_38 (lv_at hl 0 rfl) ?_
        refine lv_if_eq (tgt := 58) hx hb dX4_set_40 (by decide) (fun h => absurd h (by first | decide | omega | exact hz_nneg (by omega) | exact hz_nneg' (by omega))) (fun _ => ?_)
        obtain ⟨j, hj, rfl⟩ := hz_in_of c5 (by omega)
        obtain ⟨i, hi0, hi, rfl⟩ := hz_rg (by decide) (by decide) c15
        refine lv_aload_n hx hb dX4_set_43 rfl (lv_at hl 1 rfl) ?_
        refine lv_iconst (v := nI 3) hx hb dX4_set_44 (by decide) ?_
        refine lv_iconst (v := nI 5) hx hb dX4_set_45 (by decide) ?_
        refine lv_iload_n hx hb dX4_set_46 rfl (lv_at hl 2 rfl) ?_
        refine hz_imul hx hb dX4_set_47 ?_
        refine hz_iadd hx hb dX4_set_48 ?_
        refine lv_iload_n hx hb dX4_set_49 rfl (lv_at hl 3 rfl) ?_
        refine hz_iadd hx hb dX4_set_50 ?_
        refine lv_iload_n hx hb dX4_set_51 rfl (lv_at hl 4 rfl) ?_
        refine hz_ce (As := [.int (nI (3 + 5 * j + i)), .int (v)]) (rest := []) ⟨hx, hb, hml, hown, hts⟩ (c4_becomes l D cI cJ (h0 := h0) (am := am) (fs := fs) (M := M) (i := 3 + 5 * j + i) (x := v) (hf := by first | assumption | rfl) (hi := by omega)) (cwV 2 hts gX4_set_X4_becomes rfl rfl rfl (by decide +kernel) ⟨Nat.le_of_ble_eq_true rfl, Nat.le_of_ble_eq_true rfl⟩) hK hP hD hS [0, 1] rfl (by decide) rfl (w' := [(h0, .inr (4, fs)), (am, .inl (cI, 75, .inl (upd M (3 + 5 * j + i) v))), (af, .inl (cI, 7, .inl F))]) rfl [0, 1] rfl 0 rfl rfl rfl rfl hl.1 rfl (Nat.le_of_ble_eq_true rfl) dX4_set_52 ⟨Nat.zero_le _, Nat.zero_le _⟩ (fun H locs hP hD hS => ?_)
        refine W.eq (g2 := F0 m 55 ls [.int (M (3 + 5 * j + i))]) rfl ?_
        refine lv_goto (tgt := 64) hx hb dX4_set_55 (by decide) ?_
        refine hz_ei hx hb hr hlocks rfl ?_ hS (by rw [show fd_set M (nI j) (nI i) v = none from (if_pos c5).trans (if_pos c28)]; exact fr_n (by rw [cl, cl, nI_clamp (by omega), nI_clamp (by omega)])) dX4_set_64
        rw [show fd_set M (nI j) (nI i) v = none from (if_pos c5).trans (if_pos c28)]
        rw [cl, cl, nI_clamp (by omega), nI_clamp (by omega)]
        exact hP
set_option maxHeartbeats 4000000 in
set_option maxRecDepth 100000 in
theorem c3_set (l : Launch) (D : va_G) (cI cJ : ClassId) (x0 kc0 tc0 tp0 sh0 fd0 : Nat) (kf : Int32) (a0 k_ p_ t_ h_ w_ b_ g_ i_ f_ : Nat) (M F : Nat → Int32) (b : Nat) (d w v : Int32) (hI : hz_I b M) : hz_ME l yX3_set wsX3_set { frames := 2, cells := 0, slots := 0, locals := 44 } [.ref x0, .int (d), .int (w), .int (v)] D zcl [(cI, .int), (cJ, .long)] [(x0, .inr (3, [.ref a0, .ref kc0, .ref tc0, .ref tp0, .ref sh0, .ref fd0, .int (kf)])), (a0, .inr (0, [.int (M 0), .int (M 1), .ref k_, .ref p_, .ref t_, .ref h_, .ref w_, .int (M 2), .ref b_, .ref g_, .ref i_, .ref f_])), (k_, .inl (cI, 8, .inl (fun x_ => M (3 + 5 * x_)))), (p_, .inl (cI, 8, .inl (fun x_ => M (3 + 5 * x_ + 1)))), (t_, .inl (cI, 8, .inl (fun x_ => M (3 + 5 * x_ + 2)))), (h_, .inl (cI, 8, .inl (fun x_ => M (3 + 5 * x_ + 3)))), (w_, .inl (cI, 8, .inl (fun x_ => M (3 + 5 * x_ + 4)))), (b_, .inl (cI, 8, .inl (fun x_ => M (43 + 4 * x_)))), (g_, .inl (cI, 8, .inl (fun x_ => M (43 + 4 * x_ + 1)))), (i_, .inl (cI, 8, .inl (fun x_ => M (43 + 4 * x_ + 2)))), (f_, .inl (cI, 8, .inl (fun x_ => M (43 + 4 * x_ + 3)))), (fd0, .inl (cI, 7, .inl F))] [(x0, .inr (3, [.ref a0, .ref kc0, .ref tc0, .ref tp0, .ref sh0, .ref fd0, .int (kf)])), (a0, .inr (0, [.int ((sp_fM (fd_set M d w v) M (upd M (3 + 5 * cl d + cl w) v)) 0), .int ((sp_fM (fd_set M d w v) M (upd M (3 + 5 * cl d + cl w) v)) 1), .ref k_, .ref p_, .ref t_, .ref h_, .ref w_, .int ((sp_fM (fd_set M d w v) M (upd M (3 + 5 * cl d + cl w) v)) 2), .ref b_, .ref g_, .ref i_, .ref f_])), (k_, .inl (cI, 8, .inl (fun x_ => (sp_fM (fd_set M d w v) M (upd M (3 + 5 * cl d + cl w) v)) (3 + 5 * x_)))), (p_, .inl (cI, 8, .inl (fun x_ => (sp_fM (fd_set M d w v) M (upd M (3 + 5 * cl d + cl w) v)) (3 + 5 * x_ + 1)))), (t_, .inl (cI, 8, .inl (fun x_ => (sp_fM (fd_set M d w v) M (upd M (3 + 5 * cl d + cl w) v)) (3 + 5 * x_ + 2)))), (h_, .inl (cI, 8, .inl (fun x_ => (sp_fM (fd_set M d w v) M (upd M (3 + 5 * cl d + cl w) v)) (3 + 5 * x_ + 3)))), (w_, .inl (cI, 8, .inl (fun x_ => (sp_fM (fd_set M d w v) M (upd M (3 + 5 * cl d + cl w) v)) (3 + 5 * x_ + 4)))), (b_, .inl (cI, 8, .inl (fun x_ => (sp_fM (fd_set M d w v) M (upd M (3 + 5 * cl d + cl w) v)) (43 + 4 * x_)))), (g_, .inl (cI, 8, .inl (fun x_ => (sp_fM (fd_set M d w v) M (upd M (3 + 5 * cl d + cl w) v)) (43 + 4 * x_ + 1)))), (i_, .inl (cI, 8, .inl (fun x_ => (sp_fM (fd_set M d w v) M (upd M (3 + 5 * cl d + cl w) v)) (43 + 4 * x_ + 2)))), (f_, .inl (cI, 8, .inl (fun x_ => (sp_fM (fd_set M d w v) M (upd M (3 + 5 * cl d + cl w) v)) (43 + 4 * x_ + 3)))), (fd0, .inl (cI, 7, .inl (sp_ff F (fd_set M d w v))))] (some (.int (sp_fr (fd_set M d w v) (M (3 + 5 * cl d + cl w))))) := by
  refine hz_me (cc := cX3_set) (maxL := 4) (ret := (some .int)) (by decide) rfl (Nat.le_of_ble_eq_true rfl) ?_
  intro p e s m below meth c hx hb hr hts hown hlocks hml hP hK hD ls hl
  have hS : va_S (hz_a [(x0, .inr (3, [.ref a0, .ref kc0, .ref tc0, .ref tp0, .ref sh0, .ref fd0, .int (kf)])), (a0, .inr (0, [.int (M 0), .int (M 1), .ref k_, .ref p_, .ref t_, .ref h_, .ref w_, .int (M 2), .ref b_, .ref g_, .ref i_, .ref f_])), (k_, .inl (cI, 8, .inl (fun x_ => M (3 + 5 * x_)))), (p_, .inl (cI, 8, .inl (fun x_ => M (3 + 5 * x_ + 1)))), (t_, .inl (cI, 8, .inl (fun x_ => M (3 + 5 * x_ + 2)))), (h_, .inl (cI, 8, .inl (fun x_ => M (3 + 5 * x_ + 3)))), (w_, .inl (cI, 8, .inl (fun x_ => M (3 + 5 * x_ + 4)))), (b_, .inl (cI, 8, .inl (fun x_ => M (43 + 4 * x_)))), (g_, .inl (cI, 8, .inl (fun x_ => M (43 + 4 * x_ + 1)))), (i_, .inl (cI, 8, .inl (fun x_ => M (43 + 4 * x_ + 2)))), (f_, .inl (cI, 8, .inl (fun x_ => M (43 + 4 * x_ + 3)))), (fd0, .inl (cI, 7, .inl F))]) s.heap s.heap [] := va_S.rf
  have hown : s.vm.findClass RX3 = some m.cls := hown
  have hl : lv_has ls 4 [(0, .ref x0), (1, .int (d)), (2, .int (w)), (3, .int (v))] := hl
  have hinX3 : ∀ w ∈ u_ws RX3 TX3 7, w ∈ wsX3_set := fun w h => List.mem_cons_of_mem _ (List.mem_append_left _ (List.mem_append_right _ (h)))
  have wd1 := hts (.fieldLink RX3 10 "HurtSpeech" "live" "LHurtSpeech$Congress;") (List.mem_of_getElem? (i := 1) rfl)
  have wd2 := hts (.constant RX3 48 (-1000000001)) (List.mem_of_getElem? (i := 2) rfl)
  obtain ⟨⟨hM0, hTb, hM1, hD8, hM2, hS8⟩, hID, hIS⟩ := id hI
  refine lv_aload_n hx hb dX3_set_0 rfl (lv_at hl 0 rfl) ?_
  refine va_get hx hb hts hinX3 hown hK hP 0 rfl rfl 0 (by decide) wd1 (fun _ h => h) rfl dX3_set_1 ?_
  refine lv_iload_n hx hb dX3_set_4 rfl (lv_at hl 1 rfl) ?_
  refine hz_cv (As := [.int (d)]) (rest := []) ⟨hx, hb, hml, hown, hts⟩ (c0_hasDelegate l D cI cJ (a0 := a0) (k_ := k_) (p_ := p_) (t_ := t_) (h_ := h_) (w_ := w_) (b_ := b_) (g_ := g_) (i_ := i_) (f_ := f_) (M := M) (x := d) (hM1 := by first | assumption | rfl) (hD8 := by first | assumption | rfl)) (cwV 1 hts gX3_set_X0_hasDelegate rfl rfl rfl (by decide +kernel) ⟨Nat.le_of_ble_eq_true rfl, Nat.le_of_ble_eq_true rfl⟩) hK hP [1] rfl [0, 1] rfl 1 rfl rfl rfl rfl hl.1 rfl (Nat.le_of_ble_eq_true rfl) dX3_set_5 ⟨Nat.zero_le _, Nat.zero_le _⟩ ?_
  refine hz_ifb_eq (tgt := 23) hx hb dX3_set_8 (by decide) (fun c8 => ?_) (fun c8 => ?_)
  · refine lv_aload_n hx hb dX3_set_23 rfl (lv_at hl 0 rfl) ?_
    refine lv_ldc (v := -1000000001) hx hb hown wd2 dX3_set_24 ?_
    refine hz_ce (As := [.int (-1000000001)]) (rest := []) ⟨hx, hb, hml, hown, hts⟩ (c3_found l D cI cJ (x0 := x0) (a0 := a0) (kc0 := kc0) (tc0 := tc0) (tp0 := tp0) (sh0 := sh0) (fd0 := fd0) (kf := kf) (F := F) (f := -1000000001) (k := 0) (hk := by omega) (hfk := by decide)) (cwV 1 hts gX3_set_X3_found rfl rfl rfl (by decide +kernel) ⟨Nat.le_of_ble_eq_true rfl, Nat.le_of_ble_eq_true rfl⟩) hK hP hD hS [0, 11] rfl (by decide) rfl (w' := [(x0, .inr (3, [.ref a0, .ref kc0, .ref tc0, .ref tp0, .ref sh0, .ref fd0, .int (kf)])), (a0, .inr (0, [.int (M 0), .int (M 1), .ref k_, .ref p_, .ref t_, .ref h_, .ref w_, .int (M 2), .ref b_, .ref g_, .ref i_, .ref f_])), (k_, .inl (cI, 8, .inl (fun x_ => M (3 + 5 * x_)))), (p_, .inl (cI, 8, .inl (fun x_ => M (3 + 5 * x_ + 1)))), (t_, .inl (cI, 8, .inl (fun x_ => M (3 + 5 * x_ + 2)))), (h_, .inl (cI, 8, .inl (fun x_ => M (3 + 5 * x_ + 3)))), (w_, .inl (cI, 8, .inl (fun x_ => M (3 + 5 * x_ + 4)))), (b_, .inl (cI, 8, .inl (fun x_ => M (43 + 4 * x_)))), (g_, .inl (cI, 8, .inl (fun x_ => M (43 + 4 * x_ + 1)))), (i_, .inl (cI, 8, .inl (fun x_ => M (43 + 4 * x_ + 2)))), (f_, .inl (cI, 8, .inl (fun x_ => M (43 + 4 * x_ + 3)))), (fd0, .inl (cI, 7, .inl (sp_fd F 0)))]) rfl [0, 1] rfl 0 rfl rfl rfl rfl hl.1 rfl (Nat.le_of_ble_eq_true rfl) dX3_set_26 ⟨Nat.zero_le _, Nat.zero_le _⟩ (fun H locs hP hD hS => ?_)
    refine W.eq (g2 := F0 m 29 ls [.int ((-1000000001))]) rfl ?_
    refine hz_ei hx hb hr hlocks rfl ?_ hS (by rw [show fd_set M d w v = some 0 from if_neg c8]; rfl) dX3_set_29
    rw [show fd_set M d w v = some 0 from if_neg c8]
    exact hP
  · refine lv_iload_n hx hb dX3_set_11 rfl (lv_at hl 3 rfl) ?_
    refine lv_iconst (v := nI 0) hx hb dX3_set_12 (by decide) ?_
    refine lv_iload_n hx hb dX3_set_13 rfl (lv_at hl 2 rfl) ?_
    refine hz_cs (As := [.int (w)]) (rest := [.int (nI 0), .int (v)]) ⟨hx, hb, hml, hown, hts⟩ (c0_mostOf l D cI cJ (x := w) ) (va_cwS 1 hts gX3_set_X0_mostOf rfl rfl rfl (by decide +kernel) ⟨Nat.le_of_ble_eq_true rfl, Nat.le_of_ble_eq_true rfl⟩) hK hP [] rfl [0, 1] rfl rfl hl.1 rfl (Nat.le_of_ble_eq_true rfl) dX3_set_14 ⟨Nat.zero_le _, Nat.zero_le _⟩ ?_
    refine hz_cs (As := [.int (v), .int (nI 0), .int (sp_mo w)]) (rest := []) ⟨hx, hb, hml, hown, hts⟩ (c3_isWithin l D cI cJ (x := v) (a := nI 0) (b := sp_mo w) ) (va_cwS 3 hts gX3_set_X3_isWithin rfl rfl rfl (by decide +kernel) ⟨Nat.le_of_ble_eq_true rfl, Nat.le_of_ble_eq_true rfl⟩) hK hP [] rfl [0, 1] rfl rfl hl.1 rfl (Nat.le_of_ble_eq_true rfl) dX3_set_17 ⟨Nat.zero_le _, Nat.zero_le _⟩ ?_
    refine hz_ifb_ne (tgt := 30) hx hb dX3_set_20 (by decide) (fun c20 => ?_) (fun c20 => ?_)
    · obtain ⟨j, hj, rfl⟩ := hz_in_of c8 (by omega)
      obtain ⟨i, hi0, hi, rfl⟩ := hz_rg (by decide) (by decide) (hz_mo4.mpr (fun h => hz_mo_m1 h c20))
      rcases (show i = 1 ∨ i = 2 ∨ i = 3 ∨ i = 4 by omega) with rfl | rfl | rfl | rfl
      · have ei : cl (nI 1) = 1 := by decide
        refine lv_aload_n hx hb dX3_set_30 rfl (lv_at hl 0 rfl) ?_
        refine va_get hx hb hts hinX3 hown hK hP 0 rfl rfl 0 (by decide) wd1 (fun _ h => h) rfl dX3_set_31 ?_
        refine lv_iload_n hx hb dX3_set_34 rfl (lv_at hl 2 rfl) ?_
        refine hz_cv (As := [.int (nI 1)]) (rest := []) ⟨hx, hb, hml, hown, hts⟩ (c0_dr1 l D cI cJ (a0 := a0) (k_ := k_) (p_ := p_) (t_ := t_) (h_ := h_) (w_ := w_) (b_ := b_) (g_ := g_) (i_ := i_) (f_ := f_) (s0 := M 0) (d0 := M 1) (z0 := M 2) ) (cwV 1 hts gX3_set_X0_delegateRow rfl rfl rfl (by decide +kernel) ⟨Nat.le_of_ble_eq_true rfl, Nat.le_of_ble_eq_true rfl⟩) hK hP [1] rfl [0, 1] rfl 1 rfl rfl rfl rfl hl.1 rfl (Nat.le_of_ble_eq_true rfl) dX3_set_35 ⟨Nat.zero_le _, Nat.zero_le _⟩ ?_
        refine lv_iload_n hx hb dX3_set_38 rfl (lv_at hl 1 rfl) ?_
        refine lv_iload_n hx hb dX3_set_39 rfl (lv_at hl 3 rfl) ?_
        refine hz_cse (As := [.ref p_, .int (nI j), .int (v)]) (rest := []) ⟨hx, hb, hml, hown, hts⟩ (c3_exchange l D cI cJ (r_ := p_) (F := fun x_ => M (3 + 5 * x_ + 1)) (i := j) (v := v) (hi := by omega)) (va_cwS 3 hts gX3_set_X3_exchange rfl rfl rfl (by decide +kernel) ⟨Nat.le_of_ble_eq_true rfl, Nat.le_of_ble_eq_true rfl⟩) hK hP hD hS [3] rfl (by decide) rfl (w' := [(x0, .inr (3, [.ref a0, .ref kc0, .ref tc0, .ref tp0, .ref sh0, .ref fd0, .int (kf)])), (a0, .inr (0, [.int (M 0), .int (M 1), .ref k_, .ref p_, .ref t_, .ref h_, .ref w_, .int (M 2), .ref b_, .ref g_, .ref i_, .ref f_])), (k_, .inl (cI, 8, .inl (fun x_ => M (3 + 5 * x_)))), (p_, .inl (cI, 8, .inl (upd (fun x_ => M (3 + 5 * x_ + 1)) j v))), (t_, .inl (cI, 8, .inl (fun x_ => M (3 + 5 * x_ + 2)))), (h_, .inl (cI, 8, .inl (fun x_ => M (3 + 5 * x_ + 3)))), (w_, .inl (cI, 8, .inl (fun x_ => M (3 + 5 * x_ + 4)))), (b_, .inl (cI, 8, .inl (fun x_ => M (43 + 4 * x_)))), (g_, .inl (cI, 8, .inl (fun x_ => M (43 + 4 * x_ + 1)))), (i_, .inl (cI, 8, .inl (fun x_ => M (43 + 4 * x_ + 2)))), (f_, .inl (cI, 8, .inl (fun x_ => M (43 + 4 * x_ + 3)))), (fd0, .inl (cI, 7, .inl F))]) rfl [0, 1] rfl rfl hl.1 rfl (Nat.le_of_ble_eq_true rfl) dX3_set_40 ⟨Nat.zero_le _, Nat.zero_le _⟩ (fun H locs hP hD hS => ?_)
        refine W.eq (g2 := F0 m 43 ls [.int ((fun x_ => M (3 + 5 * x_ + 1)) j)]) rfl ?_
        refine hz_ei hx hb hr hlocks rfl ?_ hS (by rw [show fd_set M (nI j) (nI _) v = none from (if_pos c8).trans (if_pos c20)]; exact fr_n (by rw [cl, cl, nI_clamp (by omega), nI_clamp (by omega)])) dX3_set_43
        rw [show fd_set M (nI j) (nI _) v = none from (if_pos c8).trans (if_pos c20)]
        rw [cl, nI_clamp (by omega), ei]
        first
          | (refine va_P.app (hP.sub [0] rfl) (va_P.app (cg_of (hP.sub [1, 2, 3, 4, 5, 6, 7, 8, 9, 10] rfl) (upd M (3 + 5 * j + 1) v) (pk_un (by omega)).symm (pk_un (by omega)).symm (pk_un (by omega)).symm ?_ ?_ ?_ ?_ ?_ ?_ ?_ ?_ ?_) (hP.sub [11] rfl)) <;> (intro x hx; first | exact (pk_un (by omega)).symm | exact hz_u5 | exact hz_u50 | exact hz_u4 | exact hz_u40))
          | (refine va_P.app (hP.sub [0] rfl) (va_P.app (cg_of (hP.sub [1, 2, 3, 4, 5, 6, 7, 8, 9, 10] rfl) (upd M (3 + 5 * j + 2) v) (pk_un (by omega)).symm (pk_un (by omega)).symm (pk_un (by omega)).symm ?_ ?_ ?_ ?_ ?_ ?_ ?_ ?_ ?_) (hP.sub [11] rfl)) <;> (intro x hx; first | exact (pk_un (by omega)).symm | exact hz_u5 | exact hz_u50 | exact hz_u4 | exact hz_u40))
          | (refine va_P.app (hP.sub [0] rfl) (va_P.app (cg_of (hP.sub [1, 2, 3, 4, 5, 6, 7, 8, 9, 10] rfl) (upd M (3 + 5 * j + 3) v) (pk_un (by omega)).symm (pk_un (by omega)).symm (pk_un (by omega)).symm ?_ ?_ ?_ ?_ ?_ ?_ ?_ ?_ ?_) (hP.sub [11] rfl)) <;> (intro x hx; first | exact (pk_un (by omega)).symm | exact hz_u5 | exact hz_u50 | exact hz_u4 | exact hz_u40))
          | (refine va_P.app (hP.sub [0] rfl) (va_P.app (cg_of (hP.sub [1, 2, 3, 4, 5, 6, 7, 8, 9, 10] rfl) (upd M (3 + 5 * j + 4) v) (pk_un (by omega)).symm (pk_un (by omega)).symm (pk_un (by omega)).symm ?_ ?_ ?_ ?_ ?_ ?_ ?_ ?_ ?_) (hP.sub [11] rfl)) <;> (intro x hx; first | exact (pk_un (by omega)).symm | exact hz_u5 | exact hz_u50 | exact hz_u4 | exact hz_u40))
      · have ei : cl (nI 2) = 2 := by decide
        refine lv_aload_n hx hb dX3_set_30 rfl (lv_at hl 0 rfl) ?_
        refine va_get hx hb hts hinX3 hown hK hP 0 rfl rfl 0 (by decide) wd1 (fun _ h => h) rfl dX3_set_31 ?_
        refine lv_iload_n hx hb dX3_set_34 rfl (lv_at hl 2 rfl) ?_
        refine hz_cv (As := [.int (nI 2)]) (rest := []) ⟨hx, hb, hml, hown, hts⟩ (c0_dr2 l D cI cJ (a0 := a0) (k_ := k_) (p_ := p_) (t_ := t_) (h_ := h_) (w_ := w_) (b_ := b_) (g_ := g_) (i_ := i_) (f_ := f_) (s0 := M 0) (d0 := M 1) (z0 := M 2) ) (cwV 1 hts gX3_set_X0_delegateRow rfl rfl rfl (by decide +kernel) ⟨Nat.le_of_ble_eq_true rfl, Nat.le_of_ble_eq_true rfl⟩) hK hP [1] rfl [0, 1] rfl 1 rfl rfl rfl rfl hl.1 rfl (Nat.le_of_ble_eq_true rfl) dX3_set_35 ⟨Nat.zero_le _, Nat.zero_le _⟩ ?_
        refine lv_iload_n hx hb dX3_set_38 rfl (lv_at hl 1 rfl) ?_
        refine lv_iload_n hx hb dX3_set_39 rfl (lv_at hl 3 rfl) ?_
        refine hz_cse (As := [.ref t_, .int (nI j), .int (v)]) (rest := []) ⟨hx, hb, hml, hown, hts⟩ (c3_exchange l D cI cJ (r_ := t_) (F := fun x_ => M (3 + 5 * x_ + 2)) (i := j) (v := v) (hi := by omega)) (va_cwS 3 hts gX3_set_X3_exchange rfl rfl rfl (by decide +kernel) ⟨Nat.le_of_ble_eq_true rfl, Nat.le_of_ble_eq_true rfl⟩) hK hP hD hS [4] rfl (by decide) rfl (w' := [(x0, .inr (3, [.ref a0, .ref kc0, .ref tc0, .ref tp0, .ref sh0, .ref fd0, .int (kf)])), (a0, .inr (0, [.int (M 0), .int (M 1), .ref k_, .ref p_, .ref t_, .ref h_, .ref w_, .int (M 2), .ref b_, .ref g_, .ref i_, .ref f_])), (k_, .inl (cI, 8, .inl (fun x_ => M (3 + 5 * x_)))), (p_, .inl (cI, 8, .inl (fun x_ => M (3 + 5 * x_ + 1)))), (t_, .inl (cI, 8, .inl (upd (fun x_ => M (3 + 5 * x_ + 2)) j v))), (h_, .inl (cI, 8, .inl (fun x_ => M (3 + 5 * x_ + 3)))), (w_, .inl (cI, 8, .inl (fun x_ => M (3 + 5 * x_ + 4)))), (b_, .inl (cI, 8, .inl (fun x_ => M (43 + 4 * x_)))), (g_, .inl (cI, 8, .inl (fun x_ => M (43 + 4 * x_ + 1)))), (i_, .inl (cI, 8, .inl (fun x_ => M (43 + 4 * x_ + 2)))), (f_, .inl (cI, 8, .inl (fun x_ => M (43 + 4 * x_ + 3)))), (fd0, .inl (cI, 7, .inl F))]) rfl [0, 1] rfl rfl hl.1 rfl (Nat.le_of_ble_eq_true rfl) dX3_set_40 ⟨Nat.zero_le _, Nat.zero_le _⟩ (fun H locs hP hD hS => ?_)
        refine W.eq (g2 := F0 m 43 ls [.int ((fun x_ => M (3 + 5 * x_ + 2)) j)]) rfl ?_
        refine hz_ei hx hb hr hlocks rfl ?_ hS (by rw [show fd_set M (nI j) (nI _) v = none from (if_pos c8).trans (if_pos c20)]; exact fr_n (by rw [cl, cl, nI_clamp (by omega), nI_clamp (by omega)])) dX3_set_43
        rw [show fd_set M (nI j) (nI _) v = none from (if_pos c8).trans (if_pos c20)]
        rw [cl, nI_clamp (by omega), ei]
        first
          | (refine va_P.app (hP.sub [0] rfl) (va_P.app (cg_of (hP.sub [1, 2, 3, 4, 5, 6, 7, 8, 9, 10] rfl) (upd M (3 + 5 * j + 1) v) (pk_un (by omega)).symm (pk_un (by omega)).symm (pk_un (by omega)).symm ?_ ?_ ?_ ?_ ?_ ?_ ?_ ?_ ?_) (hP.sub [11] rfl)) <;> (intro x hx; first | exact (pk_un (by omega)).symm | exact hz_u5 | exact hz_u50 | exact hz_u4 | exact hz_u40))
          | (refine va_P.app (hP.sub [0] rfl) (va_P.app (cg_of (hP.sub [1, 2, 3, 4, 5, 6, 7, 8, 9, 10] rfl) (upd M (3 + 5 * j + 2) v) (pk_un (by omega)).symm (pk_un (by omega)).symm (pk_un (by omega)).symm ?_ ?_ ?_ ?_ ?_ ?_ ?_ ?_ ?_) (hP.sub [11] rfl)) <;> (intro x hx; first | exact (pk_un (by omega)).symm | exact hz_u5 | exact hz_u50 | exact hz_u4 | exact hz_u40))
          | (refine va_P.app (hP.sub [0] rfl) (va_P.app (cg_of (hP.sub [1, 2, 3, 4, 5, 6, 7, 8, 9, 10] rfl) (upd M (3 + 5 * j + 3) v) (pk_un (by omega)).symm (pk_un (by omega)).symm (pk_un (by omega)).symm ?_ ?_ ?_ ?_ ?_ ?_ ?_ ?_ ?_) (hP.sub [11] rfl)) <;> (intro x hx; first | exact (pk_un (by omega)).symm | exact hz_u5 | exact hz_u50 | exact hz_u4 | exact hz_u40))
          | (refine va_P.app (hP.sub [0] rfl) (va_P.app (cg_of (hP.sub [1, 2, 3, 4, 5, 6, 7, 8, 9, 10] rfl) (upd M (3 + 5 * j + 4) v) (pk_un (by omega)).symm (pk_un (by omega)).symm (pk_un (by omega)).symm ?_ ?_ ?_ ?_ ?_ ?_ ?_ ?_ ?_) (hP.sub [11] rfl)) <;> (intro x hx; first | exact (pk_un (by omega)).symm | exact hz_u5 | exact hz_u50 | exact hz_u4 | exact hz_u40))
      · have ei : cl (nI 3) = 3 := by decide
        refine lv_aload_n hx hb dX3_set_30 rfl (lv_at hl 0 rfl) ?_
        refine va_get hx hb hts hinX3 hown hK hP 0 rfl rfl 0 (by decide) wd1 (fun _ h => h) rfl dX3_set_31 ?_
        refine lv_iload_n hx hb dX3_set_34 rfl (lv_at hl 2 rfl) ?_
        refine hz_cv (As := [.int (nI 3)]) (rest := []) ⟨hx, hb, hml, hown, hts⟩ (c0_dr3 l D cI cJ (a0 := a0) (k_ := k_) (p_ := p_) (t_ := t_) (h_ := h_) (w_ := w_) (b_ := b_) (g_ := g_) (i_ := i_) (f_ := f_) (s0 := M 0) (d0 := M 1) (z0 := M 2) ) (cwV 1 hts gX3_set_X0_delegateRow rfl rfl rfl (by decide +kernel) ⟨Nat.le_of_ble_eq_true rfl, Nat.le_of_ble_eq_true rfl⟩) hK hP [1] rfl [0, 1] rfl 1 rfl rfl rfl rfl hl.1 rfl (Nat.le_of_ble_eq_true rfl) dX3_set_35 ⟨Nat.zero_le _, Nat.zero_le _⟩ ?_
        refine lv_iload_n hx hb dX3_set_38 rfl (lv_at hl 1 rfl) ?_
        refine lv_iload_n hx hb dX3_set_39 rfl (lv_at hl 3 rfl) ?_
        refine hz_cse (As := [.ref h_, .int (nI j), .int (v)]) (rest := []) ⟨hx, hb, hml, hown, hts⟩ (c3_exchange l D cI cJ (r_ := h_) (F := fun x_ => M (3 + 5 * x_ + 3)) (i := j) (v := v) (hi := by omega)) (va_cwS 3 hts gX3_set_X3_exchange rfl rfl rfl (by decide +kernel) ⟨Nat.le_of_ble_eq_true rfl, Nat.le_of_ble_eq_true rfl⟩) hK hP hD hS [5] rfl (by decide) rfl (w' := [(x0, .inr (3, [.ref a0, .ref kc0, .ref tc0, .ref tp0, .ref sh0, .ref fd0, .int (kf)])), (a0, .inr (0, [.int (M 0), .int (M 1), .ref k_, .ref p_, .ref t_, .ref h_, .ref w_, .int (M 2), .ref b_, .ref g_, .ref i_, .ref f_])), (k_, .inl (cI, 8, .inl (fun x_ => M (3 + 5 * x_)))), (p_, .inl (cI, 8, .inl (fun x_ => M (3 + 5 * x_ + 1)))), (t_, .inl (cI, 8, .inl (fun x_ => M (3 + 5 * x_ + 2)))), (h_, .inl (cI, 8, .inl (upd (fun x_ => M (3 + 5 * x_ + 3)) j v))), (w_, .inl (cI, 8, .inl (fun x_ => M (3 + 5 * x_ + 4)))), (b_, .inl (cI, 8, .inl (fun x_ => M (43 + 4 * x_)))), (g_, .inl (cI, 8, .inl (fun x_ => M (43 + 4 * x_ + 1)))), (i_, .inl (cI, 8, .inl (fun x_ => M (43 + 4 * x_ + 2)))), (f_, .inl (cI, 8, .inl (fun x_ => M (43 + 4 * x_ + 3)))), (fd0, .inl (cI, 7, .inl F))]) rfl [0, 1] rfl rfl hl.1 rfl (Nat.le_of_ble_eq_true rfl) dX3_set_40 ⟨Nat.zero_le _, Nat.zero_le _⟩ (fun H locs hP hD hS => ?_)
        refine W.eq (g2 := F0 m 43 ls [.int ((fun x_ => M (3 + 5 * x_ + 3)) j)]) rfl ?_
        refine hz_ei hx hb hr hlocks rfl ?_ hS (by rw [show fd_set M (nI j) (nI _) v = none from (if_pos c8).trans (if_pos c20)]; exact fr_n (by rw [cl, cl, nI_clamp (by omega), nI_clamp (by omega)])) dX3_set_43
        rw [show fd_set M (nI j) (nI _) v = none from (if_pos c8).trans (if_pos c20)]
        rw [cl, nI_clamp (by omega), ei]
        first
          | (refine va_P.app (hP.sub [0] rfl) (va_P.app (cg_of (hP.sub [1, 2, 3, 4, 5, 6, 7, 8, 9, 10] rfl) (upd M (3 + 5 * j + 1) v) (pk_un (by omega)).symm (pk_un (by omega)).symm (pk_un (by omega)).symm ?_ ?_ ?_ ?_ ?_ ?_ ?_ ?_ ?_) (hP.sub [11] rfl)) <;> (intro x hx; first | exact (pk_un (by omega)).symm | exact hz_u5 | exact hz_u50 | exact hz_u4 | exact hz_u40))
          | (refine va_P.app (hP.sub [0] rfl) (va_P.app (cg_of (hP.sub [1, 2, 3, 4, 5, 6, 7, 8, 9, 10] rfl) (upd M (3 + 5 * j + 2) v) (pk_un (by omega)).symm (pk_un (by omega)).symm (pk_un (by omega)).symm ?_ ?_ ?_ ?_ ?_ ?_ ?_ ?_ ?_) (hP.sub [11] rfl)) <;> (intro x hx; first | exact (pk_un (by omega)).symm | exact hz_u5 | exact hz_u50 | exact hz_u4 | exact hz_u40))
          | (refine va_P.app (hP.sub [0] rfl) (va_P.app (cg_of (hP.sub [1, 2, 3, 4, 5, 6, 7, 8, 9, 10] rfl) (upd M (3 + 5 * j + 3) v) (pk_un (by omega)).symm (pk_un (by omega)).symm (pk_un (by omega)).symm ?_ ?_ ?_ ?_ ?_ ?_ ?_ ?_ ?_) (hP.sub [11] rfl)) <;> (intro x hx; first | exact (pk_un (by omega)).symm | exact hz_u5 | exact hz_u50 | exact hz_u4 | exact hz_u40))
          | (refine va_P.app (hP.sub [0] rfl) (va_P.app (cg_of (hP.sub [1, 2, 3, 4, 5, 6, 7, 8, 9, 10] rfl) (upd M (3 + 5 * j + 4) v) (pk_un (by omega)).symm (pk_un (by omega)).symm (pk_un (by omega)).symm ?_ ?_ ?_ ?_ ?_ ?_ ?_ ?_ ?_) (hP.sub [11] rfl)) <;> (intro x hx; first | exact (pk_un (by omega)).symm | exact hz_u5 | exact hz_u50 | exact hz_u4 | exact hz_u40))
      · have ei : cl (nI 4) = 4 := by decide
        refine lv_aload_n hx hb dX3_set_30 rfl (lv_at hl 0 rfl) ?_
        refine va_get hx hb hts hinX3 hown hK hP 0 rfl rfl 0 (by decide) wd1 (fun _ h => h) rfl dX3_set_31 ?_
        refine lv_iload_n hx hb dX3_set_34 rfl (lv_at hl 2 rfl) ?_
        refine hz_cv (As := [.int (nI 4)]) (rest := []) ⟨hx, hb, hml, hown, hts⟩ (c0_dr4 l D cI cJ (a0 := a0) (k_ := k_) (p_ := p_) (t_ := t_) (h_ := h_) (w_ := w_) (b_ := b_) (g_ := g_) (i_ := i_) (f_ := f_) (s0 := M 0) (d0 := M 1) (z0 := M 2) ) (cwV 1 hts gX3_set_X0_delegateRow rfl rfl rfl (by decide +kernel) ⟨Nat.le_of_ble_eq_true rfl, Nat.le_of_ble_eq_true rfl⟩) hK hP [1] rfl [0, 1] rfl 1 rfl rfl rfl rfl hl.1 rfl (Nat.le_of_ble_eq_true rfl) dX3_set_35 ⟨Nat.zero_le _, Nat.zero_le _⟩ ?_
        refine lv_iload_n hx hb dX3_set_38 rfl (lv_at hl 1 rfl) ?_
        refine lv_iload_n hx hb dX3_set_39 rfl (lv_at hl 3 rfl) ?_
        refine hz_cse (As := [.ref w_, .int (nI j), .int (v)]) (rest := []) ⟨hx, hb, hml, hown, hts⟩ (c3_exchange l D cI cJ (r_ := w_) (F := fun x_ => M (3 + 5 * x_ + 4)) (i := j) (v := v) (hi := by omega)) (va_cwS 3 hts gX3_set_X3_exchange rfl rfl rfl (by decide +kernel) ⟨Nat.le_of_ble_eq_true rfl, Nat.le_of_ble_eq_true rfl⟩) hK hP hD hS [6] rfl (by decide) rfl (w' := [(x0, .inr (3, [.ref a0, .ref kc0, .ref tc0, .ref tp0, .ref sh0, .ref fd0, .int (kf)])), (a0, .inr (0, [.int (M 0), .int (M 1), .ref k_, .ref p_, .ref t_, .ref h_, .ref w_, .int (M 2), .ref b_, .ref g_, .ref i_, .ref f_])), (k_, .inl (cI, 8, .inl (fun x_ => M (3 + 5 * x_)))), (p_, .inl (cI, 8, .inl (fun x_ => M (3 + 5 * x_ + 1)))), (t_, .inl (cI, 8, .inl (fun x_ => M (3 + 5 * x_ + 2)))), (h_, .inl (cI, 8, .inl (fun x_ => M (3 + 5 * x_ + 3)))), (w_, .inl (cI, 8, .inl (upd (fun x_ => M (3 + 5 * x_ + 4)) j v))), (b_, .inl (cI, 8, .inl (fun x_ => M (43 + 4 * x_)))), (g_, .inl (cI, 8, .inl (fun x_ => M (43 + 4 * x_ + 1)))), (i_, .inl (cI, 8, .inl (fun x_ => M (43 + 4 * x_ + 2)))), (f_, .inl (cI, 8, .inl (fun x_ => M (43 + 4 * x_ + 3)))), (fd0, .inl (cI, 7, .inl F))]) rfl [0, 1] rfl rfl hl.1 rfl (Nat.le_of_ble_eq_true rfl) dX3_set_40 ⟨Nat.zero_le _, Nat.zero_le _⟩ (fun H locs hP hD hS => ?_)
        refine W.eq (g2 := F0 m 43 ls [.int ((fun x_ => M (3 + 5 * x_ + 4)) j)]) rfl ?_
        refine hz_ei hx hb hr hlocks rfl ?_ hS (by rw [show fd_set M (nI j) (nI _) v = none from (if_pos c8).trans (if_pos c20)]; exact fr_n (by rw [cl, cl, nI_clamp (by omega), nI_clamp (by omega)])) dX3_set_43
        rw [show fd_set M (nI j) (nI _) v = none from (if_pos c8).trans (if_pos c20)]
        rw [cl, nI_clamp (by omega), ei]
        first
          | (refine va_P.app (hP.sub [0] rfl) (va_P.app (cg_of (hP.sub [1, 2, 3, 4, 5, 6, 7, 8, 9, 10] rfl) (upd M (3 + 5 * j + 1) v) (pk_un (by omega)).symm (pk_un (by omega)).symm (pk_un (by omega)).symm ?_ ?_ ?_ ?_ ?_ ?_ ?_ ?_ ?_) (hP.sub [11] rfl)) <;> (intro x hx; first | exact (pk_un (by omega)).symm | exact hz_u5 | exact hz_u50 | exact hz_u4 | exact hz_u40))
          | (refine va_P.app (hP.sub [0] rfl) (va_P.app (cg_of (hP.sub [1, 2, 3, 4, 5, 6, 7, 8, 9, 10] rfl) (upd M (3 + 5 * j + 2) v) (pk_un (by omega)).symm (pk_un (by omega)).symm (pk_un (by omega)).symm ?_ ?_ ?_ ?_ ?_ ?_ ?_ ?_ ?_) (hP.sub [11] rfl)) <;> (intro x hx; first | exact (pk_un (by omega)).symm | exact hz_u5 | exact hz_u50 | exact hz_u4 | exact hz_u40))
          | (refine va_P.app (hP.sub [0] rfl) (va_P.app (cg_of (hP.sub [1, 2, 3, 4, 5, 6, 7, 8, 9, 10] rfl) (upd M (3 + 5 * j + 3) v) (pk_un (by omega)).symm (pk_un (by omega)).symm (pk_un (by omega)).symm ?_ ?_ ?_ ?_ ?_ ?_ ?_ ?_ ?_) (hP.sub [11] rfl)) <;> (intro x hx; first | exact (pk_un (by omega)).symm | exact hz_u5 | exact hz_u50 | exact hz_u4 | exact hz_u40))
          | (refine va_P.app (hP.sub [0] rfl) (va_P.app (cg_of (hP.sub [1, 2, 3, 4, 5, 6, 7, 8, 9, 10] rfl) (upd M (3 + 5 * j + 4) v) (pk_un (by omega)).symm (pk_un (by omega)).symm (pk_un (by omega)).symm ?_ ?_ ?_ ?_ ?_ ?_ ?_ ?_ ?_) (hP.sub [11] rfl)) <;> (intro x hx; first | exact (pk_un (by omega)).symm | exact hz_u5 | exact hz_u50 | exact hz_u4 | exact hz_u40))
    · refine lv_aload_n hx hb dX3_set_23 rfl (lv_at hl 0 rfl) ?_
      refine lv_ldc (v := -1000000001) hx hb hown wd2 dX3_set_24 ?_
      refine hz_ce (As := [.int (-1000000001)]) (rest := []) ⟨hx, hb, hml, hown, hts⟩ (c3_found l D cI cJ (x0 := x0) (a0 := a0) (kc0 := kc0) (tc0 := tc0) (tp0 := tp0) (sh0 := sh0) (fd0 := fd0) (kf := kf) (F := F) (f := -1000000001) (k := 0) (hk := by omega) (hfk := by decide)) (cwV 1 hts gX3_set_X3_found rfl rfl rfl (by decide +kernel) ⟨Nat.le_of_ble_eq_true rfl, Nat.le_of_ble_eq_true rfl⟩) hK hP hD hS [0, 11] rfl (by decide) rfl (w' := [(x0, .inr (3, [.ref a0, .ref kc0, .ref tc0, .ref tp0, .ref sh0, .ref fd0, .int (kf)])), (a0, .inr (0, [.int (M 0), .int (M 1), .ref k_, .ref p_, .ref t_, .ref h_, .ref w_, .int (M 2), .ref b_, .ref g_, .ref i_, .ref f_])), (k_, .inl (cI, 8, .inl (fun x_ => M (3 + 5 * x_)))), (p_, .inl (cI, 8, .inl (fun x_ => M (3 + 5 * x_ + 1)))), (t_, .inl (cI, 8, .inl (fun x_ => M (3 + 5 * x_ + 2)))), (h_, .inl (cI, 8, .inl (fun x_ => M (3 + 5 * x_ + 3)))), (w_, .inl (cI, 8, .inl (fun x_ => M (3 + 5 * x_ + 4)))), (b_, .inl (cI, 8, .inl (fun x_ => M (43 + 4 * x_)))), (g_, .inl (cI, 8, .inl (fun x_ => M (43 + 4 * x_ + 1)))), (i_, .inl (cI, 8, .inl (fun x_ => M (43 + 4 * x_ + 2)))), (f_, .inl (cI, 8, .inl (fun x_ => M (43 + 4 * x_ + 3)))), (fd0, .inl (cI, 7, .inl (sp_fd F 0)))]) rfl [0, 1] rfl 0 rfl rfl rfl rfl hl.1 rfl (Nat.le_of_ble_eq_true rfl) dX3_set_26 ⟨Nat.zero_le _, Nat.zero_le _⟩ (fun H locs hP hD hS => ?_)
      refine W.eq (g2 := F0 m 29 ls [.int ((-1000000001))]) rfl ?_
      refine hz_ei hx hb hr hlocks rfl ?_ hS (by rw [show fd_set M d w v = some 0 from (if_pos c8).trans (if_neg c20)]; rfl) dX3_set_29
      rw [show fd_set M d w v = some 0 from (if_pos c8).trans (if_neg c20)]
      exact hP
set_option maxHeartbeats 4000000 in
set_option maxRecDepth 100000 in
theorem c4_turn (l : Launch) (D : va_G) (cI cJ : ClassId) (h0 am af : Nat) (fs : List Value) (M F : Nat → Int32) (b : Nat) (d w : Int32) (hf : fs[0]? = some (.ref am)) (hf4 : fs[4]? = some (.ref af)) (hI : hz_I b M) : hz_ME l yX4_turn wsX4_turn { frames := 2, cells := 0, slots := 0, locals := 44 } [.ref h0, .int (d), .int (w)] D zcl [(cI, .int), (cJ, .long)] [(h0, .inr (4, fs)), (am, .inl (cI, 75, .inl M)), (af, .inl (cI, 7, .inl F))] [(h0, .inr (4, fs)), (am, .inl (cI, 75, .inl (sp_fM (fd_turn M d w) M (upd M (3 + 5 * cl d) w)))), (af, .inl (cI, 7, .inl (sp_ff F (fd_turn M d w))))] (some (.int (sp_fr (fd_turn M d w) (M (3 + 5 * cl d))))) := by
  refine hz_me (cc := cX4_turn) (maxL := 3) (ret := (some .int)) (by decide) rfl (Nat.le_of_ble_eq_true rfl) ?_
  intro p e s m below meth c hx hb hr hts hown hlocks hml hP hK hD ls hl
  have hS : va_S (hz_a [(h0, .inr (4, fs)), (am, .inl (cI, 75, .inl M)), (af, .inl (cI, 7, .inl F))]) s.heap s.heap [] := va_S.rf
  have hown : s.vm.findClass RX4 = some m.cls := hown
  have hl : lv_has ls 3 [(0, .ref h0), (1, .int (d)), (2, .int (w))] := hl
  have wd1 := hts (.constant RX4 35 (-1000000001)) (List.mem_of_getElem? (i := 1) rfl)
  obtain ⟨⟨hM0, hTb, hM1, hD8, hM2, hS8⟩, hID, hIS⟩ := id hI
  refine lv_aload_n hx hb dX4_turn_0 rfl (lv_at hl 0 rfl) ?_
  refine lv_iload_n hx hb dX4_turn_1 rfl (lv_at hl 1 rfl) ?_
  refine hz_cv (As := [.int (d)]) (rest := []) ⟨hx, hb, hml, hown, hts⟩ (c4_isThere l D cI cJ (h0 := h0) (am := am) (fs := fs) (M := M) (x := d) (hf := by first | assumption | rfl) (hM1 := by first | assumption | rfl) (hD8 := by first | assumption | rfl)) (cwV 1 hts gX4_turn_X4_isThere rfl rfl rfl (by decide +kernel) ⟨Nat.le_of_ble_eq_true rfl, Nat.le_of_ble_eq_true rfl⟩) hK hP [0, 1] rfl [0, 1] rfl 0 rfl rfl rfl rfl hl.1 rfl (Nat.le_of_ble_eq_true rfl) dX4_turn_2 ⟨Nat.zero_le _, Nat.zero_le _⟩ ?_
  refine hz_ifb_eq (tgt := 31) hx hb dX4_turn_5 (by decide) (fun c5 => ?_) (fun c5 => ?_)
  · refine lv_aload_n hx hb dX4_turn_31 rfl (lv_at hl 0 rfl) ?_
    refine lv_ldc (v := -1000000001) hx hb hown wd1 dX4_turn_32 ?_
    refine hz_ce (As := [.int (-1000000001)]) (rest := []) ⟨hx, hb, hml, hown, hts⟩ (c4_finds l D cI cJ (h0 := h0) (af := af) (fs := fs) (F := F) (f := -1000000001) (k := 0) (hf := by first | assumption | rfl) (hk := by omega) (hfk := by decide)) (cwV 1 hts gX4_turn_X4_finds rfl rfl rfl (by decide +kernel) ⟨Nat.le_of_ble_eq_true rfl, Nat.le_of_ble_eq_true rfl⟩) hK hP hD hS [0, 2] rfl (by decide) rfl (w' := [(h0, .inr (4, fs)), (am, .inl (cI, 75, .inl M)), (af, .inl (cI, 7, .inl (sp_fd F 0)))]) rfl [0, 1] rfl 0 rfl rfl rfl rfl hl.1 rfl (Nat.le_of_ble_eq_true rfl) dX4_turn_34 ⟨Nat.zero_le _, Nat.zero_le _⟩ (fun H locs hP hD hS => ?_)
    refine W.eq (g2 := F0 m 37 ls [.int ((-1000000001))]) rfl ?_
    refine hz_ei hx hb hr hlocks rfl ?_ hS (by rw [show fd_turn M d w = some 0 from if_neg c5]; rfl) dX4_turn_37
    rw [show fd_turn M d w = some 0 from if_neg c5]
    exact hP
  · refine lv_iload_n hx hb dX4_turn_8 rfl (lv_at hl 2 rfl) ?_
    refine lv_i2l (v := w.toInt64) hx hb dX4_turn_9 rfl ?_
    refine lv_iconst (v := nI 0) hx hb dX4_turn_10 (by decide) ?_
    refine lv_iconst (v := nI 5) hx hb dX4_turn_11 (by decide) ?_
    refine hz_cs (As := [.long (w.toInt64), .int (nI 0), .int (nI 5)]) (rest := []) ⟨hx, hb, hml, hown, hts⟩ (c4_in32 l D cI cJ (x := w) (a := nI 0) (b := nI 5) ) (va_cwS 3 hts gX4_turn_X4_in rfl rfl rfl (by decide +kernel) ⟨Nat.le_of_ble_eq_true rfl, Nat.le_of_ble_eq_true rfl⟩) hK hP [] rfl [0, 1] rfl rfl hl.1 rfl (Nat.le_of_ble_eq_true rfl) dX4_turn_12 ⟨Nat.zero_le _, Nat.zero_le _⟩ ?_
    refine hz_ifb_eq (tgt := 31) hx hb dX4_turn_15 (by decide) (fun c15 => ?_) (fun c15 => ?_)
    · refine lv_aload_n hx hb dX4_turn_31 rfl (lv_at hl 0 rfl) ?_
      refine lv_ldc (v := -1000000001) hx hb hown wd1 dX4_turn_32 ?_
      refine hz_ce (As := [.int (-1000000001)]) (rest := []) ⟨hx, hb, hml, hown, hts⟩ (c4_finds l D cI cJ (h0 := h0) (af := af) (fs := fs) (F := F) (f := -1000000001) (k := 0) (hf := by first | assumption | rfl) (hk := by omega) (hfk := by decide)) (cwV 1 hts gX4_turn_X4_finds rfl rfl rfl (by decide +kernel) ⟨Nat.le_of_ble_eq_true rfl, Nat.le_of_ble_eq_true rfl⟩) hK hP hD hS [0, 2] rfl (by decide) rfl (w' := [(h0, .inr (4, fs)), (am, .inl (cI, 75, .inl M)), (af, .inl (cI, 7, .inl (sp_fd F 0)))]) rfl [0, 1] rfl 0 rfl rfl rfl rfl hl.1 rfl (Nat.le_of_ble_eq_true rfl) dX4_turn_34 ⟨Nat.zero_le _, Nat.zero_le _⟩ (fun H locs hP hD hS => ?_)
      refine W.eq (g2 := F0 m 37 ls [.int ((-1000000001))]) rfl ?_
      refine hz_ei hx hb hr hlocks rfl ?_ hS (by rw [show fd_turn M d w = some 0 from (if_pos c5).trans (if_neg c15)]; rfl) dX4_turn_37
      rw [show fd_turn M d w = some 0 from (if_pos c5).trans (if_neg c15)]
      exact hP
    · obtain ⟨j, hj, rfl⟩ := hz_in_of c5 (by omega)
      refine lv_aload_n hx hb dX4_turn_18 rfl (lv_at hl 0 rfl) ?_
      refine lv_iconst (v := nI 3) hx hb dX4_turn_19 (by decide) ?_
      refine lv_iconst (v := nI 5) hx hb dX4_turn_20 (by decide) ?_
      refine lv_iload_n hx hb dX4_turn_21 rfl (lv_at hl 1 rfl) ?_
      refine hz_imul hx hb dX4_turn_22 ?_
      refine hz_iadd hx hb dX4_turn_23 ?_
      refine lv_iload_n hx hb dX4_turn_24 rfl (lv_at hl 2 rfl) ?_
      refine hz_ce (As := [.int (nI (3 + 5 * j)), .int (w)]) (rest := []) ⟨hx, hb, hml, hown, hts⟩ (c4_becomes l D cI cJ (h0 := h0) (am := am) (fs := fs) (M := M) (i := 3 + 5 * j) (x := w) (hf := by first | assumption | rfl) (hi := by omega)) (cwV 2 hts gX4_turn_X4_becomes rfl rfl rfl (by decide +kernel) ⟨Nat.le_of_ble_eq_true rfl, Nat.le_of_ble_eq_true rfl⟩) hK hP hD hS [0, 1] rfl (by decide) rfl (w' := [(h0, .inr (4, fs)), (am, .inl (cI, 75, .inl (upd M (3 + 5 * j) w))), (af, .inl (cI, 7, .inl F))]) rfl [0, 1] rfl 0 rfl rfl rfl rfl hl.1 rfl (Nat.le_of_ble_eq_true rfl) dX4_turn_25 ⟨Nat.zero_le _, Nat.zero_le _⟩ (fun H locs hP hD hS => ?_)
      refine W.eq (g2 := F0 m 28 ls [.int (M (3 + 5 * j))]) rfl ?_
      refine lv_goto (tgt := 37) hx hb dX4_turn_28 (by decide) ?_
      refine hz_ei hx hb hr hlocks rfl ?_ hS (by rw [show fd_turn M (nI j) w = none from (if_pos c5).trans (if_pos c15)]; exact fr_n (by rw [cl, nI_clamp (by omega)])) dX4_turn_37
      rw [show fd_turn M (nI j) w = none from (if_pos c5).trans (if_pos c15)]
      rw [cl, nI_clamp (by omega)]
      exact hP
set_option maxHeartbeats 4000000 in
set_option maxRecDepth 100000 in
theorem c3_turn (l : Launch) (D : va_G) (cI cJ : ClassId) (x0 kc0 tc0 tp0 sh0 fd0 : Nat) (kf : Int32) (a0 k_ p_ t_ h_ w_ b_ g_ i_ f_ : Nat) (M F : Nat → Int32) (b : Nat) (d w : Int32) (hI : hz_I b M) : hz_ME l yX3_turn wsX3_turn { frames := 2, cells := 0, slots := 0, locals := 44 } [.ref x0, .int (d), .int (w)] D zcl [(cI, .int), (cJ, .long)] [(x0, .inr (3, [.ref a0, .ref kc0, .ref tc0, .ref tp0, .ref sh0, .ref fd0, .int (kf)])), (a0, .inr (0, [.int (M 0), .int (M 1), .ref k_, .ref p_, .ref t_, .ref h_, .ref w_, .int (M 2), .ref b_, .ref g_, .ref i_, .ref f_])), (k_, .inl (cI, 8, .inl (fun x_ => M (3 + 5 * x_)))), (p_, .inl (cI, 8, .inl (fun x_ => M (3 + 5 * x_ + 1)))), (t_, .inl (cI, 8, .inl (fun x_ => M (3 + 5 * x_ + 2)))), (h_, .inl (cI, 8, .inl (fun x_ => M (3 + 5 * x_ + 3)))), (w_, .inl (cI, 8, .inl (fun x_ => M (3 + 5 * x_ + 4)))), (b_, .inl (cI, 8, .inl (fun x_ => M (43 + 4 * x_)))), (g_, .inl (cI, 8, .inl (fun x_ => M (43 + 4 * x_ + 1)))), (i_, .inl (cI, 8, .inl (fun x_ => M (43 + 4 * x_ + 2)))), (f_, .inl (cI, 8, .inl (fun x_ => M (43 + 4 * x_ + 3)))), (fd0, .inl (cI, 7, .inl F))] [(x0, .inr (3, [.ref a0, .ref kc0, .ref tc0, .ref tp0, .ref sh0, .ref fd0, .int (kf)])), (a0, .inr (0, [.int ((sp_fM (fd_turn M d w) M (upd M (3 + 5 * cl d) w)) 0), .int ((sp_fM (fd_turn M d w) M (upd M (3 + 5 * cl d) w)) 1), .ref k_, .ref p_, .ref t_, .ref h_, .ref w_, .int ((sp_fM (fd_turn M d w) M (upd M (3 + 5 * cl d) w)) 2), .ref b_, .ref g_, .ref i_, .ref f_])), (k_, .inl (cI, 8, .inl (fun x_ => (sp_fM (fd_turn M d w) M (upd M (3 + 5 * cl d) w)) (3 + 5 * x_)))), (p_, .inl (cI, 8, .inl (fun x_ => (sp_fM (fd_turn M d w) M (upd M (3 + 5 * cl d) w)) (3 + 5 * x_ + 1)))), (t_, .inl (cI, 8, .inl (fun x_ => (sp_fM (fd_turn M d w) M (upd M (3 + 5 * cl d) w)) (3 + 5 * x_ + 2)))), (h_, .inl (cI, 8, .inl (fun x_ => (sp_fM (fd_turn M d w) M (upd M (3 + 5 * cl d) w)) (3 + 5 * x_ + 3)))), (w_, .inl (cI, 8, .inl (fun x_ => (sp_fM (fd_turn M d w) M (upd M (3 + 5 * cl d) w)) (3 + 5 * x_ + 4)))), (b_, .inl (cI, 8, .inl (fun x_ => (sp_fM (fd_turn M d w) M (upd M (3 + 5 * cl d) w)) (43 + 4 * x_)))), (g_, .inl (cI, 8, .inl (fun x_ => (sp_fM (fd_turn M d w) M (upd M (3 + 5 * cl d) w)) (43 + 4 * x_ + 1)))), (i_, .inl (cI, 8, .inl (fun x_ => (sp_fM (fd_turn M d w) M (upd M (3 + 5 * cl d) w)) (43 + 4 * x_ + 2)))), (f_, .inl (cI, 8, .inl (fun x_ => (sp_fM (fd_turn M d w) M (upd M (3 + 5 * cl d) w)) (43 + 4 * x_ + 3)))), (fd0, .inl (cI, 7, .inl (sp_ff F (fd_turn M d w))))] (some (.int (sp_fr (fd_turn M d w) (M (3 + 5 * cl d))))) := by
  refine hz_me (cc := cX3_turn) (maxL := 3) (ret := (some .int)) (by decide) rfl (Nat.le_of_ble_eq_true rfl) ?_
  intro p e s m below meth c hx hb hr hts hown hlocks hml hP hK hD ls hl
  have hS : va_S (hz_a [(x0, .inr (3, [.ref a0, .ref kc0, .ref tc0, .ref tp0, .ref sh0, .ref fd0, .int (kf)])), (a0, .inr (0, [.int (M 0), .int (M 1), .ref k_, .ref p_, .ref t_, .ref h_, .ref w_, .int (M 2), .ref b_, .ref g_, .ref i_, .ref f_])), (k_, .inl (cI, 8, .inl (fun x_ => M (3 + 5 * x_)))), (p_, .inl (cI, 8, .inl (fun x_ => M (3 + 5 * x_ + 1)))), (t_, .inl (cI, 8, .inl (fun x_ => M (3 + 5 * x_ + 2)))), (h_, .inl (cI, 8, .inl (fun x_ => M (3 + 5 * x_ + 3)))), (w_, .inl (cI, 8, .inl (fun x_ => M (3 + 5 * x_ + 4)))), (b_, .inl (cI, 8, .inl (fun x_ => M (43 + 4 * x_)))), (g_, .inl (cI, 8, .inl (fun x_ => M (43 + 4 * x_ + 1)))), (i_, .inl (cI, 8, .inl (fun x_ => M (43 + 4 * x_ + 2)))), (f_, .inl (cI, 8, .inl (fun x_ => M (43 + 4 * x_ + 3)))), (fd0, .inl (cI, 7, .inl F))]) s.heap s.heap [] := va_S.rf
  have hown : s.vm.findClass RX3 = some m.cls := hown
  have hl : lv_has ls 3 [(0, .ref x0), (1, .int (d)), (2, .int (w))] := hl
  have hinX0 : ∀ w ∈ u_ws RX0 TX0 12, w ∈ wsX3_turn := fun w h => List.mem_cons_of_mem _ (List.mem_append_right _ (h))
  have hinX3 : ∀ w ∈ u_ws RX3 TX3 7, w ∈ wsX3_turn := fun w h => List.mem_cons_of_mem _ (List.mem_append_left _ (List.mem_append_right _ (h)))
  have wd1 := hts (.fieldLink RX3 10 "HurtSpeech" "live" "LHurtSpeech$Congress;") (List.mem_of_getElem? (i := 1) rfl)
  have wd2 := hts (.constant RX3 48 (-1000000001)) (List.mem_of_getElem? (i := 2) rfl)
  have wd3 := hts (.fieldLink RX3 79 "HurtSpeech$Congress" "kind" "[I") (List.mem_of_getElem? (i := 3) rfl)
  obtain ⟨⟨hM0, hTb, hM1, hD8, hM2, hS8⟩, hID, hIS⟩ := id hI
  refine lv_aload_n hx hb dX3_turn_0 rfl (lv_at hl 0 rfl) ?_
  refine va_get hx hb hts hinX3 hown hK hP 0 rfl rfl 0 (by decide) wd1 (fun _ h => h) rfl dX3_turn_1 ?_
  refine lv_iload_n hx hb dX3_turn_4 rfl (lv_at hl 1 rfl) ?_
  refine hz_cv (As := [.int (d)]) (rest := []) ⟨hx, hb, hml, hown, hts⟩ (c0_hasDelegate l D cI cJ (a0 := a0) (k_ := k_) (p_ := p_) (t_ := t_) (h_ := h_) (w_ := w_) (b_ := b_) (g_ := g_) (i_ := i_) (f_ := f_) (M := M) (x := d) (hM1 := by first | assumption | rfl) (hD8 := by first | assumption | rfl)) (cwV 1 hts gX3_turn_X0_hasDelegate rfl rfl rfl (by decide +kernel) ⟨Nat.le_of_ble_eq_true rfl, Nat.le_of_ble_eq_true rfl⟩) hK hP [1] rfl [0, 1] rfl 1 rfl rfl rfl rfl hl.1 rfl (Nat.le_of_ble_eq_true rfl) dX3_turn_5 ⟨Nat.zero_le _, Nat.zero_le _⟩ ?_
  refine hz_ifb_eq (tgt := 20) hx hb dX3_turn_8 (by decide) (fun c8 => ?_) (fun c8 => ?_)
  · refine lv_aload_n hx hb dX3_turn_20 rfl (lv_at hl 0 rfl) ?_
    refine lv_ldc (v := -1000000001) hx hb hown wd2 dX3_turn_21 ?_
    refine hz_ce (As := [.int (-1000000001)]) (rest := []) ⟨hx, hb, hml, hown, hts⟩ (c3_found l D cI cJ (x0 := x0) (a0 := a0) (kc0 := kc0) (tc0 := tc0) (tp0 := tp0) (sh0 := sh0) (fd0 := fd0) (kf := kf) (F := F) (f := -1000000001) (k := 0) (hk := by omega) (hfk := by decide)) (cwV 1 hts gX3_turn_X3_found rfl rfl rfl (by decide +kernel) ⟨Nat.le_of_ble_eq_true rfl, Nat.le_of_ble_eq_true rfl⟩) hK hP hD hS [0, 11] rfl (by decide) rfl (w' := [(x0, .inr (3, [.ref a0, .ref kc0, .ref tc0, .ref tp0, .ref sh0, .ref fd0, .int (kf)])), (a0, .inr (0, [.int (M 0), .int (M 1), .ref k_, .ref p_, .ref t_, .ref h_, .ref w_, .int (M 2), .ref b_, .ref g_, .ref i_, .ref f_])), (k_, .inl (cI, 8, .inl (fun x_ => M (3 + 5 * x_)))), (p_, .inl (cI, 8, .inl (fun x_ => M (3 + 5 * x_ + 1)))), (t_, .inl (cI, 8, .inl (fun x_ => M (3 + 5 * x_ + 2)))), (h_, .inl (cI, 8, .inl (fun x_ => M (3 + 5 * x_ + 3)))), (w_, .inl (cI, 8, .inl (fun x_ => M (3 + 5 * x_ + 4)))), (b_, .inl (cI, 8, .inl (fun x_ => M (43 + 4 * x_)))), (g_, .inl (cI, 8, .inl (fun x_ => M (43 + 4 * x_ + 1)))), (i_, .inl (cI, 8, .inl (fun x_ => M (43 + 4 * x_ + 2)))), (f_, .inl (cI, 8, .inl (fun x_ => M (43 + 4 * x_ + 3)))), (fd0, .inl (cI, 7, .inl (sp_fd F 0)))]) rfl [0, 1] rfl 0 rfl rfl rfl rfl hl.1 rfl (Nat.le_of_ble_eq_true rfl) dX3_turn_23 ⟨Nat.zero_le _, Nat.zero_le _⟩ (fun H locs hP hD hS => ?_)
    refine W.eq (g2 := F0 m 26 ls [.int ((-1000000001))]) rfl ?_
    refine hz_ei hx hb hr hlocks rfl ?_ hS (by rw [show fd_turn M d w = some 0 from if_neg c8]; rfl) dX3_turn_26
    rw [show fd_turn M d w = some 0 from if_neg c8]
    exact hP
  · refine lv_iload_n hx hb dX3_turn_11 rfl (lv_at hl 2 rfl) ?_
    refine lv_iconst (v := nI 0) hx hb dX3_turn_12 (by decide) ?_
    refine lv_iconst (v := nI 5) hx hb dX3_turn_13 (by decide) ?_
    refine hz_cs (As := [.int (w), .int (nI 0), .int (nI 5)]) (rest := []) ⟨hx, hb, hml, hown, hts⟩ (c3_isWithin l D cI cJ (x := w) (a := nI 0) (b := nI 5) ) (va_cwS 3 hts gX3_turn_X3_isWithin rfl rfl rfl (by decide +kernel) ⟨Nat.le_of_ble_eq_true rfl, Nat.le_of_ble_eq_true rfl⟩) hK hP [] rfl [0, 1] rfl rfl hl.1 rfl (Nat.le_of_ble_eq_true rfl) dX3_turn_14 ⟨Nat.zero_le _, Nat.zero_le _⟩ ?_
    refine hz_ifb_ne (tgt := 27) hx hb dX3_turn_17 (by decide) (fun c17 => ?_) (fun c17 => ?_)
    · obtain ⟨j, hj, rfl⟩ := hz_in_of c8 (by omega)
      refine lv_aload_n hx hb dX3_turn_27 rfl (lv_at hl 0 rfl) ?_
      refine va_get hx hb hts hinX3 hown hK hP 0 rfl rfl 0 (by decide) wd1 (fun _ h => h) rfl dX3_turn_28 ?_
      refine va_get hx hb hts hinX0 hown hK hP 1 rfl rfl 2 (by decide) wd3 (fun _ h => h) rfl dX3_turn_31 ?_
      refine lv_iload_n hx hb dX3_turn_34 rfl (lv_at hl 1 rfl) ?_
      refine lv_iload_n hx hb dX3_turn_35 rfl (lv_at hl 2 rfl) ?_
      refine hz_cse (As := [.ref k_, .int (nI j), .int (w)]) (rest := []) ⟨hx, hb, hml, hown, hts⟩ (c3_exchange l D cI cJ (r_ := k_) (F := fun x_ => M (3 + 5 * x_)) (i := j) (v := w) (hi := by omega)) (va_cwS 3 hts gX3_turn_X3_exchange rfl rfl rfl (by decide +kernel) ⟨Nat.le_of_ble_eq_true rfl, Nat.le_of_ble_eq_true rfl⟩) hK hP hD hS [2] rfl (by decide) rfl (w' := [(x0, .inr (3, [.ref a0, .ref kc0, .ref tc0, .ref tp0, .ref sh0, .ref fd0, .int (kf)])), (a0, .inr (0, [.int (M 0), .int (M 1), .ref k_, .ref p_, .ref t_, .ref h_, .ref w_, .int (M 2), .ref b_, .ref g_, .ref i_, .ref f_])), (k_, .inl (cI, 8, .inl (upd (fun x_ => M (3 + 5 * x_)) j w))), (p_, .inl (cI, 8, .inl (fun x_ => M (3 + 5 * x_ + 1)))), (t_, .inl (cI, 8, .inl (fun x_ => M (3 + 5 * x_ + 2)))), (h_, .inl (cI, 8, .inl (fun x_ => M (3 + 5 * x_ + 3)))), (w_, .inl (cI, 8, .inl (fun x_ => M (3 + 5 * x_ + 4)))), (b_, .inl (cI, 8, .inl (fun x_ => M (43 + 4 * x_)))), (g_, .inl (cI, 8, .inl (fun x_ => M (43 + 4 * x_ + 1)))), (i_, .inl (cI, 8, .inl (fun x_ => M (43 + 4 * x_ + 2)))), (f_, .inl (cI, 8, .inl (fun x_ => M (43 + 4 * x_ + 3)))), (fd0, .inl (cI, 7, .inl F))]) rfl [0, 1] rfl rfl hl.1 rfl (Nat.le_of_ble_eq_true rfl) dX3_turn_36 ⟨Nat.zero_le _, Nat.zero_le _⟩ (fun H locs hP hD hS => ?_)
      refine W.eq (g2 := F0 m 39 ls [.int ((fun x_ => M (3 + 5 * x_)) j)]) rfl ?_
      refine hz_ei hx hb hr hlocks rfl ?_ hS (by rw [show fd_turn M (nI j) w = none from (if_pos c8).trans (if_pos c17)]; exact fr_n (by rw [cl, nI_clamp (by omega)])) dX3_turn_39
      rw [show fd_turn M (nI j) w = none from (if_pos c8).trans (if_pos c17)]
      rw [cl, nI_clamp (by omega)]
      refine va_P.app (hP.sub [0] rfl) (va_P.app (cg_of (hP.sub [1, 2, 3, 4, 5, 6, 7, 8, 9, 10] rfl) (upd M (3 + 5 * j) w) (pk_un (by omega)).symm (pk_un (by omega)).symm (pk_un (by omega)).symm ?_ ?_ ?_ ?_ ?_ ?_ ?_ ?_ ?_) (hP.sub [11] rfl)) <;> (intro x hx; first | exact (pk_un (by omega)).symm | exact hz_u5 | exact hz_u50 | exact hz_u4 | exact hz_u40)
    · refine lv_aload_n hx hb dX3_turn_20 rfl (lv_at hl 0 rfl) ?_
      refine lv_ldc (v := -1000000001) hx hb hown wd2 dX3_turn_21 ?_
      refine hz_ce (As := [.int (-1000000001)]) (rest := []) ⟨hx, hb, hml, hown, hts⟩ (c3_found l D cI cJ (x0 := x0) (a0 := a0) (kc0 := kc0) (tc0 := tc0) (tp0 := tp0) (sh0 := sh0) (fd0 := fd0) (kf := kf) (F := F) (f := -1000000001) (k := 0) (hk := by omega) (hfk := by decide)) (cwV 1 hts gX3_turn_X3_found rfl rfl rfl (by decide +kernel) ⟨Nat.le_of_ble_eq_true rfl, Nat.le_of_ble_eq_true rfl⟩) hK hP hD hS [0, 11] rfl (by decide) rfl (w' := [(x0, .inr (3, [.ref a0, .ref kc0, .ref tc0, .ref tp0, .ref sh0, .ref fd0, .int (kf)])), (a0, .inr (0, [.int (M 0), .int (M 1), .ref k_, .ref p_, .ref t_, .ref h_, .ref w_, .int (M 2), .ref b_, .ref g_, .ref i_, .ref f_])), (k_, .inl (cI, 8, .inl (fun x_ => M (3 + 5 * x_)))), (p_, .inl (cI, 8, .inl (fun x_ => M (3 + 5 * x_ + 1)))), (t_, .inl (cI, 8, .inl (fun x_ => M (3 + 5 * x_ + 2)))), (h_, .inl (cI, 8, .inl (fun x_ => M (3 + 5 * x_ + 3)))), (w_, .inl (cI, 8, .inl (fun x_ => M (3 + 5 * x_ + 4)))), (b_, .inl (cI, 8, .inl (fun x_ => M (43 + 4 * x_)))), (g_, .inl (cI, 8, .inl (fun x_ => M (43 + 4 * x_ + 1)))), (i_, .inl (cI, 8, .inl (fun x_ => M (43 + 4 * x_ + 2)))), (f_, .inl (cI, 8, .inl (fun x_ => M (43 + 4 * x_ + 3)))), (fd0, .inl (cI, 7, .inl (sp_fd F 0)))]) rfl [0, 1] rfl 0 rfl rfl rfl rfl hl.1 rfl (Nat.le_of_ble_eq_true rfl) dX3_turn_23 ⟨Nat.zero_le _, Nat.zero_le _⟩ (fun H locs hP hD hS => ?_)
      refine W.eq (g2 := F0 m 26 ls [.int ((-1000000001))]) rfl ?_
      refine hz_ei hx hb hr hlocks rfl ?_ hS (by rw [show fd_turn M d w = some 0 from (if_pos c8).trans (if_neg c17)]; rfl) dX3_turn_26
      rw [show fd_turn M d w = some 0 from (if_pos c8).trans (if_neg c17)]
      exact hP
set_option maxHeartbeats 4000000 in
set_option maxRecDepth 100000 in
theorem c4_as (l : Launch) (D : va_G) (cI cJ : ClassId) (h0 am af : Nat) (fs : List Value) (M F : Nat → Int32) (b : Nat) (d w : Int32) (hf : fs[0]? = some (.ref am)) (hf4 : fs[4]? = some (.ref af)) (hI : hz_I b M) : hz_ME l yX4_as wsX4_as { frames := 2, cells := 0, slots := 0, locals := 44 } [.ref h0, .int (d), .int (w)] D zcl [(cI, .int), (cJ, .long)] [(h0, .inr (4, fs)), (am, .inl (cI, 75, .inl M)), (af, .inl (cI, 7, .inl F))] [(h0, .inr (4, fs)), (am, .inl (cI, 75, .inl M)), (af, .inl (cI, 7, .inl (sp_ff F (fd_as M d w))))] (some (.int (sp_fr (fd_as M d w) (M (3 + 5 * cl d + 3))))) := by
  refine hz_me (cc := cX4_as) (maxL := 5) (ret := (some .int)) (by decide) rfl (Nat.le_of_ble_eq_true rfl) ?_
  intro p e s m below meth c hx hb hr hts hown hlocks hml hP hK hD ls hl
  have hS : va_S (hz_a [(h0, .inr (4, fs)), (am, .inl (cI, 75, .inl M)), (af, .inl (cI, 7, .inl F))]) s.heap s.heap [] := va_S.rf
  have hown : s.vm.findClass RX4 = some m.cls := hown
  have hl : lv_has ls 5 [(0, .ref h0), (1, .int (d)), (2, .int (w))] := hl
  have wd1 := hts (.constant RX4 35 (-1000000001)) (List.mem_of_getElem? (i := 1) rfl)
  have wd2 := hts (.constant RX4 87 (-1000000003)) (List.mem_of_getElem? (i := 2) rfl)
  obtain ⟨⟨hM0, hTb, hM1, hD8, hM2, hS8⟩, hID, hIS⟩ := id hI
  refine lv_aload_n hx hb dX4_as_0 rfl (lv_at hl 0 rfl) ?_
  refine lv_iload_n hx hb dX4_as_1 rfl (lv_at hl 1 rfl) ?_
  refine hz_cv (As := [.int (d)]) (rest := []) ⟨hx, hb, hml, hown, hts⟩ (c4_isThere l D cI cJ (h0 := h0) (am := am) (fs := fs) (M := M) (x := d) (hf := by first | assumption | rfl) (hM1 := by first | assumption | rfl) (hD8 := by first | assumption | rfl)) (cwV 1 hts gX4_as_X4_isThere rfl rfl rfl (by decide +kernel) ⟨Nat.le_of_ble_eq_true rfl, Nat.le_of_ble_eq_true rfl⟩) hK hP [0, 1] rfl [0, 1] rfl 0 rfl rfl rfl rfl hl.1 rfl (Nat.le_of_ble_eq_true rfl) dX4_as_2 ⟨Nat.zero_le _, Nat.zero_le _⟩ ?_
  refine hz_ifb_eq (tgt := 18) hx hb dX4_as_5 (by decide) (fun c5 => ?_) (fun c5 => ?_)
  · refine lv_aload_n hx hb dX4_as_18 rfl (lv_at hl 0 rfl) ?_
    refine lv_ldc (v := -1000000001) hx hb hown wd1 dX4_as_19 ?_
    refine hz_ce (As := [.int (-1000000001)]) (rest := []) ⟨hx, hb, hml, hown, hts⟩ (c4_finds l D cI cJ (h0 := h0) (af := af) (fs := fs) (F := F) (f := -1000000001) (k := 0) (hf := by first | assumption | rfl) (hk := by omega) (hfk := by decide)) (cwV 1 hts gX4_as_X4_finds rfl rfl rfl (by decide +kernel) ⟨Nat.le_of_ble_eq_true rfl, Nat.le_of_ble_eq_true rfl⟩) hK hP hD hS [0, 2] rfl (by decide) rfl (w' := [(h0, .inr (4, fs)), (am, .inl (cI, 75, .inl M)), (af, .inl (cI, 7, .inl (sp_fd F 0)))]) rfl [0, 1] rfl 0 rfl rfl rfl rfl hl.1 rfl (Nat.le_of_ble_eq_true rfl) dX4_as_21 ⟨Nat.zero_le _, Nat.zero_le _⟩ (fun H locs hP hD hS => ?_)
    refine W.eq (g2 := F0 m 24 ls [.int ((-1000000001))]) rfl ?_
    refine hz_ei hx hb hr hlocks rfl ?_ hS (by rw [show fd_as M d w = some 0 from if_neg c5]; rfl) dX4_as_24
    rw [show fd_as M d w = some 0 from if_neg c5]
    exact hP
  · refine lv_iload_n hx hb dX4_as_8 rfl (lv_at hl 2 rfl) ?_
    refine lv_i2l (v := w.toInt64) hx hb dX4_as_9 rfl ?_
    refine lv_iconst (v := nI 0) hx hb dX4_as_10 (by decide) ?_
    refine lv_iconst (v := nI 5) hx hb dX4_as_11 (by decide) ?_
    refine hz_cs (As := [.long (w.toInt64), .int (nI 0), .int (nI 5)]) (rest := []) ⟨hx, hb, hml, hown, hts⟩ (c4_in32 l D cI cJ (x := w) (a := nI 0) (b := nI 5) ) (va_cwS 3 hts gX4_as_X4_in rfl rfl rfl (by decide +kernel) ⟨Nat.le_of_ble_eq_true rfl, Nat.le_of_ble_eq_true rfl⟩) hK hP [] rfl [0, 1] rfl rfl hl.1 rfl (Nat.le_of_ble_eq_true rfl) dX4_as_12 ⟨Nat.zero_le _, Nat.zero_le _⟩ ?_
    refine hz_ifb_ne (tgt := 25) hx hb dX4_as_15 (by decide) (fun c15 => ?_) (fun c15 => ?_)
    · obtain ⟨j, hj, rfl⟩ := hz_in_of c5 (by omega)
      refine lv_aload_n hx hb dX4_as_25 rfl (lv_at hl 0 rfl) ?_
      refine lv_iload_n hx hb dX4_as_26 rfl (lv_at hl 1 rfl) ?_
      refine lv_iconst (v := nI 0) hx hb dX4_as_27 (by decide) ?_
      refine hz_cv (As := [.int (nI j), .int (nI 0)]) (rest := []) ⟨hx, hb, hml, hown, hts⟩ (c4_it l D cI cJ (h0 := h0) (am := am) (fs := fs) (M := M) (d := j) (w := 0) (hf := by first | assumption | rfl) (hd := by omega) (hw := by omega)) (cwV 2 hts gX4_as_X4_it rfl rfl rfl (by decide +kernel) ⟨Nat.le_of_ble_eq_true rfl, Nat.le_of_ble_eq_true rfl⟩) hK hP [0, 1] rfl [0, 1] rfl 0 rfl rfl rfl rfl hl.1 rfl (Nat.le_of_ble_eq_true rfl) dX4_as_28 ⟨Nat.zero_le _, Nat.zero_le _⟩ ?_
      refine hz_ct (y := M (3 + 5 * j)) rfl ?_
      refine lv_istore_n (lv' := [(3, .int (M (3 + 5 * j))), (0, .ref h0), (1, .int (nI j)), (2, .int (w))]) hx hb dX4_as_31 rfl hl (by decide) rfl (fun ls hl => ?_)
      refine lv_iload_n hx hb dX4_as_32 rfl (lv_at hl 3 rfl) ?_
      refine hz_dia (ls := ls) (hz_b (hz_under (M (3 + 5 * j)) w)) 66 [] (fun jn66 => ?_) ?_
      · refine lv_if_eq (tgt := 61) hx hb dX4_as_33 (by decide) (fun c33 => ?_) (fun c33 => ?_)
        · refine lv_iconst (v := nI 1) hx hb dX4_as_61 (by decide) ?_
          refine lv_goto (tgt := 66) hx hb dX4_as_62 (by decide) ?_
          exact hz_ct ((hz_bt (Or.inl c33)).symm) jn66
        · refine lv_iload_n hx hb dX4_as_36 rfl (lv_at hl 3 rfl) ?_
          refine lv_iload_n hx hb dX4_as_37 rfl (lv_at hl 0 rfl) ?_
          refine lv_icmp_eq (tgt := 61) hx hb dX4_as_38 (by decide) (fun c38 => ?_) (fun c38 => ?_)
          · refine lv_iconst (v := nI 1) hx hb dX4_as_61 (by decide) ?_
            refine lv_goto (tgt := 66) hx hb dX4_as_62 (by decide) ?_
            exact hz_ct ((hz_bt (Or.inr (Or.inl c38))).symm) jn66
          · refine lv_iload_n hx hb dX4_as_41 rfl (lv_at hl 3 rfl) ?_
            refine lv_iconst (v := nI 1) hx hb dX4_as_42 (by decide) ?_
            refine lv_icmp_ne (tgt := 51) hx hb dX4_as_43 (by decide) (fun c43 => ?_) (fun c43 => ?_)
            · refine lv_iload_n hx hb dX4_as_51 rfl (lv_at hl 3 rfl) ?_
              refine lv_iconst (v := nI 2) hx hb dX4_as_52 (by decide) ?_
              refine lv_icmp_ne (tgt := 65) hx hb dX4_as_53 (by decide) (fun c53 => ?_) (fun c53 => ?_)
              · refine lv_iconst (v := nI 0) hx hb dX4_as_65 (by decide) ?_
                exact hz_ct ((hz_bf (fun h => h.elim c33 (fun h => h.elim c38 (fun h => h.elim (fun h => c43 h.1) (fun h => c53 h.1))))).symm) jn66
              · refine lv_iload_n hx hb dX4_as_56 rfl (lv_at hl 0 rfl) ?_
                refine lv_iconst (v := nI 5) hx hb dX4_as_57 (by decide) ?_
                refine lv_icmp_ne (tgt := 65) hx hb dX4_as_58 (by decide) (fun c58 => ?_) (fun c58 => ?_)
                · refine lv_iconst (v := nI 0) hx hb dX4_as_65 (by decide) ?_
                  exact hz_ct ((hz_bf (fun h => h.elim c33 (fun h => h.elim c38 (fun h => h.elim (fun h => c43 h.1) (fun h => c58 h.2))))).symm) jn66
                · refine lv_iconst (v := nI 1) hx hb dX4_as_61 (by decide) ?_
                  refine lv_goto (tgt := 66) hx hb dX4_as_62 (by decide) ?_
                  exact hz_ct ((hz_bt (Or.inr (Or.inr (Or.inr ⟨c53, c58⟩)))).symm) jn66
            · refine lv_iload_n hx hb dX4_as_46 rfl (lv_at hl 0 rfl) ?_
              refine lv_iconst (v := nI 4) hx hb dX4_as_47 (by decide) ?_
              refine lv_icmp_eq (tgt := 61) hx hb dX4_as_48 (by decide) (fun c48 => ?_) (fun c48 => ?_)
              · refine lv_iconst (v := nI 1) hx hb dX4_as_61 (by decide) ?_
                refine lv_goto (tgt := 66) hx hb dX4_as_62 (by decide) ?_
                exact hz_ct ((hz_bt (Or.inr (Or.inr (Or.inl ⟨c43, c48⟩)))).symm) jn66
              · refine lv_iload_n hx hb dX4_as_51 rfl (lv_at hl 3 rfl) ?_
                refine lv_iconst (v := nI 2) hx hb dX4_as_52 (by decide) ?_
                refine lv_icmp_ne (tgt := 65) hx hb dX4_as_53 (by decide) (fun c53 => ?_) (fun c53 => ?_)
                · refine lv_iconst (v := nI 0) hx hb dX4_as_65 (by decide) ?_
                  exact hz_ct ((hz_bf (fun h => h.elim c33 (fun h => h.elim c38 (fun h => h.elim (fun h => c48 h.2) (fun h => c53 h.1))))).symm) jn66
                · refine lv_iload_n hx hb dX4_as_56 rfl (lv_at hl 0 rfl) ?_
                  refine lv_iconst (v := nI 5) hx hb dX4_as_57 (by decide) ?_
                  refine lv_icmp_ne (tgt := 65) hx hb dX4_as_58 (by decide) (fun c58 => ?_) (fun c58 => ?_)
                  · refine lv_iconst (v := nI 0) hx hb dX4_as_65 (by decide) ?_
                    exact hz_ct ((hz_bf (fun h => h.elim c33 (fun h => h.elim c38 (fun h => h.elim (fun h => c48 h.2) (fun h => c58 h.2))))).symm) jn66
                  · refine lv_iconst (v := nI 1) hx hb dX4_as_61 (by decide) ?_
                    refine lv_goto (tgt := 66) hx hb dX4_as_62 (by decide) ?_
                    exact hz_ct ((hz_bt (Or.inr (Or.inr (Or.inr ⟨c53, c58⟩)))).symm) jn66
      · refine lv_istore (lv' := [(4, .int (hz_b (hz_under (M (3 + 5 * j)) w))), (3, .int (M (3 + 5 * j))), (0, .ref h0), (1, .int (nI j)), (2, .int (w))]) hx hb dX4_as_66 hl (by decide) rfl (fun ls hl => ?_)
        refine lv_iload hx hb dX4_as_68 (lv_at hl 0 rfl) ?_
        refine hz_ifb_eq (tgt := 82) hx hb dX4_as_70 (by decide) (fun c70 => ?_) (fun c70 => ?_)
        · refine lv_aload_n hx hb dX4_as_82 rfl (lv_at hl 2 rfl) ?_
          refine lv_ldc (v := -1000000003) hx hb hown wd2 dX4_as_83 ?_
          refine hz_ce (As := [.int (-1000000003)]) (rest := []) ⟨hx, hb, hml, hown, hts⟩ (c4_finds l D cI cJ (h0 := h0) (af := af) (fs := fs) (F := F) (f := -1000000003) (k := 2) (hf := by first | assumption | rfl) (hk := by omega) (hfk := by decide)) (cwV 1 hts gX4_as_X4_finds rfl rfl rfl (by decide +kernel) ⟨Nat.le_of_ble_eq_true rfl, Nat.le_of_ble_eq_true rfl⟩) hK hP hD hS [0, 2] rfl (by decide) rfl (w' := [(h0, .inr (4, fs)), (am, .inl (cI, 75, .inl M)), (af, .inl (cI, 7, .inl (sp_fd F 2)))]) rfl [0, 1] rfl 0 rfl rfl rfl rfl hl.1 rfl (Nat.le_of_ble_eq_true rfl) dX4_as_85 ⟨Nat.zero_le _, Nat.zero_le _⟩ (fun H locs hP hD hS => ?_)
          refine W.eq (g2 := F0 m 88 ls [.int ((-1000000003))]) rfl ?_
          refine hz_ei hx hb hr hlocks rfl ?_ hS (by rw [show fd_as M (nI j) w = some 2 from (if_pos c5).trans ((if_pos c15).trans (if_neg (by rw [cl, nI_clamp (by omega)]; exact c70)))]; rfl) dX4_as_88
          rw [show fd_as M (nI j) w = some 2 from (if_pos c5).trans ((if_pos c15).trans (if_neg (by rw [cl, nI_clamp (by omega)]; exact c70)))]
          exact hP
        · refine lv_aload_n hx hb dX4_as_73 rfl (lv_at hl 2 rfl) ?_
          refine lv_iload_n hx hb dX4_as_74 rfl (lv_at hl 3 rfl) ?_
          refine lv_iconst (v := nI 3) hx hb dX4_as_75 (by decide) ?_
          refine hz_cv (As := [.int (nI j), .int (nI 3)]) (rest := []) ⟨hx, hb, hml, hown, hts⟩ (c4_it l D cI cJ (h0 := h0) (am := am) (fs := fs) (M := M) (d := j) (w := 3) (hf := by first | assumption | rfl) (hd := by omega) (hw := by omega)) (cwV 2 hts gX4_as_X4_it rfl rfl rfl (by decide +kernel) ⟨Nat.le_of_ble_eq_true rfl, Nat.le_of_ble_eq_true rfl⟩) hK hP [0, 1] rfl [0, 1] rfl 0 rfl rfl rfl rfl hl.1 rfl (Nat.le_of_ble_eq_true rfl) dX4_as_76 ⟨Nat.zero_le _, Nat.zero_le _⟩ ?_
          refine lv_goto (tgt := 88) hx hb dX4_as_79 (by decide) ?_
          refine hz_ei hx hb hr hlocks rfl ?_ hS (by rw [show fd_as M (nI j) w = none from (if_pos c5).trans ((if_pos c15).trans (if_pos (by rw [cl, nI_clamp (by omega)]; exact c70)))]; exact fr_n (by rw [cl, nI_clamp (by omega)])) dX4_as_88
          rw [show fd_as M (nI j) w = none from (if_pos c5).trans ((if_pos c15).trans (if_pos (by rw [cl, nI_clamp (by omega)]; exact c70)))]
          exact hP
    · refine lv_aload_n hx hb dX4_as_18 rfl (lv_at hl 0 rfl) ?_
      refine lv_ldc (v := -1000000001) hx hb hown wd1 dX4_as_19 ?_
      refine hz_ce (As := [.int (-1000000001)]) (rest := []) ⟨hx, hb, hml, hown, hts⟩ (c4_finds l D cI cJ (h0 := h0) (af := af) (fs := fs) (F := F) (f := -1000000001) (k := 0) (hf := by first | assumption | rfl) (hk := by omega) (hfk := by decide)) (cwV 1 hts gX4_as_X4_finds rfl rfl rfl (by decide +kernel) ⟨Nat.le_of_ble_eq_true rfl, Nat.le_of_ble_eq_true rfl⟩) hK hP hD hS [0, 2] rfl (by decide) rfl (w' := [(h0, .inr (4, fs)), (am, .inl (cI, 75, .inl M)), (af, .inl (cI, 7, .inl (sp_fd F 0)))]) rfl [0, 1] rfl 0 rfl rfl rfl rfl hl.1 rfl (Nat.le_of_ble_eq_true rfl) dX4_as_21 ⟨Nat.zero_le _, Nat.zero_le _⟩ (fun H locs hP hD hS => ?_)
      refine W.eq (g2 := F0 m 24 ls [.int ((-1000000001))]) rfl ?_
      refine hz_ei hx hb hr hlocks rfl ?_ hS (by rw [show fd_as M d w = some 0 from (if_pos c5).trans (if_neg c15)]; rfl) dX4_as_24
      rw [show fd_as M d w = some 0 from (if_pos c5).trans (if_neg c15)]
      exact hP
set_option maxHeartbeats 4000000 in
set_option maxRecDepth 100000 in
theorem c3_as (l : Launch) (D : va_G) (cI cJ : ClassId) (x0 kc0 tc0 tp0 sh0 fd0 : Nat) (kf : Int32) (a0 k_ p_ t_ h_ w_ b_ g_ i_ f_ : Nat) (M F : Nat → Int32) (b : Nat) (d w : Int32) (hI : hz_I b M) : hz_ME l yX3_as wsX3_as { frames := 2, cells := 0, slots := 0, locals := 44 } [.ref x0, .int (d), .int (w)] D zcl [(cI, .int), (cJ, .long)] [(x0, .inr (3, [.ref a0, .ref kc0, .ref tc0, .ref tp0, .ref sh0, .ref fd0, .int (kf)])), (a0, .inr (0, [.int (M 0), .int (M 1), .ref k_, .ref p_, .ref t_, .ref h_, .ref w_, .int (M 2), .ref b_, .ref g_, .ref i_, .ref f_])), (k_, .inl (cI, 8, .inl (fun x_ => M (3 + 5 * x_)))), (p_, .inl (cI, 8, .inl (fun x_ => M (3 + 5 * x_ + 1)))), (t_, .inl (cI, 8, .inl (fun x_ => M (3 + 5 * x_ + 2)))), (h_, .inl (cI, 8, .inl (fun x_ => M (3 + 5 * x_ + 3)))), (w_, .inl (cI, 8, .inl (fun x_ => M (3 + 5 * x_ + 4)))), (b_, .inl (cI, 8, .inl (fun x_ => M (43 + 4 * x_)))), (g_, .inl (cI, 8, .inl (fun x_ => M (43 + 4 * x_ + 1)))), (i_, .inl (cI, 8, .inl (fun x_ => M (43 + 4 * x_ + 2)))), (f_, .inl (cI, 8, .inl (fun x_ => M (43 + 4 * x_ + 3)))), (fd0, .inl (cI, 7, .inl F))] [(x0, .inr (3, [.ref a0, .ref kc0, .ref tc0, .ref tp0, .ref sh0, .ref fd0, .int (kf)])), (a0, .inr (0, [.int (M 0), .int (M 1), .ref k_, .ref p_, .ref t_, .ref h_, .ref w_, .int (M 2), .ref b_, .ref g_, .ref i_, .ref f_])), (k_, .inl (cI, 8, .inl (fun x_ => M (3 + 5 * x_)))), (p_, .inl (cI, 8, .inl (fun x_ => M (3 + 5 * x_ + 1)))), (t_, .inl (cI, 8, .inl (fun x_ => M (3 + 5 * x_ + 2)))), (h_, .inl (cI, 8, .inl (fun x_ => M (3 + 5 * x_ + 3)))), (w_, .inl (cI, 8, .inl (fun x_ => M (3 + 5 * x_ + 4)))), (b_, .inl (cI, 8, .inl (fun x_ => M (43 + 4 * x_)))), (g_, .inl (cI, 8, .inl (fun x_ => M (43 + 4 * x_ + 1)))), (i_, .inl (cI, 8, .inl (fun x_ => M (43 + 4 * x_ + 2)))), (f_, .inl (cI, 8, .inl (fun x_ => M (43 + 4 * x_ + 3)))), (fd0, .inl (cI, 7, .inl (sp_ff F (fd_as M d w))))] (some (.int (sp_fr (fd_as M d w) (M (3 + 5 * cl d + 3))))) := by
  refine hz_me (cc := cX3_as) (maxL := 3) (ret := (some .int)) (by decide) rfl (Nat.le_of_ble_eq_true rfl) ?_
  intro p e s m below meth c hx hb hr hts hown hlocks hml hP hK hD ls hl
  have hS : va_S (hz_a [(x0, .inr (3, [.ref a0, .ref kc0, .ref tc0, .ref tp0, .ref sh0, .ref fd0, .int (kf)])), (a0, .inr (0, [.int (M 0), .int (M 1), .ref k_, .ref p_, .ref t_, .ref h_, .ref w_, .int (M 2), .ref b_, .ref g_, .ref i_, .ref f_])), (k_, .inl (cI, 8, .inl (fun x_ => M (3 + 5 * x_)))), (p_, .inl (cI, 8, .inl (fun x_ => M (3 + 5 * x_ + 1)))), (t_, .inl (cI, 8, .inl (fun x_ => M (3 + 5 * x_ + 2)))), (h_, .inl (cI, 8, .inl (fun x_ => M (3 + 5 * x_ + 3)))), (w_, .inl (cI, 8, .inl (fun x_ => M (3 + 5 * x_ + 4)))), (b_, .inl (cI, 8, .inl (fun x_ => M (43 + 4 * x_)))), (g_, .inl (cI, 8, .inl (fun x_ => M (43 + 4 * x_ + 1)))), (i_, .inl (cI, 8, .inl (fun x_ => M (43 + 4 * x_ + 2)))), (f_, .inl (cI, 8, .inl (fun x_ => M (43 + 4 * x_ + 3)))), (fd0, .inl (cI, 7, .inl F))]) s.heap s.heap [] := va_S.rf
  have hown : s.vm.findClass RX3 = some m.cls := hown
  have hl : lv_has ls 3 [(0, .ref x0), (1, .int (d)), (2, .int (w))] := hl
  have hinX0 : ∀ w ∈ u_ws RX0 TX0 12, w ∈ wsX3_as := fun w h => List.mem_cons_of_mem _ (List.mem_append_right _ (h))
  have hinX3 : ∀ w ∈ u_ws RX3 TX3 7, w ∈ wsX3_as := fun w h => List.mem_cons_of_mem _ (List.mem_append_left _ (List.mem_append_right _ (h)))
  have wd1 := hts (.fieldLink RX3 10 "HurtSpeech" "live" "LHurtSpeech$Congress;") (List.mem_of_getElem? (i := 1) rfl)
  have wd2 := hts (.constant RX3 48 (-1000000001)) (List.mem_of_getElem? (i := 2) rfl)
  have wd3 := hts (.fieldLink RX3 79 "HurtSpeech$Congress" "kind" "[I") (List.mem_of_getElem? (i := 3) rfl)
  have wd4 := hts (.constant RX3 86 (-1000000003)) (List.mem_of_getElem? (i := 4) rfl)
  have wd5 := hts (.fieldLink RX3 87 "HurtSpeech$Congress" "hurt" "[I") (List.mem_of_getElem? (i := 5) rfl)
  obtain ⟨⟨hM0, hTb, hM1, hD8, hM2, hS8⟩, hID, hIS⟩ := id hI
  refine lv_aload_n hx hb dX3_as_0 rfl (lv_at hl 0 rfl) ?_
  refine va_get hx hb hts hinX3 hown hK hP 0 rfl rfl 0 (by decide) wd1 (fun _ h => h) rfl dX3_as_1 ?_
  refine lv_iload_n hx hb dX3_as_4 rfl (lv_at hl 1 rfl) ?_
  refine hz_cv (As := [.int (d)]) (rest := []) ⟨hx, hb, hml, hown, hts⟩ (c0_hasDelegate l D cI cJ (a0 := a0) (k_ := k_) (p_ := p_) (t_ := t_) (h_ := h_) (w_ := w_) (b_ := b_) (g_ := g_) (i_ := i_) (f_ := f_) (M := M) (x := d) (hM1 := by first | assumption | rfl) (hD8 := by first | assumption | rfl)) (cwV 1 hts gX3_as_X0_hasDelegate rfl rfl rfl (by decide +kernel) ⟨Nat.le_of_ble_eq_true rfl, Nat.le_of_ble_eq_true rfl⟩) hK hP [1] rfl [0, 1] rfl 1 rfl rfl rfl rfl hl.1 rfl (Nat.le_of_ble_eq_true rfl) dX3_as_5 ⟨Nat.zero_le _, Nat.zero_le _⟩ ?_
  refine hz_ifb_eq (tgt := 20) hx hb dX3_as_8 (by decide) (fun c8 => ?_) (fun c8 => ?_)
  · refine lv_aload_n hx hb dX3_as_20 rfl (lv_at hl 0 rfl) ?_
    refine lv_ldc (v := -1000000001) hx hb hown wd2 dX3_as_21 ?_
    refine hz_ce (As := [.int (-1000000001)]) (rest := []) ⟨hx, hb, hml, hown, hts⟩ (c3_found l D cI cJ (x0 := x0) (a0 := a0) (kc0 := kc0) (tc0 := tc0) (tp0 := tp0) (sh0 := sh0) (fd0 := fd0) (kf := kf) (F := F) (f := -1000000001) (k := 0) (hk := by omega) (hfk := by decide)) (cwV 1 hts gX3_as_X3_found rfl rfl rfl (by decide +kernel) ⟨Nat.le_of_ble_eq_true rfl, Nat.le_of_ble_eq_true rfl⟩) hK hP hD hS [0, 11] rfl (by decide) rfl (w' := [(x0, .inr (3, [.ref a0, .ref kc0, .ref tc0, .ref tp0, .ref sh0, .ref fd0, .int (kf)])), (a0, .inr (0, [.int (M 0), .int (M 1), .ref k_, .ref p_, .ref t_, .ref h_, .ref w_, .int (M 2), .ref b_, .ref g_, .ref i_, .ref f_])), (k_, .inl (cI, 8, .inl (fun x_ => M (3 + 5 * x_)))), (p_, .inl (cI, 8, .inl (fun x_ => M (3 + 5 * x_ + 1)))), (t_, .inl (cI, 8, .inl (fun x_ => M (3 + 5 * x_ + 2)))), (h_, .inl (cI, 8, .inl (fun x_ => M (3 + 5 * x_ + 3)))), (w_, .inl (cI, 8, .inl (fun x_ => M (3 + 5 * x_ + 4)))), (b_, .inl (cI, 8, .inl (fun x_ => M (43 + 4 * x_)))), (g_, .inl (cI, 8, .inl (fun x_ => M (43 + 4 * x_ + 1)))), (i_, .inl (cI, 8, .inl (fun x_ => M (43 + 4 * x_ + 2)))), (f_, .inl (cI, 8, .inl (fun x_ => M (43 + 4 * x_ + 3)))), (fd0, .inl (cI, 7, .inl (sp_fd F 0)))]) rfl [0, 1] rfl 0 rfl rfl rfl rfl hl.1 rfl (Nat.le_of_ble_eq_true rfl) dX3_as_23 ⟨Nat.zero_le _, Nat.zero_le _⟩ (fun H locs hP hD hS => ?_)
    refine W.eq (g2 := F0 m 26 ls [.int ((-1000000001))]) rfl ?_
    refine hz_ei hx hb hr hlocks rfl ?_ hS (by rw [show fd_as M d w = some 0 from if_neg c8]; rfl) dX3_as_26
    rw [show fd_as M d w = some 0 from if_neg c8]
    exact hP
  · refine lv_iload_n hx hb dX3_as_11 rfl (lv_at hl 2 rfl) ?_
    refine lv_iconst (v := nI 0) hx hb dX3_as_12 (by decide) ?_
    refine lv_iconst (v := nI 5) hx hb dX3_as_13 (by decide) ?_
    refine hz_cs (As := [.int (w), .int (nI 0), .int (nI 5)]) (rest := []) ⟨hx, hb, hml, hown, hts⟩ (c3_isWithin l D cI cJ (x := w) (a := nI 0) (b := nI 5) ) (va_cwS 3 hts gX3_as_X3_isWithin rfl rfl rfl (by decide +kernel) ⟨Nat.le_of_ble_eq_true rfl, Nat.le_of_ble_eq_true rfl⟩) hK hP [] rfl [0, 1] rfl rfl hl.1 rfl (Nat.le_of_ble_eq_true rfl) dX3_as_14 ⟨Nat.zero_le _, Nat.zero_le _⟩ ?_
    refine hz_ifb_ne (tgt := 27) hx hb dX3_as_17 (by decide) (fun c17 => ?_) (fun c17 => ?_)
    · obtain ⟨j, hj, rfl⟩ := hz_in_of c8 (by omega)
      refine lv_aload_n hx hb dX3_as_27 rfl (lv_at hl 0 rfl) ?_
      refine va_get hx hb hts hinX3 hown hK hP 0 rfl rfl 0 (by decide) wd1 (fun _ h => h) rfl dX3_as_28 ?_
      refine va_get hx hb hts hinX0 hown hK hP 1 rfl rfl 2 (by decide) wd3 (fun _ h => h) rfl dX3_as_31 ?_
      refine lv_iload_n hx hb dX3_as_34 rfl (lv_at hl 1 rfl) ?_
      refine hz_iald (j := j) hx hb hK hP 2 0 rfl rfl (by omega) (Nat.le_of_ble_eq_true rfl) dX3_as_35 ?_
      refine hz_ct (y := M (3 + 5 * j)) rfl ?_
      refine lv_iload_n hx hb dX3_as_36 rfl (lv_at hl 2 rfl) ?_
      refine hz_cs (As := [.int (M (3 + 5 * j)), .int (w)]) (rest := []) ⟨hx, hb, hml, hown, hts⟩ (c0_isUnder l D cI cJ (x := M (3 + 5 * j)) (y := w) ) (va_cwS 2 hts gX3_as_X0_isUnder rfl rfl rfl (by decide +kernel) ⟨Nat.le_of_ble_eq_true rfl, Nat.le_of_ble_eq_true rfl⟩) hK hP [] rfl [0, 1] rfl rfl hl.1 rfl (Nat.le_of_ble_eq_true rfl) dX3_as_37 ⟨Nat.zero_le _, Nat.zero_le _⟩ ?_
      refine hz_ifb_ne (tgt := 50) hx hb dX3_as_40 (by decide) (fun c40 => ?_) (fun c40 => ?_)
      · refine lv_aload_n hx hb dX3_as_50 rfl (lv_at hl 0 rfl) ?_
        refine va_get hx hb hts hinX3 hown hK hP 0 rfl rfl 0 (by decide) wd1 (fun _ h => h) rfl dX3_as_51 ?_
        refine va_get hx hb hts hinX0 hown hK hP 1 rfl rfl 5 (by decide) wd5 (fun _ h => h) rfl dX3_as_54 ?_
        refine lv_iload_n hx hb dX3_as_57 rfl (lv_at hl 1 rfl) ?_
        refine hz_iald (j := j) hx hb hK hP 5 0 rfl rfl (by omega) (Nat.le_of_ble_eq_true rfl) dX3_as_58 ?_
        refine hz_ct (y := M (3 + 5 * j + 3)) rfl ?_
        refine hz_ei hx hb hr hlocks rfl ?_ hS (by rw [show fd_as M (nI j) w = none from (if_pos c8).trans ((if_pos c17).trans (if_pos (by rw [cl, nI_clamp (by omega)]; exact c40)))]; exact fr_n (by rw [cl, nI_clamp (by omega)])) dX3_as_59
        rw [show fd_as M (nI j) w = none from (if_pos c8).trans ((if_pos c17).trans (if_pos (by rw [cl, nI_clamp (by omega)]; exact c40)))]
        exact hP
      · refine lv_aload_n hx hb dX3_as_43 rfl (lv_at hl 0 rfl) ?_
        refine lv_ldc (v := -1000000003) hx hb hown wd4 dX3_as_44 ?_
        refine hz_ce (As := [.int (-1000000003)]) (rest := []) ⟨hx, hb, hml, hown, hts⟩ (c3_found l D cI cJ (x0 := x0) (a0 := a0) (kc0 := kc0) (tc0 := tc0) (tp0 := tp0) (sh0 := sh0) (fd0 := fd0) (kf := kf) (F := F) (f := -1000000003) (k := 2) (hk := by omega) (hfk := by decide)) (cwV 1 hts gX3_as_X3_found rfl rfl rfl (by decide +kernel) ⟨Nat.le_of_ble_eq_true rfl, Nat.le_of_ble_eq_true rfl⟩) hK hP hD hS [0, 11] rfl (by decide) rfl (w' := [(x0, .inr (3, [.ref a0, .ref kc0, .ref tc0, .ref tp0, .ref sh0, .ref fd0, .int (kf)])), (a0, .inr (0, [.int (M 0), .int (M 1), .ref k_, .ref p_, .ref t_, .ref h_, .ref w_, .int (M 2), .ref b_, .ref g_, .ref i_, .ref f_])), (k_, .inl (cI, 8, .inl (fun x_ => M (3 + 5 * x_)))), (p_, .inl (cI, 8, .inl (fun x_ => M (3 + 5 * x_ + 1)))), (t_, .inl (cI, 8, .inl (fun x_ => M (3 + 5 * x_ + 2)))), (h_, .inl (cI, 8, .inl (fun x_ => M (3 + 5 * x_ + 3)))), (w_, .inl (cI, 8, .inl (fun x_ => M (3 + 5 * x_ + 4)))), (b_, .inl (cI, 8, .inl (fun x_ => M (43 + 4 * x_)))), (g_, .inl (cI, 8, .inl (fun x_ => M (43 + 4 * x_ + 1)))), (i_, .inl (cI, 8, .inl (fun x_ => M (43 + 4 * x_ + 2)))), (f_, .inl (cI, 8, .inl (fun x_ => M (43 + 4 * x_ + 3)))), (fd0, .inl (cI, 7, .inl (sp_fd F 2)))]) rfl [0, 1] rfl 0 rfl rfl rfl rfl hl.1 rfl (Nat.le_of_ble_eq_true rfl) dX3_as_46 ⟨Nat.zero_le _, Nat.zero_le _⟩ (fun H locs hP hD hS => ?_)
        refine W.eq (g2 := F0 m 49 ls [.int ((-1000000003))]) rfl ?_
        refine hz_ei hx hb hr hlocks rfl ?_ hS (by rw [show fd_as M (nI j) w = some 2 from (if_pos c8).trans ((if_pos c17).trans (if_neg (by rw [cl, nI_clamp (by omega)]; exact c40)))]; rfl) dX3_as_49
        rw [show fd_as M (nI j) w = some 2 from (if_pos c8).trans ((if_pos c17).trans (if_neg (by rw [cl, nI_clamp (by omega)]; exact c40)))]
        exact hP
    · refine lv_aload_n hx hb dX3_as_20 rfl (lv_at hl 0 rfl) ?_
      refine lv_ldc (v := -1000000001) hx hb hown wd2 dX3_as_21 ?_
      refine hz_ce (As := [.int (-1000000001)]) (rest := []) ⟨hx, hb, hml, hown, hts⟩ (c3_found l D cI cJ (x0 := x0) (a0 := a0) (kc0 := kc0) (tc0 := tc0) (tp0 := tp0) (sh0 := sh0) (fd0 := fd0) (kf := kf) (F := F) (f := -1000000001) (k := 0) (hk := by omega) (hfk := by decide)) (cwV 1 hts gX3_as_X3_found rfl rfl rfl (by decide +kernel) ⟨Nat.le_of_ble_eq_true rfl, Nat.le_of_ble_eq_true rfl⟩) hK hP hD hS [0, 11] rfl (by decide) rfl (w' := [(x0, .inr (3, [.ref a0, .ref kc0, .ref tc0, .ref tp0, .ref sh0, .ref fd0, .int (kf)])), (a0, .inr (0, [.int (M 0), .int (M 1), .ref k_, .ref p_, .ref t_, .ref h_, .ref w_, .int (M 2), .ref b_, .ref g_, .ref i_, .ref f_])), (k_, .inl (cI, 8, .inl (fun x_ => M (3 + 5 * x_)))), (p_, .inl (cI, 8, .inl (fun x_ => M (3 + 5 * x_ + 1)))), (t_, .inl (cI, 8, .inl (fun x_ => M (3 + 5 * x_ + 2)))), (h_, .inl (cI, 8, .inl (fun x_ => M (3 + 5 * x_ + 3)))), (w_, .inl (cI, 8, .inl (fun x_ => M (3 + 5 * x_ + 4)))), (b_, .inl (cI, 8, .inl (fun x_ => M (43 + 4 * x_)))), (g_, .inl (cI, 8, .inl (fun x_ => M (43 + 4 * x_ + 1)))), (i_, .inl (cI, 8, .inl (fun x_ => M (43 + 4 * x_ + 2)))), (f_, .inl (cI, 8, .inl (fun x_ => M (43 + 4 * x_ + 3)))), (fd0, .inl (cI, 7, .inl (sp_fd F 0)))]) rfl [0, 1] rfl 0 rfl rfl rfl rfl hl.1 rfl (Nat.le_of_ble_eq_true rfl) dX3_as_23 ⟨Nat.zero_le _, Nat.zero_le _⟩ (fun H locs hP hD hS => ?_)
      refine W.eq (g2 := F0 m 26 ls [.int ((-1000000001))]) rfl ?_
      refine hz_ei hx hb hr hlocks rfl ?_ hS (by rw [show fd_as M d w = some 0 from (if_pos c8).trans (if_neg c17)]; rfl) dX3_as_26
      rw [show fd_as M d w = some 0 from (if_pos c8).trans (if_neg c17)]
      exact hP
set_option maxHeartbeats 4000000 in
set_option maxRecDepth 100000 in
theorem c4_speech (l : Launch) (D : va_G) (cI cJ : ClassId) (h0 am af : Nat) (fs : List Value) (M F : Nat → Int32) (b : Nat) (y t a f : Int32) (hf : fs[0]? = some (.ref am)) (hf4 : fs[4]? = some (.ref af)) (hI : hz_I b M) : hz_ME l yX4_speech wsX4_speech { frames := 3, cells := 0, slots := 0, locals := 66 } [.ref h0, .int (y), .int (t), .int (a), .int (f)] D zcl [(cI, .int), (cJ, .long)] [(h0, .inr (4, fs)), (am, .inl (cI, 75, .inl M)), (af, .inl (cI, 7, .inl F))] [(h0, .inr (4, fs)), (am, .inl (cI, 75, .inl (sp_fM (fd_speech M y t a f) M (sp_addS M y t a f)))), (af, .inl (cI, 7, .inl (sp_ff F (fd_speech M y t a f))))] (some (.int (sp_fr (fd_speech M y t a f) (nI (nS M))))) := by
  refine hz_me (cc := cX4_speech) (maxL := 5) (ret := (some .int)) (by decide) rfl (Nat.le_of_ble_eq_true rfl) ?_
  intro p e s m below meth c hx hb hr hts hown hlocks hml hP hK hD ls hl
  have hS : va_S (hz_a [(h0, .inr (4, fs)), (am, .inl (cI, 75, .inl M)), (af, .inl (cI, 7, .inl F))]) s.heap s.heap [] := va_S.rf
  have hown : s.vm.findClass RX4 = some m.cls := hown
  have hl : lv_has ls 5 [(0, .ref h0), (1, .int (y)), (2, .int (t)), (3, .int (a)), (4, .int (f))] := hl
  have hinX4 : ∀ w ∈ u_ws RX4 TX4 16, w ∈ wsX4_speech := fun w h => List.mem_cons_of_mem _ (List.mem_append_right _ (h))
  have wd1 := hts (.constant RX4 35 (-1000000001)) (List.mem_of_getElem? (i := 1) rfl)
  have wd2 := hts (.fieldLink RX4 9 "HurtSpeechModel" "m" "[I") (List.mem_of_getElem? (i := 2) rfl)
  have wd3 := hts (.constant RX4 69 (-1000000002)) (List.mem_of_getElem? (i := 3) rfl)
  obtain ⟨⟨hM0, hTb, hM1, hD8, hM2, hS8⟩, hID, hIS⟩ := id hI
  refine lv_aload_n hx hb dX4_speech_0 rfl (lv_at hl 0 rfl) ?_
  refine lv_iconst (v := nI 0) hx hb dX4_speech_1 (by decide) ?_
  refine lv_iload_n hx hb dX4_speech_2 rfl (lv_at hl 1 rfl) ?_
  refine hz_cv (As := [.int (nI 0), .int (y)]) (rest := []) ⟨hx, hb, hml, hown, hts⟩ (c4_mt0 l D cI cJ (h0 := h0) (am := am) (fs := fs) (M := M) (x := y) (hf := by first | assumption | rfl) (hM1 := by first | assumption | rfl) (hD8 := by first | assumption | rfl)) (cwV 2 hts gX4_speech_X4_mayTell rfl rfl rfl (by decide +kernel) ⟨Nat.le_of_ble_eq_true rfl, Nat.le_of_ble_eq_true rfl⟩) hK hP [0, 1] rfl [0, 1] rfl 0 rfl rfl rfl rfl hl.1 rfl (Nat.le_of_ble_eq_true rfl) dX4_speech_3 ⟨Nat.zero_le _, Nat.zero_le _⟩ ?_
  refine hz_ifb_eq (tgt := 37) hx hb dX4_speech_6 (by decide) (fun c6 => ?_) (fun c6 => ?_)
  · refine lv_aload_n hx hb dX4_speech_37 rfl (lv_at hl 0 rfl) ?_
    refine lv_ldc (v := -1000000001) hx hb hown wd1 dX4_speech_38 ?_
    refine hz_ce (As := [.int (-1000000001)]) (rest := []) ⟨hx, hb, hml, hown, hts⟩ (c4_finds l D cI cJ (h0 := h0) (af := af) (fs := fs) (F := F) (f := -1000000001) (k := 0) (hf := by first | assumption | rfl) (hk := by omega) (hfk := by decide)) (cwV 1 hts gX4_speech_X4_finds rfl rfl rfl (by decide +kernel) ⟨Nat.le_of_ble_eq_true rfl, Nat.le_of_ble_eq_true rfl⟩) hK hP hD hS [0, 2] rfl (by decide) rfl (w' := [(h0, .inr (4, fs)), (am, .inl (cI, 75, .inl M)), (af, .inl (cI, 7, .inl (sp_fd F 0)))]) rfl [0, 1] rfl 0 rfl rfl rfl rfl hl.1 rfl (Nat.le_of_ble_eq_true rfl) dX4_speech_40 ⟨Nat.zero_le _, Nat.zero_le _⟩ (fun H locs hP hD hS => ?_)
    refine W.eq (g2 := F0 m 43 ls [.int ((-1000000001))]) rfl ?_
    refine hz_ei hx hb hr hlocks rfl ?_ hS (by rw [show fd_speech M y t a f = some 0 from if_neg (fun h => c6 h.1)]; rfl) dX4_speech_43
    rw [show fd_speech M y t a f = some 0 from if_neg (fun h => c6 h.1)]
    exact hP
  · refine lv_aload_n hx hb dX4_speech_9 rfl (lv_at hl 0 rfl) ?_
    refine lv_iconst (v := nI 1) hx hb dX4_speech_10 (by decide) ?_
    refine lv_iload_n hx hb dX4_speech_11 rfl (lv_at hl 2 rfl) ?_
    refine hz_cv (As := [.int (nI 1), .int (t)]) (rest := []) ⟨hx, hb, hml, hown, hts⟩ (c4_mt1 l D cI cJ (h0 := h0) (am := am) (fs := fs) (M := M) (x := t) (hf := by first | assumption | rfl)) (cwV 2 hts gX4_speech_X4_mayTell rfl rfl rfl (by decide +kernel) ⟨Nat.le_of_ble_eq_true rfl, Nat.le_of_ble_eq_true rfl⟩) hK hP [0, 1] rfl [0, 1] rfl 0 rfl rfl rfl rfl hl.1 rfl (Nat.le_of_ble_eq_true rfl) dX4_speech_12 ⟨Nat.zero_le _, Nat.zero_le _⟩ ?_
    refine hz_ifb_eq (tgt := 37) hx hb dX4_speech_15 (by decide) (fun c15 => ?_) (fun c15 => ?_)
    · refine lv_aload_n hx hb dX4_speech_37 rfl (lv_at hl 0 rfl) ?_
      refine lv_ldc (v := -1000000001) hx hb hown wd1 dX4_speech_38 ?_
      refine hz_ce (As := [.int (-1000000001)]) (rest := []) ⟨hx, hb, hml, hown, hts⟩ (c4_finds l D cI cJ (h0 := h0) (af := af) (fs := fs) (F := F) (f := -1000000001) (k := 0) (hf := by first | assumption | rfl) (hk := by omega) (hfk := by decide)) (cwV 1 hts gX4_speech_X4_finds rfl rfl rfl (by decide +kernel) ⟨Nat.le_of_ble_eq_true rfl, Nat.le_of_ble_eq_true rfl⟩) hK hP hD hS [0, 2] rfl (by decide) rfl (w' := [(h0, .inr (4, fs)), (am, .inl (cI, 75, .inl M)), (af, .inl (cI, 7, .inl (sp_fd F 0)))]) rfl [0, 1] rfl 0 rfl rfl rfl rfl hl.1 rfl (Nat.le_of_ble_eq_true rfl) dX4_speech_40 ⟨Nat.zero_le _, Nat.zero_le _⟩ (fun H locs hP hD hS => ?_)
      refine W.eq (g2 := F0 m 43 ls [.int ((-1000000001))]) rfl ?_
      refine hz_ei hx hb hr hlocks rfl ?_ hS (by rw [show fd_speech M y t a f = some 0 from if_neg (fun h => c15 h.2.1)]; rfl) dX4_speech_43
      rw [show fd_speech M y t a f = some 0 from if_neg (fun h => c15 h.2.1)]
      exact hP
    · refine lv_aload_n hx hb dX4_speech_18 rfl (lv_at hl 0 rfl) ?_
      refine lv_iconst (v := nI 2) hx hb dX4_speech_19 (by decide) ?_
      refine lv_iload_n hx hb dX4_speech_20 rfl (lv_at hl 3 rfl) ?_
      refine hz_cv (As := [.int (nI 2), .int (a)]) (rest := []) ⟨hx, hb, hml, hown, hts⟩ (c4_mt2 l D cI cJ (h0 := h0) (am := am) (fs := fs) (M := M) (x := a) (hf := by first | assumption | rfl) (hM1 := by first | assumption | rfl) (hD8 := by first | assumption | rfl)) (cwV 2 hts gX4_speech_X4_mayTell rfl rfl rfl (by decide +kernel) ⟨Nat.le_of_ble_eq_true rfl, Nat.le_of_ble_eq_true rfl⟩) hK hP [0, 1] rfl [0, 1] rfl 0 rfl rfl rfl rfl hl.1 rfl (Nat.le_of_ble_eq_true rfl) dX4_speech_21 ⟨Nat.zero_le _, Nat.zero_le _⟩ ?_
      refine hz_ifb_eq (tgt := 37) hx hb dX4_speech_24 (by decide) (fun c24 => ?_) (fun c24 => ?_)
      · refine lv_aload_n hx hb dX4_speech_37 rfl (lv_at hl 0 rfl) ?_
        refine lv_ldc (v := -1000000001) hx hb hown wd1 dX4_speech_38 ?_
        refine hz_ce (As := [.int (-1000000001)]) (rest := []) ⟨hx, hb, hml, hown, hts⟩ (c4_finds l D cI cJ (h0 := h0) (af := af) (fs := fs) (F := F) (f := -1000000001) (k := 0) (hf := by first | assumption | rfl) (hk := by omega) (hfk := by decide)) (cwV 1 hts gX4_speech_X4_finds rfl rfl rfl (by decide +kernel) ⟨Nat.le_of_ble_eq_true rfl, Nat.le_of_ble_eq_true rfl⟩) hK hP hD hS [0, 2] rfl (by decide) rfl (w' := [(h0, .inr (4, fs)), (am, .inl (cI, 75, .inl M)), (af, .inl (cI, 7, .inl (sp_fd F 0)))]) rfl [0, 1] rfl 0 rfl rfl rfl rfl hl.1 rfl (Nat.le_of_ble_eq_true rfl) dX4_speech_40 ⟨Nat.zero_le _, Nat.zero_le _⟩ (fun H locs hP hD hS => ?_)
        refine W.eq (g2 := F0 m 43 ls [.int ((-1000000001))]) rfl ?_
        refine hz_ei hx hb hr hlocks rfl ?_ hS (by rw [show fd_speech M y t a f = some 0 from if_neg (fun h => c24 h.2.2.1)]; rfl) dX4_speech_43
        rw [show fd_speech M y t a f = some 0 from if_neg (fun h => c24 h.2.2.1)]
        exact hP
      · refine lv_aload_n hx hb dX4_speech_27 rfl (lv_at hl 0 rfl) ?_
        refine lv_iconst (v := nI 3) hx hb dX4_speech_28 (by decide) ?_
        refine lv_iload hx hb dX4_speech_29 (lv_at hl 4 rfl) ?_
        refine hz_cv (As := [.int (nI 3), .int (f)]) (rest := []) ⟨hx, hb, hml, hown, hts⟩ (c4_mt3 l D cI cJ (h0 := h0) (am := am) (fs := fs) (M := M) (x := f) (hf := by first | assumption | rfl)) (cwV 2 hts gX4_speech_X4_mayTell rfl rfl rfl (by decide +kernel) ⟨Nat.le_of_ble_eq_true rfl, Nat.le_of_ble_eq_true rfl⟩) hK hP [0, 1] rfl [0, 1] rfl 0 rfl rfl rfl rfl hl.1 rfl (Nat.le_of_ble_eq_true rfl) dX4_speech_31 ⟨Nat.zero_le _, Nat.zero_le _⟩ ?_
        refine hz_ifb_ne (tgt := 44) hx hb dX4_speech_34 (by decide) (fun c34 => ?_) (fun c34 => ?_)
        · refine lv_aload_n hx hb dX4_speech_44 rfl (lv_at hl 0 rfl) ?_
          refine va_get hx hb hts hinX4 hown hK hP 0 rfl rfl 0 (by decide) wd2 (fun _ h => h) hf dX4_speech_45 ?_
          refine lv_iconst (v := nI 2) hx hb dX4_speech_48 (by decide) ?_
          refine hz_iald (j := 2) hx hb hK hP 1 0 rfl rfl (by omega) (Nat.le_of_ble_eq_true rfl) dX4_speech_49 ?_
          refine hz_ct (y := nI (nS M)) hM2 ?_
          refine lv_bipush (v := nI 8) hx hb dX4_speech_50 (by decide) ?_
          refine hz_icmp_ne (tgt := 64) (by omega) (by omega) hx hb dX4_speech_52 (by decide) (fun c52 => ?_) (fun c52 => ?_)
          · refine lv_aload_n hx hb dX4_speech_64 rfl (lv_at hl 0 rfl) ?_
            refine lv_iload_n hx hb dX4_speech_65 rfl (lv_at hl 1 rfl) ?_
            refine lv_iload_n hx hb dX4_speech_66 rfl (lv_at hl 2 rfl) ?_
            refine lv_iload_n hx hb dX4_speech_67 rfl (lv_at hl 3 rfl) ?_
            refine lv_iload hx hb dX4_speech_68 (lv_at hl 4 rfl) ?_
            refine hz_ce (As := [.int (y), .int (t), .int (a), .int (f)]) (rest := []) ⟨hx, hb, hml, hown, hts⟩ (c4_isHeld l D cI cJ (h0 := h0) (am := am) (fs := fs) (M := M) (by_ := y) (tg := t) (at_ := a) (fo := f) (hf := by first | assumption | rfl) (hM2 := by first | assumption | rfl) (hS8 := by first | assumption | rfl) (hlt := by omega)) (cwV 4 hts gX4_speech_X4_isHeld rfl rfl rfl (by decide +kernel) ⟨Nat.le_of_ble_eq_true rfl, Nat.le_of_ble_eq_true rfl⟩) hK hP hD hS [0, 1] rfl (by decide) rfl (w' := [(h0, .inr (4, fs)), (am, .inl (cI, 75, .inl (sp_addS M y t a f))), (af, .inl (cI, 7, .inl F))]) rfl [0, 1] rfl 0 rfl rfl rfl rfl hl.1 rfl (Nat.le_of_ble_eq_true rfl) dX4_speech_70 ⟨Nat.zero_le _, Nat.zero_le _⟩ (fun H locs hP hD hS => ?_)
            refine W.eq (g2 := F0 m 73 ls [.int (nI (nS M))]) rfl ?_
            refine hz_ei hx hb hr hlocks rfl ?_ hS (by rw [show fd_speech M y t a f = none from (if_pos ⟨c6, c15, c24, c34⟩).trans (if_neg c52)]; exact fr_n rfl) dX4_speech_73
            rw [show fd_speech M y t a f = none from (if_pos ⟨c6, c15, c24, c34⟩).trans (if_neg c52)]
            exact hP
          · refine lv_aload_n hx hb dX4_speech_55 rfl (lv_at hl 0 rfl) ?_
            refine lv_ldc (v := -1000000002) hx hb hown wd3 dX4_speech_56 ?_
            refine hz_ce (As := [.int (-1000000002)]) (rest := []) ⟨hx, hb, hml, hown, hts⟩ (c4_finds l D cI cJ (h0 := h0) (af := af) (fs := fs) (F := F) (f := -1000000002) (k := 1) (hf := by first | assumption | rfl) (hk := by omega) (hfk := by decide)) (cwV 1 hts gX4_speech_X4_finds rfl rfl rfl (by decide +kernel) ⟨Nat.le_of_ble_eq_true rfl, Nat.le_of_ble_eq_true rfl⟩) hK hP hD hS [0, 2] rfl (by decide) rfl (w' := [(h0, .inr (4, fs)), (am, .inl (cI, 75, .inl M)), (af, .inl (cI, 7, .inl (sp_fd F 1)))]) rfl [0, 1] rfl 0 rfl rfl rfl rfl hl.1 rfl (Nat.le_of_ble_eq_true rfl) dX4_speech_58 ⟨Nat.zero_le _, Nat.zero_le _⟩ (fun H locs hP hD hS => ?_)
            refine W.eq (g2 := F0 m 61 ls [.int ((-1000000002))]) rfl ?_
            refine lv_goto (tgt := 73) hx hb dX4_speech_61 (by decide) ?_
            refine hz_ei hx hb hr hlocks rfl ?_ hS (by rw [show fd_speech M y t a f = some 1 from (if_pos ⟨c6, c15, c24, c34⟩).trans (if_pos c52)]; rfl) dX4_speech_73
            rw [show fd_speech M y t a f = some 1 from (if_pos ⟨c6, c15, c24, c34⟩).trans (if_pos c52)]
            exact hP
        · refine lv_aload_n hx hb dX4_speech_37 rfl (lv_at hl 0 rfl) ?_
          refine lv_ldc (v := -1000000001) hx hb hown wd1 dX4_speech_38 ?_
          refine hz_ce (As := [.int (-1000000001)]) (rest := []) ⟨hx, hb, hml, hown, hts⟩ (c4_finds l D cI cJ (h0 := h0) (af := af) (fs := fs) (F := F) (f := -1000000001) (k := 0) (hf := by first | assumption | rfl) (hk := by omega) (hfk := by decide)) (cwV 1 hts gX4_speech_X4_finds rfl rfl rfl (by decide +kernel) ⟨Nat.le_of_ble_eq_true rfl, Nat.le_of_ble_eq_true rfl⟩) hK hP hD hS [0, 2] rfl (by decide) rfl (w' := [(h0, .inr (4, fs)), (am, .inl (cI, 75, .inl M)), (af, .inl (cI, 7, .inl (sp_fd F 0)))]) rfl [0, 1] rfl 0 rfl rfl rfl rfl hl.1 rfl (Nat.le_of_ble_eq_true rfl) dX4_speech_40 ⟨Nat.zero_le _, Nat.zero_le _⟩ (fun H locs hP hD hS => ?_)
          refine W.eq (g2 := F0 m 43 ls [.int ((-1000000001))]) rfl ?_
          refine hz_ei hx hb hr hlocks rfl ?_ hS (by rw [show fd_speech M y t a f = some 0 from if_neg (fun h => c34 h.2.2.2)]; rfl) dX4_speech_43
          rw [show fd_speech M y t a f = some 0 from if_neg (fun h => c34 h.2.2.2)]
          exact hP
set_option maxHeartbeats 4000000 in
set_option maxRecDepth 100000 in
theorem c3_speech (l : Launch) (D : va_G) (cI cJ : ClassId) (x0 kc0 tc0 tp0 sh0 fd0 : Nat) (kf : Int32) (a0 k_ p_ t_ h_ w_ b_ g_ i_ f_ : Nat) (M F : Nat → Int32) (b : Nat) (y t a f : Int32) (hI : hz_I b M) : hz_ME l yX3_speech wsX3_speech { frames := 2, cells := 0, slots := 0, locals := 44 } [.ref x0, .int (y), .int (t), .int (a), .int (f)] D zcl [(cI, .int), (cJ, .long)] [(x0, .inr (3, [.ref a0, .ref kc0, .ref tc0, .ref tp0, .ref sh0, .ref fd0, .int (kf)])), (a0, .inr (0, [.int (M 0), .int (M 1), .ref k_, .ref p_, .ref t_, .ref h_, .ref w_, .int (M 2), .ref b_, .ref g_, .ref i_, .ref f_])), (k_, .inl (cI, 8, .inl (fun x_ => M (3 + 5 * x_)))), (p_, .inl (cI, 8, .inl (fun x_ => M (3 + 5 * x_ + 1)))), (t_, .inl (cI, 8, .inl (fun x_ => M (3 + 5 * x_ + 2)))), (h_, .inl (cI, 8, .inl (fun x_ => M (3 + 5 * x_ + 3)))), (w_, .inl (cI, 8, .inl (fun x_ => M (3 + 5 * x_ + 4)))), (b_, .inl (cI, 8, .inl (fun x_ => M (43 + 4 * x_)))), (g_, .inl (cI, 8, .inl (fun x_ => M (43 + 4 * x_ + 1)))), (i_, .inl (cI, 8, .inl (fun x_ => M (43 + 4 * x_ + 2)))), (f_, .inl (cI, 8, .inl (fun x_ => M (43 + 4 * x_ + 3)))), (fd0, .inl (cI, 7, .inl F))] [(x0, .inr (3, [.ref a0, .ref kc0, .ref tc0, .ref tp0, .ref sh0, .ref fd0, .int (kf)])), (a0, .inr (0, [.int ((sp_fM (fd_speech M y t a f) M (sp_addS M y t a f)) 0), .int ((sp_fM (fd_speech M y t a f) M (sp_addS M y t a f)) 1), .ref k_, .ref p_, .ref t_, .ref h_, .ref w_, .int ((sp_fM (fd_speech M y t a f) M (sp_addS M y t a f)) 2), .ref b_, .ref g_, .ref i_, .ref f_])), (k_, .inl (cI, 8, .inl (fun x_ => (sp_fM (fd_speech M y t a f) M (sp_addS M y t a f)) (3 + 5 * x_)))), (p_, .inl (cI, 8, .inl (fun x_ => (sp_fM (fd_speech M y t a f) M (sp_addS M y t a f)) (3 + 5 * x_ + 1)))), (t_, .inl (cI, 8, .inl (fun x_ => (sp_fM (fd_speech M y t a f) M (sp_addS M y t a f)) (3 + 5 * x_ + 2)))), (h_, .inl (cI, 8, .inl (fun x_ => (sp_fM (fd_speech M y t a f) M (sp_addS M y t a f)) (3 + 5 * x_ + 3)))), (w_, .inl (cI, 8, .inl (fun x_ => (sp_fM (fd_speech M y t a f) M (sp_addS M y t a f)) (3 + 5 * x_ + 4)))), (b_, .inl (cI, 8, .inl (fun x_ => (sp_fM (fd_speech M y t a f) M (sp_addS M y t a f)) (43 + 4 * x_)))), (g_, .inl (cI, 8, .inl (fun x_ => (sp_fM (fd_speech M y t a f) M (sp_addS M y t a f)) (43 + 4 * x_ + 1)))), (i_, .inl (cI, 8, .inl (fun x_ => (sp_fM (fd_speech M y t a f) M (sp_addS M y t a f)) (43 + 4 * x_ + 2)))), (f_, .inl (cI, 8, .inl (fun x_ => (sp_fM (fd_speech M y t a f) M (sp_addS M y t a f)) (43 + 4 * x_ + 3)))), (fd0, .inl (cI, 7, .inl (sp_ff F (fd_speech M y t a f))))] (some (.int (sp_fr (fd_speech M y t a f) (nI (nS M))))) := by
  refine hz_me (cc := cX3_speech) (maxL := 5) (ret := (some .int)) (by decide) rfl (Nat.le_of_ble_eq_true rfl) ?_
  intro p e s m below meth c hx hb hr hts hown hlocks hml hP hK hD ls hl
  have hS : va_S (hz_a [(x0, .inr (3, [.ref a0, .ref kc0, .ref tc0, .ref tp0, .ref sh0, .ref fd0, .int (kf)])), (a0, .inr (0, [.int (M 0), .int (M 1), .ref k_, .ref p_, .ref t_, .ref h_, .ref w_, .int (M 2), .ref b_, .ref g_, .ref i_, .ref f_])), (k_, .inl (cI, 8, .inl (fun x_ => M (3 + 5 * x_)))), (p_, .inl (cI, 8, .inl (fun x_ => M (3 + 5 * x_ + 1)))), (t_, .inl (cI, 8, .inl (fun x_ => M (3 + 5 * x_ + 2)))), (h_, .inl (cI, 8, .inl (fun x_ => M (3 + 5 * x_ + 3)))), (w_, .inl (cI, 8, .inl (fun x_ => M (3 + 5 * x_ + 4)))), (b_, .inl (cI, 8, .inl (fun x_ => M (43 + 4 * x_)))), (g_, .inl (cI, 8, .inl (fun x_ => M (43 + 4 * x_ + 1)))), (i_, .inl (cI, 8, .inl (fun x_ => M (43 + 4 * x_ + 2)))), (f_, .inl (cI, 8, .inl (fun x_ => M (43 + 4 * x_ + 3)))), (fd0, .inl (cI, 7, .inl F))]) s.heap s.heap [] := va_S.rf
  have hown : s.vm.findClass RX3 = some m.cls := hown
  have hl : lv_has ls 5 [(0, .ref x0), (1, .int (y)), (2, .int (t)), (3, .int (a)), (4, .int (f))] := hl
  have hinX0 : ∀ w ∈ u_ws RX0 TX0 12, w ∈ wsX3_speech := fun w h => List.mem_cons_of_mem _ (List.mem_append_right _ (h))
  have hinX3 : ∀ w ∈ u_ws RX3 TX3 7, w ∈ wsX3_speech := fun w h => List.mem_cons_of_mem _ (List.mem_append_left _ (List.mem_append_right _ (h)))
  have wd1 := hts (.fieldLink RX3 10 "HurtSpeech" "live" "LHurtSpeech$Congress;") (List.mem_of_getElem? (i := 1) rfl)
  have wd2 := hts (.constant RX3 48 (-1000000001)) (List.mem_of_getElem? (i := 2) rfl)
  have wd3 := hts (.fieldLink RX3 93 "HurtSpeech$Congress" "speeches" "I") (List.mem_of_getElem? (i := 3) rfl)
  have wd4 := hts (.constant RX3 57 (-1000000002)) (List.mem_of_getElem? (i := 4) rfl)
  obtain ⟨⟨hM0, hTb, hM1, hD8, hM2, hS8⟩, hID, hIS⟩ := id hI
  refine lv_aload_n hx hb dX3_speech_0 rfl (lv_at hl 0 rfl) ?_
  refine va_get hx hb hts hinX3 hown hK hP 0 rfl rfl 0 (by decide) wd1 (fun _ h => h) rfl dX3_speech_1 ?_
  refine lv_iconst (v := nI 0) hx hb dX3_speech_4 (by decide) ?_
  refine lv_iload_n hx hb dX3_speech_5 rfl (lv_at hl 1 rfl) ?_
  refine hz_cv (As := [.int (nI 0), .int (y)]) (rest := []) ⟨hx, hb, hml, hown, hts⟩ (c0_mt0 l D cI cJ (a0 := a0) (k_ := k_) (p_ := p_) (t_ := t_) (h_ := h_) (w_ := w_) (b_ := b_) (g_ := g_) (i_ := i_) (f_ := f_) (M := M) (x := y) (hM1 := by first | assumption | rfl) (hD8 := by first | assumption | rfl)) (cwV 2 hts gX3_speech_X0_mayTell rfl rfl rfl (by decide +kernel) ⟨Nat.le_of_ble_eq_true rfl, Nat.le_of_ble_eq_true rfl⟩) hK hP [1] rfl [0, 1] rfl 1 rfl rfl rfl rfl hl.1 rfl (Nat.le_of_ble_eq_true rfl) dX3_speech_6 ⟨Nat.zero_le _, Nat.zero_le _⟩ ?_
  refine hz_ifb_eq (tgt := 49) hx hb dX3_speech_9 (by decide) (fun c9 => ?_) (fun c9 => ?_)
  · refine lv_aload_n hx hb dX3_speech_49 rfl (lv_at hl 0 rfl) ?_
    refine lv_ldc (v := -1000000001) hx hb hown wd2 dX3_speech_50 ?_
    refine hz_ce (As := [.int (-1000000001)]) (rest := []) ⟨hx, hb, hml, hown, hts⟩ (c3_found l D cI cJ (x0 := x0) (a0 := a0) (kc0 := kc0) (tc0 := tc0) (tp0 := tp0) (sh0 := sh0) (fd0 := fd0) (kf := kf) (F := F) (f := -1000000001) (k := 0) (hk := by omega) (hfk := by decide)) (cwV 1 hts gX3_speech_X3_found rfl rfl rfl (by decide +kernel) ⟨Nat.le_of_ble_eq_true rfl, Nat.le_of_ble_eq_true rfl⟩) hK hP hD hS [0, 11] rfl (by decide) rfl (w' := [(x0, .inr (3, [.ref a0, .ref kc0, .ref tc0, .ref tp0, .ref sh0, .ref fd0, .int (kf)])), (a0, .inr (0, [.int (M 0), .int (M 1), .ref k_, .ref p_, .ref t_, .ref h_, .ref w_, .int (M 2), .ref b_, .ref g_, .ref i_, .ref f_])), (k_, .inl (cI, 8, .inl (fun x_ => M (3 + 5 * x_)))), (p_, .inl (cI, 8, .inl (fun x_ => M (3 + 5 * x_ + 1)))), (t_, .inl (cI, 8, .inl (fun x_ => M (3 + 5 * x_ + 2)))), (h_, .inl (cI, 8, .inl (fun x_ => M (3 + 5 * x_ + 3)))), (w_, .inl (cI, 8, .inl (fun x_ => M (3 + 5 * x_ + 4)))), (b_, .inl (cI, 8, .inl (fun x_ => M (43 + 4 * x_)))), (g_, .inl (cI, 8, .inl (fun x_ => M (43 + 4 * x_ + 1)))), (i_, .inl (cI, 8, .inl (fun x_ => M (43 + 4 * x_ + 2)))), (f_, .inl (cI, 8, .inl (fun x_ => M (43 + 4 * x_ + 3)))), (fd0, .inl (cI, 7, .inl (sp_fd F 0)))]) rfl [0, 1] rfl 0 rfl rfl rfl rfl hl.1 rfl (Nat.le_of_ble_eq_true rfl) dX3_speech_52 ⟨Nat.zero_le _, Nat.zero_le _⟩ (fun H locs hP hD hS => ?_)
    refine W.eq (g2 := F0 m 55 ls [.int ((-1000000001))]) rfl ?_
    refine hz_ei hx hb hr hlocks rfl ?_ hS (by rw [show fd_speech M y t a f = some 0 from if_neg (fun h => c9 h.1)]; rfl) dX3_speech_55
    rw [show fd_speech M y t a f = some 0 from if_neg (fun h => c9 h.1)]
    exact hP
  · refine lv_aload_n hx hb dX3_speech_12 rfl (lv_at hl 0 rfl) ?_
    refine va_get hx hb hts hinX3 hown hK hP 0 rfl rfl 0 (by decide) wd1 (fun _ h => h) rfl dX3_speech_13 ?_
    refine lv_iconst (v := nI 1) hx hb dX3_speech_16 (by decide) ?_
    refine lv_iload_n hx hb dX3_speech_17 rfl (lv_at hl 2 rfl) ?_
    refine hz_cv (As := [.int (nI 1), .int (t)]) (rest := []) ⟨hx, hb, hml, hown, hts⟩ (c0_mt1 l D cI cJ (a0 := a0) (k_ := k_) (p_ := p_) (t_ := t_) (h_ := h_) (w_ := w_) (b_ := b_) (g_ := g_) (i_ := i_) (f_ := f_) (M := M) (x := t) ) (cwV 2 hts gX3_speech_X0_mayTell rfl rfl rfl (by decide +kernel) ⟨Nat.le_of_ble_eq_true rfl, Nat.le_of_ble_eq_true rfl⟩) hK hP [1] rfl [0, 1] rfl 1 rfl rfl rfl rfl hl.1 rfl (Nat.le_of_ble_eq_true rfl) dX3_speech_18 ⟨Nat.zero_le _, Nat.zero_le _⟩ ?_
    refine hz_ifb_eq (tgt := 49) hx hb dX3_speech_21 (by decide) (fun c21 => ?_) (fun c21 => ?_)
    · refine lv_aload_n hx hb dX3_speech_49 rfl (lv_at hl 0 rfl) ?_
      refine lv_ldc (v := -1000000001) hx hb hown wd2 dX3_speech_50 ?_
      refine hz_ce (As := [.int (-1000000001)]) (rest := []) ⟨hx, hb, hml, hown, hts⟩ (c3_found l D cI cJ (x0 := x0) (a0 := a0) (kc0 := kc0) (tc0 := tc0) (tp0 := tp0) (sh0 := sh0) (fd0 := fd0) (kf := kf) (F := F) (f := -1000000001) (k := 0) (hk := by omega) (hfk := by decide)) (cwV 1 hts gX3_speech_X3_found rfl rfl rfl (by decide +kernel) ⟨Nat.le_of_ble_eq_true rfl, Nat.le_of_ble_eq_true rfl⟩) hK hP hD hS [0, 11] rfl (by decide) rfl (w' := [(x0, .inr (3, [.ref a0, .ref kc0, .ref tc0, .ref tp0, .ref sh0, .ref fd0, .int (kf)])), (a0, .inr (0, [.int (M 0), .int (M 1), .ref k_, .ref p_, .ref t_, .ref h_, .ref w_, .int (M 2), .ref b_, .ref g_, .ref i_, .ref f_])), (k_, .inl (cI, 8, .inl (fun x_ => M (3 + 5 * x_)))), (p_, .inl (cI, 8, .inl (fun x_ => M (3 + 5 * x_ + 1)))), (t_, .inl (cI, 8, .inl (fun x_ => M (3 + 5 * x_ + 2)))), (h_, .inl (cI, 8, .inl (fun x_ => M (3 + 5 * x_ + 3)))), (w_, .inl (cI, 8, .inl (fun x_ => M (3 + 5 * x_ + 4)))), (b_, .inl (cI, 8, .inl (fun x_ => M (43 + 4 * x_)))), (g_, .inl (cI, 8, .inl (fun x_ => M (43 + 4 * x_ + 1)))), (i_, .inl (cI, 8, .inl (fun x_ => M (43 + 4 * x_ + 2)))), (f_, .inl (cI, 8, .inl (fun x_ => M (43 + 4 * x_ + 3)))), (fd0, .inl (cI, 7, .inl (sp_fd F 0)))]) rfl [0, 1] rfl 0 rfl rfl rfl rfl hl.1 rfl (Nat.le_of_ble_eq_true rfl) dX3_speech_52 ⟨Nat.zero_le _, Nat.zero_le _⟩ (fun H locs hP hD hS => ?_)
      refine W.eq (g2 := F0 m 55 ls [.int ((-1000000001))]) rfl ?_
      refine hz_ei hx hb hr hlocks rfl ?_ hS (by rw [show fd_speech M y t a f = some 0 from if_neg (fun h => c21 h.2.1)]; rfl) dX3_speech_55
      rw [show fd_speech M y t a f = some 0 from if_neg (fun h => c21 h.2.1)]
      exact hP
    · refine lv_aload_n hx hb dX3_speech_24 rfl (lv_at hl 0 rfl) ?_
      refine va_get hx hb hts hinX3 hown hK hP 0 rfl rfl 0 (by decide) wd1 (fun _ h => h) rfl dX3_speech_25 ?_
      refine lv_iconst (v := nI 2) hx hb dX3_speech_28 (by decide) ?_
      refine lv_iload_n hx hb dX3_speech_29 rfl (lv_at hl 3 rfl) ?_
      refine hz_cv (As := [.int (nI 2), .int (a)]) (rest := []) ⟨hx, hb, hml, hown, hts⟩ (c0_mt2 l D cI cJ (a0 := a0) (k_ := k_) (p_ := p_) (t_ := t_) (h_ := h_) (w_ := w_) (b_ := b_) (g_ := g_) (i_ := i_) (f_ := f_) (M := M) (x := a) (hM1 := by first | assumption | rfl) (hD8 := by first | assumption | rfl)) (cwV 2 hts gX3_speech_X0_mayTell rfl rfl rfl (by decide +kernel) ⟨Nat.le_of_ble_eq_true rfl, Nat.le_of_ble_eq_true rfl⟩) hK hP [1] rfl [0, 1] rfl 1 rfl rfl rfl rfl hl.1 rfl (Nat.le_of_ble_eq_true rfl) dX3_speech_30 ⟨Nat.zero_le _, Nat.zero_le _⟩ ?_
      refine hz_ifb_eq (tgt := 49) hx hb dX3_speech_33 (by decide) (fun c33 => ?_) (fun c33 => ?_)
      · refine lv_aload_n hx hb dX3_speech_49 rfl (lv_at hl 0 rfl) ?_
        refine lv_ldc (v := -1000000001) hx hb hown wd2 dX3_speech_50 ?_
        refine hz_ce (As := [.int (-1000000001)]) (rest := []) ⟨hx, hb, hml, hown, hts⟩ (c3_found l D cI cJ (x0 := x0) (a0 := a0) (kc0 := kc0) (tc0 := tc0) (tp0 := tp0) (sh0 := sh0) (fd0 := fd0) (kf := kf) (F := F) (f := -1000000001) (k := 0) (hk := by omega) (hfk := by decide)) (cwV 1 hts gX3_speech_X3_found rfl rfl rfl (by decide +kernel) ⟨Nat.le_of_ble_eq_true rfl, Nat.le_of_ble_eq_true rfl⟩) hK hP hD hS [0, 11] rfl (by decide) rfl (w' := [(x0, .inr (3, [.ref a0, .ref kc0, .ref tc0, .ref tp0, .ref sh0, .ref fd0, .int (kf)])), (a0, .inr (0, [.int (M 0), .int (M 1), .ref k_, .ref p_, .ref t_, .ref h_, .ref w_, .int (M 2), .ref b_, .ref g_, .ref i_, .ref f_])), (k_, .inl (cI, 8, .inl (fun x_ => M (3 + 5 * x_)))), (p_, .inl (cI, 8, .inl (fun x_ => M (3 + 5 * x_ + 1)))), (t_, .inl (cI, 8, .inl (fun x_ => M (3 + 5 * x_ + 2)))), (h_, .inl (cI, 8, .inl (fun x_ => M (3 + 5 * x_ + 3)))), (w_, .inl (cI, 8, .inl (fun x_ => M (3 + 5 * x_ + 4)))), (b_, .inl (cI, 8, .inl (fun x_ => M (43 + 4 * x_)))), (g_, .inl (cI, 8, .inl (fun x_ => M (43 + 4 * x_ + 1)))), (i_, .inl (cI, 8, .inl (fun x_ => M (43 + 4 * x_ + 2)))), (f_, .inl (cI, 8, .inl (fun x_ => M (43 + 4 * x_ + 3)))), (fd0, .inl (cI, 7, .inl (sp_fd F 0)))]) rfl [0, 1] rfl 0 rfl rfl rfl rfl hl.1 rfl (Nat.le_of_ble_eq_true rfl) dX3_speech_52 ⟨Nat.zero_le _, Nat.zero_le _⟩ (fun H locs hP hD hS => ?_)
        refine W.eq (g2 := F0 m 55 ls [.int ((-1000000001))]) rfl ?_
        refine hz_ei hx hb hr hlocks rfl ?_ hS (by rw [show fd_speech M y t a f = some 0 from if_neg (fun h => c33 h.2.2.1)]; rfl) dX3_speech_55
        rw [show fd_speech M y t a f = some 0 from if_neg (fun h => c33 h.2.2.1)]
        exact hP
      · refine lv_aload_n hx hb dX3_speech_36 rfl (lv_at hl 0 rfl) ?_
        refine va_get hx hb hts hinX3 hown hK hP 0 rfl rfl 0 (by decide) wd1 (fun _ h => h) rfl dX3_speech_37 ?_
        refine lv_iconst (v := nI 3) hx hb dX3_speech_40 (by decide) ?_
        refine lv_iload hx hb dX3_speech_41 (lv_at hl 4 rfl) ?_
        refine hz_cv (As := [.int (nI 3), .int (f)]) (rest := []) ⟨hx, hb, hml, hown, hts⟩ (c0_mt3 l D cI cJ (a0 := a0) (k_ := k_) (p_ := p_) (t_ := t_) (h_ := h_) (w_ := w_) (b_ := b_) (g_ := g_) (i_ := i_) (f_ := f_) (M := M) (x := f) ) (cwV 2 hts gX3_speech_X0_mayTell rfl rfl rfl (by decide +kernel) ⟨Nat.le_of_ble_eq_true rfl, Nat.le_of_ble_eq_true rfl⟩) hK hP [1] rfl [0, 1] rfl 1 rfl rfl rfl rfl hl.1 rfl (Nat.le_of_ble_eq_true rfl) dX3_speech_43 ⟨Nat.zero_le _, Nat.zero_le _⟩ ?_
        refine hz_ifb_ne (tgt := 56) hx hb dX3_speech_46 (by decide) (fun c46 => ?_) (fun c46 => ?_)
        · refine lv_aload_n hx hb dX3_speech_56 rfl (lv_at hl 0 rfl) ?_
          refine va_get hx hb hts hinX3 hown hK hP 0 rfl rfl 0 (by decide) wd1 (fun _ h => h) rfl dX3_speech_57 ?_
          refine va_get hx hb hts hinX0 hown hK hP 1 rfl rfl 7 (by decide) wd3 (fun _ h => h) rfl dX3_speech_60 ?_
          refine hz_ct (y := nI (nS M)) hM2 ?_
          refine lv_bipush (v := nI 8) hx hb dX3_speech_63 (by decide) ?_
          refine hz_icmp_lt (tgt := 75) (by omega) (by omega) hx hb dX3_speech_65 (by decide) (fun c65 => ?_) (fun c65 => ?_)
          · refine lv_aload_n hx hb dX3_speech_75 rfl (lv_at hl 0 rfl) ?_
            refine va_get hx hb hts hinX3 hown hK hP 0 rfl rfl 0 (by decide) wd1 (fun _ h => h) rfl dX3_speech_76 ?_
            refine lv_iload_n hx hb dX3_speech_79 rfl (lv_at hl 1 rfl) ?_
            refine lv_iload_n hx hb dX3_speech_80 rfl (lv_at hl 2 rfl) ?_
            refine lv_iload_n hx hb dX3_speech_81 rfl (lv_at hl 3 rfl) ?_
            refine lv_iload hx hb dX3_speech_82 (lv_at hl 4 rfl) ?_
            refine hz_ce (As := [.int (y), .int (t), .int (a), .int (f)]) (rest := []) ⟨hx, hb, hml, hown, hts⟩ (c0_addSpeech l D cI cJ (a0 := a0) (k_ := k_) (p_ := p_) (t_ := t_) (h_ := h_) (w_ := w_) (b_ := b_) (g_ := g_) (i_ := i_) (f_ := f_) (M := M) (by_ := y) (tg := t) (at_ := a) (fo := f) (hM2 := by first | assumption | rfl) (hS8 := by first | assumption | rfl) (hlt := by omega)) (cwV 4 hts gX3_speech_X0_addSpeech rfl rfl rfl (by decide +kernel) ⟨Nat.le_of_ble_eq_true rfl, Nat.le_of_ble_eq_true rfl⟩) hK hP hD hS [1, 2, 3, 4, 5, 6, 7, 8, 9, 10] rfl (by decide) rfl (w' := [(x0, .inr (3, [.ref a0, .ref kc0, .ref tc0, .ref tp0, .ref sh0, .ref fd0, .int (kf)])), (a0, .inr (0, [.int ((sp_addS M y t a f) 0), .int ((sp_addS M y t a f) 1), .ref k_, .ref p_, .ref t_, .ref h_, .ref w_, .int ((sp_addS M y t a f) 2), .ref b_, .ref g_, .ref i_, .ref f_])), (k_, .inl (cI, 8, .inl (fun x_ => (sp_addS M y t a f) (3 + 5 * x_)))), (p_, .inl (cI, 8, .inl (fun x_ => (sp_addS M y t a f) (3 + 5 * x_ + 1)))), (t_, .inl (cI, 8, .inl (fun x_ => (sp_addS M y t a f) (3 + 5 * x_ + 2)))), (h_, .inl (cI, 8, .inl (fun x_ => (sp_addS M y t a f) (3 + 5 * x_ + 3)))), (w_, .inl (cI, 8, .inl (fun x_ => (sp_addS M y t a f) (3 + 5 * x_ + 4)))), (b_, .inl (cI, 8, .inl (fun x_ => (sp_addS M y t a f) (43 + 4 * x_)))), (g_, .inl (cI, 8, .inl (fun x_ => (sp_addS M y t a f) (43 + 4 * x_ + 1)))), (i_, .inl (cI, 8, .inl (fun x_ => (sp_addS M y t a f) (43 + 4 * x_ + 2)))), (f_, .inl (cI, 8, .inl (fun x_ => (sp_addS M y t a f) (43 + 4 * x_ + 3)))), (fd0, .inl (cI, 7, .inl F))]) rfl [0, 1] rfl 1 rfl rfl rfl rfl hl.1 rfl (Nat.le_of_ble_eq_true rfl) dX3_speech_84 ⟨Nat.zero_le _, Nat.zero_le _⟩ (fun H locs hP hD hS => ?_)
            refine W.eq (g2 := F0 m 87 ls [.int (nI (nS M))]) rfl ?_
            refine hz_ei hx hb hr hlocks rfl ?_ hS (by rw [show fd_speech M y t a f = none from (if_pos ⟨c9, c21, c33, c46⟩).trans (if_neg (Nat.ne_of_lt c65))]; exact fr_n rfl) dX3_speech_87
            rw [show fd_speech M y t a f = none from (if_pos ⟨c9, c21, c33, c46⟩).trans (if_neg (Nat.ne_of_lt c65))]
            exact hP
          · refine lv_aload_n hx hb dX3_speech_68 rfl (lv_at hl 0 rfl) ?_
            refine lv_ldc (v := -1000000002) hx hb hown wd4 dX3_speech_69 ?_
            refine hz_ce (As := [.int (-1000000002)]) (rest := []) ⟨hx, hb, hml, hown, hts⟩ (c3_found l D cI cJ (x0 := x0) (a0 := a0) (kc0 := kc0) (tc0 := tc0) (tp0 := tp0) (sh0 := sh0) (fd0 := fd0) (kf := kf) (F := F) (f := -1000000002) (k := 1) (hk := by omega) (hfk := by decide)) (cwV 1 hts gX3_speech_X3_found rfl rfl rfl (by decide +kernel) ⟨Nat.le_of_ble_eq_true rfl, Nat.le_of_ble_eq_true rfl⟩) hK hP hD hS [0, 11] rfl (by decide) rfl (w' := [(x0, .inr (3, [.ref a0, .ref kc0, .ref tc0, .ref tp0, .ref sh0, .ref fd0, .int (kf)])), (a0, .inr (0, [.int (M 0), .int (M 1), .ref k_, .ref p_, .ref t_, .ref h_, .ref w_, .int (M 2), .ref b_, .ref g_, .ref i_, .ref f_])), (k_, .inl (cI, 8, .inl (fun x_ => M (3 + 5 * x_)))), (p_, .inl (cI, 8, .inl (fun x_ => M (3 + 5 * x_ + 1)))), (t_, .inl (cI, 8, .inl (fun x_ => M (3 + 5 * x_ + 2)))), (h_, .inl (cI, 8, .inl (fun x_ => M (3 + 5 * x_ + 3)))), (w_, .inl (cI, 8, .inl (fun x_ => M (3 + 5 * x_ + 4)))), (b_, .inl (cI, 8, .inl (fun x_ => M (43 + 4 * x_)))), (g_, .inl (cI, 8, .inl (fun x_ => M (43 + 4 * x_ + 1)))), (i_, .inl (cI, 8, .inl (fun x_ => M (43 + 4 * x_ + 2)))), (f_, .inl (cI, 8, .inl (fun x_ => M (43 + 4 * x_ + 3)))), (fd0, .inl (cI, 7, .inl (sp_fd F 1)))]) rfl [0, 1] rfl 0 rfl rfl rfl rfl hl.1 rfl (Nat.le_of_ble_eq_true rfl) dX3_speech_71 ⟨Nat.zero_le _, Nat.zero_le _⟩ (fun H locs hP hD hS => ?_)
            refine W.eq (g2 := F0 m 74 ls [.int ((-1000000002))]) rfl ?_
            refine hz_ei hx hb hr hlocks rfl ?_ hS (by rw [show fd_speech M y t a f = some 1 from (if_pos ⟨c9, c21, c33, c46⟩).trans (if_pos (Nat.le_antisymm hS8 c65))]; rfl) dX3_speech_74
            rw [show fd_speech M y t a f = some 1 from (if_pos ⟨c9, c21, c33, c46⟩).trans (if_pos (Nat.le_antisymm hS8 c65))]
            exact hP
        · refine lv_aload_n hx hb dX3_speech_49 rfl (lv_at hl 0 rfl) ?_
          refine lv_ldc (v := -1000000001) hx hb hown wd2 dX3_speech_50 ?_
          refine hz_ce (As := [.int (-1000000001)]) (rest := []) ⟨hx, hb, hml, hown, hts⟩ (c3_found l D cI cJ (x0 := x0) (a0 := a0) (kc0 := kc0) (tc0 := tc0) (tp0 := tp0) (sh0 := sh0) (fd0 := fd0) (kf := kf) (F := F) (f := -1000000001) (k := 0) (hk := by omega) (hfk := by decide)) (cwV 1 hts gX3_speech_X3_found rfl rfl rfl (by decide +kernel) ⟨Nat.le_of_ble_eq_true rfl, Nat.le_of_ble_eq_true rfl⟩) hK hP hD hS [0, 11] rfl (by decide) rfl (w' := [(x0, .inr (3, [.ref a0, .ref kc0, .ref tc0, .ref tp0, .ref sh0, .ref fd0, .int (kf)])), (a0, .inr (0, [.int (M 0), .int (M 1), .ref k_, .ref p_, .ref t_, .ref h_, .ref w_, .int (M 2), .ref b_, .ref g_, .ref i_, .ref f_])), (k_, .inl (cI, 8, .inl (fun x_ => M (3 + 5 * x_)))), (p_, .inl (cI, 8, .inl (fun x_ => M (3 + 5 * x_ + 1)))), (t_, .inl (cI, 8, .inl (fun x_ => M (3 + 5 * x_ + 2)))), (h_, .inl (cI, 8, .inl (fun x_ => M (3 + 5 * x_ + 3)))), (w_, .inl (cI, 8, .inl (fun x_ => M (3 + 5 * x_ + 4)))), (b_, .inl (cI, 8, .inl (fun x_ => M (43 + 4 * x_)))), (g_, .inl (cI, 8, .inl (fun x_ => M (43 + 4 * x_ + 1)))), (i_, .inl (cI, 8, .inl (fun x_ => M (43 + 4 * x_ + 2)))), (f_, .inl (cI, 8, .inl (fun x_ => M (43 + 4 * x_ + 3)))), (fd0, .inl (cI, 7, .inl (sp_fd F 0)))]) rfl [0, 1] rfl 0 rfl rfl rfl rfl hl.1 rfl (Nat.le_of_ble_eq_true rfl) dX3_speech_52 ⟨Nat.zero_le _, Nat.zero_le _⟩ (fun H locs hP hD hS => ?_)
          refine W.eq (g2 := F0 m 55 ls [.int ((-1000000001))]) rfl ?_
          refine hz_ei hx hb hr hlocks rfl ?_ hS (by rw [show fd_speech M y t a f = some 0 from if_neg (fun h => c46 h.2.2.2)]; rfl) dX3_speech_55
          rw [show fd_speech M y t a f = some 0 from if_neg (fun h => c46 h.2.2.2)]
          exact hP
set_option maxHeartbeats 4000000 in
set_option maxRecDepth 100000 in
theorem c4_speechOf (l : Launch) (D : va_G) (cI cJ : ClassId) (h0 am af : Nat) (fs : List Value) (M F : Nat → Int32) (b : Nat) (z w : Int32) (hf : fs[0]? = some (.ref am)) (hf4 : fs[4]? = some (.ref af)) (hI : hz_I b M) : hz_ME l yX4_speechOf wsX4_speechOf { frames := 4, cells := 0, slots := 0, locals := 96 } [.ref h0, .int (z), .int (w)] D zcl [(cI, .int), (cJ, .long)] [(h0, .inr (4, fs)), (am, .inl (cI, 75, .inl M)), (af, .inl (cI, 7, .inl F))] [(h0, .inr (4, fs)), (am, .inl (cI, 75, .inl M)), (af, .inl (cI, 7, .inl (sp_ff F (fd_speechOf M z w))))] (some (.int (sp_fr (fd_speechOf M z w) (sp_sov M z w)))) := by
  refine hz_me (cc := cX4_speechOf) (maxL := 3) (ret := (some .int)) (by decide) rfl (Nat.le_of_ble_eq_true rfl) ?_
  intro p e s m below meth c hx hb hr hts hown hlocks hml hP hK hD ls hl
  have hS : va_S (hz_a [(h0, .inr (4, fs)), (am, .inl (cI, 75, .inl M)), (af, .inl (cI, 7, .inl F))]) s.heap s.heap [] := va_S.rf
  have hown : s.vm.findClass RX4 = some m.cls := hown
  have hl : lv_has ls 3 [(0, .ref h0), (1, .int (z)), (2, .int (w))] := hl
  have wd1 := hts (.constant RX4 35 (-1000000001)) (List.mem_of_getElem? (i := 1) rfl)
  obtain ⟨⟨hM0, hTb, hM1, hD8, hM2, hS8⟩, hID, hIS⟩ := id hI
  refine lv_aload_n hx hb dX4_speechOf_0 rfl (lv_at hl 0 rfl) ?_
  refine lv_iload_n hx hb dX4_speechOf_1 rfl (lv_at hl 1 rfl) ?_
  refine hz_cv (As := [.int (z)]) (rest := []) ⟨hx, hb, hml, hown, hts⟩ (c4_isSpeech l D cI cJ (h0 := h0) (am := am) (fs := fs) (M := M) (x := z) (hf := by first | assumption | rfl) (hM2 := by first | assumption | rfl) (hS8 := by first | assumption | rfl)) (cwV 1 hts gX4_speechOf_X4_isSpeech rfl rfl rfl (by decide +kernel) ⟨Nat.le_of_ble_eq_true rfl, Nat.le_of_ble_eq_true rfl⟩) hK hP [0, 1] rfl [0, 1] rfl 0 rfl rfl rfl rfl hl.1 rfl (Nat.le_of_ble_eq_true rfl) dX4_speechOf_2 ⟨Nat.zero_le _, Nat.zero_le _⟩ ?_
  refine hz_ifb_eq (tgt := 18) hx hb dX4_speechOf_5 (by decide) (fun c5 => ?_) (fun c5 => ?_)
  · refine lv_aload_n hx hb dX4_speechOf_18 rfl (lv_at hl 0 rfl) ?_
    refine lv_ldc (v := -1000000001) hx hb hown wd1 dX4_speechOf_19 ?_
    refine hz_ce (As := [.int (-1000000001)]) (rest := []) ⟨hx, hb, hml, hown, hts⟩ (c4_finds l D cI cJ (h0 := h0) (af := af) (fs := fs) (F := F) (f := -1000000001) (k := 0) (hf := by first | assumption | rfl) (hk := by omega) (hfk := by decide)) (cwV 1 hts gX4_speechOf_X4_finds rfl rfl rfl (by decide +kernel) ⟨Nat.le_of_ble_eq_true rfl, Nat.le_of_ble_eq_true rfl⟩) hK hP hD hS [0, 2] rfl (by decide) rfl (w' := [(h0, .inr (4, fs)), (am, .inl (cI, 75, .inl M)), (af, .inl (cI, 7, .inl (sp_fd F 0)))]) rfl [0, 1] rfl 0 rfl rfl rfl rfl hl.1 rfl (Nat.le_of_ble_eq_true rfl) dX4_speechOf_21 ⟨Nat.zero_le _, Nat.zero_le _⟩ (fun H locs hP hD hS => ?_)
    refine W.eq (g2 := F0 m 24 ls [.int ((-1000000001))]) rfl ?_
    refine hz_ei hx hb hr hlocks rfl ?_ hS (by rw [show fd_speechOf M z w = some 0 from if_neg c5]; rfl) dX4_speechOf_24
    rw [show fd_speechOf M z w = some 0 from if_neg c5]
    exact hP
  · refine lv_iload_n hx hb dX4_speechOf_8 rfl (lv_at hl 2 rfl) ?_
    refine lv_i2l (v := w.toInt64) hx hb dX4_speechOf_9 rfl ?_
    refine lv_iconst (v := nI 0) hx hb dX4_speechOf_10 (by decide) ?_
    refine lv_iconst (v := nI 5) hx hb dX4_speechOf_11 (by decide) ?_
    refine hz_cs (As := [.long (w.toInt64), .int (nI 0), .int (nI 5)]) (rest := []) ⟨hx, hb, hml, hown, hts⟩ (c4_in32 l D cI cJ (x := w) (a := nI 0) (b := nI 5) ) (va_cwS 3 hts gX4_speechOf_X4_in rfl rfl rfl (by decide +kernel) ⟨Nat.le_of_ble_eq_true rfl, Nat.le_of_ble_eq_true rfl⟩) hK hP [] rfl [0, 1] rfl rfl hl.1 rfl (Nat.le_of_ble_eq_true rfl) dX4_speechOf_12 ⟨Nat.zero_le _, Nat.zero_le _⟩ ?_
    refine hz_ifb_ne (tgt := 25) hx hb dX4_speechOf_15 (by decide) (fun c15 => ?_) (fun c15 => ?_)
    · obtain ⟨j, hj, rfl⟩ := hz_in_of c5 (by omega)
      obtain ⟨i, hi0, hi, rfl⟩ := hz_rg (by decide) (by decide) c15
      refine lv_iload_n hx hb dX4_speechOf_25 rfl (lv_at hl 2 rfl) ?_
      refine lv_iconst (v := nI 4) hx hb dX4_speechOf_26 (by decide) ?_
      refine hz_icmp_ge (tgt := 39) (by omega) (by omega) hx hb dX4_speechOf_27 (by decide) (fun c27 => ?_) (fun c27 => ?_)
      · refine lv_iload_n hx hb dX4_speechOf_39 rfl (lv_at hl 2 rfl) ?_
        refine lv_iconst (v := nI 4) hx hb dX4_speechOf_40 (by decide) ?_
        refine hz_icmp_ne (tgt := 52) (by omega) (by omega) hx hb dX4_speechOf_41 (by decide) (fun c41 => ?_) (fun c41 => ?_)
        · refine lv_aload_n hx hb dX4_speechOf_52 rfl (lv_at hl 0 rfl) ?_
          refine lv_iload_n hx hb dX4_speechOf_53 rfl (lv_at hl 1 rfl) ?_
          refine hz_cv (As := [.int (nI j)]) (rest := []) ⟨hx, hb, hml, hown, hts⟩ (c4_overBy l D cI cJ (h0 := h0) (am := am) (fs := fs) (M := M) (z := j) (hf := by first | assumption | rfl) (hM1 := by first | assumption | rfl) (hD8 := by first | assumption | rfl) (hs := by omega)) (cwV 1 hts gX4_speechOf_X4_overBy rfl rfl rfl (by decide +kernel) ⟨Nat.le_of_ble_eq_true rfl, Nat.le_of_ble_eq_true rfl⟩) hK hP [0, 1] rfl [0, 1] rfl 0 rfl rfl rfl rfl hl.1 rfl (Nat.le_of_ble_eq_true rfl) dX4_speechOf_54 ⟨Nat.zero_le _, Nat.zero_le _⟩ ?_
          refine hz_ei hx hb hr hlocks rfl ?_ hS (by rw [show fd_speechOf M (nI j) (nI i) = none from (if_pos c5).trans (if_pos c15)]; exact fr_n (sov_3 (by omega) (by omega) hi)) dX4_speechOf_57
          rw [show fd_speechOf M (nI j) (nI i) = none from (if_pos c5).trans (if_pos c15)]
          exact hP
        · refine lv_aload_n hx hb dX4_speechOf_44 rfl (lv_at hl 0 rfl) ?_
          refine lv_iload_n hx hb dX4_speechOf_45 rfl (lv_at hl 1 rfl) ?_
          refine hz_cv (As := [.int (nI j)]) (rest := []) ⟨hx, hb, hml, hown, hts⟩ (c4_interpreter l D cI cJ (h0 := h0) (am := am) (fs := fs) (M := M) (z := j) (hf := by first | assumption | rfl) (hM1 := by first | assumption | rfl) (hD8 := by first | assumption | rfl) (hs := by omega)) (cwV 1 hts gX4_speechOf_X4_interpreter rfl rfl rfl (by decide +kernel) ⟨Nat.le_of_ble_eq_true rfl, Nat.le_of_ble_eq_true rfl⟩) hK hP [0, 1] rfl [0, 1] rfl 0 rfl rfl rfl rfl hl.1 rfl (Nat.le_of_ble_eq_true rfl) dX4_speechOf_46 ⟨Nat.zero_le _, Nat.zero_le _⟩ ?_
          refine lv_goto (tgt := 57) hx hb dX4_speechOf_49 (by decide) ?_
          refine hz_ei hx hb hr hlocks rfl ?_ hS (by rw [show fd_speechOf M (nI j) (nI i) = none from (if_pos c5).trans (if_pos c15)]; exact fr_n (sov_2 (by omega) c41)) dX4_speechOf_57
          rw [show fd_speechOf M (nI j) (nI i) = none from (if_pos c5).trans (if_pos c15)]
          exact hP
      · refine lv_aload_n hx hb dX4_speechOf_30 rfl (lv_at hl 0 rfl) ?_
        refine lv_iload_n hx hb dX4_speechOf_31 rfl (lv_at hl 1 rfl) ?_
        refine lv_iload_n hx hb dX4_speechOf_32 rfl (lv_at hl 2 rfl) ?_
        refine hz_cv (As := [.int (nI j), .int (nI i)]) (rest := []) ⟨hx, hb, hml, hown, hts⟩ (c4_about l D cI cJ (h0 := h0) (am := am) (fs := fs) (M := M) (z := j) (w := i) (hf := by first | assumption | rfl) (hs := by omega) (hw := by omega)) (cwV 2 hts gX4_speechOf_X4_about rfl rfl rfl (by decide +kernel) ⟨Nat.le_of_ble_eq_true rfl, Nat.le_of_ble_eq_true rfl⟩) hK hP [0, 1] rfl [0, 1] rfl 0 rfl rfl rfl rfl hl.1 rfl (Nat.le_of_ble_eq_true rfl) dX4_speechOf_33 ⟨Nat.zero_le _, Nat.zero_le _⟩ ?_
        refine lv_goto (tgt := 57) hx hb dX4_speechOf_36 (by decide) ?_
        refine hz_ei hx hb hr hlocks rfl ?_ hS (by rw [show fd_speechOf M (nI j) (nI i) = none from (if_pos c5).trans (if_pos c15)]; exact fr_n (sov_1 (by omega) (by omega))) dX4_speechOf_57
        rw [show fd_speechOf M (nI j) (nI i) = none from (if_pos c5).trans (if_pos c15)]
        exact hP
    · refine lv_aload_n hx hb dX4_speechOf_18 rfl (lv_at hl 0 rfl) ?_
      refine lv_ldc (v := -1000000001) hx hb hown wd1 dX4_speechOf_19 ?_
      refine hz_ce (As := [.int (-1000000001)]) (rest := []) ⟨hx, hb, hml, hown, hts⟩ (c4_finds l D cI cJ (h0 := h0) (af := af) (fs := fs) (F := F) (f := -1000000001) (k := 0) (hf := by first | assumption | rfl) (hk := by omega) (hfk := by decide)) (cwV 1 hts gX4_speechOf_X4_finds rfl rfl rfl (by decide +kernel) ⟨Nat.le_of_ble_eq_true rfl, Nat.le_of_ble_eq_true rfl⟩) hK hP hD hS [0, 2] rfl (by decide) rfl (w' := [(h0, .inr (4, fs)), (am, .inl (cI, 75, .inl M)), (af, .inl (cI, 7, .inl (sp_fd F 0)))]) rfl [0, 1] rfl 0 rfl rfl rfl rfl hl.1 rfl (Nat.le_of_ble_eq_true rfl) dX4_speechOf_21 ⟨Nat.zero_le _, Nat.zero_le _⟩ (fun H locs hP hD hS => ?_)
      refine W.eq (g2 := F0 m 24 ls [.int ((-1000000001))]) rfl ?_
      refine hz_ei hx hb hr hlocks rfl ?_ hS (by rw [show fd_speechOf M z w = some 0 from (if_pos c5).trans (if_neg c15)]; rfl) dX4_speechOf_24
      rw [show fd_speechOf M z w = some 0 from (if_pos c5).trans (if_neg c15)]
      exact hP
set_option maxHeartbeats 4000000 in
set_option maxRecDepth 100000 in
theorem c3_speechOf (l : Launch) (D : va_G) (cI cJ : ClassId) (x0 kc0 tc0 tp0 sh0 fd0 : Nat) (kf : Int32) (a0 k_ p_ t_ h_ w_ b_ g_ i_ f_ : Nat) (M F : Nat → Int32) (b : Nat) (z w : Int32) (hI : hz_I b M) : hz_ME l yX3_speechOf wsX3_speechOf { frames := 4, cells := 0, slots := 0, locals := 95 } [.ref x0, .int (z), .int (w)] D zcl [(cI, .int), (cJ, .long)] [(x0, .inr (3, [.ref a0, .ref kc0, .ref tc0, .ref tp0, .ref sh0, .ref fd0, .int (kf)])), (a0, .inr (0, [.int (M 0), .int (M 1), .ref k_, .ref p_, .ref t_, .ref h_, .ref w_, .int (M 2), .ref b_, .ref g_, .ref i_, .ref f_])), (k_, .inl (cI, 8, .inl (fun x_ => M (3 + 5 * x_)))), (p_, .inl (cI, 8, .inl (fun x_ => M (3 + 5 * x_ + 1)))), (t_, .inl (cI, 8, .inl (fun x_ => M (3 + 5 * x_ + 2)))), (h_, .inl (cI, 8, .inl (fun x_ => M (3 + 5 * x_ + 3)))), (w_, .inl (cI, 8, .inl (fun x_ => M (3 + 5 * x_ + 4)))), (b_, .inl (cI, 8, .inl (fun x_ => M (43 + 4 * x_)))), (g_, .inl (cI, 8, .inl (fun x_ => M (43 + 4 * x_ + 1)))), (i_, .inl (cI, 8, .inl (fun x_ => M (43 + 4 * x_ + 2)))), (f_, .inl (cI, 8, .inl (fun x_ => M (43 + 4 * x_ + 3)))), (fd0, .inl (cI, 7, .inl F))] [(x0, .inr (3, [.ref a0, .ref kc0, .ref tc0, .ref tp0, .ref sh0, .ref fd0, .int (kf)])), (a0, .inr (0, [.int (M 0), .int (M 1), .ref k_, .ref p_, .ref t_, .ref h_, .ref w_, .int (M 2), .ref b_, .ref g_, .ref i_, .ref f_])), (k_, .inl (cI, 8, .inl (fun x_ => M (3 + 5 * x_)))), (p_, .inl (cI, 8, .inl (fun x_ => M (3 + 5 * x_ + 1)))), (t_, .inl (cI, 8, .inl (fun x_ => M (3 + 5 * x_ + 2)))), (h_, .inl (cI, 8, .inl (fun x_ => M (3 + 5 * x_ + 3)))), (w_, .inl (cI, 8, .inl (fun x_ => M (3 + 5 * x_ + 4)))), (b_, .inl (cI, 8, .inl (fun x_ => M (43 + 4 * x_)))), (g_, .inl (cI, 8, .inl (fun x_ => M (43 + 4 * x_ + 1)))), (i_, .inl (cI, 8, .inl (fun x_ => M (43 + 4 * x_ + 2)))), (f_, .inl (cI, 8, .inl (fun x_ => M (43 + 4 * x_ + 3)))), (fd0, .inl (cI, 7, .inl (sp_ff F (fd_speechOf M z w))))] (some (.int (sp_fr (fd_speechOf M z w) (sp_sov M z w)))) := by
  refine hz_me (cc := cX3_speechOf) (maxL := 3) (ret := (some .int)) (by decide) rfl (Nat.le_of_ble_eq_true rfl) ?_
  intro p e s m below meth c hx hb hr hts hown hlocks hml hP hK hD ls hl
  have hS : va_S (hz_a [(x0, .inr (3, [.ref a0, .ref kc0, .ref tc0, .ref tp0, .ref sh0, .ref fd0, .int (kf)])), (a0, .inr (0, [.int (M 0), .int (M 1), .ref k_, .ref p_, .ref t_, .ref h_, .ref w_, .int (M 2), .ref b_, .ref g_, .ref i_, .ref f_])), (k_, .inl (cI, 8, .inl (fun x_ => M (3 + 5 * x_)))), (p_, .inl (cI, 8, .inl (fun x_ => M (3 + 5 * x_ + 1)))), (t_, .inl (cI, 8, .inl (fun x_ => M (3 + 5 * x_ + 2)))), (h_, .inl (cI, 8, .inl (fun x_ => M (3 + 5 * x_ + 3)))), (w_, .inl (cI, 8, .inl (fun x_ => M (3 + 5 * x_ + 4)))), (b_, .inl (cI, 8, .inl (fun x_ => M (43 + 4 * x_)))), (g_, .inl (cI, 8, .inl (fun x_ => M (43 + 4 * x_ + 1)))), (i_, .inl (cI, 8, .inl (fun x_ => M (43 + 4 * x_ + 2)))), (f_, .inl (cI, 8, .inl (fun x_ => M (43 + 4 * x_ + 3)))), (fd0, .inl (cI, 7, .inl F))]) s.heap s.heap [] := va_S.rf
  have hown : s.vm.findClass RX3 = some m.cls := hown
  have hl : lv_has ls 3 [(0, .ref x0), (1, .int (z)), (2, .int (w))] := hl
  have hinX3 : ∀ w ∈ u_ws RX3 TX3 7, w ∈ wsX3_speechOf := fun w h => List.mem_cons_of_mem _ (List.mem_append_left _ (List.mem_append_right _ (h)))
  have wd1 := hts (.fieldLink RX3 10 "HurtSpeech" "live" "LHurtSpeech$Congress;") (List.mem_of_getElem? (i := 1) rfl)
  have wd2 := hts (.constant RX3 48 (-1000000001)) (List.mem_of_getElem? (i := 2) rfl)
  obtain ⟨⟨hM0, hTb, hM1, hD8, hM2, hS8⟩, hID, hIS⟩ := id hI
  refine lv_aload_n hx hb dX3_speechOf_0 rfl (lv_at hl 0 rfl) ?_
  refine va_get hx hb hts hinX3 hown hK hP 0 rfl rfl 0 (by decide) wd1 (fun _ h => h) rfl dX3_speechOf_1 ?_
  refine lv_iload_n hx hb dX3_speechOf_4 rfl (lv_at hl 1 rfl) ?_
  refine hz_cv (As := [.int (z)]) (rest := []) ⟨hx, hb, hml, hown, hts⟩ (c0_hasSpeech l D cI cJ (a0 := a0) (k_ := k_) (p_ := p_) (t_ := t_) (h_ := h_) (w_ := w_) (b_ := b_) (g_ := g_) (i_ := i_) (f_ := f_) (M := M) (x := z) (hM2 := by first | assumption | rfl) (hS8 := by first | assumption | rfl)) (cwV 1 hts gX3_speechOf_X0_hasSpeech rfl rfl rfl (by decide +kernel) ⟨Nat.le_of_ble_eq_true rfl, Nat.le_of_ble_eq_true rfl⟩) hK hP [1] rfl [0, 1] rfl 1 rfl rfl rfl rfl hl.1 rfl (Nat.le_of_ble_eq_true rfl) dX3_speechOf_5 ⟨Nat.zero_le _, Nat.zero_le _⟩ ?_
  refine hz_ifb_eq (tgt := 20) hx hb dX3_speechOf_8 (by decide) (fun c8 => ?_) (fun c8 => ?_)
  · refine lv_aload_n hx hb dX3_speechOf_20 rfl (lv_at hl 0 rfl) ?_
    refine lv_ldc (v := -1000000001) hx hb hown wd2 dX3_speechOf_21 ?_
    refine hz_ce (As := [.int (-1000000001)]) (rest := []) ⟨hx, hb, hml, hown, hts⟩ (c3_found l D cI cJ (x0 := x0) (a0 := a0) (kc0 := kc0) (tc0 := tc0) (tp0 := tp0) (sh0 := sh0) (fd0 := fd0) (kf := kf) (F := F) (f := -1000000001) (k := 0) (hk := by omega) (hfk := by decide)) (cwV 1 hts gX3_speechOf_X3_found rfl rfl rfl (by decide +kernel) ⟨Nat.le_of_ble_eq_true rfl, Nat.le_of_ble_eq_true rfl⟩) hK hP hD hS [0, 11] rfl (by decide) rfl (w' := [(x0, .inr (3, [.ref a0, .ref kc0, .ref tc0, .ref tp0, .ref sh0, .ref fd0, .int (kf)])), (a0, .inr (0, [.int (M 0), .int (M 1), .ref k_, .ref p_, .ref t_, .ref h_, .ref w_, .int (M 2), .ref b_, .ref g_, .ref i_, .ref f_])), (k_, .inl (cI, 8, .inl (fun x_ => M (3 + 5 * x_)))), (p_, .inl (cI, 8, .inl (fun x_ => M (3 + 5 * x_ + 1)))), (t_, .inl (cI, 8, .inl (fun x_ => M (3 + 5 * x_ + 2)))), (h_, .inl (cI, 8, .inl (fun x_ => M (3 + 5 * x_ + 3)))), (w_, .inl (cI, 8, .inl (fun x_ => M (3 + 5 * x_ + 4)))), (b_, .inl (cI, 8, .inl (fun x_ => M (43 + 4 * x_)))), (g_, .inl (cI, 8, .inl (fun x_ => M (43 + 4 * x_ + 1)))), (i_, .inl (cI, 8, .inl (fun x_ => M (43 + 4 * x_ + 2)))), (f_, .inl (cI, 8, .inl (fun x_ => M (43 + 4 * x_ + 3)))), (fd0, .inl (cI, 7, .inl (sp_fd F 0)))]) rfl [0, 1] rfl 0 rfl rfl rfl rfl hl.1 rfl (Nat.le_of_ble_eq_true rfl) dX3_speechOf_23 ⟨Nat.zero_le _, Nat.zero_le _⟩ (fun H locs hP hD hS => ?_)
    refine W.eq (g2 := F0 m 26 ls [.int ((-1000000001))]) rfl ?_
    refine hz_ei hx hb hr hlocks rfl ?_ hS (by rw [show fd_speechOf M z w = some 0 from if_neg c8]; rfl) dX3_speechOf_26
    rw [show fd_speechOf M z w = some 0 from if_neg c8]
    exact hP
  · refine lv_iload_n hx hb dX3_speechOf_11 rfl (lv_at hl 2 rfl) ?_
    refine lv_iconst (v := nI 0) hx hb dX3_speechOf_12 (by decide) ?_
    refine lv_iconst (v := nI 5) hx hb dX3_speechOf_13 (by decide) ?_
    refine hz_cs (As := [.int (w), .int (nI 0), .int (nI 5)]) (rest := []) ⟨hx, hb, hml, hown, hts⟩ (c3_isWithin l D cI cJ (x := w) (a := nI 0) (b := nI 5) ) (va_cwS 3 hts gX3_speechOf_X3_isWithin rfl rfl rfl (by decide +kernel) ⟨Nat.le_of_ble_eq_true rfl, Nat.le_of_ble_eq_true rfl⟩) hK hP [] rfl [0, 1] rfl rfl hl.1 rfl (Nat.le_of_ble_eq_true rfl) dX3_speechOf_14 ⟨Nat.zero_le _, Nat.zero_le _⟩ ?_
    refine hz_ifb_ne (tgt := 27) hx hb dX3_speechOf_17 (by decide) (fun c17 => ?_) (fun c17 => ?_)
    · obtain ⟨j, hj, rfl⟩ := hz_in_of c8 (by omega)
      obtain ⟨i, hi0, hi, rfl⟩ := hz_rg (by decide) (by decide) c17
      rcases (show i = 0 ∨ i = 1 ∨ i = 2 ∨ i = 3 ∨ i = 4 ∨ i = 5 by omega) with rfl | rfl | rfl | rfl | rfl | rfl
      · refine lv_iload_n hx hb dX3_speechOf_27 rfl (lv_at hl 2 rfl) ?_
        refine lv_iconst (v := nI 4) hx hb dX3_speechOf_28 (by decide) ?_
        refine hz_icmp_ne (tgt := 41) (by omega) (by omega) hx hb dX3_speechOf_29 (by decide) (fun _ => ?_) (fun h => absurd h (by first | decide | omega | exact hz_nneg (by omega) | exact hz_nneg' (by omega)))
        refine lv_iload_n hx hb dX3_speechOf_41 rfl (lv_at hl 2 rfl) ?_
        refine lv_iconst (v := nI 5) hx hb dX3_speechOf_42 (by decide) ?_
        refine hz_icmp_ne (tgt := 55) (by omega) (by omega) hx hb dX3_speechOf_43 (by decide) (fun _ => ?_) (fun h => absurd h (by first | decide | omega | exact hz_nneg (by omega) | exact hz_nneg' (by omega)))
        refine lv_aload_n hx hb dX3_speechOf_55 rfl (lv_at hl 0 rfl) ?_
        refine va_get hx hb hts hinX3 hown hK hP 0 rfl rfl 0 (by decide) wd1 (fun _ h => h) rfl dX3_speechOf_56 ?_
        refine lv_iload_n hx hb dX3_speechOf_59 rfl (lv_at hl 2 rfl) ?_
        refine hz_cv (As := [.int (nI 0)]) (rest := []) ⟨hx, hb, hml, hown, hts⟩ (c0_sr0 l D cI cJ (a0 := a0) (k_ := k_) (p_ := p_) (t_ := t_) (h_ := h_) (w_ := w_) (b_ := b_) (g_ := g_) (i_ := i_) (f_ := f_) (s0 := M 0) (d0 := M 1) (z0 := M 2) ) (cwV 1 hts gX3_speechOf_X0_speechRow rfl rfl rfl (by decide +kernel) ⟨Nat.le_of_ble_eq_true rfl, Nat.le_of_ble_eq_true rfl⟩) hK hP [1] rfl [0, 1] rfl 1 rfl rfl rfl rfl hl.1 rfl (Nat.le_of_ble_eq_true rfl) dX3_speechOf_60 ⟨Nat.zero_le _, Nat.zero_le _⟩ ?_
        refine lv_iload_n hx hb dX3_speechOf_63 rfl (lv_at hl 1 rfl) ?_
        refine hz_iald (j := j) hx hb hK hP 7 0 rfl rfl (by omega) (Nat.le_of_ble_eq_true rfl) dX3_speechOf_64 ?_
        refine hz_ct (y := M (43 + 4 * j)) rfl ?_
        refine hz_ei hx hb hr hlocks rfl ?_ hS (by rw [show fd_speechOf M (nI j) (nI _) = none from (if_pos c8).trans (if_pos c17)]; exact fr_n (sov_1 (j := j) (i := 0) (by omega) (by omega))) dX3_speechOf_65
        rw [show fd_speechOf M (nI j) (nI _) = none from (if_pos c8).trans (if_pos c17)]
        exact hP
      · refine lv_iload_n hx hb dX3_speechOf_27 rfl (lv_at hl 2 rfl) ?_
        refine lv_iconst (v := nI 4) hx hb dX3_speechOf_28 (by decide) ?_
        refine hz_icmp_ne (tgt := 41) (by omega) (by omega) hx hb dX3_speechOf_29 (by decide) (fun _ => ?_) (fun h => absurd h (by first | decide | omega | exact hz_nneg (by omega) | exact hz_nneg' (by omega)))
        refine lv_iload_n hx hb dX3_speechOf_41 rfl (lv_at hl 2 rfl) ?_
        refine lv_iconst (v := nI 5) hx hb dX3_speechOf_42 (by decide) ?_
        refine hz_icmp_ne (tgt := 55) (by omega) (by omega) hx hb dX3_speechOf_43 (by decide) (fun _ => ?_) (fun h => absurd h (by first | decide | omega | exact hz_nneg (by omega) | exact hz_nneg' (by omega)))
        refine lv_aload_n hx hb dX3_speechOf_55 rfl (lv_at hl 0 rfl) ?_
        refine va_get hx hb hts hinX3 hown hK hP 0 rfl rfl 0 (by decide) wd1 (fun _ h => h) rfl dX3_speechOf_56 ?_
        refine lv_iload_n hx hb dX3_speechOf_59 rfl (lv_at hl 2 rfl) ?_
        refine hz_cv (As := [.int (nI 1)]) (rest := []) ⟨hx, hb, hml, hown, hts⟩ (c0_sr1 l D cI cJ (a0 := a0) (k_ := k_) (p_ := p_) (t_ := t_) (h_ := h_) (w_ := w_) (b_ := b_) (g_ := g_) (i_ := i_) (f_ := f_) (s0 := M 0) (d0 := M 1) (z0 := M 2) ) (cwV 1 hts gX3_speechOf_X0_speechRow rfl rfl rfl (by decide +kernel) ⟨Nat.le_of_ble_eq_true rfl, Nat.le_of_ble_eq_true rfl⟩) hK hP [1] rfl [0, 1] rfl 1 rfl rfl rfl rfl hl.1 rfl (Nat.le_of_ble_eq_true rfl) dX3_speechOf_60 ⟨Nat.zero_le _, Nat.zero_le _⟩ ?_
        refine lv_iload_n hx hb dX3_speechOf_63 rfl (lv_at hl 1 rfl) ?_
        refine hz_iald (j := j) hx hb hK hP 8 0 rfl rfl (by omega) (Nat.le_of_ble_eq_true rfl) dX3_speechOf_64 ?_
        refine hz_ct (y := M (43 + 4 * j + 1)) rfl ?_
        refine hz_ei hx hb hr hlocks rfl ?_ hS (by rw [show fd_speechOf M (nI j) (nI _) = none from (if_pos c8).trans (if_pos c17)]; exact fr_n (sov_1 (j := j) (i := 1) (by omega) (by omega))) dX3_speechOf_65
        rw [show fd_speechOf M (nI j) (nI _) = none from (if_pos c8).trans (if_pos c17)]
        exact hP
      · refine lv_iload_n hx hb dX3_speechOf_27 rfl (lv_at hl 2 rfl) ?_
        refine lv_iconst (v := nI 4) hx hb dX3_speechOf_28 (by decide) ?_
        refine hz_icmp_ne (tgt := 41) (by omega) (by omega) hx hb dX3_speechOf_29 (by decide) (fun _ => ?_) (fun h => absurd h (by first | decide | omega | exact hz_nneg (by omega) | exact hz_nneg' (by omega)))
        refine lv_iload_n hx hb dX3_speechOf_41 rfl (lv_at hl 2 rfl) ?_
        refine lv_iconst (v := nI 5) hx hb dX3_speechOf_42 (by decide) ?_
        refine hz_icmp_ne (tgt := 55) (by omega) (by omega) hx hb dX3_speechOf_43 (by decide) (fun _ => ?_) (fun h => absurd h (by first | decide | omega | exact hz_nneg (by omega) | exact hz_nneg' (by omega)))
        refine lv_aload_n hx hb dX3_speechOf_55 rfl (lv_at hl 0 rfl) ?_
        refine va_get hx hb hts hinX3 hown hK hP 0 rfl rfl 0 (by decide) wd1 (fun _ h => h) rfl dX3_speechOf_56 ?_
        refine lv_iload_n hx hb dX3_speechOf_59 rfl (lv_at hl 2 rfl) ?_
        refine hz_cv (As := [.int (nI 2)]) (rest := []) ⟨hx, hb, hml, hown, hts⟩ (c0_sr2 l D cI cJ (a0 := a0) (k_ := k_) (p_ := p_) (t_ := t_) (h_ := h_) (w_ := w_) (b_ := b_) (g_ := g_) (i_ := i_) (f_ := f_) (s0 := M 0) (d0 := M 1) (z0 := M 2) ) (cwV 1 hts gX3_speechOf_X0_speechRow rfl rfl rfl (by decide +kernel) ⟨Nat.le_of_ble_eq_true rfl, Nat.le_of_ble_eq_true rfl⟩) hK hP [1] rfl [0, 1] rfl 1 rfl rfl rfl rfl hl.1 rfl (Nat.le_of_ble_eq_true rfl) dX3_speechOf_60 ⟨Nat.zero_le _, Nat.zero_le _⟩ ?_
        refine lv_iload_n hx hb dX3_speechOf_63 rfl (lv_at hl 1 rfl) ?_
        refine hz_iald (j := j) hx hb hK hP 9 0 rfl rfl (by omega) (Nat.le_of_ble_eq_true rfl) dX3_speechOf_64 ?_
        refine hz_ct (y := M (43 + 4 * j + 2)) rfl ?_
        refine hz_ei hx hb hr hlocks rfl ?_ hS (by rw [show fd_speechOf M (nI j) (nI _) = none from (if_pos c8).trans (if_pos c17)]; exact fr_n (sov_1 (j := j) (i := 2) (by omega) (by omega))) dX3_speechOf_65
        rw [show fd_speechOf M (nI j) (nI _) = none from (if_pos c8).trans (if_pos c17)]
        exact hP
      · refine lv_iload_n hx hb dX3_speechOf_27 rfl (lv_at hl 2 rfl) ?_
        refine lv_iconst (v := nI 4) hx hb dX3_speechOf_28 (by decide) ?_
        refine hz_icmp_ne (tgt := 41) (by omega) (by omega) hx hb dX3_speechOf_29 (by decide) (fun _ => ?_) (fun h => absurd h (by first | decide | omega | exact hz_nneg (by omega) | exact hz_nneg' (by omega)))
        refine lv_iload_n hx hb dX3_speechOf_41 rfl (lv_at hl 2 rfl) ?_
        refine lv_iconst (v := nI 5) hx hb dX3_speechOf_42 (by decide) ?_
        refine hz_icmp_ne (tgt := 55) (by omega) (by omega) hx hb dX3_speechOf_43 (by decide) (fun _ => ?_) (fun h => absurd h (by first | decide | omega | exact hz_nneg (by omega) | exact hz_nneg' (by omega)))
        refine lv_aload_n hx hb dX3_speechOf_55 rfl (lv_at hl 0 rfl) ?_
        refine va_get hx hb hts hinX3 hown hK hP 0 rfl rfl 0 (by decide) wd1 (fun _ h => h) rfl dX3_speechOf_56 ?_
        refine lv_iload_n hx hb dX3_speechOf_59 rfl (lv_at hl 2 rfl) ?_
        refine hz_cv (As := [.int (nI 3)]) (rest := []) ⟨hx, hb, hml, hown, hts⟩ (c0_sr3 l D cI cJ (a0 := a0) (k_ := k_) (p_ := p_) (t_ := t_) (h_ := h_) (w_ := w_) (b_ := b_) (g_ := g_) (i_ := i_) (f_ := f_) (s0 := M 0) (d0 := M 1) (z0 := M 2) ) (cwV 1 hts gX3_speechOf_X0_speechRow rfl rfl rfl (by decide +kernel) ⟨Nat.le_of_ble_eq_true rfl, Nat.le_of_ble_eq_true rfl⟩) hK hP [1] rfl [0, 1] rfl 1 rfl rfl rfl rfl hl.1 rfl (Nat.le_of_ble_eq_true rfl) dX3_speechOf_60 ⟨Nat.zero_le _, Nat.zero_le _⟩ ?_
        refine lv_iload_n hx hb dX3_speechOf_63 rfl (lv_at hl 1 rfl) ?_
        refine hz_iald (j := j) hx hb hK hP 10 0 rfl rfl (by omega) (Nat.le_of_ble_eq_true rfl) dX3_speechOf_64 ?_
        refine hz_ct (y := M (43 + 4 * j + 3)) rfl ?_
        refine hz_ei hx hb hr hlocks rfl ?_ hS (by rw [show fd_speechOf M (nI j) (nI _) = none from (if_pos c8).trans (if_pos c17)]; exact fr_n (sov_1 (j := j) (i := 3) (by omega) (by omega))) dX3_speechOf_65
        rw [show fd_speechOf M (nI j) (nI _) = none from (if_pos c8).trans (if_pos c17)]
        exact hP
      · refine lv_iload_n hx hb dX3_speechOf_27 rfl (lv_at hl 2 rfl) ?_
        refine lv_iconst (v := nI 4) hx hb dX3_speechOf_28 (by decide) ?_
        refine hz_icmp_ne (tgt := 41) (by omega) (by omega) hx hb dX3_speechOf_29 (by decide) (fun h => absurd h (by first | decide | omega | exact hz_nneg (by omega) | exact hz_nneg' (by omega))) (fun _ => ?_)
        refine lv_aload_n hx hb dX3_speechOf_32 rfl (lv_at hl 0 rfl) ?_
        refine va_get hx hb hts hinX3 hown hK hP 0 rfl rfl 0 (by decide) wd1 (fun _ h => h) rfl dX3_speechOf_33 ?_
        refine lv_iload_n hx hb dX3_speechOf_36 rfl (lv_at hl 1 rfl) ?_
        refine hz_cv (As := [.int (nI j)]) (rest := []) ⟨hx, hb, hml, hown, hts⟩ (c0_interpreterOf l D cI cJ (a0 := a0) (k_ := k_) (p_ := p_) (t_ := t_) (h_ := h_) (w_ := w_) (b_ := b_) (g_ := g_) (i_ := i_) (f_ := f_) (M := M) (z := j) (hM1 := by first | assumption | rfl) (hD8 := by first | assumption | rfl) (hs := by omega) (hat := (hIS j (by omega)).1)) (cwV 1 hts gX3_speechOf_X0_interpreterOf rfl rfl rfl (by decide +kernel) ⟨Nat.le_of_ble_eq_true rfl, Nat.le_of_ble_eq_true rfl⟩) hK hP [1, 2, 3, 4, 5, 6, 7, 8, 9, 10] rfl [0, 1] rfl 1 rfl rfl rfl rfl hl.1 rfl (Nat.le_of_ble_eq_true rfl) dX3_speechOf_37 ⟨Nat.zero_le _, Nat.zero_le _⟩ ?_
        refine hz_ei hx hb hr hlocks rfl ?_ hS (by rw [show fd_speechOf M (nI j) (nI _) = none from (if_pos c8).trans (if_pos c17)]; exact fr_n (sov_2 (j := j) (i := 4) (by omega) rfl)) dX3_speechOf_40
        rw [show fd_speechOf M (nI j) (nI _) = none from (if_pos c8).trans (if_pos c17)]
        exact hP
      · refine lv_iload_n hx hb dX3_speechOf_27 rfl (lv_at hl 2 rfl) ?_
        refine lv_iconst (v := nI 4) hx hb dX3_speechOf_28 (by decide) ?_
        refine hz_icmp_ne (tgt := 41) (by omega) (by omega) hx hb dX3_speechOf_29 (by decide) (fun _ => ?_) (fun h => absurd h (by first | decide | omega | exact hz_nneg (by omega) | exact hz_nneg' (by omega)))
        refine lv_iload_n hx hb dX3_speechOf_41 rfl (lv_at hl 2 rfl) ?_
        refine lv_iconst (v := nI 5) hx hb dX3_speechOf_42 (by decide) ?_
        refine hz_icmp_ne (tgt := 55) (by omega) (by omega) hx hb dX3_speechOf_43 (by decide) (fun h => absurd h (by first | decide | omega | exact hz_nneg (by omega) | exact hz_nneg' (by omega))) (fun _ => ?_)
        refine lv_aload_n hx hb dX3_speechOf_46 rfl (lv_at hl 0 rfl) ?_
        refine va_get hx hb hts hinX3 hown hK hP 0 rfl rfl 0 (by decide) wd1 (fun _ h => h) rfl dX3_speechOf_47 ?_
        refine lv_iload_n hx hb dX3_speechOf_50 rfl (lv_at hl 1 rfl) ?_
        refine hz_cv (As := [.int (nI j)]) (rest := []) ⟨hx, hb, hml, hown, hts⟩ (c0_comesOverWith l D cI cJ (a0 := a0) (k_ := k_) (p_ := p_) (t_ := t_) (h_ := h_) (w_ := w_) (b_ := b_) (g_ := g_) (i_ := i_) (f_ := f_) (M := M) (b := b) (z := j) (hI := by first | assumption | rfl) (hs := by omega)) (cwV 1 hts gX3_speechOf_X0_comesOverWith rfl rfl rfl (by decide +kernel) ⟨Nat.le_of_ble_eq_true rfl, Nat.le_of_ble_eq_true rfl⟩) hK hP [1, 2, 3, 4, 5, 6, 7, 8, 9, 10] rfl [0, 1] rfl 1 rfl rfl rfl rfl hl.1 rfl (Nat.le_of_ble_eq_true rfl) dX3_speechOf_51 ⟨Nat.zero_le _, Nat.zero_le _⟩ ?_
        refine hz_ei hx hb hr hlocks rfl ?_ hS (by rw [show fd_speechOf M (nI j) (nI _) = none from (if_pos c8).trans (if_pos c17)]; exact fr_n (sov_3 (j := j) (i := 5) (by omega) (by omega) (by omega))) dX3_speechOf_54
        rw [show fd_speechOf M (nI j) (nI _) = none from (if_pos c8).trans (if_pos c17)]
        exact hP
    · refine lv_aload_n hx hb dX3_speechOf_20 rfl (lv_at hl 0 rfl) ?_
      refine lv_ldc (v := -1000000001) hx hb hown wd2 dX3_speechOf_21 ?_
      refine hz_ce (As := [.int (-1000000001)]) (rest := []) ⟨hx, hb, hml, hown, hts⟩ (c3_found l D cI cJ (x0 := x0) (a0 := a0) (kc0 := kc0) (tc0 := tc0) (tp0 := tp0) (sh0 := sh0) (fd0 := fd0) (kf := kf) (F := F) (f := -1000000001) (k := 0) (hk := by omega) (hfk := by decide)) (cwV 1 hts gX3_speechOf_X3_found rfl rfl rfl (by decide +kernel) ⟨Nat.le_of_ble_eq_true rfl, Nat.le_of_ble_eq_true rfl⟩) hK hP hD hS [0, 11] rfl (by decide) rfl (w' := [(x0, .inr (3, [.ref a0, .ref kc0, .ref tc0, .ref tp0, .ref sh0, .ref fd0, .int (kf)])), (a0, .inr (0, [.int (M 0), .int (M 1), .ref k_, .ref p_, .ref t_, .ref h_, .ref w_, .int (M 2), .ref b_, .ref g_, .ref i_, .ref f_])), (k_, .inl (cI, 8, .inl (fun x_ => M (3 + 5 * x_)))), (p_, .inl (cI, 8, .inl (fun x_ => M (3 + 5 * x_ + 1)))), (t_, .inl (cI, 8, .inl (fun x_ => M (3 + 5 * x_ + 2)))), (h_, .inl (cI, 8, .inl (fun x_ => M (3 + 5 * x_ + 3)))), (w_, .inl (cI, 8, .inl (fun x_ => M (3 + 5 * x_ + 4)))), (b_, .inl (cI, 8, .inl (fun x_ => M (43 + 4 * x_)))), (g_, .inl (cI, 8, .inl (fun x_ => M (43 + 4 * x_ + 1)))), (i_, .inl (cI, 8, .inl (fun x_ => M (43 + 4 * x_ + 2)))), (f_, .inl (cI, 8, .inl (fun x_ => M (43 + 4 * x_ + 3)))), (fd0, .inl (cI, 7, .inl (sp_fd F 0)))]) rfl [0, 1] rfl 0 rfl rfl rfl rfl hl.1 rfl (Nat.le_of_ble_eq_true rfl) dX3_speechOf_23 ⟨Nat.zero_le _, Nat.zero_le _⟩ (fun H locs hP hD hS => ?_)
      refine W.eq (g2 := F0 m 26 ls [.int ((-1000000001))]) rfl ?_
      refine hz_ei hx hb hr hlocks rfl ?_ hS (by rw [show fd_speechOf M z w = some 0 from (if_pos c8).trans (if_neg c17)]; rfl) dX3_speechOf_26
      rw [show fd_speechOf M z w = some 0 from (if_pos c8).trans (if_neg c17)]
      exact hP
set_option maxHeartbeats 4000000 in
set_option maxRecDepth 100000 in
theorem c4_tell (l : Launch) (D : va_G) (cI cJ : ClassId) (h0 am af : Nat) (fs : List Value) (M F : Nat → Int32) (b : Nat) (z w v : Int32) (hf : fs[0]? = some (.ref am)) (hf4 : fs[4]? = some (.ref af)) (hI : hz_I b M) : hz_ME l yX4_tell wsX4_tell { frames := 3, cells := 0, slots := 0, locals := 66 } [.ref h0, .int (z), .int (w), .int (v)] D zcl [(cI, .int), (cJ, .long)] [(h0, .inr (4, fs)), (am, .inl (cI, 75, .inl M)), (af, .inl (cI, 7, .inl F))] [(h0, .inr (4, fs)), (am, .inl (cI, 75, .inl (sp_fM (fd_tell M z w v) M (upd M (43 + 4 * cl z + cl w) v)))), (af, .inl (cI, 7, .inl (sp_ff F (fd_tell M z w v))))] (some (.int (sp_fr (fd_tell M z w v) (M (43 + 4 * cl z + cl w))))) := by
  refine hz_me (cc := cX4_tell) (maxL := 4) (ret := (some .int)) (by decide) rfl (Nat.le_of_ble_eq_true rfl) ?_
  intro p e s m below meth c hx hb hr hts hown hlocks hml hP hK hD ls hl
  have hS : va_S (hz_a [(h0, .inr (4, fs)), (am, .inl (cI, 75, .inl M)), (af, .inl (cI, 7, .inl F))]) s.heap s.heap [] := va_S.rf
  have hown : s.vm.findClass RX4 = some m.cls := hown
  have hl : lv_has ls 4 [(0, .ref h0), (1, .int (z)), (2, .int (w)), (3, .int (v))] := hl
  have wd1 := hts (.constant RX4 35 (-1000000001)) (List.mem_of_getElem? (i := 1) rfl)
  obtain ⟨⟨hM0, hTb, hM1, hD8, hM2, hS8⟩, hID, hIS⟩ := id hI
  refine lv_aload_n hx hb dX4_tell_0 rfl (lv_at hl 0 rfl) ?_
  refine lv_iload_n hx hb dX4_tell_1 rfl (lv_at hl 1 rfl) ?_
  refine hz_cv (As := [.int (z)]) (rest := []) ⟨hx, hb, hml, hown, hts⟩ (c4_isSpeech l D cI cJ (h0 := h0) (am := am) (fs := fs) (M := M) (x := z) (hf := by first | assumption | rfl) (hM2 := by first | assumption | rfl) (hS8 := by first | assumption | rfl)) (cwV 1 hts gX4_tell_X4_isSpeech rfl rfl rfl (by decide +kernel) ⟨Nat.le_of_ble_eq_true rfl, Nat.le_of_ble_eq_true rfl⟩) hK hP [0, 1] rfl [0, 1] rfl 0 rfl rfl rfl rfl hl.1 rfl (Nat.le_of_ble_eq_true rfl) dX4_tell_2 ⟨Nat.zero_le _, Nat.zero_le _⟩ ?_
  refine hz_ifb_eq (tgt := 33) hx hb dX4_tell_5 (by decide) (fun c5 => ?_) (fun c5 => ?_)
  · refine lv_aload_n hx hb dX4_tell_33 rfl (lv_at hl 0 rfl) ?_
    refine lv_ldc (v := -1000000001) hx hb hown wd1 dX4_tell_34 ?_
    refine hz_ce (As := [.int (-1000000001)]) (rest := []) ⟨hx, hb, hml, hown, hts⟩ (c4_finds l D cI cJ (h0 := h0) (af := af) (fs := fs) (F := F) (f := -1000000001) (k := 0) (hf := by first | assumption | rfl) (hk := by omega) (hfk := by decide)) (cwV 1 hts gX4_tell_X4_finds rfl rfl rfl (by decide +kernel) ⟨Nat.le_of_ble_eq_true rfl, Nat.le_of_ble_eq_true rfl⟩) hK hP hD hS [0, 2] rfl (by decide) rfl (w' := [(h0, .inr (4, fs)), (am, .inl (cI, 75, .inl M)), (af, .inl (cI, 7, .inl (sp_fd F 0)))]) rfl [0, 1] rfl 0 rfl rfl rfl rfl hl.1 rfl (Nat.le_of_ble_eq_true rfl) dX4_tell_36 ⟨Nat.zero_le _, Nat.zero_le _⟩ (fun H locs hP hD hS => ?_)
    refine W.eq (g2 := F0 m 39 ls [.int ((-1000000001))]) rfl ?_
    refine hz_ei hx hb hr hlocks rfl ?_ hS (by rw [show fd_tell M z w v = some 0 from if_neg c5]; rfl) dX4_tell_39
    rw [show fd_tell M z w v = some 0 from if_neg c5]
    exact hP
  · rcases hz_sw0_3 w with rfl | rfl | rfl | rfl | hw
    · have ei : cl (nI 0) = 0 := by decide
      refine lv_aload_n hx hb dX4_tell_8 rfl (lv_at hl 0 rfl) ?_
      refine lv_iload_n hx hb dX4_tell_9 rfl (lv_at hl 2 rfl) ?_
      refine lv_iload_n hx hb dX4_tell_10 rfl (lv_at hl 3 rfl) ?_
      refine hz_cv (As := [.int (nI 0), .int (v)]) (rest := []) ⟨hx, hb, hml, hown, hts⟩ (c4_mt0 l D cI cJ (h0 := h0) (am := am) (fs := fs) (M := M) (x := v) (hf := by first | assumption | rfl) (hM1 := by first | assumption | rfl) (hD8 := by first | assumption | rfl)) (cwV 2 hts gX4_tell_X4_mayTell rfl rfl rfl (by decide +kernel) ⟨Nat.le_of_ble_eq_true rfl, Nat.le_of_ble_eq_true rfl⟩) hK hP [0, 1] rfl [0, 1] rfl 0 rfl rfl rfl rfl hl.1 rfl (Nat.le_of_ble_eq_true rfl) dX4_tell_11 ⟨Nat.zero_le _, Nat.zero_le _⟩ ?_
      refine hz_ifb_eq (tgt := 33) hx hb dX4_tell_14 (by decide) (fun c14 => ?_) (fun c14 => ?_)
      · refine lv_aload_n hx hb dX4_tell_33 rfl (lv_at hl 0 rfl) ?_
        refine lv_ldc (v := -1000000001) hx hb hown wd1 dX4_tell_34 ?_
        refine hz_ce (As := [.int (-1000000001)]) (rest := []) ⟨hx, hb, hml, hown, hts⟩ (c4_finds l D cI cJ (h0 := h0) (af := af) (fs := fs) (F := F) (f := -1000000001) (k := 0) (hf := by first | assumption | rfl) (hk := by omega) (hfk := by decide)) (cwV 1 hts gX4_tell_X4_finds rfl rfl rfl (by decide +kernel) ⟨Nat.le_of_ble_eq_true rfl, Nat.le_of_ble_eq_true rfl⟩) hK hP hD hS [0, 2] rfl (by decide) rfl (w' := [(h0, .inr (4, fs)), (am, .inl (cI, 75, .inl M)), (af, .inl (cI, 7, .inl (sp_fd F 0)))]) rfl [0, 1] rfl 0 rfl rfl rfl rfl hl.1 rfl (Nat.le_of_ble_eq_true rfl) dX4_tell_36 ⟨Nat.zero_le _, Nat.zero_le _⟩ (fun H locs hP hD hS => ?_)
        refine W.eq (g2 := F0 m 39 ls [.int ((-1000000001))]) rfl ?_
        refine hz_ei hx hb hr hlocks rfl ?_ hS (by rw [show fd_tell M z (nI _) v = some 0 from (if_pos c5).trans (if_neg (by first | exact tell_0 c14 | exact tell_1 c14 | exact tell_2 c14 | exact tell_3 c14))]; rfl) dX4_tell_39
        rw [show fd_tell M z (nI _) v = some 0 from (if_pos c5).trans (if_neg (by first | exact tell_0 c14 | exact tell_1 c14 | exact tell_2 c14 | exact tell_3 c14))]
        exact hP
      · obtain ⟨j, hj, rfl⟩ := hz_in_of c5 (by omega)
        refine lv_aload_n hx hb dX4_tell_17 rfl (lv_at hl 0 rfl) ?_
        refine lv_bipush (v := nI 43) hx hb dX4_tell_18 (by decide) ?_
        refine lv_iconst (v := nI 4) hx hb dX4_tell_20 (by decide) ?_
        refine lv_iload_n hx hb dX4_tell_21 rfl (lv_at hl 1 rfl) ?_
        refine hz_imul hx hb dX4_tell_22 ?_
        refine hz_iadd hx hb dX4_tell_23 ?_
        refine lv_iload_n hx hb dX4_tell_24 rfl (lv_at hl 2 rfl) ?_
        refine hz_iadd hx hb dX4_tell_25 ?_
        refine lv_iload_n hx hb dX4_tell_26 rfl (lv_at hl 3 rfl) ?_
        refine hz_ce (As := [.int (nI (43 + 4 * j + 0)), .int (v)]) (rest := []) ⟨hx, hb, hml, hown, hts⟩ (c4_becomes l D cI cJ (h0 := h0) (am := am) (fs := fs) (M := M) (i := 43 + 4 * j + 0) (x := v) (hf := by first | assumption | rfl) (hi := by omega)) (cwV 2 hts gX4_tell_X4_becomes rfl rfl rfl (by decide +kernel) ⟨Nat.le_of_ble_eq_true rfl, Nat.le_of_ble_eq_true rfl⟩) hK hP hD hS [0, 1] rfl (by decide) rfl (w' := [(h0, .inr (4, fs)), (am, .inl (cI, 75, .inl (upd M (43 + 4 * j + 0) v))), (af, .inl (cI, 7, .inl F))]) rfl [0, 1] rfl 0 rfl rfl rfl rfl hl.1 rfl (Nat.le_of_ble_eq_true rfl) dX4_tell_27 ⟨Nat.zero_le _, Nat.zero_le _⟩ (fun H locs hP hD hS => ?_)
        refine W.eq (g2 := F0 m 30 ls [.int (M (43 + 4 * j))]) rfl ?_
        refine hz_ct (y := M (43 + 4 * j)) rfl ?_
        refine lv_goto (tgt := 39) hx hb dX4_tell_30 (by decide) ?_
        refine hz_ei hx hb hr hlocks rfl ?_ hS (by rw [show fd_tell M (nI j) (nI _) v = none from (if_pos c5).trans (if_pos (by first | exact Or.inl ⟨rfl, c14⟩ | exact Or.inr (Or.inl ⟨rfl, c14⟩) | exact Or.inr (Or.inr (Or.inl ⟨rfl, c14⟩)) | exact Or.inr (Or.inr (Or.inr ⟨rfl, c14⟩))))]; exact fr_n (by rw [cl, nI_clamp (by omega), ei] <;> rfl)) dX4_tell_39
        rw [show fd_tell M (nI j) (nI _) v = none from (if_pos c5).trans (if_pos (by first | exact Or.inl ⟨rfl, c14⟩ | exact Or.inr (Or.inl ⟨rfl, c14⟩) | exact Or.inr (Or.inr (Or.inl ⟨rfl, c14⟩)) | exact Or.inr (Or.inr (Or.inr ⟨rfl, c14⟩))))]
        rw [cl, nI_clamp (by omega), ei]
        exact hP
    · have ei : cl (nI 1) = 1 := by decide
      refine lv_aload_n hx hb dX4_tell_8 rfl (lv_at hl 0 rfl) ?_
      refine lv_iload_n hx hb dX4_tell_9 rfl (lv_at hl 2 rfl) ?_
      refine lv_iload_n hx hb dX4_tell_10 rfl (lv_at hl 3 rfl) ?_
      refine hz_cv (As := [.int (nI 1), .int (v)]) (rest := []) ⟨hx, hb, hml, hown, hts⟩ (c4_mt1 l D cI cJ (h0 := h0) (am := am) (fs := fs) (M := M) (x := v) (hf := by first | assumption | rfl)) (cwV 2 hts gX4_tell_X4_mayTell rfl rfl rfl (by decide +kernel) ⟨Nat.le_of_ble_eq_true rfl, Nat.le_of_ble_eq_true rfl⟩) hK hP [0, 1] rfl [0, 1] rfl 0 rfl rfl rfl rfl hl.1 rfl (Nat.le_of_ble_eq_true rfl) dX4_tell_11 ⟨Nat.zero_le _, Nat.zero_le _⟩ ?_
      refine hz_ifb_eq (tgt := 33) hx hb dX4_tell_14 (by decide) (fun c14 => ?_) (fun c14 => ?_)
      · refine lv_aload_n hx hb dX4_tell_33 rfl (lv_at hl 0 rfl) ?_
        refine lv_ldc (v := -1000000001) hx hb hown wd1 dX4_tell_34 ?_
        refine hz_ce (As := [.int (-1000000001)]) (rest := []) ⟨hx, hb, hml, hown, hts⟩ (c4_finds l D cI cJ (h0 := h0) (af := af) (fs := fs) (F := F) (f := -1000000001) (k := 0) (hf := by first | assumption | rfl) (hk := by omega) (hfk := by decide)) (cwV 1 hts gX4_tell_X4_finds rfl rfl rfl (by decide +kernel) ⟨Nat.le_of_ble_eq_true rfl, Nat.le_of_ble_eq_true rfl⟩) hK hP hD hS [0, 2] rfl (by decide) rfl (w' := [(h0, .inr (4, fs)), (am, .inl (cI, 75, .inl M)), (af, .inl (cI, 7, .inl (sp_fd F 0)))]) rfl [0, 1] rfl 0 rfl rfl rfl rfl hl.1 rfl (Nat.le_of_ble_eq_true rfl) dX4_tell_36 ⟨Nat.zero_le _, Nat.zero_le _⟩ (fun H locs hP hD hS => ?_)
        refine W.eq (g2 := F0 m 39 ls [.int ((-1000000001))]) rfl ?_
        refine hz_ei hx hb hr hlocks rfl ?_ hS (by rw [show fd_tell M z (nI _) v = some 0 from (if_pos c5).trans (if_neg (by first | exact tell_0 c14 | exact tell_1 c14 | exact tell_2 c14 | exact tell_3 c14))]; rfl) dX4_tell_39
        rw [show fd_tell M z (nI _) v = some 0 from (if_pos c5).trans (if_neg (by first | exact tell_0 c14 | exact tell_1 c14 | exact tell_2 c14 | exact tell_3 c14))]
        exact hP
      · obtain ⟨j, hj, rfl⟩ := hz_in_of c5 (by omega)
        refine lv_aload_n hx hb dX4_tell_17 rfl (lv_at hl 0 rfl) ?_
        refine lv_bipush (v := nI 43) hx hb dX4_tell_18 (by decide) ?_
        refine lv_iconst (v := nI 4) hx hb dX4_tell_20 (by decide) ?_
        refine lv_iload_n hx hb dX4_tell_21 rfl (lv_at hl 1 rfl) ?_
        refine hz_imul hx hb dX4_tell_22 ?_
        refine hz_iadd hx hb dX4_tell_23 ?_
        refine lv_iload_n hx hb dX4_tell_24 rfl (lv_at hl 2 rfl) ?_
        refine hz_iadd hx hb dX4_tell_25 ?_
        refine lv_iload_n hx hb dX4_tell_26 rfl (lv_at hl 3 rfl) ?_
        refine hz_ce (As := [.int (nI (43 + 4 * j + 1)), .int (v)]) (rest := []) ⟨hx, hb, hml, hown, hts⟩ (c4_becomes l D cI cJ (h0 := h0) (am := am) (fs := fs) (M := M) (i := 43 + 4 * j + 1) (x := v) (hf := by first | assumption | rfl) (hi := by omega)) (cwV 2 hts gX4_tell_X4_becomes rfl rfl rfl (by decide +kernel) ⟨Nat.le_of_ble_eq_true rfl, Nat.le_of_ble_eq_true rfl⟩) hK hP hD hS [0, 1] rfl (by decide) rfl (w' := [(h0, .inr (4, fs)), (am, .inl (cI, 75, .inl (upd M (43 + 4 * j + 1) v))), (af, .inl (cI, 7, .inl F))]) rfl [0, 1] rfl 0 rfl rfl rfl rfl hl.1 rfl (Nat.le_of_ble_eq_true rfl) dX4_tell_27 ⟨Nat.zero_le _, Nat.zero_le _⟩ (fun H locs hP hD hS => ?_)
        refine W.eq (g2 := F0 m 30 ls [.int (M (43 + 4 * j + 1))]) rfl ?_
        refine lv_goto (tgt := 39) hx hb dX4_tell_30 (by decide) ?_
        refine hz_ei hx hb hr hlocks rfl ?_ hS (by rw [show fd_tell M (nI j) (nI _) v = none from (if_pos c5).trans (if_pos (by first | exact Or.inl ⟨rfl, c14⟩ | exact Or.inr (Or.inl ⟨rfl, c14⟩) | exact Or.inr (Or.inr (Or.inl ⟨rfl, c14⟩)) | exact Or.inr (Or.inr (Or.inr ⟨rfl, c14⟩))))]; exact fr_n (by rw [cl, nI_clamp (by omega), ei] <;> rfl)) dX4_tell_39
        rw [show fd_tell M (nI j) (nI _) v = none from (if_pos c5).trans (if_pos (by first | exact Or.inl ⟨rfl, c14⟩ | exact Or.inr (Or.inl ⟨rfl, c14⟩) | exact Or.inr (Or.inr (Or.inl ⟨rfl, c14⟩)) | exact Or.inr (Or.inr (Or.inr ⟨rfl, c14⟩))))]
        rw [cl, nI_clamp (by omega), ei]
        exact hP
    · have ei : cl (nI 2) = 2 := by decide
      refine lv_aload_n hx hb dX4_tell_8 rfl (lv_at hl 0 rfl) ?_
      refine lv_iload_n hx hb dX4_tell_9 rfl (lv_at hl 2 rfl) ?_
      refine lv_iload_n hx hb dX4_tell_10 rfl (lv_at hl 3 rfl) ?_
      refine hz_cv (As := [.int (nI 2), .int (v)]) (rest := []) ⟨hx, hb, hml, hown, hts⟩ (c4_mt2 l D cI cJ (h0 := h0) (am := am) (fs := fs) (M := M) (x := v) (hf := by first | assumption | rfl) (hM1 := by first | assumption | rfl) (hD8 := by first | assumption | rfl)) (cwV 2 hts gX4_tell_X4_mayTell rfl rfl rfl (by decide +kernel) ⟨Nat.le_of_ble_eq_true rfl, Nat.le_of_ble_eq_true rfl⟩) hK hP [0, 1] rfl [0, 1] rfl 0 rfl rfl rfl rfl hl.1 rfl (Nat.le_of_ble_eq_true rfl) dX4_tell_11 ⟨Nat.zero_le _, Nat.zero_le _⟩ ?_
      refine hz_ifb_eq (tgt := 33) hx hb dX4_tell_14 (by decide) (fun c14 => ?_) (fun c14 => ?_)
      · refine lv_aload_n hx hb dX4_tell_33 rfl (lv_at hl 0 rfl) ?_
        refine lv_ldc (v := -1000000001) hx hb hown wd1 dX4_tell_34 ?_
        refine hz_ce (As := [.int (-1000000001)]) (rest := []) ⟨hx, hb, hml, hown, hts⟩ (c4_finds l D cI cJ (h0 := h0) (af := af) (fs := fs) (F := F) (f := -1000000001) (k := 0) (hf := by first | assumption | rfl) (hk := by omega) (hfk := by decide)) (cwV 1 hts gX4_tell_X4_finds rfl rfl rfl (by decide +kernel) ⟨Nat.le_of_ble_eq_true rfl, Nat.le_of_ble_eq_true rfl⟩) hK hP hD hS [0, 2] rfl (by decide) rfl (w' := [(h0, .inr (4, fs)), (am, .inl (cI, 75, .inl M)), (af, .inl (cI, 7, .inl (sp_fd F 0)))]) rfl [0, 1] rfl 0 rfl rfl rfl rfl hl.1 rfl (Nat.le_of_ble_eq_true rfl) dX4_tell_36 ⟨Nat.zero_le _, Nat.zero_le _⟩ (fun H locs hP hD hS => ?_)
        refine W.eq (g2 := F0 m 39 ls [.int ((-1000000001))]) rfl ?_
        refine hz_ei hx hb hr hlocks rfl ?_ hS (by rw [show fd_tell M z (nI _) v = some 0 from (if_pos c5).trans (if_neg (by first | exact tell_0 c14 | exact tell_1 c14 | exact tell_2 c14 | exact tell_3 c14))]; rfl) dX4_tell_39
        rw [show fd_tell M z (nI _) v = some 0 from (if_pos c5).trans (if_neg (by first | exact tell_0 c14 | exact tell_1 c14 | exact tell_2 c14 | exact tell_3 c14))]
        exact hP
      · obtain ⟨j, hj, rfl⟩ := hz_in_of c5 (by omega)
        refine lv_aload_n hx hb dX4_tell_17 rfl (lv_at hl 0 rfl) ?_
        refine lv_bipush (v := nI 43) hx hb dX4_tell_18 (by decide) ?_
        refine lv_iconst (v := nI 4) hx hb dX4_tell_20 (by decide) ?_
        refine lv_iload_n hx hb dX4_tell_21 rfl (lv_at hl 1 rfl) ?_
        refine hz_imul hx hb dX4_tell_22 ?_
        refine hz_iadd hx hb dX4_tell_23 ?_
        refine lv_iload_n hx hb dX4_tell_24 rfl (lv_at hl 2 rfl) ?_
        refine hz_iadd hx hb dX4_tell_25 ?_
        refine lv_iload_n hx hb dX4_tell_26 rfl (lv_at hl 3 rfl) ?_
        refine hz_ce (As := [.int (nI (43 + 4 * j + 2)), .int (v)]) (rest := []) ⟨hx, hb, hml, hown, hts⟩ (c4_becomes l D cI cJ (h0 := h0) (am := am) (fs := fs) (M := M) (i := 43 + 4 * j + 2) (x := v) (hf := by first | assumption | rfl) (hi := by omega)) (cwV 2 hts gX4_tell_X4_becomes rfl rfl rfl (by decide +kernel) ⟨Nat.le_of_ble_eq_true rfl, Nat.le_of_ble_eq_true rfl⟩) hK hP hD hS [0, 1] rfl (by decide) rfl (w' := [(h0, .inr (4, fs)), (am, .inl (cI, 75, .inl (upd M (43 + 4 * j + 2) v))), (af, .inl (cI, 7, .inl F))]) rfl [0, 1] rfl 0 rfl rfl rfl rfl hl.1 rfl (Nat.le_of_ble_eq_true rfl) dX4_tell_27 ⟨Nat.zero_le _, Nat.zero_le _⟩ (fun H locs hP hD hS => ?_)
        refine W.eq (g2 := F0 m 30 ls [.int (M (43 + 4 * j + 2))]) rfl ?_
        refine lv_goto (tgt := 39) hx hb dX4_tell_30 (by decide) ?_
        refine hz_ei hx hb hr hlocks rfl ?_ hS (by rw [show fd_tell M (nI j) (nI _) v = none from (if_pos c5).trans (if_pos (by first | exact Or.inl ⟨rfl, c14⟩ | exact Or.inr (Or.inl ⟨rfl, c14⟩) | exact Or.inr (Or.inr (Or.inl ⟨rfl, c14⟩)) | exact Or.inr (Or.inr (Or.inr ⟨rfl, c14⟩))))]; exact fr_n (by rw [cl, nI_clamp (by omega), ei] <;> rfl)) dX4_tell_39
        rw [show fd_tell M (nI j) (nI _) v = none from (if_pos c5).trans (if_pos (by first | exact Or.inl ⟨rfl, c14⟩ | exact Or.inr (Or.inl ⟨rfl, c14⟩) | exact Or.inr (Or.inr (Or.inl ⟨rfl, c14⟩)) | exact Or.inr (Or.inr (Or.inr ⟨rfl, c14⟩))))]
        rw [cl, nI_clamp (by omega), ei]
        exact hP
    · have ei : cl (nI 3) = 3 := by decide
      refine lv_aload_n hx hb dX4_tell_8 rfl (lv_at hl 0 rfl) ?_
      refine lv_iload_n hx hb dX4_tell_9 rfl (lv_at hl 2 rfl) ?_
      refine lv_iload_n hx hb dX4_tell_10 rfl (lv_at hl 3 rfl) ?_
      refine hz_cv (As := [.int (nI 3), .int (v)]) (rest := []) ⟨hx, hb, hml, hown, hts⟩ (c4_mt3 l D cI cJ (h0 := h0) (am := am) (fs := fs) (M := M) (x := v) (hf := by first | assumption | rfl)) (cwV 2 hts gX4_tell_X4_mayTell rfl rfl rfl (by decide +kernel) ⟨Nat.le_of_ble_eq_true rfl, Nat.le_of_ble_eq_true rfl⟩) hK hP [0, 1] rfl [0, 1] rfl 0 rfl rfl rfl rfl hl.1 rfl (Nat.le_of_ble_eq_true rfl) dX4_tell_11 ⟨Nat.zero_le _, Nat.zero_le _⟩ ?_
      refine hz_ifb_eq (tgt := 33) hx hb dX4_tell_14 (by decide) (fun c14 => ?_) (fun c14 => ?_)
      · refine lv_aload_n hx hb dX4_tell_33 rfl (lv_at hl 0 rfl) ?_
        refine lv_ldc (v := -1000000001) hx hb hown wd1 dX4_tell_34 ?_
        refine hz_ce (As := [.int (-1000000001)]) (rest := []) ⟨hx, hb, hml, hown, hts⟩ (c4_finds l D cI cJ (h0 := h0) (af := af) (fs := fs) (F := F) (f := -1000000001) (k := 0) (hf := by first | assumption | rfl) (hk := by omega) (hfk := by decide)) (cwV 1 hts gX4_tell_X4_finds rfl rfl rfl (by decide +kernel) ⟨Nat.le_of_ble_eq_true rfl, Nat.le_of_ble_eq_true rfl⟩) hK hP hD hS [0, 2] rfl (by decide) rfl (w' := [(h0, .inr (4, fs)), (am, .inl (cI, 75, .inl M)), (af, .inl (cI, 7, .inl (sp_fd F 0)))]) rfl [0, 1] rfl 0 rfl rfl rfl rfl hl.1 rfl (Nat.le_of_ble_eq_true rfl) dX4_tell_36 ⟨Nat.zero_le _, Nat.zero_le _⟩ (fun H locs hP hD hS => ?_)
        refine W.eq (g2 := F0 m 39 ls [.int ((-1000000001))]) rfl ?_
        refine hz_ei hx hb hr hlocks rfl ?_ hS (by rw [show fd_tell M z (nI _) v = some 0 from (if_pos c5).trans (if_neg (by first | exact tell_0 c14 | exact tell_1 c14 | exact tell_2 c14 | exact tell_3 c14))]; rfl) dX4_tell_39
        rw [show fd_tell M z (nI _) v = some 0 from (if_pos c5).trans (if_neg (by first | exact tell_0 c14 | exact tell_1 c14 | exact tell_2 c14 | exact tell_3 c14))]
        exact hP
      · obtain ⟨j, hj, rfl⟩ := hz_in_of c5 (by omega)
        refine lv_aload_n hx hb dX4_tell_17 rfl (lv_at hl 0 rfl) ?_
        refine lv_bipush (v := nI 43) hx hb dX4_tell_18 (by decide) ?_
        refine lv_iconst (v := nI 4) hx hb dX4_tell_20 (by decide) ?_
        refine lv_iload_n hx hb dX4_tell_21 rfl (lv_at hl 1 rfl) ?_
        refine hz_imul hx hb dX4_tell_22 ?_
        refine hz_iadd hx hb dX4_tell_23 ?_
        refine lv_iload_n hx hb dX4_tell_24 rfl (lv_at hl 2 rfl) ?_
        refine hz_iadd hx hb dX4_tell_25 ?_
        refine lv_iload_n hx hb dX4_tell_26 rfl (lv_at hl 3 rfl) ?_
        refine hz_ce (As := [.int (nI (43 + 4 * j + 3)), .int (v)]) (rest := []) ⟨hx, hb, hml, hown, hts⟩ (c4_becomes l D cI cJ (h0 := h0) (am := am) (fs := fs) (M := M) (i := 43 + 4 * j + 3) (x := v) (hf := by first | assumption | rfl) (hi := by omega)) (cwV 2 hts gX4_tell_X4_becomes rfl rfl rfl (by decide +kernel) ⟨Nat.le_of_ble_eq_true rfl, Nat.le_of_ble_eq_true rfl⟩) hK hP hD hS [0, 1] rfl (by decide) rfl (w' := [(h0, .inr (4, fs)), (am, .inl (cI, 75, .inl (upd M (43 + 4 * j + 3) v))), (af, .inl (cI, 7, .inl F))]) rfl [0, 1] rfl 0 rfl rfl rfl rfl hl.1 rfl (Nat.le_of_ble_eq_true rfl) dX4_tell_27 ⟨Nat.zero_le _, Nat.zero_le _⟩ (fun H locs hP hD hS => ?_)
        refine W.eq (g2 := F0 m 30 ls [.int (M (43 + 4 * j + 3))]) rfl ?_
        refine lv_goto (tgt := 39) hx hb dX4_tell_30 (by decide) ?_
        refine hz_ei hx hb hr hlocks rfl ?_ hS (by rw [show fd_tell M (nI j) (nI _) v = none from (if_pos c5).trans (if_pos (by first | exact Or.inl ⟨rfl, c14⟩ | exact Or.inr (Or.inl ⟨rfl, c14⟩) | exact Or.inr (Or.inr (Or.inl ⟨rfl, c14⟩)) | exact Or.inr (Or.inr (Or.inr ⟨rfl, c14⟩))))]; exact fr_n (by rw [cl, nI_clamp (by omega), ei] <;> rfl)) dX4_tell_39
        rw [show fd_tell M (nI j) (nI _) v = none from (if_pos c5).trans (if_pos (by first | exact Or.inl ⟨rfl, c14⟩ | exact Or.inr (Or.inl ⟨rfl, c14⟩) | exact Or.inr (Or.inr (Or.inl ⟨rfl, c14⟩)) | exact Or.inr (Or.inr (Or.inr ⟨rfl, c14⟩))))]
        rw [cl, nI_clamp (by omega), ei]
        exact hP
    · refine lv_aload_n hx hb dX4_tell_8 rfl (lv_at hl 0 rfl) ?_
      refine lv_iload_n hx hb dX4_tell_9 rfl (lv_at hl 2 rfl) ?_
      refine lv_iload_n hx hb dX4_tell_10 rfl (lv_at hl 3 rfl) ?_
      refine hz_cv (As := [.int (w), .int (v)]) (rest := []) ⟨hx, hb, hml, hown, hts⟩ (c4_mtn l D cI cJ (h0 := h0) (am := am) (fs := fs) (M := M) (y := w) (x := v) (hf := by first | assumption | rfl) (hy := by first | assumption | rfl)) (cwV 2 hts gX4_tell_X4_mayTell rfl rfl rfl (by decide +kernel) ⟨Nat.le_of_ble_eq_true rfl, Nat.le_of_ble_eq_true rfl⟩) hK hP [0, 1] rfl [0, 1] rfl 0 rfl rfl rfl rfl hl.1 rfl (Nat.le_of_ble_eq_true rfl) dX4_tell_11 ⟨Nat.zero_le _, Nat.zero_le _⟩ ?_
      refine lv_if_eq (tgt := 33) hx hb dX4_tell_14 (by decide) (fun _ => ?_) (fun h => absurd h (by first | decide | omega | exact hz_nneg (by omega) | exact hz_nneg' (by omega)))
      refine lv_aload_n hx hb dX4_tell_33 rfl (lv_at hl 0 rfl) ?_
      refine lv_ldc (v := -1000000001) hx hb hown wd1 dX4_tell_34 ?_
      refine hz_ce (As := [.int (-1000000001)]) (rest := []) ⟨hx, hb, hml, hown, hts⟩ (c4_finds l D cI cJ (h0 := h0) (af := af) (fs := fs) (F := F) (f := -1000000001) (k := 0) (hf := by first | assumption | rfl) (hk := by omega) (hfk := by decide)) (cwV 1 hts gX4_tell_X4_finds rfl rfl rfl (by decide +kernel) ⟨Nat.le_of_ble_eq_true rfl, Nat.le_of_ble_eq_true rfl⟩) hK hP hD hS [0, 2] rfl (by decide) rfl (w' := [(h0, .inr (4, fs)), (am, .inl (cI, 75, .inl M)), (af, .inl (cI, 7, .inl (sp_fd F 0)))]) rfl [0, 1] rfl 0 rfl rfl rfl rfl hl.1 rfl (Nat.le_of_ble_eq_true rfl) dX4_tell_36 ⟨Nat.zero_le _, Nat.zero_le _⟩ (fun H locs hP hD hS => ?_)
      refine W.eq (g2 := F0 m 39 ls [.int ((-1000000001))]) rfl ?_
      refine hz_ei hx hb hr hlocks rfl ?_ hS (by rw [show fd_tell M z w v = some 0 from (if_pos c5).trans (if_neg (tell_n hw))]; rfl) dX4_tell_39
      rw [show fd_tell M z w v = some 0 from (if_pos c5).trans (if_neg (tell_n hw))]
      exact hP
set_option maxHeartbeats 4000000 in
set_option maxRecDepth 100000 in
theorem c3_tell (l : Launch) (D : va_G) (cI cJ : ClassId) (x0 kc0 tc0 tp0 sh0 fd0 : Nat) (kf : Int32) (a0 k_ p_ t_ h_ w_ b_ g_ i_ f_ : Nat) (M F : Nat → Int32) (b : Nat) (z w v : Int32) (hI : hz_I b M) : hz_ME l yX3_tell wsX3_tell { frames := 2, cells := 0, slots := 0, locals := 44 } [.ref x0, .int (z), .int (w), .int (v)] D zcl [(cI, .int), (cJ, .long)] [(x0, .inr (3, [.ref a0, .ref kc0, .ref tc0, .ref tp0, .ref sh0, .ref fd0, .int (kf)])), (a0, .inr (0, [.int (M 0), .int (M 1), .ref k_, .ref p_, .ref t_, .ref h_, .ref w_, .int (M 2), .ref b_, .ref g_, .ref i_, .ref f_])), (k_, .inl (cI, 8, .inl (fun x_ => M (3 + 5 * x_)))), (p_, .inl (cI, 8, .inl (fun x_ => M (3 + 5 * x_ + 1)))), (t_, .inl (cI, 8, .inl (fun x_ => M (3 + 5 * x_ + 2)))), (h_, .inl (cI, 8, .inl (fun x_ => M (3 + 5 * x_ + 3)))), (w_, .inl (cI, 8, .inl (fun x_ => M (3 + 5 * x_ + 4)))), (b_, .inl (cI, 8, .inl (fun x_ => M (43 + 4 * x_)))), (g_, .inl (cI, 8, .inl (fun x_ => M (43 + 4 * x_ + 1)))), (i_, .inl (cI, 8, .inl (fun x_ => M (43 + 4 * x_ + 2)))), (f_, .inl (cI, 8, .inl (fun x_ => M (43 + 4 * x_ + 3)))), (fd0, .inl (cI, 7, .inl F))] [(x0, .inr (3, [.ref a0, .ref kc0, .ref tc0, .ref tp0, .ref sh0, .ref fd0, .int (kf)])), (a0, .inr (0, [.int ((sp_fM (fd_tell M z w v) M (upd M (43 + 4 * cl z + cl w) v)) 0), .int ((sp_fM (fd_tell M z w v) M (upd M (43 + 4 * cl z + cl w) v)) 1), .ref k_, .ref p_, .ref t_, .ref h_, .ref w_, .int ((sp_fM (fd_tell M z w v) M (upd M (43 + 4 * cl z + cl w) v)) 2), .ref b_, .ref g_, .ref i_, .ref f_])), (k_, .inl (cI, 8, .inl (fun x_ => (sp_fM (fd_tell M z w v) M (upd M (43 + 4 * cl z + cl w) v)) (3 + 5 * x_)))), (p_, .inl (cI, 8, .inl (fun x_ => (sp_fM (fd_tell M z w v) M (upd M (43 + 4 * cl z + cl w) v)) (3 + 5 * x_ + 1)))), (t_, .inl (cI, 8, .inl (fun x_ => (sp_fM (fd_tell M z w v) M (upd M (43 + 4 * cl z + cl w) v)) (3 + 5 * x_ + 2)))), (h_, .inl (cI, 8, .inl (fun x_ => (sp_fM (fd_tell M z w v) M (upd M (43 + 4 * cl z + cl w) v)) (3 + 5 * x_ + 3)))), (w_, .inl (cI, 8, .inl (fun x_ => (sp_fM (fd_tell M z w v) M (upd M (43 + 4 * cl z + cl w) v)) (3 + 5 * x_ + 4)))), (b_, .inl (cI, 8, .inl (fun x_ => (sp_fM (fd_tell M z w v) M (upd M (43 + 4 * cl z + cl w) v)) (43 + 4 * x_)))), (g_, .inl (cI, 8, .inl (fun x_ => (sp_fM (fd_tell M z w v) M (upd M (43 + 4 * cl z + cl w) v)) (43 + 4 * x_ + 1)))), (i_, .inl (cI, 8, .inl (fun x_ => (sp_fM (fd_tell M z w v) M (upd M (43 + 4 * cl z + cl w) v)) (43 + 4 * x_ + 2)))), (f_, .inl (cI, 8, .inl (fun x_ => (sp_fM (fd_tell M z w v) M (upd M (43 + 4 * cl z + cl w) v)) (43 + 4 * x_ + 3)))), (fd0, .inl (cI, 7, .inl (sp_ff F (fd_tell M z w v))))] (some (.int (sp_fr (fd_tell M z w v) (M (43 + 4 * cl z + cl w))))) := by
  refine hz_me (cc := cX3_tell) (maxL := 4) (ret := (some .int)) (by decide) rfl (Nat.le_of_ble_eq_true rfl) ?_
  intro p e s m below meth c hx hb hr hts hown hlocks hml hP hK hD ls hl
  have hS : va_S (hz_a [(x0, .inr (3, [.ref a0, .ref kc0, .ref tc0, .ref tp0, .ref sh0, .ref fd0, .int (kf)])), (a0, .inr (0, [.int (M 0), .int (M 1), .ref k_, .ref p_, .ref t_, .ref h_, .ref w_, .int (M 2), .ref b_, .ref g_, .ref i_, .ref f_])), (k_, .inl (cI, 8, .inl (fun x_ => M (3 + 5 * x_)))), (p_, .inl (cI, 8, .inl (fun x_ => M (3 + 5 * x_ + 1)))), (t_, .inl (cI, 8, .inl (fun x_ => M (3 + 5 * x_ + 2)))), (h_, .inl (cI, 8, .inl (fun x_ => M (3 + 5 * x_ + 3)))), (w_, .inl (cI, 8, .inl (fun x_ => M (3 + 5 * x_ + 4)))), (b_, .inl (cI, 8, .inl (fun x_ => M (43 + 4 * x_)))), (g_, .inl (cI, 8, .inl (fun x_ => M (43 + 4 * x_ + 1)))), (i_, .inl (cI, 8, .inl (fun x_ => M (43 + 4 * x_ + 2)))), (f_, .inl (cI, 8, .inl (fun x_ => M (43 + 4 * x_ + 3)))), (fd0, .inl (cI, 7, .inl F))]) s.heap s.heap [] := va_S.rf
  have hown : s.vm.findClass RX3 = some m.cls := hown
  have hl : lv_has ls 4 [(0, .ref x0), (1, .int (z)), (2, .int (w)), (3, .int (v))] := hl
  have hinX3 : ∀ w ∈ u_ws RX3 TX3 7, w ∈ wsX3_tell := fun w h => List.mem_cons_of_mem _ (List.mem_append_left _ (List.mem_append_right _ (h)))
  have wd1 := hts (.fieldLink RX3 10 "HurtSpeech" "live" "LHurtSpeech$Congress;") (List.mem_of_getElem? (i := 1) rfl)
  have wd2 := hts (.constant RX3 48 (-1000000001)) (List.mem_of_getElem? (i := 2) rfl)
  obtain ⟨⟨hM0, hTb, hM1, hD8, hM2, hS8⟩, hID, hIS⟩ := id hI
  refine lv_aload_n hx hb dX3_tell_0 rfl (lv_at hl 0 rfl) ?_
  refine va_get hx hb hts hinX3 hown hK hP 0 rfl rfl 0 (by decide) wd1 (fun _ h => h) rfl dX3_tell_1 ?_
  refine lv_iload_n hx hb dX3_tell_4 rfl (lv_at hl 1 rfl) ?_
  refine hz_cv (As := [.int (z)]) (rest := []) ⟨hx, hb, hml, hown, hts⟩ (c0_hasSpeech l D cI cJ (a0 := a0) (k_ := k_) (p_ := p_) (t_ := t_) (h_ := h_) (w_ := w_) (b_ := b_) (g_ := g_) (i_ := i_) (f_ := f_) (M := M) (x := z) (hM2 := by first | assumption | rfl) (hS8 := by first | assumption | rfl)) (cwV 1 hts gX3_tell_X0_hasSpeech rfl rfl rfl (by decide +kernel) ⟨Nat.le_of_ble_eq_true rfl, Nat.le_of_ble_eq_true rfl⟩) hK hP [1] rfl [0, 1] rfl 1 rfl rfl rfl rfl hl.1 rfl (Nat.le_of_ble_eq_true rfl) dX3_tell_5 ⟨Nat.zero_le _, Nat.zero_le _⟩ ?_
  refine hz_ifb_eq (tgt := 23) hx hb dX3_tell_8 (by decide) (fun c8 => ?_) (fun c8 => ?_)
  · refine lv_aload_n hx hb dX3_tell_23 rfl (lv_at hl 0 rfl) ?_
    refine lv_ldc (v := -1000000001) hx hb hown wd2 dX3_tell_24 ?_
    refine hz_ce (As := [.int (-1000000001)]) (rest := []) ⟨hx, hb, hml, hown, hts⟩ (c3_found l D cI cJ (x0 := x0) (a0 := a0) (kc0 := kc0) (tc0 := tc0) (tp0 := tp0) (sh0 := sh0) (fd0 := fd0) (kf := kf) (F := F) (f := -1000000001) (k := 0) (hk := by omega) (hfk := by decide)) (cwV 1 hts gX3_tell_X3_found rfl rfl rfl (by decide +kernel) ⟨Nat.le_of_ble_eq_true rfl, Nat.le_of_ble_eq_true rfl⟩) hK hP hD hS [0, 11] rfl (by decide) rfl (w' := [(x0, .inr (3, [.ref a0, .ref kc0, .ref tc0, .ref tp0, .ref sh0, .ref fd0, .int (kf)])), (a0, .inr (0, [.int (M 0), .int (M 1), .ref k_, .ref p_, .ref t_, .ref h_, .ref w_, .int (M 2), .ref b_, .ref g_, .ref i_, .ref f_])), (k_, .inl (cI, 8, .inl (fun x_ => M (3 + 5 * x_)))), (p_, .inl (cI, 8, .inl (fun x_ => M (3 + 5 * x_ + 1)))), (t_, .inl (cI, 8, .inl (fun x_ => M (3 + 5 * x_ + 2)))), (h_, .inl (cI, 8, .inl (fun x_ => M (3 + 5 * x_ + 3)))), (w_, .inl (cI, 8, .inl (fun x_ => M (3 + 5 * x_ + 4)))), (b_, .inl (cI, 8, .inl (fun x_ => M (43 + 4 * x_)))), (g_, .inl (cI, 8, .inl (fun x_ => M (43 + 4 * x_ + 1)))), (i_, .inl (cI, 8, .inl (fun x_ => M (43 + 4 * x_ + 2)))), (f_, .inl (cI, 8, .inl (fun x_ => M (43 + 4 * x_ + 3)))), (fd0, .inl (cI, 7, .inl (sp_fd F 0)))]) rfl [0, 1] rfl 0 rfl rfl rfl rfl hl.1 rfl (Nat.le_of_ble_eq_true rfl) dX3_tell_26 ⟨Nat.zero_le _, Nat.zero_le _⟩ (fun H locs hP hD hS => ?_)
    refine W.eq (g2 := F0 m 29 ls [.int ((-1000000001))]) rfl ?_
    refine hz_ei hx hb hr hlocks rfl ?_ hS (by rw [show fd_tell M z w v = some 0 from if_neg c8]; rfl) dX3_tell_29
    rw [show fd_tell M z w v = some 0 from if_neg c8]
    exact hP
  · rcases hz_sw0_3 w with rfl | rfl | rfl | rfl | hw
    · have ei : cl (nI 0) = 0 := by decide
      refine lv_aload_n hx hb dX3_tell_11 rfl (lv_at hl 0 rfl) ?_
      refine va_get hx hb hts hinX3 hown hK hP 0 rfl rfl 0 (by decide) wd1 (fun _ h => h) rfl dX3_tell_12 ?_
      refine lv_iload_n hx hb dX3_tell_15 rfl (lv_at hl 2 rfl) ?_
      refine lv_iload_n hx hb dX3_tell_16 rfl (lv_at hl 3 rfl) ?_
      refine hz_cv (As := [.int (nI 0), .int (v)]) (rest := []) ⟨hx, hb, hml, hown, hts⟩ (c0_mt0 l D cI cJ (a0 := a0) (k_ := k_) (p_ := p_) (t_ := t_) (h_ := h_) (w_ := w_) (b_ := b_) (g_ := g_) (i_ := i_) (f_ := f_) (M := M) (x := v) (hM1 := by first | assumption | rfl) (hD8 := by first | assumption | rfl)) (cwV 2 hts gX3_tell_X0_mayTell rfl rfl rfl (by decide +kernel) ⟨Nat.le_of_ble_eq_true rfl, Nat.le_of_ble_eq_true rfl⟩) hK hP [1] rfl [0, 1] rfl 1 rfl rfl rfl rfl hl.1 rfl (Nat.le_of_ble_eq_true rfl) dX3_tell_17 ⟨Nat.zero_le _, Nat.zero_le _⟩ ?_
      refine hz_ifb_ne (tgt := 30) hx hb dX3_tell_20 (by decide) (fun c20 => ?_) (fun c20 => ?_)
      · obtain ⟨j, hj, rfl⟩ := hz_in_of c8 (by omega)
        refine lv_aload_n hx hb dX3_tell_30 rfl (lv_at hl 0 rfl) ?_
        refine va_get hx hb hts hinX3 hown hK hP 0 rfl rfl 0 (by decide) wd1 (fun _ h => h) rfl dX3_tell_31 ?_
        refine lv_iload_n hx hb dX3_tell_34 rfl (lv_at hl 2 rfl) ?_
        refine hz_cv (As := [.int (nI 0)]) (rest := []) ⟨hx, hb, hml, hown, hts⟩ (c0_sr0 l D cI cJ (a0 := a0) (k_ := k_) (p_ := p_) (t_ := t_) (h_ := h_) (w_ := w_) (b_ := b_) (g_ := g_) (i_ := i_) (f_ := f_) (s0 := M 0) (d0 := M 1) (z0 := M 2) ) (cwV 1 hts gX3_tell_X0_speechRow rfl rfl rfl (by decide +kernel) ⟨Nat.le_of_ble_eq_true rfl, Nat.le_of_ble_eq_true rfl⟩) hK hP [1] rfl [0, 1] rfl 1 rfl rfl rfl rfl hl.1 rfl (Nat.le_of_ble_eq_true rfl) dX3_tell_35 ⟨Nat.zero_le _, Nat.zero_le _⟩ ?_
        refine lv_iload_n hx hb dX3_tell_38 rfl (lv_at hl 1 rfl) ?_
        refine lv_iload_n hx hb dX3_tell_39 rfl (lv_at hl 3 rfl) ?_
        refine hz_cse (As := [.ref b_, .int (nI j), .int (v)]) (rest := []) ⟨hx, hb, hml, hown, hts⟩ (c3_exchange l D cI cJ (r_ := b_) (F := fun x_ => M (43 + 4 * x_)) (i := j) (v := v) (hi := by omega)) (va_cwS 3 hts gX3_tell_X3_exchange rfl rfl rfl (by decide +kernel) ⟨Nat.le_of_ble_eq_true rfl, Nat.le_of_ble_eq_true rfl⟩) hK hP hD hS [7] rfl (by decide) rfl (w' := [(x0, .inr (3, [.ref a0, .ref kc0, .ref tc0, .ref tp0, .ref sh0, .ref fd0, .int (kf)])), (a0, .inr (0, [.int (M 0), .int (M 1), .ref k_, .ref p_, .ref t_, .ref h_, .ref w_, .int (M 2), .ref b_, .ref g_, .ref i_, .ref f_])), (k_, .inl (cI, 8, .inl (fun x_ => M (3 + 5 * x_)))), (p_, .inl (cI, 8, .inl (fun x_ => M (3 + 5 * x_ + 1)))), (t_, .inl (cI, 8, .inl (fun x_ => M (3 + 5 * x_ + 2)))), (h_, .inl (cI, 8, .inl (fun x_ => M (3 + 5 * x_ + 3)))), (w_, .inl (cI, 8, .inl (fun x_ => M (3 + 5 * x_ + 4)))), (b_, .inl (cI, 8, .inl (upd (fun x_ => M (43 + 4 * x_)) j v))), (g_, .inl (cI, 8, .inl (fun x_ => M (43 + 4 * x_ + 1)))), (i_, .inl (cI, 8, .inl (fun x_ => M (43 + 4 * x_ + 2)))), (f_, .inl (cI, 8, .inl (fun x_ => M (43 + 4 * x_ + 3)))), (fd0, .inl (cI, 7, .inl F))]) rfl [0, 1] rfl rfl hl.1 rfl (Nat.le_of_ble_eq_true rfl) dX3_tell_40 ⟨Nat.zero_le _, Nat.zero_le _⟩ (fun H locs hP hD hS => ?_)
        refine W.eq (g2 := F0 m 43 ls [.int ((fun x_ => M (43 + 4 * x_)) j)]) rfl ?_
        refine hz_ei hx hb hr hlocks rfl ?_ hS (by rw [show fd_tell M (nI j) (nI _) v = none from (if_pos c8).trans (if_pos (by first | exact Or.inl ⟨rfl, c20⟩ | exact Or.inr (Or.inl ⟨rfl, c20⟩) | exact Or.inr (Or.inr (Or.inl ⟨rfl, c20⟩)) | exact Or.inr (Or.inr (Or.inr ⟨rfl, c20⟩))))]; exact fr_n (by rw [cl, nI_clamp (by omega), ei] <;> rfl)) dX3_tell_43
        rw [show fd_tell M (nI j) (nI _) v = none from (if_pos c8).trans (if_pos (by first | exact Or.inl ⟨rfl, c20⟩ | exact Or.inr (Or.inl ⟨rfl, c20⟩) | exact Or.inr (Or.inr (Or.inl ⟨rfl, c20⟩)) | exact Or.inr (Or.inr (Or.inr ⟨rfl, c20⟩))))]
        rw [cl, nI_clamp (by omega), ei]
        first
          | (refine va_P.app (hP.sub [0] rfl) (va_P.app (cg_of (hP.sub [1, 2, 3, 4, 5, 6, 7, 8, 9, 10] rfl) (upd M (43 + 4 * j + 0) v) (pk_un (by omega)).symm (pk_un (by omega)).symm (pk_un (by omega)).symm ?_ ?_ ?_ ?_ ?_ ?_ ?_ ?_ ?_) (hP.sub [11] rfl)) <;> (intro x hx; first | exact (pk_un (by omega)).symm | exact hz_u5 | exact hz_u50 | exact hz_u4 | exact hz_u40))
          | (refine va_P.app (hP.sub [0] rfl) (va_P.app (cg_of (hP.sub [1, 2, 3, 4, 5, 6, 7, 8, 9, 10] rfl) (upd M (43 + 4 * j + 1) v) (pk_un (by omega)).symm (pk_un (by omega)).symm (pk_un (by omega)).symm ?_ ?_ ?_ ?_ ?_ ?_ ?_ ?_ ?_) (hP.sub [11] rfl)) <;> (intro x hx; first | exact (pk_un (by omega)).symm | exact hz_u5 | exact hz_u50 | exact hz_u4 | exact hz_u40))
          | (refine va_P.app (hP.sub [0] rfl) (va_P.app (cg_of (hP.sub [1, 2, 3, 4, 5, 6, 7, 8, 9, 10] rfl) (upd M (43 + 4 * j + 2) v) (pk_un (by omega)).symm (pk_un (by omega)).symm (pk_un (by omega)).symm ?_ ?_ ?_ ?_ ?_ ?_ ?_ ?_ ?_) (hP.sub [11] rfl)) <;> (intro x hx; first | exact (pk_un (by omega)).symm | exact hz_u5 | exact hz_u50 | exact hz_u4 | exact hz_u40))
          | (refine va_P.app (hP.sub [0] rfl) (va_P.app (cg_of (hP.sub [1, 2, 3, 4, 5, 6, 7, 8, 9, 10] rfl) (upd M (43 + 4 * j + 3) v) (pk_un (by omega)).symm (pk_un (by omega)).symm (pk_un (by omega)).symm ?_ ?_ ?_ ?_ ?_ ?_ ?_ ?_ ?_) (hP.sub [11] rfl)) <;> (intro x hx; first | exact (pk_un (by omega)).symm | exact hz_u5 | exact hz_u50 | exact hz_u4 | exact hz_u40))
      · refine lv_aload_n hx hb dX3_tell_23 rfl (lv_at hl 0 rfl) ?_
        refine lv_ldc (v := -1000000001) hx hb hown wd2 dX3_tell_24 ?_
        refine hz_ce (As := [.int (-1000000001)]) (rest := []) ⟨hx, hb, hml, hown, hts⟩ (c3_found l D cI cJ (x0 := x0) (a0 := a0) (kc0 := kc0) (tc0 := tc0) (tp0 := tp0) (sh0 := sh0) (fd0 := fd0) (kf := kf) (F := F) (f := -1000000001) (k := 0) (hk := by omega) (hfk := by decide)) (cwV 1 hts gX3_tell_X3_found rfl rfl rfl (by decide +kernel) ⟨Nat.le_of_ble_eq_true rfl, Nat.le_of_ble_eq_true rfl⟩) hK hP hD hS [0, 11] rfl (by decide) rfl (w' := [(x0, .inr (3, [.ref a0, .ref kc0, .ref tc0, .ref tp0, .ref sh0, .ref fd0, .int (kf)])), (a0, .inr (0, [.int (M 0), .int (M 1), .ref k_, .ref p_, .ref t_, .ref h_, .ref w_, .int (M 2), .ref b_, .ref g_, .ref i_, .ref f_])), (k_, .inl (cI, 8, .inl (fun x_ => M (3 + 5 * x_)))), (p_, .inl (cI, 8, .inl (fun x_ => M (3 + 5 * x_ + 1)))), (t_, .inl (cI, 8, .inl (fun x_ => M (3 + 5 * x_ + 2)))), (h_, .inl (cI, 8, .inl (fun x_ => M (3 + 5 * x_ + 3)))), (w_, .inl (cI, 8, .inl (fun x_ => M (3 + 5 * x_ + 4)))), (b_, .inl (cI, 8, .inl (fun x_ => M (43 + 4 * x_)))), (g_, .inl (cI, 8, .inl (fun x_ => M (43 + 4 * x_ + 1)))), (i_, .inl (cI, 8, .inl (fun x_ => M (43 + 4 * x_ + 2)))), (f_, .inl (cI, 8, .inl (fun x_ => M (43 + 4 * x_ + 3)))), (fd0, .inl (cI, 7, .inl (sp_fd F 0)))]) rfl [0, 1] rfl 0 rfl rfl rfl rfl hl.1 rfl (Nat.le_of_ble_eq_true rfl) dX3_tell_26 ⟨Nat.zero_le _, Nat.zero_le _⟩ (fun H locs hP hD hS => ?_)
        refine W.eq (g2 := F0 m 29 ls [.int ((-1000000001))]) rfl ?_
        refine hz_ei hx hb hr hlocks rfl ?_ hS (by rw [show fd_tell M z (nI _) v = some 0 from (if_pos c8).trans (if_neg (by first | exact tell_0 c20 | exact tell_1 c20 | exact tell_2 c20 | exact tell_3 c20))]; rfl) dX3_tell_29
        rw [show fd_tell M z (nI _) v = some 0 from (if_pos c8).trans (if_neg (by first | exact tell_0 c20 | exact tell_1 c20 | exact tell_2 c20 | exact tell_3 c20))]
        exact hP
    · have ei : cl (nI 1) = 1 := by decide
      refine lv_aload_n hx hb dX3_tell_11 rfl (lv_at hl 0 rfl) ?_
      refine va_get hx hb hts hinX3 hown hK hP 0 rfl rfl 0 (by decide) wd1 (fun _ h => h) rfl dX3_tell_12 ?_
      refine lv_iload_n hx hb dX3_tell_15 rfl (lv_at hl 2 rfl) ?_
      refine lv_iload_n hx hb dX3_tell_16 rfl (lv_at hl 3 rfl) ?_
      refine hz_cv (As := [.int (nI 1), .int (v)]) (rest := []) ⟨hx, hb, hml, hown, hts⟩ (c0_mt1 l D cI cJ (a0 := a0) (k_ := k_) (p_ := p_) (t_ := t_) (h_ := h_) (w_ := w_) (b_ := b_) (g_ := g_) (i_ := i_) (f_ := f_) (M := M) (x := v) ) (cwV 2 hts gX3_tell_X0_mayTell rfl rfl rfl (by decide +kernel) ⟨Nat.le_of_ble_eq_true rfl, Nat.le_of_ble_eq_true rfl⟩) hK hP [1] rfl [0, 1] rfl 1 rfl rfl rfl rfl hl.1 rfl (Nat.le_of_ble_eq_true rfl) dX3_tell_17 ⟨Nat.zero_le _, Nat.zero_le _⟩ ?_
      refine hz_ifb_ne (tgt := 30) hx hb dX3_tell_20 (by decide) (fun c20 => ?_) (fun c20 => ?_)
      · obtain ⟨j, hj, rfl⟩ := hz_in_of c8 (by omega)
        refine lv_aload_n hx hb dX3_tell_30 rfl (lv_at hl 0 rfl) ?_
        refine va_get hx hb hts hinX3 hown hK hP 0 rfl rfl 0 (by decide) wd1 (fun _ h => h) rfl dX3_tell_31 ?_
        refine lv_iload_n hx hb dX3_tell_34 rfl (lv_at hl 2 rfl) ?_
        refine hz_cv (As := [.int (nI 1)]) (rest := []) ⟨hx, hb, hml, hown, hts⟩ (c0_sr1 l D cI cJ (a0 := a0) (k_ := k_) (p_ := p_) (t_ := t_) (h_ := h_) (w_ := w_) (b_ := b_) (g_ := g_) (i_ := i_) (f_ := f_) (s0 := M 0) (d0 := M 1) (z0 := M 2) ) (cwV 1 hts gX3_tell_X0_speechRow rfl rfl rfl (by decide +kernel) ⟨Nat.le_of_ble_eq_true rfl, Nat.le_of_ble_eq_true rfl⟩) hK hP [1] rfl [0, 1] rfl 1 rfl rfl rfl rfl hl.1 rfl (Nat.le_of_ble_eq_true rfl) dX3_tell_35 ⟨Nat.zero_le _, Nat.zero_le _⟩ ?_
        refine lv_iload_n hx hb dX3_tell_38 rfl (lv_at hl 1 rfl) ?_
        refine lv_iload_n hx hb dX3_tell_39 rfl (lv_at hl 3 rfl) ?_
        refine hz_cse (As := [.ref g_, .int (nI j), .int (v)]) (rest := []) ⟨hx, hb, hml, hown, hts⟩ (c3_exchange l D cI cJ (r_ := g_) (F := fun x_ => M (43 + 4 * x_ + 1)) (i := j) (v := v) (hi := by omega)) (va_cwS 3 hts gX3_tell_X3_exchange rfl rfl rfl (by decide +kernel) ⟨Nat.le_of_ble_eq_true rfl, Nat.le_of_ble_eq_true rfl⟩) hK hP hD hS [8] rfl (by decide) rfl (w' := [(x0, .inr (3, [.ref a0, .ref kc0, .ref tc0, .ref tp0, .ref sh0, .ref fd0, .int (kf)])), (a0, .inr (0, [.int (M 0), .int (M 1), .ref k_, .ref p_, .ref t_, .ref h_, .ref w_, .int (M 2), .ref b_, .ref g_, .ref i_, .ref f_])), (k_, .inl (cI, 8, .inl (fun x_ => M (3 + 5 * x_)))), (p_, .inl (cI, 8, .inl (fun x_ => M (3 + 5 * x_ + 1)))), (t_, .inl (cI, 8, .inl (fun x_ => M (3 + 5 * x_ + 2)))), (h_, .inl (cI, 8, .inl (fun x_ => M (3 + 5 * x_ + 3)))), (w_, .inl (cI, 8, .inl (fun x_ => M (3 + 5 * x_ + 4)))), (b_, .inl (cI, 8, .inl (fun x_ => M (43 + 4 * x_)))), (g_, .inl (cI, 8, .inl (upd (fun x_ => M (43 + 4 * x_ + 1)) j v))), (i_, .inl (cI, 8, .inl (fun x_ => M (43 + 4 * x_ + 2)))), (f_, .inl (cI, 8, .inl (fun x_ => M (43 + 4 * x_ + 3)))), (fd0, .inl (cI, 7, .inl F))]) rfl [0, 1] rfl rfl hl.1 rfl (Nat.le_of_ble_eq_true rfl) dX3_tell_40 ⟨Nat.zero_le _, Nat.zero_le _⟩ (fun H locs hP hD hS => ?_)
        refine W.eq (g2 := F0 m 43 ls [.int ((fun x_ => M (43 + 4 * x_ + 1)) j)]) rfl ?_
        refine hz_ei hx hb hr hlocks rfl ?_ hS (by rw [show fd_tell M (nI j) (nI _) v = none from (if_pos c8).trans (if_pos (by first | exact Or.inl ⟨rfl, c20⟩ | exact Or.inr (Or.inl ⟨rfl, c20⟩) | exact Or.inr (Or.inr (Or.inl ⟨rfl, c20⟩)) | exact Or.inr (Or.inr (Or.inr ⟨rfl, c20⟩))))]; exact fr_n (by rw [cl, nI_clamp (by omega), ei] <;> rfl)) dX3_tell_43
        rw [show fd_tell M (nI j) (nI _) v = none from (if_pos c8).trans (if_pos (by first | exact Or.inl ⟨rfl, c20⟩ | exact Or.inr (Or.inl ⟨rfl, c20⟩) | exact Or.inr (Or.inr (Or.inl ⟨rfl, c20⟩)) | exact Or.inr (Or.inr (Or.inr ⟨rfl, c20⟩))))]
        rw [cl, nI_clamp (by omega), ei]
        first
          | (refine va_P.app (hP.sub [0] rfl) (va_P.app (cg_of (hP.sub [1, 2, 3, 4, 5, 6, 7, 8, 9, 10] rfl) (upd M (43 + 4 * j + 0) v) (pk_un (by omega)).symm (pk_un (by omega)).symm (pk_un (by omega)).symm ?_ ?_ ?_ ?_ ?_ ?_ ?_ ?_ ?_) (hP.sub [11] rfl)) <;> (intro x hx; first | exact (pk_un (by omega)).symm | exact hz_u5 | exact hz_u50 | exact hz_u4 | exact hz_u40))
          | (refine va_P.app (hP.sub [0] rfl) (va_P.app (cg_of (hP.sub [1, 2, 3, 4, 5, 6, 7, 8, 9, 10] rfl) (upd M (43 + 4 * j + 1) v) (pk_un (by omega)).symm (pk_un (by omega)).symm (pk_un (by omega)).symm ?_ ?_ ?_ ?_ ?_ ?_ ?_ ?_ ?_) (hP.sub [11] rfl)) <;> (intro x hx; first | exact (pk_un (by omega)).symm | exact hz_u5 | exact hz_u50 | exact hz_u4 | exact hz_u40))
          | (refine va_P.app (hP.sub [0] rfl) (va_P.app (cg_of (hP.sub [1, 2, 3, 4, 5, 6, 7, 8, 9, 10] rfl) (upd M (43 + 4 * j + 2) v) (pk_un (by omega)).symm (pk_un (by omega)).symm (pk_un (by omega)).symm ?_ ?_ ?_ ?_ ?_ ?_ ?_ ?_ ?_) (hP.sub [11] rfl)) <;> (intro x hx; first | exact (pk_un (by omega)).symm | exact hz_u5 | exact hz_u50 | exact hz_u4 | exact hz_u40))
          | (refine va_P.app (hP.sub [0] rfl) (va_P.app (cg_of (hP.sub [1, 2, 3, 4, 5, 6, 7, 8, 9, 10] rfl) (upd M (43 + 4 * j + 3) v) (pk_un (by omega)).symm (pk_un (by omega)).symm (pk_un (by omega)).symm ?_ ?_ ?_ ?_ ?_ ?_ ?_ ?_ ?_) (hP.sub [11] rfl)) <;> (intro x hx; first | exact (pk_un (by omega)).symm | exact hz_u5 | exact hz_u50 | exact hz_u4 | exact hz_u40))
      · refine lv_aload_n hx hb dX3_tell_23 rfl (lv_at hl 0 rfl) ?_
        refine lv_ldc (v := -1000000001) hx hb hown wd2 dX3_tell_24 ?_
        refine hz_ce (As := [.int (-1000000001)]) (rest := []) ⟨hx, hb, hml, hown, hts⟩ (c3_found l D cI cJ (x0 := x0) (a0 := a0) (kc0 := kc0) (tc0 := tc0) (tp0 := tp0) (sh0 := sh0) (fd0 := fd0) (kf := kf) (F := F) (f := -1000000001) (k := 0) (hk := by omega) (hfk := by decide)) (cwV 1 hts gX3_tell_X3_found rfl rfl rfl (by decide +kernel) ⟨Nat.le_of_ble_eq_true rfl, Nat.le_of_ble_eq_true rfl⟩) hK hP hD hS [0, 11] rfl (by decide) rfl (w' := [(x0, .inr (3, [.ref a0, .ref kc0, .ref tc0, .ref tp0, .ref sh0, .ref fd0, .int (kf)])), (a0, .inr (0, [.int (M 0), .int (M 1), .ref k_, .ref p_, .ref t_, .ref h_, .ref w_, .int (M 2), .ref b_, .ref g_, .ref i_, .ref f_])), (k_, .inl (cI, 8, .inl (fun x_ => M (3 + 5 * x_)))), (p_, .inl (cI, 8, .inl (fun x_ => M (3 + 5 * x_ + 1)))), (t_, .inl (cI, 8, .inl (fun x_ => M (3 + 5 * x_ + 2)))), (h_, .inl (cI, 8, .inl (fun x_ => M (3 + 5 * x_ + 3)))), (w_, .inl (cI, 8, .inl (fun x_ => M (3 + 5 * x_ + 4)))), (b_, .inl (cI, 8, .inl (fun x_ => M (43 + 4 * x_)))), (g_, .inl (cI, 8, .inl (fun x_ => M (43 + 4 * x_ + 1)))), (i_, .inl (cI, 8, .inl (fun x_ => M (43 + 4 * x_ + 2)))), (f_, .inl (cI, 8, .inl (fun x_ => M (43 + 4 * x_ + 3)))), (fd0, .inl (cI, 7, .inl (sp_fd F 0)))]) rfl [0, 1] rfl 0 rfl rfl rfl rfl hl.1 rfl (Nat.le_of_ble_eq_true rfl) dX3_tell_26 ⟨Nat.zero_le _, Nat.zero_le _⟩ (fun H locs hP hD hS => ?_)
        refine W.eq (g2 := F0 m 29 ls [.int ((-1000000001))]) rfl ?_
        refine hz_ei hx hb hr hlocks rfl ?_ hS (by rw [show fd_tell M z (nI _) v = some 0 from (if_pos c8).trans (if_neg (by first | exact tell_0 c20 | exact tell_1 c20 | exact tell_2 c20 | exact tell_3 c20))]; rfl) dX3_tell_29
        rw [show fd_tell M z (nI _) v = some 0 from (if_pos c8).trans (if_neg (by first | exact tell_0 c20 | exact tell_1 c20 | exact tell_2 c20 | exact tell_3 c20))]
        exact hP
    · have ei : cl (nI 2) = 2 := by decide
      refine lv_aload_n hx hb dX3_tell_11 rfl (lv_at hl 0 rfl) ?_
      refine va_get hx hb hts hinX3 hown hK hP 0 rfl rfl 0 (by decide) wd1 (fun _ h => h) rfl dX3_tell_12 ?_
      refine lv_iload_n hx hb dX3_tell_15 rfl (lv_at hl 2 rfl) ?_
      refine lv_iload_n hx hb dX3_tell_16 rfl (lv_at hl 3 rfl) ?_
      refine hz_cv (As := [.int (nI 2), .int (v)]) (rest := []) ⟨hx, hb, hml, hown, hts⟩ (c0_mt2 l D cI cJ (a0 := a0) (k_ := k_) (p_ := p_) (t_ := t_) (h_ := h_) (w_ := w_) (b_ := b_) (g_ := g_) (i_ := i_) (f_ := f_) (M := M) (x := v) (hM1 := by first | assumption | rfl) (hD8 := by first | assumption | rfl)) (cwV 2 hts gX3_tell_X0_mayTell rfl rfl rfl (by decide +kernel) ⟨Nat.le_of_ble_eq_true rfl, Nat.le_of_ble_eq_true rfl⟩) hK hP [1] rfl [0, 1] rfl 1 rfl rfl rfl rfl hl.1 rfl (Nat.le_of_ble_eq_true rfl) dX3_tell_17 ⟨Nat.zero_le _, Nat.zero_le _⟩ ?_
      refine hz_ifb_ne (tgt := 30) hx hb dX3_tell_20 (by decide) (fun c20 => ?_) (fun c20 => ?_)
      · obtain ⟨j, hj, rfl⟩ := hz_in_of c8 (by omega)
        refine lv_aload_n hx hb dX3_tell_30 rfl (lv_at hl 0 rfl) ?_
        refine va_get hx hb hts hinX3 hown hK hP 0 rfl rfl 0 (by decide) wd1 (fun _ h => h) rfl dX3_tell_31 ?_
        refine lv_iload_n hx hb dX3_tell_34 rfl (lv_at hl 2 rfl) ?_
        refine hz_cv (As := [.int (nI 2)]) (rest := []) ⟨hx, hb, hml, hown, hts⟩ (c0_sr2 l D cI cJ (a0 := a0) (k_ := k_) (p_ := p_) (t_ := t_) (h_ := h_) (w_ := w_) (b_ := b_) (g_ := g_) (i_ := i_) (f_ := f_) (s0 := M 0) (d0 := M 1) (z0 := M 2) ) (cwV 1 hts gX3_tell_X0_speechRow rfl rfl rfl (by decide +kernel) ⟨Nat.le_of_ble_eq_true rfl, Nat.le_of_ble_eq_true rfl⟩) hK hP [1] rfl [0, 1] rfl 1 rfl rfl rfl rfl hl.1 rfl (Nat.le_of_ble_eq_true rfl) dX3_tell_35 ⟨Nat.zero_le _, Nat.zero_le _⟩ ?_
        refine lv_iload_n hx hb dX3_tell_38 rfl (lv_at hl 1 rfl) ?_
        refine lv_iload_n hx hb dX3_tell_39 rfl (lv_at hl 3 rfl) ?_
        refine hz_cse (As := [.ref i_, .int (nI j), .int (v)]) (rest := []) ⟨hx, hb, hml, hown, hts⟩ (c3_exchange l D cI cJ (r_ := i_) (F := fun x_ => M (43 + 4 * x_ + 2)) (i := j) (v := v) (hi := by omega)) (va_cwS 3 hts gX3_tell_X3_exchange rfl rfl rfl (by decide +kernel) ⟨Nat.le_of_ble_eq_true rfl, Nat.le_of_ble_eq_true rfl⟩) hK hP hD hS [9] rfl (by decide) rfl (w' := [(x0, .inr (3, [.ref a0, .ref kc0, .ref tc0, .ref tp0, .ref sh0, .ref fd0, .int (kf)])), (a0, .inr (0, [.int (M 0), .int (M 1), .ref k_, .ref p_, .ref t_, .ref h_, .ref w_, .int (M 2), .ref b_, .ref g_, .ref i_, .ref f_])), (k_, .inl (cI, 8, .inl (fun x_ => M (3 + 5 * x_)))), (p_, .inl (cI, 8, .inl (fun x_ => M (3 + 5 * x_ + 1)))), (t_, .inl (cI, 8, .inl (fun x_ => M (3 + 5 * x_ + 2)))), (h_, .inl (cI, 8, .inl (fun x_ => M (3 + 5 * x_ + 3)))), (w_, .inl (cI, 8, .inl (fun x_ => M (3 + 5 * x_ + 4)))), (b_, .inl (cI, 8, .inl (fun x_ => M (43 + 4 * x_)))), (g_, .inl (cI, 8, .inl (fun x_ => M (43 + 4 * x_ + 1)))), (i_, .inl (cI, 8, .inl (upd (fun x_ => M (43 + 4 * x_ + 2)) j v))), (f_, .inl (cI, 8, .inl (fun x_ => M (43 + 4 * x_ + 3)))), (fd0, .inl (cI, 7, .inl F))]) rfl [0, 1] rfl rfl hl.1 rfl (Nat.le_of_ble_eq_true rfl) dX3_tell_40 ⟨Nat.zero_le _, Nat.zero_le _⟩ (fun H locs hP hD hS => ?_)
        refine W.eq (g2 := F0 m 43 ls [.int ((fun x_ => M (43 + 4 * x_ + 2)) j)]) rfl ?_
        refine hz_ei hx hb hr hlocks rfl ?_ hS (by rw [show fd_tell M (nI j) (nI _) v = none from (if_pos c8).trans (if_pos (by first | exact Or.inl ⟨rfl, c20⟩ | exact Or.inr (Or.inl ⟨rfl, c20⟩) | exact Or.inr (Or.inr (Or.inl ⟨rfl, c20⟩)) | exact Or.inr (Or.inr (Or.inr ⟨rfl, c20⟩))))]; exact fr_n (by rw [cl, nI_clamp (by omega), ei] <;> rfl)) dX3_tell_43
        rw [show fd_tell M (nI j) (nI _) v = none from (if_pos c8).trans (if_pos (by first | exact Or.inl ⟨rfl, c20⟩ | exact Or.inr (Or.inl ⟨rfl, c20⟩) | exact Or.inr (Or.inr (Or.inl ⟨rfl, c20⟩)) | exact Or.inr (Or.inr (Or.inr ⟨rfl, c20⟩))))]
        rw [cl, nI_clamp (by omega), ei]
        first
          | (refine va_P.app (hP.sub [0] rfl) (va_P.app (cg_of (hP.sub [1, 2, 3, 4, 5, 6, 7, 8, 9, 10] rfl) (upd M (43 + 4 * j + 0) v) (pk_un (by omega)).symm (pk_un (by omega)).symm (pk_un (by omega)).symm ?_ ?_ ?_ ?_ ?_ ?_ ?_ ?_ ?_) (hP.sub [11] rfl)) <;> (intro x hx; first | exact (pk_un (by omega)).symm | exact hz_u5 | exact hz_u50 | exact hz_u4 | exact hz_u40))
          | (refine va_P.app (hP.sub [0] rfl) (va_P.app (cg_of (hP.sub [1, 2, 3, 4, 5, 6, 7, 8, 9, 10] rfl) (upd M (43 + 4 * j + 1) v) (pk_un (by omega)).symm (pk_un (by omega)).symm (pk_un (by omega)).symm ?_ ?_ ?_ ?_ ?_ ?_ ?_ ?_ ?_) (hP.sub [11] rfl)) <;> (intro x hx; first | exact (pk_un (by omega)).symm | exact hz_u5 | exact hz_u50 | exact hz_u4 | exact hz_u40))
          | (refine va_P.app (hP.sub [0] rfl) (va_P.app (cg_of (hP.sub [1, 2, 3, 4, 5, 6, 7, 8, 9, 10] rfl) (upd M (43 + 4 * j + 2) v) (pk_un (by omega)).symm (pk_un (by omega)).symm (pk_un (by omega)).symm ?_ ?_ ?_ ?_ ?_ ?_ ?_ ?_ ?_) (hP.sub [11] rfl)) <;> (intro x hx; first | exact (pk_un (by omega)).symm | exact hz_u5 | exact hz_u50 | exact hz_u4 | exact hz_u40))
          | (refine va_P.app (hP.sub [0] rfl) (va_P.app (cg_of (hP.sub [1, 2, 3, 4, 5, 6, 7, 8, 9, 10] rfl) (upd M (43 + 4 * j + 3) v) (pk_un (by omega)).symm (pk_un (by omega)).symm (pk_un (by omega)).symm ?_ ?_ ?_ ?_ ?_ ?_ ?_ ?_ ?_) (hP.sub [11] rfl)) <;> (intro x hx; first | exact (pk_un (by omega)).symm | exact hz_u5 | exact hz_u50 | exact hz_u4 | exact hz_u40))
      · refine lv_aload_n hx hb dX3_tell_23 rfl (lv_at hl 0 rfl) ?_
        refine lv_ldc (v := -1000000001) hx hb hown wd2 dX3_tell_24 ?_
        refine hz_ce (As := [.int (-1000000001)]) (rest := []) ⟨hx, hb, hml, hown, hts⟩ (c3_found l D cI cJ (x0 := x0) (a0 := a0) (kc0 := kc0) (tc0 := tc0) (tp0 := tp0) (sh0 := sh0) (fd0 := fd0) (kf := kf) (F := F) (f := -1000000001) (k := 0) (hk := by omega) (hfk := by decide)) (cwV 1 hts gX3_tell_X3_found rfl rfl rfl (by decide +kernel) ⟨Nat.le_of_ble_eq_true rfl, Nat.le_of_ble_eq_true rfl⟩) hK hP hD hS [0, 11] rfl (by decide) rfl (w' := [(x0, .inr (3, [.ref a0, .ref kc0, .ref tc0, .ref tp0, .ref sh0, .ref fd0, .int (kf)])), (a0, .inr (0, [.int (M 0), .int (M 1), .ref k_, .ref p_, .ref t_, .ref h_, .ref w_, .int (M 2), .ref b_, .ref g_, .ref i_, .ref f_])), (k_, .inl (cI, 8, .inl (fun x_ => M (3 + 5 * x_)))), (p_, .inl (cI, 8, .inl (fun x_ => M (3 + 5 * x_ + 1)))), (t_, .inl (cI, 8, .inl (fun x_ => M (3 + 5 * x_ + 2)))), (h_, .inl (cI, 8, .inl (fun x_ => M (3 + 5 * x_ + 3)))), (w_, .inl (cI, 8, .inl (fun x_ => M (3 + 5 * x_ + 4)))), (b_, .inl (cI, 8, .inl (fun x_ => M (43 + 4 * x_)))), (g_, .inl (cI, 8, .inl (fun x_ => M (43 + 4 * x_ + 1)))), (i_, .inl (cI, 8, .inl (fun x_ => M (43 + 4 * x_ + 2)))), (f_, .inl (cI, 8, .inl (fun x_ => M (43 + 4 * x_ + 3)))), (fd0, .inl (cI, 7, .inl (sp_fd F 0)))]) rfl [0, 1] rfl 0 rfl rfl rfl rfl hl.1 rfl (Nat.le_of_ble_eq_true rfl) dX3_tell_26 ⟨Nat.zero_le _, Nat.zero_le _⟩ (fun H locs hP hD hS => ?_)
        refine W.eq (g2 := F0 m 29 ls [.int ((-1000000001))]) rfl ?_
        refine hz_ei hx hb hr hlocks rfl ?_ hS (by rw [show fd_tell M z (nI _) v = some 0 from (if_pos c8).trans (if_neg (by first | exact tell_0 c20 | exact tell_1 c20 | exact tell_2 c20 | exact tell_3 c20))]; rfl) dX3_tell_29
        rw [show fd_tell M z (nI _) v = some 0 from (if_pos c8).trans (if_neg (by first | exact tell_0 c20 | exact tell_1 c20 | exact tell_2 c20 | exact tell_3 c20))]
        exact hP
    · have ei : cl (nI 3) = 3 := by decide
      refine lv_aload_n hx hb dX3_tell_11 rfl (lv_at hl 0 rfl) ?_
      refine va_get hx hb hts hinX3 hown hK hP 0 rfl rfl 0 (by decide) wd1 (fun _ h => h) rfl dX3_tell_12 ?_
      refine lv_iload_n hx hb dX3_tell_15 rfl (lv_at hl 2 rfl) ?_
      refine lv_iload_n hx hb dX3_tell_16 rfl (lv_at hl 3 rfl) ?_
      refine hz_cv (As := [.int (nI 3), .int (v)]) (rest := []) ⟨hx, hb, hml, hown, hts⟩ (c0_mt3 l D cI cJ (a0 := a0) (k_ := k_) (p_ := p_) (t_ := t_) (h_ := h_) (w_ := w_) (b_ := b_) (g_ := g_) (i_ := i_) (f_ := f_) (M := M) (x := v) ) (cwV 2 hts gX3_tell_X0_mayTell rfl rfl rfl (by decide +kernel) ⟨Nat.le_of_ble_eq_true rfl, Nat.le_of_ble_eq_true rfl⟩) hK hP [1] rfl [0, 1] rfl 1 rfl rfl rfl rfl hl.1 rfl (Nat.le_of_ble_eq_true rfl) dX3_tell_17 ⟨Nat.zero_le _, Nat.zero_le _⟩ ?_
      refine hz_ifb_ne (tgt := 30) hx hb dX3_tell_20 (by decide) (fun c20 => ?_) (fun c20 => ?_)
      · obtain ⟨j, hj, rfl⟩ := hz_in_of c8 (by omega)
        refine lv_aload_n hx hb dX3_tell_30 rfl (lv_at hl 0 rfl) ?_
        refine va_get hx hb hts hinX3 hown hK hP 0 rfl rfl 0 (by decide) wd1 (fun _ h => h) rfl dX3_tell_31 ?_
        refine lv_iload_n hx hb dX3_tell_34 rfl (lv_at hl 2 rfl) ?_
        refine hz_cv (As := [.int (nI 3)]) (rest := []) ⟨hx, hb, hml, hown, hts⟩ (c0_sr3 l D cI cJ (a0 := a0) (k_ := k_) (p_ := p_) (t_ := t_) (h_ := h_) (w_ := w_) (b_ := b_) (g_ := g_) (i_ := i_) (f_ := f_) (s0 := M 0) (d0 := M 1) (z0 := M 2) ) (cwV 1 hts gX3_tell_X0_speechRow rfl rfl rfl (by decide +kernel) ⟨Nat.le_of_ble_eq_true rfl, Nat.le_of_ble_eq_true rfl⟩) hK hP [1] rfl [0, 1] rfl 1 rfl rfl rfl rfl hl.1 rfl (Nat.le_of_ble_eq_true rfl) dX3_tell_35 ⟨Nat.zero_le _, Nat.zero_le _⟩ ?_
        refine lv_iload_n hx hb dX3_tell_38 rfl (lv_at hl 1 rfl) ?_
        refine lv_iload_n hx hb dX3_tell_39 rfl (lv_at hl 3 rfl) ?_
        refine hz_cse (As := [.ref f_, .int (nI j), .int (v)]) (rest := []) ⟨hx, hb, hml, hown, hts⟩ (c3_exchange l D cI cJ (r_ := f_) (F := fun x_ => M (43 + 4 * x_ + 3)) (i := j) (v := v) (hi := by omega)) (va_cwS 3 hts gX3_tell_X3_exchange rfl rfl rfl (by decide +kernel) ⟨Nat.le_of_ble_eq_true rfl, Nat.le_of_ble_eq_true rfl⟩) hK hP hD hS [10] rfl (by decide) rfl (w' := [(x0, .inr (3, [.ref a0, .ref kc0, .ref tc0, .ref tp0, .ref sh0, .ref fd0, .int (kf)])), (a0, .inr (0, [.int (M 0), .int (M 1), .ref k_, .ref p_, .ref t_, .ref h_, .ref w_, .int (M 2), .ref b_, .ref g_, .ref i_, .ref f_])), (k_, .inl (cI, 8, .inl (fun x_ => M (3 + 5 * x_)))), (p_, .inl (cI, 8, .inl (fun x_ => M (3 + 5 * x_ + 1)))), (t_, .inl (cI, 8, .inl (fun x_ => M (3 + 5 * x_ + 2)))), (h_, .inl (cI, 8, .inl (fun x_ => M (3 + 5 * x_ + 3)))), (w_, .inl (cI, 8, .inl (fun x_ => M (3 + 5 * x_ + 4)))), (b_, .inl (cI, 8, .inl (fun x_ => M (43 + 4 * x_)))), (g_, .inl (cI, 8, .inl (fun x_ => M (43 + 4 * x_ + 1)))), (i_, .inl (cI, 8, .inl (fun x_ => M (43 + 4 * x_ + 2)))), (f_, .inl (cI, 8, .inl (upd (fun x_ => M (43 + 4 * x_ + 3)) j v))), (fd0, .inl (cI, 7, .inl F))]) rfl [0, 1] rfl rfl hl.1 rfl (Nat.le_of_ble_eq_true rfl) dX3_tell_40 ⟨Nat.zero_le _, Nat.zero_le _⟩ (fun H locs hP hD hS => ?_)
        refine W.eq (g2 := F0 m 43 ls [.int ((fun x_ => M (43 + 4 * x_ + 3)) j)]) rfl ?_
        refine hz_ei hx hb hr hlocks rfl ?_ hS (by rw [show fd_tell M (nI j) (nI _) v = none from (if_pos c8).trans (if_pos (by first | exact Or.inl ⟨rfl, c20⟩ | exact Or.inr (Or.inl ⟨rfl, c20⟩) | exact Or.inr (Or.inr (Or.inl ⟨rfl, c20⟩)) | exact Or.inr (Or.inr (Or.inr ⟨rfl, c20⟩))))]; exact fr_n (by rw [cl, nI_clamp (by omega), ei] <;> rfl)) dX3_tell_43
        rw [show fd_tell M (nI j) (nI _) v = none from (if_pos c8).trans (if_pos (by first | exact Or.inl ⟨rfl, c20⟩ | exact Or.inr (Or.inl ⟨rfl, c20⟩) | exact Or.inr (Or.inr (Or.inl ⟨rfl, c20⟩)) | exact Or.inr (Or.inr (Or.inr ⟨rfl, c20⟩))))]
        rw [cl, nI_clamp (by omega), ei]
        first
          | (refine va_P.app (hP.sub [0] rfl) (va_P.app (cg_of (hP.sub [1, 2, 3, 4, 5, 6, 7, 8, 9, 10] rfl) (upd M (43 + 4 * j + 0) v) (pk_un (by omega)).symm (pk_un (by omega)).symm (pk_un (by omega)).symm ?_ ?_ ?_ ?_ ?_ ?_ ?_ ?_ ?_) (hP.sub [11] rfl)) <;> (intro x hx; first | exact (pk_un (by omega)).symm | exact hz_u5 | exact hz_u50 | exact hz_u4 | exact hz_u40))
          | (refine va_P.app (hP.sub [0] rfl) (va_P.app (cg_of (hP.sub [1, 2, 3, 4, 5, 6, 7, 8, 9, 10] rfl) (upd M (43 + 4 * j + 1) v) (pk_un (by omega)).symm (pk_un (by omega)).symm (pk_un (by omega)).symm ?_ ?_ ?_ ?_ ?_ ?_ ?_ ?_ ?_) (hP.sub [11] rfl)) <;> (intro x hx; first | exact (pk_un (by omega)).symm | exact hz_u5 | exact hz_u50 | exact hz_u4 | exact hz_u40))
          | (refine va_P.app (hP.sub [0] rfl) (va_P.app (cg_of (hP.sub [1, 2, 3, 4, 5, 6, 7, 8, 9, 10] rfl) (upd M (43 + 4 * j + 2) v) (pk_un (by omega)).symm (pk_un (by omega)).symm (pk_un (by omega)).symm ?_ ?_ ?_ ?_ ?_ ?_ ?_ ?_ ?_) (hP.sub [11] rfl)) <;> (intro x hx; first | exact (pk_un (by omega)).symm | exact hz_u5 | exact hz_u50 | exact hz_u4 | exact hz_u40))
          | (refine va_P.app (hP.sub [0] rfl) (va_P.app (cg_of (hP.sub [1, 2, 3, 4, 5, 6, 7, 8, 9, 10] rfl) (upd M (43 + 4 * j + 3) v) (pk_un (by omega)).symm (pk_un (by omega)).symm (pk_un (by omega)).symm ?_ ?_ ?_ ?_ ?_ ?_ ?_ ?_ ?_) (hP.sub [11] rfl)) <;> (intro x hx; first | exact (pk_un (by omega)).symm | exact hz_u5 | exact hz_u50 | exact hz_u4 | exact hz_u40))
      · refine lv_aload_n hx hb dX3_tell_23 rfl (lv_at hl 0 rfl) ?_
        refine lv_ldc (v := -1000000001) hx hb hown wd2 dX3_tell_24 ?_
        refine hz_ce (As := [.int (-1000000001)]) (rest := []) ⟨hx, hb, hml, hown, hts⟩ (c3_found l D cI cJ (x0 := x0) (a0 := a0) (kc0 := kc0) (tc0 := tc0) (tp0 := tp0) (sh0 := sh0) (fd0 := fd0) (kf := kf) (F := F) (f := -1000000001) (k := 0) (hk := by omega) (hfk := by decide)) (cwV 1 hts gX3_tell_X3_found rfl rfl rfl (by decide +kernel) ⟨Nat.le_of_ble_eq_true rfl, Nat.le_of_ble_eq_true rfl⟩) hK hP hD hS [0, 11] rfl (by decide) rfl (w' := [(x0, .inr (3, [.ref a0, .ref kc0, .ref tc0, .ref tp0, .ref sh0, .ref fd0, .int (kf)])), (a0, .inr (0, [.int (M 0), .int (M 1), .ref k_, .ref p_, .ref t_, .ref h_, .ref w_, .int (M 2), .ref b_, .ref g_, .ref i_, .ref f_])), (k_, .inl (cI, 8, .inl (fun x_ => M (3 + 5 * x_)))), (p_, .inl (cI, 8, .inl (fun x_ => M (3 + 5 * x_ + 1)))), (t_, .inl (cI, 8, .inl (fun x_ => M (3 + 5 * x_ + 2)))), (h_, .inl (cI, 8, .inl (fun x_ => M (3 + 5 * x_ + 3)))), (w_, .inl (cI, 8, .inl (fun x_ => M (3 + 5 * x_ + 4)))), (b_, .inl (cI, 8, .inl (fun x_ => M (43 + 4 * x_)))), (g_, .inl (cI, 8, .inl (fun x_ => M (43 + 4 * x_ + 1)))), (i_, .inl (cI, 8, .inl (fun x_ => M (43 + 4 * x_ + 2)))), (f_, .inl (cI, 8, .inl (fun x_ => M (43 + 4 * x_ + 3)))), (fd0, .inl (cI, 7, .inl (sp_fd F 0)))]) rfl [0, 1] rfl 0 rfl rfl rfl rfl hl.1 rfl (Nat.le_of_ble_eq_true rfl) dX3_tell_26 ⟨Nat.zero_le _, Nat.zero_le _⟩ (fun H locs hP hD hS => ?_)
        refine W.eq (g2 := F0 m 29 ls [.int ((-1000000001))]) rfl ?_
        refine hz_ei hx hb hr hlocks rfl ?_ hS (by rw [show fd_tell M z (nI _) v = some 0 from (if_pos c8).trans (if_neg (by first | exact tell_0 c20 | exact tell_1 c20 | exact tell_2 c20 | exact tell_3 c20))]; rfl) dX3_tell_29
        rw [show fd_tell M z (nI _) v = some 0 from (if_pos c8).trans (if_neg (by first | exact tell_0 c20 | exact tell_1 c20 | exact tell_2 c20 | exact tell_3 c20))]
        exact hP
    · refine lv_aload_n hx hb dX3_tell_11 rfl (lv_at hl 0 rfl) ?_
      refine va_get hx hb hts hinX3 hown hK hP 0 rfl rfl 0 (by decide) wd1 (fun _ h => h) rfl dX3_tell_12 ?_
      refine lv_iload_n hx hb dX3_tell_15 rfl (lv_at hl 2 rfl) ?_
      refine lv_iload_n hx hb dX3_tell_16 rfl (lv_at hl 3 rfl) ?_
      refine hz_cv (As := [.int (w), .int (v)]) (rest := []) ⟨hx, hb, hml, hown, hts⟩ (c0_mtn l D cI cJ (a0 := a0) (k_ := k_) (p_ := p_) (t_ := t_) (h_ := h_) (w_ := w_) (b_ := b_) (g_ := g_) (i_ := i_) (f_ := f_) (M := M) (y := w) (x := v) (hy := by first | assumption | rfl)) (cwV 2 hts gX3_tell_X0_mayTell rfl rfl rfl (by decide +kernel) ⟨Nat.le_of_ble_eq_true rfl, Nat.le_of_ble_eq_true rfl⟩) hK hP [1] rfl [0, 1] rfl 1 rfl rfl rfl rfl hl.1 rfl (Nat.le_of_ble_eq_true rfl) dX3_tell_17 ⟨Nat.zero_le _, Nat.zero_le _⟩ ?_
      refine lv_if_ne (tgt := 30) hx hb dX3_tell_20 (by decide) (fun h => absurd h (by first | decide | omega | exact hz_nneg (by omega) | exact hz_nneg' (by omega))) (fun _ => ?_)
      refine lv_aload_n hx hb dX3_tell_23 rfl (lv_at hl 0 rfl) ?_
      refine lv_ldc (v := -1000000001) hx hb hown wd2 dX3_tell_24 ?_
      refine hz_ce (As := [.int (-1000000001)]) (rest := []) ⟨hx, hb, hml, hown, hts⟩ (c3_found l D cI cJ (x0 := x0) (a0 := a0) (kc0 := kc0) (tc0 := tc0) (tp0 := tp0) (sh0 := sh0) (fd0 := fd0) (kf := kf) (F := F) (f := -1000000001) (k := 0) (hk := by omega) (hfk := by decide)) (cwV 1 hts gX3_tell_X3_found rfl rfl rfl (by decide +kernel) ⟨Nat.le_of_ble_eq_true rfl, Nat.le_of_ble_eq_true rfl⟩) hK hP hD hS [0, 11] rfl (by decide) rfl (w' := [(x0, .inr (3, [.ref a0, .ref kc0, .ref tc0, .ref tp0, .ref sh0, .ref fd0, .int (kf)])), (a0, .inr (0, [.int (M 0), .int (M 1), .ref k_, .ref p_, .ref t_, .ref h_, .ref w_, .int (M 2), .ref b_, .ref g_, .ref i_, .ref f_])), (k_, .inl (cI, 8, .inl (fun x_ => M (3 + 5 * x_)))), (p_, .inl (cI, 8, .inl (fun x_ => M (3 + 5 * x_ + 1)))), (t_, .inl (cI, 8, .inl (fun x_ => M (3 + 5 * x_ + 2)))), (h_, .inl (cI, 8, .inl (fun x_ => M (3 + 5 * x_ + 3)))), (w_, .inl (cI, 8, .inl (fun x_ => M (3 + 5 * x_ + 4)))), (b_, .inl (cI, 8, .inl (fun x_ => M (43 + 4 * x_)))), (g_, .inl (cI, 8, .inl (fun x_ => M (43 + 4 * x_ + 1)))), (i_, .inl (cI, 8, .inl (fun x_ => M (43 + 4 * x_ + 2)))), (f_, .inl (cI, 8, .inl (fun x_ => M (43 + 4 * x_ + 3)))), (fd0, .inl (cI, 7, .inl (sp_fd F 0)))]) rfl [0, 1] rfl 0 rfl rfl rfl rfl hl.1 rfl (Nat.le_of_ble_eq_true rfl) dX3_tell_26 ⟨Nat.zero_le _, Nat.zero_le _⟩ (fun H locs hP hD hS => ?_)
      refine W.eq (g2 := F0 m 29 ls [.int ((-1000000001))]) rfl ?_
      refine hz_ei hx hb hr hlocks rfl ?_ hS (by rw [show fd_tell M z w v = some 0 from (if_pos c8).trans (if_neg (tell_n hw))]; rfl) dX3_tell_29
      rw [show fd_tell M z w v = some 0 from (if_pos c8).trans (if_neg (tell_n hw))]
      exact hP
set_option maxHeartbeats 4000000 in
set_option maxRecDepth 100000 in
theorem c4_loses (l : Launch) (D : va_G) (cI cJ : ClassId) (h0 am af : Nat) (fs : List Value) (M F : Nat → Int32) (b : Nat) (d z : Int32) (hf : fs[0]? = some (.ref am)) (hf4 : fs[4]? = some (.ref af)) (hI : hz_I b M) : hz_ME l yX4_loses wsX4_loses { frames := 2, cells := 0, slots := 0, locals := 48 } [.ref h0, .int (d), .int (z)] D zcl [(cI, .int), (cJ, .long)] [(h0, .inr (4, fs)), (am, .inl (cI, 75, .inl M)), (af, .inl (cI, 7, .inl F))] [(h0, .inr (4, fs)), (am, .inl (cI, 75, .inl M)), (af, .inl (cI, 7, .inl (sp_ff F (fd_ds M d z))))] (some (.int (sp_fr (fd_ds M d z) (sp_loses M (cl d) (cl z) (M (43 + 4 * cl z + 3)))))) := by
  refine hz_me (cc := cX4_loses) (maxL := 3) (ret := (some .int)) (by decide) rfl (Nat.le_of_ble_eq_true rfl) ?_
  intro p e s m below meth c hx hb hr hts hown hlocks hml hP hK hD ls hl
  have hS : va_S (hz_a [(h0, .inr (4, fs)), (am, .inl (cI, 75, .inl M)), (af, .inl (cI, 7, .inl F))]) s.heap s.heap [] := va_S.rf
  have hown : s.vm.findClass RX4 = some m.cls := hown
  have hl : lv_has ls 3 [(0, .ref h0), (1, .int (d)), (2, .int (z))] := hl
  have wd1 := hts (.constant RX4 35 (-1000000001)) (List.mem_of_getElem? (i := 1) rfl)
  obtain ⟨⟨hM0, hTb, hM1, hD8, hM2, hS8⟩, hID, hIS⟩ := id hI
  refine lv_aload_n hx hb dX4_loses_0 rfl (lv_at hl 0 rfl) ?_
  refine lv_iload_n hx hb dX4_loses_1 rfl (lv_at hl 1 rfl) ?_
  refine hz_cv (As := [.int (d)]) (rest := []) ⟨hx, hb, hml, hown, hts⟩ (c4_isThere l D cI cJ (h0 := h0) (am := am) (fs := fs) (M := M) (x := d) (hf := by first | assumption | rfl) (hM1 := by first | assumption | rfl) (hD8 := by first | assumption | rfl)) (cwV 1 hts gX4_loses_X4_isThere rfl rfl rfl (by decide +kernel) ⟨Nat.le_of_ble_eq_true rfl, Nat.le_of_ble_eq_true rfl⟩) hK hP [0, 1] rfl [0, 1] rfl 0 rfl rfl rfl rfl hl.1 rfl (Nat.le_of_ble_eq_true rfl) dX4_loses_2 ⟨Nat.zero_le _, Nat.zero_le _⟩ ?_
  refine hz_ifb_eq (tgt := 31) hx hb dX4_loses_5 (by decide) (fun c5 => ?_) (fun c5 => ?_)
  · refine lv_aload_n hx hb dX4_loses_31 rfl (lv_at hl 0 rfl) ?_
    refine lv_ldc (v := -1000000001) hx hb hown wd1 dX4_loses_32 ?_
    refine hz_ce (As := [.int (-1000000001)]) (rest := []) ⟨hx, hb, hml, hown, hts⟩ (c4_finds l D cI cJ (h0 := h0) (af := af) (fs := fs) (F := F) (f := -1000000001) (k := 0) (hf := by first | assumption | rfl) (hk := by omega) (hfk := by decide)) (cwV 1 hts gX4_loses_X4_finds rfl rfl rfl (by decide +kernel) ⟨Nat.le_of_ble_eq_true rfl, Nat.le_of_ble_eq_true rfl⟩) hK hP hD hS [0, 2] rfl (by decide) rfl (w' := [(h0, .inr (4, fs)), (am, .inl (cI, 75, .inl M)), (af, .inl (cI, 7, .inl (sp_fd F 0)))]) rfl [0, 1] rfl 0 rfl rfl rfl rfl hl.1 rfl (Nat.le_of_ble_eq_true rfl) dX4_loses_34 ⟨Nat.zero_le _, Nat.zero_le _⟩ (fun H locs hP hD hS => ?_)
    refine W.eq (g2 := F0 m 37 ls [.int ((-1000000001))]) rfl ?_
    refine hz_ei hx hb hr hlocks rfl ?_ hS (by rw [show fd_ds M d z = some 0 from if_neg c5]; rfl) dX4_loses_37
    rw [show fd_ds M d z = some 0 from if_neg c5]
    exact hP
  · refine lv_aload_n hx hb dX4_loses_8 rfl (lv_at hl 0 rfl) ?_
    refine lv_iload_n hx hb dX4_loses_9 rfl (lv_at hl 2 rfl) ?_
    refine hz_cv (As := [.int (z)]) (rest := []) ⟨hx, hb, hml, hown, hts⟩ (c4_isSpeech l D cI cJ (h0 := h0) (am := am) (fs := fs) (M := M) (x := z) (hf := by first | assumption | rfl) (hM2 := by first | assumption | rfl) (hS8 := by first | assumption | rfl)) (cwV 1 hts gX4_loses_X4_isSpeech rfl rfl rfl (by decide +kernel) ⟨Nat.le_of_ble_eq_true rfl, Nat.le_of_ble_eq_true rfl⟩) hK hP [0, 1] rfl [0, 1] rfl 0 rfl rfl rfl rfl hl.1 rfl (Nat.le_of_ble_eq_true rfl) dX4_loses_10 ⟨Nat.zero_le _, Nat.zero_le _⟩ ?_
    refine hz_ifb_eq (tgt := 31) hx hb dX4_loses_13 (by decide) (fun c13 => ?_) (fun c13 => ?_)
    · refine lv_aload_n hx hb dX4_loses_31 rfl (lv_at hl 0 rfl) ?_
      refine lv_ldc (v := -1000000001) hx hb hown wd1 dX4_loses_32 ?_
      refine hz_ce (As := [.int (-1000000001)]) (rest := []) ⟨hx, hb, hml, hown, hts⟩ (c4_finds l D cI cJ (h0 := h0) (af := af) (fs := fs) (F := F) (f := -1000000001) (k := 0) (hf := by first | assumption | rfl) (hk := by omega) (hfk := by decide)) (cwV 1 hts gX4_loses_X4_finds rfl rfl rfl (by decide +kernel) ⟨Nat.le_of_ble_eq_true rfl, Nat.le_of_ble_eq_true rfl⟩) hK hP hD hS [0, 2] rfl (by decide) rfl (w' := [(h0, .inr (4, fs)), (am, .inl (cI, 75, .inl M)), (af, .inl (cI, 7, .inl (sp_fd F 0)))]) rfl [0, 1] rfl 0 rfl rfl rfl rfl hl.1 rfl (Nat.le_of_ble_eq_true rfl) dX4_loses_34 ⟨Nat.zero_le _, Nat.zero_le _⟩ (fun H locs hP hD hS => ?_)
      refine W.eq (g2 := F0 m 37 ls [.int ((-1000000001))]) rfl ?_
      refine hz_ei hx hb hr hlocks rfl ?_ hS (by rw [show fd_ds M d z = some 0 from (if_pos c5).trans (if_neg c13)]; rfl) dX4_loses_37
      rw [show fd_ds M d z = some 0 from (if_pos c5).trans (if_neg c13)]
      exact hP
    · obtain ⟨j, hj, rfl⟩ := hz_in_of c5 (by omega)
      obtain ⟨i, hi, rfl⟩ := hz_in_of c13 (by omega)
      refine lv_aload_n hx hb dX4_loses_16 rfl (lv_at hl 0 rfl) ?_
      refine lv_iload_n hx hb dX4_loses_17 rfl (lv_at hl 1 rfl) ?_
      refine lv_iload_n hx hb dX4_loses_18 rfl (lv_at hl 2 rfl) ?_
      refine lv_aload_n hx hb dX4_loses_19 rfl (lv_at hl 0 rfl) ?_
      refine lv_iload_n hx hb dX4_loses_20 rfl (lv_at hl 2 rfl) ?_
      refine lv_iconst (v := nI 3) hx hb dX4_loses_21 (by decide) ?_
      refine hz_cv (As := [.int (nI i), .int (nI 3)]) (rest := [.int (nI i), .int (nI j), .ref h0]) ⟨hx, hb, hml, hown, hts⟩ (c4_about l D cI cJ (h0 := h0) (am := am) (fs := fs) (M := M) (z := i) (w := 3) (hf := by first | assumption | rfl) (hs := by omega) (hw := by omega)) (cwV 2 hts gX4_loses_X4_about rfl rfl rfl (by decide +kernel) ⟨Nat.le_of_ble_eq_true rfl, Nat.le_of_ble_eq_true rfl⟩) hK hP [0, 1] rfl [0, 1] rfl 0 rfl rfl rfl rfl hl.1 rfl (Nat.le_of_ble_eq_true rfl) dX4_loses_22 ⟨Nat.zero_le _, Nat.zero_le _⟩ ?_
      refine hz_cv (As := [.int (nI j), .int (nI i), .int (M (43 + 4 * i + 3))]) (rest := []) ⟨hx, hb, hml, hown, hts⟩ (c4_losesBy l D cI cJ (h0 := h0) (am := am) (fs := fs) (M := M) (d := j) (z := i) (f := M (43 + 4 * i + 3)) (hf := by first | assumption | rfl) (hd := by omega) (hs := by omega)) (cwV 3 hts gX4_loses_X4_losesBy rfl rfl rfl (by decide +kernel) ⟨Nat.le_of_ble_eq_true rfl, Nat.le_of_ble_eq_true rfl⟩) hK hP [0, 1] rfl [0, 1] rfl 0 rfl rfl rfl rfl hl.1 rfl (Nat.le_of_ble_eq_true rfl) dX4_loses_25 ⟨Nat.zero_le _, Nat.zero_le _⟩ ?_
      refine lv_goto (tgt := 37) hx hb dX4_loses_28 (by decide) ?_
      refine hz_ei hx hb hr hlocks rfl ?_ hS (by rw [show fd_ds M (nI j) (nI i) = none from (if_pos c5).trans (if_pos c13)]; exact fr_n (by rw [cl, cl, nI_clamp (by omega), nI_clamp (by omega)])) dX4_loses_37
      rw [show fd_ds M (nI j) (nI i) = none from (if_pos c5).trans (if_pos c13)]
      exact hP
set_option maxHeartbeats 4000000 in
set_option maxRecDepth 100000 in
theorem c3_loses (l : Launch) (D : va_G) (cI cJ : ClassId) (x0 kc0 tc0 tp0 sh0 fd0 : Nat) (kf : Int32) (a0 k_ p_ t_ h_ w_ b_ g_ i_ f_ : Nat) (M F : Nat → Int32) (b : Nat) (d z : Int32) (hI : hz_I b M) : hz_ME l yX3_loses wsX3_loses { frames := 2, cells := 0, slots := 0, locals := 47 } [.ref x0, .int (d), .int (z)] D zcl [(cI, .int), (cJ, .long)] [(x0, .inr (3, [.ref a0, .ref kc0, .ref tc0, .ref tp0, .ref sh0, .ref fd0, .int (kf)])), (a0, .inr (0, [.int (M 0), .int (M 1), .ref k_, .ref p_, .ref t_, .ref h_, .ref w_, .int (M 2), .ref b_, .ref g_, .ref i_, .ref f_])), (k_, .inl (cI, 8, .inl (fun x_ => M (3 + 5 * x_)))), (p_, .inl (cI, 8, .inl (fun x_ => M (3 + 5 * x_ + 1)))), (t_, .inl (cI, 8, .inl (fun x_ => M (3 + 5 * x_ + 2)))), (h_, .inl (cI, 8, .inl (fun x_ => M (3 + 5 * x_ + 3)))), (w_, .inl (cI, 8, .inl (fun x_ => M (3 + 5 * x_ + 4)))), (b_, .inl (cI, 8, .inl (fun x_ => M (43 + 4 * x_)))), (g_, .inl (cI, 8, .inl (fun x_ => M (43 + 4 * x_ + 1)))), (i_, .inl (cI, 8, .inl (fun x_ => M (43 + 4 * x_ + 2)))), (f_, .inl (cI, 8, .inl (fun x_ => M (43 + 4 * x_ + 3)))), (fd0, .inl (cI, 7, .inl F))] [(x0, .inr (3, [.ref a0, .ref kc0, .ref tc0, .ref tp0, .ref sh0, .ref fd0, .int (kf)])), (a0, .inr (0, [.int (M 0), .int (M 1), .ref k_, .ref p_, .ref t_, .ref h_, .ref w_, .int (M 2), .ref b_, .ref g_, .ref i_, .ref f_])), (k_, .inl (cI, 8, .inl (fun x_ => M (3 + 5 * x_)))), (p_, .inl (cI, 8, .inl (fun x_ => M (3 + 5 * x_ + 1)))), (t_, .inl (cI, 8, .inl (fun x_ => M (3 + 5 * x_ + 2)))), (h_, .inl (cI, 8, .inl (fun x_ => M (3 + 5 * x_ + 3)))), (w_, .inl (cI, 8, .inl (fun x_ => M (3 + 5 * x_ + 4)))), (b_, .inl (cI, 8, .inl (fun x_ => M (43 + 4 * x_)))), (g_, .inl (cI, 8, .inl (fun x_ => M (43 + 4 * x_ + 1)))), (i_, .inl (cI, 8, .inl (fun x_ => M (43 + 4 * x_ + 2)))), (f_, .inl (cI, 8, .inl (fun x_ => M (43 + 4 * x_ + 3)))), (fd0, .inl (cI, 7, .inl (sp_ff F (fd_ds M d z))))] (some (.int (sp_fr (fd_ds M d z) (sp_loses M (cl d) (cl z) (M (43 + 4 * cl z + 3)))))) := by
  refine hz_me (cc := cX3_loses) (maxL := 3) (ret := (some .int)) (by decide) rfl (Nat.le_of_ble_eq_true rfl) ?_
  intro p e s m below meth c hx hb hr hts hown hlocks hml hP hK hD ls hl
  have hS : va_S (hz_a [(x0, .inr (3, [.ref a0, .ref kc0, .ref tc0, .ref tp0, .ref sh0, .ref fd0, .int (kf)])), (a0, .inr (0, [.int (M 0), .int (M 1), .ref k_, .ref p_, .ref t_, .ref h_, .ref w_, .int (M 2), .ref b_, .ref g_, .ref i_, .ref f_])), (k_, .inl (cI, 8, .inl (fun x_ => M (3 + 5 * x_)))), (p_, .inl (cI, 8, .inl (fun x_ => M (3 + 5 * x_ + 1)))), (t_, .inl (cI, 8, .inl (fun x_ => M (3 + 5 * x_ + 2)))), (h_, .inl (cI, 8, .inl (fun x_ => M (3 + 5 * x_ + 3)))), (w_, .inl (cI, 8, .inl (fun x_ => M (3 + 5 * x_ + 4)))), (b_, .inl (cI, 8, .inl (fun x_ => M (43 + 4 * x_)))), (g_, .inl (cI, 8, .inl (fun x_ => M (43 + 4 * x_ + 1)))), (i_, .inl (cI, 8, .inl (fun x_ => M (43 + 4 * x_ + 2)))), (f_, .inl (cI, 8, .inl (fun x_ => M (43 + 4 * x_ + 3)))), (fd0, .inl (cI, 7, .inl F))]) s.heap s.heap [] := va_S.rf
  have hown : s.vm.findClass RX3 = some m.cls := hown
  have hl : lv_has ls 3 [(0, .ref x0), (1, .int (d)), (2, .int (z))] := hl
  have hinX0 : ∀ w ∈ u_ws RX0 TX0 12, w ∈ wsX3_loses := fun w h => List.mem_cons_of_mem _ (List.mem_append_right _ (h))
  have hinX3 : ∀ w ∈ u_ws RX3 TX3 7, w ∈ wsX3_loses := fun w h => List.mem_cons_of_mem _ (List.mem_append_left _ (List.mem_append_right _ (h)))
  have wd1 := hts (.fieldLink RX3 10 "HurtSpeech" "live" "LHurtSpeech$Congress;") (List.mem_of_getElem? (i := 1) rfl)
  have wd2 := hts (.constant RX3 48 (-1000000001)) (List.mem_of_getElem? (i := 2) rfl)
  have wd3 := hts (.fieldLink RX3 112 "HurtSpeech$Congress" "force" "[I") (List.mem_of_getElem? (i := 3) rfl)
  obtain ⟨⟨hM0, hTb, hM1, hD8, hM2, hS8⟩, hID, hIS⟩ := id hI
  refine lv_aload_n hx hb dX3_loses_0 rfl (lv_at hl 0 rfl) ?_
  refine va_get hx hb hts hinX3 hown hK hP 0 rfl rfl 0 (by decide) wd1 (fun _ h => h) rfl dX3_loses_1 ?_
  refine lv_iload_n hx hb dX3_loses_4 rfl (lv_at hl 1 rfl) ?_
  refine hz_cv (As := [.int (d)]) (rest := []) ⟨hx, hb, hml, hown, hts⟩ (c0_hasDelegate l D cI cJ (a0 := a0) (k_ := k_) (p_ := p_) (t_ := t_) (h_ := h_) (w_ := w_) (b_ := b_) (g_ := g_) (i_ := i_) (f_ := f_) (M := M) (x := d) (hM1 := by first | assumption | rfl) (hD8 := by first | assumption | rfl)) (cwV 1 hts gX3_loses_X0_hasDelegate rfl rfl rfl (by decide +kernel) ⟨Nat.le_of_ble_eq_true rfl, Nat.le_of_ble_eq_true rfl⟩) hK hP [1] rfl [0, 1] rfl 1 rfl rfl rfl rfl hl.1 rfl (Nat.le_of_ble_eq_true rfl) dX3_loses_5 ⟨Nat.zero_le _, Nat.zero_le _⟩ ?_
  refine hz_ifb_eq (tgt := 22) hx hb dX3_loses_8 (by decide) (fun c8 => ?_) (fun c8 => ?_)
  · refine lv_aload_n hx hb dX3_loses_22 rfl (lv_at hl 0 rfl) ?_
    refine lv_ldc (v := -1000000001) hx hb hown wd2 dX3_loses_23 ?_
    refine hz_ce (As := [.int (-1000000001)]) (rest := []) ⟨hx, hb, hml, hown, hts⟩ (c3_found l D cI cJ (x0 := x0) (a0 := a0) (kc0 := kc0) (tc0 := tc0) (tp0 := tp0) (sh0 := sh0) (fd0 := fd0) (kf := kf) (F := F) (f := -1000000001) (k := 0) (hk := by omega) (hfk := by decide)) (cwV 1 hts gX3_loses_X3_found rfl rfl rfl (by decide +kernel) ⟨Nat.le_of_ble_eq_true rfl, Nat.le_of_ble_eq_true rfl⟩) hK hP hD hS [0, 11] rfl (by decide) rfl (w' := [(x0, .inr (3, [.ref a0, .ref kc0, .ref tc0, .ref tp0, .ref sh0, .ref fd0, .int (kf)])), (a0, .inr (0, [.int (M 0), .int (M 1), .ref k_, .ref p_, .ref t_, .ref h_, .ref w_, .int (M 2), .ref b_, .ref g_, .ref i_, .ref f_])), (k_, .inl (cI, 8, .inl (fun x_ => M (3 + 5 * x_)))), (p_, .inl (cI, 8, .inl (fun x_ => M (3 + 5 * x_ + 1)))), (t_, .inl (cI, 8, .inl (fun x_ => M (3 + 5 * x_ + 2)))), (h_, .inl (cI, 8, .inl (fun x_ => M (3 + 5 * x_ + 3)))), (w_, .inl (cI, 8, .inl (fun x_ => M (3 + 5 * x_ + 4)))), (b_, .inl (cI, 8, .inl (fun x_ => M (43 + 4 * x_)))), (g_, .inl (cI, 8, .inl (fun x_ => M (43 + 4 * x_ + 1)))), (i_, .inl (cI, 8, .inl (fun x_ => M (43 + 4 * x_ + 2)))), (f_, .inl (cI, 8, .inl (fun x_ => M (43 + 4 * x_ + 3)))), (fd0, .inl (cI, 7, .inl (sp_fd F 0)))]) rfl [0, 1] rfl 0 rfl rfl rfl rfl hl.1 rfl (Nat.le_of_ble_eq_true rfl) dX3_loses_25 ⟨Nat.zero_le _, Nat.zero_le _⟩ (fun H locs hP hD hS => ?_)
    refine W.eq (g2 := F0 m 28 ls [.int ((-1000000001))]) rfl ?_
    refine hz_ei hx hb hr hlocks rfl ?_ hS (by rw [show fd_ds M d z = some 0 from if_neg c8]; rfl) dX3_loses_28
    rw [show fd_ds M d z = some 0 from if_neg c8]
    exact hP
  · refine lv_aload_n hx hb dX3_loses_11 rfl (lv_at hl 0 rfl) ?_
    refine va_get hx hb hts hinX3 hown hK hP 0 rfl rfl 0 (by decide) wd1 (fun _ h => h) rfl dX3_loses_12 ?_
    refine lv_iload_n hx hb dX3_loses_15 rfl (lv_at hl 2 rfl) ?_
    refine hz_cv (As := [.int (z)]) (rest := []) ⟨hx, hb, hml, hown, hts⟩ (c0_hasSpeech l D cI cJ (a0 := a0) (k_ := k_) (p_ := p_) (t_ := t_) (h_ := h_) (w_ := w_) (b_ := b_) (g_ := g_) (i_ := i_) (f_ := f_) (M := M) (x := z) (hM2 := by first | assumption | rfl) (hS8 := by first | assumption | rfl)) (cwV 1 hts gX3_loses_X0_hasSpeech rfl rfl rfl (by decide +kernel) ⟨Nat.le_of_ble_eq_true rfl, Nat.le_of_ble_eq_true rfl⟩) hK hP [1] rfl [0, 1] rfl 1 rfl rfl rfl rfl hl.1 rfl (Nat.le_of_ble_eq_true rfl) dX3_loses_16 ⟨Nat.zero_le _, Nat.zero_le _⟩ ?_
    refine hz_ifb_ne (tgt := 29) hx hb dX3_loses_19 (by decide) (fun c19 => ?_) (fun c19 => ?_)
    · obtain ⟨j, hj, rfl⟩ := hz_in_of c8 (by omega)
      obtain ⟨i, hi, rfl⟩ := hz_in_of c19 (by omega)
      refine lv_aload_n hx hb dX3_loses_29 rfl (lv_at hl 0 rfl) ?_
      refine va_get hx hb hts hinX3 hown hK hP 0 rfl rfl 0 (by decide) wd1 (fun _ h => h) rfl dX3_loses_30 ?_
      refine lv_iload_n hx hb dX3_loses_33 rfl (lv_at hl 1 rfl) ?_
      refine lv_iload_n hx hb dX3_loses_34 rfl (lv_at hl 2 rfl) ?_
      refine lv_aload_n hx hb dX3_loses_35 rfl (lv_at hl 0 rfl) ?_
      refine va_get hx hb hts hinX3 hown hK hP 0 rfl rfl 0 (by decide) wd1 (fun _ h => h) rfl dX3_loses_36 ?_
      refine va_get hx hb hts hinX0 hown hK hP 1 rfl rfl 11 (by decide) wd3 (fun _ h => h) rfl dX3_loses_39 ?_
      refine lv_iload_n hx hb dX3_loses_42 rfl (lv_at hl 2 rfl) ?_
      refine hz_iald (j := i) hx hb hK hP 10 0 rfl rfl (by omega) (Nat.le_of_ble_eq_true rfl) dX3_loses_43 ?_
      refine hz_ct (y := M (43 + 4 * i + 3)) rfl ?_
      refine hz_cv (As := [.int (nI j), .int (nI i), .int (M (43 + 4 * i + 3))]) (rest := []) ⟨hx, hb, hml, hown, hts⟩ (c0_lossOf l D cI cJ (a0 := a0) (k_ := k_) (p_ := p_) (t_ := t_) (h_ := h_) (w_ := w_) (b_ := b_) (g_ := g_) (i_ := i_) (f_ := f_) (s0 := M 0) (d0 := M 1) (z0 := M 2) (M := M) (d := j) (z := i) (f := M (43 + 4 * i + 3)) (hd := by omega) (hs := by omega) (hat := (hIS i (by omega)).1)) (cwV 3 hts gX3_loses_X0_lossOf rfl rfl rfl (by decide +kernel) ⟨Nat.le_of_ble_eq_true rfl, Nat.le_of_ble_eq_true rfl⟩) hK hP [1, 2, 3, 7, 8, 9] rfl [0, 1] rfl 1 rfl rfl rfl rfl hl.1 rfl (Nat.le_of_ble_eq_true rfl) dX3_loses_44 ⟨Nat.zero_le _, Nat.zero_le _⟩ ?_
      refine hz_ei hx hb hr hlocks rfl ?_ hS (by rw [show fd_ds M (nI j) (nI i) = none from (if_pos c8).trans (if_pos c19)]; exact fr_n (by rw [cl, cl, nI_clamp (by omega), nI_clamp (by omega)])) dX3_loses_47
      rw [show fd_ds M (nI j) (nI i) = none from (if_pos c8).trans (if_pos c19)]
      exact hP
    · refine lv_aload_n hx hb dX3_loses_22 rfl (lv_at hl 0 rfl) ?_
      refine lv_ldc (v := -1000000001) hx hb hown wd2 dX3_loses_23 ?_
      refine hz_ce (As := [.int (-1000000001)]) (rest := []) ⟨hx, hb, hml, hown, hts⟩ (c3_found l D cI cJ (x0 := x0) (a0 := a0) (kc0 := kc0) (tc0 := tc0) (tp0 := tp0) (sh0 := sh0) (fd0 := fd0) (kf := kf) (F := F) (f := -1000000001) (k := 0) (hk := by omega) (hfk := by decide)) (cwV 1 hts gX3_loses_X3_found rfl rfl rfl (by decide +kernel) ⟨Nat.le_of_ble_eq_true rfl, Nat.le_of_ble_eq_true rfl⟩) hK hP hD hS [0, 11] rfl (by decide) rfl (w' := [(x0, .inr (3, [.ref a0, .ref kc0, .ref tc0, .ref tp0, .ref sh0, .ref fd0, .int (kf)])), (a0, .inr (0, [.int (M 0), .int (M 1), .ref k_, .ref p_, .ref t_, .ref h_, .ref w_, .int (M 2), .ref b_, .ref g_, .ref i_, .ref f_])), (k_, .inl (cI, 8, .inl (fun x_ => M (3 + 5 * x_)))), (p_, .inl (cI, 8, .inl (fun x_ => M (3 + 5 * x_ + 1)))), (t_, .inl (cI, 8, .inl (fun x_ => M (3 + 5 * x_ + 2)))), (h_, .inl (cI, 8, .inl (fun x_ => M (3 + 5 * x_ + 3)))), (w_, .inl (cI, 8, .inl (fun x_ => M (3 + 5 * x_ + 4)))), (b_, .inl (cI, 8, .inl (fun x_ => M (43 + 4 * x_)))), (g_, .inl (cI, 8, .inl (fun x_ => M (43 + 4 * x_ + 1)))), (i_, .inl (cI, 8, .inl (fun x_ => M (43 + 4 * x_ + 2)))), (f_, .inl (cI, 8, .inl (fun x_ => M (43 + 4 * x_ + 3)))), (fd0, .inl (cI, 7, .inl (sp_fd F 0)))]) rfl [0, 1] rfl 0 rfl rfl rfl rfl hl.1 rfl (Nat.le_of_ble_eq_true rfl) dX3_loses_25 ⟨Nat.zero_le _, Nat.zero_le _⟩ (fun H locs hP hD hS => ?_)
      refine W.eq (g2 := F0 m 28 ls [.int ((-1000000001))]) rfl ?_
      refine hz_ei hx hb hr hlocks rfl ?_ hS (by rw [show fd_ds M d z = some 0 from (if_pos c8).trans (if_neg c19)]; rfl) dX3_loses_28
      rw [show fd_ds M d z = some 0 from (if_pos c8).trans (if_neg c19)]
      exact hP
set_option maxHeartbeats 4000000 in
set_option maxRecDepth 100000 in
theorem c4_renders (l : Launch) (D : va_G) (cI cJ : ClassId) (h0 am af : Nat) (fs : List Value) (M F : Nat → Int32) (b : Nat) (d z : Int32) (hf : fs[0]? = some (.ref am)) (hf4 : fs[4]? = some (.ref af)) (hI : hz_I b M) : hz_ME l yX4_renders wsX4_renders { frames := 2, cells := 0, slots := 0, locals := 45 } [.ref h0, .int (d), .int (z)] D zcl [(cI, .int), (cJ, .long)] [(h0, .inr (4, fs)), (am, .inl (cI, 75, .inl M)), (af, .inl (cI, 7, .inl F))] [(h0, .inr (4, fs)), (am, .inl (cI, 75, .inl M)), (af, .inl (cI, 7, .inl (sp_ff F (fd_ds M d z))))] (some (.int (sp_fr (fd_ds M d z) (sp_rend M (cl d) (M (43 + 4 * cl z + 3)))))) := by
  refine hz_me (cc := cX4_renders) (maxL := 3) (ret := (some .int)) (by decide) rfl (Nat.le_of_ble_eq_true rfl) ?_
  intro p e s m below meth c hx hb hr hts hown hlocks hml hP hK hD ls hl
  have hS : va_S (hz_a [(h0, .inr (4, fs)), (am, .inl (cI, 75, .inl M)), (af, .inl (cI, 7, .inl F))]) s.heap s.heap [] := va_S.rf
  have hown : s.vm.findClass RX4 = some m.cls := hown
  have hl : lv_has ls 3 [(0, .ref h0), (1, .int (d)), (2, .int (z))] := hl
  have wd1 := hts (.constant RX4 35 (-1000000001)) (List.mem_of_getElem? (i := 1) rfl)
  obtain ⟨⟨hM0, hTb, hM1, hD8, hM2, hS8⟩, hID, hIS⟩ := id hI
  refine lv_aload_n hx hb dX4_renders_0 rfl (lv_at hl 0 rfl) ?_
  refine lv_iload_n hx hb dX4_renders_1 rfl (lv_at hl 1 rfl) ?_
  refine hz_cv (As := [.int (d)]) (rest := []) ⟨hx, hb, hml, hown, hts⟩ (c4_isThere l D cI cJ (h0 := h0) (am := am) (fs := fs) (M := M) (x := d) (hf := by first | assumption | rfl) (hM1 := by first | assumption | rfl) (hD8 := by first | assumption | rfl)) (cwV 1 hts gX4_renders_X4_isThere rfl rfl rfl (by decide +kernel) ⟨Nat.le_of_ble_eq_true rfl, Nat.le_of_ble_eq_true rfl⟩) hK hP [0, 1] rfl [0, 1] rfl 0 rfl rfl rfl rfl hl.1 rfl (Nat.le_of_ble_eq_true rfl) dX4_renders_2 ⟨Nat.zero_le _, Nat.zero_le _⟩ ?_
  refine hz_ifb_eq (tgt := 30) hx hb dX4_renders_5 (by decide) (fun c5 => ?_) (fun c5 => ?_)
  · refine lv_aload_n hx hb dX4_renders_30 rfl (lv_at hl 0 rfl) ?_
    refine lv_ldc (v := -1000000001) hx hb hown wd1 dX4_renders_31 ?_
    refine hz_ce (As := [.int (-1000000001)]) (rest := []) ⟨hx, hb, hml, hown, hts⟩ (c4_finds l D cI cJ (h0 := h0) (af := af) (fs := fs) (F := F) (f := -1000000001) (k := 0) (hf := by first | assumption | rfl) (hk := by omega) (hfk := by decide)) (cwV 1 hts gX4_renders_X4_finds rfl rfl rfl (by decide +kernel) ⟨Nat.le_of_ble_eq_true rfl, Nat.le_of_ble_eq_true rfl⟩) hK hP hD hS [0, 2] rfl (by decide) rfl (w' := [(h0, .inr (4, fs)), (am, .inl (cI, 75, .inl M)), (af, .inl (cI, 7, .inl (sp_fd F 0)))]) rfl [0, 1] rfl 0 rfl rfl rfl rfl hl.1 rfl (Nat.le_of_ble_eq_true rfl) dX4_renders_33 ⟨Nat.zero_le _, Nat.zero_le _⟩ (fun H locs hP hD hS => ?_)
    refine W.eq (g2 := F0 m 36 ls [.int ((-1000000001))]) rfl ?_
    refine hz_ei hx hb hr hlocks rfl ?_ hS (by rw [show fd_ds M d z = some 0 from if_neg c5]; rfl) dX4_renders_36
    rw [show fd_ds M d z = some 0 from if_neg c5]
    exact hP
  · refine lv_aload_n hx hb dX4_renders_8 rfl (lv_at hl 0 rfl) ?_
    refine lv_iload_n hx hb dX4_renders_9 rfl (lv_at hl 2 rfl) ?_
    refine hz_cv (As := [.int (z)]) (rest := []) ⟨hx, hb, hml, hown, hts⟩ (c4_isSpeech l D cI cJ (h0 := h0) (am := am) (fs := fs) (M := M) (x := z) (hf := by first | assumption | rfl) (hM2 := by first | assumption | rfl) (hS8 := by first | assumption | rfl)) (cwV 1 hts gX4_renders_X4_isSpeech rfl rfl rfl (by decide +kernel) ⟨Nat.le_of_ble_eq_true rfl, Nat.le_of_ble_eq_true rfl⟩) hK hP [0, 1] rfl [0, 1] rfl 0 rfl rfl rfl rfl hl.1 rfl (Nat.le_of_ble_eq_true rfl) dX4_renders_10 ⟨Nat.zero_le _, Nat.zero_le _⟩ ?_
    refine hz_ifb_eq (tgt := 30) hx hb dX4_renders_13 (by decide) (fun c13 => ?_) (fun c13 => ?_)
    · refine lv_aload_n hx hb dX4_renders_30 rfl (lv_at hl 0 rfl) ?_
      refine lv_ldc (v := -1000000001) hx hb hown wd1 dX4_renders_31 ?_
      refine hz_ce (As := [.int (-1000000001)]) (rest := []) ⟨hx, hb, hml, hown, hts⟩ (c4_finds l D cI cJ (h0 := h0) (af := af) (fs := fs) (F := F) (f := -1000000001) (k := 0) (hf := by first | assumption | rfl) (hk := by omega) (hfk := by decide)) (cwV 1 hts gX4_renders_X4_finds rfl rfl rfl (by decide +kernel) ⟨Nat.le_of_ble_eq_true rfl, Nat.le_of_ble_eq_true rfl⟩) hK hP hD hS [0, 2] rfl (by decide) rfl (w' := [(h0, .inr (4, fs)), (am, .inl (cI, 75, .inl M)), (af, .inl (cI, 7, .inl (sp_fd F 0)))]) rfl [0, 1] rfl 0 rfl rfl rfl rfl hl.1 rfl (Nat.le_of_ble_eq_true rfl) dX4_renders_33 ⟨Nat.zero_le _, Nat.zero_le _⟩ (fun H locs hP hD hS => ?_)
      refine W.eq (g2 := F0 m 36 ls [.int ((-1000000001))]) rfl ?_
      refine hz_ei hx hb hr hlocks rfl ?_ hS (by rw [show fd_ds M d z = some 0 from (if_pos c5).trans (if_neg c13)]; rfl) dX4_renders_36
      rw [show fd_ds M d z = some 0 from (if_pos c5).trans (if_neg c13)]
      exact hP
    · obtain ⟨j, hj, rfl⟩ := hz_in_of c5 (by omega)
      obtain ⟨i, hi, rfl⟩ := hz_in_of c13 (by omega)
      refine lv_aload_n hx hb dX4_renders_16 rfl (lv_at hl 0 rfl) ?_
      refine lv_iload_n hx hb dX4_renders_17 rfl (lv_at hl 1 rfl) ?_
      refine lv_aload_n hx hb dX4_renders_18 rfl (lv_at hl 0 rfl) ?_
      refine lv_iload_n hx hb dX4_renders_19 rfl (lv_at hl 2 rfl) ?_
      refine lv_iconst (v := nI 3) hx hb dX4_renders_20 (by decide) ?_
      refine hz_cv (As := [.int (nI i), .int (nI 3)]) (rest := [.int (nI j), .ref h0]) ⟨hx, hb, hml, hown, hts⟩ (c4_about l D cI cJ (h0 := h0) (am := am) (fs := fs) (M := M) (z := i) (w := 3) (hf := by first | assumption | rfl) (hs := by omega) (hw := by omega)) (cwV 2 hts gX4_renders_X4_about rfl rfl rfl (by decide +kernel) ⟨Nat.le_of_ble_eq_true rfl, Nat.le_of_ble_eq_true rfl⟩) hK hP [0, 1] rfl [0, 1] rfl 0 rfl rfl rfl rfl hl.1 rfl (Nat.le_of_ble_eq_true rfl) dX4_renders_21 ⟨Nat.zero_le _, Nat.zero_le _⟩ ?_
      refine hz_cv (As := [.int (nI j), .int (M (43 + 4 * i + 3))]) (rest := []) ⟨hx, hb, hml, hown, hts⟩ (c4_rendersBy l D cI cJ (h0 := h0) (am := am) (fs := fs) (M := M) (d := j) (f := M (43 + 4 * i + 3)) (hf := by first | assumption | rfl) (hd := by omega)) (cwV 2 hts gX4_renders_X4_rendersBy rfl rfl rfl (by decide +kernel) ⟨Nat.le_of_ble_eq_true rfl, Nat.le_of_ble_eq_true rfl⟩) hK hP [0, 1] rfl [0, 1] rfl 0 rfl rfl rfl rfl hl.1 rfl (Nat.le_of_ble_eq_true rfl) dX4_renders_24 ⟨Nat.zero_le _, Nat.zero_le _⟩ ?_
      refine lv_goto (tgt := 36) hx hb dX4_renders_27 (by decide) ?_
      refine hz_ei hx hb hr hlocks rfl ?_ hS (by rw [show fd_ds M (nI j) (nI i) = none from (if_pos c5).trans (if_pos c13)]; exact fr_n (by rw [cl, cl, nI_clamp (by omega), nI_clamp (by omega)])) dX4_renders_36
      rw [show fd_ds M (nI j) (nI i) = none from (if_pos c5).trans (if_pos c13)]
      exact hP
set_option maxHeartbeats 4000000 in
set_option maxRecDepth 100000 in
theorem c3_renders (l : Launch) (D : va_G) (cI cJ : ClassId) (x0 kc0 tc0 tp0 sh0 fd0 : Nat) (kf : Int32) (a0 k_ p_ t_ h_ w_ b_ g_ i_ f_ : Nat) (M F : Nat → Int32) (b : Nat) (d z : Int32) (hI : hz_I b M) : hz_ME l yX3_renders wsX3_renders { frames := 2, cells := 0, slots := 0, locals := 45 } [.ref x0, .int (d), .int (z)] D zcl [(cI, .int), (cJ, .long)] [(x0, .inr (3, [.ref a0, .ref kc0, .ref tc0, .ref tp0, .ref sh0, .ref fd0, .int (kf)])), (a0, .inr (0, [.int (M 0), .int (M 1), .ref k_, .ref p_, .ref t_, .ref h_, .ref w_, .int (M 2), .ref b_, .ref g_, .ref i_, .ref f_])), (k_, .inl (cI, 8, .inl (fun x_ => M (3 + 5 * x_)))), (p_, .inl (cI, 8, .inl (fun x_ => M (3 + 5 * x_ + 1)))), (t_, .inl (cI, 8, .inl (fun x_ => M (3 + 5 * x_ + 2)))), (h_, .inl (cI, 8, .inl (fun x_ => M (3 + 5 * x_ + 3)))), (w_, .inl (cI, 8, .inl (fun x_ => M (3 + 5 * x_ + 4)))), (b_, .inl (cI, 8, .inl (fun x_ => M (43 + 4 * x_)))), (g_, .inl (cI, 8, .inl (fun x_ => M (43 + 4 * x_ + 1)))), (i_, .inl (cI, 8, .inl (fun x_ => M (43 + 4 * x_ + 2)))), (f_, .inl (cI, 8, .inl (fun x_ => M (43 + 4 * x_ + 3)))), (fd0, .inl (cI, 7, .inl F))] [(x0, .inr (3, [.ref a0, .ref kc0, .ref tc0, .ref tp0, .ref sh0, .ref fd0, .int (kf)])), (a0, .inr (0, [.int (M 0), .int (M 1), .ref k_, .ref p_, .ref t_, .ref h_, .ref w_, .int (M 2), .ref b_, .ref g_, .ref i_, .ref f_])), (k_, .inl (cI, 8, .inl (fun x_ => M (3 + 5 * x_)))), (p_, .inl (cI, 8, .inl (fun x_ => M (3 + 5 * x_ + 1)))), (t_, .inl (cI, 8, .inl (fun x_ => M (3 + 5 * x_ + 2)))), (h_, .inl (cI, 8, .inl (fun x_ => M (3 + 5 * x_ + 3)))), (w_, .inl (cI, 8, .inl (fun x_ => M (3 + 5 * x_ + 4)))), (b_, .inl (cI, 8, .inl (fun x_ => M (43 + 4 * x_)))), (g_, .inl (cI, 8, .inl (fun x_ => M (43 + 4 * x_ + 1)))), (i_, .inl (cI, 8, .inl (fun x_ => M (43 + 4 * x_ + 2)))), (f_, .inl (cI, 8, .inl (fun x_ => M (43 + 4 * x_ + 3)))), (fd0, .inl (cI, 7, .inl (sp_ff F (fd_ds M d z))))] (some (.int (sp_fr (fd_ds M d z) (sp_rend M (cl d) (M (43 + 4 * cl z + 3)))))) := by
  refine hz_me (cc := cX3_renders) (maxL := 3) (ret := (some .int)) (by decide) rfl (Nat.le_of_ble_eq_true rfl) ?_
  intro p e s m below meth c hx hb hr hts hown hlocks hml hP hK hD ls hl
  have hS : va_S (hz_a [(x0, .inr (3, [.ref a0, .ref kc0, .ref tc0, .ref tp0, .ref sh0, .ref fd0, .int (kf)])), (a0, .inr (0, [.int (M 0), .int (M 1), .ref k_, .ref p_, .ref t_, .ref h_, .ref w_, .int (M 2), .ref b_, .ref g_, .ref i_, .ref f_])), (k_, .inl (cI, 8, .inl (fun x_ => M (3 + 5 * x_)))), (p_, .inl (cI, 8, .inl (fun x_ => M (3 + 5 * x_ + 1)))), (t_, .inl (cI, 8, .inl (fun x_ => M (3 + 5 * x_ + 2)))), (h_, .inl (cI, 8, .inl (fun x_ => M (3 + 5 * x_ + 3)))), (w_, .inl (cI, 8, .inl (fun x_ => M (3 + 5 * x_ + 4)))), (b_, .inl (cI, 8, .inl (fun x_ => M (43 + 4 * x_)))), (g_, .inl (cI, 8, .inl (fun x_ => M (43 + 4 * x_ + 1)))), (i_, .inl (cI, 8, .inl (fun x_ => M (43 + 4 * x_ + 2)))), (f_, .inl (cI, 8, .inl (fun x_ => M (43 + 4 * x_ + 3)))), (fd0, .inl (cI, 7, .inl F))]) s.heap s.heap [] := va_S.rf
  have hown : s.vm.findClass RX3 = some m.cls := hown
  have hl : lv_has ls 3 [(0, .ref x0), (1, .int (d)), (2, .int (z))] := hl
  have hinX0 : ∀ w ∈ u_ws RX0 TX0 12, w ∈ wsX3_renders := fun w h => List.mem_cons_of_mem _ (List.mem_append_right _ (h))
  have hinX3 : ∀ w ∈ u_ws RX3 TX3 7, w ∈ wsX3_renders := fun w h => List.mem_cons_of_mem _ (List.mem_append_left _ (List.mem_append_right _ (h)))
  have wd1 := hts (.fieldLink RX3 10 "HurtSpeech" "live" "LHurtSpeech$Congress;") (List.mem_of_getElem? (i := 1) rfl)
  have wd2 := hts (.constant RX3 48 (-1000000001)) (List.mem_of_getElem? (i := 2) rfl)
  have wd3 := hts (.fieldLink RX3 112 "HurtSpeech$Congress" "force" "[I") (List.mem_of_getElem? (i := 3) rfl)
  obtain ⟨⟨hM0, hTb, hM1, hD8, hM2, hS8⟩, hID, hIS⟩ := id hI
  refine lv_aload_n hx hb dX3_renders_0 rfl (lv_at hl 0 rfl) ?_
  refine va_get hx hb hts hinX3 hown hK hP 0 rfl rfl 0 (by decide) wd1 (fun _ h => h) rfl dX3_renders_1 ?_
  refine lv_iload_n hx hb dX3_renders_4 rfl (lv_at hl 1 rfl) ?_
  refine hz_cv (As := [.int (d)]) (rest := []) ⟨hx, hb, hml, hown, hts⟩ (c0_hasDelegate l D cI cJ (a0 := a0) (k_ := k_) (p_ := p_) (t_ := t_) (h_ := h_) (w_ := w_) (b_ := b_) (g_ := g_) (i_ := i_) (f_ := f_) (M := M) (x := d) (hM1 := by first | assumption | rfl) (hD8 := by first | assumption | rfl)) (cwV 1 hts gX3_renders_X0_hasDelegate rfl rfl rfl (by decide +kernel) ⟨Nat.le_of_ble_eq_true rfl, Nat.le_of_ble_eq_true rfl⟩) hK hP [1] rfl [0, 1] rfl 1 rfl rfl rfl rfl hl.1 rfl (Nat.le_of_ble_eq_true rfl) dX3_renders_5 ⟨Nat.zero_le _, Nat.zero_le _⟩ ?_
  refine hz_ifb_eq (tgt := 22) hx hb dX3_renders_8 (by decide) (fun c8 => ?_) (fun c8 => ?_)
  · refine lv_aload_n hx hb dX3_renders_22 rfl (lv_at hl 0 rfl) ?_
    refine lv_ldc (v := -1000000001) hx hb hown wd2 dX3_renders_23 ?_
    refine hz_ce (As := [.int (-1000000001)]) (rest := []) ⟨hx, hb, hml, hown, hts⟩ (c3_found l D cI cJ (x0 := x0) (a0 := a0) (kc0 := kc0) (tc0 := tc0) (tp0 := tp0) (sh0 := sh0) (fd0 := fd0) (kf := kf) (F := F) (f := -1000000001) (k := 0) (hk := by omega) (hfk := by decide)) (cwV 1 hts gX3_renders_X3_found rfl rfl rfl (by decide +kernel) ⟨Nat.le_of_ble_eq_true rfl, Nat.le_of_ble_eq_true rfl⟩) hK hP hD hS [0, 11] rfl (by decide) rfl (w' := [(x0, .inr (3, [.ref a0, .ref kc0, .ref tc0, .ref tp0, .ref sh0, .ref fd0, .int (kf)])), (a0, .inr (0, [.int (M 0), .int (M 1), .ref k_, .ref p_, .ref t_, .ref h_, .ref w_, .int (M 2), .ref b_, .ref g_, .ref i_, .ref f_])), (k_, .inl (cI, 8, .inl (fun x_ => M (3 + 5 * x_)))), (p_, .inl (cI, 8, .inl (fun x_ => M (3 + 5 * x_ + 1)))), (t_, .inl (cI, 8, .inl (fun x_ => M (3 + 5 * x_ + 2)))), (h_, .inl (cI, 8, .inl (fun x_ => M (3 + 5 * x_ + 3)))), (w_, .inl (cI, 8, .inl (fun x_ => M (3 + 5 * x_ + 4)))), (b_, .inl (cI, 8, .inl (fun x_ => M (43 + 4 * x_)))), (g_, .inl (cI, 8, .inl (fun x_ => M (43 + 4 * x_ + 1)))), (i_, .inl (cI, 8, .inl (fun x_ => M (43 + 4 * x_ + 2)))), (f_, .inl (cI, 8, .inl (fun x_ => M (43 + 4 * x_ + 3)))), (fd0, .inl (cI, 7, .inl (sp_fd F 0)))]) rfl [0, 1] rfl 0 rfl rfl rfl rfl hl.1 rfl (Nat.le_of_ble_eq_true rfl) dX3_renders_25 ⟨Nat.zero_le _, Nat.zero_le _⟩ (fun H locs hP hD hS => ?_)
    refine W.eq (g2 := F0 m 28 ls [.int ((-1000000001))]) rfl ?_
    refine hz_ei hx hb hr hlocks rfl ?_ hS (by rw [show fd_ds M d z = some 0 from if_neg c8]; rfl) dX3_renders_28
    rw [show fd_ds M d z = some 0 from if_neg c8]
    exact hP
  · refine lv_aload_n hx hb dX3_renders_11 rfl (lv_at hl 0 rfl) ?_
    refine va_get hx hb hts hinX3 hown hK hP 0 rfl rfl 0 (by decide) wd1 (fun _ h => h) rfl dX3_renders_12 ?_
    refine lv_iload_n hx hb dX3_renders_15 rfl (lv_at hl 2 rfl) ?_
    refine hz_cv (As := [.int (z)]) (rest := []) ⟨hx, hb, hml, hown, hts⟩ (c0_hasSpeech l D cI cJ (a0 := a0) (k_ := k_) (p_ := p_) (t_ := t_) (h_ := h_) (w_ := w_) (b_ := b_) (g_ := g_) (i_ := i_) (f_ := f_) (M := M) (x := z) (hM2 := by first | assumption | rfl) (hS8 := by first | assumption | rfl)) (cwV 1 hts gX3_renders_X0_hasSpeech rfl rfl rfl (by decide +kernel) ⟨Nat.le_of_ble_eq_true rfl, Nat.le_of_ble_eq_true rfl⟩) hK hP [1] rfl [0, 1] rfl 1 rfl rfl rfl rfl hl.1 rfl (Nat.le_of_ble_eq_true rfl) dX3_renders_16 ⟨Nat.zero_le _, Nat.zero_le _⟩ ?_
    refine hz_ifb_ne (tgt := 29) hx hb dX3_renders_19 (by decide) (fun c19 => ?_) (fun c19 => ?_)
    · obtain ⟨j, hj, rfl⟩ := hz_in_of c8 (by omega)
      obtain ⟨i, hi, rfl⟩ := hz_in_of c19 (by omega)
      refine lv_aload_n hx hb dX3_renders_29 rfl (lv_at hl 0 rfl) ?_
      refine va_get hx hb hts hinX3 hown hK hP 0 rfl rfl 0 (by decide) wd1 (fun _ h => h) rfl dX3_renders_30 ?_
      refine lv_iload_n hx hb dX3_renders_33 rfl (lv_at hl 1 rfl) ?_
      refine lv_aload_n hx hb dX3_renders_34 rfl (lv_at hl 0 rfl) ?_
      refine va_get hx hb hts hinX3 hown hK hP 0 rfl rfl 0 (by decide) wd1 (fun _ h => h) rfl dX3_renders_35 ?_
      refine va_get hx hb hts hinX0 hown hK hP 1 rfl rfl 11 (by decide) wd3 (fun _ h => h) rfl dX3_renders_38 ?_
      refine lv_iload_n hx hb dX3_renders_41 rfl (lv_at hl 2 rfl) ?_
      refine hz_iald (j := i) hx hb hK hP 10 0 rfl rfl (by omega) (Nat.le_of_ble_eq_true rfl) dX3_renders_42 ?_
      refine hz_ct (y := M (43 + 4 * i + 3)) rfl ?_
      refine hz_cv (As := [.int (nI j), .int (M (43 + 4 * i + 3))]) (rest := []) ⟨hx, hb, hml, hown, hts⟩ (c0_renderedBy l D cI cJ (a0 := a0) (k_ := k_) (p_ := p_) (t_ := t_) (h_ := h_) (w_ := w_) (b_ := b_) (g_ := g_) (i_ := i_) (f_ := f_) (s0 := M 0) (d0 := M 1) (z0 := M 2) (M := M) (d := j) (f := M (43 + 4 * i + 3)) (hd := by omega) (hf := (hIS i (by omega)).2) (hq := (hID j (by omega)).1)) (cwV 2 hts gX3_renders_X0_renderedBy rfl rfl rfl (by decide +kernel) ⟨Nat.le_of_ble_eq_true rfl, Nat.le_of_ble_eq_true rfl⟩) hK hP [1, 2, 3] rfl [0, 1] rfl 1 rfl rfl rfl rfl hl.1 rfl (Nat.le_of_ble_eq_true rfl) dX3_renders_43 ⟨Nat.zero_le _, Nat.zero_le _⟩ ?_
      refine hz_ei hx hb hr hlocks rfl ?_ hS (by rw [show fd_ds M (nI j) (nI i) = none from (if_pos c8).trans (if_pos c19)]; exact fr_n (by rw [cl, cl, nI_clamp (by omega), nI_clamp (by omega)])) dX3_renders_46
      rw [show fd_ds M (nI j) (nI i) = none from (if_pos c8).trans (if_pos c19)]
      exact hP
    · refine lv_aload_n hx hb dX3_renders_22 rfl (lv_at hl 0 rfl) ?_
      refine lv_ldc (v := -1000000001) hx hb hown wd2 dX3_renders_23 ?_
      refine hz_ce (As := [.int (-1000000001)]) (rest := []) ⟨hx, hb, hml, hown, hts⟩ (c3_found l D cI cJ (x0 := x0) (a0 := a0) (kc0 := kc0) (tc0 := tc0) (tp0 := tp0) (sh0 := sh0) (fd0 := fd0) (kf := kf) (F := F) (f := -1000000001) (k := 0) (hk := by omega) (hfk := by decide)) (cwV 1 hts gX3_renders_X3_found rfl rfl rfl (by decide +kernel) ⟨Nat.le_of_ble_eq_true rfl, Nat.le_of_ble_eq_true rfl⟩) hK hP hD hS [0, 11] rfl (by decide) rfl (w' := [(x0, .inr (3, [.ref a0, .ref kc0, .ref tc0, .ref tp0, .ref sh0, .ref fd0, .int (kf)])), (a0, .inr (0, [.int (M 0), .int (M 1), .ref k_, .ref p_, .ref t_, .ref h_, .ref w_, .int (M 2), .ref b_, .ref g_, .ref i_, .ref f_])), (k_, .inl (cI, 8, .inl (fun x_ => M (3 + 5 * x_)))), (p_, .inl (cI, 8, .inl (fun x_ => M (3 + 5 * x_ + 1)))), (t_, .inl (cI, 8, .inl (fun x_ => M (3 + 5 * x_ + 2)))), (h_, .inl (cI, 8, .inl (fun x_ => M (3 + 5 * x_ + 3)))), (w_, .inl (cI, 8, .inl (fun x_ => M (3 + 5 * x_ + 4)))), (b_, .inl (cI, 8, .inl (fun x_ => M (43 + 4 * x_)))), (g_, .inl (cI, 8, .inl (fun x_ => M (43 + 4 * x_ + 1)))), (i_, .inl (cI, 8, .inl (fun x_ => M (43 + 4 * x_ + 2)))), (f_, .inl (cI, 8, .inl (fun x_ => M (43 + 4 * x_ + 3)))), (fd0, .inl (cI, 7, .inl (sp_fd F 0)))]) rfl [0, 1] rfl 0 rfl rfl rfl rfl hl.1 rfl (Nat.le_of_ble_eq_true rfl) dX3_renders_25 ⟨Nat.zero_le _, Nat.zero_le _⟩ (fun H locs hP hD hS => ?_)
      refine W.eq (g2 := F0 m 28 ls [.int ((-1000000001))]) rfl ?_
      refine hz_ei hx hb hr hlocks rfl ?_ hS (by rw [show fd_ds M d z = some 0 from (if_pos c8).trans (if_neg c19)]; rfl) dX3_renders_28
      rw [show fd_ds M d z = some 0 from (if_pos c8).trans (if_neg c19)]
      exact hP
set_option maxHeartbeats 4000000 in
set_option maxRecDepth 100000 in
theorem c3_hurts (l : Launch) (D : va_G) (cI cJ : ClassId) (x0 kc0 tc0 tp0 sh0 fd0 : Nat) (kf : Int32) (a0 k_ p_ t_ h_ w_ b_ g_ i_ f_ : Nat) (M F : Nat → Int32) (b : Nat) (z : Int32) (hI : hz_I b M) : hz_ME l yX3_hurts wsX3_hurts { frames := 5, cells := 0, slots := 0, locals := 119 } [.ref x0, .int (z)] D zcl [(cI, .int), (cJ, .long)] [(x0, .inr (3, [.ref a0, .ref kc0, .ref tc0, .ref tp0, .ref sh0, .ref fd0, .int (kf)])), (a0, .inr (0, [.int (M 0), .int (M 1), .ref k_, .ref p_, .ref t_, .ref h_, .ref w_, .int (M 2), .ref b_, .ref g_, .ref i_, .ref f_])), (k_, .inl (cI, 8, .inl (fun x_ => M (3 + 5 * x_)))), (p_, .inl (cI, 8, .inl (fun x_ => M (3 + 5 * x_ + 1)))), (t_, .inl (cI, 8, .inl (fun x_ => M (3 + 5 * x_ + 2)))), (h_, .inl (cI, 8, .inl (fun x_ => M (3 + 5 * x_ + 3)))), (w_, .inl (cI, 8, .inl (fun x_ => M (3 + 5 * x_ + 4)))), (b_, .inl (cI, 8, .inl (fun x_ => M (43 + 4 * x_)))), (g_, .inl (cI, 8, .inl (fun x_ => M (43 + 4 * x_ + 1)))), (i_, .inl (cI, 8, .inl (fun x_ => M (43 + 4 * x_ + 2)))), (f_, .inl (cI, 8, .inl (fun x_ => M (43 + 4 * x_ + 3)))), (fd0, .inl (cI, 7, .inl F))] [(x0, .inr (3, [.ref a0, .ref kc0, .ref tc0, .ref tp0, .ref sh0, .ref fd0, .int (kf)])), (a0, .inr (0, [.int (M 0), .int (M 1), .ref k_, .ref p_, .ref t_, .ref h_, .ref w_, .int (M 2), .ref b_, .ref g_, .ref i_, .ref f_])), (k_, .inl (cI, 8, .inl (fun x_ => M (3 + 5 * x_)))), (p_, .inl (cI, 8, .inl (fun x_ => M (3 + 5 * x_ + 1)))), (t_, .inl (cI, 8, .inl (fun x_ => M (3 + 5 * x_ + 2)))), (h_, .inl (cI, 8, .inl (fun x_ => M (3 + 5 * x_ + 3)))), (w_, .inl (cI, 8, .inl (fun x_ => M (3 + 5 * x_ + 4)))), (b_, .inl (cI, 8, .inl (fun x_ => M (43 + 4 * x_)))), (g_, .inl (cI, 8, .inl (fun x_ => M (43 + 4 * x_ + 1)))), (i_, .inl (cI, 8, .inl (fun x_ => M (43 + 4 * x_ + 2)))), (f_, .inl (cI, 8, .inl (fun x_ => M (43 + 4 * x_ + 3)))), (fd0, .inl (cI, 7, .inl (sp_ff F (fd_s M z))))] (some (.int (sp_fr (fd_s M z) (sp_hs M (cl z) (sp_over M (cl z)) (nD M))))) := by
  refine hz_me (cc := cX3_hurts) (maxL := 2) (ret := (some .int)) (by decide) rfl (Nat.le_of_ble_eq_true rfl) ?_
  intro p e s m below meth c hx hb hr hts hown hlocks hml hP hK hD ls hl
  have hS : va_S (hz_a [(x0, .inr (3, [.ref a0, .ref kc0, .ref tc0, .ref tp0, .ref sh0, .ref fd0, .int (kf)])), (a0, .inr (0, [.int (M 0), .int (M 1), .ref k_, .ref p_, .ref t_, .ref h_, .ref w_, .int (M 2), .ref b_, .ref g_, .ref i_, .ref f_])), (k_, .inl (cI, 8, .inl (fun x_ => M (3 + 5 * x_)))), (p_, .inl (cI, 8, .inl (fun x_ => M (3 + 5 * x_ + 1)))), (t_, .inl (cI, 8, .inl (fun x_ => M (3 + 5 * x_ + 2)))), (h_, .inl (cI, 8, .inl (fun x_ => M (3 + 5 * x_ + 3)))), (w_, .inl (cI, 8, .inl (fun x_ => M (3 + 5 * x_ + 4)))), (b_, .inl (cI, 8, .inl (fun x_ => M (43 + 4 * x_)))), (g_, .inl (cI, 8, .inl (fun x_ => M (43 + 4 * x_ + 1)))), (i_, .inl (cI, 8, .inl (fun x_ => M (43 + 4 * x_ + 2)))), (f_, .inl (cI, 8, .inl (fun x_ => M (43 + 4 * x_ + 3)))), (fd0, .inl (cI, 7, .inl F))]) s.heap s.heap [] := va_S.rf
  have hown : s.vm.findClass RX3 = some m.cls := hown
  have hl : lv_has ls 2 [(0, .ref x0), (1, .int (z))] := hl
  have hinX3 : ∀ w ∈ u_ws RX3 TX3 7, w ∈ wsX3_hurts := fun w h => List.mem_cons_of_mem _ (List.mem_append_left _ (List.mem_append_right _ (h)))
  have wd1 := hts (.fieldLink RX3 10 "HurtSpeech" "live" "LHurtSpeech$Congress;") (List.mem_of_getElem? (i := 1) rfl)
  have wd2 := hts (.constant RX3 48 (-1000000001)) (List.mem_of_getElem? (i := 2) rfl)
  obtain ⟨⟨hM0, hTb, hM1, hD8, hM2, hS8⟩, hID, hIS⟩ := id hI
  refine lv_aload_n hx hb dX3_hurts_0 rfl (lv_at hl 0 rfl) ?_
  refine va_get hx hb hts hinX3 hown hK hP 0 rfl rfl 0 (by decide) wd1 (fun _ h => h) rfl dX3_hurts_1 ?_
  refine lv_iload_n hx hb dX3_hurts_4 rfl (lv_at hl 1 rfl) ?_
  refine hz_cv (As := [.int (z)]) (rest := []) ⟨hx, hb, hml, hown, hts⟩ (c0_hasSpeech l D cI cJ (a0 := a0) (k_ := k_) (p_ := p_) (t_ := t_) (h_ := h_) (w_ := w_) (b_ := b_) (g_ := g_) (i_ := i_) (f_ := f_) (M := M) (x := z) (hM2 := by first | assumption | rfl) (hS8 := by first | assumption | rfl)) (cwV 1 hts gX3_hurts_X0_hasSpeech rfl rfl rfl (by decide +kernel) ⟨Nat.le_of_ble_eq_true rfl, Nat.le_of_ble_eq_true rfl⟩) hK hP [1] rfl [0, 1] rfl 1 rfl rfl rfl rfl hl.1 rfl (Nat.le_of_ble_eq_true rfl) dX3_hurts_5 ⟨Nat.zero_le _, Nat.zero_le _⟩ ?_
  refine hz_ifb_ne (tgt := 18) hx hb dX3_hurts_8 (by decide) (fun c8 => ?_) (fun c8 => ?_)
  · obtain ⟨j, hj, rfl⟩ := hz_in_of c8 (by omega)
    refine lv_aload_n hx hb dX3_hurts_18 rfl (lv_at hl 0 rfl) ?_
    refine va_get hx hb hts hinX3 hown hK hP 0 rfl rfl 0 (by decide) wd1 (fun _ h => h) rfl dX3_hurts_19 ?_
    refine lv_iload_n hx hb dX3_hurts_22 rfl (lv_at hl 1 rfl) ?_
    refine hz_cv (As := [.int (nI j)]) (rest := []) ⟨hx, hb, hml, hown, hts⟩ (c0_hurtBy l D cI cJ (a0 := a0) (k_ := k_) (p_ := p_) (t_ := t_) (h_ := h_) (w_ := w_) (b_ := b_) (g_ := g_) (i_ := i_) (f_ := f_) (M := M) (b := b) (z := j) (hI := by first | assumption | rfl) (hs := by omega)) (cwV 1 hts gX3_hurts_X0_hurtBy rfl rfl rfl (by decide +kernel) ⟨Nat.le_of_ble_eq_true rfl, Nat.le_of_ble_eq_true rfl⟩) hK hP [1, 2, 3, 4, 5, 6, 7, 8, 9, 10] rfl [0, 1] rfl 1 rfl rfl rfl rfl hl.1 rfl (Nat.le_of_ble_eq_true rfl) dX3_hurts_23 ⟨Nat.zero_le _, Nat.zero_le _⟩ ?_
    refine hz_ei hx hb hr hlocks rfl ?_ hS (by rw [show fd_s M (nI j) = none from if_pos c8]; exact fr_n (by rw [cl, nI_clamp (by omega)])) dX3_hurts_26
    rw [show fd_s M (nI j) = none from if_pos c8]
    exact hP
  · refine lv_aload_n hx hb dX3_hurts_11 rfl (lv_at hl 0 rfl) ?_
    refine lv_ldc (v := -1000000001) hx hb hown wd2 dX3_hurts_12 ?_
    refine hz_ce (As := [.int (-1000000001)]) (rest := []) ⟨hx, hb, hml, hown, hts⟩ (c3_found l D cI cJ (x0 := x0) (a0 := a0) (kc0 := kc0) (tc0 := tc0) (tp0 := tp0) (sh0 := sh0) (fd0 := fd0) (kf := kf) (F := F) (f := -1000000001) (k := 0) (hk := by omega) (hfk := by decide)) (cwV 1 hts gX3_hurts_X3_found rfl rfl rfl (by decide +kernel) ⟨Nat.le_of_ble_eq_true rfl, Nat.le_of_ble_eq_true rfl⟩) hK hP hD hS [0, 11] rfl (by decide) rfl (w' := [(x0, .inr (3, [.ref a0, .ref kc0, .ref tc0, .ref tp0, .ref sh0, .ref fd0, .int (kf)])), (a0, .inr (0, [.int (M 0), .int (M 1), .ref k_, .ref p_, .ref t_, .ref h_, .ref w_, .int (M 2), .ref b_, .ref g_, .ref i_, .ref f_])), (k_, .inl (cI, 8, .inl (fun x_ => M (3 + 5 * x_)))), (p_, .inl (cI, 8, .inl (fun x_ => M (3 + 5 * x_ + 1)))), (t_, .inl (cI, 8, .inl (fun x_ => M (3 + 5 * x_ + 2)))), (h_, .inl (cI, 8, .inl (fun x_ => M (3 + 5 * x_ + 3)))), (w_, .inl (cI, 8, .inl (fun x_ => M (3 + 5 * x_ + 4)))), (b_, .inl (cI, 8, .inl (fun x_ => M (43 + 4 * x_)))), (g_, .inl (cI, 8, .inl (fun x_ => M (43 + 4 * x_ + 1)))), (i_, .inl (cI, 8, .inl (fun x_ => M (43 + 4 * x_ + 2)))), (f_, .inl (cI, 8, .inl (fun x_ => M (43 + 4 * x_ + 3)))), (fd0, .inl (cI, 7, .inl (sp_fd F 0)))]) rfl [0, 1] rfl 0 rfl rfl rfl rfl hl.1 rfl (Nat.le_of_ble_eq_true rfl) dX3_hurts_14 ⟨Nat.zero_le _, Nat.zero_le _⟩ (fun H locs hP hD hS => ?_)
    refine W.eq (g2 := F0 m 17 ls [.int ((-1000000001))]) rfl ?_
    refine hz_ei hx hb hr hlocks rfl ?_ hS (by rw [show fd_s M z = some 0 from if_neg c8]; rfl) dX3_hurts_17
    rw [show fd_s M z = some 0 from if_neg c8]
    exact hP
