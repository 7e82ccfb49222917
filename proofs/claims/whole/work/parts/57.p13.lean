set_option maxHeartbeats 4000000 in
set_option maxRecDepth 100000 in
theorem cJ_coder (l : Launch) (D : va_G) (cI cJ : ClassId) (aN : Nat) (adK adV : Nat → Nat) (i : Nat) (hi : i < 10) : hz_MPz (hz_Q aN adK adV) l yJ0_coder_7d493 wsJ0_coder_7d493 { frames := 0, cells := 0, slots := 0, locals := 0 } [.ref (adK i)] D zcl [(cI, .int), (cJ, .long)] [] (.int (nI 0)) := by
  refine hz_mpz (cc := cJ0_coder_7d493) (maxL := 1) (ret := (some .byte)) (by decide) rfl (Nat.le_of_ble_eq_true rfl) ?_
  intro p e s m below meth c hx hb hr hts hown hlocks hml hP hK hZ ls hl
  have hS : va_S hz_no s.heap s.heap [] := va_S.rf
  have hown : s.vm.findClass RJ0 = some m.cls := hown
  have hl : lv_has ls 1 [(0, .ref (adK i))] := hl
  have wd1 := hts (.fieldLink RJ0 38 "java/lang/String" "COMPACT_STRINGS" "Z") (List.mem_of_getElem? (i := 1) rfl)
  have wd2 := hts (.fieldLink RJ0 15 "java/lang/String" "coder" "B") (List.mem_of_getElem? (i := 2) rfl)
  refine va_gets hx hb hZ.2.2.1 hS hown wd1 (fun _ h => h) dJ0_coder_7d493_0 ?_
  refine hz_ct (y := nI 1) rfl ?_
  refine lv_if_eq (tgt := 13) hx hb dJ0_coder_7d493_3 (by decide) (fun h => absurd h (by first | decide | omega | exact hz_nneg (by omega) | exact hz_nneg' (by omega))) (fun _ => ?_)
  refine lv_aload_n hx hb dJ0_coder_7d493_6 rfl (lv_at hl 0 rfl) ?_
  refine vk_getf hx hb (hZ.2.2.2.2.1.1 i hi).2.1 hS hown wd2 (fun _ h => h) dJ0_coder_7d493_7 ?_
  refine hz_ct (y := nI 0) rfl ?_
  refine lv_goto (tgt := 14) hx hb dJ0_coder_7d493_10 (by decide) ?_
  exact hz_ri hx hb hr hlocks rfl (rfl) dJ0_coder_7d493_14
set_option maxHeartbeats 4000000 in
set_option maxRecDepth 100000 in
theorem cJ_lat (l : Launch) (D : va_G) (cI cJ : ClassId) (aN : Nat) (adK adV : Nat → Nat) (i : Nat) (hi : i < 10) : hz_MPz (hz_Q aN adK adV) l yJ0_isLatin1_aae02 wsJ0_isLatin1_aae02 { frames := 0, cells := 0, slots := 0, locals := 0 } [.ref (adK i)] D zcl [(cI, .int), (cJ, .long)] [] (.int (nI 1)) := by
  refine hz_mpz (cc := cJ0_isLatin1_aae02) (maxL := 1) (ret := (some .boolean)) (by decide) rfl (Nat.le_of_ble_eq_true rfl) ?_
  intro p e s m below meth c hx hb hr hts hown hlocks hml hP hK hZ ls hl
  have hS : va_S hz_no s.heap s.heap [] := va_S.rf
  have hown : s.vm.findClass RJ0 = some m.cls := hown
  have hl : lv_has ls 1 [(0, .ref (adK i))] := hl
  have wd1 := hts (.fieldLink RJ0 38 "java/lang/String" "COMPACT_STRINGS" "Z") (List.mem_of_getElem? (i := 1) rfl)
  have wd2 := hts (.fieldLink RJ0 15 "java/lang/String" "coder" "B") (List.mem_of_getElem? (i := 2) rfl)
  refine va_gets hx hb hZ.2.2.1 hS hown wd1 (fun _ h => h) dJ0_isLatin1_aae02_0 ?_
  refine hz_ct (y := nI 1) rfl ?_
  refine lv_if_eq (tgt := 17) hx hb dJ0_isLatin1_aae02_3 (by decide) (fun h => absurd h (by first | decide | omega | exact hz_nneg (by omega) | exact hz_nneg' (by omega))) (fun _ => ?_)
  refine lv_aload_n hx hb dJ0_isLatin1_aae02_6 rfl (lv_at hl 0 rfl) ?_
  refine vk_getf hx hb (hZ.2.2.2.2.1.1 i hi).2.1 hS hown wd2 (fun _ h => h) dJ0_isLatin1_aae02_7 ?_
  refine hz_ct (y := nI 0) rfl ?_
  refine lv_if_ne (tgt := 17) hx hb dJ0_isLatin1_aae02_10 (by decide) (fun h => absurd h (by first | decide | omega | exact hz_nneg (by omega) | exact hz_nneg' (by omega))) (fun _ => ?_)
  refine lv_iconst (v := nI 1) hx hb dJ0_isLatin1_aae02_13 (by decide) ?_
  refine lv_goto (tgt := 18) hx hb dJ0_isLatin1_aae02_14 (by decide) ?_
  exact hz_ri hx hb hr hlocks rfl (rfl) dJ0_isLatin1_aae02_18
set_option maxHeartbeats 4000000 in
set_option maxRecDepth 100000 in
theorem cJ_len (l : Launch) (D : va_G) (cI cJ : ClassId) (aN : Nat) (adK adV : Nat → Nat) (i : Nat) (hi : i < 10) : hz_MPz (hz_Q aN adK adV) l yJ0_length_8abf5 wsJ0_length_8abf5 { frames := 1, cells := 0, slots := 0, locals := 20 } [.ref (adK i)] D zcl [(cI, .int), (cJ, .long)] [] (.int (nI (pz_ln i))) := by
  refine hz_mpz (cc := cJ0_length_8abf5) (maxL := 1) (ret := (some .int)) (by decide) rfl (Nat.le_of_ble_eq_true rfl) ?_
  intro p e s m below meth c hx hb hr hts hown hlocks hml hP hK hZ ls hl
  have hS : va_S hz_no s.heap s.heap [] := va_S.rf
  have hown : s.vm.findClass RJ0 = some m.cls := hown
  have hl : lv_has ls 1 [(0, .ref (adK i))] := hl
  have wd1 := hts (.fieldLink RJ0 9 "java/lang/String" "value" "[B") (List.mem_of_getElem? (i := 1) rfl)
  refine lv_aload_n hx hb dJ0_length_8abf5_0 rfl (lv_at hl 0 rfl) ?_
  refine vk_getf hx hb (hZ.2.2.2.2.1.1 i hi).2.2.1 hS hown wd1 (fun _ h => h) dJ0_length_8abf5_1 ?_
  refine va_tlen hx hb (hZ.2.2.2.2.1.1 i hi).2.2.2 hS (v := nI (pz_ln i)) rfl dJ0_length_8abf5_4 ?_
  refine lv_aload_n hx hb dJ0_length_8abf5_5 rfl (lv_at hl 0 rfl) ?_
  refine hz_cvr (As := []) (rest := [.int (nI (pz_ln i))]) ⟨hx, hb, hml, hown, hts⟩ (hz_Q_ok aN adK adV) hZ hS (cJ_coder l D cI cJ (aN := aN) (adK := adK) (adV := adV) (i := i) (hi := hi)) (cwV 0 hts gJ0_length_8abf5_J0_coder_7d493 rfl rfl rfl (by decide +kernel) ⟨Nat.le_of_ble_eq_true rfl, Nat.le_of_ble_eq_true rfl⟩) hK hP [] rfl [0, 1] rfl (vk_recv (i := i) hZ.2.2.2.2.1 hi hS) rfl hl.1 rfl (Nat.le_of_ble_eq_true rfl) dJ0_length_8abf5_6 ⟨Nat.zero_le _, Nat.zero_le _⟩ ?_
  refine lv_ishr hx hb dJ0_length_8abf5_9 ?_
  exact hz_ri hx hb hr hlocks rfl (pz_shr0 _) dJ0_length_8abf5_10
set_option maxHeartbeats 4000000 in
set_option maxRecDepth 100000 in
theorem cJ_ci3r (l : Launch) (D : va_G) (cI cJ : ClassId) (j n t : Nat) (hj : j < n) (hn : n < 2 ^ 31) : hz_MP l yJ3_checkIndex_8e157 wsJ3_checkIndex_8e157 { frames := 0, cells := 0, slots := 0, locals := 0 } [.int (nI j), .int (nI n), .ref t] D zcl [(cI, .int), (cJ, .long)] [] (.int (nI j)) := by
  refine hz_mp (cc := cJ3_checkIndex_8e157) (maxL := 3) (ret := (some .int)) (by decide) rfl (Nat.le_of_ble_eq_true rfl) ?_
  intro p e s m below meth c hx hb hr hts hown hlocks hml hP hK ls hl
  have hown : s.vm.findClass RJ3 = some m.cls := hown
  have hl : lv_has ls 3 [(0, .int (nI j)), (1, .int (nI n)), (2, .ref t)] := hl
  refine lv_iload_n hx hb dJ3_checkIndex_8e157_0 rfl (lv_at hl 0 rfl) ?_
  refine hz_ifn_lt (tgt := 9) (by omega) hx hb dJ3_checkIndex_8e157_1 (by decide) ?_
  refine lv_iload_n hx hb dJ3_checkIndex_8e157_4 rfl (lv_at hl 0 rfl) ?_
  refine lv_iload_n hx hb dJ3_checkIndex_8e157_5 rfl (lv_at hl 1 rfl) ?_
  refine hz_icmp_lt (tgt := 16) (by omega) (by omega) hx hb dJ3_checkIndex_8e157_6 (by decide) (fun c6 => ?_) (fun c6 => ?_)
  · refine lv_iload_n hx hb dJ3_checkIndex_8e157_16 rfl (lv_at hl 0 rfl) ?_
    exact hz_ri hx hb hr hlocks rfl (rfl) dJ3_checkIndex_8e157_17
  · exact absurd hj (by omega)
set_option maxHeartbeats 4000000 in
set_option maxRecDepth 100000 in
theorem cJ_ci3n (l : Launch) (D : va_G) (cI cJ : ClassId) (j n : Nat) (hj : j < n) (hn : n < 2 ^ 31) : hz_MP l yJ3_checkIndex_8e157 wsJ3_checkIndex_8e157 { frames := 0, cells := 0, slots := 0, locals := 0 } [.int (nI j), .int (nI n), .null] D zcl [(cI, .int), (cJ, .long)] [] (.int (nI j)) := by
  refine hz_mp (cc := cJ3_checkIndex_8e157) (maxL := 3) (ret := (some .int)) (by decide) rfl (Nat.le_of_ble_eq_true rfl) ?_
  intro p e s m below meth c hx hb hr hts hown hlocks hml hP hK ls hl
  have hown : s.vm.findClass RJ3 = some m.cls := hown
  have hl : lv_has ls 3 [(0, .int (nI j)), (1, .int (nI n)), (2, .null)] := hl
  refine lv_iload_n hx hb dJ3_checkIndex_8e157_0 rfl (lv_at hl 0 rfl) ?_
  refine hz_ifn_lt (tgt := 9) (by omega) hx hb dJ3_checkIndex_8e157_1 (by decide) ?_
  refine lv_iload_n hx hb dJ3_checkIndex_8e157_4 rfl (lv_at hl 0 rfl) ?_
  refine lv_iload_n hx hb dJ3_checkIndex_8e157_5 rfl (lv_at hl 1 rfl) ?_
  refine hz_icmp_lt (tgt := 16) (by omega) (by omega) hx hb dJ3_checkIndex_8e157_6 (by decide) (fun c6 => ?_) (fun c6 => ?_)
  · refine lv_iload_n hx hb dJ3_checkIndex_8e157_16 rfl (lv_at hl 0 rfl) ?_
    exact hz_ri hx hb hr hlocks rfl (rfl) dJ3_checkIndex_8e157_17
  · exact absurd hj (by omega)
set_option maxHeartbeats 4000000 in
set_option maxRecDepth 100000 in
theorem cJ_ci (l : Launch) (D : va_G) (cI cJ : ClassId) (aN : Nat) (adK adV : Nat → Nat) (j n : Nat) (hj : j < n) (hn : n < 2 ^ 31) : hz_M0z (hz_Q aN adK adV) l yJ0_checkIndex_df160 wsJ0_checkIndex_df160 { frames := 1, cells := 0, slots := 0, locals := 22 } [.int (nI j), .int (nI n)] D zcl [(cI, .int), (cJ, .long)] [] := by
  refine hz_m0z (cc := cJ0_checkIndex_df160) (maxL := 2) (ret := none) (by decide) rfl (Nat.le_of_ble_eq_true rfl) ?_
  intro p e s m below meth c hx hb hr hts hown hlocks hml hP hK hZ ls hl
  have hS : va_S hz_no s.heap s.heap [] := va_S.rf
  have hown : s.vm.findClass RJ0 = some m.cls := hown
  have hl : lv_has ls 2 [(0, .int (nI j)), (1, .int (nI n))] := hl
  have wd1 := hts (.fieldLink RJ0 1053 "jdk/internal/util/Preconditions" "SIOOBE_FORMATTER" "Ljava/util/function/BiFunction;") (List.mem_of_getElem? (i := 1) rfl)
  refine lv_iload_n hx hb dJ0_checkIndex_df160_0 rfl (lv_at hl 0 rfl) ?_
  refine lv_iload_n hx hb dJ0_checkIndex_df160_1 rfl (lv_at hl 1 rfl) ?_
  rcases hZ.2.2.2.1 with hq | ⟨tq, hq⟩
  · refine va_gets hx hb hq hS hown wd1 (fun _ h => h) dJ0_checkIndex_df160_2 ?_
    refine hz_cs (As := [.int (nI j), .int (nI n), .null]) (rest := []) ⟨hx, hb, hml, hown, hts⟩ (cJ_ci3n l D cI cJ (j := j) (n := n) (hj := hj) (hn := hn)) (va_cwS 3 hts gJ0_checkIndex_df160_J3_checkIndex_8e157 rfl rfl rfl (by decide +kernel) ⟨Nat.le_of_ble_eq_true rfl, Nat.le_of_ble_eq_true rfl⟩) hK hP [] rfl [0, 1] rfl rfl hl.1 rfl (Nat.le_of_ble_eq_true rfl) dJ0_checkIndex_df160_5 ⟨Nat.zero_le _, Nat.zero_le _⟩ ?_
    refine lv_pop hx hb dJ0_checkIndex_df160_8 rfl ?_
    exact hz_rv hx hb hr hlocks dJ0_checkIndex_df160_9
  · refine va_gets hx hb hq hS hown wd1 (fun _ h => h) dJ0_checkIndex_df160_2 ?_
    refine hz_cs (As := [.int (nI j), .int (nI n), .ref tq]) (rest := []) ⟨hx, hb, hml, hown, hts⟩ (cJ_ci3r l D cI cJ (j := j) (n := n) (t := tq) (hj := hj) (hn := hn)) (va_cwS 3 hts gJ0_checkIndex_df160_J3_checkIndex_8e157 rfl rfl rfl (by decide +kernel) ⟨Nat.le_of_ble_eq_true rfl, Nat.le_of_ble_eq_true rfl⟩) hK hP [] rfl [0, 1] rfl rfl hl.1 rfl (Nat.le_of_ble_eq_true rfl) dJ0_checkIndex_df160_5 ⟨Nat.zero_le _, Nat.zero_le _⟩ ?_
    refine lv_pop hx hb dJ0_checkIndex_df160_8 rfl ?_
    exact hz_rv hx hb hr hlocks dJ0_checkIndex_df160_9
set_option maxHeartbeats 4000000 in
set_option maxRecDepth 100000 in
theorem cJ_ca1 (l : Launch) (D : va_G) (cI cJ : ClassId) (aN : Nat) (adK adV : Nat → Nat) (i j : Nat) (hi : i < 10) (hj : j < pz_ln i) : hz_MPz (hz_Q aN adK adV) l yJ1_charAt_3b067 wsJ1_charAt_3b067 { frames := 2, cells := 0, slots := 0, locals := 43 } [.ref (adV i), .int (nI j)] D zcl [(cI, .int), (cJ, .long)] [] (.int (pz_NM (8 * i + j))) := by
  refine hz_mpz (cc := cJ1_charAt_3b067) (maxL := 2) (ret := (some .char)) (by decide) rfl (Nat.le_of_ble_eq_true rfl) ?_
  intro p e s m below meth c hx hb hr hts hown hlocks hml hP hK hZ ls hl
  have hS : va_S hz_no s.heap s.heap [] := va_S.rf
  have hown : s.vm.findClass RJ1 = some m.cls := hown
  have hl : lv_has ls 2 [(0, .ref (adV i)), (1, .int (nI j))] := hl
  have hl8 := (pz_n1 i hi).1.2
  refine lv_iload_n hx hb dJ1_charAt_3b067_0 rfl (lv_at hl 1 rfl) ?_
  refine lv_aload_n hx hb dJ1_charAt_3b067_1 rfl (lv_at hl 0 rfl) ?_
  refine va_tlen hx hb (hZ.2.2.2.2.1.1 i hi).2.2.2 hS (v := nI (pz_ln i)) rfl dJ1_charAt_3b067_2 ?_
  refine hz_cs0z (As := [.int (nI j), .int (nI (pz_ln i))]) (rest := []) ⟨hx, hb, hml, hown, hts⟩ (hz_Q_ok aN adK adV) hZ hS (cJ_ci l D cI cJ (aN := aN) (adK := adK) (adV := adV) (j := j) (n := pz_ln i) (hj := hj) (hn := by omega)) (va_cwS 2 hts gJ1_charAt_3b067_J0_checkIndex_df160 rfl rfl rfl (by decide +kernel) ⟨Nat.le_of_ble_eq_true rfl, Nat.le_of_ble_eq_true rfl⟩) hK hP [] rfl [0, 1] rfl rfl hl.1 rfl (Nat.le_of_ble_eq_true rfl) dJ1_charAt_3b067_3 ⟨Nat.zero_le _, Nat.zero_le _⟩ ?_
  refine lv_aload_n hx hb dJ1_charAt_3b067_6 rfl (lv_at hl 0 rfl) ?_
  refine lv_iload_n hx hb dJ1_charAt_3b067_7 rfl (lv_at hl 1 rfl) ?_
  refine va_tb hx hb (hZ.2.2.2.2.1.1 i hi).2.2.2 hS (vp_in_nI hj (show pz_ln i < 2 ^ 31 by omega)) (v := .int (pz_y i j)) (by rw [nI_clamp (by omega)]; rfl) dJ1_charAt_3b067_8 ?_
  refine lv_sipush (v := nI 255) hx hb dJ1_charAt_3b067_9 (by decide) ?_
  refine lv_iand hx hb dJ1_charAt_3b067_12 ?_
  refine lv_i2c (v := pz_NM (8 * i + j)) hx hb dJ1_charAt_3b067_13 (pz_ch i hi j hj).1 ?_
  exact hz_ri hx hb hr hlocks (pz_ch i hi j hj).2 (rfl) dJ1_charAt_3b067_14
set_option maxHeartbeats 4000000 in
set_option maxRecDepth 100000 in
theorem cJ_ca (l : Launch) (D : va_G) (cI cJ : ClassId) (aN : Nat) (adK adV : Nat → Nat) (i j : Nat) (hi : i < 10) (hj : j < pz_ln i) : hz_MPz (hz_Q aN adK adV) l yJ0_charAt_5068e wsJ0_charAt_5068e { frames := 4, cells := 0, slots := 0, locals := 85 } [.ref (adK i), .int (nI j)] D zcl [(cI, .int), (cJ, .long)] [] (.int (pz_NM (8 * i + j))) := by
  refine hz_mpz (cc := cJ0_charAt_5068e) (maxL := 2) (ret := (some .char)) (by decide) rfl (Nat.le_of_ble_eq_true rfl) ?_
  intro p e s m below meth c hx hb hr hts hown hlocks hml hP hK hZ ls hl
  have hS : va_S hz_no s.heap s.heap [] := va_S.rf
  have hown : s.vm.findClass RJ0 = some m.cls := hown
  have hl : lv_has ls 2 [(0, .ref (adK i)), (1, .int (nI j))] := hl
  have wd1 := hts (.fieldLink RJ0 9 "java/lang/String" "value" "[B") (List.mem_of_getElem? (i := 1) rfl)
  refine lv_aload_n hx hb dJ0_charAt_5068e_0 rfl (lv_at hl 0 rfl) ?_
  refine hz_cvr (As := []) (rest := []) ⟨hx, hb, hml, hown, hts⟩ (hz_Q_ok aN adK adV) hZ hS (cJ_lat l D cI cJ (aN := aN) (adK := adK) (adV := adV) (i := i) (hi := hi)) (cwV 0 hts gJ0_charAt_5068e_J0_isLatin1_aae02 rfl rfl rfl (by decide +kernel) ⟨Nat.le_of_ble_eq_true rfl, Nat.le_of_ble_eq_true rfl⟩) hK hP [] rfl [0, 1] rfl (vk_recv (i := i) hZ.2.2.2.2.1 hi hS) rfl hl.1 rfl (Nat.le_of_ble_eq_true rfl) dJ0_charAt_5068e_1 ⟨Nat.zero_le _, Nat.zero_le _⟩ ?_
  refine lv_if_eq (tgt := 16) hx hb dJ0_charAt_5068e_4 (by decide) (fun h => absurd h (by first | decide | omega | exact hz_nneg (by omega) | exact hz_nneg' (by omega))) (fun _ => ?_)
  refine lv_aload_n hx hb dJ0_charAt_5068e_7 rfl (lv_at hl 0 rfl) ?_
  refine vk_getf hx hb (hZ.2.2.2.2.1.1 i hi).2.2.1 hS hown wd1 (fun _ h => h) dJ0_charAt_5068e_8 ?_
  refine lv_iload_n hx hb dJ0_charAt_5068e_11 rfl (lv_at hl 1 rfl) ?_
  refine hz_csz (As := [.ref (adV i), .int (nI j)]) (rest := []) ⟨hx, hb, hml, hown, hts⟩ (hz_Q_ok aN adK adV) hZ hS (cJ_ca1 l D cI cJ (aN := aN) (adK := adK) (adV := adV) (i := i) (j := j) (hi := hi) (hj := hj)) (va_cwS 2 hts gJ0_charAt_5068e_J1_charAt_3b067 rfl rfl rfl (by decide +kernel) ⟨Nat.le_of_ble_eq_true rfl, Nat.le_of_ble_eq_true rfl⟩) hK hP [] rfl [0, 1] rfl rfl hl.1 rfl (Nat.le_of_ble_eq_true rfl) dJ0_charAt_5068e_12 ⟨Nat.zero_le _, Nat.zero_le _⟩ ?_
  exact hz_ri hx hb hr hlocks (pz_ch i hi j hj).2 (rfl) dJ0_charAt_5068e_15
