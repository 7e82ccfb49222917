set_option maxHeartbeats 4000000 in
set_option maxRecDepth 100000 in
theorem c4_pass_b (l : Launch) (D : va_G) (cI cJ : ClassId) (aN : Nat) (adK adV : Nat → Nat) (h0 am ak aw af at_ ab as_ ac : Nat) (kf wp : Int32) (T : Nat → Int32) (n : Nat) (q w : Nat) (hn : n ≤ 120) (hq : q ≤ n) (hw : w < 2 ^ 31) : hz_MEz (hz_Q aN adK adV) l yX4_passes wsX4_passes { frames := 3, cells := 0, slots := 0, locals := 66 } [.ref h0, .int (nI w)] D zcl [(cI, .int), (cJ, .long)] [(h0, .inr (4, [.ref am, .ref ak, .ref aw, .int (kf), .ref af, .int (wp), .ref at_, .int (nI n), .int (nI (pz_k T n q)), .int (nI (pz_b T n q)), .int (nI (pz_e T n q)), .int (nI (pz_v T n q)), .int (nI 1), .ref ab, .ref as_, .ref ac])), (at_, .inl (cI, 120, .inl T))] [(h0, .inr (4, [.ref am, .ref ak, .ref aw, .int (kf), .ref af, .int (wp), .ref at_, .int (nI n), .int (nI (pz_k T n q)), .int (nI (pz_b T n q)), .int (nI (pz_e T n q)), .int (nI (pz_v T n q)), .int (nI 1), .ref ab, .ref as_, .ref ac])), (at_, .inl (cI, 120, .inl T))] (some (.int (nI 0))) := by
  refine hz_mez (cc := cX4_passes) (maxL := 2) (ret := (some .boolean)) (by decide) rfl (Nat.le_of_ble_eq_true rfl) ?_
  intro p e s m below meth c hx hb hr hts hown hlocks hml hP hK hD hZ ls hl
  have hS : va_S (hz_a [(h0, .inr (4, [.ref am, .ref ak, .ref aw, .int (kf), .ref af, .int (wp), .ref at_, .int (nI n), .int (nI (pz_k T n q)), .int (nI (pz_b T n q)), .int (nI (pz_e T n q)), .int (nI (pz_v T n q)), .int (nI 1), .ref ab, .ref as_, .ref ac])), (at_, .inl (cI, 120, .inl T))]) s.heap s.heap [] := va_S.rf
  have hown : s.vm.findClass RX4 = some m.cls := hown
  have hl : lv_has ls 2 [(0, .ref h0), (1, .int (nI w))] := hl
  have hinX4 : ∀ w ∈ u_ws RX4 TX4 16, w ∈ wsX4_passes := fun w h => List.mem_cons_of_mem _ (List.mem_append_right _ (h))
  have wd1 := hts (.fieldLink RX4 174 "HurtSpeechModel" "bad" "Z") (List.mem_of_getElem? (i := 1) rfl)
  have hk24 := pz_k_r T n q
  have hv4 := pz_v_r T n q
  have hb1 := pz_b_ge T n q
  have hb2 := pz_e_ge T n q
  have hb3 := pz_e_le (T := T) hq
  have hb4 := pz_t_le T n q
  refine lv_aload_n hx hb dX4_passes_0 rfl (lv_at hl 0 rfl) ?_
  refine va_get hx hb hts hinX4 hown hK hP 0 rfl rfl 12 (by decide) wd1 (fun _ h => h) rfl dX4_passes_1 ?_
  refine lv_if_ne (tgt := 15) hx hb dX4_passes_4 (by decide) (fun _ => ?_) (fun h => absurd h (by first | decide | omega | exact hz_nneg (by omega) | exact hz_nneg' (by omega)))
  refine lv_iconst (v := nI 0) hx hb dX4_passes_15 (by decide) ?_
  refine hz_ei hx hb hr hlocks rfl ?_ hS (rfl) dX4_passes_16
  exact hP
set_option maxHeartbeats 4000000 in
set_option maxRecDepth 100000 in
theorem c4_pass_y (l : Launch) (D : va_G) (cI cJ : ClassId) (aN : Nat) (adK adV : Nat → Nat) (h0 am ak aw af at_ ab as_ ac : Nat) (kf wp : Int32) (T : Nat → Int32) (n : Nat) (q w : Nat) (hn : n ≤ 120) (hq : q ≤ n) (hw : w < 2 ^ 31) (hk : pz_k T n q = w) : hz_MEz (hz_Q aN adK adV) l yX4_passes wsX4_passes { frames := 3, cells := 0, slots := 0, locals := 66 } [.ref h0, .int (nI w)] D zcl [(cI, .int), (cJ, .long)] [(h0, .inr (4, [.ref am, .ref ak, .ref aw, .int (kf), .ref af, .int (wp), .ref at_, .int (nI n), .int (nI (pz_k T n q)), .int (nI (pz_b T n q)), .int (nI (pz_e T n q)), .int (nI (pz_v T n q)), .int (nI 0), .ref ab, .ref as_, .ref ac])), (at_, .inl (cI, 120, .inl T))] [(h0, .inr (4, [.ref am, .ref ak, .ref aw, .int (kf), .ref af, .int (wp), .ref at_, .int (nI n), .int (nI (pz_k T n (pz_e T n q))), .int (nI (pz_b T n (pz_e T n q))), .int (nI (pz_e T n (pz_e T n q))), .int (nI (pz_v T n (pz_e T n q))), .int (nI 0), .ref ab, .ref as_, .ref ac])), (at_, .inl (cI, 120, .inl T))] (some (.int (nI 1))) := by
  refine hz_mez (cc := cX4_passes) (maxL := 2) (ret := (some .boolean)) (by decide) rfl (Nat.le_of_ble_eq_true rfl) ?_
  intro p e s m below meth c hx hb hr hts hown hlocks hml hP hK hD hZ ls hl
  have hS : va_S (hz_a [(h0, .inr (4, [.ref am, .ref ak, .ref aw, .int (kf), .ref af, .int (wp), .ref at_, .int (nI n), .int (nI (pz_k T n q)), .int (nI (pz_b T n q)), .int (nI (pz_e T n q)), .int (nI (pz_v T n q)), .int (nI 0), .ref ab, .ref as_, .ref ac])), (at_, .inl (cI, 120, .inl T))]) s.heap s.heap [] := va_S.rf
  have hown : s.vm.findClass RX4 = some m.cls := hown
  have hl : lv_has ls 2 [(0, .ref h0), (1, .int (nI w))] := hl
  have hinX4 : ∀ w ∈ u_ws RX4 TX4 16, w ∈ wsX4_passes := fun w h => List.mem_cons_of_mem _ (List.mem_append_right _ (h))
  have wd1 := hts (.fieldLink RX4 174 "HurtSpeechModel" "bad" "Z") (List.mem_of_getElem? (i := 1) rfl)
  have wd2 := hts (.fieldLink RX4 168 "HurtSpeechModel" "token" "I") (List.mem_of_getElem? (i := 2) rfl)
  have hk24 := pz_k_r T n q
  have hv4 := pz_v_r T n q
  have hb1 := pz_b_ge T n q
  have hb2 := pz_e_ge T n q
  have hb3 := pz_e_le (T := T) hq
  have hb4 := pz_t_le T n q
  refine lv_aload_n hx hb dX4_passes_0 rfl (lv_at hl 0 rfl) ?_
  refine va_get hx hb hts hinX4 hown hK hP 0 rfl rfl 12 (by decide) wd1 (fun _ h => h) rfl dX4_passes_1 ?_
  refine lv_if_ne (tgt := 15) hx hb dX4_passes_4 (by decide) (fun h => absurd h (by first | decide | omega | exact hz_nneg (by omega) | exact hz_nneg' (by omega))) (fun _ => ?_)
  refine lv_aload_n hx hb dX4_passes_7 rfl (lv_at hl 0 rfl) ?_
  refine va_get hx hb hts hinX4 hown hK hP 0 rfl rfl 8 (by decide) wd2 (fun _ h => h) rfl dX4_passes_8 ?_
  refine lv_iload_n hx hb dX4_passes_11 rfl (lv_at hl 1 rfl) ?_
  refine hz_icmp_eq (tgt := 17) (by omega) (by omega) hx hb dX4_passes_12 (by decide) (fun c12 => ?_) (fun c12 => ?_)
  · refine lv_aload_n hx hb dX4_passes_17 rfl (lv_at hl 0 rfl) ?_
    refine hz_cez (As := []) (rest := []) ⟨hx, hb, hml, hown, hts⟩ (hz_Q_ok aN adK adV) hZ (c4_reads l D cI cJ (aN := aN) (adK := adK) (adV := adV) (h0 := h0) (am := am) (ak := ak) (aw := aw) (af := af) (at_ := at_) (ab := ab) (as_ := as_) (ac := ac) (kf := kf) (wp := wp) (bd := nI 0) (tk := nI (pz_k T n q)) (bg := nI (pz_b T n q)) (vl := nI (pz_v T n q)) (T := T) (n := n) (q := pz_e T n q) (hn := by omega) (hq := by omega)) (cwV 0 hts gX4_passes_X4_reads rfl rfl rfl (by decide +kernel) ⟨Nat.le_of_ble_eq_true rfl, Nat.le_of_ble_eq_true rfl⟩) hK hP hD hS [0, 1] rfl (by decide) (hz_ha [h0, at_] rfl rfl) (w' := [(h0, .inr (4, [.ref am, .ref ak, .ref aw, .int (kf), .ref af, .int (wp), .ref at_, .int (nI n), .int (nI (pz_k T n (pz_e T n q))), .int (nI (pz_b T n (pz_e T n q))), .int (nI (pz_e T n (pz_e T n q))), .int (nI (pz_v T n (pz_e T n q))), .int (nI 0), .ref ab, .ref as_, .ref ac])), (at_, .inl (cI, 120, .inl T))]) (hz_pt_eq 2 [] [] rfl rfl rfl rfl rfl rfl rfl) [0, 1] rfl 0 rfl rfl rfl rfl hl.1 rfl (Nat.le_of_ble_eq_true rfl) dX4_passes_18 ⟨Nat.zero_le _, Nat.zero_le _⟩ (fun H locs hP hD hS => ?_)
    refine W.eq (g2 := F0 m 21 ls []) rfl ?_
    refine lv_iconst (v := nI 1) hx hb dX4_passes_21 (by decide) ?_
    refine hz_ei hx hb hr hlocks rfl ?_ hS (rfl) dX4_passes_22
    exact hP
  · exact absurd hk c12
set_option maxHeartbeats 4000000 in
set_option maxRecDepth 100000 in
theorem c4_pass_n (l : Launch) (D : va_G) (cI cJ : ClassId) (aN : Nat) (adK adV : Nat → Nat) (h0 am ak aw af at_ ab as_ ac : Nat) (kf wp : Int32) (T : Nat → Int32) (n : Nat) (q w : Nat) (hn : n ≤ 120) (hq : q ≤ n) (hw : w < 2 ^ 31) (hk : ¬ pz_k T n q = w) : hz_MEz (hz_Q aN adK adV) l yX4_passes wsX4_passes { frames := 3, cells := 0, slots := 0, locals := 66 } [.ref h0, .int (nI w)] D zcl [(cI, .int), (cJ, .long)] [(h0, .inr (4, [.ref am, .ref ak, .ref aw, .int (kf), .ref af, .int (wp), .ref at_, .int (nI n), .int (nI (pz_k T n q)), .int (nI (pz_b T n q)), .int (nI (pz_e T n q)), .int (nI (pz_v T n q)), .int (nI 0), .ref ab, .ref as_, .ref ac])), (at_, .inl (cI, 120, .inl T))] [(h0, .inr (4, [.ref am, .ref ak, .ref aw, .int (kf), .ref af, .int (wp), .ref at_, .int (nI n), .int (nI (pz_k T n q)), .int (nI (pz_b T n q)), .int (nI (pz_e T n q)), .int (nI (pz_v T n q)), .int (nI 0), .ref ab, .ref as_, .ref ac])), (at_, .inl (cI, 120, .inl T))] (some (.int (nI 0))) := by
  refine hz_mez (cc := cX4_passes) (maxL := 2) (ret := (some .boolean)) (by decide) rfl (Nat.le_of_ble_eq_true rfl) ?_
  intro p e s m below meth c hx hb hr hts hown hlocks hml hP hK hD hZ ls hl
  have hS : va_S (hz_a [(h0, .inr (4, [.ref am, .ref ak, .ref aw, .int (kf), .ref af, .int (wp), .ref at_, .int (nI n), .int (nI (pz_k T n q)), .int (nI (pz_b T n q)), .int (nI (pz_e T n q)), .int (nI (pz_v T n q)), .int (nI 0), .ref ab, .ref as_, .ref ac])), (at_, .inl (cI, 120, .inl T))]) s.heap s.heap [] := va_S.rf
  have hown : s.vm.findClass RX4 = some m.cls := hown
  have hl : lv_has ls 2 [(0, .ref h0), (1, .int (nI w))] := hl
  have hinX4 : ∀ w ∈ u_ws RX4 TX4 16, w ∈ wsX4_passes := fun w h => List.mem_cons_of_mem _ (List.mem_append_right _ (h))
  have wd1 := hts (.fieldLink RX4 174 "HurtSpeechModel" "bad" "Z") (List.mem_of_getElem? (i := 1) rfl)
  have wd2 := hts (.fieldLink RX4 168 "HurtSpeechModel" "token" "I") (List.mem_of_getElem? (i := 2) rfl)
  have hk24 := pz_k_r T n q
  have hv4 := pz_v_r T n q
  have hb1 := pz_b_ge T n q
  have hb2 := pz_e_ge T n q
  have hb3 := pz_e_le (T := T) hq
  have hb4 := pz_t_le T n q
  refine lv_aload_n hx hb dX4_passes_0 rfl (lv_at hl 0 rfl) ?_
  refine va_get hx hb hts hinX4 hown hK hP 0 rfl rfl 12 (by decide) wd1 (fun _ h => h) rfl dX4_passes_1 ?_
  refine lv_if_ne (tgt := 15) hx hb dX4_passes_4 (by decide) (fun h => absurd h (by first | decide | omega | exact hz_nneg (by omega) | exact hz_nneg' (by omega))) (fun _ => ?_)
  refine lv_aload_n hx hb dX4_passes_7 rfl (lv_at hl 0 rfl) ?_
  refine va_get hx hb hts hinX4 hown hK hP 0 rfl rfl 8 (by decide) wd2 (fun _ h => h) rfl dX4_passes_8 ?_
  refine lv_iload_n hx hb dX4_passes_11 rfl (lv_at hl 1 rfl) ?_
  refine hz_icmp_eq (tgt := 17) (by omega) (by omega) hx hb dX4_passes_12 (by decide) (fun c12 => ?_) (fun c12 => ?_)
  · exact absurd c12 hk
  · refine lv_iconst (v := nI 0) hx hb dX4_passes_15 (by decide) ?_
    refine hz_ei hx hb hr hlocks rfl ?_ hS (rfl) dX4_passes_16
    exact hP
set_option maxHeartbeats 4000000 in
set_option maxRecDepth 100000 in
theorem c4_num_b (l : Launch) (D : va_G) (cI cJ : ClassId) (aN : Nat) (adK adV : Nat → Nat) (h0 am ak aw af at_ ab as_ ac : Nat) (kf wp : Int32) (T : Nat → Int32) (n : Nat) (q : Nat) (mo : Int32) (hn : n ≤ 120) (hq : q ≤ n) : hz_MEz (hz_Q aN adK adV) l yX4_number wsX4_number { frames := 3, cells := 0, slots := 0, locals := 66 } [.ref h0, .int (nI 0), .int (mo)] D zcl [(cI, .int), (cJ, .long)] [(h0, .inr (4, [.ref am, .ref ak, .ref aw, .int (kf), .ref af, .int (wp), .ref at_, .int (nI n), .int (nI (pz_k T n q)), .int (nI (pz_b T n q)), .int (nI (pz_e T n q)), .int (nI (pz_v T n q)), .int (nI 1), .ref ab, .ref as_, .ref ac])), (at_, .inl (cI, 120, .inl T))] [(h0, .inr (4, [.ref am, .ref ak, .ref aw, .int (kf), .ref af, .int (wp), .ref at_, .int (nI n), .int (nI (pz_k T n q)), .int (nI (pz_b T n q)), .int (nI (pz_e T n q)), .int (nI (pz_v T n q)), .int (nI 1), .ref ab, .ref as_, .ref ac])), (at_, .inl (cI, 120, .inl T))] (some (.int (nI (pz_v T n q)))) := by
  refine hz_mez (cc := cX4_number) (maxL := 4) (ret := (some .int)) (by decide) rfl (Nat.le_of_ble_eq_true rfl) ?_
  intro p e s m below meth c hx hb hr hts hown hlocks hml hP hK hD hZ ls hl
  have hS : va_S (hz_a [(h0, .inr (4, [.ref am, .ref ak, .ref aw, .int (kf), .ref af, .int (wp), .ref at_, .int (nI n), .int (nI (pz_k T n q)), .int (nI (pz_b T n q)), .int (nI (pz_e T n q)), .int (nI (pz_v T n q)), .int (nI 1), .ref ab, .ref as_, .ref ac])), (at_, .inl (cI, 120, .inl T))]) s.heap s.heap [] := va_S.rf
  have hown : s.vm.findClass RX4 = some m.cls := hown
  have hl : lv_has ls 4 [(0, .ref h0), (1, .int (nI 0)), (2, .int (mo))] := hl
  have hinX4 : ∀ w ∈ u_ws RX4 TX4 16, w ∈ wsX4_number := fun w h => List.mem_cons_of_mem _ (List.mem_append_right _ (h))
  have wd1 := hts (.fieldLink RX4 165 "HurtSpeechModel" "value" "I") (List.mem_of_getElem? (i := 1) rfl)
  have wd2 := hts (.fieldLink RX4 174 "HurtSpeechModel" "bad" "Z") (List.mem_of_getElem? (i := 2) rfl)
  have hk24 := pz_k_r T n q
  have hv4 := pz_v_r T n q
  have hb1 := pz_b_ge T n q
  have hb2 := pz_e_ge T n q
  have hb3 := pz_e_le (T := T) hq
  have hb4 := pz_t_le T n q
  refine lv_aload_n hx hb dX4_number_0 rfl (lv_at hl 0 rfl) ?_
  refine va_get hx hb hts hinX4 hown hK hP 0 rfl rfl 11 (by decide) wd1 (fun _ h => h) rfl dX4_number_1 ?_
  refine lv_istore_n (lv' := [(3, .int (nI (pz_v T n q))), (0, .ref h0), (1, .int (nI 0)), (2, .int (mo))]) hx hb dX4_number_4 rfl hl (by decide) rfl (fun ls hl => ?_)
  refine lv_aload_n hx hb dX4_number_5 rfl (lv_at hl 1 rfl) ?_
  refine lv_aload_n hx hb dX4_number_6 rfl (lv_at hl 1 rfl) ?_
  refine va_get hx hb hts hinX4 hown hK hP 0 rfl rfl 12 (by decide) wd2 (fun _ h => h) rfl dX4_number_7 ?_
  refine lv_if_ne (tgt := 32) hx hb dX4_number_10 (by decide) (fun _ => ?_) (fun h => absurd h (by first | decide | omega | exact hz_nneg (by omega) | exact hz_nneg' (by omega)))
  refine lv_iconst (v := nI 1) hx hb dX4_number_32 (by decide) ?_
  refine lv_goto (tgt := 37) hx hb dX4_number_33 (by decide) ?_
  refine va_put hx hb hts hinX4 tyX4 tyX4_ok nmX4 hown hK hP hD hS 0 rfl rfl 12 (by decide) wd2 (fun _ h => h) rfl (tyX4_ok 12 (by decide)) rfl rfl (Nat.le_of_ble_eq_true rfl) dX4_number_37 (fun H locs hP hD hS => ?_)
  have hP : va_P D zcl [(h0, .inr (4, [.ref am, .ref ak, .ref aw, .int (kf), .ref af, .int (wp), .ref at_, .int (nI n), .int (nI (pz_k T n q)), .int (nI (pz_b T n q)), .int (nI (pz_e T n q)), .int (nI (pz_v T n q)), .int (nI 1), .ref ab, .ref as_, .ref ac])), (at_, .inl (cI, 120, .inl T))] H := hP
  have hD : va_D (hz_a [(h0, .inr (4, [.ref am, .ref ak, .ref aw, .int (kf), .ref af, .int (wp), .ref at_, .int (nI n), .int (nI (pz_k T n q)), .int (nI (pz_b T n q)), .int (nI (pz_e T n q)), .int (nI (pz_v T n q)), .int (nI 1), .ref ab, .ref as_, .ref ac])), (at_, .inl (cI, 120, .inl T))]) [(h0, .inr (4, [.ref am, .ref ak, .ref aw, .int (kf), .ref af, .int (wp), .ref at_, .int (nI n), .int (nI (pz_k T n q)), .int (nI (pz_b T n q)), .int (nI (pz_e T n q)), .int (nI (pz_v T n q)), .int (nI 1), .ref ab, .ref as_, .ref ac])), (at_, .inl (cI, 120, .inl T))] := hD
  refine lv_aload_n hx hb dX4_number_40 rfl (lv_at hl 1 rfl) ?_
  refine va_get hx hb hts hinX4 hown hK hP 0 rfl rfl 12 (by decide) wd2 (fun _ h => h) rfl dX4_number_41 ?_
  refine lv_if_ne (tgt := 51) hx hb dX4_number_44 (by decide) (fun _ => ?_) (fun h => absurd h (by first | decide | omega | exact hz_nneg (by omega) | exact hz_nneg' (by omega)))
  refine lv_iload_n hx hb dX4_number_51 rfl (lv_at hl 0 rfl) ?_
  refine hz_ei hx hb hr hlocks rfl ?_ hS (rfl) dX4_number_52
  exact hP
set_option maxHeartbeats 4000000 in
set_option maxRecDepth 100000 in
theorem c4_num_y (l : Launch) (D : va_G) (cI cJ : ClassId) (aN : Nat) (adK adV : Nat → Nat) (h0 am ak aw af at_ ab as_ ac : Nat) (kf wp : Int32) (T : Nat → Int32) (n : Nat) (q h : Nat) (mo : Int32) (hn : n ≤ 120) (hq : q ≤ n) (hmo : ∀ v : Nat, v < 10000 → ((nI 0 ≤ nI v ∧ nI v ≤ mo) ↔ v < h)) (hnb : pz_nb T n q h) : hz_MEz (hz_Q aN adK adV) l yX4_number wsX4_number { frames := 3, cells := 0, slots := 0, locals := 66 } [.ref h0, .int (nI 0), .int (mo)] D zcl [(cI, .int), (cJ, .long)] [(h0, .inr (4, [.ref am, .ref ak, .ref aw, .int (kf), .ref af, .int (wp), .ref at_, .int (nI n), .int (nI (pz_k T n q)), .int (nI (pz_b T n q)), .int (nI (pz_e T n q)), .int (nI (pz_v T n q)), .int (nI 0), .ref ab, .ref as_, .ref ac])), (at_, .inl (cI, 120, .inl T))] [(h0, .inr (4, [.ref am, .ref ak, .ref aw, .int (kf), .ref af, .int (wp), .ref at_, .int (nI n), .int (nI (pz_k T n (pz_e T n q))), .int (nI (pz_b T n (pz_e T n q))), .int (nI (pz_e T n (pz_e T n q))), .int (nI (pz_v T n (pz_e T n q))), .int (nI 0), .ref ab, .ref as_, .ref ac])), (at_, .inl (cI, 120, .inl T))] (some (.int (nI (pz_v T n q)))) := by
  refine hz_mez (cc := cX4_number) (maxL := 4) (ret := (some .int)) (by decide) rfl (Nat.le_of_ble_eq_true rfl) ?_
  intro p e s m below meth c hx hb hr hts hown hlocks hml hP hK hD hZ ls hl
  have hS : va_S (hz_a [(h0, .inr (4, [.ref am, .ref ak, .ref aw, .int (kf), .ref af, .int (wp), .ref at_, .int (nI n), .int (nI (pz_k T n q)), .int (nI (pz_b T n q)), .int (nI (pz_e T n q)), .int (nI (pz_v T n q)), .int (nI 0), .ref ab, .ref as_, .ref ac])), (at_, .inl (cI, 120, .inl T))]) s.heap s.heap [] := va_S.rf
  have hown : s.vm.findClass RX4 = some m.cls := hown
  have hl : lv_has ls 4 [(0, .ref h0), (1, .int (nI 0)), (2, .int (mo))] := hl
  have hinX4 : ∀ w ∈ u_ws RX4 TX4 16, w ∈ wsX4_number := fun w h => List.mem_cons_of_mem _ (List.mem_append_right _ (h))
  have wd1 := hts (.fieldLink RX4 165 "HurtSpeechModel" "value" "I") (List.mem_of_getElem? (i := 1) rfl)
  have wd2 := hts (.fieldLink RX4 174 "HurtSpeechModel" "bad" "Z") (List.mem_of_getElem? (i := 2) rfl)
  have wd3 := hts (.fieldLink RX4 168 "HurtSpeechModel" "token" "I") (List.mem_of_getElem? (i := 3) rfl)
  have hk24 := pz_k_r T n q
  have hv4 := pz_v_r T n q
  have hb1 := pz_b_ge T n q
  have hb2 := pz_e_ge T n q
  have hb3 := pz_e_le (T := T) hq
  have hb4 := pz_t_le T n q
  refine lv_aload_n hx hb dX4_number_0 rfl (lv_at hl 0 rfl) ?_
  refine va_get hx hb hts hinX4 hown hK hP 0 rfl rfl 11 (by decide) wd1 (fun _ h => h) rfl dX4_number_1 ?_
  refine lv_istore_n (lv' := [(3, .int (nI (pz_v T n q))), (0, .ref h0), (1, .int (nI 0)), (2, .int (mo))]) hx hb dX4_number_4 rfl hl (by decide) rfl (fun ls hl => ?_)
  refine lv_aload_n hx hb dX4_number_5 rfl (lv_at hl 1 rfl) ?_
  refine lv_aload_n hx hb dX4_number_6 rfl (lv_at hl 1 rfl) ?_
  refine va_get hx hb hts hinX4 hown hK hP 0 rfl rfl 12 (by decide) wd2 (fun _ h => h) rfl dX4_number_7 ?_
  refine lv_if_ne (tgt := 32) hx hb dX4_number_10 (by decide) (fun h => absurd h (by first | decide | omega | exact hz_nneg (by omega) | exact hz_nneg' (by omega))) (fun _ => ?_)
  refine lv_aload_n hx hb dX4_number_13 rfl (lv_at hl 1 rfl) ?_
  refine va_get hx hb hts hinX4 hown hK hP 0 rfl rfl 8 (by decide) wd3 (fun _ h => h) rfl dX4_number_14 ?_
  refine lv_bipush (v := nI 20) hx hb dX4_number_17 (by decide) ?_
  refine hz_icmp_ne (tgt := 32) (by omega) (by omega) hx hb dX4_number_19 (by decide) (fun c19 => ?_) (fun c19 => ?_)
  · exact absurd hnb.1 c19
  · refine lv_iload_n hx hb dX4_number_22 rfl (lv_at hl 0 rfl) ?_
    refine lv_i2l (v := (nI (pz_v T n q)).toInt64) hx hb dX4_number_23 rfl ?_
    refine lv_iload_n hx hb dX4_number_24 rfl (lv_at hl 2 rfl) ?_
    refine lv_iload_n hx hb dX4_number_25 rfl (lv_at hl 3 rfl) ?_
    refine hz_cs (As := [.long ((nI (pz_v T n q)).toInt64), .int (nI 0), .int (mo)]) (rest := [.ref h0]) ⟨hx, hb, hml, hown, hts⟩ (c4_in32 l D cI cJ (x := nI (pz_v T n q)) (a := nI 0) (b := mo) ) (va_cwS 3 hts gX4_number_X4_in rfl rfl rfl (by decide +kernel) ⟨Nat.le_of_ble_eq_true rfl, Nat.le_of_ble_eq_true rfl⟩) hK hP [] rfl [0, 1] rfl rfl hl.1 rfl (Nat.le_of_ble_eq_true rfl) dX4_number_26 ⟨Nat.zero_le _, Nat.zero_le _⟩ ?_
    refine hz_ifb_ne (tgt := 36) hx hb dX4_number_29 (by decide) (fun c29 => ?_) (fun c29 => ?_)
    · refine lv_iconst (v := nI 0) hx hb dX4_number_36 (by decide) ?_
      refine va_put hx hb hts hinX4 tyX4 tyX4_ok nmX4 hown hK hP hD hS 0 rfl rfl 12 (by decide) wd2 (fun _ h => h) rfl (tyX4_ok 12 (by decide)) rfl rfl (Nat.le_of_ble_eq_true rfl) dX4_number_37 (fun H locs hP hD hS => ?_)
      have hP : va_P D zcl [(h0, .inr (4, [.ref am, .ref ak, .ref aw, .int (kf), .ref af, .int (wp), .ref at_, .int (nI n), .int (nI (pz_k T n q)), .int (nI (pz_b T n q)), .int (nI (pz_e T n q)), .int (nI (pz_v T n q)), .int (nI 0), .ref ab, .ref as_, .ref ac])), (at_, .inl (cI, 120, .inl T))] H := hP
      have hD : va_D (hz_a [(h0, .inr (4, [.ref am, .ref ak, .ref aw, .int (kf), .ref af, .int (wp), .ref at_, .int (nI n), .int (nI (pz_k T n q)), .int (nI (pz_b T n q)), .int (nI (pz_e T n q)), .int (nI (pz_v T n q)), .int (nI 0), .ref ab, .ref as_, .ref ac])), (at_, .inl (cI, 120, .inl T))]) [(h0, .inr (4, [.ref am, .ref ak, .ref aw, .int (kf), .ref af, .int (wp), .ref at_, .int (nI n), .int (nI (pz_k T n q)), .int (nI (pz_b T n q)), .int (nI (pz_e T n q)), .int (nI (pz_v T n q)), .int (nI 0), .ref ab, .ref as_, .ref ac])), (at_, .inl (cI, 120, .inl T))] := hD
      refine lv_aload_n hx hb dX4_number_40 rfl (lv_at hl 1 rfl) ?_
      refine va_get hx hb hts hinX4 hown hK hP 0 rfl rfl 12 (by decide) wd2 (fun _ h => h) rfl dX4_number_41 ?_
      refine lv_if_ne (tgt := 51) hx hb dX4_number_44 (by decide) (fun h => absurd h (by first | decide | omega | exact hz_nneg (by omega) | exact hz_nneg' (by omega))) (fun _ => ?_)
      refine lv_aload_n hx hb dX4_number_47 rfl (lv_at hl 1 rfl) ?_
      refine hz_cez (As := []) (rest := []) ⟨hx, hb, hml, hown, hts⟩ (hz_Q_ok aN adK adV) hZ (c4_reads l D cI cJ (aN := aN) (adK := adK) (adV := adV) (h0 := h0) (am := am) (ak := ak) (aw := aw) (af := af) (at_ := at_) (ab := ab) (as_ := as_) (ac := ac) (kf := kf) (wp := wp) (bd := nI 0) (tk := nI (pz_k T n q)) (bg := nI (pz_b T n q)) (vl := nI (pz_v T n q)) (T := T) (n := n) (q := pz_e T n q) (hn := by omega) (hq := by omega)) (cwV 0 hts gX4_number_X4_reads rfl rfl rfl (by decide +kernel) ⟨Nat.le_of_ble_eq_true rfl, Nat.le_of_ble_eq_true rfl⟩) hK hP hD hS [0, 1] rfl (by decide) (hz_ha [h0, at_] rfl rfl) (w' := [(h0, .inr (4, [.ref am, .ref ak, .ref aw, .int (kf), .ref af, .int (wp), .ref at_, .int (nI n), .int (nI (pz_k T n (pz_e T n q))), .int (nI (pz_b T n (pz_e T n q))), .int (nI (pz_e T n (pz_e T n q))), .int (nI (pz_v T n (pz_e T n q))), .int (nI 0), .ref ab, .ref as_, .ref ac])), (at_, .inl (cI, 120, .inl T))]) (hz_pt_eq 2 [] [] rfl rfl rfl rfl rfl rfl rfl) [0, 1] rfl 0 rfl rfl rfl rfl hl.1 rfl (Nat.le_of_ble_eq_true rfl) dX4_number_48 ⟨Nat.zero_le _, Nat.zero_le _⟩ (fun H locs hP hD hS => ?_)
      refine W.eq (g2 := F0 m 51 ls []) rfl ?_
      refine lv_iload_n hx hb dX4_number_51 rfl (lv_at hl 0 rfl) ?_
      refine hz_ei hx hb hr hlocks rfl ?_ hS (rfl) dX4_number_52
      exact hP
    · exact absurd ((hmo _ hv4).mpr hnb.2) c29
set_option maxHeartbeats 4000000 in
set_option maxRecDepth 100000 in
theorem c4_num_n (l : Launch) (D : va_G) (cI cJ : ClassId) (aN : Nat) (adK adV : Nat → Nat) (h0 am ak aw af at_ ab as_ ac : Nat) (kf wp : Int32) (T : Nat → Int32) (n : Nat) (q h : Nat) (mo : Int32) (hn : n ≤ 120) (hq : q ≤ n) (hmo : ∀ v : Nat, v < 10000 → ((nI 0 ≤ nI v ∧ nI v ≤ mo) ↔ v < h)) (hnb : ¬ pz_nb T n q h) : hz_MEz (hz_Q aN adK adV) l yX4_number wsX4_number { frames := 3, cells := 0, slots := 0, locals := 66 } [.ref h0, .int (nI 0), .int (mo)] D zcl [(cI, .int), (cJ, .long)] [(h0, .inr (4, [.ref am, .ref ak, .ref aw, .int (kf), .ref af, .int (wp), .ref at_, .int (nI n), .int (nI (pz_k T n q)), .int (nI (pz_b T n q)), .int (nI (pz_e T n q)), .int (nI (pz_v T n q)), .int (nI 0), .ref ab, .ref as_, .ref ac])), (at_, .inl (cI, 120, .inl T))] [(h0, .inr (4, [.ref am, .ref ak, .ref aw, .int (kf), .ref af, .int (wp), .ref at_, .int (nI n), .int (nI (pz_k T n q)), .int (nI (pz_b T n q)), .int (nI (pz_e T n q)), .int (nI (pz_v T n q)), .int (nI 1), .ref ab, .ref as_, .ref ac])), (at_, .inl (cI, 120, .inl T))] (some (.int (nI (pz_v T n q)))) := by
  refine hz_mez (cc := cX4_number) (maxL := 4) (ret := (some .int)) (by decide) rfl (Nat.le_of_ble_eq_true rfl) ?_
  intro p e s m below meth c hx hb hr hts hown hlocks hml hP hK hD hZ ls hl
  have hS : va_S (hz_a [(h0, .inr (4, [.ref am, .ref ak, .ref aw, .int (kf), .ref af, .int (wp), .ref at_, .int (nI n), .int (nI (pz_k T n q)), .int (nI (pz_b T n q)), .int (nI (pz_e T n q)), .int (nI (pz_v T n q)), .int (nI 0), .ref ab, .ref as_, .ref ac])), (at_, .inl (cI, 120, .inl T))]) s.heap s.heap [] := va_S.rf
  have hown : s.vm.findClass RX4 = some m.cls := hown
  have hl : lv_has ls 4 [(0, .ref h0), (1, .int (nI 0)), (2, .int (mo))] := hl
  have hinX4 : ∀ w ∈ u_ws RX4 TX4 16, w ∈ wsX4_number := fun w h => List.mem_cons_of_mem _ (List.mem_append_right _ (h))
  have wd1 := hts (.fieldLink RX4 165 "HurtSpeechModel" "value" "I") (List.mem_of_getElem? (i := 1) rfl)
  have wd2 := hts (.fieldLink RX4 174 "HurtSpeechModel" "bad" "Z") (List.mem_of_getElem? (i := 2) rfl)
  have wd3 := hts (.fieldLink RX4 168 "HurtSpeechModel" "token" "I") (List.mem_of_getElem? (i := 3) rfl)
  have hk24 := pz_k_r T n q
  have hv4 := pz_v_r T n q
  have hb1 := pz_b_ge T n q
  have hb2 := pz_e_ge T n q
  have hb3 := pz_e_le (T := T) hq
  have hb4 := pz_t_le T n q
  refine lv_aload_n hx hb dX4_number_0 rfl (lv_at hl 0 rfl) ?_
  refine va_get hx hb hts hinX4 hown hK hP 0 rfl rfl 11 (by decide) wd1 (fun _ h => h) rfl dX4_number_1 ?_
  refine lv_istore_n (lv' := [(3, .int (nI (pz_v T n q))), (0, .ref h0), (1, .int (nI 0)), (2, .int (mo))]) hx hb dX4_number_4 rfl hl (by decide) rfl (fun ls hl => ?_)
  refine lv_aload_n hx hb dX4_number_5 rfl (lv_at hl 1 rfl) ?_
  refine lv_aload_n hx hb dX4_number_6 rfl (lv_at hl 1 rfl) ?_
  refine va_get hx hb hts hinX4 hown hK hP 0 rfl rfl 12 (by decide) wd2 (fun _ h => h) rfl dX4_number_7 ?_
  refine lv_if_ne (tgt := 32) hx hb dX4_number_10 (by decide) (fun h => absurd h (by first | decide | omega | exact hz_nneg (by omega) | exact hz_nneg' (by omega))) (fun _ => ?_)
  refine lv_aload_n hx hb dX4_number_13 rfl (lv_at hl 1 rfl) ?_
  refine va_get hx hb hts hinX4 hown hK hP 0 rfl rfl 8 (by decide) wd3 (fun _ h => h) rfl dX4_number_14 ?_
  refine lv_bipush (v := nI 20) hx hb dX4_number_17 (by decide) ?_
  refine hz_icmp_ne (tgt := 32) (by omega) (by omega) hx hb dX4_number_19 (by decide) (fun c19 => ?_) (fun c19 => ?_)
  · refine lv_iconst (v := nI 1) hx hb dX4_number_32 (by decide) ?_
    refine lv_goto (tgt := 37) hx hb dX4_number_33 (by decide) ?_
    refine va_put hx hb hts hinX4 tyX4 tyX4_ok nmX4 hown hK hP hD hS 0 rfl rfl 12 (by decide) wd2 (fun _ h => h) rfl (tyX4_ok 12 (by decide)) rfl rfl (Nat.le_of_ble_eq_true rfl) dX4_number_37 (fun H locs hP hD hS => ?_)
    have hP : va_P D zcl [(h0, .inr (4, [.ref am, .ref ak, .ref aw, .int (kf), .ref af, .int (wp), .ref at_, .int (nI n), .int (nI (pz_k T n q)), .int (nI (pz_b T n q)), .int (nI (pz_e T n q)), .int (nI (pz_v T n q)), .int (nI 1), .ref ab, .ref as_, .ref ac])), (at_, .inl (cI, 120, .inl T))] H := hP
    have hD : va_D (hz_a [(h0, .inr (4, [.ref am, .ref ak, .ref aw, .int (kf), .ref af, .int (wp), .ref at_, .int (nI n), .int (nI (pz_k T n q)), .int (nI (pz_b T n q)), .int (nI (pz_e T n q)), .int (nI (pz_v T n q)), .int (nI 0), .ref ab, .ref as_, .ref ac])), (at_, .inl (cI, 120, .inl T))]) [(h0, .inr (4, [.ref am, .ref ak, .ref aw, .int (kf), .ref af, .int (wp), .ref at_, .int (nI n), .int (nI (pz_k T n q)), .int (nI (pz_b T n q)), .int (nI (pz_e T n q)), .int (nI (pz_v T n q)), .int (nI 1), .ref ab, .ref as_, .ref ac])), (at_, .inl (cI, 120, .inl T))] := hD
    refine lv_aload_n hx hb dX4_number_40 rfl (lv_at hl 1 rfl) ?_
    refine va_get hx hb hts hinX4 hown hK hP 0 rfl rfl 12 (by decide) wd2 (fun _ h => h) rfl dX4_number_41 ?_
    refine lv_if_ne (tgt := 51) hx hb dX4_number_44 (by decide) (fun _ => ?_) (fun h => absurd h (by first | decide | omega | exact hz_nneg (by omega) | exact hz_nneg' (by omega)))
    refine lv_iload_n hx hb dX4_number_51 rfl (lv_at hl 0 rfl) ?_
    refine hz_ei hx hb hr hlocks rfl ?_ hS (rfl) dX4_number_52
    exact hP
  · refine lv_iload_n hx hb dX4_number_22 rfl (lv_at hl 0 rfl) ?_
    refine lv_i2l (v := (nI (pz_v T n q)).toInt64) hx hb dX4_number_23 rfl ?_
    refine lv_iload_n hx hb dX4_number_24 rfl (lv_at hl 2 rfl) ?_
    refine lv_iload_n hx hb dX4_number_25 rfl (lv_at hl 3 rfl) ?_
    refine hz_cs (As := [.long ((nI (pz_v T n q)).toInt64), .int (nI 0), .int (mo)]) (rest := [.ref h0]) ⟨hx, hb, hml, hown, hts⟩ (c4_in32 l D cI cJ (x := nI (pz_v T n q)) (a := nI 0) (b := mo) ) (va_cwS 3 hts gX4_number_X4_in rfl rfl rfl (by decide +kernel) ⟨Nat.le_of_ble_eq_true rfl, Nat.le_of_ble_eq_true rfl⟩) hK hP [] rfl [0, 1] rfl rfl hl.1 rfl (Nat.le_of_ble_eq_true rfl) dX4_number_26 ⟨Nat.zero_le _, Nat.zero_le _⟩ ?_
    refine hz_ifb_ne (tgt := 36) hx hb dX4_number_29 (by decide) (fun c29 => ?_) (fun c29 => ?_)
    · exact absurd ⟨c19, (hmo _ hv4).mp c29⟩ hnb
    · refine lv_iconst (v := nI 1) hx hb dX4_number_32 (by decide) ?_
      refine lv_goto (tgt := 37) hx hb dX4_number_33 (by decide) ?_
      refine va_put hx hb hts hinX4 tyX4 tyX4_ok nmX4 hown hK hP hD hS 0 rfl rfl 12 (by decide) wd2 (fun _ h => h) rfl (tyX4_ok 12 (by decide)) rfl rfl (Nat.le_of_ble_eq_true rfl) dX4_number_37 (fun H locs hP hD hS => ?_)
      have hP : va_P D zcl [(h0, .inr (4, [.ref am, .ref ak, .ref aw, .int (kf), .ref af, .int (wp), .ref at_, .int (nI n), .int (nI (pz_k T n q)), .int (nI (pz_b T n q)), .int (nI (pz_e T n q)), .int (nI (pz_v T n q)), .int (nI 1), .ref ab, .ref as_, .ref ac])), (at_, .inl (cI, 120, .inl T))] H := hP
      have hD : va_D (hz_a [(h0, .inr (4, [.ref am, .ref ak, .ref aw, .int (kf), .ref af, .int (wp), .ref at_, .int (nI n), .int (nI (pz_k T n q)), .int (nI (pz_b T n q)), .int (nI (pz_e T n q)), .int (nI (pz_v T n q)), .int (nI 0), .ref ab, .ref as_, .ref ac])), (at_, .inl (cI, 120, .inl T))]) [(h0, .inr (4, [.ref am, .ref ak, .ref aw, .int (kf), .ref af, .int (wp), .ref at_, .int (nI n), .int (nI (pz_k T n q)), .int (nI (pz_b T n q)), .int (nI (pz_e T n q)), .int (nI (pz_v T n q)), .int (nI 1), .ref ab, .ref as_, .ref ac])), (at_, .inl (cI, 120, .inl T))] := hD
      refine lv_aload_n hx hb dX4_number_40 rfl (lv_at hl 1 rfl) ?_
      refine va_get hx hb hts hinX4 hown hK hP 0 rfl rfl 12 (by decide) wd2 (fun _ h => h) rfl dX4_number_41 ?_
      refine lv_if_ne (tgt := 51) hx hb dX4_number_44 (by decide) (fun _ => ?_) (fun h => absurd h (by first | decide | omega | exact hz_nneg (by omega) | exact hz_nneg' (by omega)))
      refine lv_iload_n hx hb dX4_number_51 rfl (lv_at hl 0 rfl) ?_
      refine hz_ei hx hb hr hlocks rfl ?_ hS (rfl) dX4_number_52
      exact hP
set_option maxHeartbeats 4000000 in
set_option maxRecDepth 100000 in
theorem c4_per_b (l : Launch) (D : va_G) (cI cJ : ClassId) (aN : Nat) (adK adV : Nat → Nat) (h0 am ak aw af at_ ab as_ ac : Nat) (kf wp : Int32) (T : Nat → Int32) (n : Nat) (q w : Nat) (mo so : Int32) (hn : n ≤ 120) (hq : q ≤ n) (hw : w < 2 ^ 31) : hz_MEz (hz_Q aN adK adV) l yX4_perhaps wsX4_perhaps { frames := 4, cells := 0, slots := 0, locals := 89 } [.ref h0, .int (nI w), .int (nI 0), .int (mo), .int (so)] D zcl [(cI, .int), (cJ, .long)] [(h0, .inr (4, [.ref am, .ref ak, .ref aw, .int (kf), .ref af, .int (wp), .ref at_, .int (nI n), .int (nI (pz_k T n q)), .int (nI (pz_b T n q)), .int (nI (pz_e T n q)), .int (nI (pz_v T n q)), .int (nI 1), .ref ab, .ref as_, .ref ac])), (at_, .inl (cI, 120, .inl T))] [(h0, .inr (4, [.ref am, .ref ak, .ref aw, .int (kf), .ref af, .int (wp), .ref at_, .int (nI n), .int (nI (pz_k T n q)), .int (nI (pz_b T n q)), .int (nI (pz_e T n q)), .int (nI (pz_v T n q)), .int (nI 1), .ref ab, .ref as_, .ref ac])), (at_, .inl (cI, 120, .inl T))] (some (.int (so))) := by
  refine hz_mez (cc := cX4_perhaps) (maxL := 5) (ret := (some .int)) (by decide) rfl (Nat.le_of_ble_eq_true rfl) ?_
  intro p e s m below meth c hx hb hr hts hown hlocks hml hP hK hD hZ ls hl
  have hS : va_S (hz_a [(h0, .inr (4, [.ref am, .ref ak, .ref aw, .int (kf), .ref af, .int (wp), .ref at_, .int (nI n), .int (nI (pz_k T n q)), .int (nI (pz_b T n q)), .int (nI (pz_e T n q)), .int (nI (pz_v T n q)), .int (nI 1), .ref ab, .ref as_, .ref ac])), (at_, .inl (cI, 120, .inl T))]) s.heap s.heap [] := va_S.rf
  have hown : s.vm.findClass RX4 = some m.cls := hown
  have hl : lv_has ls 5 [(0, .ref h0), (1, .int (nI w)), (2, .int (nI 0)), (3, .int (mo)), (4, .int (so))] := hl
  have hk24 := pz_k_r T n q
  have hv4 := pz_v_r T n q
  have hb1 := pz_b_ge T n q
  have hb2 := pz_e_ge T n q
  have hb3 := pz_e_le (T := T) hq
  have hb4 := pz_t_le T n q
  refine lv_aload_n hx hb dX4_perhaps_0 rfl (lv_at hl 0 rfl) ?_
  refine lv_iload_n hx hb dX4_perhaps_1 rfl (lv_at hl 1 rfl) ?_
  refine hz_cez (As := [.int (nI w)]) (rest := []) ⟨hx, hb, hml, hown, hts⟩ (hz_Q_ok aN adK adV) hZ (c4_pass_b l D cI cJ (aN := aN) (adK := adK) (adV := adV) (h0 := h0) (am := am) (ak := ak) (aw := aw) (af := af) (at_ := at_) (ab := ab) (as_ := as_) (ac := ac) (kf := kf) (wp := wp) (T := T) (n := n) (q := q) (w := w) (hn := by omega) (hq := by omega) (hw := by omega)) (cwV 1 hts gX4_perhaps_X4_passes rfl rfl rfl (by decide +kernel) ⟨Nat.le_of_ble_eq_true rfl, Nat.le_of_ble_eq_true rfl⟩) hK hP hD hS [0, 1] rfl (by decide) (hz_ha [h0, at_] rfl rfl) (w' := [(h0, .inr (4, [.ref am, .ref ak, .ref aw, .int (kf), .ref af, .int (wp), .ref at_, .int (nI n), .int (nI (pz_k T n q)), .int (nI (pz_b T n q)), .int (nI (pz_e T n q)), .int (nI (pz_v T n q)), .int (nI 1), .ref ab, .ref as_, .ref ac])), (at_, .inl (cI, 120, .inl T))]) (hz_pt_eq 2 [] [] rfl rfl rfl rfl rfl rfl rfl) [0, 1] rfl 0 rfl rfl rfl rfl hl.1 rfl (Nat.le_of_ble_eq_true rfl) dX4_perhaps_2 ⟨Nat.zero_le _, Nat.zero_le _⟩ (fun H locs hP hD hS => ?_)
  refine W.eq (g2 := F0 m 5 ls [.int (nI 0)]) rfl ?_
  refine lv_if_eq (tgt := 17) hx hb dX4_perhaps_5 (by decide) (fun _ => ?_) (fun h => absurd h (by first | decide | omega | exact hz_nneg (by omega) | exact hz_nneg' (by omega)))
  refine lv_iload hx hb dX4_perhaps_17 (lv_at hl 4 rfl) ?_
  refine hz_ei hx hb hr hlocks rfl ?_ hS (rfl) dX4_perhaps_19
  exact hP
set_option maxHeartbeats 4000000 in
set_option maxRecDepth 100000 in
theorem c4_per_o (l : Launch) (D : va_G) (cI cJ : ClassId) (aN : Nat) (adK adV : Nat → Nat) (h0 am ak aw af at_ ab as_ ac : Nat) (kf wp : Int32) (T : Nat → Int32) (n : Nat) (q w : Nat) (mo so : Int32) (hn : n ≤ 120) (hq : q ≤ n) (hw : w < 2 ^ 31) (hk : ¬ pz_k T n q = w) : hz_MEz (hz_Q aN adK adV) l yX4_perhaps wsX4_perhaps { frames := 4, cells := 0, slots := 0, locals := 89 } [.ref h0, .int (nI w), .int (nI 0), .int (mo), .int (so)] D zcl [(cI, .int), (cJ, .long)] [(h0, .inr (4, [.ref am, .ref ak, .ref aw, .int (kf), .ref af, .int (wp), .ref at_, .int (nI n), .int (nI (pz_k T n q)), .int (nI (pz_b T n q)), .int (nI (pz_e T n q)), .int (nI (pz_v T n q)), .int (nI 0), .ref ab, .ref as_, .ref ac])), (at_, .inl (cI, 120, .inl T))] [(h0, .inr (4, [.ref am, .ref ak, .ref aw, .int (kf), .ref af, .int (wp), .ref at_, .int (nI n), .int (nI (pz_k T n q)), .int (nI (pz_b T n q)), .int (nI (pz_e T n q)), .int (nI (pz_v T n q)), .int (nI 0), .ref ab, .ref as_, .ref ac])), (at_, .inl (cI, 120, .inl T))] (some (.int (so))) := by
  refine hz_mez (cc := cX4_perhaps) (maxL := 5) (ret := (some .int)) (by decide) rfl (Nat.le_of_ble_eq_true rfl) ?_
  intro p e s m below meth c hx hb hr hts hown hlocks hml hP hK hD hZ ls hl
  have hS : va_S (hz_a [(h0, .inr (4, [.ref am, .ref ak, .ref aw, .int (kf), .ref af, .int (wp), .ref at_, .int (nI n), .int (nI (pz_k T n q)), .int (nI (pz_b T n q)), .int (nI (pz_e T n q)), .int (nI (pz_v T n q)), .int (nI 0), .ref ab, .ref as_, .ref ac])), (at_, .inl (cI, 120, .inl T))]) s.heap s.heap [] := va_S.rf
  have hown : s.vm.findClass RX4 = some m.cls := hown
  have hl : lv_has ls 5 [(0, .ref h0), (1, .int (nI w)), (2, .int (nI 0)), (3, .int (mo)), (4, .int (so))] := hl
  have hk24 := pz_k_r T n q
  have hv4 := pz_v_r T n q
  have hb1 := pz_b_ge T n q
  have hb2 := pz_e_ge T n q
  have hb3 := pz_e_le (T := T) hq
  have hb4 := pz_t_le T n q
  refine lv_aload_n hx hb dX4_perhaps_0 rfl (lv_at hl 0 rfl) ?_
  refine lv_iload_n hx hb dX4_perhaps_1 rfl (lv_at hl 1 rfl) ?_
  refine hz_cez (As := [.int (nI w)]) (rest := []) ⟨hx, hb, hml, hown, hts⟩ (hz_Q_ok aN adK adV) hZ (c4_pass_n l D cI cJ (aN := aN) (adK := adK) (adV := adV) (h0 := h0) (am := am) (ak := ak) (aw := aw) (af := af) (at_ := at_) (ab := ab) (as_ := as_) (ac := ac) (kf := kf) (wp := wp) (T := T) (n := n) (q := q) (w := w) (hn := by omega) (hq := by omega) (hw := by omega) (hk := by first | assumption | rfl)) (cwV 1 hts gX4_perhaps_X4_passes rfl rfl rfl (by decide +kernel) ⟨Nat.le_of_ble_eq_true rfl, Nat.le_of_ble_eq_true rfl⟩) hK hP hD hS [0, 1] rfl (by decide) (hz_ha [h0, at_] rfl rfl) (w' := [(h0, .inr (4, [.ref am, .ref ak, .ref aw, .int (kf), .ref af, .int (wp), .ref at_, .int (nI n), .int (nI (pz_k T n q)), .int (nI (pz_b T n q)), .int (nI (pz_e T n q)), .int (nI (pz_v T n q)), .int (nI 0), .ref ab, .ref as_, .ref ac])), (at_, .inl (cI, 120, .inl T))]) (hz_pt_eq 2 [] [] rfl rfl rfl rfl rfl rfl rfl) [0, 1] rfl 0 rfl rfl rfl rfl hl.1 rfl (Nat.le_of_ble_eq_true rfl) dX4_perhaps_2 ⟨Nat.zero_le _, Nat.zero_le _⟩ (fun H locs hP hD hS => ?_)
  refine W.eq (g2 := F0 m 5 ls [.int (nI 0)]) rfl ?_
  refine lv_if_eq (tgt := 17) hx hb dX4_perhaps_5 (by decide) (fun _ => ?_) (fun h => absurd h (by first | decide | omega | exact hz_nneg (by omega) | exact hz_nneg' (by omega)))
  refine lv_iload hx hb dX4_perhaps_17 (lv_at hl 4 rfl) ?_
  refine hz_ei hx hb hr hlocks rfl ?_ hS (rfl) dX4_perhaps_19
  exact hP
set_option maxHeartbeats 4000000 in
set_option maxRecDepth 100000 in
theorem c4_per_y (l : Launch) (D : va_G) (cI cJ : ClassId) (aN : Nat) (adK adV : Nat → Nat) (h0 am ak aw af at_ ab as_ ac : Nat) (kf wp : Int32) (T : Nat → Int32) (n : Nat) (q w h : Nat) (mo so : Int32) (hn : n ≤ 120) (hq : q ≤ n) (hw : w < 2 ^ 31) (hmo : ∀ v : Nat, v < 10000 → ((nI 0 ≤ nI v ∧ nI v ≤ mo) ↔ v < h)) (hk : pz_k T n q = w) (hnb : pz_nb T n (pz_e T n q) h) : hz_MEz (hz_Q aN adK adV) l yX4_perhaps wsX4_perhaps { frames := 4, cells := 0, slots := 0, locals := 89 } [.ref h0, .int (nI w), .int (nI 0), .int (mo), .int (so)] D zcl [(cI, .int), (cJ, .long)] [(h0, .inr (4, [.ref am, .ref ak, .ref aw, .int (kf), .ref af, .int (wp), .ref at_, .int (nI n), .int (nI (pz_k T n q)), .int (nI (pz_b T n q)), .int (nI (pz_e T n q)), .int (nI (pz_v T n q)), .int (nI 0), .ref ab, .ref as_, .ref ac])), (at_, .inl (cI, 120, .inl T))] [(h0, .inr (4, [.ref am, .ref ak, .ref aw, .int (kf), .ref af, .int (wp), .ref at_, .int (nI n), .int (nI (pz_k T n (pz_e T n (pz_e T n q)))), .int (nI (pz_b T n (pz_e T n (pz_e T n q)))), .int (nI (pz_e T n (pz_e T n (pz_e T n q)))), .int (nI (pz_v T n (pz_e T n (pz_e T n q)))), .int (nI 0), .ref ab, .ref as_, .ref ac])), (at_, .inl (cI, 120, .inl T))] (some (.int (nI (pz_v T n (pz_e T n q))))) := by
  refine hz_mez (cc := cX4_perhaps) (maxL := 5) (ret := (some .int)) (by decide) rfl (Nat.le_of_ble_eq_true rfl) ?_
  intro p e s m below meth c hx hb hr hts hown hlocks hml hP hK hD hZ ls hl
  have hS : va_S (hz_a [(h0, .inr (4, [.ref am, .ref ak, .ref aw, .int (kf), .ref af, .int (wp), .ref at_, .int (nI n), .int (nI (pz_k T n q)), .int (nI (pz_b T n q)), .int (nI (pz_e T n q)), .int (nI (pz_v T n q)), .int (nI 0), .ref ab, .ref as_, .ref ac])), (at_, .inl (cI, 120, .inl T))]) s.heap s.heap [] := va_S.rf
  have hown : s.vm.findClass RX4 = some m.cls := hown
  have hl : lv_has ls 5 [(0, .ref h0), (1, .int (nI w)), (2, .int (nI 0)), (3, .int (mo)), (4, .int (so))] := hl
  have hk24 := pz_k_r T n q
  have hv4 := pz_v_r T n q
  have hb1 := pz_b_ge T n q
  have hb2 := pz_e_ge T n q
  have hb3 := pz_e_le (T := T) hq
  have hb4 := pz_t_le T n q
  refine lv_aload_n hx hb dX4_perhaps_0 rfl (lv_at hl 0 rfl) ?_
  refine lv_iload_n hx hb dX4_perhaps_1 rfl (lv_at hl 1 rfl) ?_
  refine hz_cez (As := [.int (nI w)]) (rest := []) ⟨hx, hb, hml, hown, hts⟩ (hz_Q_ok aN adK adV) hZ (c4_pass_y l D cI cJ (aN := aN) (adK := adK) (adV := adV) (h0 := h0) (am := am) (ak := ak) (aw := aw) (af := af) (at_ := at_) (ab := ab) (as_ := as_) (ac := ac) (kf := kf) (wp := wp) (T := T) (n := n) (q := q) (w := w) (hn := by omega) (hq := by omega) (hw := by omega) (hk := by first | assumption | rfl)) (cwV 1 hts gX4_perhaps_X4_passes rfl rfl rfl (by decide +kernel) ⟨Nat.le_of_ble_eq_true rfl, Nat.le_of_ble_eq_true rfl⟩) hK hP hD hS [0, 1] rfl (by decide) (hz_ha [h0, at_] rfl rfl) (w' := [(h0, .inr (4, [.ref am, .ref ak, .ref aw, .int (kf), .ref af, .int (wp), .ref at_, .int (nI n), .int (nI (pz_k T n (pz_e T n q))), .int (nI (pz_b T n (pz_e T n q))), .int (nI (pz_e T n (pz_e T n q))), .int (nI (pz_v T n (pz_e T n q))), .int (nI 0), .ref ab, .ref as_, .ref ac])), (at_, .inl (cI, 120, .inl T))]) (hz_pt_eq 2 [] [] rfl rfl rfl rfl rfl rfl rfl) [0, 1] rfl 0 rfl rfl rfl rfl hl.1 rfl (Nat.le_of_ble_eq_true rfl) dX4_perhaps_2 ⟨Nat.zero_le _, Nat.zero_le _⟩ (fun H locs hP hD hS => ?_)
  refine W.eq (g2 := F0 m 5 ls [.int (nI 1)]) rfl ?_
  refine lv_if_eq (tgt := 17) hx hb dX4_perhaps_5 (by decide) (fun h => absurd h (by first | decide | omega | exact hz_nneg (by omega) | exact hz_nneg' (by omega))) (fun _ => ?_)
  refine lv_aload_n hx hb dX4_perhaps_8 rfl (lv_at hl 0 rfl) ?_
  refine lv_iload_n hx hb dX4_perhaps_9 rfl (lv_at hl 2 rfl) ?_
  refine lv_iload_n hx hb dX4_perhaps_10 rfl (lv_at hl 3 rfl) ?_
  refine hz_cez (As := [.int (nI 0), .int (mo)]) (rest := []) ⟨hx, hb, hml, hown, hts⟩ (hz_Q_ok aN adK adV) hZ (c4_num_y l D cI cJ (aN := aN) (adK := adK) (adV := adV) (h0 := h0) (am := am) (ak := ak) (aw := aw) (af := af) (at_ := at_) (ab := ab) (as_ := as_) (ac := ac) (kf := kf) (wp := wp) (T := T) (n := n) (q := pz_e T n q) (h := h) (mo := mo) (hn := by omega) (hq := by omega) (hmo := by first | assumption | rfl) (hnb := by first | assumption | rfl)) (cwV 2 hts gX4_perhaps_X4_number rfl rfl rfl (by decide +kernel) ⟨Nat.le_of_ble_eq_true rfl, Nat.le_of_ble_eq_true rfl⟩) hK hP hD hS [0, 1] rfl (by decide) (hz_ha [h0, at_] rfl rfl) (w' := [(h0, .inr (4, [.ref am, .ref ak, .ref aw, .int (kf), .ref af, .int (wp), .ref at_, .int (nI n), .int (nI (pz_k T n (pz_e T n (pz_e T n q)))), .int (nI (pz_b T n (pz_e T n (pz_e T n q)))), .int (nI (pz_e T n (pz_e T n (pz_e T n q)))), .int (nI (pz_v T n (pz_e T n (pz_e T n q)))), .int (nI 0), .ref ab, .ref as_, .ref ac])), (at_, .inl (cI, 120, .inl T))]) (hz_pt_eq 2 [] [] rfl rfl rfl rfl rfl rfl rfl) [0, 1] rfl 0 rfl rfl rfl rfl hl.1 rfl (Nat.le_of_ble_eq_true rfl) dX4_perhaps_11 ⟨Nat.zero_le _, Nat.zero_le _⟩ (fun H locs hP hD hS => ?_)
  refine W.eq (g2 := F0 m 14 ls [.int (nI (pz_v T n (pz_e T n q)))]) rfl ?_
  refine lv_goto (tgt := 19) hx hb dX4_perhaps_14 (by decide) ?_
  refine hz_ei hx hb hr hlocks rfl ?_ hS (rfl) dX4_perhaps_19
  exact hP
set_option maxHeartbeats 4000000 in
set_option maxRecDepth 100000 in
theorem c4_per_n (l : Launch) (D : va_G) (cI cJ : ClassId) (aN : Nat) (adK adV : Nat → Nat) (h0 am ak aw af at_ ab as_ ac : Nat) (kf wp : Int32) (T : Nat → Int32) (n : Nat) (q w h : Nat) (mo so : Int32) (hn : n ≤ 120) (hq : q ≤ n) (hw : w < 2 ^ 31) (hmo : ∀ v : Nat, v < 10000 → ((nI 0 ≤ nI v ∧ nI v ≤ mo) ↔ v < h)) (hk : pz_k T n q = w) (hnb : ¬ pz_nb T n (pz_e T n q) h) : hz_MEz (hz_Q aN adK adV) l yX4_perhaps wsX4_perhaps { frames := 4, cells := 0, slots := 0, locals := 89 } [.ref h0, .int (nI w), .int (nI 0), .int (mo), .int (so)] D zcl [(cI, .int), (cJ, .long)] [(h0, .inr (4, [.ref am, .ref ak, .ref aw, .int (kf), .ref af, .int (wp), .ref at_, .int (nI n), .int (nI (pz_k T n q)), .int (nI (pz_b T n q)), .int (nI (pz_e T n q)), .int (nI (pz_v T n q)), .int (nI 0), .ref ab, .ref as_, .ref ac])), (at_, .inl (cI, 120, .inl T))] [(h0, .inr (4, [.ref am, .ref ak, .ref aw, .int (kf), .ref af, .int (wp), .ref at_, .int (nI n), .int (nI (pz_k T n (pz_e T n q))), .int (nI (pz_b T n (pz_e T n q))), .int (nI (pz_e T n (pz_e T n q))), .int (nI (pz_v T n (pz_e T n q))), .int (nI 1), .ref ab, .ref as_, .ref ac])), (at_, .inl (cI, 120, .inl T))] (some (.int (nI (pz_v T n (pz_e T n q))))) := by
  refine hz_mez (cc := cX4_perhaps) (maxL := 5) (ret := (some .int)) (by decide) rfl (Nat.le_of_ble_eq_true rfl) ?_
  intro p e s m below meth c hx hb hr hts hown hlocks hml hP hK hD hZ ls hl
  have hS : va_S (hz_a [(h0, .inr (4, [.ref am, .ref ak, .ref aw, .int (kf), .ref af, .int (wp), .ref at_, .int (nI n), .int (nI (pz_k T n q)), .int (nI (pz_b T n q)), .int (nI (pz_e T n q)), .int (nI (pz_v T n q)), .int (nI 0), .ref ab, .ref as_, .ref ac])), (at_, .inl (cI, 120, .inl T))]) s.heap s.heap [] := va_S.rf
  have hown : s.vm.findClass RX4 = some m.cls := hown
  have hl : lv_has ls 5 [(0, .ref h0), (1, .int (nI w)), (2, .int (nI 0)), (3, .int (mo)), (4, .int (so))] := hl
  have hk24 := pz_k_r T n q
  have hv4 := pz_v_r T n q
  have hb1 := pz_b_ge T n q
  have hb2 := pz_e_ge T n q
  have hb3 := pz_e_le (T := T) hq
  have hb4 := pz_t_le T n q
  refine lv_aload_n hx hb dX4_perhaps_0 rfl (lv_at hl 0 rfl) ?_
  refine lv_iload_n hx hb dX4_perhaps_1 rfl (lv_at hl 1 rfl) ?_
  refine hz_cez (As := [.int (nI w)]) (rest := []) ⟨hx, hb, hml, hown, hts⟩ (hz_Q_ok aN adK adV) hZ (c4_pass_y l D cI cJ (aN := aN) (adK := adK) (adV := adV) (h0 := h0) (am := am) (ak := ak) (aw := aw) (af := af) (at_ := at_) (ab := ab) (as_ := as_) (ac := ac) (kf := kf) (wp := wp) (T := T) (n := n) (q := q) (w := w) (hn := by omega) (hq := by omega) (hw := by omega) (hk := by first | assumption | rfl)) (cwV 1 hts gX4_perhaps_X4_passes rfl rfl rfl (by decide +kernel) ⟨Nat.le_of_ble_eq_true rfl, Nat.le_of_ble_eq_true rfl⟩) hK hP hD hS [0, 1] rfl (by decide) (hz_ha [h0, at_] rfl rfl) (w' := [(h0, .inr (4, [.ref am, .ref ak, .ref aw, .int (kf), .ref af, .int (wp), .ref at_, .int (nI n), .int (nI (pz_k T n (pz_e T n q))), .int (nI (pz_b T n (pz_e T n q))), .int (nI (pz_e T n (pz_e T n q))), .int (nI (pz_v T n (pz_e T n q))), .int (nI 0), .ref ab, .ref as_, .ref ac])), (at_, .inl (cI, 120, .inl T))]) (hz_pt_eq 2 [] [] rfl rfl rfl rfl rfl rfl rfl) [0, 1] rfl 0 rfl rfl rfl rfl hl.1 rfl (Nat.le_of_ble_eq_true rfl) dX4_perhaps_2 ⟨Nat.zero_le _, Nat.zero_le _⟩ (fun H locs hP hD hS => ?_)
  refine W.eq (g2 := F0 m 5 ls [.int (nI 1)]) rfl ?_
  refine lv_if_eq (tgt := 17) hx hb dX4_perhaps_5 (by decide) (fun h => absurd h (by first | decide | omega | exact hz_nneg (by omega) | exact hz_nneg' (by omega))) (fun _ => ?_)
  refine lv_aload_n hx hb dX4_perhaps_8 rfl (lv_at hl 0 rfl) ?_
  refine lv_iload_n hx hb dX4_perhaps_9 rfl (lv_at hl 2 rfl) ?_
  refine lv_iload_n hx hb dX4_perhaps_10 rfl (lv_at hl 3 rfl) ?_
  refine hz_cez (As := [.int (nI 0), .int (mo)]) (rest := []) ⟨hx, hb, hml, hown, hts⟩ (hz_Q_ok aN adK adV) hZ (c4_num_n l D cI cJ (aN := aN) (adK := adK) (adV := adV) (h0 := h0) (am := am) (ak := ak) (aw := aw) (af := af) (at_ := at_) (ab := ab) (as_ := as_) (ac := ac) (kf := kf) (wp := wp) (T := T) (n := n) (q := pz_e T n q) (h := h) (mo := mo) (hn := by omega) (hq := by omega) (hmo := by first | assumption | rfl) (hnb := by first | assumption | rfl)) (cwV 2 hts gX4_perhaps_X4_number rfl rfl rfl (by decide +kernel) ⟨Nat.le_of_ble_eq_true rfl, Nat.le_of_ble_eq_true rfl⟩) hK hP hD hS [0, 1] rfl (by decide) (hz_ha [h0, at_] rfl rfl) (w' := [(h0, .inr (4, [.ref am, .ref ak, .ref aw, .int (kf), .ref af, .int (wp), .ref at_, .int (nI n), .int (nI (pz_k T n (pz_e T n q))), .int (nI (pz_b T n (pz_e T n q))), .int (nI (pz_e T n (pz_e T n q))), .int (nI (pz_v T n (pz_e T n q))), .int (nI 1), .ref ab, .ref as_, .ref ac])), (at_, .inl (cI, 120, .inl T))]) (hz_pt_eq 2 [] [] rfl rfl rfl rfl rfl rfl rfl) [0, 1] rfl 0 rfl rfl rfl rfl hl.1 rfl (Nat.le_of_ble_eq_true rfl) dX4_perhaps_11 ⟨Nat.zero_le _, Nat.zero_le _⟩ (fun H locs hP hD hS => ?_)
  refine W.eq (g2 := F0 m 14 ls [.int (nI (pz_v T n (pz_e T n q)))]) rfl ?_
  refine lv_goto (tgt := 19) hx hb dX4_perhaps_14 (by decide) ?_
  refine hz_ei hx hb hr hlocks rfl ?_ hS (rfl) dX4_perhaps_19
  exact hP
set_option maxHeartbeats 4000000 in
set_option maxRecDepth 100000 in
theorem c4_told (l : Launch) (D : va_G) (cI cJ : ClassId) (aN : Nat) (adK adV : Nat → Nat) (h0 am ak aw af at_ ab as_ ac : Nat) (kf wp : Int32) (T : Nat → Int32) (n : Nat) (q q1 : Nat) (ok : Bool) (s1 : Int32) (hn : n ≤ 120) (hq : q ≤ n) (ht : pz_tg T n 4 (nI 0) q = (q1, ok, s1)) : hz_MEz (hz_Q aN adK adV) l yX4_tonguesTold wsX4_tonguesTold { frames := 4, cells := 0, slots := 0, locals := 89 } [.ref h0] D zcl [(cI, .int), (cJ, .long)] [(h0, .inr (4, [.ref am, .ref ak, .ref aw, .int (kf), .ref af, .int (wp), .ref at_, .int (nI n), .int (nI (pz_k T n q)), .int (nI (pz_b T n q)), .int (nI (pz_e T n q)), .int (nI (pz_v T n q)), .int (nI 0), .ref ab, .ref as_, .ref ac])), (at_, .inl (cI, 120, .inl T))] [(h0, .inr (4, [.ref am, .ref ak, .ref aw, .int (kf), .ref af, .int (wp), .ref at_, .int (nI n), .int (nI (pz_k T n q1)), .int (nI (pz_b T n q1)), .int (nI (pz_e T n q1)), .int (nI (pz_v T n q1)), .int (pz_bd ok), .ref ab, .ref as_, .ref ac])), (at_, .inl (cI, 120, .inl T))] (some (.int (s1))) := by
  refine hz_mez (cc := cX4_tonguesTold) (maxL := 3) (ret := (some .int)) (by decide) rfl (Nat.le_of_ble_eq_true rfl) ?_
  intro p e s m below meth c hx hb hr hts hown hlocks hml hP hK hD hZ ls hl
  have hS : va_S (hz_a [(h0, .inr (4, [.ref am, .ref ak, .ref aw, .int (kf), .ref af, .int (wp), .ref at_, .int (nI n), .int (nI (pz_k T n q)), .int (nI (pz_b T n q)), .int (nI (pz_e T n q)), .int (nI (pz_v T n q)), .int (nI 0), .ref ab, .ref as_, .ref ac])), (at_, .inl (cI, 120, .inl T))]) s.heap s.heap [] := va_S.rf
  have hown : s.vm.findClass RX4 = some m.cls := hown
  have hl : lv_has ls 3 [(0, .ref h0)] := hl
  have hinX4 : ∀ w ∈ u_ws RX4 TX4 16, w ∈ wsX4_tonguesTold := fun w h => List.mem_cons_of_mem _ (List.mem_append_right _ (h))
  have wd1 := hts (.fieldLink RX4 174 "HurtSpeechModel" "bad" "Z") (List.mem_of_getElem? (i := 1) rfl)
  have wd2 := hts (.fieldLink RX4 168 "HurtSpeechModel" "token" "I") (List.mem_of_getElem? (i := 2) rfl)
  refine lv_iconst (v := nI 0) hx hb dX4_tonguesTold_0 (by decide) ?_
  refine lv_istore_n (lv' := [(1, .int (nI 0)), (0, .ref h0)]) hx hb dX4_tonguesTold_1 rfl hl (by decide) rfl (fun ls hl => ?_)
  refine lv_iconst (v := nI 0) hx hb dX4_tonguesTold_2 (by decide) ?_
  refine lv_istore_n (lv' := [(2, .int (nI 0)), (1, .int (nI 0)), (0, .ref h0)]) hx hb dX4_tonguesTold_3 rfl hl (by decide) rfl (fun ls hl => ?_)
  have loop : ∀ (nn : Nat) (q_ : Nat) (m_ : Nat) (s_ : Int32) (ls : Array Slot) (H : Heap) (locs : List Loc), 4 - m_ < nn → (m_ ≤ 4) → (q_ ≤ n) → (pz_tg T n (4 - m_) s_ q_ = pz_tg T n 4 (nI 0) q) → lv_has ls 3 [(2, .int (nI m_)), (1, .int (s_)), (0, .ref h0)] → va_P D zcl [(h0, .inr (4, [.ref am, .ref ak, .ref aw, .int (kf), .ref af, .int (wp), .ref at_, .int (nI n), .int (nI (pz_k T n q_)), .int (nI (pz_b T n q_)), .int (nI (pz_e T n q_)), .int (nI (pz_v T n q_)), .int (nI 0), .ref ab, .ref as_, .ref ac])), (at_, .inl (cI, 120, .inl T))] H → va_D (hz_a [(h0, .inr (4, [.ref am, .ref ak, .ref aw, .int (kf), .ref af, .int (wp), .ref at_, .int (nI n), .int (nI (pz_k T n q)), .int (nI (pz_b T n q)), .int (nI (pz_e T n q)), .int (nI (pz_v T n q)), .int (nI 0), .ref ab, .ref as_, .ref ac])), (at_, .inl (cI, 120, .inl T))]) [(h0, .inr (4, [.ref am, .ref ak, .ref aw, .int (kf), .ref af, .int (wp), .ref at_, .int (nI n), .int (nI (pz_k T n q_)), .int (nI (pz_b T n q_)), .int (nI (pz_e T n q_)), .int (nI (pz_v T n q_)), .int (nI 0), .ref ab, .ref as_, .ref ac])), (at_, .inl (cI, 120, .inl T))] → va_S (hz_a [(h0, .inr (4, [.ref am, .ref ak, .ref aw, .int (kf), .ref af, .int (wp), .ref at_, .int (nI n), .int (nI (pz_k T n q)), .int (nI (pz_b T n q)), .int (nI (pz_e T n q)), .int (nI (pz_v T n q)), .int (nI 0), .ref ab, .ref as_, .ref ac])), (at_, .inl (cI, 120, .inl T))]) s.heap H locs → W p l e (headSpec wsX4_tonguesTold { frames := 4, cells := 0, slots := 0, locals := 89 }).room s m ([.ref h0] : List Value).toArray below meth c H locs 0 0 (MQ below (hz_E D zcl [(h0, .inr (4, [.ref am, .ref ak, .ref aw, .int (kf), .ref af, .int (wp), .ref at_, .int (nI n), .int (nI (pz_k T n q1)), .int (nI (pz_b T n q1)), .int (nI (pz_e T n q1)), .int (nI (pz_v T n q1)), .int (pz_bd ok), .ref ab, .ref as_, .ref ac])), (at_, .inl (cI, 120, .inl T))] (some (.int (s1))) (hz_a [(h0, .inr (4, [.ref am, .ref ak, .ref aw, .int (kf), .ref af, .int (wp), .ref at_, .int (nI n), .int (nI (pz_k T n q)), .int (nI (pz_b T n q)), .int (nI (pz_e T n q)), .int (nI (pz_v T n q)), .int (nI 0), .ref ab, .ref as_, .ref ac])), (at_, .inl (cI, 120, .inl T))])) ([.ref h0] : List Value).toArray s 0 0 (hz_a [(h0, .inr (4, [.ref am, .ref ak, .ref aw, .int (kf), .ref af, .int (wp), .ref at_, .int (nI n), .int (nI (pz_k T n q)), .int (nI (pz_b T n q)), .int (nI (pz_e T n q)), .int (nI (pz_v T n q)), .int (nI 0), .ref ab, .ref as_, .ref ac])), (at_, .inl (cI, 120, .inl T))])) (F0 m 4 ls []) := by
    intro nn
    induction nn with
    | zero => intro q_ m_ s_ ls H locs hnn hm hqn hrr hl hP hD hS; exact absurd hnn (Nat.not_lt_zero _)
    | succ nn ihloop =>
      intro q_ m_ s_ ls H locs hnn hm hqn hrr hl hP hD hS
      have hk24 := pz_k_r T n q_
      have hq3 := pz_e_le (T := T) hqn
      refine lv_aload_n hx hb dX4_tonguesTold_4 rfl (lv_at hl 2 rfl) ?_
      refine va_get hx hb hts hinX4 hown hK hP 0 rfl rfl 12 (by decide) wd1 (fun _ h => h) rfl dX4_tonguesTold_5 ?_
      refine lv_if_ne (tgt := 46) hx hb dX4_tonguesTold_8 (by decide) (fun h => absurd h (by first | decide | omega | exact hz_nneg (by omega) | exact hz_nneg' (by omega))) (fun _ => ?_)
      refine lv_iload_n hx hb dX4_tonguesTold_11 rfl (lv_at hl 0 rfl) ?_
      refine lv_iconst (v := nI 4) hx hb dX4_tonguesTold_12 (by decide) ?_
      refine hz_icmp_ge (tgt := 46) (by omega) (by omega) hx hb dX4_tonguesTold_13 (by decide) (fun c13 => ?_) (fun c13 => ?_)
      · have e3 := pz_tri ((show pz_tg T n (4 - m_) s_ q_ = (q_, true, s_) by rw [show 4 - m_ = 0 by omega]; rfl).symm.trans (hrr.trans ht))
        refine lv_iload_n hx hb dX4_tonguesTold_46 rfl (lv_at hl 1 rfl) ?_
        refine hz_ei hx hb hr hlocks rfl ?_ hS (e3.2.2) dX4_tonguesTold_47
        rw [← e3.1, ← e3.2.1]
        exact hP
      · refine lv_iload_n hx hb dX4_tonguesTold_16 rfl (lv_at hl 0 rfl) ?_
        refine hz_ifn_eq (tgt := 29) (by omega) hx hb dX4_tonguesTold_17 (by decide) (fun c17 => ?_) (fun c17 => ?_)
        · refine lv_iload_n hx hb dX4_tonguesTold_29 rfl (lv_at hl 1 rfl) ?_
          refine lv_iconst (v := nI 1) hx hb dX4_tonguesTold_30 (by decide) ?_
          refine lv_aload_n hx hb dX4_tonguesTold_31 rfl (lv_at hl 2 rfl) ?_
          refine lv_iconst (v := nI 0) hx hb dX4_tonguesTold_32 (by decide) ?_
          refine lv_iconst (v := nI 3) hx hb dX4_tonguesTold_33 (by decide) ?_
          by_cases hnb : pz_nb T n q_ 4
          · refine hz_cez (As := [.int (nI 0), .int (nI 3)]) (rest := [.int (nI 1), .int (s_)]) ⟨hx, hb, hml, hown, hts⟩ (hz_Q_ok aN adK adV) hZ (c4_num_y l D cI cJ (aN := aN) (adK := adK) (adV := adV) (h0 := h0) (am := am) (ak := ak) (aw := aw) (af := af) (at_ := at_) (ab := ab) (as_ := as_) (ac := ac) (kf := kf) (wp := wp) (T := T) (n := n) (q := q_) (h := 4) (mo := nI 3) (hn := by omega) (hq := by omega) (hmo := pz_mo_lit 3 (by decide)) (hnb := by first | assumption | rfl)) (cwV 2 hts gX4_tonguesTold_X4_number rfl rfl rfl (by decide +kernel) ⟨Nat.le_of_ble_eq_true rfl, Nat.le_of_ble_eq_true rfl⟩) hK hP hD hS [0, 1] rfl (by decide) (hz_ha [h0, at_] rfl rfl) (w' := [(h0, .inr (4, [.ref am, .ref ak, .ref aw, .int (kf), .ref af, .int (wp), .ref at_, .int (nI n), .int (nI (pz_k T n (pz_e T n q_))), .int (nI (pz_b T n (pz_e T n q_))), .int (nI (pz_e T n (pz_e T n q_))), .int (nI (pz_v T n (pz_e T n q_))), .int (nI 0), .ref ab, .ref as_, .ref ac])), (at_, .inl (cI, 120, .inl T))]) (hz_pt_eq 2 [] [] rfl rfl rfl rfl rfl rfl rfl) [0, 1] rfl 0 rfl rfl rfl rfl hl.1 rfl (Nat.le_of_ble_eq_true rfl) dX4_tonguesTold_34 ⟨Nat.zero_le _, Nat.zero_le _⟩ (fun H locs hP hD hS => ?_)
            refine W.eq (g2 := F0 m 37 ls [.int (nI (pz_v T n q_)), .int (nI 1), .int (s_)]) rfl ?_
            refine lv_ishl hx hb dX4_tonguesTold_37 ?_
            refine lv_ior hx hb dX4_tonguesTold_38 ?_
            refine lv_istore_n (lv' := [(1, .int (s_ ||| ((nI 1) <<< ((nI (pz_v T n q_)) &&& 31)))), (2, .int (nI m_)), (0, .ref h0)]) hx hb dX4_tonguesTold_39 rfl hl (by decide) rfl (fun ls hl => ?_)
            refine lv_iinc (v := nI (m_ + 1)) (lv' := [(2, .int (nI (m_ + 1))), (1, .int (s_ ||| ((nI 1) <<< ((nI (pz_v T n q_)) &&& 31)))), (0, .ref h0)]) hx hb dX4_tonguesTold_40 hl (k := 1) rfl (nI_1 _) (by decide) rfl (fun ls hl => ?_)
            refine lv_goto (tgt := 4) hx hb dX4_tonguesTold_43 (by decide) ?_
            exact ihloop (pz_e T n q_) (m_ + 1) (s_ ||| ((nI 1) <<< ((nI (pz_v T n q_)) &&& 31))) ls _ _ (by omega) (by omega) (pz_e_le hqn) ((pz_tg_y (by omega) hnb).symm.trans hrr) (lv_sub hl [0, 1, 2] rfl) hP hD hS
          · refine hz_cez (As := [.int (nI 0), .int (nI 3)]) (rest := [.int (nI 1), .int (s_)]) ⟨hx, hb, hml, hown, hts⟩ (hz_Q_ok aN adK adV) hZ (c4_num_n l D cI cJ (aN := aN) (adK := adK) (adV := adV) (h0 := h0) (am := am) (ak := ak) (aw := aw) (af := af) (at_ := at_) (ab := ab) (as_ := as_) (ac := ac) (kf := kf) (wp := wp) (T := T) (n := n) (q := q_) (h := 4) (mo := nI 3) (hn := by omega) (hq := by omega) (hmo := pz_mo_lit 3 (by decide)) (hnb := by first | assumption | rfl)) (cwV 2 hts gX4_tonguesTold_X4_number rfl rfl rfl (by decide +kernel) ⟨Nat.le_of_ble_eq_true rfl, Nat.le_of_ble_eq_true rfl⟩) hK hP hD hS [0, 1] rfl (by decide) (hz_ha [h0, at_] rfl rfl) (w' := [(h0, .inr (4, [.ref am, .ref ak, .ref aw, .int (kf), .ref af, .int (wp), .ref at_, .int (nI n), .int (nI (pz_k T n q_)), .int (nI (pz_b T n q_)), .int (nI (pz_e T n q_)), .int (nI (pz_v T n q_)), .int (nI 1), .ref ab, .ref as_, .ref ac])), (at_, .inl (cI, 120, .inl T))]) (hz_pt_eq 2 [] [] rfl rfl rfl rfl rfl rfl rfl) [0, 1] rfl 0 rfl rfl rfl rfl hl.1 rfl (Nat.le_of_ble_eq_true rfl) dX4_tonguesTold_34 ⟨Nat.zero_le _, Nat.zero_le _⟩ (fun H locs hP hD hS => ?_)
            refine W.eq (g2 := F0 m 37 ls [.int (nI (pz_v T n q_)), .int (nI 1), .int (s_)]) rfl ?_
            refine lv_ishl hx hb dX4_tonguesTold_37 ?_
            refine lv_ior hx hb dX4_tonguesTold_38 ?_
            refine lv_istore_n (lv' := [(1, .int (s_ ||| ((nI 1) <<< ((nI (pz_v T n q_)) &&& 31)))), (2, .int (nI m_)), (0, .ref h0)]) hx hb dX4_tonguesTold_39 rfl hl (by decide) rfl (fun ls hl => ?_)
            refine lv_iinc (v := nI (m_ + 1)) (lv' := [(2, .int (nI (m_ + 1))), (1, .int (s_ ||| ((nI 1) <<< ((nI (pz_v T n q_)) &&& 31)))), (0, .ref h0)]) hx hb dX4_tonguesTold_40 hl (k := 1) rfl (nI_1 _) (by decide) rfl (fun ls hl => ?_)
            refine lv_goto (tgt := 4) hx hb dX4_tonguesTold_43 (by decide) ?_
            refine lv_aload_n hx hb dX4_tonguesTold_4 rfl (lv_at hl 2 rfl) ?_
            refine va_get hx hb hts hinX4 hown hK hP 0 rfl rfl 12 (by decide) wd1 (fun _ h => h) rfl dX4_tonguesTold_5 ?_
            refine lv_if_ne (tgt := 46) hx hb dX4_tonguesTold_8 (by decide) (fun _ => ?_) (fun h => absurd h (by first | decide | omega | exact hz_nneg (by omega) | exact hz_nneg' (by omega)))
            have e3 := pz_tri ((pz_tg_n (set := s_) c13 (by first | exact Or.inl c17 | exact Or.inr c26) hnb).symm.trans (hrr.trans ht))
            refine lv_iload_n hx hb dX4_tonguesTold_46 rfl (lv_at hl 1 rfl) ?_
            refine hz_ei hx hb hr hlocks rfl ?_ hS (e3.2.2) dX4_tonguesTold_47
            rw [← e3.1, ← e3.2.1]
            exact hP
        · refine lv_aload_n hx hb dX4_tonguesTold_20 rfl (lv_at hl 2 rfl) ?_
          refine va_get hx hb hts hinX4 hown hK hP 0 rfl rfl 8 (by decide) wd2 (fun _ h => h) rfl dX4_tonguesTold_21 ?_
          refine lv_bipush (v := nI 20) hx hb dX4_tonguesTold_24 (by decide) ?_
          refine hz_icmp_ne (tgt := 46) (by omega) (by omega) hx hb dX4_tonguesTold_26 (by decide) (fun c26 => ?_) (fun c26 => ?_)
          · have e3 := pz_tri ((pz_tg_x (by omega) hm c26).symm.trans (hrr.trans ht))
            refine lv_iload_n hx hb dX4_tonguesTold_46 rfl (lv_at hl 1 rfl) ?_
            refine hz_ei hx hb hr hlocks rfl ?_ hS (e3.2.2) dX4_tonguesTold_47
            rw [← e3.1, ← e3.2.1]
            exact hP
          · refine lv_iload_n hx hb dX4_tonguesTold_29 rfl (lv_at hl 1 rfl) ?_
            refine lv_iconst (v := nI 1) hx hb dX4_tonguesTold_30 (by decide) ?_
            refine lv_aload_n hx hb dX4_tonguesTold_31 rfl (lv_at hl 2 rfl) ?_
            refine lv_iconst (v := nI 0) hx hb dX4_tonguesTold_32 (by decide) ?_
            refine lv_iconst (v := nI 3) hx hb dX4_tonguesTold_33 (by decide) ?_
            by_cases hnb : pz_nb T n q_ 4
            · refine hz_cez (As := [.int (nI 0), .int (nI 3)]) (rest := [.int (nI 1), .int (s_)]) ⟨hx, hb, hml, hown, hts⟩ (hz_Q_ok aN adK adV) hZ (c4_num_y l D cI cJ (aN := aN) (adK := adK) (adV := adV) (h0 := h0) (am := am) (ak := ak) (aw := aw) (af := af) (at_ := at_) (ab := ab) (as_ := as_) (ac := ac) (kf := kf) (wp := wp) (T := T) (n := n) (q := q_) (h := 4) (mo := nI 3) (hn := by omega) (hq := by omega) (hmo := pz_mo_lit 3 (by decide)) (hnb := by first | assumption | rfl)) (cwV 2 hts gX4_tonguesTold_X4_number rfl rfl rfl (by decide +kernel) ⟨Nat.le_of_ble_eq_true rfl, Nat.le_of_ble_eq_true rfl⟩) hK hP hD hS [0, 1] rfl (by decide) (hz_ha [h0, at_] rfl rfl) (w' := [(h0, .inr (4, [.ref am, .ref ak, .ref aw, .int (kf), .ref af, .int (wp), .ref at_, .int (nI n), .int (nI (pz_k T n (pz_e T n q_))), .int (nI (pz_b T n (pz_e T n q_))), .int (nI (pz_e T n (pz_e T n q_))), .int (nI (pz_v T n (pz_e T n q_))), .int (nI 0), .ref ab, .ref as_, .ref ac])), (at_, .inl (cI, 120, .inl T))]) (hz_pt_eq 2 [] [] rfl rfl rfl rfl rfl rfl rfl) [0, 1] rfl 0 rfl rfl rfl rfl hl.1 rfl (Nat.le_of_ble_eq_true rfl) dX4_tonguesTold_34 ⟨Nat.zero_le _, Nat.zero_le _⟩ (fun H locs hP hD hS => ?_)
              refine W.eq (g2 := F0 m 37 ls [.int (nI (pz_v T n q_)), .int (nI 1), .int (s_)]) rfl ?_
              refine lv_ishl hx hb dX4_tonguesTold_37 ?_
              refine lv_ior hx hb dX4_tonguesTold_38 ?_
              refine lv_istore_n (lv' := [(1, .int (s_ ||| ((nI 1) <<< ((nI (pz_v T n q_)) &&& 31)))), (2, .int (nI m_)), (0, .ref h0)]) hx hb dX4_tonguesTold_39 rfl hl (by decide) rfl (fun ls hl => ?_)
              refine lv_iinc (v := nI (m_ + 1)) (lv' := [(2, .int (nI (m_ + 1))), (1, .int (s_ ||| ((nI 1) <<< ((nI (pz_v T n q_)) &&& 31)))), (0, .ref h0)]) hx hb dX4_tonguesTold_40 hl (k := 1) rfl (nI_1 _) (by decide) rfl (fun ls hl => ?_)
              refine lv_goto (tgt := 4) hx hb dX4_tonguesTold_43 (by decide) ?_
              exact ihloop (pz_e T n q_) (m_ + 1) (s_ ||| ((nI 1) <<< ((nI (pz_v T n q_)) &&& 31))) ls _ _ (by omega) (by omega) (pz_e_le hqn) ((pz_tg_y (by omega) hnb).symm.trans hrr) (lv_sub hl [0, 1, 2] rfl) hP hD hS
            · refine hz_cez (As := [.int (nI 0), .int (nI 3)]) (rest := [.int (nI 1), .int (s_)]) ⟨hx, hb, hml, hown, hts⟩ (hz_Q_ok aN adK adV) hZ (c4_num_n l D cI cJ (aN := aN) (adK := adK) (adV := adV) (h0 := h0) (am := am) (ak := ak) (aw := aw) (af := af) (at_ := at_) (ab := ab) (as_ := as_) (ac := ac) (kf := kf) (wp := wp) (T := T) (n := n) (q := q_) (h := 4) (mo := nI 3) (hn := by omega) (hq := by omega) (hmo := pz_mo_lit 3 (by decide)) (hnb := by first | assumption | rfl)) (cwV 2 hts gX4_tonguesTold_X4_number rfl rfl rfl (by decide +kernel) ⟨Nat.le_of_ble_eq_true rfl, Nat.le_of_ble_eq_true rfl⟩) hK hP hD hS [0, 1] rfl (by decide) (hz_ha [h0, at_] rfl rfl) (w' := [(h0, .inr (4, [.ref am, .ref ak, .ref aw, .int (kf), .ref af, .int (wp), .ref at_, .int (nI n), .int (nI (pz_k T n q_)), .int (nI (pz_b T n q_)), .int (nI (pz_e T n q_)), .int (nI (pz_v T n q_)), .int (nI 1), .ref ab, .ref as_, .ref ac])), (at_, .inl (cI, 120, .inl T))]) (hz_pt_eq 2 [] [] rfl rfl rfl rfl rfl rfl rfl) [0, 1] rfl 0 rfl rfl rfl rfl hl.1 rfl (Nat.le_of_ble_eq_true rfl) dX4_tonguesTold_34 ⟨Nat.zero_le _, Nat.zero_le _⟩ (fun H locs hP hD hS => ?_)
              refine W.eq (g2 := F0 m 37 ls [.int (nI (pz_v T n q_)), .int (nI 1), .int (s_)]) rfl ?_
              refine lv_ishl hx hb dX4_tonguesTold_37 ?_
              refine lv_ior hx hb dX4_tonguesTold_38 ?_
              refine lv_istore_n (lv' := [(1, .int (s_ ||| ((nI 1) <<< ((nI (pz_v T n q_)) &&& 31)))), (2, .int (nI m_)), (0, .ref h0)]) hx hb dX4_tonguesTold_39 rfl hl (by decide) rfl (fun ls hl => ?_)
              refine lv_iinc (v := nI (m_ + 1)) (lv' := [(2, .int (nI (m_ + 1))), (1, .int (s_ ||| ((nI 1) <<< ((nI (pz_v T n q_)) &&& 31)))), (0, .ref h0)]) hx hb dX4_tonguesTold_40 hl (k := 1) rfl (nI_1 _) (by decide) rfl (fun ls hl => ?_)
              refine lv_goto (tgt := 4) hx hb dX4_tonguesTold_43 (by decide) ?_
              refine lv_aload_n hx hb dX4_tonguesTold_4 rfl (lv_at hl 2 rfl) ?_
              refine va_get hx hb hts hinX4 hown hK hP 0 rfl rfl 12 (by decide) wd1 (fun _ h => h) rfl dX4_tonguesTold_5 ?_
              refine lv_if_ne (tgt := 46) hx hb dX4_tonguesTold_8 (by decide) (fun _ => ?_) (fun h => absurd h (by first | decide | omega | exact hz_nneg (by omega) | exact hz_nneg' (by omega)))
              have e3 := pz_tri ((pz_tg_n (set := s_) c13 (by first | exact Or.inl c17 | exact Or.inr c26) hnb).symm.trans (hrr.trans ht))
              refine lv_iload_n hx hb dX4_tonguesTold_46 rfl (lv_at hl 1 rfl) ?_
              refine hz_ei hx hb hr hlocks rfl ?_ hS (e3.2.2) dX4_tonguesTold_47
              rw [← e3.1, ← e3.2.1]
              exact hP
  exact loop _ q 0 (nI 0) ls _ _ (Nat.lt_succ_self _) (by omega) hq rfl (lv_sub hl [0, 1, 2] rfl) hP hD hS
theorem c4_told_y (l : Launch) (D : va_G) (cI cJ : ClassId) (aN : Nat) (adK adV : Nat → Nat) (h0 am ak aw af at_ ab as_ ac : Nat) (kf wp : Int32) (T : Nat → Int32) (n : Nat) (q q1 : Nat) (s1 : Int32) (hn : n ≤ 120) (hq : q ≤ n) (ht : pz_tg T n 4 (nI 0) q = (q1, true, s1)) : hz_MEz (hz_Q aN adK adV) l yX4_tonguesTold wsX4_tonguesTold { frames := 4, cells := 0, slots := 0, locals := 89 } [.ref h0] D zcl [(cI, .int), (cJ, .long)] [(h0, .inr (4, [.ref am, .ref ak, .ref aw, .int (kf), .ref af, .int (wp), .ref at_, .int (nI n), .int (nI (pz_k T n q)), .int (nI (pz_b T n q)), .int (nI (pz_e T n q)), .int (nI (pz_v T n q)), .int (nI 0), .ref ab, .ref as_, .ref ac])), (at_, .inl (cI, 120, .inl T))] [(h0, .inr (4, [.ref am, .ref ak, .ref aw, .int (kf), .ref af, .int (wp), .ref at_, .int (nI n), .int (nI (pz_k T n q1)), .int (nI (pz_b T n q1)), .int (nI (pz_e T n q1)), .int (nI (pz_v T n q1)), .int (nI 0), .ref ab, .ref as_, .ref ac])), (at_, .inl (cI, 120, .inl T))] (some (.int (s1))) := c4_told l D cI cJ aN adK adV h0 am ak aw af at_ ab as_ ac kf wp T n q q1 true s1 hn hq ht
theorem c4_told_n (l : Launch) (D : va_G) (cI cJ : ClassId) (aN : Nat) (adK adV : Nat → Nat) (h0 am ak aw af at_ ab as_ ac : Nat) (kf wp : Int32) (T : Nat → Int32) (n : Nat) (q q1 : Nat) (s1 : Int32) (hn : n ≤ 120) (hq : q ≤ n) (ht : pz_tg T n 4 (nI 0) q = (q1, false, s1)) : hz_MEz (hz_Q aN adK adV) l yX4_tonguesTold wsX4_tonguesTold { frames := 4, cells := 0, slots := 0, locals := 89 } [.ref h0] D zcl [(cI, .int), (cJ, .long)] [(h0, .inr (4, [.ref am, .ref ak, .ref aw, .int (kf), .ref af, .int (wp), .ref at_, .int (nI n), .int (nI (pz_k T n q)), .int (nI (pz_b T n q)), .int (nI (pz_e T n q)), .int (nI (pz_v T n q)), .int (nI 0), .ref ab, .ref as_, .ref ac])), (at_, .inl (cI, 120, .inl T))] [(h0, .inr (4, [.ref am, .ref ak, .ref aw, .int (kf), .ref af, .int (wp), .ref at_, .int (nI n), .int (nI (pz_k T n q1)), .int (nI (pz_b T n q1)), .int (nI (pz_e T n q1)), .int (nI (pz_v T n q1)), .int (nI 1), .ref ab, .ref as_, .ref ac])), (at_, .inl (cI, 120, .inl T))] (some (.int (s1))) := c4_told l D cI cJ aN adK adV h0 am ak aw af at_ ab as_ ac kf wp T n q q1 false s1 hn hq ht
set_option maxHeartbeats 4000000 in
set_option maxRecDepth 100000 in
theorem c4_dl (l : Launch) (D : va_G) (cI cJ : ClassId) (aN : Nat) (adK adV : Nat → Nat) (h0 am ak aw af at_ ab as_ ac : Nat) (kf wp : Int32) (bd : Int32) (M : Nat → Int32) (T : Nat → Int32) (n : Nat) (q : Nat) (hn : n ≤ 120) (hq : q ≤ n) (hM1 : M 1 = nI (nD M)) (hD8 : nD M ≤ 8) : hz_MEz (hz_Q aN adK adV) l yX4_delegateItem wsX4_delegateItem { frames := 5, cells := 0, slots := 0, locals := 113 } [.ref h0] D zcl [(cI, .int), (cJ, .long)] [(h0, .inr (4, [.ref am, .ref ak, .ref aw, .int (kf), .ref af, .int (wp), .ref at_, .int (nI n), .int (nI (pz_k T n q)), .int (nI (pz_b T n q)), .int (nI (pz_e T n q)), .int (nI (pz_v T n q)), .int (bd), .ref ab, .ref as_, .ref ac])), (at_, .inl (cI, 120, .inl T)), (am, .inl (cI, 75, .inl M))] [(h0, .inr (4, [.ref am, .ref ak, .ref aw, .int (kf), .ref af, .int (wp), .ref at_, .int (nI n), .int (nI (pz_k T n ((pz_dl T n M q).1))), .int (nI (pz_b T n ((pz_dl T n M q).1))), .int (nI (pz_e T n ((pz_dl T n M q).1))), .int (nI (pz_v T n ((pz_dl T n M q).1))), .int (pz_bd (pz_dl T n M q).2.isSome), .ref ab, .ref as_, .ref ac])), (at_, .inl (cI, 120, .inl T)), (am, .inl (cI, 75, .inl ((pz_dl T n M q).2.getD M)))] none := by
  refine hz_mez (cc := cX4_delegateItem) (maxL := 5) (ret := none) (by decide) rfl (Nat.le_of_ble_eq_true rfl) ?_
  intro p e s m below meth c hx hb hr hts hown hlocks hml hP hK hD hZ ls hl
  have hS : va_S (hz_a [(h0, .inr (4, [.ref am, .ref ak, .ref aw, .int (kf), .ref af, .int (wp), .ref at_, .int (nI n), .int (nI (pz_k T n q)), .int (nI (pz_b T n q)), .int (nI (pz_e T n q)), .int (nI (pz_v T n q)), .int (bd), .ref ab, .ref as_, .ref ac])), (at_, .inl (cI, 120, .inl T)), (am, .inl (cI, 75, .inl M))]) s.heap s.heap [] := va_S.rf
  have hown : s.vm.findClass RX4 = some m.cls := hown
  have hl : lv_has ls 5 [(0, .ref h0)] := hl
  have hinX4 : ∀ w ∈ u_ws RX4 TX4 16, w ∈ wsX4_delegateItem := fun w h => List.mem_cons_of_mem _ (List.mem_append_right _ (h))
  have wd1 := hts (.fieldLink RX4 168 "HurtSpeechModel" "token" "I") (List.mem_of_getElem? (i := 1) rfl)
  have wd2 := hts (.fieldLink RX4 9 "HurtSpeechModel" "m" "[I") (List.mem_of_getElem? (i := 2) rfl)
  have wd3 := hts (.fieldLink RX4 174 "HurtSpeechModel" "bad" "Z") (List.mem_of_getElem? (i := 3) rfl)
  have hk24 := pz_k_r T n q
  have hv4 := pz_v_r T n q
  have hb1 := pz_b_ge T n q
  have hb2 := pz_e_ge T n q
  have hb3 := pz_e_le (T := T) hq
  have hb4 := pz_t_le T n q
  have hb31 := pz_b_ge T n q
  have e1 := pz_e_le (T := T) hq
  have e2 := pz_e_le (T := T) e1
  have e3 := pz_e_le (T := T) e2
  have e4 := pz_e_le (T := T) e3
  have e5 := pz_e_le (T := T) e4
  have e6 := pz_e_le (T := T) e5
  refine lv_aload_n hx hb dX4_delegateItem_0 rfl (lv_at hl 0 rfl) ?_
  refine va_get hx hb hts hinX4 hown hK hP 0 rfl rfl 8 (by decide) wd1 (fun _ h => h) rfl dX4_delegateItem_1 ?_
  refine lv_istore_n (lv' := [(1, .int (nI (pz_k T n q))), (0, .ref h0)]) hx hb dX4_delegateItem_4 rfl hl (by decide) rfl (fun ls hl => ?_)
  refine lv_aload_n hx hb dX4_delegateItem_5 rfl (lv_at hl 1 rfl) ?_
  refine lv_aload_n hx hb dX4_delegateItem_6 rfl (lv_at hl 1 rfl) ?_
  refine va_get hx hb hts hinX4 hown hK hP 0 rfl rfl 0 (by decide) wd2 (fun _ h => h) rfl dX4_delegateItem_7 ?_
  refine lv_iconst (v := nI 1) hx hb dX4_delegateItem_10 (by decide) ?_
  refine hz_iald (j := 1) hx hb hK hP 2 0 rfl rfl (by omega) (Nat.le_of_ble_eq_true rfl) dX4_delegateItem_11 ?_
  refine hz_ct (y := nI (nD M)) hM1 ?_
  refine lv_bipush (v := nI 8) hx hb dX4_delegateItem_12 (by decide) ?_
  refine hz_icmp_ne (tgt := 21) (by omega) (by omega) hx hb dX4_delegateItem_14 (by decide) (fun c14 => ?_) (fun c14 => ?_)
  · refine lv_iconst (v := nI 0) hx hb dX4_delegateItem_21 (by decide) ?_
    refine va_put hx hb hts hinX4 tyX4 tyX4_ok nmX4 hown hK hP hD hS 0 rfl rfl 12 (by decide) wd3 (fun _ h => h) rfl (tyX4_ok 12 (by decide)) rfl rfl (Nat.le_of_ble_eq_true rfl) dX4_delegateItem_22 (fun H locs hP hD hS => ?_)
    have hP : va_P D zcl [(h0, .inr (4, [.ref am, .ref ak, .ref aw, .int (kf), .ref af, .int (wp), .ref at_, .int (nI n), .int (nI (pz_k T n q)), .int (nI (pz_b T n q)), .int (nI (pz_e T n q)), .int (nI (pz_v T n q)), .int (nI 0), .ref ab, .ref as_, .ref ac])), (at_, .inl (cI, 120, .inl T)), (am, .inl (cI, 75, .inl M))] H := hP
    have hD : va_D (hz_a [(h0, .inr (4, [.ref am, .ref ak, .ref aw, .int (kf), .ref af, .int (wp), .ref at_, .int (nI n), .int (nI (pz_k T n q)), .int (nI (pz_b T n q)), .int (nI (pz_e T n q)), .int (nI (pz_v T n q)), .int (bd), .ref ab, .ref as_, .ref ac])), (at_, .inl (cI, 120, .inl T)), (am, .inl (cI, 75, .inl M))]) [(h0, .inr (4, [.ref am, .ref ak, .ref aw, .int (kf), .ref af, .int (wp), .ref at_, .int (nI n), .int (nI (pz_k T n q)), .int (nI (pz_b T n q)), .int (nI (pz_e T n q)), .int (nI (pz_v T n q)), .int (nI 0), .ref ab, .ref as_, .ref ac])), (at_, .inl (cI, 120, .inl T)), (am, .inl (cI, 75, .inl M))] := hD
    refine lv_aload_n hx hb dX4_delegateItem_25 rfl (lv_at hl 1 rfl) ?_
    refine va_get hx hb hts hinX4 hown hK hP 0 rfl rfl 12 (by decide) wd3 (fun _ h => h) rfl dX4_delegateItem_26 ?_
    refine lv_if_eq (tgt := 33) hx hb dX4_delegateItem_29 (by decide) (fun _ => ?_) (fun h => absurd h (by first | decide | omega | exact hz_nneg (by omega) | exact hz_nneg' (by omega)))
    refine lv_aload_n hx hb dX4_delegateItem_33 rfl (lv_at hl 1 rfl) ?_
    refine hz_cez (As := []) (rest := []) ⟨hx, hb, hml, hown, hts⟩ (hz_Q_ok aN adK adV) hZ (c4_reads l D cI cJ (aN := aN) (adK := adK) (adV := adV) (h0 := h0) (am := am) (ak := ak) (aw := aw) (af := af) (at_ := at_) (ab := ab) (as_ := as_) (ac := ac) (kf := kf) (wp := wp) (bd := nI 0) (tk := nI (pz_k T n q)) (bg := nI (pz_b T n q)) (vl := nI (pz_v T n q)) (T := T) (n := n) (q := pz_e T n q) (hn := by omega) (hq := by omega)) (cwV 0 hts gX4_delegateItem_X4_reads rfl rfl rfl (by decide +kernel) ⟨Nat.le_of_ble_eq_true rfl, Nat.le_of_ble_eq_true rfl⟩) hK hP hD hS [0, 1] rfl (by decide) (hz_ha [h0, at_] rfl rfl) (w' := [(h0, .inr (4, [.ref am, .ref ak, .ref aw, .int (kf), .ref af, .int (wp), .ref at_, .int (nI n), .int (nI (pz_k T n (pz_e T n q))), .int (nI (pz_b T n (pz_e T n q))), .int (nI (pz_e T n (pz_e T n q))), .int (nI (pz_v T n (pz_e T n q))), .int (nI 0), .ref ab, .ref as_, .ref ac])), (at_, .inl (cI, 120, .inl T)), (am, .inl (cI, 75, .inl M))]) (hz_pt_eq 3 [2] [(am, .inl (cI, 75, .inl M))] rfl rfl rfl rfl rfl rfl rfl) [0, 1] rfl 0 rfl rfl rfl rfl hl.1 rfl (Nat.le_of_ble_eq_true rfl) dX4_delegateItem_34 ⟨Nat.zero_le _, Nat.zero_le _⟩ (fun H locs hP hD hS => ?_)
    refine W.eq (g2 := F0 m 37 ls []) rfl ?_
    refine lv_aload_n hx hb dX4_delegateItem_37 rfl (lv_at hl 1 rfl) ?_
    refine lv_bipush (v := nI 6) hx hb dX4_delegateItem_38 (by decide) ?_
    refine lv_iconst (v := nI 0) hx hb dX4_delegateItem_40 (by decide) ?_
    refine lv_bipush (v := nI 20) hx hb dX4_delegateItem_41 (by decide) ?_
    refine lv_iconst (v := nI 5) hx hb dX4_delegateItem_43 (by decide) ?_
    by_cases hk6 : pz_k T n (pz_e T n q) = 6
    · by_cases hn6 : pz_nb T n (pz_e T n (pz_e T n q)) 21
      · refine hz_cez (As := [.int (nI 6), .int (nI 0), .int (nI 20), .int (nI 5)]) (rest := []) ⟨hx, hb, hml, hown, hts⟩ (hz_Q_ok aN adK adV) hZ (c4_per_y l D cI cJ (aN := aN) (adK := adK) (adV := adV) (h0 := h0) (am := am) (ak := ak) (aw := aw) (af := af) (at_ := at_) (ab := ab) (as_ := as_) (ac := ac) (kf := kf) (wp := wp) (T := T) (n := n) (q := pz_e T n q) (w := 6) (h := 21) (mo := nI 20) (so := nI 5) (hn := by omega) (hq := by omega) (hw := by omega) (hmo := pz_mo_lit 20 (by decide)) (hk := by first | assumption | rfl) (hnb := by first | assumption | rfl)) (cwV 4 hts gX4_delegateItem_X4_perhaps rfl rfl rfl (by decide +kernel) ⟨Nat.le_of_ble_eq_true rfl, Nat.le_of_ble_eq_true rfl⟩) hK hP hD hS [0, 1] rfl (by decide) (hz_ha [h0, at_] rfl rfl) (w' := [(h0, .inr (4, [.ref am, .ref ak, .ref aw, .int (kf), .ref af, .int (wp), .ref at_, .int (nI n), .int (nI (pz_k T n (pz_e T n (pz_e T n (pz_e T n q))))), .int (nI (pz_b T n (pz_e T n (pz_e T n (pz_e T n q))))), .int (nI (pz_e T n (pz_e T n (pz_e T n (pz_e T n q))))), .int (nI (pz_v T n (pz_e T n (pz_e T n (pz_e T n q))))), .int (nI 0), .ref ab, .ref as_, .ref ac])), (at_, .inl (cI, 120, .inl T)), (am, .inl (cI, 75, .inl M))]) (hz_pt_eq 3 [2] [(am, .inl (cI, 75, .inl M))] rfl rfl rfl rfl rfl rfl rfl) [0, 1] rfl 0 rfl rfl rfl rfl hl.1 rfl (Nat.le_of_ble_eq_true rfl) dX4_delegateItem_44 ⟨Nat.zero_le _, Nat.zero_le _⟩ (fun H locs hP hD hS => ?_)
        refine W.eq (g2 := F0 m 47 ls [.int (nI (pz_v T n (pz_e T n (pz_e T n q))))]) rfl ?_
        refine lv_istore_n (lv' := [(2, .int (nI (pz_v T n (pz_e T n (pz_e T n q))))), (1, .int (nI (pz_k T n q))), (0, .ref h0)]) hx hb dX4_delegateItem_47 rfl hl (by decide) rfl (fun ls hl => ?_)
        refine lv_aload_n hx hb dX4_delegateItem_48 rfl (lv_at hl 2 rfl) ?_
        refine lv_bipush (v := nI 7) hx hb dX4_delegateItem_49 (by decide) ?_
        by_cases hk7 : pz_k T n (pz_e T n (pz_e T n (pz_e T n q))) = 7
        · refine hz_cez (As := [.int (nI 7)]) (rest := []) ⟨hx, hb, hml, hown, hts⟩ (hz_Q_ok aN adK adV) hZ (c4_pass_y l D cI cJ (aN := aN) (adK := adK) (adV := adV) (h0 := h0) (am := am) (ak := ak) (aw := aw) (af := af) (at_ := at_) (ab := ab) (as_ := as_) (ac := ac) (kf := kf) (wp := wp) (T := T) (n := n) (q := pz_e T n (pz_e T n (pz_e T n q))) (w := 7) (hn := by omega) (hq := by omega) (hw := by omega) (hk := by first | assumption | rfl)) (cwV 1 hts gX4_delegateItem_X4_passes rfl rfl rfl (by decide +kernel) ⟨Nat.le_of_ble_eq_true rfl, Nat.le_of_ble_eq_true rfl⟩) hK hP hD hS [0, 1] rfl (by decide) (hz_ha [h0, at_] rfl rfl) (w' := [(h0, .inr (4, [.ref am, .ref ak, .ref aw, .int (kf), .ref af, .int (wp), .ref at_, .int (nI n), .int (nI (pz_k T n (pz_e T n (pz_e T n (pz_e T n (pz_e T n q)))))), .int (nI (pz_b T n (pz_e T n (pz_e T n (pz_e T n (pz_e T n q)))))), .int (nI (pz_e T n (pz_e T n (pz_e T n (pz_e T n (pz_e T n q)))))), .int (nI (pz_v T n (pz_e T n (pz_e T n (pz_e T n (pz_e T n q)))))), .int (nI 0), .ref ab, .ref as_, .ref ac])), (at_, .inl (cI, 120, .inl T)), (am, .inl (cI, 75, .inl M))]) (hz_pt_eq 3 [2] [(am, .inl (cI, 75, .inl M))] rfl rfl rfl rfl rfl rfl rfl) [0, 1] rfl 0 rfl rfl rfl rfl hl.1 rfl (Nat.le_of_ble_eq_true rfl) dX4_delegateItem_51 ⟨Nat.zero_le _, Nat.zero_le _⟩ (fun H locs hP hD hS => ?_)
          refine W.eq (g2 := F0 m 54 ls [.int (nI 1)]) rfl ?_
          refine lv_if_eq (tgt := 64) hx hb dX4_delegateItem_54 (by decide) (fun h => absurd h (by first | decide | omega | exact hz_nneg (by omega) | exact hz_nneg' (by omega))) (fun _ => ?_)
          refine lv_aload_n hx hb dX4_delegateItem_57 rfl (lv_at hl 2 rfl) ?_
          rcases ht : pz_tg T n 4 (nI 0) (pz_e T n (pz_e T n (pz_e T n (pz_e T n q)))) with ⟨q1, ok, s1⟩; have hq1 : q1 ≤ n := (by have h := (pz_tg_b (T := T) (n := n) 4 (nI 0) (pz_e T n (pz_e T n (pz_e T n (pz_e T n q)))) (by omega)).2; rw [ht] at h; exact h); rcases ok with _ | _
          · refine hz_cez (As := []) (rest := []) ⟨hx, hb, hml, hown, hts⟩ (hz_Q_ok aN adK adV) hZ (c4_told_n l D cI cJ (aN := aN) (adK := adK) (adV := adV) (h0 := h0) (am := am) (ak := ak) (aw := aw) (af := af) (at_ := at_) (ab := ab) (as_ := as_) (ac := ac) (kf := kf) (wp := wp) (T := T) (n := n) (q := pz_e T n (pz_e T n (pz_e T n (pz_e T n q)))) (q1 := q1) (s1 := s1) (hn := by omega) (hq := by omega) (ht := by first | assumption | rfl)) (cwV 0 hts gX4_delegateItem_X4_tonguesTold rfl rfl rfl (by decide +kernel) ⟨Nat.le_of_ble_eq_true rfl, Nat.le_of_ble_eq_true rfl⟩) hK hP hD hS [0, 1] rfl (by decide) (hz_ha [h0, at_] rfl rfl) (w' := [(h0, .inr (4, [.ref am, .ref ak, .ref aw, .int (kf), .ref af, .int (wp), .ref at_, .int (nI n), .int (nI (pz_k T n q1)), .int (nI (pz_b T n q1)), .int (nI (pz_e T n q1)), .int (nI (pz_v T n q1)), .int (nI 1), .ref ab, .ref as_, .ref ac])), (at_, .inl (cI, 120, .inl T)), (am, .inl (cI, 75, .inl M))]) (hz_pt_eq 3 [2] [(am, .inl (cI, 75, .inl M))] rfl rfl rfl rfl rfl rfl rfl) [0, 1] rfl 0 rfl rfl rfl rfl hl.1 rfl (Nat.le_of_ble_eq_true rfl) dX4_delegateItem_58 ⟨Nat.zero_le _, Nat.zero_le _⟩ (fun H locs hP hD hS => ?_)
            refine W.eq (g2 := F0 m 61 ls [.int (s1)]) rfl ?_
            refine lv_goto (tgt := 65) hx hb dX4_delegateItem_61 (by decide) ?_
            refine lv_istore_n (lv' := [(3, .int (s1)), (2, .int (nI (pz_v T n (pz_e T n (pz_e T n q))))), (1, .int (nI (pz_k T n q))), (0, .ref h0)]) hx hb dX4_delegateItem_65 rfl hl (by decide) rfl (fun ls hl => ?_)
            refine lv_aload_n hx hb dX4_delegateItem_66 rfl (lv_at hl 3 rfl) ?_
            refine va_get hx hb hts hinX4 hown hK hP 0 rfl rfl 12 (by decide) wd3 (fun _ h => h) rfl dX4_delegateItem_67 ?_
            refine lv_if_ne (tgt := 82) hx hb dX4_delegateItem_70 (by decide) (fun _ => ?_) (fun h => absurd h (by first | decide | omega | exact hz_nneg (by omega) | exact hz_nneg' (by omega)))
            refine hz_ev hx hb hr hlocks ?_ hS dX4_delegateItem_82
            rw [show pz_dl T n M q = (q1, none) by rw [pz_dl, if_neg c14, pz_del, if_pos hk6, if_pos hn6, pz_hs, if_pos hk7, ht]; rfl]
            exact hP
          · refine hz_cez (As := []) (rest := []) ⟨hx, hb, hml, hown, hts⟩ (hz_Q_ok aN adK adV) hZ (c4_told_y l D cI cJ (aN := aN) (adK := adK) (adV := adV) (h0 := h0) (am := am) (ak := ak) (aw := aw) (af := af) (at_ := at_) (ab := ab) (as_ := as_) (ac := ac) (kf := kf) (wp := wp) (T := T) (n := n) (q := pz_e T n (pz_e T n (pz_e T n (pz_e T n q)))) (q1 := q1) (s1 := s1) (hn := by omega) (hq := by omega) (ht := by first | assumption | rfl)) (cwV 0 hts gX4_delegateItem_X4_tonguesTold rfl rfl rfl (by decide +kernel) ⟨Nat.le_of_ble_eq_true rfl, Nat.le_of_ble_eq_true rfl⟩) hK hP hD hS [0, 1] rfl (by decide) (hz_ha [h0, at_] rfl rfl) (w' := [(h0, .inr (4, [.ref am, .ref ak, .ref aw, .int (kf), .ref af, .int (wp), .ref at_, .int (nI n), .int (nI (pz_k T n q1)), .int (nI (pz_b T n q1)), .int (nI (pz_e T n q1)), .int (nI (pz_v T n q1)), .int (nI 0), .ref ab, .ref as_, .ref ac])), (at_, .inl (cI, 120, .inl T)), (am, .inl (cI, 75, .inl M))]) (hz_pt_eq 3 [2] [(am, .inl (cI, 75, .inl M))] rfl rfl rfl rfl rfl rfl rfl) [0, 1] rfl 0 rfl rfl rfl rfl hl.1 rfl (Nat.le_of_ble_eq_true rfl) dX4_delegateItem_58 ⟨Nat.zero_le _, Nat.zero_le _⟩ (fun H locs hP hD hS => ?_)
            refine W.eq (g2 := F0 m 61 ls [.int (s1)]) rfl ?_
            refine lv_goto (tgt := 65) hx hb dX4_delegateItem_61 (by decide) ?_
            refine lv_istore_n (lv' := [(3, .int (s1)), (2, .int (nI (pz_v T n (pz_e T n (pz_e T n q))))), (1, .int (nI (pz_k T n q))), (0, .ref h0)]) hx hb dX4_delegateItem_65 rfl hl (by decide) rfl (fun ls hl => ?_)
            refine lv_aload_n hx hb dX4_delegateItem_66 rfl (lv_at hl 3 rfl) ?_
            refine va_get hx hb hts hinX4 hown hK hP 0 rfl rfl 12 (by decide) wd3 (fun _ h => h) rfl dX4_delegateItem_67 ?_
            refine lv_if_ne (tgt := 82) hx hb dX4_delegateItem_70 (by decide) (fun h => absurd h (by first | decide | omega | exact hz_nneg (by omega) | exact hz_nneg' (by omega))) (fun _ => ?_)
            refine lv_aload_n hx hb dX4_delegateItem_73 rfl (lv_at hl 3 rfl) ?_
            refine lv_iload_n hx hb dX4_delegateItem_74 rfl (lv_at hl 2 rfl) ?_
            refine lv_iload_n hx hb dX4_delegateItem_75 rfl (lv_at hl 1 rfl) ?_
            refine lv_iload_n hx hb dX4_delegateItem_76 rfl (lv_at hl 0 rfl) ?_
            refine hz_ce (As := [.int (nI (pz_k T n q)), .int (nI (pz_v T n (pz_e T n (pz_e T n q)))), .int (s1)]) (rest := []) ⟨hx, hb, hml, hown, hts⟩ (c4_comesAs l D cI cJ (h0 := h0) (am := am) (fs := [.ref am, .ref ak, .ref aw, .int (kf), .ref af, .int (wp), .ref at_, .int (nI n), .int (nI (pz_k T n q1)), .int (nI (pz_b T n q1)), .int (nI (pz_e T n q1)), .int (nI (pz_v T n q1)), .int (nI 0), .ref ab, .ref as_, .ref ac]) (M := M) (k := nI (pz_k T n q)) (q := nI (pz_v T n (pz_e T n (pz_e T n q)))) (t := s1) (hf := by first | assumption | rfl) (hM1 := by first | assumption | rfl) (hD8 := by first | assumption | rfl) (hlt := by omega)) (cwV 3 hts gX4_delegateItem_X4_comesAs rfl rfl rfl (by decide +kernel) ⟨Nat.le_of_ble_eq_true rfl, Nat.le_of_ble_eq_true rfl⟩) hK hP hD hS [0, 2] rfl (by decide) (hz_ha [h0, am] rfl rfl) (w' := [(h0, .inr (4, [.ref am, .ref ak, .ref aw, .int (kf), .ref af, .int (wp), .ref at_, .int (nI n), .int (nI (pz_k T n q1)), .int (nI (pz_b T n q1)), .int (nI (pz_e T n q1)), .int (nI (pz_v T n q1)), .int (nI 0), .ref ab, .ref as_, .ref ac])), (at_, .inl (cI, 120, .inl T)), (am, .inl (cI, 75, .inl (sp_add M (nI (pz_k T n q)) (nI (pz_v T n (pz_e T n (pz_e T n q)))) s1)))]) (hz_pt_eq 3 [1] [(at_, .inl (cI, 120, .inl T))] rfl rfl rfl rfl rfl rfl rfl) [0, 1] rfl 0 rfl rfl rfl rfl hl.1 rfl (Nat.le_of_ble_eq_true rfl) dX4_delegateItem_77 ⟨Nat.zero_le _, Nat.zero_le _⟩ (fun H locs hP hD hS => ?_)
            refine W.eq (g2 := F0 m 80 ls [.int (nI (nD M))]) rfl ?_
            refine lv_istore (lv' := [(4, .int (nI (nD M))), (3, .int (s1)), (2, .int (nI (pz_v T n (pz_e T n (pz_e T n q))))), (1, .int (nI (pz_k T n q))), (0, .ref h0)]) hx hb dX4_delegateItem_80 hl (by decide) rfl (fun ls hl => ?_)
            refine hz_ev hx hb hr hlocks ?_ hS dX4_delegateItem_82
            rw [show pz_dl T n M q = (q1, some (sp_add M (nI (pz_k T n q)) (nI (pz_v T n (pz_e T n (pz_e T n q)))) s1)) by rw [pz_dl, if_neg c14, pz_del, if_pos hk6, if_pos hn6, pz_hs, if_pos hk7, ht]; rfl]
            exact hP
        · refine hz_cez (As := [.int (nI 7)]) (rest := []) ⟨hx, hb, hml, hown, hts⟩ (hz_Q_ok aN adK adV) hZ (c4_pass_n l D cI cJ (aN := aN) (adK := adK) (adV := adV) (h0 := h0) (am := am) (ak := ak) (aw := aw) (af := af) (at_ := at_) (ab := ab) (as_ := as_) (ac := ac) (kf := kf) (wp := wp) (T := T) (n := n) (q := pz_e T n (pz_e T n (pz_e T n q))) (w := 7) (hn := by omega) (hq := by omega) (hw := by omega) (hk := by first | assumption | rfl)) (cwV 1 hts gX4_delegateItem_X4_passes rfl rfl rfl (by decide +kernel) ⟨Nat.le_of_ble_eq_true rfl, Nat.le_of_ble_eq_true rfl⟩) hK hP hD hS [0, 1] rfl (by decide) (hz_ha [h0, at_] rfl rfl) (w' := [(h0, .inr (4, [.ref am, .ref ak, .ref aw, .int (kf), .ref af, .int (wp), .ref at_, .int (nI n), .int (nI (pz_k T n (pz_e T n (pz_e T n (pz_e T n q))))), .int (nI (pz_b T n (pz_e T n (pz_e T n (pz_e T n q))))), .int (nI (pz_e T n (pz_e T n (pz_e T n (pz_e T n q))))), .int (nI (pz_v T n (pz_e T n (pz_e T n (pz_e T n q))))), .int (nI 0), .ref ab, .ref as_, .ref ac])), (at_, .inl (cI, 120, .inl T)), (am, .inl (cI, 75, .inl M))]) (hz_pt_eq 3 [2] [(am, .inl (cI, 75, .inl M))] rfl rfl rfl rfl rfl rfl rfl) [0, 1] rfl 0 rfl rfl rfl rfl hl.1 rfl (Nat.le_of_ble_eq_true rfl) dX4_delegateItem_51 ⟨Nat.zero_le _, Nat.zero_le _⟩ (fun H locs hP hD hS => ?_)
          refine W.eq (g2 := F0 m 54 ls [.int (nI 0)]) rfl ?_
          refine lv_if_eq (tgt := 64) hx hb dX4_delegateItem_54 (by decide) (fun _ => ?_) (fun h => absurd h (by first | decide | omega | exact hz_nneg (by omega) | exact hz_nneg' (by omega)))
          refine lv_iconst (v := nI 1) hx hb dX4_delegateItem_64 (by decide) ?_
          refine lv_istore_n (lv' := [(3, .int (nI 1)), (2, .int (nI (pz_v T n (pz_e T n (pz_e T n q))))), (1, .int (nI (pz_k T n q))), (0, .ref h0)]) hx hb dX4_delegateItem_65 rfl hl (by decide) rfl (fun ls hl => ?_)
          refine lv_aload_n hx hb dX4_delegateItem_66 rfl (lv_at hl 3 rfl) ?_
          refine va_get hx hb hts hinX4 hown hK hP 0 rfl rfl 12 (by decide) wd3 (fun _ h => h) rfl dX4_delegateItem_67 ?_
          refine lv_if_ne (tgt := 82) hx hb dX4_delegateItem_70 (by decide) (fun h => absurd h (by first | decide | omega | exact hz_nneg (by omega) | exact hz_nneg' (by omega))) (fun _ => ?_)
          refine lv_aload_n hx hb dX4_delegateItem_73 rfl (lv_at hl 3 rfl) ?_
          refine lv_iload_n hx hb dX4_delegateItem_74 rfl (lv_at hl 2 rfl) ?_
          refine lv_iload_n hx hb dX4_delegateItem_75 rfl (lv_at hl 1 rfl) ?_
          refine lv_iload_n hx hb dX4_delegateItem_76 rfl (lv_at hl 0 rfl) ?_
          refine hz_ce (As := [.int (nI (pz_k T n q)), .int (nI (pz_v T n (pz_e T n (pz_e T n q)))), .int (nI 1)]) (rest := []) ⟨hx, hb, hml, hown, hts⟩ (c4_comesAs l D cI cJ (h0 := h0) (am := am) (fs := [.ref am, .ref ak, .ref aw, .int (kf), .ref af, .int (wp), .ref at_, .int (nI n), .int (nI (pz_k T n (pz_e T n (pz_e T n (pz_e T n q))))), .int (nI (pz_b T n (pz_e T n (pz_e T n (pz_e T n q))))), .int (nI (pz_e T n (pz_e T n (pz_e T n (pz_e T n q))))), .int (nI (pz_v T n (pz_e T n (pz_e T n (pz_e T n q))))), .int (nI 0), .ref ab, .ref as_, .ref ac]) (M := M) (k := nI (pz_k T n q)) (q := nI (pz_v T n (pz_e T n (pz_e T n q)))) (t := nI 1) (hf := by first | assumption | rfl) (hM1 := by first | assumption | rfl) (hD8 := by first | assumption | rfl) (hlt := by omega)) (cwV 3 hts gX4_delegateItem_X4_comesAs rfl rfl rfl (by decide +kernel) ⟨Nat.le_of_ble_eq_true rfl, Nat.le_of_ble_eq_true rfl⟩) hK hP hD hS [0, 2] rfl (by decide) (hz_ha [h0, am] rfl rfl) (w' := [(h0, .inr (4, [.ref am, .ref ak, .ref aw, .int (kf), .ref af, .int (wp), .ref at_, .int (nI n), .int (nI (pz_k T n (pz_e T n (pz_e T n (pz_e T n q))))), .int (nI (pz_b T n (pz_e T n (pz_e T n (pz_e T n q))))), .int (nI (pz_e T n (pz_e T n (pz_e T n (pz_e T n q))))), .int (nI (pz_v T n (pz_e T n (pz_e T n (pz_e T n q))))), .int (nI 0), .ref ab, .ref as_, .ref ac])), (at_, .inl (cI, 120, .inl T)), (am, .inl (cI, 75, .inl (sp_add M (nI (pz_k T n q)) (nI (pz_v T n (pz_e T n (pz_e T n q)))) (nI 1))))]) (hz_pt_eq 3 [1] [(at_, .inl (cI, 120, .inl T))] rfl rfl rfl rfl rfl rfl rfl) [0, 1] rfl 0 rfl rfl rfl rfl hl.1 rfl (Nat.le_of_ble_eq_true rfl) dX4_delegateItem_77 ⟨Nat.zero_le _, Nat.zero_le _⟩ (fun H locs hP hD hS => ?_)
          refine W.eq (g2 := F0 m 80 ls [.int (nI (nD M))]) rfl ?_
          refine lv_istore (lv' := [(4, .int (nI (nD M))), (3, .int (nI 1)), (2, .int (nI (pz_v T n (pz_e T n (pz_e T n q))))), (1, .int (nI (pz_k T n q))), (0, .ref h0)]) hx hb dX4_delegateItem_80 hl (by decide) rfl (fun ls hl => ?_)
          refine hz_ev hx hb hr hlocks ?_ hS dX4_delegateItem_82
          rw [show pz_dl T n M q = (pz_e T n (pz_e T n (pz_e T n q)), some (sp_add M (nI (pz_k T n q)) (nI (pz_v T n (pz_e T n (pz_e T n q)))) (nI 1))) by rw [pz_dl, if_neg c14, pz_del, if_pos hk6, if_pos hn6, pz_hs, if_neg hk7]]
          exact hP
      · refine hz_cez (As := [.int (nI 6), .int (nI 0), .int (nI 20), .int (nI 5)]) (rest := []) ⟨hx, hb, hml, hown, hts⟩ (hz_Q_ok aN adK adV) hZ (c4_per_n l D cI cJ (aN := aN) (adK := adK) (adV := adV) (h0 := h0) (am := am) (ak := ak) (aw := aw) (af := af) (at_ := at_) (ab := ab) (as_ := as_) (ac := ac) (kf := kf) (wp := wp) (T := T) (n := n) (q := pz_e T n q) (w := 6) (h := 21) (mo := nI 20) (so := nI 5) (hn := by omega) (hq := by omega) (hw := by omega) (hmo := pz_mo_lit 20 (by decide)) (hk := by first | assumption | rfl) (hnb := by first | assumption | rfl)) (cwV 4 hts gX4_delegateItem_X4_perhaps rfl rfl rfl (by decide +kernel) ⟨Nat.le_of_ble_eq_true rfl, Nat.le_of_ble_eq_true rfl⟩) hK hP hD hS [0, 1] rfl (by decide) (hz_ha [h0, at_] rfl rfl) (w' := [(h0, .inr (4, [.ref am, .ref ak, .ref aw, .int (kf), .ref af, .int (wp), .ref at_, .int (nI n), .int (nI (pz_k T n (pz_e T n (pz_e T n q)))), .int (nI (pz_b T n (pz_e T n (pz_e T n q)))), .int (nI (pz_e T n (pz_e T n (pz_e T n q)))), .int (nI (pz_v T n (pz_e T n (pz_e T n q)))), .int (nI 1), .ref ab, .ref as_, .ref ac])), (at_, .inl (cI, 120, .inl T)), (am, .inl (cI, 75, .inl M))]) (hz_pt_eq 3 [2] [(am, .inl (cI, 75, .inl M))] rfl rfl rfl rfl rfl rfl rfl) [0, 1] rfl 0 rfl rfl rfl rfl hl.1 rfl (Nat.le_of_ble_eq_true rfl) dX4_delegateItem_44 ⟨Nat.zero_le _, Nat.zero_le _⟩ (fun H locs hP hD hS => ?_)
        refine W.eq (g2 := F0 m 47 ls [.int (nI (pz_v T n (pz_e T n (pz_e T n q))))]) rfl ?_
        refine lv_istore_n (lv' := [(2, .int (nI (pz_v T n (pz_e T n (pz_e T n q))))), (1, .int (nI (pz_k T n q))), (0, .ref h0)]) hx hb dX4_delegateItem_47 rfl hl (by decide) rfl (fun ls hl => ?_)
        refine lv_aload_n hx hb dX4_delegateItem_48 rfl (lv_at hl 2 rfl) ?_
        refine lv_bipush (v := nI 7) hx hb dX4_delegateItem_49 (by decide) ?_
        refine hz_cez (As := [.int (nI 7)]) (rest := []) ⟨hx, hb, hml, hown, hts⟩ (hz_Q_ok aN adK adV) hZ (c4_pass_b l D cI cJ (aN := aN) (adK := adK) (adV := adV) (h0 := h0) (am := am) (ak := ak) (aw := aw) (af := af) (at_ := at_) (ab := ab) (as_ := as_) (ac := ac) (kf := kf) (wp := wp) (T := T) (n := n) (q := pz_e T n (pz_e T n q)) (w := 7) (hn := by omega) (hq := by omega) (hw := by omega)) (cwV 1 hts gX4_delegateItem_X4_passes rfl rfl rfl (by decide +kernel) ⟨Nat.le_of_ble_eq_true rfl, Nat.le_of_ble_eq_true rfl⟩) hK hP hD hS [0, 1] rfl (by decide) (hz_ha [h0, at_] rfl rfl) (w' := [(h0, .inr (4, [.ref am, .ref ak, .ref aw, .int (kf), .ref af, .int (wp), .ref at_, .int (nI n), .int (nI (pz_k T n (pz_e T n (pz_e T n q)))), .int (nI (pz_b T n (pz_e T n (pz_e T n q)))), .int (nI (pz_e T n (pz_e T n (pz_e T n q)))), .int (nI (pz_v T n (pz_e T n (pz_e T n q)))), .int (nI 1), .ref ab, .ref as_, .ref ac])), (at_, .inl (cI, 120, .inl T)), (am, .inl (cI, 75, .inl M))]) (hz_pt_eq 3 [2] [(am, .inl (cI, 75, .inl M))] rfl rfl rfl rfl rfl rfl rfl) [0, 1] rfl 0 rfl rfl rfl rfl hl.1 rfl (Nat.le_of_ble_eq_true rfl) dX4_delegateItem_51 ⟨Nat.zero_le _, Nat.zero_le _⟩ (fun H locs hP hD hS => ?_)
        refine W.eq (g2 := F0 m 54 ls [.int (nI 0)]) rfl ?_
        refine lv_if_eq (tgt := 64) hx hb dX4_delegateItem_54 (by decide) (fun _ => ?_) (fun h => absurd h (by first | decide | omega | exact hz_nneg (by omega) | exact hz_nneg' (by omega)))
        refine lv_iconst (v := nI 1) hx hb dX4_delegateItem_64 (by decide) ?_
        refine lv_istore_n (lv' := [(3, .int (nI 1)), (2, .int (nI (pz_v T n (pz_e T n (pz_e T n q))))), (1, .int (nI (pz_k T n q))), (0, .ref h0)]) hx hb dX4_delegateItem_65 rfl hl (by decide) rfl (fun ls hl => ?_)
        refine lv_aload_n hx hb dX4_delegateItem_66 rfl (lv_at hl 3 rfl) ?_
        refine va_get hx hb hts hinX4 hown hK hP 0 rfl rfl 12 (by decide) wd3 (fun _ h => h) rfl dX4_delegateItem_67 ?_
        refine lv_if_ne (tgt := 82) hx hb dX4_delegateItem_70 (by decide) (fun _ => ?_) (fun h => absurd h (by first | decide | omega | exact hz_nneg (by omega) | exact hz_nneg' (by omega)))
        refine hz_ev hx hb hr hlocks ?_ hS dX4_delegateItem_82
        rw [show pz_dl T n M q = (pz_e T n (pz_e T n q), none) by rw [pz_dl, if_neg c14, pz_del, if_pos hk6, if_neg hn6]]
        exact hP
    · refine hz_cez (As := [.int (nI 6), .int (nI 0), .int (nI 20), .int (nI 5)]) (rest := []) ⟨hx, hb, hml, hown, hts⟩ (hz_Q_ok aN adK adV) hZ (c4_per_o l D cI cJ (aN := aN) (adK := adK) (adV := adV) (h0 := h0) (am := am) (ak := ak) (aw := aw) (af := af) (at_ := at_) (ab := ab) (as_ := as_) (ac := ac) (kf := kf) (wp := wp) (T := T) (n := n) (q := pz_e T n q) (w := 6) (mo := nI 20) (so := nI 5) (hn := by omega) (hq := by omega) (hw := by omega) (hk := by first | assumption | rfl)) (cwV 4 hts gX4_delegateItem_X4_perhaps rfl rfl rfl (by decide +kernel) ⟨Nat.le_of_ble_eq_true rfl, Nat.le_of_ble_eq_true rfl⟩) hK hP hD hS [0, 1] rfl (by decide) (hz_ha [h0, at_] rfl rfl) (w' := [(h0, .inr (4, [.ref am, .ref ak, .ref aw, .int (kf), .ref af, .int (wp), .ref at_, .int (nI n), .int (nI (pz_k T n (pz_e T n q))), .int (nI (pz_b T n (pz_e T n q))), .int (nI (pz_e T n (pz_e T n q))), .int (nI (pz_v T n (pz_e T n q))), .int (nI 0), .ref ab, .ref as_, .ref ac])), (at_, .inl (cI, 120, .inl T)), (am, .inl (cI, 75, .inl M))]) (hz_pt_eq 3 [2] [(am, .inl (cI, 75, .inl M))] rfl rfl rfl rfl rfl rfl rfl) [0, 1] rfl 0 rfl rfl rfl rfl hl.1 rfl (Nat.le_of_ble_eq_true rfl) dX4_delegateItem_44 ⟨Nat.zero_le _, Nat.zero_le _⟩ (fun H locs hP hD hS => ?_)
      refine W.eq (g2 := F0 m 47 ls [.int ((nI 5))]) rfl ?_
      refine lv_istore_n (lv' := [(2, .int ((nI 5))), (1, .int (nI (pz_k T n q))), (0, .ref h0)]) hx hb dX4_delegateItem_47 rfl hl (by decide) rfl (fun ls hl => ?_)
      refine lv_aload_n hx hb dX4_delegateItem_48 rfl (lv_at hl 2 rfl) ?_
      refine lv_bipush (v := nI 7) hx hb dX4_delegateItem_49 (by decide) ?_
      by_cases hk7 : pz_k T n (pz_e T n q) = 7
      · refine hz_cez (As := [.int (nI 7)]) (rest := []) ⟨hx, hb, hml, hown, hts⟩ (hz_Q_ok aN adK adV) hZ (c4_pass_y l D cI cJ (aN := aN) (adK := adK) (adV := adV) (h0 := h0) (am := am) (ak := ak) (aw := aw) (af := af) (at_ := at_) (ab := ab) (as_ := as_) (ac := ac) (kf := kf) (wp := wp) (T := T) (n := n) (q := pz_e T n q) (w := 7) (hn := by omega) (hq := by omega) (hw := by omega) (hk := by first | assumption | rfl)) (cwV 1 hts gX4_delegateItem_X4_passes rfl rfl rfl (by decide +kernel) ⟨Nat.le_of_ble_eq_true rfl, Nat.le_of_ble_eq_true rfl⟩) hK hP hD hS [0, 1] rfl (by decide) (hz_ha [h0, at_] rfl rfl) (w' := [(h0, .inr (4, [.ref am, .ref ak, .ref aw, .int (kf), .ref af, .int (wp), .ref at_, .int (nI n), .int (nI (pz_k T n (pz_e T n (pz_e T n q)))), .int (nI (pz_b T n (pz_e T n (pz_e T n q)))), .int (nI (pz_e T n (pz_e T n (pz_e T n q)))), .int (nI (pz_v T n (pz_e T n (pz_e T n q)))), .int (nI 0), .ref ab, .ref as_, .ref ac])), (at_, .inl (cI, 120, .inl T)), (am, .inl (cI, 75, .inl M))]) (hz_pt_eq 3 [2] [(am, .inl (cI, 75, .inl M))] rfl rfl rfl rfl rfl rfl rfl) [0, 1] rfl 0 rfl rfl rfl rfl hl.1 rfl (Nat.le_of_ble_eq_true rfl) dX4_delegateItem_51 ⟨Nat.zero_le _, Nat.zero_le _⟩ (fun H locs hP hD hS => ?_)
        refine W.eq (g2 := F0 m 54 ls [.int (nI 1)]) rfl ?_
        refine lv_if_eq (tgt := 64) hx hb dX4_delegateItem_54 (by decide) (fun h => absurd h (by first | decide | omega | exact hz_nneg (by omega) | exact hz_nneg' (by omega))) (fun _ => ?_)
        refine lv_aload_n hx hb dX4_delegateItem_57 rfl (lv_at hl 2 rfl) ?_
        rcases ht : pz_tg T n 4 (nI 0) (pz_e T n (pz_e T n q)) with ⟨q1, ok, s1⟩; have hq1 : q1 ≤ n := (by have h := (pz_tg_b (T := T) (n := n) 4 (nI 0) (pz_e T n (pz_e T n q)) (by omega)).2; rw [ht] at h; exact h); rcases ok with _ | _
        · refine hz_cez (As := []) (rest := []) ⟨hx, hb, hml, hown, hts⟩ (hz_Q_ok aN adK adV) hZ (c4_told_n l D cI cJ (aN := aN) (adK := adK) (adV := adV) (h0 := h0) (am := am) (ak := ak) (aw := aw) (af := af) (at_ := at_) (ab := ab) (as_ := as_) (ac := ac) (kf := kf) (wp := wp) (T := T) (n := n) (q := pz_e T n (pz_e T n q)) (q1 := q1) (s1 := s1) (hn := by omega) (hq := by omega) (ht := by first | assumption | rfl)) (cwV 0 hts gX4_delegateItem_X4_tonguesTold rfl rfl rfl (by decide +kernel) ⟨Nat.le_of_ble_eq_true rfl, Nat.le_of_ble_eq_true rfl⟩) hK hP hD hS [0, 1] rfl (by decide) (hz_ha [h0, at_] rfl rfl) (w' := [(h0, .inr (4, [.ref am, .ref ak, .ref aw, .int (kf), .ref af, .int (wp), .ref at_, .int (nI n), .int (nI (pz_k T n q1)), .int (nI (pz_b T n q1)), .int (nI (pz_e T n q1)), .int (nI (pz_v T n q1)), .int (nI 1), .ref ab, .ref as_, .ref ac])), (at_, .inl (cI, 120, .inl T)), (am, .inl (cI, 75, .inl M))]) (hz_pt_eq 3 [2] [(am, .inl (cI, 75, .inl M))] rfl rfl rfl rfl rfl rfl rfl) [0, 1] rfl 0 rfl rfl rfl rfl hl.1 rfl (Nat.le_of_ble_eq_true rfl) dX4_delegateItem_58 ⟨Nat.zero_le _, Nat.zero_le _⟩ (fun H locs hP hD hS => ?_)
          refine W.eq (g2 := F0 m 61 ls [.int (s1)]) rfl ?_
          refine lv_goto (tgt := 65) hx hb dX4_delegateItem_61 (by decide) ?_
          refine lv_istore_n (lv' := [(3, .int (s1)), (2, .int ((nI 5))), (1, .int (nI (pz_k T n q))), (0, .ref h0)]) hx hb dX4_delegateItem_65 rfl hl (by decide) rfl (fun ls hl => ?_)
          refine lv_aload_n hx hb dX4_delegateItem_66 rfl (lv_at hl 3 rfl) ?_
          refine va_get hx hb hts hinX4 hown hK hP 0 rfl rfl 12 (by decide) wd3 (fun _ h => h) rfl dX4_delegateItem_67 ?_
          refine lv_if_ne (tgt := 82) hx hb dX4_delegateItem_70 (by decide) (fun _ => ?_) (fun h => absurd h (by first | decide | omega | exact hz_nneg (by omega) | exact hz_nneg' (by omega)))
          refine hz_ev hx hb hr hlocks ?_ hS dX4_delegateItem_82
          rw [show pz_dl T n M q = (q1, none) by rw [pz_dl, if_neg c14, pz_del, if_neg hk6, pz_hs, if_pos hk7, ht]; rfl]
          exact hP
        · refine hz_cez (As := []) (rest := []) ⟨hx, hb, hml, hown, hts⟩ (hz_Q_ok aN adK adV) hZ (c4_told_y l D cI cJ (aN := aN) (adK := adK) (adV := adV) (h0 := h0) (am := am) (ak := ak) (aw := aw) (af := af) (at_ := at_) (ab := ab) (as_ := as_) (ac := ac) (kf := kf) (wp := wp) (T := T) (n := n) (q := pz_e T n (pz_e T n q)) (q1 := q1) (s1 := s1) (hn := by omega) (hq := by omega) (ht := by first | assumption | rfl)) (cwV 0 hts gX4_delegateItem_X4_tonguesTold rfl rfl rfl (by decide +kernel) ⟨Nat.le_of_ble_eq_true rfl, Nat.le_of_ble_eq_true rfl⟩) hK hP hD hS [0, 1] rfl (by decide) (hz_ha [h0, at_] rfl rfl) (w' := [(h0, .inr (4, [.ref am, .ref ak, .ref aw, .int (kf), .ref af, .int (wp), .ref at_, .int (nI n), .int (nI (pz_k T n q1)), .int (nI (pz_b T n q1)), .int (nI (pz_e T n q1)), .int (nI (pz_v T n q1)), .int (nI 0), .ref ab, .ref as_, .ref ac])), (at_, .inl (cI, 120, .inl T)), (am, .inl (cI, 75, .inl M))]) (hz_pt_eq 3 [2] [(am, .inl (cI, 75, .inl M))] rfl rfl rfl rfl rfl rfl rfl) [0, 1] rfl 0 rfl rfl rfl rfl hl.1 rfl (Nat.le_of_ble_eq_true rfl) dX4_delegateItem_58 ⟨Nat.zero_le _, Nat.zero_le _⟩ (fun H locs hP hD hS => ?_)
          refine W.eq (g2 := F0 m 61 ls [.int (s1)]) rfl ?_
          refine lv_goto (tgt := 65) hx hb dX4_delegateItem_61 (by decide) ?_
          refine lv_istore_n (lv' := [(3, .int (s1)), (2, .int ((nI 5))), (1, .int (nI (pz_k T n q))), (0, .ref h0)]) hx hb dX4_delegateItem_65 rfl hl (by decide) rfl (fun ls hl => ?_)
          refine lv_aload_n hx hb dX4_delegateItem_66 rfl (lv_at hl 3 rfl) ?_
          refine va_get hx hb hts hinX4 hown hK hP 0 rfl rfl 12 (by decide) wd3 (fun _ h => h) rfl dX4_delegateItem_67 ?_
          refine lv_if_ne (tgt := 82) hx hb dX4_delegateItem_70 (by decide) (fun h => absurd h (by first | decide | omega | exact hz_nneg (by omega) | exact hz_nneg' (by omega))) (fun _ => ?_)
          refine lv_aload_n hx hb dX4_delegateItem_73 rfl (lv_at hl 3 rfl) ?_
          refine lv_iload_n hx hb dX4_delegateItem_74 rfl (lv_at hl 2 rfl) ?_
          refine lv_iload_n hx hb dX4_delegateItem_75 rfl (lv_at hl 1 rfl) ?_
          refine lv_iload_n hx hb dX4_delegateItem_76 rfl (lv_at hl 0 rfl) ?_
          refine hz_ce (As := [.int (nI (pz_k T n q)), .int ((nI 5)), .int (s1)]) (rest := []) ⟨hx, hb, hml, hown, hts⟩ (c4_comesAs l D cI cJ (h0 := h0) (am := am) (fs := [.ref am, .ref ak, .ref aw, .int (kf), .ref af, .int (wp), .ref at_, .int (nI n), .int (nI (pz_k T n q1)), .int (nI (pz_b T n q1)), .int (nI (pz_e T n q1)), .int (nI (pz_v T n q1)), .int (nI 0), .ref ab, .ref as_, .ref ac]) (M := M) (k := nI (pz_k T n q)) (q := (nI 5)) (t := s1) (hf := by first | assumption | rfl) (hM1 := by first | assumption | rfl) (hD8 := by first | assumption | rfl) (hlt := by omega)) (cwV 3 hts gX4_delegateItem_X4_comesAs rfl rfl rfl (by decide +kernel) ⟨Nat.le_of_ble_eq_true rfl, Nat.le_of_ble_eq_true rfl⟩) hK hP hD hS [0, 2] rfl (by decide) (hz_ha [h0, am] rfl rfl) (w' := [(h0, .inr (4, [.ref am, .ref ak, .ref aw, .int (kf), .ref af, .int (wp), .ref at_, .int (nI n), .int (nI (pz_k T n q1)), .int (nI (pz_b T n q1)), .int (nI (pz_e T n q1)), .int (nI (pz_v T n q1)), .int (nI 0), .ref ab, .ref as_, .ref ac])), (at_, .inl (cI, 120, .inl T)), (am, .inl (cI, 75, .inl (sp_add M (nI (pz_k T n q)) ((nI 5)) s1)))]) (hz_pt_eq 3 [1] [(at_, .inl (cI, 120, .inl T))] rfl rfl rfl rfl rfl rfl rfl) [0, 1] rfl 0 rfl rfl rfl rfl hl.1 rfl (Nat.le_of_ble_eq_true rfl) dX4_delegateItem_77 ⟨Nat.zero_le _, Nat.zero_le _⟩ (fun H locs hP hD hS => ?_)
          refine W.eq (g2 := F0 m 80 ls [.int (nI (nD M))]) rfl ?_
          refine lv_istore (lv' := [(4, .int (nI (nD M))), (3, .int (s1)), (2, .int ((nI 5))), (1, .int (nI (pz_k T n q))), (0, .ref h0)]) hx hb dX4_delegateItem_80 hl (by decide) rfl (fun ls hl => ?_)
          refine hz_ev hx hb hr hlocks ?_ hS dX4_delegateItem_82
          rw [show pz_dl T n M q = (q1, some (sp_add M (nI (pz_k T n q)) (nI 5) s1)) by rw [pz_dl, if_neg c14, pz_del, if_neg hk6, pz_hs, if_pos hk7, ht]; rfl]
          exact hP
      · refine hz_cez (As := [.int (nI 7)]) (rest := []) ⟨hx, hb, hml, hown, hts⟩ (hz_Q_ok aN adK adV) hZ (c4_pass_n l D cI cJ (aN := aN) (adK := adK) (adV := adV) (h0 := h0) (am := am) (ak := ak) (aw := aw) (af := af) (at_ := at_) (ab := ab) (as_ := as_) (ac := ac) (kf := kf) (wp := wp) (T := T) (n := n) (q := pz_e T n q) (w := 7) (hn := by omega) (hq := by omega) (hw := by omega) (hk := by first | assumption | rfl)) (cwV 1 hts gX4_delegateItem_X4_passes rfl rfl rfl (by decide +kernel) ⟨Nat.le_of_ble_eq_true rfl, Nat.le_of_ble_eq_true rfl⟩) hK hP hD hS [0, 1] rfl (by decide) (hz_ha [h0, at_] rfl rfl) (w' := [(h0, .inr (4, [.ref am, .ref ak, .ref aw, .int (kf), .ref af, .int (wp), .ref at_, .int (nI n), .int (nI (pz_k T n (pz_e T n q))), .int (nI (pz_b T n (pz_e T n q))), .int (nI (pz_e T n (pz_e T n q))), .int (nI (pz_v T n (pz_e T n q))), .int (nI 0), .ref ab, .ref as_, .ref ac])), (at_, .inl (cI, 120, .inl T)), (am, .inl (cI, 75, .inl M))]) (hz_pt_eq 3 [2] [(am, .inl (cI, 75, .inl M))] rfl rfl rfl rfl rfl rfl rfl) [0, 1] rfl 0 rfl rfl rfl rfl hl.1 rfl (Nat.le_of_ble_eq_true rfl) dX4_delegateItem_51 ⟨Nat.zero_le _, Nat.zero_le _⟩ (fun H locs hP hD hS => ?_)
        refine W.eq (g2 := F0 m 54 ls [.int (nI 0)]) rfl ?_
        refine lv_if_eq (tgt := 64) hx hb dX4_delegateItem_54 (by decide) (fun _ => ?_) (fun h => absurd h (by first | decide | omega | exact hz_nneg (by omega) | exact hz_nneg' (by omega)))
        refine lv_iconst (v := nI 1) hx hb dX4_delegateItem_64 (by decide) ?_
        refine lv_istore_n (lv' := [(3, .int (nI 1)), (2, .int ((nI 5))), (1, .int (nI (pz_k T n q))), (0, .ref h0)]) hx hb dX4_delegateItem_65 rfl hl (by decide) rfl (fun ls hl => ?_)
        refine lv_aload_n hx hb dX4_delegateItem_66 rfl (lv_at hl 3 rfl) ?_
        refine va_get hx hb hts hinX4 hown hK hP 0 rfl rfl 12 (by decide) wd3 (fun _ h => h) rfl dX4_delegateItem_67 ?_
        refine lv_if_ne (tgt := 82) hx hb dX4_delegateItem_70 (by decide) (fun h => absurd h (by first | decide | omega | exact hz_nneg (by omega) | exact hz_nneg' (by omega))) (fun _ => ?_)
        refine lv_aload_n hx hb dX4_delegateItem_73 rfl (lv_at hl 3 rfl) ?_
        refine lv_iload_n hx hb dX4_delegateItem_74 rfl (lv_at hl 2 rfl) ?_
        refine lv_iload_n hx hb dX4_delegateItem_75 rfl (lv_at hl 1 rfl) ?_
        refine lv_iload_n hx hb dX4_delegateItem_76 rfl (lv_at hl 0 rfl) ?_
        refine hz_ce (As := [.int (nI (pz_k T n q)), .int ((nI 5)), .int (nI 1)]) (rest := []) ⟨hx, hb, hml, hown, hts⟩ (c4_comesAs l D cI cJ (h0 := h0) (am := am) (fs := [.ref am, .ref ak, .ref aw, .int (kf), .ref af, .int (wp), .ref at_, .int (nI n), .int (nI (pz_k T n (pz_e T n q))), .int (nI (pz_b T n (pz_e T n q))), .int (nI (pz_e T n (pz_e T n q))), .int (nI (pz_v T n (pz_e T n q))), .int (nI 0), .ref ab, .ref as_, .ref ac]) (M := M) (k := nI (pz_k T n q)) (q := (nI 5)) (t := nI 1) (hf := by first | assumption | rfl) (hM1 := by first | assumption | rfl) (hD8 := by first | assumption | rfl) (hlt := by omega)) (cwV 3 hts gX4_delegateItem_X4_comesAs rfl rfl rfl (by decide +kernel) ⟨Nat.le_of_ble_eq_true rfl, Nat.le_of_ble_eq_true rfl⟩) hK hP hD hS [0, 2] rfl (by decide) (hz_ha [h0, am] rfl rfl) (w' := [(h0, .inr (4, [.ref am, .ref ak, .ref aw, .int (kf), .ref af, .int (wp), .ref at_, .int (nI n), .int (nI (pz_k T n (pz_e T n q))), .int (nI (pz_b T n (pz_e T n q))), .int (nI (pz_e T n (pz_e T n q))), .int (nI (pz_v T n (pz_e T n q))), .int (nI 0), .ref ab, .ref as_, .ref ac])), (at_, .inl (cI, 120, .inl T)), (am, .inl (cI, 75, .inl (sp_add M (nI (pz_k T n q)) ((nI 5)) (nI 1))))]) (hz_pt_eq 3 [1] [(at_, .inl (cI, 120, .inl T))] rfl rfl rfl rfl rfl rfl rfl) [0, 1] rfl 0 rfl rfl rfl rfl hl.1 rfl (Nat.le_of_ble_eq_true rfl) dX4_delegateItem_77 ⟨Nat.zero_le _, Nat.zero_le _⟩ (fun H locs hP hD hS => ?_)
        refine W.eq (g2 := F0 m 80 ls [.int (nI (nD M))]) rfl ?_
        refine lv_istore (lv' := [(4, .int (nI (nD M))), (3, .int (nI 1)), (2, .int ((nI 5))), (1, .int (nI (pz_k T n q))), (0, .ref h0)]) hx hb dX4_delegateItem_80 hl (by decide) rfl (fun ls hl => ?_)
        refine hz_ev hx hb hr hlocks ?_ hS dX4_delegateItem_82
        rw [show pz_dl T n M q = (pz_e T n q, some (sp_add M (nI (pz_k T n q)) (nI 5) (nI 1))) by rw [pz_dl, if_neg c14, pz_del, if_neg hk6, pz_hs, if_neg hk7]]
        exact hP
  · refine lv_iconst (v := nI 1) hx hb dX4_delegateItem_17 (by decide) ?_
    refine lv_goto (tgt := 22) hx hb dX4_delegateItem_18 (by decide) ?_
    refine va_put hx hb hts hinX4 tyX4 tyX4_ok nmX4 hown hK hP hD hS 0 rfl rfl 12 (by decide) wd3 (fun _ h => h) rfl (tyX4_ok 12 (by decide)) rfl rfl (Nat.le_of_ble_eq_true rfl) dX4_delegateItem_22 (fun H locs hP hD hS => ?_)
    have hP : va_P D zcl [(h0, .inr (4, [.ref am, .ref ak, .ref aw, .int (kf), .ref af, .int (wp), .ref at_, .int (nI n), .int (nI (pz_k T n q)), .int (nI (pz_b T n q)), .int (nI (pz_e T n q)), .int (nI (pz_v T n q)), .int (nI 1), .ref ab, .ref as_, .ref ac])), (at_, .inl (cI, 120, .inl T)), (am, .inl (cI, 75, .inl M))] H := hP
    have hD : va_D (hz_a [(h0, .inr (4, [.ref am, .ref ak, .ref aw, .int (kf), .ref af, .int (wp), .ref at_, .int (nI n), .int (nI (pz_k T n q)), .int (nI (pz_b T n q)), .int (nI (pz_e T n q)), .int (nI (pz_v T n q)), .int (bd), .ref ab, .ref as_, .ref ac])), (at_, .inl (cI, 120, .inl T)), (am, .inl (cI, 75, .inl M))]) [(h0, .inr (4, [.ref am, .ref ak, .ref aw, .int (kf), .ref af, .int (wp), .ref at_, .int (nI n), .int (nI (pz_k T n q)), .int (nI (pz_b T n q)), .int (nI (pz_e T n q)), .int (nI (pz_v T n q)), .int (nI 1), .ref ab, .ref as_, .ref ac])), (at_, .inl (cI, 120, .inl T)), (am, .inl (cI, 75, .inl M))] := hD
    refine lv_aload_n hx hb dX4_delegateItem_25 rfl (lv_at hl 1 rfl) ?_
    refine va_get hx hb hts hinX4 hown hK hP 0 rfl rfl 12 (by decide) wd3 (fun _ h => h) rfl dX4_delegateItem_26 ?_
    refine lv_if_eq (tgt := 33) hx hb dX4_delegateItem_29 (by decide) (fun h => absurd h (by first | decide | omega | exact hz_nneg (by omega) | exact hz_nneg' (by omega))) (fun _ => ?_)
    refine hz_ev hx hb hr hlocks ?_ hS dX4_delegateItem_32
    rw [show pz_dl T n M q = (q, none) from if_pos c14]
    exact hP
set_option maxHeartbeats 4000000 in
set_option maxRecDepth 100000 in
theorem c4_sl (l : Launch) (D : va_G) (cI cJ : ClassId) (aN : Nat) (adK adV : Nat → Nat) (h0 am ak aw af at_ ab as_ ac : Nat) (kf wp : Int32) (bd : Int32) (M : Nat → Int32) (T : Nat → Int32) (n : Nat) (q : Nat) (hn : n ≤ 120) (hq : q ≤ n) (hM1 : M 1 = nI (nD M)) (hD8 : nD M ≤ 8) (hM2 : M 2 = nI (nS M)) (hS8 : nS M ≤ 8) : hz_MEz (hz_Q aN adK adV) l yX4_speechItem wsX4_speechItem { frames := 5, cells := 0, slots := 0, locals := 113 } [.ref h0] D zcl [(cI, .int), (cJ, .long)] [(h0, .inr (4, [.ref am, .ref ak, .ref aw, .int (kf), .ref af, .int (wp), .ref at_, .int (nI n), .int (nI (pz_k T n q)), .int (nI (pz_b T n q)), .int (nI (pz_e T n q)), .int (nI (pz_v T n q)), .int (bd), .ref ab, .ref as_, .ref ac])), (at_, .inl (cI, 120, .inl T)), (am, .inl (cI, 75, .inl M))] [(h0, .inr (4, [.ref am, .ref ak, .ref aw, .int (kf), .ref af, .int (wp), .ref at_, .int (nI n), .int (nI (pz_k T n ((pz_sl T n M q).1))), .int (nI (pz_b T n ((pz_sl T n M q).1))), .int (nI (pz_e T n ((pz_sl T n M q).1))), .int (nI (pz_v T n ((pz_sl T n M q).1))), .int (pz_bd (pz_sl T n M q).2.isSome), .ref ab, .ref as_, .ref ac])), (at_, .inl (cI, 120, .inl T)), (am, .inl (cI, 75, .inl ((pz_sl T n M q).2.getD M)))] none := by
  refine hz_mez (cc := cX4_speechItem) (maxL := 6) (ret := none) (by decide) rfl (Nat.le_of_ble_eq_true rfl) ?_
  intro p e s m below meth c hx hb hr hts hown hlocks hml hP hK hD hZ ls hl
  have hS : va_S (hz_a [(h0, .inr (4, [.ref am, .ref ak, .ref aw, .int (kf), .ref af, .int (wp), .ref at_, .int (nI n), .int (nI (pz_k T n q)), .int (nI (pz_b T n q)), .int (nI (pz_e T n q)), .int (nI (pz_v T n q)), .int (bd), .ref ab, .ref as_, .ref ac])), (at_, .inl (cI, 120, .inl T)), (am, .inl (cI, 75, .inl M))]) s.heap s.heap [] := va_S.rf
  have hown : s.vm.findClass RX4 = some m.cls := hown
  have hl : lv_has ls 6 [(0, .ref h0)] := hl
  have hinX4 : ∀ w ∈ u_ws RX4 TX4 16, w ∈ wsX4_speechItem := fun w h => List.mem_cons_of_mem _ (List.mem_append_right _ (h))
  have wd1 := hts (.fieldLink RX4 9 "HurtSpeechModel" "m" "[I") (List.mem_of_getElem? (i := 1) rfl)
  have wd2 := hts (.fieldLink RX4 174 "HurtSpeechModel" "bad" "Z") (List.mem_of_getElem? (i := 2) rfl)
  have hk24 := pz_k_r T n q
  have hv4 := pz_v_r T n q
  have hb1 := pz_b_ge T n q
  have hb2 := pz_e_ge T n q
  have hb3 := pz_e_le (T := T) hq
  have hb4 := pz_t_le T n q
  have hb31 := pz_b_ge T n q
  have e1 := pz_e_le (T := T) hq
  have e2 := pz_e_le (T := T) e1
  have e3 := pz_e_le (T := T) e2
  have e4 := pz_e_le (T := T) e3
  have e5 := pz_e_le (T := T) e4
  have e6 := pz_e_le (T := T) e5
  refine lv_aload_n hx hb dX4_speechItem_0 rfl (lv_at hl 0 rfl) ?_
  refine lv_aload_n hx hb dX4_speechItem_1 rfl (lv_at hl 0 rfl) ?_
  refine va_get hx hb hts hinX4 hown hK hP 0 rfl rfl 0 (by decide) wd1 (fun _ h => h) rfl dX4_speechItem_2 ?_
  refine lv_iconst (v := nI 2) hx hb dX4_speechItem_5 (by decide) ?_
  refine hz_iald (j := 2) hx hb hK hP 2 0 rfl rfl (by omega) (Nat.le_of_ble_eq_true rfl) dX4_speechItem_6 ?_
  refine hz_ct (y := nI (nS M)) hM2 ?_
  refine lv_bipush (v := nI 8) hx hb dX4_speechItem_7 (by decide) ?_
  refine hz_icmp_ne (tgt := 16) (by omega) (by omega) hx hb dX4_speechItem_9 (by decide) (fun c9 => ?_) (fun c9 => ?_)
  · refine lv_iconst (v := nI 0) hx hb dX4_speechItem_16 (by decide) ?_
    refine va_put hx hb hts hinX4 tyX4 tyX4_ok nmX4 hown hK hP hD hS 0 rfl rfl 12 (by decide) wd2 (fun _ h => h) rfl (tyX4_ok 12 (by decide)) rfl rfl (Nat.le_of_ble_eq_true rfl) dX4_speechItem_17 (fun H locs hP hD hS => ?_)
    have hP : va_P D zcl [(h0, .inr (4, [.ref am, .ref ak, .ref aw, .int (kf), .ref af, .int (wp), .ref at_, .int (nI n), .int (nI (pz_k T n q)), .int (nI (pz_b T n q)), .int (nI (pz_e T n q)), .int (nI (pz_v T n q)), .int (nI 0), .ref ab, .ref as_, .ref ac])), (at_, .inl (cI, 120, .inl T)), (am, .inl (cI, 75, .inl M))] H := hP
    have hD : va_D (hz_a [(h0, .inr (4, [.ref am, .ref ak, .ref aw, .int (kf), .ref af, .int (wp), .ref at_, .int (nI n), .int (nI (pz_k T n q)), .int (nI (pz_b T n q)), .int (nI (pz_e T n q)), .int (nI (pz_v T n q)), .int (bd), .ref ab, .ref as_, .ref ac])), (at_, .inl (cI, 120, .inl T)), (am, .inl (cI, 75, .inl M))]) [(h0, .inr (4, [.ref am, .ref ak, .ref aw, .int (kf), .ref af, .int (wp), .ref at_, .int (nI n), .int (nI (pz_k T n q)), .int (nI (pz_b T n q)), .int (nI (pz_e T n q)), .int (nI (pz_v T n q)), .int (nI 0), .ref ab, .ref as_, .ref ac])), (at_, .inl (cI, 120, .inl T)), (am, .inl (cI, 75, .inl M))] := hD
    refine lv_aload_n hx hb dX4_speechItem_20 rfl (lv_at hl 0 rfl) ?_
    refine va_get hx hb hts hinX4 hown hK hP 0 rfl rfl 12 (by decide) wd2 (fun _ h => h) rfl dX4_speechItem_21 ?_
    refine lv_if_eq (tgt := 28) hx hb dX4_speechItem_24 (by decide) (fun _ => ?_) (fun h => absurd h (by first | decide | omega | exact hz_nneg (by omega) | exact hz_nneg' (by omega)))
    refine lv_aload_n hx hb dX4_speechItem_28 rfl (lv_at hl 0 rfl) ?_
    refine hz_cez (As := []) (rest := []) ⟨hx, hb, hml, hown, hts⟩ (hz_Q_ok aN adK adV) hZ (c4_reads l D cI cJ (aN := aN) (adK := adK) (adV := adV) (h0 := h0) (am := am) (ak := ak) (aw := aw) (af := af) (at_ := at_) (ab := ab) (as_ := as_) (ac := ac) (kf := kf) (wp := wp) (bd := nI 0) (tk := nI (pz_k T n q)) (bg := nI (pz_b T n q)) (vl := nI (pz_v T n q)) (T := T) (n := n) (q := pz_e T n q) (hn := by omega) (hq := by omega)) (cwV 0 hts gX4_speechItem_X4_reads rfl rfl rfl (by decide +kernel) ⟨Nat.le_of_ble_eq_true rfl, Nat.le_of_ble_eq_true rfl⟩) hK hP hD hS [0, 1] rfl (by decide) (hz_ha [h0, at_] rfl rfl) (w' := [(h0, .inr (4, [.ref am, .ref ak, .ref aw, .int (kf), .ref af, .int (wp), .ref at_, .int (nI n), .int (nI (pz_k T n (pz_e T n q))), .int (nI (pz_b T n (pz_e T n q))), .int (nI (pz_e T n (pz_e T n q))), .int (nI (pz_v T n (pz_e T n q))), .int (nI 0), .ref ab, .ref as_, .ref ac])), (at_, .inl (cI, 120, .inl T)), (am, .inl (cI, 75, .inl M))]) (hz_pt_eq 3 [2] [(am, .inl (cI, 75, .inl M))] rfl rfl rfl rfl rfl rfl rfl) [0, 1] rfl 0 rfl rfl rfl rfl hl.1 rfl (Nat.le_of_ble_eq_true rfl) dX4_speechItem_29 ⟨Nat.zero_le _, Nat.zero_le _⟩ (fun H locs hP hD hS => ?_)
    refine W.eq (g2 := F0 m 32 ls []) rfl ?_
    refine lv_aload_n hx hb dX4_speechItem_32 rfl (lv_at hl 0 rfl) ?_
    refine lv_iconst (v := nI 0) hx hb dX4_speechItem_33 (by decide) ?_
    refine lv_aload_n hx hb dX4_speechItem_34 rfl (lv_at hl 0 rfl) ?_
    refine va_get hx hb hts hinX4 hown hK hP 0 rfl rfl 0 (by decide) wd1 (fun _ h => h) rfl dX4_speechItem_35 ?_
    refine lv_iconst (v := nI 1) hx hb dX4_speechItem_38 (by decide) ?_
    refine hz_iald (j := 1) hx hb hK hP 2 0 rfl rfl (by omega) (Nat.le_of_ble_eq_true rfl) dX4_speechItem_39 ?_
    refine hz_ct (y := nI (nD M)) hM1 ?_
    refine lv_iconst (v := nI 1) hx hb dX4_speechItem_40 (by decide) ?_
    refine lv_isub hx hb dX4_speechItem_41 ?_
    by_cases h9001 : pz_nb T n (pz_e T n q) (nD M)
    · refine hz_cez (As := [.int (nI 0), .int ((nI (nD M)) - (nI 1))]) (rest := []) ⟨hx, hb, hml, hown, hts⟩ (hz_Q_ok aN adK adV) hZ (c4_num_y l D cI cJ (aN := aN) (adK := adK) (adV := adV) (h0 := h0) (am := am) (ak := ak) (aw := aw) (af := af) (at_ := at_) (ab := ab) (as_ := as_) (ac := ac) (kf := kf) (wp := wp) (T := T) (n := n) (q := pz_e T n q) (h := nD M) (mo := (nI (nD M)) - (nI 1)) (hn := by omega) (hq := by omega) (hmo := pz_mo_sub (nD M) hD8) (hnb := by first | assumption | rfl)) (cwV 2 hts gX4_speechItem_X4_number rfl rfl rfl (by decide +kernel) ⟨Nat.le_of_ble_eq_true rfl, Nat.le_of_ble_eq_true rfl⟩) hK hP hD hS [0, 1] rfl (by decide) (hz_ha [h0, at_] rfl rfl) (w' := [(h0, .inr (4, [.ref am, .ref ak, .ref aw, .int (kf), .ref af, .int (wp), .ref at_, .int (nI n), .int (nI (pz_k T n (pz_e T n (pz_e T n q)))), .int (nI (pz_b T n (pz_e T n (pz_e T n q)))), .int (nI (pz_e T n (pz_e T n (pz_e T n q)))), .int (nI (pz_v T n (pz_e T n (pz_e T n q)))), .int (nI 0), .ref ab, .ref as_, .ref ac])), (at_, .inl (cI, 120, .inl T)), (am, .inl (cI, 75, .inl M))]) (hz_pt_eq 3 [2] [(am, .inl (cI, 75, .inl M))] rfl rfl rfl rfl rfl rfl rfl) [0, 1] rfl 0 rfl rfl rfl rfl hl.1 rfl (Nat.le_of_ble_eq_true rfl) dX4_speechItem_42 ⟨Nat.zero_le _, Nat.zero_le _⟩ (fun H locs hP hD hS => ?_)
      refine W.eq (g2 := F0 m 45 ls [.int (nI (pz_v T n (pz_e T n q)))]) rfl ?_
      refine lv_istore_n (lv' := [(1, .int (nI (pz_v T n (pz_e T n q)))), (0, .ref h0)]) hx hb dX4_speechItem_45 rfl hl (by decide) rfl (fun ls hl => ?_)
      refine lv_aload_n hx hb dX4_speechItem_46 rfl (lv_at hl 1 rfl) ?_
      refine lv_iconst (v := nI 0) hx hb dX4_speechItem_47 (by decide) ?_
      refine lv_iconst (v := nI 3) hx hb dX4_speechItem_48 (by decide) ?_
      by_cases h9002 : pz_nb T n (pz_e T n (pz_e T n q)) (4)
      · refine hz_cez (As := [.int (nI 0), .int (nI 3)]) (rest := []) ⟨hx, hb, hml, hown, hts⟩ (hz_Q_ok aN adK adV) hZ (c4_num_y l D cI cJ (aN := aN) (adK := adK) (adV := adV) (h0 := h0) (am := am) (ak := ak) (aw := aw) (af := af) (at_ := at_) (ab := ab) (as_ := as_) (ac := ac) (kf := kf) (wp := wp) (T := T) (n := n) (q := pz_e T n (pz_e T n q)) (h := 4) (mo := nI 3) (hn := by omega) (hq := by omega) (hmo := pz_mo_lit 3 (by decide)) (hnb := by first | assumption | rfl)) (cwV 2 hts gX4_speechItem_X4_number rfl rfl rfl (by decide +kernel) ⟨Nat.le_of_ble_eq_true rfl, Nat.le_of_ble_eq_true rfl⟩) hK hP hD hS [0, 1] rfl (by decide) (hz_ha [h0, at_] rfl rfl) (w' := [(h0, .inr (4, [.ref am, .ref ak, .ref aw, .int (kf), .ref af, .int (wp), .ref at_, .int (nI n), .int (nI (pz_k T n (pz_e T n (pz_e T n (pz_e T n q))))), .int (nI (pz_b T n (pz_e T n (pz_e T n (pz_e T n q))))), .int (nI (pz_e T n (pz_e T n (pz_e T n (pz_e T n q))))), .int (nI (pz_v T n (pz_e T n (pz_e T n (pz_e T n q))))), .int (nI 0), .ref ab, .ref as_, .ref ac])), (at_, .inl (cI, 120, .inl T)), (am, .inl (cI, 75, .inl M))]) (hz_pt_eq 3 [2] [(am, .inl (cI, 75, .inl M))] rfl rfl rfl rfl rfl rfl rfl) [0, 1] rfl 0 rfl rfl rfl rfl hl.1 rfl (Nat.le_of_ble_eq_true rfl) dX4_speechItem_49 ⟨Nat.zero_le _, Nat.zero_le _⟩ (fun H locs hP hD hS => ?_)
        refine W.eq (g2 := F0 m 52 ls [.int (nI (pz_v T n (pz_e T n (pz_e T n q))))]) rfl ?_
        refine lv_istore_n (lv' := [(2, .int (nI (pz_v T n (pz_e T n (pz_e T n q))))), (1, .int (nI (pz_v T n (pz_e T n q)))), (0, .ref h0)]) hx hb dX4_speechItem_52 rfl hl (by decide) rfl (fun ls hl => ?_)
        refine lv_aload_n hx hb dX4_speechItem_53 rfl (lv_at hl 2 rfl) ?_
        refine lv_iconst (v := nI 0) hx hb dX4_speechItem_54 (by decide) ?_
        refine lv_bipush (v := nI 99) hx hb dX4_speechItem_55 (by decide) ?_
        by_cases h9003 : pz_nb T n (pz_e T n (pz_e T n (pz_e T n q))) (100)
        · refine hz_cez (As := [.int (nI 0), .int (nI 99)]) (rest := []) ⟨hx, hb, hml, hown, hts⟩ (hz_Q_ok aN adK adV) hZ (c4_num_y l D cI cJ (aN := aN) (adK := adK) (adV := adV) (h0 := h0) (am := am) (ak := ak) (aw := aw) (af := af) (at_ := at_) (ab := ab) (as_ := as_) (ac := ac) (kf := kf) (wp := wp) (T := T) (n := n) (q := pz_e T n (pz_e T n (pz_e T n q))) (h := 100) (mo := nI 99) (hn := by omega) (hq := by omega) (hmo := pz_mo_lit 99 (by decide)) (hnb := by first | assumption | rfl)) (cwV 2 hts gX4_speechItem_X4_number rfl rfl rfl (by decide +kernel) ⟨Nat.le_of_ble_eq_true rfl, Nat.le_of_ble_eq_true rfl⟩) hK hP hD hS [0, 1] rfl (by decide) (hz_ha [h0, at_] rfl rfl) (w' := [(h0, .inr (4, [.ref am, .ref ak, .ref aw, .int (kf), .ref af, .int (wp), .ref at_, .int (nI n), .int (nI (pz_k T n (pz_e T n (pz_e T n (pz_e T n (pz_e T n q)))))), .int (nI (pz_b T n (pz_e T n (pz_e T n (pz_e T n (pz_e T n q)))))), .int (nI (pz_e T n (pz_e T n (pz_e T n (pz_e T n (pz_e T n q)))))), .int (nI (pz_v T n (pz_e T n (pz_e T n (pz_e T n (pz_e T n q)))))), .int (nI 0), .ref ab, .ref as_, .ref ac])), (at_, .inl (cI, 120, .inl T)), (am, .inl (cI, 75, .inl M))]) (hz_pt_eq 3 [2] [(am, .inl (cI, 75, .inl M))] rfl rfl rfl rfl rfl rfl rfl) [0, 1] rfl 0 rfl rfl rfl rfl hl.1 rfl (Nat.le_of_ble_eq_true rfl) dX4_speechItem_57 ⟨Nat.zero_le _, Nat.zero_le _⟩ (fun H locs hP hD hS => ?_)
          refine W.eq (g2 := F0 m 60 ls [.int (nI (pz_v T n (pz_e T n (pz_e T n (pz_e T n q)))))]) rfl ?_
          refine lv_istore_n (lv' := [(3, .int (nI (pz_v T n (pz_e T n (pz_e T n (pz_e T n q)))))), (2, .int (nI (pz_v T n (pz_e T n (pz_e T n q))))), (1, .int (nI (pz_v T n (pz_e T n q)))), (0, .ref h0)]) hx hb dX4_speechItem_60 rfl hl (by decide) rfl (fun ls hl => ?_)
          refine lv_aload_n hx hb dX4_speechItem_61 rfl (lv_at hl 3 rfl) ?_
          refine lv_bipush (v := nI 9) hx hb dX4_speechItem_62 (by decide) ?_
          refine lv_iconst (v := nI 0) hx hb dX4_speechItem_64 (by decide) ?_
          refine lv_aload_n hx hb dX4_speechItem_65 rfl (lv_at hl 3 rfl) ?_
          refine va_get hx hb hts hinX4 hown hK hP 0 rfl rfl 0 (by decide) wd1 (fun _ h => h) rfl dX4_speechItem_66 ?_
          refine lv_iconst (v := nI 1) hx hb dX4_speechItem_69 (by decide) ?_
          refine hz_iald (j := 1) hx hb hK hP 2 0 rfl rfl (by omega) (Nat.le_of_ble_eq_true rfl) dX4_speechItem_70 ?_
          refine hz_ct (y := nI (nD M)) hM1 ?_
          refine lv_iconst (v := nI 1) hx hb dX4_speechItem_71 (by decide) ?_
          refine lv_isub hx hb dX4_speechItem_72 ?_
          refine lv_iconst (v := -1) hx hb dX4_speechItem_73 (by decide) ?_
          by_cases h9004 : pz_k T n (pz_e T n (pz_e T n (pz_e T n (pz_e T n q)))) = 9
          · by_cases h9005 : pz_nb T n (pz_e T n (pz_e T n (pz_e T n (pz_e T n (pz_e T n q))))) (nD M)
            · refine hz_cez (As := [.int (nI 9), .int (nI 0), .int ((nI (nD M)) - (nI 1)), .int (-1)]) (rest := []) ⟨hx, hb, hml, hown, hts⟩ (hz_Q_ok aN adK adV) hZ (c4_per_y l D cI cJ (aN := aN) (adK := adK) (adV := adV) (h0 := h0) (am := am) (ak := ak) (aw := aw) (af := af) (at_ := at_) (ab := ab) (as_ := as_) (ac := ac) (kf := kf) (wp := wp) (T := T) (n := n) (q := pz_e T n (pz_e T n (pz_e T n (pz_e T n q)))) (w := 9) (h := nD M) (mo := (nI (nD M)) - (nI 1)) (so := -1) (hn := by omega) (hq := by omega) (hw := by omega) (hmo := pz_mo_sub (nD M) hD8) (hk := by first | assumption | rfl) (hnb := by first | assumption | rfl)) (cwV 4 hts gX4_speechItem_X4_perhaps rfl rfl rfl (by decide +kernel) ⟨Nat.le_of_ble_eq_true rfl, Nat.le_of_ble_eq_true rfl⟩) hK hP hD hS [0, 1] rfl (by decide) (hz_ha [h0, at_] rfl rfl) (w' := [(h0, .inr (4, [.ref am, .ref ak, .ref aw, .int (kf), .ref af, .int (wp), .ref at_, .int (nI n), .int (nI (pz_k T n (pz_e T n (pz_e T n (pz_e T n (pz_e T n (pz_e T n (pz_e T n q)))))))), .int (nI (pz_b T n (pz_e T n (pz_e T n (pz_e T n (pz_e T n (pz_e T n (pz_e T n q)))))))), .int (nI (pz_e T n (pz_e T n (pz_e T n (pz_e T n (pz_e T n (pz_e T n (pz_e T n q)))))))), .int (nI (pz_v T n (pz_e T n (pz_e T n (pz_e T n (pz_e T n (pz_e T n (pz_e T n q)))))))), .int (nI 0), .ref ab, .ref as_, .ref ac])), (at_, .inl (cI, 120, .inl T)), (am, .inl (cI, 75, .inl M))]) (hz_pt_eq 3 [2] [(am, .inl (cI, 75, .inl M))] rfl rfl rfl rfl rfl rfl rfl) [0, 1] rfl 0 rfl rfl rfl rfl hl.1 rfl (Nat.le_of_ble_eq_true rfl) dX4_speechItem_74 ⟨Nat.zero_le _, Nat.zero_le _⟩ (fun H locs hP hD hS => ?_)
              refine W.eq (g2 := F0 m 77 ls [.int (nI (pz_v T n (pz_e T n (pz_e T n (pz_e T n (pz_e T n (pz_e T n q)))))))]) rfl ?_
              refine lv_istore (lv' := [(4, .int (nI (pz_v T n (pz_e T n (pz_e T n (pz_e T n (pz_e T n (pz_e T n q)))))))), (3, .int (nI (pz_v T n (pz_e T n (pz_e T n (pz_e T n q)))))), (2, .int (nI (pz_v T n (pz_e T n (pz_e T n q))))), (1, .int (nI (pz_v T n (pz_e T n q)))), (0, .ref h0)]) hx hb dX4_speechItem_77 hl (by decide) rfl (fun ls hl => ?_)
              refine lv_aload_n hx hb dX4_speechItem_79 rfl (lv_at hl 4 rfl) ?_
              refine va_get hx hb hts hinX4 hown hK hP 0 rfl rfl 12 (by decide) wd2 (fun _ h => h) rfl dX4_speechItem_80 ?_
              refine lv_if_ne (tgt := 97) hx hb dX4_speechItem_83 (by decide) (fun h => absurd h (by first | decide | omega | exact hz_nneg (by omega) | exact hz_nneg' (by omega))) (fun _ => ?_)
              refine lv_aload_n hx hb dX4_speechItem_86 rfl (lv_at hl 4 rfl) ?_
              refine lv_iload_n hx hb dX4_speechItem_87 rfl (lv_at hl 3 rfl) ?_
              refine lv_iload_n hx hb dX4_speechItem_88 rfl (lv_at hl 2 rfl) ?_
              refine lv_iload hx hb dX4_speechItem_89 (lv_at hl 0 rfl) ?_
              refine lv_iload_n hx hb dX4_speechItem_91 rfl (lv_at hl 1 rfl) ?_
              refine hz_ce (As := [.int (nI (pz_v T n (pz_e T n q))), .int (nI (pz_v T n (pz_e T n (pz_e T n q)))), .int (nI (pz_v T n (pz_e T n (pz_e T n (pz_e T n (pz_e T n (pz_e T n q))))))), .int (nI (pz_v T n (pz_e T n (pz_e T n (pz_e T n q)))))]) (rest := []) ⟨hx, hb, hml, hown, hts⟩ (c4_isHeld l D cI cJ (h0 := h0) (am := am) (fs := [.ref am, .ref ak, .ref aw, .int (kf), .ref af, .int (wp), .ref at_, .int (nI n), .int (nI (pz_k T n (pz_e T n (pz_e T n (pz_e T n (pz_e T n (pz_e T n (pz_e T n q)))))))), .int (nI (pz_b T n (pz_e T n (pz_e T n (pz_e T n (pz_e T n (pz_e T n (pz_e T n q)))))))), .int (nI (pz_e T n (pz_e T n (pz_e T n (pz_e T n (pz_e T n (pz_e T n (pz_e T n q)))))))), .int (nI (pz_v T n (pz_e T n (pz_e T n (pz_e T n (pz_e T n (pz_e T n (pz_e T n q)))))))), .int (nI 0), .ref ab, .ref as_, .ref ac]) (M := M) (by_ := nI (pz_v T n (pz_e T n q))) (tg := nI (pz_v T n (pz_e T n (pz_e T n q)))) (at_ := nI (pz_v T n (pz_e T n (pz_e T n (pz_e T n (pz_e T n (pz_e T n q))))))) (fo := nI (pz_v T n (pz_e T n (pz_e T n (pz_e T n q))))) (hf := by first | assumption | rfl) (hM2 := by first | assumption | rfl) (hS8 := by first | assumption | rfl) (hlt := by omega)) (cwV 4 hts gX4_speechItem_X4_isHeld rfl rfl rfl (by decide +kernel) ⟨Nat.le_of_ble_eq_true rfl, Nat.le_of_ble_eq_true rfl⟩) hK hP hD hS [0, 2] rfl (by decide) (hz_ha [h0, am] rfl rfl) (w' := [(h0, .inr (4, [.ref am, .ref ak, .ref aw, .int (kf), .ref af, .int (wp), .ref at_, .int (nI n), .int (nI (pz_k T n (pz_e T n (pz_e T n (pz_e T n (pz_e T n (pz_e T n (pz_e T n q)))))))), .int (nI (pz_b T n (pz_e T n (pz_e T n (pz_e T n (pz_e T n (pz_e T n (pz_e T n q)))))))), .int (nI (pz_e T n (pz_e T n (pz_e T n (pz_e T n (pz_e T n (pz_e T n (pz_e T n q)))))))), .int (nI (pz_v T n (pz_e T n (pz_e T n (pz_e T n (pz_e T n (pz_e T n (pz_e T n q)))))))), .int (nI 0), .ref ab, .ref as_, .ref ac])), (at_, .inl (cI, 120, .inl T)), (am, .inl (cI, 75, .inl (sp_addS M (nI (pz_v T n (pz_e T n q))) (nI (pz_v T n (pz_e T n (pz_e T n q)))) (nI (pz_v T n (pz_e T n (pz_e T n (pz_e T n (pz_e T n (pz_e T n q))))))) (nI (pz_v T n (pz_e T n (pz_e T n (pz_e T n q))))))))]) (hz_pt_eq 3 [1] [(at_, .inl (cI, 120, .inl T))] rfl rfl rfl rfl rfl rfl rfl) [0, 1] rfl 0 rfl rfl rfl rfl hl.1 rfl (Nat.le_of_ble_eq_true rfl) dX4_speechItem_92 ⟨Nat.zero_le _, Nat.zero_le _⟩ (fun H locs hP hD hS => ?_)
              refine W.eq (g2 := F0 m 95 ls [.int (nI (nS M))]) rfl ?_
              refine lv_istore (lv' := [(5, .int (nI (nS M))), (4, .int (nI (pz_v T n (pz_e T n (pz_e T n (pz_e T n (pz_e T n (pz_e T n q)))))))), (3, .int (nI (pz_v T n (pz_e T n (pz_e T n (pz_e T n q)))))), (2, .int (nI (pz_v T n (pz_e T n (pz_e T n q))))), (1, .int (nI (pz_v T n (pz_e T n q)))), (0, .ref h0)]) hx hb dX4_speechItem_95 hl (by decide) rfl (fun ls hl => ?_)
              refine hz_ev hx hb hr hlocks ?_ hS dX4_speechItem_97
              rw [show pz_sl T n M q = (pz_e T n (pz_e T n (pz_e T n (pz_e T n (pz_e T n (pz_e T n q))))), some (sp_addS M (nI (pz_v T n (pz_e T n q))) (nI (pz_v T n (pz_e T n (pz_e T n q)))) (nI (pz_v T n (pz_e T n (pz_e T n (pz_e T n (pz_e T n (pz_e T n q))))))) (nI (pz_v T n (pz_e T n (pz_e T n (pz_e T n q))))))) by rw [pz_sl, if_neg c9, pz_sp, if_pos h9001, if_pos h9002, if_pos h9003, if_pos h9004, if_pos h9005]]
              exact hP
            · refine hz_cez (As := [.int (nI 9), .int (nI 0), .int ((nI (nD M)) - (nI 1)), .int (-1)]) (rest := []) ⟨hx, hb, hml, hown, hts⟩ (hz_Q_ok aN adK adV) hZ (c4_per_n l D cI cJ (aN := aN) (adK := adK) (adV := adV) (h0 := h0) (am := am) (ak := ak) (aw := aw) (af := af) (at_ := at_) (ab := ab) (as_ := as_) (ac := ac) (kf := kf) (wp := wp) (T := T) (n := n) (q := pz_e T n (pz_e T n (pz_e T n (pz_e T n q)))) (w := 9) (h := nD M) (mo := (nI (nD M)) - (nI 1)) (so := -1) (hn := by omega) (hq := by omega) (hw := by omega) (hmo := pz_mo_sub (nD M) hD8) (hk := by first | assumption | rfl) (hnb := by first | assumption | rfl)) (cwV 4 hts gX4_speechItem_X4_perhaps rfl rfl rfl (by decide +kernel) ⟨Nat.le_of_ble_eq_true rfl, Nat.le_of_ble_eq_true rfl⟩) hK hP hD hS [0, 1] rfl (by decide) (hz_ha [h0, at_] rfl rfl) (w' := [(h0, .inr (4, [.ref am, .ref ak, .ref aw, .int (kf), .ref af, .int (wp), .ref at_, .int (nI n), .int (nI (pz_k T n (pz_e T n (pz_e T n (pz_e T n (pz_e T n (pz_e T n q))))))), .int (nI (pz_b T n (pz_e T n (pz_e T n (pz_e T n (pz_e T n (pz_e T n q))))))), .int (nI (pz_e T n (pz_e T n (pz_e T n (pz_e T n (pz_e T n (pz_e T n q))))))), .int (nI (pz_v T n (pz_e T n (pz_e T n (pz_e T n (pz_e T n (pz_e T n q))))))), .int (nI 1), .ref ab, .ref as_, .ref ac])), (at_, .inl (cI, 120, .inl T)), (am, .inl (cI, 75, .inl M))]) (hz_pt_eq 3 [2] [(am, .inl (cI, 75, .inl M))] rfl rfl rfl rfl rfl rfl rfl) [0, 1] rfl 0 rfl rfl rfl rfl hl.1 rfl (Nat.le_of_ble_eq_true rfl) dX4_speechItem_74 ⟨Nat.zero_le _, Nat.zero_le _⟩ (fun H locs hP hD hS => ?_)
              refine W.eq (g2 := F0 m 77 ls [.int (nI (pz_v T n (pz_e T n (pz_e T n (pz_e T n (pz_e T n (pz_e T n q)))))))]) rfl ?_
              refine lv_istore (lv' := [(4, .int (nI (pz_v T n (pz_e T n (pz_e T n (pz_e T n (pz_e T n (pz_e T n q)))))))), (3, .int (nI (pz_v T n (pz_e T n (pz_e T n (pz_e T n q)))))), (2, .int (nI (pz_v T n (pz_e T n (pz_e T n q))))), (1, .int (nI (pz_v T n (pz_e T n q)))), (0, .ref h0)]) hx hb dX4_speechItem_77 hl (by decide) rfl (fun ls hl => ?_)
              refine lv_aload_n hx hb dX4_speechItem_79 rfl (lv_at hl 4 rfl) ?_
              refine va_get hx hb hts hinX4 hown hK hP 0 rfl rfl 12 (by decide) wd2 (fun _ h => h) rfl dX4_speechItem_80 ?_
              refine lv_if_ne (tgt := 97) hx hb dX4_speechItem_83 (by decide) (fun _ => ?_) (fun h => absurd h (by first | decide | omega | exact hz_nneg (by omega) | exact hz_nneg' (by omega)))
              refine hz_ev hx hb hr hlocks ?_ hS dX4_speechItem_97
              rw [show pz_sl T n M q = (pz_e T n (pz_e T n (pz_e T n (pz_e T n (pz_e T n q)))), none) by rw [pz_sl, if_neg c9, pz_sp, if_pos h9001, if_pos h9002, if_pos h9003, if_pos h9004, if_neg h9005]]
              exact hP
          · refine hz_cez (As := [.int (nI 9), .int (nI 0), .int ((nI (nD M)) - (nI 1)), .int (-1)]) (rest := []) ⟨hx, hb, hml, hown, hts⟩ (hz_Q_ok aN adK adV) hZ (c4_per_o l D cI cJ (aN := aN) (adK := adK) (adV := adV) (h0 := h0) (am := am) (ak := ak) (aw := aw) (af := af) (at_ := at_) (ab := ab) (as_ := as_) (ac := ac) (kf := kf) (wp := wp) (T := T) (n := n) (q := pz_e T n (pz_e T n (pz_e T n (pz_e T n q)))) (w := 9) (mo := (nI (nD M)) - (nI 1)) (so := -1) (hn := by omega) (hq := by omega) (hw := by omega) (hk := by first | assumption | rfl)) (cwV 4 hts gX4_speechItem_X4_perhaps rfl rfl rfl (by decide +kernel) ⟨Nat.le_of_ble_eq_true rfl, Nat.le_of_ble_eq_true rfl⟩) hK hP hD hS [0, 1] rfl (by decide) (hz_ha [h0, at_] rfl rfl) (w' := [(h0, .inr (4, [.ref am, .ref ak, .ref aw, .int (kf), .ref af, .int (wp), .ref at_, .int (nI n), .int (nI (pz_k T n (pz_e T n (pz_e T n (pz_e T n (pz_e T n q)))))), .int (nI (pz_b T n (pz_e T n (pz_e T n (pz_e T n (pz_e T n q)))))), .int (nI (pz_e T n (pz_e T n (pz_e T n (pz_e T n (pz_e T n q)))))), .int (nI (pz_v T n (pz_e T n (pz_e T n (pz_e T n (pz_e T n q)))))), .int (nI 0), .ref ab, .ref as_, .ref ac])), (at_, .inl (cI, 120, .inl T)), (am, .inl (cI, 75, .inl M))]) (hz_pt_eq 3 [2] [(am, .inl (cI, 75, .inl M))] rfl rfl rfl rfl rfl rfl rfl) [0, 1] rfl 0 rfl rfl rfl rfl hl.1 rfl (Nat.le_of_ble_eq_true rfl) dX4_speechItem_74 ⟨Nat.zero_le _, Nat.zero_le _⟩ (fun H locs hP hD hS => ?_)
            refine W.eq (g2 := F0 m 77 ls [.int ((-1))]) rfl ?_
            refine lv_istore (lv' := [(4, .int ((-1))), (3, .int (nI (pz_v T n (pz_e T n (pz_e T n (pz_e T n q)))))), (2, .int (nI (pz_v T n (pz_e T n (pz_e T n q))))), (1, .int (nI (pz_v T n (pz_e T n q)))), (0, .ref h0)]) hx hb dX4_speechItem_77 hl (by decide) rfl (fun ls hl => ?_)
            refine lv_aload_n hx hb dX4_speechItem_79 rfl (lv_at hl 4 rfl) ?_
            refine va_get hx hb hts hinX4 hown hK hP 0 rfl rfl 12 (by decide) wd2 (fun _ h => h) rfl dX4_speechItem_80 ?_
            refine lv_if_ne (tgt := 97) hx hb dX4_speechItem_83 (by decide) (fun h => absurd h (by first | decide | omega | exact hz_nneg (by omega) | exact hz_nneg' (by omega))) (fun _ => ?_)
            refine lv_aload_n hx hb dX4_speechItem_86 rfl (lv_at hl 4 rfl) ?_
            refine lv_iload_n hx hb dX4_speechItem_87 rfl (lv_at hl 3 rfl) ?_
            refine lv_iload_n hx hb dX4_speechItem_88 rfl (lv_at hl 2 rfl) ?_
            refine lv_iload hx hb dX4_speechItem_89 (lv_at hl 0 rfl) ?_
            refine lv_iload_n hx hb dX4_speechItem_91 rfl (lv_at hl 1 rfl) ?_
            refine hz_ce (As := [.int (nI (pz_v T n (pz_e T n q))), .int (nI (pz_v T n (pz_e T n (pz_e T n q)))), .int ((-1)), .int (nI (pz_v T n (pz_e T n (pz_e T n (pz_e T n q)))))]) (rest := []) ⟨hx, hb, hml, hown, hts⟩ (c4_isHeld l D cI cJ (h0 := h0) (am := am) (fs := [.ref am, .ref ak, .ref aw, .int (kf), .ref af, .int (wp), .ref at_, .int (nI n), .int (nI (pz_k T n (pz_e T n (pz_e T n (pz_e T n (pz_e T n q)))))), .int (nI (pz_b T n (pz_e T n (pz_e T n (pz_e T n (pz_e T n q)))))), .int (nI (pz_e T n (pz_e T n (pz_e T n (pz_e T n (pz_e T n q)))))), .int (nI (pz_v T n (pz_e T n (pz_e T n (pz_e T n (pz_e T n q)))))), .int (nI 0), .ref ab, .ref as_, .ref ac]) (M := M) (by_ := nI (pz_v T n (pz_e T n q))) (tg := nI (pz_v T n (pz_e T n (pz_e T n q)))) (at_ := (-1)) (fo := nI (pz_v T n (pz_e T n (pz_e T n (pz_e T n q))))) (hf := by first | assumption | rfl) (hM2 := by first | assumption | rfl) (hS8 := by first | assumption | rfl) (hlt := by omega)) (cwV 4 hts gX4_speechItem_X4_isHeld rfl rfl rfl (by decide +kernel) ⟨Nat.le_of_ble_eq_true rfl, Nat.le_of_ble_eq_true rfl⟩) hK hP hD hS [0, 2] rfl (by decide) (hz_ha [h0, am] rfl rfl) (w' := [(h0, .inr (4, [.ref am, .ref ak, .ref aw, .int (kf), .ref af, .int (wp), .ref at_, .int (nI n), .int (nI (pz_k T n (pz_e T n (pz_e T n (pz_e T n (pz_e T n q)))))), .int (nI (pz_b T n (pz_e T n (pz_e T n (pz_e T n (pz_e T n q)))))), .int (nI (pz_e T n (pz_e T n (pz_e T n (pz_e T n (pz_e T n q)))))), .int (nI (pz_v T n (pz_e T n (pz_e T n (pz_e T n (pz_e T n q)))))), .int (nI 0), .ref ab, .ref as_, .ref ac])), (at_, .inl (cI, 120, .inl T)), (am, .inl (cI, 75, .inl (sp_addS M (nI (pz_v T n (pz_e T n q))) (nI (pz_v T n (pz_e T n (pz_e T n q)))) ((-1)) (nI (pz_v T n (pz_e T n (pz_e T n (pz_e T n q))))))))]) (hz_pt_eq 3 [1] [(at_, .inl (cI, 120, .inl T))] rfl rfl rfl rfl rfl rfl rfl) [0, 1] rfl 0 rfl rfl rfl rfl hl.1 rfl (Nat.le_of_ble_eq_true rfl) dX4_speechItem_92 ⟨Nat.zero_le _, Nat.zero_le _⟩ (fun H locs hP hD hS => ?_)
            refine W.eq (g2 := F0 m 95 ls [.int (nI (nS M))]) rfl ?_
            refine lv_istore (lv' := [(5, .int (nI (nS M))), (4, .int ((-1))), (3, .int (nI (pz_v T n (pz_e T n (pz_e T n (pz_e T n q)))))), (2, .int (nI (pz_v T n (pz_e T n (pz_e T n q))))), (1, .int (nI (pz_v T n (pz_e T n q)))), (0, .ref h0)]) hx hb dX4_speechItem_95 hl (by decide) rfl (fun ls hl => ?_)
            refine hz_ev hx hb hr hlocks ?_ hS dX4_speechItem_97
            rw [show pz_sl T n M q = (pz_e T n (pz_e T n (pz_e T n (pz_e T n q))), some (sp_addS M (nI (pz_v T n (pz_e T n q))) (nI (pz_v T n (pz_e T n (pz_e T n q)))) (-1) (nI (pz_v T n (pz_e T n (pz_e T n (pz_e T n q))))))) by rw [pz_sl, if_neg c9, pz_sp, if_pos h9001, if_pos h9002, if_pos h9003, if_neg h9004]]
            exact hP
        · refine hz_cez (As := [.int (nI 0), .int (nI 99)]) (rest := []) ⟨hx, hb, hml, hown, hts⟩ (hz_Q_ok aN adK adV) hZ (c4_num_n l D cI cJ (aN := aN) (adK := adK) (adV := adV) (h0 := h0) (am := am) (ak := ak) (aw := aw) (af := af) (at_ := at_) (ab := ab) (as_ := as_) (ac := ac) (kf := kf) (wp := wp) (T := T) (n := n) (q := pz_e T n (pz_e T n (pz_e T n q))) (h := 100) (mo := nI 99) (hn := by omega) (hq := by omega) (hmo := pz_mo_lit 99 (by decide)) (hnb := by first | assumption | rfl)) (cwV 2 hts gX4_speechItem_X4_number rfl rfl rfl (by decide +kernel) ⟨Nat.le_of_ble_eq_true rfl, Nat.le_of_ble_eq_true rfl⟩) hK hP hD hS [0, 1] rfl (by decide) (hz_ha [h0, at_] rfl rfl) (w' := [(h0, .inr (4, [.ref am, .ref ak, .ref aw, .int (kf), .ref af, .int (wp), .ref at_, .int (nI n), .int (nI (pz_k T n (pz_e T n (pz_e T n (pz_e T n q))))), .int (nI (pz_b T n (pz_e T n (pz_e T n (pz_e T n q))))), .int (nI (pz_e T n (pz_e T n (pz_e T n (pz_e T n q))))), .int (nI (pz_v T n (pz_e T n (pz_e T n (pz_e T n q))))), .int (nI 1), .ref ab, .ref as_, .ref ac])), (at_, .inl (cI, 120, .inl T)), (am, .inl (cI, 75, .inl M))]) (hz_pt_eq 3 [2] [(am, .inl (cI, 75, .inl M))] rfl rfl rfl rfl rfl rfl rfl) [0, 1] rfl 0 rfl rfl rfl rfl hl.1 rfl (Nat.le_of_ble_eq_true rfl) dX4_speechItem_57 ⟨Nat.zero_le _, Nat.zero_le _⟩ (fun H locs hP hD hS => ?_)
          refine W.eq (g2 := F0 m 60 ls [.int (nI (pz_v T n (pz_e T n (pz_e T n (pz_e T n q)))))]) rfl ?_
          refine lv_istore_n (lv' := [(3, .int (nI (pz_v T n (pz_e T n (pz_e T n (pz_e T n q)))))), (2, .int (nI (pz_v T n (pz_e T n (pz_e T n q))))), (1, .int (nI (pz_v T n (pz_e T n q)))), (0, .ref h0)]) hx hb dX4_speechItem_60 rfl hl (by decide) rfl (fun ls hl => ?_)
          refine lv_aload_n hx hb dX4_speechItem_61 rfl (lv_at hl 3 rfl) ?_
          refine lv_bipush (v := nI 9) hx hb dX4_speechItem_62 (by decide) ?_
          refine lv_iconst (v := nI 0) hx hb dX4_speechItem_64 (by decide) ?_
          refine lv_aload_n hx hb dX4_speechItem_65 rfl (lv_at hl 3 rfl) ?_
          refine va_get hx hb hts hinX4 hown hK hP 0 rfl rfl 0 (by decide) wd1 (fun _ h => h) rfl dX4_speechItem_66 ?_
          refine lv_iconst (v := nI 1) hx hb dX4_speechItem_69 (by decide) ?_
          refine hz_iald (j := 1) hx hb hK hP 2 0 rfl rfl (by omega) (Nat.le_of_ble_eq_true rfl) dX4_speechItem_70 ?_
          refine hz_ct (y := nI (nD M)) hM1 ?_
          refine lv_iconst (v := nI 1) hx hb dX4_speechItem_71 (by decide) ?_
          refine lv_isub hx hb dX4_speechItem_72 ?_
          refine lv_iconst (v := -1) hx hb dX4_speechItem_73 (by decide) ?_
          refine hz_cez (As := [.int (nI 9), .int (nI 0), .int ((nI (nD M)) - (nI 1)), .int (-1)]) (rest := []) ⟨hx, hb, hml, hown, hts⟩ (hz_Q_ok aN adK adV) hZ (c4_per_b l D cI cJ (aN := aN) (adK := adK) (adV := adV) (h0 := h0) (am := am) (ak := ak) (aw := aw) (af := af) (at_ := at_) (ab := ab) (as_ := as_) (ac := ac) (kf := kf) (wp := wp) (T := T) (n := n) (q := pz_e T n (pz_e T n (pz_e T n q))) (w := 9) (mo := (nI (nD M)) - (nI 1)) (so := -1) (hn := by omega) (hq := by omega) (hw := by omega)) (cwV 4 hts gX4_speechItem_X4_perhaps rfl rfl rfl (by decide +kernel) ⟨Nat.le_of_ble_eq_true rfl, Nat.le_of_ble_eq_true rfl⟩) hK hP hD hS [0, 1] rfl (by decide) (hz_ha [h0, at_] rfl rfl) (w' := [(h0, .inr (4, [.ref am, .ref ak, .ref aw, .int (kf), .ref af, .int (wp), .ref at_, .int (nI n), .int (nI (pz_k T n (pz_e T n (pz_e T n (pz_e T n q))))), .int (nI (pz_b T n (pz_e T n (pz_e T n (pz_e T n q))))), .int (nI (pz_e T n (pz_e T n (pz_e T n (pz_e T n q))))), .int (nI (pz_v T n (pz_e T n (pz_e T n (pz_e T n q))))), .int (nI 1), .ref ab, .ref as_, .ref ac])), (at_, .inl (cI, 120, .inl T)), (am, .inl (cI, 75, .inl M))]) (hz_pt_eq 3 [2] [(am, .inl (cI, 75, .inl M))] rfl rfl rfl rfl rfl rfl rfl) [0, 1] rfl 0 rfl rfl rfl rfl hl.1 rfl (Nat.le_of_ble_eq_true rfl) dX4_speechItem_74 ⟨Nat.zero_le _, Nat.zero_le _⟩ (fun H locs hP hD hS => ?_)
          refine W.eq (g2 := F0 m 77 ls [.int ((-1))]) rfl ?_
          refine lv_istore (lv' := [(4, .int ((-1))), (3, .int (nI (pz_v T n (pz_e T n (pz_e T n (pz_e T n q)))))), (2, .int (nI (pz_v T n (pz_e T n (pz_e T n q))))), (1, .int (nI (pz_v T n (pz_e T n q)))), (0, .ref h0)]) hx hb dX4_speechItem_77 hl (by decide) rfl (fun ls hl => ?_)
          refine lv_aload_n hx hb dX4_speechItem_79 rfl (lv_at hl 4 rfl) ?_
          refine va_get hx hb hts hinX4 hown hK hP 0 rfl rfl 12 (by decide) wd2 (fun _ h => h) rfl dX4_speechItem_80 ?_
          refine lv_if_ne (tgt := 97) hx hb dX4_speechItem_83 (by decide) (fun _ => ?_) (fun h => absurd h (by first | decide | omega | exact hz_nneg (by omega) | exact hz_nneg' (by omega)))
          refine hz_ev hx hb hr hlocks ?_ hS dX4_speechItem_97
          rw [show pz_sl T n M q = (pz_e T n (pz_e T n (pz_e T n q)), none) by rw [pz_sl, if_neg c9, pz_sp, if_pos h9001, if_pos h9002, if_neg h9003]]
          exact hP
      · refine hz_cez (As := [.int (nI 0), .int (nI 3)]) (rest := []) ⟨hx, hb, hml, hown, hts⟩ (hz_Q_ok aN adK adV) hZ (c4_num_n l D cI cJ (aN := aN) (adK := adK) (adV := adV) (h0 := h0) (am := am) (ak := ak) (aw := aw) (af := af) (at_ := at_) (ab := ab) (as_ := as_) (ac := ac) (kf := kf) (wp := wp) (T := T) (n := n) (q := pz_e T n (pz_e T n q)) (h := 4) (mo := nI 3) (hn := by omega) (hq := by omega) (hmo := pz_mo_lit 3 (by decide)) (hnb := by first | assumption | rfl)) (cwV 2 hts gX4_speechItem_X4_number rfl rfl rfl (by decide +kernel) ⟨Nat.le_of_ble_eq_true rfl, Nat.le_of_ble_eq_true rfl⟩) hK hP hD hS [0, 1] rfl (by decide) (hz_ha [h0, at_] rfl rfl) (w' := [(h0, .inr (4, [.ref am, .ref ak, .ref aw, .int (kf), .ref af, .int (wp), .ref at_, .int (nI n), .int (nI (pz_k T n (pz_e T n (pz_e T n q)))), .int (nI (pz_b T n (pz_e T n (pz_e T n q)))), .int (nI (pz_e T n (pz_e T n (pz_e T n q)))), .int (nI (pz_v T n (pz_e T n (pz_e T n q)))), .int (nI 1), .ref ab, .ref as_, .ref ac])), (at_, .inl (cI, 120, .inl T)), (am, .inl (cI, 75, .inl M))]) (hz_pt_eq 3 [2] [(am, .inl (cI, 75, .inl M))] rfl rfl rfl rfl rfl rfl rfl) [0, 1] rfl 0 rfl rfl rfl rfl hl.1 rfl (Nat.le_of_ble_eq_true rfl) dX4_speechItem_49 ⟨Nat.zero_le _, Nat.zero_le _⟩ (fun H locs hP hD hS => ?_)
        refine W.eq (g2 := F0 m 52 ls [.int (nI (pz_v T n (pz_e T n (pz_e T n q))))]) rfl ?_
        refine lv_istore_n (lv' := [(2, .int (nI (pz_v T n (pz_e T n (pz_e T n q))))), (1, .int (nI (pz_v T n (pz_e T n q)))), (0, .ref h0)]) hx hb dX4_speechItem_52 rfl hl (by decide) rfl (fun ls hl => ?_)
        refine lv_aload_n hx hb dX4_speechItem_53 rfl (lv_at hl 2 rfl) ?_
        refine lv_iconst (v := nI 0) hx hb dX4_speechItem_54 (by decide) ?_
        refine lv_bipush (v := nI 99) hx hb dX4_speechItem_55 (by decide) ?_
        refine hz_cez (As := [.int (nI 0), .int (nI 99)]) (rest := []) ⟨hx, hb, hml, hown, hts⟩ (hz_Q_ok aN adK adV) hZ (c4_num_b l D cI cJ (aN := aN) (adK := adK) (adV := adV) (h0 := h0) (am := am) (ak := ak) (aw := aw) (af := af) (at_ := at_) (ab := ab) (as_ := as_) (ac := ac) (kf := kf) (wp := wp) (T := T) (n := n) (q := pz_e T n (pz_e T n q)) (mo := nI 99) (hn := by omega) (hq := by omega)) (cwV 2 hts gX4_speechItem_X4_number rfl rfl rfl (by decide +kernel) ⟨Nat.le_of_ble_eq_true rfl, Nat.le_of_ble_eq_true rfl⟩) hK hP hD hS [0, 1] rfl (by decide) (hz_ha [h0, at_] rfl rfl) (w' := [(h0, .inr (4, [.ref am, .ref ak, .ref aw, .int (kf), .ref af, .int (wp), .ref at_, .int (nI n), .int (nI (pz_k T n (pz_e T n (pz_e T n q)))), .int (nI (pz_b T n (pz_e T n (pz_e T n q)))), .int (nI (pz_e T n (pz_e T n (pz_e T n q)))), .int (nI (pz_v T n (pz_e T n (pz_e T n q)))), .int (nI 1), .ref ab, .ref as_, .ref ac])), (at_, .inl (cI, 120, .inl T)), (am, .inl (cI, 75, .inl M))]) (hz_pt_eq 3 [2] [(am, .inl (cI, 75, .inl M))] rfl rfl rfl rfl rfl rfl rfl) [0, 1] rfl 0 rfl rfl rfl rfl hl.1 rfl (Nat.le_of_ble_eq_true rfl) dX4_speechItem_57 ⟨Nat.zero_le _, Nat.zero_le _⟩ (fun H locs hP hD hS => ?_)
        refine W.eq (g2 := F0 m 60 ls [.int (nI (pz_v T n (pz_e T n (pz_e T n q))))]) rfl ?_
        refine lv_istore_n (lv' := [(3, .int (nI (pz_v T n (pz_e T n (pz_e T n q))))), (2, .int (nI (pz_v T n (pz_e T n (pz_e T n q))))), (1, .int (nI (pz_v T n (pz_e T n q)))), (0, .ref h0)]) hx hb dX4_speechItem_60 rfl hl (by decide) rfl (fun ls hl => ?_)
        refine lv_aload_n hx hb dX4_speechItem_61 rfl (lv_at hl 3 rfl) ?_
        refine lv_bipush (v := nI 9) hx hb dX4_speechItem_62 (by decide) ?_
        refine lv_iconst (v := nI 0) hx hb dX4_speechItem_64 (by decide) ?_
        refine lv_aload_n hx hb dX4_speechItem_65 rfl (lv_at hl 3 rfl) ?_
        refine va_get hx hb hts hinX4 hown hK hP 0 rfl rfl 0 (by decide) wd1 (fun _ h => h) rfl dX4_speechItem_66 ?_
        refine lv_iconst (v := nI 1) hx hb dX4_speechItem_69 (by decide) ?_
        refine hz_iald (j := 1) hx hb hK hP 2 0 rfl rfl (by omega) (Nat.le_of_ble_eq_true rfl) dX4_speechItem_70 ?_
        refine hz_ct (y := nI (nD M)) hM1 ?_
        refine lv_iconst (v := nI 1) hx hb dX4_speechItem_71 (by decide) ?_
        refine lv_isub hx hb dX4_speechItem_72 ?_
        refine lv_iconst (v := -1) hx hb dX4_speechItem_73 (by decide) ?_
        refine hz_cez (As := [.int (nI 9), .int (nI 0), .int ((nI (nD M)) - (nI 1)), .int (-1)]) (rest := []) ⟨hx, hb, hml, hown, hts⟩ (hz_Q_ok aN adK adV) hZ (c4_per_b l D cI cJ (aN := aN) (adK := adK) (adV := adV) (h0 := h0) (am := am) (ak := ak) (aw := aw) (af := af) (at_ := at_) (ab := ab) (as_ := as_) (ac := ac) (kf := kf) (wp := wp) (T := T) (n := n) (q := pz_e T n (pz_e T n q)) (w := 9) (mo := (nI (nD M)) - (nI 1)) (so := -1) (hn := by omega) (hq := by omega) (hw := by omega)) (cwV 4 hts gX4_speechItem_X4_perhaps rfl rfl rfl (by decide +kernel) ⟨Nat.le_of_ble_eq_true rfl, Nat.le_of_ble_eq_true rfl⟩) hK hP hD hS [0, 1] rfl (by decide) (hz_ha [h0, at_] rfl rfl) (w' := [(h0, .inr (4, [.ref am, .ref ak, .ref aw, .int (kf), .ref af, .int (wp), .ref at_, .int (nI n), .int (nI (pz_k T n (pz_e T n (pz_e T n q)))), .int (nI (pz_b T n (pz_e T n (pz_e T n q)))), .int (nI (pz_e T n (pz_e T n (pz_e T n q)))), .int (nI (pz_v T n (pz_e T n (pz_e T n q)))), .int (nI 1), .ref ab, .ref as_, .ref ac])), (at_, .inl (cI, 120, .inl T)), (am, .inl (cI, 75, .inl M))]) (hz_pt_eq 3 [2] [(am, .inl (cI, 75, .inl M))] rfl rfl rfl rfl rfl rfl rfl) [0, 1] rfl 0 rfl rfl rfl rfl hl.1 rfl (Nat.le_of_ble_eq_true rfl) dX4_speechItem_74 ⟨Nat.zero_le _, Nat.zero_le _⟩ (fun H locs hP hD hS => ?_)
        refine W.eq (g2 := F0 m 77 ls [.int ((-1))]) rfl ?_
        refine lv_istore (lv' := [(4, .int ((-1))), (3, .int (nI (pz_v T n (pz_e T n (pz_e T n q))))), (2, .int (nI (pz_v T n (pz_e T n (pz_e T n q))))), (1, .int (nI (pz_v T n (pz_e T n q)))), (0, .ref h0)]) hx hb dX4_speechItem_77 hl (by decide) rfl (fun ls hl => ?_)
        refine lv_aload_n hx hb dX4_speechItem_79 rfl (lv_at hl 4 rfl) ?_
        refine va_get hx hb hts hinX4 hown hK hP 0 rfl rfl 12 (by decide) wd2 (fun _ h => h) rfl dX4_speechItem_80 ?_
        refine lv_if_ne (tgt := 97) hx hb dX4_speechItem_83 (by decide) (fun _ => ?_) (fun h => absurd h (by first | decide | omega | exact hz_nneg (by omega) | exact hz_nneg' (by omega)))
        refine hz_ev hx hb hr hlocks ?_ hS dX4_speechItem_97
        rw [show pz_sl T n M q = (pz_e T n (pz_e T n q), none) by rw [pz_sl, if_neg c9, pz_sp, if_pos h9001, if_neg h9002]]
        exact hP
    · refine hz_cez (As := [.int (nI 0), .int ((nI (nD M)) - (nI 1))]) (rest := []) ⟨hx, hb, hml, hown, hts⟩ (hz_Q_ok aN adK adV) hZ (c4_num_n l D cI cJ (aN := aN) (adK := adK) (adV := adV) (h0 := h0) (am := am) (ak := ak) (aw := aw) (af := af) (at_ := at_) (ab := ab) (as_ := as_) (ac := ac) (kf := kf) (wp := wp) (T := T) (n := n) (q := pz_e T n q) (h := nD M) (mo := (nI (nD M)) - (nI 1)) (hn := by omega) (hq := by omega) (hmo := pz_mo_sub (nD M) hD8) (hnb := by first | assumption | rfl)) (cwV 2 hts gX4_speechItem_X4_number rfl rfl rfl (by decide +kernel) ⟨Nat.le_of_ble_eq_true rfl, Nat.le_of_ble_eq_true rfl⟩) hK hP hD hS [0, 1] rfl (by decide) (hz_ha [h0, at_] rfl rfl) (w' := [(h0, .inr (4, [.ref am, .ref ak, .ref aw, .int (kf), .ref af, .int (wp), .ref at_, .int (nI n), .int (nI (pz_k T n (pz_e T n q))), .int (nI (pz_b T n (pz_e T n q))), .int (nI (pz_e T n (pz_e T n q))), .int (nI (pz_v T n (pz_e T n q))), .int (nI 1), .ref ab, .ref as_, .ref ac])), (at_, .inl (cI, 120, .inl T)), (am, .inl (cI, 75, .inl M))]) (hz_pt_eq 3 [2] [(am, .inl (cI, 75, .inl M))] rfl rfl rfl rfl rfl rfl rfl) [0, 1] rfl 0 rfl rfl rfl rfl hl.1 rfl (Nat.le_of_ble_eq_true rfl) dX4_speechItem_42 ⟨Nat.zero_le _, Nat.zero_le _⟩ (fun H locs hP hD hS => ?_)
      refine W.eq (g2 := F0 m 45 ls [.int (nI (pz_v T n (pz_e T n q)))]) rfl ?_
      refine lv_istore_n (lv' := [(1, .int (nI (pz_v T n (pz_e T n q)))), (0, .ref h0)]) hx hb dX4_speechItem_45 rfl hl (by decide) rfl (fun ls hl => ?_)
      refine lv_aload_n hx hb dX4_speechItem_46 rfl (lv_at hl 1 rfl) ?_
      refine lv_iconst (v := nI 0) hx hb dX4_speechItem_47 (by decide) ?_
      refine lv_iconst (v := nI 3) hx hb dX4_speechItem_48 (by decide) ?_
      refine hz_cez (As := [.int (nI 0), .int (nI 3)]) (rest := []) ⟨hx, hb, hml, hown, hts⟩ (hz_Q_ok aN adK adV) hZ (c4_num_b l D cI cJ (aN := aN) (adK := adK) (adV := adV) (h0 := h0) (am := am) (ak := ak) (aw := aw) (af := af) (at_ := at_) (ab := ab) (as_ := as_) (ac := ac) (kf := kf) (wp := wp) (T := T) (n := n) (q := pz_e T n q) (mo := nI 3) (hn := by omega) (hq := by omega)) (cwV 2 hts gX4_speechItem_X4_number rfl rfl rfl (by decide +kernel) ⟨Nat.le_of_ble_eq_true rfl, Nat.le_of_ble_eq_true rfl⟩) hK hP hD hS [0, 1] rfl (by decide) (hz_ha [h0, at_] rfl rfl) (w' := [(h0, .inr (4, [.ref am, .ref ak, .ref aw, .int (kf), .ref af, .int (wp), .ref at_, .int (nI n), .int (nI (pz_k T n (pz_e T n q))), .int (nI (pz_b T n (pz_e T n q))), .int (nI (pz_e T n (pz_e T n q))), .int (nI (pz_v T n (pz_e T n q))), .int (nI 1), .ref ab, .ref as_, .ref ac])), (at_, .inl (cI, 120, .inl T)), (am, .inl (cI, 75, .inl M))]) (hz_pt_eq 3 [2] [(am, .inl (cI, 75, .inl M))] rfl rfl rfl rfl rfl rfl rfl) [0, 1] rfl 0 rfl rfl rfl rfl hl.1 rfl (Nat.le_of_ble_eq_true rfl) dX4_speechItem_49 ⟨Nat.zero_le _, Nat.zero_le _⟩ (fun H locs hP hD hS => ?_)
      refine W.eq (g2 := F0 m 52 ls [.int (nI (pz_v T n (pz_e T n q)))]) rfl ?_
      refine lv_istore_n (lv' := [(2, .int (nI (pz_v T n (pz_e T n q)))), (1, .int (nI (pz_v T n (pz_e T n q)))), (0, .ref h0)]) hx hb dX4_speechItem_52 rfl hl (by decide) rfl (fun ls hl => ?_)
      refine lv_aload_n hx hb dX4_speechItem_53 rfl (lv_at hl 2 rfl) ?_
      refine lv_iconst (v := nI 0) hx hb dX4_speechItem_54 (by decide) ?_
      refine lv_bipush (v := nI 99) hx hb dX4_speechItem_55 (by decide) ?_
      refine hz_cez (As := [.int (nI 0), .int (nI 99)]) (rest := []) ⟨hx, hb, hml, hown, hts⟩ (hz_Q_ok aN adK adV) hZ (c4_num_b l D cI cJ (aN := aN) (adK := adK) (adV := adV) (h0 := h0) (am := am) (ak := ak) (aw := aw) (af := af) (at_ := at_) (ab := ab) (as_ := as_) (ac := ac) (kf := kf) (wp := wp) (T := T) (n := n) (q := pz_e T n q) (mo := nI 99) (hn := by omega) (hq := by omega)) (cwV 2 hts gX4_speechItem_X4_number rfl rfl rfl (by decide +kernel) ⟨Nat.le_of_ble_eq_true rfl, Nat.le_of_ble_eq_true rfl⟩) hK hP hD hS [0, 1] rfl (by decide) (hz_ha [h0, at_] rfl rfl) (w' := [(h0, .inr (4, [.ref am, .ref ak, .ref aw, .int (kf), .ref af, .int (wp), .ref at_, .int (nI n), .int (nI (pz_k T n (pz_e T n q))), .int (nI (pz_b T n (pz_e T n q))), .int (nI (pz_e T n (pz_e T n q))), .int (nI (pz_v T n (pz_e T n q))), .int (nI 1), .ref ab, .ref as_, .ref ac])), (at_, .inl (cI, 120, .inl T)), (am, .inl (cI, 75, .inl M))]) (hz_pt_eq 3 [2] [(am, .inl (cI, 75, .inl M))] rfl rfl rfl rfl rfl rfl rfl) [0, 1] rfl 0 rfl rfl rfl rfl hl.1 rfl (Nat.le_of_ble_eq_true rfl) dX4_speechItem_57 ⟨Nat.zero_le _, Nat.zero_le _⟩ (fun H locs hP hD hS => ?_)
      refine W.eq (g2 := F0 m 60 ls [.int (nI (pz_v T n (pz_e T n q)))]) rfl ?_
      refine lv_istore_n (lv' := [(3, .int (nI (pz_v T n (pz_e T n q)))), (2, .int (nI (pz_v T n (pz_e T n q)))), (1, .int (nI (pz_v T n (pz_e T n q)))), (0, .ref h0)]) hx hb dX4_speechItem_60 rfl hl (by decide) rfl (fun ls hl => ?_)
      refine lv_aload_n hx hb dX4_speechItem_61 rfl (lv_at hl 3 rfl) ?_
      refine lv_bipush (v := nI 9) hx hb dX4_speechItem_62 (by decide) ?_
      refine lv_iconst (v := nI 0) hx hb dX4_speechItem_64 (by decide) ?_
      refine lv_aload_n hx hb dX4_speechItem_65 rfl (lv_at hl 3 rfl) ?_
      refine va_get hx hb hts hinX4 hown hK hP 0 rfl rfl 0 (by decide) wd1 (fun _ h => h) rfl dX4_speechItem_66 ?_
      refine lv_iconst (v := nI 1) hx hb dX4_speechItem_69 (by decide) ?_
      refine hz_iald (j := 1) hx hb hK hP 2 0 rfl rfl (by omega) (Nat.le_of_ble_eq_true rfl) dX4_speechItem_70 ?_
      refine hz_ct (y := nI (nD M)) hM1 ?_
      refine lv_iconst (v := nI 1) hx hb dX4_speechItem_71 (by decide) ?_
      refine lv_isub hx hb dX4_speechItem_72 ?_
      refine lv_iconst (v := -1) hx hb dX4_speechItem_73 (by decide) ?_
      refine hz_cez (As := [.int (nI 9), .int (nI 0), .int ((nI (nD M)) - (nI 1)), .int (-1)]) (rest := []) ⟨hx, hb, hml, hown, hts⟩ (hz_Q_ok aN adK adV) hZ (c4_per_b l D cI cJ (aN := aN) (adK := adK) (adV := adV) (h0 := h0) (am := am) (ak := ak) (aw := aw) (af := af) (at_ := at_) (ab := ab) (as_ := as_) (ac := ac) (kf := kf) (wp := wp) (T := T) (n := n) (q := pz_e T n q) (w := 9) (mo := (nI (nD M)) - (nI 1)) (so := -1) (hn := by omega) (hq := by omega) (hw := by omega)) (cwV 4 hts gX4_speechItem_X4_perhaps rfl rfl rfl (by decide +kernel) ⟨Nat.le_of_ble_eq_true rfl, Nat.le_of_ble_eq_true rfl⟩) hK hP hD hS [0, 1] rfl (by decide) (hz_ha [h0, at_] rfl rfl) (w' := [(h0, .inr (4, [.ref am, .ref ak, .ref aw, .int (kf), .ref af, .int (wp), .ref at_, .int (nI n), .int (nI (pz_k T n (pz_e T n q))), .int (nI (pz_b T n (pz_e T n q))), .int (nI (pz_e T n (pz_e T n q))), .int (nI (pz_v T n (pz_e T n q))), .int (nI 1), .ref ab, .ref as_, .ref ac])), (at_, .inl (cI, 120, .inl T)), (am, .inl (cI, 75, .inl M))]) (hz_pt_eq 3 [2] [(am, .inl (cI, 75, .inl M))] rfl rfl rfl rfl rfl rfl rfl) [0, 1] rfl 0 rfl rfl rfl rfl hl.1 rfl (Nat.le_of_ble_eq_true rfl) dX4_speechItem_74 ⟨Nat.zero_le _, Nat.zero_le _⟩ (fun H locs hP hD hS => ?_)
      refine W.eq (g2 := F0 m 77 ls [.int ((-1))]) rfl ?_
      refine lv_istore (lv' := [(4, .int ((-1))), (3, .int (nI (pz_v T n (pz_e T n q)))), (2, .int (nI (pz_v T n (pz_e T n q)))), (1, .int (nI (pz_v T n (pz_e T n q)))), (0, .ref h0)]) hx hb dX4_speechItem_77 hl (by decide) rfl (fun ls hl => ?_)
      refine lv_aload_n hx hb dX4_speechItem_79 rfl (lv_at hl 4 rfl) ?_
      refine va_get hx hb hts hinX4 hown hK hP 0 rfl rfl 12 (by decide) wd2 (fun _ h => h) rfl dX4_speechItem_80 ?_
      refine lv_if_ne (tgt := 97) hx hb dX4_speechItem_83 (by decide) (fun _ => ?_) (fun h => absurd h (by first | decide | omega | exact hz_nneg (by omega) | exact hz_nneg' (by omega)))
      refine hz_ev hx hb hr hlocks ?_ hS dX4_speechItem_97
      rw [show pz_sl T n M q = (pz_e T n q, none) by rw [pz_sl, if_neg c9, pz_sp, if_neg h9001]]
      exact hP
  · refine lv_iconst (v := nI 1) hx hb dX4_speechItem_12 (by decide) ?_
    refine lv_goto (tgt := 17) hx hb dX4_speechItem_13 (by decide) ?_
    refine va_put hx hb hts hinX4 tyX4 tyX4_ok nmX4 hown hK hP hD hS 0 rfl rfl 12 (by decide) wd2 (fun _ h => h) rfl (tyX4_ok 12 (by decide)) rfl rfl (Nat.le_of_ble_eq_true rfl) dX4_speechItem_17 (fun H locs hP hD hS => ?_)
    have hP : va_P D zcl [(h0, .inr (4, [.ref am, .ref ak, .ref aw, .int (kf), .ref af, .int (wp), .ref at_, .int (nI n), .int (nI (pz_k T n q)), .int (nI (pz_b T n q)), .int (nI (pz_e T n q)), .int (nI (pz_v T n q)), .int (nI 1), .ref ab, .ref as_, .ref ac])), (at_, .inl (cI, 120, .inl T)), (am, .inl (cI, 75, .inl M))] H := hP
    have hD : va_D (hz_a [(h0, .inr (4, [.ref am, .ref ak, .ref aw, .int (kf), .ref af, .int (wp), .ref at_, .int (nI n), .int (nI (pz_k T n q)), .int (nI (pz_b T n q)), .int (nI (pz_e T n q)), .int (nI (pz_v T n q)), .int (bd), .ref ab, .ref as_, .ref ac])), (at_, .inl (cI, 120, .inl T)), (am, .inl (cI, 75, .inl M))]) [(h0, .inr (4, [.ref am, .ref ak, .ref aw, .int (kf), .ref af, .int (wp), .ref at_, .int (nI n), .int (nI (pz_k T n q)), .int (nI (pz_b T n q)), .int (nI (pz_e T n q)), .int (nI (pz_v T n q)), .int (nI 1), .ref ab, .ref as_, .ref ac])), (at_, .inl (cI, 120, .inl T)), (am, .inl (cI, 75, .inl M))] := hD
    refine lv_aload_n hx hb dX4_speechItem_20 rfl (lv_at hl 0 rfl) ?_
    refine va_get hx hb hts hinX4 hown hK hP 0 rfl rfl 12 (by decide) wd2 (fun _ h => h) rfl dX4_speechItem_21 ?_
    refine lv_if_eq (tgt := 28) hx hb dX4_speechItem_24 (by decide) (fun h => absurd h (by first | decide | omega | exact hz_nneg (by omega) | exact hz_nneg' (by omega))) (fun _ => ?_)
    refine hz_ev hx hb hr hlocks ?_ hS dX4_speechItem_27
    rw [show pz_sl T n M q = (q, none) from if_pos c9]
    exact hP
set_option maxHeartbeats 4000000 in
set_option maxRecDepth 100000 in
theorem c4_item (l : Launch) (D : va_G) (cI cJ : ClassId) (aN : Nat) (adK adV : Nat → Nat) (h0 am ak aw af at_ ab as_ ac : Nat) (kf wp : Int32) (bd : Int32) (M : Nat → Int32) (T : Nat → Int32) (n : Nat) (q : Nat) (hn : n ≤ 120) (hq : q ≤ n) (hM1 : M 1 = nI (nD M)) (hD8 : nD M ≤ 8) (hM2 : M 2 = nI (nS M)) (hS8 : nS M ≤ 8) : hz_MEz (hz_Q aN adK adV) l yX4_item wsX4_item { frames := 6, cells := 0, slots := 0, locals := 138 } [.ref h0] D zcl [(cI, .int), (cJ, .long)] [(h0, .inr (4, [.ref am, .ref ak, .ref aw, .int (kf), .ref af, .int (wp), .ref at_, .int (nI n), .int (nI (pz_k T n q)), .int (nI (pz_b T n q)), .int (nI (pz_e T n q)), .int (nI (pz_v T n q)), .int (bd), .ref ab, .ref as_, .ref ac])), (at_, .inl (cI, 120, .inl T)), (am, .inl (cI, 75, .inl M))] [(h0, .inr (4, [.ref am, .ref ak, .ref aw, .int (kf), .ref af, .int (wp), .ref at_, .int (nI n), .int (nI (pz_k T n ((pz_item T n M q).1))), .int (nI (pz_b T n ((pz_item T n M q).1))), .int (nI (pz_e T n ((pz_item T n M q).1))), .int (nI (pz_v T n ((pz_item T n M q).1))), .int (pz_bd (pz_item T n M q).2.isSome), .ref ab, .ref as_, .ref ac])), (at_, .inl (cI, 120, .inl T)), (am, .inl (cI, 75, .inl ((pz_item T n M q).2.getD M)))] none := by
  refine hz_mez (cc := cX4_item) (maxL := 1) (ret := none) (by decide) rfl (Nat.le_of_ble_eq_true rfl) ?_
  intro p e s m below meth c hx hb hr hts hown hlocks hml hP hK hD hZ ls hl
  have hS : va_S (hz_a [(h0, .inr (4, [.ref am, .ref ak, .ref aw, .int (kf), .ref af, .int (wp), .ref at_, .int (nI n), .int (nI (pz_k T n q)), .int (nI (pz_b T n q)), .int (nI (pz_e T n q)), .int (nI (pz_v T n q)), .int (bd), .ref ab, .ref as_, .ref ac])), (at_, .inl (cI, 120, .inl T)), (am, .inl (cI, 75, .inl M))]) s.heap s.heap [] := va_S.rf
  have hown : s.vm.findClass RX4 = some m.cls := hown
  have hl : lv_has ls 1 [(0, .ref h0)] := hl
  have hinX4 : ∀ w ∈ u_ws RX4 TX4 16, w ∈ wsX4_item := fun w h => List.mem_cons_of_mem _ (List.mem_append_right _ (h))
  have wd1 := hts (.fieldLink RX4 168 "HurtSpeechModel" "token" "I") (List.mem_of_getElem? (i := 1) rfl)
  have wd2 := hts (.fieldLink RX4 174 "HurtSpeechModel" "bad" "Z") (List.mem_of_getElem? (i := 2) rfl)
  have hk24 := pz_k_r T n q
  have hv4 := pz_v_r T n q
  have hb1 := pz_b_ge T n q
  have hb2 := pz_e_ge T n q
  have hb3 := pz_e_le (T := T) hq
  have hb4 := pz_t_le T n q
  refine lv_aload_n hx hb dX4_item_0 rfl (lv_at hl 0 rfl) ?_
  refine va_get hx hb hts hinX4 hown hK hP 0 rfl rfl 8 (by decide) wd1 (fun _ h => h) rfl dX4_item_1 ?_
  refine lv_iconst (v := nI 5) hx hb dX4_item_4 (by decide) ?_
  refine hz_icmp_gt (tgt := 15) (by omega) (by omega) hx hb dX4_item_5 (by decide) (fun c5 => ?_) (fun c5 => ?_)
  · refine lv_aload_n hx hb dX4_item_15 rfl (lv_at hl 0 rfl) ?_
    refine va_get hx hb hts hinX4 hown hK hP 0 rfl rfl 8 (by decide) wd1 (fun _ h => h) rfl dX4_item_16 ?_
    refine lv_bipush (v := nI 8) hx hb dX4_item_19 (by decide) ?_
    refine hz_icmp_ne (tgt := 31) (by omega) (by omega) hx hb dX4_item_21 (by decide) (fun c21 => ?_) (fun c21 => ?_)
    · refine lv_aload_n hx hb dX4_item_31 rfl (lv_at hl 0 rfl) ?_
      refine lv_iconst (v := nI 1) hx hb dX4_item_32 (by decide) ?_
      refine va_put hx hb hts hinX4 tyX4 tyX4_ok nmX4 hown hK hP hD hS 0 rfl rfl 12 (by decide) wd2 (fun _ h => h) rfl (tyX4_ok 12 (by decide)) rfl rfl (Nat.le_of_ble_eq_true rfl) dX4_item_33 (fun H locs hP hD hS => ?_)
      have hP : va_P D zcl [(h0, .inr (4, [.ref am, .ref ak, .ref aw, .int (kf), .ref af, .int (wp), .ref at_, .int (nI n), .int (nI (pz_k T n q)), .int (nI (pz_b T n q)), .int (nI (pz_e T n q)), .int (nI (pz_v T n q)), .int (nI 1), .ref ab, .ref as_, .ref ac])), (at_, .inl (cI, 120, .inl T)), (am, .inl (cI, 75, .inl M))] H := hP
      have hD : va_D (hz_a [(h0, .inr (4, [.ref am, .ref ak, .ref aw, .int (kf), .ref af, .int (wp), .ref at_, .int (nI n), .int (nI (pz_k T n q)), .int (nI (pz_b T n q)), .int (nI (pz_e T n q)), .int (nI (pz_v T n q)), .int (bd), .ref ab, .ref as_, .ref ac])), (at_, .inl (cI, 120, .inl T)), (am, .inl (cI, 75, .inl M))]) [(h0, .inr (4, [.ref am, .ref ak, .ref aw, .int (kf), .ref af, .int (wp), .ref at_, .int (nI n), .int (nI (pz_k T n q)), .int (nI (pz_b T n q)), .int (nI (pz_e T n q)), .int (nI (pz_v T n q)), .int (nI 1), .ref ab, .ref as_, .ref ac])), (at_, .inl (cI, 120, .inl T)), (am, .inl (cI, 75, .inl M))] := hD
      refine hz_ev hx hb hr hlocks ?_ hS dX4_item_36
      rw [show pz_item T n M q = (q, none) from (if_neg (by omega)).trans (if_neg c21)]
      exact hP
    · refine lv_aload_n hx hb dX4_item_24 rfl (lv_at hl 0 rfl) ?_
      refine hz_cez (As := []) (rest := []) ⟨hx, hb, hml, hown, hts⟩ (hz_Q_ok aN adK adV) hZ (c4_sl l D cI cJ (aN := aN) (adK := adK) (adV := adV) (h0 := h0) (am := am) (ak := ak) (aw := aw) (af := af) (at_ := at_) (ab := ab) (as_ := as_) (ac := ac) (kf := kf) (wp := wp) (bd := bd) (M := M) (T := T) (n := n) (q := q) (hn := by omega) (hq := by omega) (hM1 := by first | assumption | rfl) (hD8 := by first | assumption | rfl) (hM2 := by first | assumption | rfl) (hS8 := by first | assumption | rfl)) (cwV 0 hts gX4_item_X4_speechItem rfl rfl rfl (by decide +kernel) ⟨Nat.le_of_ble_eq_true rfl, Nat.le_of_ble_eq_true rfl⟩) hK hP hD hS [0, 1, 2] rfl (by decide) (hz_ha [h0, at_, am] rfl rfl) (w' := [(h0, .inr (4, [.ref am, .ref ak, .ref aw, .int (kf), .ref af, .int (wp), .ref at_, .int (nI n), .int (nI (pz_k T n ((pz_sl T n M q).1))), .int (nI (pz_b T n ((pz_sl T n M q).1))), .int (nI (pz_e T n ((pz_sl T n M q).1))), .int (nI (pz_v T n ((pz_sl T n M q).1))), .int (pz_bd (pz_sl T n M q).2.isSome), .ref ab, .ref as_, .ref ac])), (at_, .inl (cI, 120, .inl T)), (am, .inl (cI, 75, .inl ((pz_sl T n M q).2.getD M)))]) (hz_pt_eq 3 [] [] rfl rfl rfl rfl rfl rfl rfl) [0, 1] rfl 0 rfl rfl rfl rfl hl.1 rfl (Nat.le_of_ble_eq_true rfl) dX4_item_25 ⟨Nat.zero_le _, Nat.zero_le _⟩ (fun H locs hP hD hS => ?_)
      refine W.eq (g2 := F0 m 28 ls []) rfl ?_
      refine lv_goto (tgt := 36) hx hb dX4_item_28 (by decide) ?_
      refine hz_ev hx hb hr hlocks ?_ hS dX4_item_36
      rw [show pz_item T n M q = pz_sl T n M q from (if_neg (by omega)).trans (if_pos c21)]
      exact hP
  · refine lv_aload_n hx hb dX4_item_8 rfl (lv_at hl 0 rfl) ?_
    refine hz_cez (As := []) (rest := []) ⟨hx, hb, hml, hown, hts⟩ (hz_Q_ok aN adK adV) hZ (c4_dl l D cI cJ (aN := aN) (adK := adK) (adV := adV) (h0 := h0) (am := am) (ak := ak) (aw := aw) (af := af) (at_ := at_) (ab := ab) (as_ := as_) (ac := ac) (kf := kf) (wp := wp) (bd := bd) (M := M) (T := T) (n := n) (q := q) (hn := by omega) (hq := by omega) (hM1 := by first | assumption | rfl) (hD8 := by first | assumption | rfl)) (cwV 0 hts gX4_item_X4_delegateItem rfl rfl rfl (by decide +kernel) ⟨Nat.le_of_ble_eq_true rfl, Nat.le_of_ble_eq_true rfl⟩) hK hP hD hS [0, 1, 2] rfl (by decide) (hz_ha [h0, at_, am] rfl rfl) (w' := [(h0, .inr (4, [.ref am, .ref ak, .ref aw, .int (kf), .ref af, .int (wp), .ref at_, .int (nI n), .int (nI (pz_k T n ((pz_dl T n M q).1))), .int (nI (pz_b T n ((pz_dl T n M q).1))), .int (nI (pz_e T n ((pz_dl T n M q).1))), .int (nI (pz_v T n ((pz_dl T n M q).1))), .int (pz_bd (pz_dl T n M q).2.isSome), .ref ab, .ref as_, .ref ac])), (at_, .inl (cI, 120, .inl T)), (am, .inl (cI, 75, .inl ((pz_dl T n M q).2.getD M)))]) (hz_pt_eq 3 [] [] rfl rfl rfl rfl rfl rfl rfl) [0, 1] rfl 0 rfl rfl rfl rfl hl.1 rfl (Nat.le_of_ble_eq_true rfl) dX4_item_9 ⟨Nat.zero_le _, Nat.zero_le _⟩ (fun H locs hP hD hS => ?_)
    refine W.eq (g2 := F0 m 12 ls []) rfl ?_
    refine lv_goto (tgt := 36) hx hb dX4_item_12 (by decide) ?_
    refine hz_ev hx hb hr hlocks ?_ hS dX4_item_36
    rw [show pz_item T n M q = pz_dl T n M q from if_pos c5]
    exact hP
set_option maxHeartbeats 4000000 in
set_option maxRecDepth 100000 in
theorem c4_congress (l : Launch) (D : va_G) (cI cJ : ClassId) (aN : Nat) (adK adV : Nat → Nat) (h0 am ak aw af at_ ab as_ ac : Nat) (kf wp tk bg ap vl bd : Int32) (M G T : Nat → Int32) (n b : Nat) (hn : n ≤ 120) (hI : hz_I b M) : hz_MXz (hz_Q aN adK adV) l yX4_congress wsX4_congress { frames := 7, cells := 0, slots := 0, locals := 158 } [.ref h0] D zcl [(cI, .int), (cJ, .long)] [(h0, .inr (4, [.ref am, .ref ak, .ref aw, .int (kf), .ref af, .int (wp), .ref at_, .int (nI n), .int (tk), .int (bg), .int (ap), .int (vl), .int (bd), .ref ab, .ref as_, .ref ac])), (at_, .inl (cI, 120, .inl T)), (am, .inl (cI, 75, .inl M)), (aw, .inl (cI, 75, .inl G))] (fun (u : Int32 × Int32 × Int32 × Int32 × Int32) => [(h0, .inr (4, [.ref am, .ref ak, .ref aw, .int (kf), .ref af, .int (wp), .ref at_, .int (nI 0), .int (u.1), .int (u.2.1), .int (u.2.2.1), .int (u.2.2.2.1), .int (u.2.2.2.2), .ref ab, .ref as_, .ref ac])), (at_, .inl (cI, 120, .inl T)), (am, .inl (cI, 75, .inl (pz_M M (pz_all T n 120 1 M 0)))), (aw, .inl (cI, 75, .inl M))]) (some (.int (pz_ans T n (pz_all T n 120 1 M 0)))) := by
  refine hz_mxz (cc := cX4_congress) (maxL := 2) (ret := (some .int)) (by decide) rfl (Nat.le_of_ble_eq_true rfl) ?_
  intro p e s m below meth c hx hb hr hts hown hlocks hml hP hK hD hZ ls hl
  have hS : va_S (hz_a [(h0, .inr (4, [.ref am, .ref ak, .ref aw, .int (kf), .ref af, .int (wp), .ref at_, .int (nI n), .int (tk), .int (bg), .int (ap), .int (vl), .int (bd), .ref ab, .ref as_, .ref ac])), (at_, .inl (cI, 120, .inl T)), (am, .inl (cI, 75, .inl M)), (aw, .inl (cI, 75, .inl G))]) s.heap s.heap [] := va_S.rf
  have hown : s.vm.findClass RX4 = some m.cls := hown
  have hl : lv_has ls 2 [(0, .ref h0)] := hl
  have hinX4 : ∀ w ∈ u_ws RX4 TX4 16, w ∈ wsX4_congress := fun w h => List.mem_cons_of_mem _ (List.mem_append_right _ (h))
  have wd1 := hts (.fieldLink RX4 155 "HurtSpeechModel" "at" "I") (List.mem_of_getElem? (i := 1) rfl)
  have wd2 := hts (.fieldLink RX4 174 "HurtSpeechModel" "bad" "Z") (List.mem_of_getElem? (i := 2) rfl)
  have wd3 := hts (.fieldLink RX4 168 "HurtSpeechModel" "token" "I") (List.mem_of_getElem? (i := 3) rfl)
  have wd4 := hts (.fieldLink RX4 146 "HurtSpeechModel" "taped" "I") (List.mem_of_getElem? (i := 4) rfl)
  have wd5 := hts (.fieldLink RX4 152 "HurtSpeechModel" "begin" "I") (List.mem_of_getElem? (i := 5) rfl)
  obtain ⟨⟨-, -, hM1, hD8, hM2, hS8⟩, -, -⟩ := id hI
  refine lv_aload_n hx hb dX4_congress_0 rfl (lv_at hl 0 rfl) ?_
  refine hz_ce (As := []) (rest := []) ⟨hx, hb, hml, hown, hts⟩ (c4_thinks l D cI cJ (h0 := h0) (am := am) (aw := aw) (fs := [.ref am, .ref ak, .ref aw, .int (kf), .ref af, .int (wp), .ref at_, .int (nI n), .int (tk), .int (bg), .int (ap), .int (vl), .int (bd), .ref ab, .ref as_, .ref ac]) (M := M) (G := G) (hf := by first | assumption | rfl) (hf2 := by first | assumption | rfl)) (cwV 0 hts gX4_congress_X4_thinks rfl rfl rfl (by decide +kernel) ⟨Nat.le_of_ble_eq_true rfl, Nat.le_of_ble_eq_true rfl⟩) hK hP hD hS [0, 2, 3] rfl (by decide) (hz_ha [h0, am, aw] rfl rfl) (w' := [(h0, .inr (4, [.ref am, .ref ak, .ref aw, .int (kf), .ref af, .int (wp), .ref at_, .int (nI n), .int (tk), .int (bg), .int (ap), .int (vl), .int (bd), .ref ab, .ref as_, .ref ac])), (at_, .inl (cI, 120, .inl T)), (am, .inl (cI, 75, .inl M)), (aw, .inl (cI, 75, .inl M))]) (hz_pt_eq 4 [1] [(at_, .inl (cI, 120, .inl T))] rfl rfl rfl rfl rfl rfl rfl) [0, 1] rfl 0 rfl rfl rfl rfl hl.1 rfl (Nat.le_of_ble_eq_true rfl) dX4_congress_1 ⟨Nat.zero_le _, Nat.zero_le _⟩ (fun H locs hP hD hS => ?_)
  refine W.eq (g2 := F0 m 4 ls []) rfl ?_
  refine lv_aload_n hx hb dX4_congress_4 rfl (lv_at hl 0 rfl) ?_
  refine lv_iconst (v := nI 0) hx hb dX4_congress_5 (by decide) ?_
  refine va_put hx hb hts hinX4 tyX4 tyX4_ok nmX4 hown hK hP hD hS 0 rfl rfl 10 (by decide) wd1 (fun _ h => h) rfl (tyX4_ok 10 (by decide)) rfl rfl (Nat.le_of_ble_eq_true rfl) dX4_congress_6 (fun H locs hP hD hS => ?_)
  have hP : va_P D zcl [(h0, .inr (4, [.ref am, .ref ak, .ref aw, .int (kf), .ref af, .int (wp), .ref at_, .int (nI n), .int (tk), .int (bg), .int (nI 0), .int (vl), .int (bd), .ref ab, .ref as_, .ref ac])), (at_, .inl (cI, 120, .inl T)), (am, .inl (cI, 75, .inl M)), (aw, .inl (cI, 75, .inl M))] H := hP
  have hD : va_D (hz_a [(h0, .inr (4, [.ref am, .ref ak, .ref aw, .int (kf), .ref af, .int (wp), .ref at_, .int (nI n), .int (tk), .int (bg), .int (ap), .int (vl), .int (bd), .ref ab, .ref as_, .ref ac])), (at_, .inl (cI, 120, .inl T)), (am, .inl (cI, 75, .inl M)), (aw, .inl (cI, 75, .inl G))]) [(h0, .inr (4, [.ref am, .ref ak, .ref aw, .int (kf), .ref af, .int (wp), .ref at_, .int (nI n), .int (tk), .int (bg), .int (nI 0), .int (vl), .int (bd), .ref ab, .ref as_, .ref ac])), (at_, .inl (cI, 120, .inl T)), (am, .inl (cI, 75, .inl M)), (aw, .inl (cI, 75, .inl M))] := hD
  refine lv_aload_n hx hb dX4_congress_9 rfl (lv_at hl 0 rfl) ?_
  refine lv_iconst (v := nI 0) hx hb dX4_congress_10 (by decide) ?_
  refine va_put hx hb hts hinX4 tyX4 tyX4_ok nmX4 hown hK hP hD hS 0 rfl rfl 12 (by decide) wd2 (fun _ h => h) rfl (tyX4_ok 12 (by decide)) rfl rfl (Nat.le_of_ble_eq_true rfl) dX4_congress_11 (fun H locs hP hD hS => ?_)
  have hP : va_P D zcl [(h0, .inr (4, [.ref am, .ref ak, .ref aw, .int (kf), .ref af, .int (wp), .ref at_, .int (nI n), .int (tk), .int (bg), .int (nI 0), .int (vl), .int (nI 0), .ref ab, .ref as_, .ref ac])), (at_, .inl (cI, 120, .inl T)), (am, .inl (cI, 75, .inl M)), (aw, .inl (cI, 75, .inl M))] H := hP
  have hD : va_D (hz_a [(h0, .inr (4, [.ref am, .ref ak, .ref aw, .int (kf), .ref af, .int (wp), .ref at_, .int (nI n), .int (tk), .int (bg), .int (ap), .int (vl), .int (bd), .ref ab, .ref as_, .ref ac])), (at_, .inl (cI, 120, .inl T)), (am, .inl (cI, 75, .inl M)), (aw, .inl (cI, 75, .inl G))]) [(h0, .inr (4, [.ref am, .ref ak, .ref aw, .int (kf), .ref af, .int (wp), .ref at_, .int (nI n), .int (tk), .int (bg), .int (nI 0), .int (vl), .int (nI 0), .ref ab, .ref as_, .ref ac])), (at_, .inl (cI, 120, .inl T)), (am, .inl (cI, 75, .inl M)), (aw, .inl (cI, 75, .inl M))] := hD
  refine lv_aload_n hx hb dX4_congress_14 rfl (lv_at hl 0 rfl) ?_
  refine hz_cez (As := []) (rest := []) ⟨hx, hb, hml, hown, hts⟩ (hz_Q_ok aN adK adV) hZ (c4_reads l D cI cJ (aN := aN) (adK := adK) (adV := adV) (h0 := h0) (am := am) (ak := ak) (aw := aw) (af := af) (at_ := at_) (ab := ab) (as_ := as_) (ac := ac) (kf := kf) (wp := wp) (bd := nI 0) (tk := tk) (bg := bg) (vl := vl) (T := T) (n := n) (q := 0) (hn := by omega) (hq := by omega)) (cwV 0 hts gX4_congress_X4_reads rfl rfl rfl (by decide +kernel) ⟨Nat.le_of_ble_eq_true rfl, Nat.le_of_ble_eq_true rfl⟩) hK hP hD hS [0, 1] rfl (by decide) (hz_ha [h0, at_] rfl rfl) (w' := [(h0, .inr (4, [.ref am, .ref ak, .ref aw, .int (kf), .ref af, .int (wp), .ref at_, .int (nI n), .int (nI (pz_k T n 0)), .int (nI (pz_b T n 0)), .int (nI (pz_e T n 0)), .int (nI (pz_v T n 0)), .int (nI 0), .ref ab, .ref as_, .ref ac])), (at_, .inl (cI, 120, .inl T)), (am, .inl (cI, 75, .inl M)), (aw, .inl (cI, 75, .inl M))]) (hz_pt_eq 4 [2, 3] [(am, .inl (cI, 75, .inl M)), (aw, .inl (cI, 75, .inl M))] rfl rfl rfl rfl rfl rfl rfl) [0, 1] rfl 0 rfl rfl rfl rfl hl.1 rfl (Nat.le_of_ble_eq_true rfl) dX4_congress_15 ⟨Nat.zero_le _, Nat.zero_le _⟩ (fun H locs hP hD hS => ?_)
  refine W.eq (g2 := F0 m 18 ls []) rfl ?_
  refine lv_aload_n hx hb dX4_congress_18 rfl (lv_at hl 0 rfl) ?_
  refine hz_cez (As := []) (rest := []) ⟨hx, hb, hml, hown, hts⟩ (hz_Q_ok aN adK adV) hZ (c4_item l D cI cJ (aN := aN) (adK := adK) (adV := adV) (h0 := h0) (am := am) (ak := ak) (aw := aw) (af := af) (at_ := at_) (ab := ab) (as_ := as_) (ac := ac) (kf := kf) (wp := wp) (bd := nI 0) (M := M) (T := T) (n := n) (q := 0) (hn := by omega) (hq := by omega) (hM1 := by first | assumption | rfl) (hD8 := by first | assumption | rfl) (hM2 := by first | assumption | rfl) (hS8 := by first | assumption | rfl)) (cwV 0 hts gX4_congress_X4_item rfl rfl rfl (by decide +kernel) ⟨Nat.le_of_ble_eq_true rfl, Nat.le_of_ble_eq_true rfl⟩) hK hP hD hS [0, 1, 2] rfl (by decide) (hz_ha [h0, at_, am] rfl rfl) (w' := [(h0, .inr (4, [.ref am, .ref ak, .ref aw, .int (kf), .ref af, .int (wp), .ref at_, .int (nI n), .int (nI (pz_k T n ((pz_item T n M 0).1))), .int (nI (pz_b T n ((pz_item T n M 0).1))), .int (nI (pz_e T n ((pz_item T n M 0).1))), .int (nI (pz_v T n ((pz_item T n M 0).1))), .int (pz_bd (pz_item T n M 0).2.isSome), .ref ab, .ref as_, .ref ac])), (at_, .inl (cI, 120, .inl T)), (am, .inl (cI, 75, .inl ((pz_item T n M 0).2.getD M))), (aw, .inl (cI, 75, .inl M))]) (hz_pt_eq 4 [3] [(aw, .inl (cI, 75, .inl M))] rfl rfl rfl rfl rfl rfl rfl) [0, 1] rfl 0 rfl rfl rfl rfl hl.1 rfl (Nat.le_of_ble_eq_true rfl) dX4_congress_19 ⟨Nat.zero_le _, Nat.zero_le _⟩ (fun H locs hP hD hS => ?_)
  refine W.eq (g2 := F0 m 22 ls []) rfl ?_
  refine lv_iconst (v := nI 1) hx hb dX4_congress_22 (by decide) ?_
  refine lv_istore_n (lv' := [(1, .int (nI 1)), (0, .ref h0)]) hx hb dX4_congress_23 rfl hl (by decide) rfl (fun ls hl => ?_)
  have loop : ∀ (nn : Nat) (f_ : Nat) (M_ : Nat → Int32) (q_ : Nat) (ls : Array Slot) (H : Heap) (locs : List Loc), f_ < nn → (f_ ≤ 119) → (119 ≤ q_ + f_) → (q_ ≤ n) → (hz_I b M_) → (pz_all T n (f_ + 1) (120 - f_) M_ q_ = pz_all T n 120 1 M 0) → lv_has ls 2 [(1, .int (nI (120 - f_))), (0, .ref h0)] → va_P D zcl [(h0, .inr (4, [.ref am, .ref ak, .ref aw, .int (kf), .ref af, .int (wp), .ref at_, .int (nI n), .int (nI (pz_k T n ((pz_item T n M_ q_).1))), .int (nI (pz_b T n ((pz_item T n M_ q_).1))), .int (nI (pz_e T n ((pz_item T n M_ q_).1))), .int (nI (pz_v T n ((pz_item T n M_ q_).1))), .int (pz_bd (pz_item T n M_ q_).2.isSome), .ref ab, .ref as_, .ref ac])), (at_, .inl (cI, 120, .inl T)), (am, .inl (cI, 75, .inl ((pz_item T n M_ q_).2.getD M_))), (aw, .inl (cI, 75, .inl M))] H → va_D (hz_a [(h0, .inr (4, [.ref am, .ref ak, .ref aw, .int (kf), .ref af, .int (wp), .ref at_, .int (nI n), .int (tk), .int (bg), .int (ap), .int (vl), .int (bd), .ref ab, .ref as_, .ref ac])), (at_, .inl (cI, 120, .inl T)), (am, .inl (cI, 75, .inl M)), (aw, .inl (cI, 75, .inl G))]) [(h0, .inr (4, [.ref am, .ref ak, .ref aw, .int (kf), .ref af, .int (wp), .ref at_, .int (nI n), .int (nI (pz_k T n ((pz_item T n M_ q_).1))), .int (nI (pz_b T n ((pz_item T n M_ q_).1))), .int (nI (pz_e T n ((pz_item T n M_ q_).1))), .int (nI (pz_v T n ((pz_item T n M_ q_).1))), .int (pz_bd (pz_item T n M_ q_).2.isSome), .ref ab, .ref as_, .ref ac])), (at_, .inl (cI, 120, .inl T)), (am, .inl (cI, 75, .inl ((pz_item T n M_ q_).2.getD M_))), (aw, .inl (cI, 75, .inl M))] → va_S (hz_a [(h0, .inr (4, [.ref am, .ref ak, .ref aw, .int (kf), .ref af, .int (wp), .ref at_, .int (nI n), .int (tk), .int (bg), .int (ap), .int (vl), .int (bd), .ref ab, .ref as_, .ref ac])), (at_, .inl (cI, 120, .inl T)), (am, .inl (cI, 75, .inl M)), (aw, .inl (cI, 75, .inl G))]) s.heap H locs → W p l e (headSpec wsX4_congress { frames := 7, cells := 0, slots := 0, locals := 158 }).room s m ([.ref h0] : List Value).toArray below meth c H locs 0 0 (MQ below (hz_X D zcl (fun (u : Int32 × Int32 × Int32 × Int32 × Int32) => [(h0, .inr (4, [.ref am, .ref ak, .ref aw, .int (kf), .ref af, .int (wp), .ref at_, .int (nI 0), .int (u.1), .int (u.2.1), .int (u.2.2.1), .int (u.2.2.2.1), .int (u.2.2.2.2), .ref ab, .ref as_, .ref ac])), (at_, .inl (cI, 120, .inl T)), (am, .inl (cI, 75, .inl (pz_M M (pz_all T n 120 1 M 0)))), (aw, .inl (cI, 75, .inl M))]) (some (.int (pz_ans T n (pz_all T n 120 1 M 0)))) (hz_a [(h0, .inr (4, [.ref am, .ref ak, .ref aw, .int (kf), .ref af, .int (wp), .ref at_, .int (nI n), .int (tk), .int (bg), .int (ap), .int (vl), .int (bd), .ref ab, .ref as_, .ref ac])), (at_, .inl (cI, 120, .inl T)), (am, .inl (cI, 75, .inl M)), (aw, .inl (cI, 75, .inl G))])) ([.ref h0] : List Value).toArray s 0 0 (hz_a [(h0, .inr (4, [.ref am, .ref ak, .ref aw, .int (kf), .ref af, .int (wp), .ref at_, .int (nI n), .int (tk), .int (bg), .int (ap), .int (vl), .int (bd), .ref ab, .ref as_, .ref ac])), (at_, .inl (cI, 120, .inl T)), (am, .inl (cI, 75, .inl M)), (aw, .inl (cI, 75, .inl G))])) (F0 m 24 ls []) := by
    intro nn
    induction nn with
    | zero => intro f_ M_ q_ ls H locs hnn hf hqf hqn hIm hrr hl hP hD hS; exact absurd hnn (Nat.not_lt_zero _)
    | succ nn ihloop =>
      intro f_ M_ q_ ls H locs hnn hf hqf hqn hIm hrr hl hP hD hS
      rcases hi : pz_item T n M_ q_ with ⟨q2, _ | M2⟩
      · rw [hi] at hP hD
        have hP : va_P D zcl [(h0, .inr (4, [.ref am, .ref ak, .ref aw, .int (kf), .ref af, .int (wp), .ref at_, .int (nI n), .int (nI (pz_k T n q2)), .int (nI (pz_b T n q2)), .int (nI (pz_e T n q2)), .int (nI (pz_v T n q2)), .int (nI 1), .ref ab, .ref as_, .ref ac])), (at_, .inl (cI, 120, .inl T)), (am, .inl (cI, 75, .inl M_)), (aw, .inl (cI, 75, .inl M))] H := hP
        have hD : va_D (hz_a [(h0, .inr (4, [.ref am, .ref ak, .ref aw, .int (kf), .ref af, .int (wp), .ref at_, .int (nI n), .int (tk), .int (bg), .int (ap), .int (vl), .int (bd), .ref ab, .ref as_, .ref ac])), (at_, .inl (cI, 120, .inl T)), (am, .inl (cI, 75, .inl M)), (aw, .inl (cI, 75, .inl G))]) [(h0, .inr (4, [.ref am, .ref ak, .ref aw, .int (kf), .ref af, .int (wp), .ref at_, .int (nI n), .int (nI (pz_k T n q2)), .int (nI (pz_b T n q2)), .int (nI (pz_e T n q2)), .int (nI (pz_v T n q2)), .int (nI 1), .ref ab, .ref as_, .ref ac])), (at_, .inl (cI, 120, .inl T)), (am, .inl (cI, 75, .inl M_)), (aw, .inl (cI, 75, .inl M))] := hD
        have hq2 := pz_none hqn hi
        have hk2 := pz_k_r T n q2
        have hv2 := pz_v_r T n q2
        have hb2 := pz_b_ge T n q2
        have hb3 := pz_e_ge T n q2
        have he2 := pz_e_le (T := T) (n := n) (q := q2) (by omega)
        refine lv_aload_n hx hb dX4_congress_24 rfl (lv_at hl 1 rfl) ?_
        refine lv_bipush (v := nI 21) hx hb dX4_congress_25 (by decide) ?_
        refine hz_cez (As := [.int (nI 21)]) (rest := []) ⟨hx, hb, hml, hown, hts⟩ (hz_Q_ok aN adK adV) hZ (c4_pass_b l D cI cJ (aN := aN) (adK := adK) (adV := adV) (h0 := h0) (am := am) (ak := ak) (aw := aw) (af := af) (at_ := at_) (ab := ab) (as_ := as_) (ac := ac) (kf := kf) (wp := wp) (T := T) (n := n) (q := q2) (w := 21) (hn := by omega) (hq := by omega) (hw := by omega)) (cwV 1 hts gX4_congress_X4_passes rfl rfl rfl (by decide +kernel) ⟨Nat.le_of_ble_eq_true rfl, Nat.le_of_ble_eq_true rfl⟩) hK hP hD hS [0, 1] rfl (by decide) (hz_ha [h0, at_] rfl rfl) (w' := [(h0, .inr (4, [.ref am, .ref ak, .ref aw, .int (kf), .ref af, .int (wp), .ref at_, .int (nI n), .int (nI (pz_k T n q2)), .int (nI (pz_b T n q2)), .int (nI (pz_e T n q2)), .int (nI (pz_v T n q2)), .int (nI 1), .ref ab, .ref as_, .ref ac])), (at_, .inl (cI, 120, .inl T)), (am, .inl (cI, 75, .inl M_)), (aw, .inl (cI, 75, .inl M))]) (hz_pt_eq 4 [2, 3] [(am, .inl (cI, 75, .inl M_)), (aw, .inl (cI, 75, .inl M))] rfl rfl rfl rfl rfl rfl rfl) [0, 1] rfl 0 rfl rfl rfl rfl hl.1 rfl (Nat.le_of_ble_eq_true rfl) dX4_congress_27 ⟨Nat.zero_le _, Nat.zero_le _⟩ (fun H locs hP hD hS => ?_)
        refine W.eq (g2 := F0 m 30 ls [.int (nI 0)]) rfl ?_
        refine lv_if_eq (tgt := 43) hx hb dX4_congress_30 (by decide) (fun _ => ?_) (fun h => absurd h (by first | decide | omega | exact hz_nneg (by omega) | exact hz_nneg' (by omega)))
        refine lv_aload_n hx hb dX4_congress_43 rfl (lv_at hl 1 rfl) ?_
        refine lv_aload_n hx hb dX4_congress_44 rfl (lv_at hl 1 rfl) ?_
        refine va_get hx hb hts hinX4 hown hK hP 0 rfl rfl 12 (by decide) wd2 (fun _ h => h) rfl dX4_congress_45 ?_
        refine lv_if_ne (tgt := 60) hx hb dX4_congress_48 (by decide) (fun _ => ?_) (fun h => absurd h (by first | decide | omega | exact hz_nneg (by omega) | exact hz_nneg' (by omega)))
        refine lv_iconst (v := nI 1) hx hb dX4_congress_60 (by decide) ?_
        refine lv_goto (tgt := 65) hx hb dX4_congress_61 (by decide) ?_
        refine va_put hx hb hts hinX4 tyX4 tyX4_ok nmX4 hown hK hP hD hS 0 rfl rfl 12 (by decide) wd2 (fun _ h => h) rfl (tyX4_ok 12 (by decide)) rfl rfl (Nat.le_of_ble_eq_true rfl) dX4_congress_65 (fun H locs hP hD hS => ?_)
        have hP : va_P D zcl [(h0, .inr (4, [.ref am, .ref ak, .ref aw, .int (kf), .ref af, .int (wp), .ref at_, .int (nI n), .int (nI (pz_k T n q2)), .int (nI (pz_b T n q2)), .int (nI (pz_e T n q2)), .int (nI (pz_v T n q2)), .int (nI 1), .ref ab, .ref as_, .ref ac])), (at_, .inl (cI, 120, .inl T)), (am, .inl (cI, 75, .inl M_)), (aw, .inl (cI, 75, .inl M))] H := hP
        have hD : va_D (hz_a [(h0, .inr (4, [.ref am, .ref ak, .ref aw, .int (kf), .ref af, .int (wp), .ref at_, .int (nI n), .int (tk), .int (bg), .int (ap), .int (vl), .int (bd), .ref ab, .ref as_, .ref ac])), (at_, .inl (cI, 120, .inl T)), (am, .inl (cI, 75, .inl M)), (aw, .inl (cI, 75, .inl G))]) [(h0, .inr (4, [.ref am, .ref ak, .ref aw, .int (kf), .ref af, .int (wp), .ref at_, .int (nI n), .int (nI (pz_k T n q2)), .int (nI (pz_b T n q2)), .int (nI (pz_e T n q2)), .int (nI (pz_v T n q2)), .int (nI 1), .ref ab, .ref as_, .ref ac])), (at_, .inl (cI, 120, .inl T)), (am, .inl (cI, 75, .inl M_)), (aw, .inl (cI, 75, .inl M))] := hD
        refine lv_aload_n hx hb dX4_congress_68 rfl (lv_at hl 1 rfl) ?_
        refine lv_iconst (v := nI 0) hx hb dX4_congress_69 (by decide) ?_
        refine va_put hx hb hts hinX4 tyX4 tyX4_ok nmX4 hown hK hP hD hS 0 rfl rfl 7 (by decide) wd4 (fun _ h => h) rfl (tyX4_ok 7 (by decide)) rfl rfl (Nat.le_of_ble_eq_true rfl) dX4_congress_70 (fun H locs hP hD hS => ?_)
        have hP : va_P D zcl [(h0, .inr (4, [.ref am, .ref ak, .ref aw, .int (kf), .ref af, .int (wp), .ref at_, .int (nI 0), .int (nI (pz_k T n q2)), .int (nI (pz_b T n q2)), .int (nI (pz_e T n q2)), .int (nI (pz_v T n q2)), .int (nI 1), .ref ab, .ref as_, .ref ac])), (at_, .inl (cI, 120, .inl T)), (am, .inl (cI, 75, .inl M_)), (aw, .inl (cI, 75, .inl M))] H := hP
        have hD : va_D (hz_a [(h0, .inr (4, [.ref am, .ref ak, .ref aw, .int (kf), .ref af, .int (wp), .ref at_, .int (nI n), .int (tk), .int (bg), .int (ap), .int (vl), .int (bd), .ref ab, .ref as_, .ref ac])), (at_, .inl (cI, 120, .inl T)), (am, .inl (cI, 75, .inl M)), (aw, .inl (cI, 75, .inl G))]) [(h0, .inr (4, [.ref am, .ref ak, .ref aw, .int (kf), .ref af, .int (wp), .ref at_, .int (nI 0), .int (nI (pz_k T n q2)), .int (nI (pz_b T n q2)), .int (nI (pz_e T n q2)), .int (nI (pz_v T n q2)), .int (nI 1), .ref ab, .ref as_, .ref ac])), (at_, .inl (cI, 120, .inl T)), (am, .inl (cI, 75, .inl M_)), (aw, .inl (cI, 75, .inl M))] := hD
        refine lv_aload_n hx hb dX4_congress_73 rfl (lv_at hl 1 rfl) ?_
        refine va_get hx hb hts hinX4 hown hK hP 0 rfl rfl 12 (by decide) wd2 (fun _ h => h) rfl dX4_congress_74 ?_
        refine lv_if_ne (tgt := 82) hx hb dX4_congress_77 (by decide) (fun _ => ?_) (fun h => absurd h (by first | decide | omega | exact hz_nneg (by omega) | exact hz_nneg' (by omega)))
        refine lv_aload_n hx hb dX4_congress_82 rfl (lv_at hl 1 rfl) ?_
        refine hz_ce (As := []) (rest := []) ⟨hx, hb, hml, hown, hts⟩ (c4_putsBack l D cI cJ (h0 := h0) (am := am) (aw := aw) (fs := [.ref am, .ref ak, .ref aw, .int (kf), .ref af, .int (wp), .ref at_, .int (nI 0), .int (nI (pz_k T n q2)), .int (nI (pz_b T n q2)), .int (nI (pz_e T n q2)), .int (nI (pz_v T n q2)), .int (nI 1), .ref ab, .ref as_, .ref ac]) (M := M_) (G := M) (hf := by first | assumption | rfl) (hf2 := by first | assumption | rfl)) (cwV 0 hts gX4_congress_X4_putsBack rfl rfl rfl (by decide +kernel) ⟨Nat.le_of_ble_eq_true rfl, Nat.le_of_ble_eq_true rfl⟩) hK hP hD hS [0, 2, 3] rfl (by decide) (hz_ha [h0, am, aw] rfl rfl) (w' := [(h0, .inr (4, [.ref am, .ref ak, .ref aw, .int (kf), .ref af, .int (wp), .ref at_, .int (nI 0), .int (nI (pz_k T n q2)), .int (nI (pz_b T n q2)), .int (nI (pz_e T n q2)), .int (nI (pz_v T n q2)), .int (nI 1), .ref ab, .ref as_, .ref ac])), (at_, .inl (cI, 120, .inl T)), (am, .inl (cI, 75, .inl M)), (aw, .inl (cI, 75, .inl M))]) (hz_pt_eq 4 [1] [(at_, .inl (cI, 120, .inl T))] rfl rfl rfl rfl rfl rfl rfl) [0, 1] rfl 0 rfl rfl rfl rfl hl.1 rfl (Nat.le_of_ble_eq_true rfl) dX4_congress_83 ⟨Nat.zero_le _, Nat.zero_le _⟩ (fun H locs hP hD hS => ?_)
        refine W.eq (g2 := F0 m 86 ls []) rfl ?_
        refine lv_iconst (v := -1) hx hb dX4_congress_86 (by decide) ?_
        refine lv_aload_n hx hb dX4_congress_87 rfl (lv_at hl 1 rfl) ?_
        refine va_get hx hb hts hinX4 hown hK hP 0 rfl rfl 9 (by decide) wd5 (fun _ h => h) rfl dX4_congress_88 ?_
        refine lv_isub hx hb dX4_congress_91 ?_
        refine hz_xi hx hb hr hlocks rfl (nI (pz_k T n q2), nI (pz_b T n q2), nI (pz_e T n q2), nI (pz_v T n q2), nI 1) ?_ hS (by rw [← hrr, pz_all_n hi]; rfl) dX4_congress_92
        rw [show pz_M M (pz_all T n 120 1 M 0) = M by rw [← hrr, pz_all_n hi]; rfl]
        exact hP
      · rw [hi] at hP hD
        have hP : va_P D zcl [(h0, .inr (4, [.ref am, .ref ak, .ref aw, .int (kf), .ref af, .int (wp), .ref at_, .int (nI n), .int (nI (pz_k T n q2)), .int (nI (pz_b T n q2)), .int (nI (pz_e T n q2)), .int (nI (pz_v T n q2)), .int (nI 0), .ref ab, .ref as_, .ref ac])), (at_, .inl (cI, 120, .inl T)), (am, .inl (cI, 75, .inl M2)), (aw, .inl (cI, 75, .inl M))] H := hP
        have hD : va_D (hz_a [(h0, .inr (4, [.ref am, .ref ak, .ref aw, .int (kf), .ref af, .int (wp), .ref at_, .int (nI n), .int (tk), .int (bg), .int (ap), .int (vl), .int (bd), .ref ab, .ref as_, .ref ac])), (at_, .inl (cI, 120, .inl T)), (am, .inl (cI, 75, .inl M)), (aw, .inl (cI, 75, .inl G))]) [(h0, .inr (4, [.ref am, .ref ak, .ref aw, .int (kf), .ref af, .int (wp), .ref at_, .int (nI n), .int (nI (pz_k T n q2)), .int (nI (pz_b T n q2)), .int (nI (pz_e T n q2)), .int (nI (pz_v T n q2)), .int (nI 0), .ref ab, .ref as_, .ref ac])), (at_, .inl (cI, 120, .inl T)), (am, .inl (cI, 75, .inl M2)), (aw, .inl (cI, 75, .inl M))] := hD
        have hq2 := pz_some hqn hi
        have hk2 := pz_k_r T n q2
        have hv2 := pz_v_r T n q2
        have hb2 := pz_b_ge T n q2
        have hb3 := pz_e_ge T n q2
        have he2 := pz_e_le (T := T) (n := n) (q := q2) (by omega)
        by_cases h21 : pz_k T n q2 = 21
        · have hI2 := hz_I_item hIm hi
          obtain ⟨⟨-, -, hM1, hD8, hM2, hS8⟩, -, -⟩ := id hI2
          have hk3 := pz_kw_t (T := T) (n := n) (q := q2) (by omega)
          refine lv_aload_n hx hb dX4_congress_24 rfl (lv_at hl 1 rfl) ?_
          refine lv_bipush (v := nI 21) hx hb dX4_congress_25 (by decide) ?_
          refine hz_cez (As := [.int (nI 21)]) (rest := []) ⟨hx, hb, hml, hown, hts⟩ (hz_Q_ok aN adK adV) hZ (c4_pass_y l D cI cJ (aN := aN) (adK := adK) (adV := adV) (h0 := h0) (am := am) (ak := ak) (aw := aw) (af := af) (at_ := at_) (ab := ab) (as_ := as_) (ac := ac) (kf := kf) (wp := wp) (T := T) (n := n) (q := q2) (w := 21) (hn := by omega) (hq := by omega) (hw := by omega) (hk := by first | assumption | rfl)) (cwV 1 hts gX4_congress_X4_passes rfl rfl rfl (by decide +kernel) ⟨Nat.le_of_ble_eq_true rfl, Nat.le_of_ble_eq_true rfl⟩) hK hP hD hS [0, 1] rfl (by decide) (hz_ha [h0, at_] rfl rfl) (w' := [(h0, .inr (4, [.ref am, .ref ak, .ref aw, .int (kf), .ref af, .int (wp), .ref at_, .int (nI n), .int (nI (pz_k T n (pz_e T n q2))), .int (nI (pz_b T n (pz_e T n q2))), .int (nI (pz_e T n (pz_e T n q2))), .int (nI (pz_v T n (pz_e T n q2))), .int (nI 0), .ref ab, .ref as_, .ref ac])), (at_, .inl (cI, 120, .inl T)), (am, .inl (cI, 75, .inl M2)), (aw, .inl (cI, 75, .inl M))]) (hz_pt_eq 4 [2, 3] [(am, .inl (cI, 75, .inl M2)), (aw, .inl (cI, 75, .inl M))] rfl rfl rfl rfl rfl rfl rfl) [0, 1] rfl 0 rfl rfl rfl rfl hl.1 rfl (Nat.le_of_ble_eq_true rfl) dX4_congress_27 ⟨Nat.zero_le _, Nat.zero_le _⟩ (fun H locs hP hD hS => ?_)
          refine W.eq (g2 := F0 m 30 ls [.int (nI 1)]) rfl ?_
          refine lv_if_eq (tgt := 43) hx hb dX4_congress_30 (by decide) (fun h => absurd h (by first | decide | omega | exact hz_nneg (by omega) | exact hz_nneg' (by omega))) (fun _ => ?_)
          refine lv_aload_n hx hb dX4_congress_33 rfl (lv_at hl 1 rfl) ?_
          refine hz_cez (As := []) (rest := []) ⟨hx, hb, hml, hown, hts⟩ (hz_Q_ok aN adK adV) hZ (c4_item l D cI cJ (aN := aN) (adK := adK) (adV := adV) (h0 := h0) (am := am) (ak := ak) (aw := aw) (af := af) (at_ := at_) (ab := ab) (as_ := as_) (ac := ac) (kf := kf) (wp := wp) (bd := nI 0) (M := M2) (T := T) (n := n) (q := pz_e T n q2) (hn := by omega) (hq := by omega) (hM1 := by first | assumption | rfl) (hD8 := by first | assumption | rfl) (hM2 := by first | assumption | rfl) (hS8 := by first | assumption | rfl)) (cwV 0 hts gX4_congress_X4_item rfl rfl rfl (by decide +kernel) ⟨Nat.le_of_ble_eq_true rfl, Nat.le_of_ble_eq_true rfl⟩) hK hP hD hS [0, 1, 2] rfl (by decide) (hz_ha [h0, at_, am] rfl rfl) (w' := [(h0, .inr (4, [.ref am, .ref ak, .ref aw, .int (kf), .ref af, .int (wp), .ref at_, .int (nI n), .int (nI (pz_k T n ((pz_item T n M2 (pz_e T n q2)).1))), .int (nI (pz_b T n ((pz_item T n M2 (pz_e T n q2)).1))), .int (nI (pz_e T n ((pz_item T n M2 (pz_e T n q2)).1))), .int (nI (pz_v T n ((pz_item T n M2 (pz_e T n q2)).1))), .int (pz_bd (pz_item T n M2 (pz_e T n q2)).2.isSome), .ref ab, .ref as_, .ref ac])), (at_, .inl (cI, 120, .inl T)), (am, .inl (cI, 75, .inl ((pz_item T n M2 (pz_e T n q2)).2.getD M2))), (aw, .inl (cI, 75, .inl M))]) (hz_pt_eq 4 [3] [(aw, .inl (cI, 75, .inl M))] rfl rfl rfl rfl rfl rfl rfl) [0, 1] rfl 0 rfl rfl rfl rfl hl.1 rfl (Nat.le_of_ble_eq_true rfl) dX4_congress_34 ⟨Nat.zero_le _, Nat.zero_le _⟩ (fun H locs hP hD hS => ?_)
          refine W.eq (g2 := F0 m 37 ls []) rfl ?_
          refine lv_iinc (v := nI (120 - f_ + 1)) (lv' := [(1, .int (nI (120 - f_ + 1))), (0, .ref h0)]) hx hb dX4_congress_37 hl (k := 0) rfl (nI_1 _) (by decide) rfl (fun ls hl => ?_)
          refine lv_goto (tgt := 24) hx hb dX4_congress_40 (by decide) ?_
          exact ihloop (f_ - 1) M2 (pz_e T n q2) ls _ _ (by omega) (by omega) (by omega) he2 hI2 (by rw [show f_ - 1 + 1 = f_ by omega, show 120 - (f_ - 1) = 120 - f_ + 1 by omega, ← pz_all_s hi h21]; exact hrr) (by rw [show 120 - (f_ - 1) = 120 - f_ + 1 by omega]; exact lv_sub hl [0, 1] rfl) hP hD hS
        · refine lv_aload_n hx hb dX4_congress_24 rfl (lv_at hl 1 rfl) ?_
          refine lv_bipush (v := nI 21) hx hb dX4_congress_25 (by decide) ?_
          refine hz_cez (As := [.int (nI 21)]) (rest := []) ⟨hx, hb, hml, hown, hts⟩ (hz_Q_ok aN adK adV) hZ (c4_pass_n l D cI cJ (aN := aN) (adK := adK) (adV := adV) (h0 := h0) (am := am) (ak := ak) (aw := aw) (af := af) (at_ := at_) (ab := ab) (as_ := as_) (ac := ac) (kf := kf) (wp := wp) (T := T) (n := n) (q := q2) (w := 21) (hn := by omega) (hq := by omega) (hw := by omega) (hk := by first | assumption | rfl)) (cwV 1 hts gX4_congress_X4_passes rfl rfl rfl (by decide +kernel) ⟨Nat.le_of_ble_eq_true rfl, Nat.le_of_ble_eq_true rfl⟩) hK hP hD hS [0, 1] rfl (by decide) (hz_ha [h0, at_] rfl rfl) (w' := [(h0, .inr (4, [.ref am, .ref ak, .ref aw, .int (kf), .ref af, .int (wp), .ref at_, .int (nI n), .int (nI (pz_k T n q2)), .int (nI (pz_b T n q2)), .int (nI (pz_e T n q2)), .int (nI (pz_v T n q2)), .int (nI 0), .ref ab, .ref as_, .ref ac])), (at_, .inl (cI, 120, .inl T)), (am, .inl (cI, 75, .inl M2)), (aw, .inl (cI, 75, .inl M))]) (hz_pt_eq 4 [2, 3] [(am, .inl (cI, 75, .inl M2)), (aw, .inl (cI, 75, .inl M))] rfl rfl rfl rfl rfl rfl rfl) [0, 1] rfl 0 rfl rfl rfl rfl hl.1 rfl (Nat.le_of_ble_eq_true rfl) dX4_congress_27 ⟨Nat.zero_le _, Nat.zero_le _⟩ (fun H locs hP hD hS => ?_)
          refine W.eq (g2 := F0 m 30 ls [.int (nI 0)]) rfl ?_
          refine lv_if_eq (tgt := 43) hx hb dX4_congress_30 (by decide) (fun _ => ?_) (fun h => absurd h (by first | decide | omega | exact hz_nneg (by omega) | exact hz_nneg' (by omega)))
          refine lv_aload_n hx hb dX4_congress_43 rfl (lv_at hl 1 rfl) ?_
          refine lv_aload_n hx hb dX4_congress_44 rfl (lv_at hl 1 rfl) ?_
          refine va_get hx hb hts hinX4 hown hK hP 0 rfl rfl 12 (by decide) wd2 (fun _ h => h) rfl dX4_congress_45 ?_
          refine lv_if_ne (tgt := 60) hx hb dX4_congress_48 (by decide) (fun h => absurd h (by first | decide | omega | exact hz_nneg (by omega) | exact hz_nneg' (by omega))) (fun _ => ?_)
          refine lv_aload_n hx hb dX4_congress_51 rfl (lv_at hl 1 rfl) ?_
          refine va_get hx hb hts hinX4 hown hK hP 0 rfl rfl 8 (by decide) wd3 (fun _ h => h) rfl dX4_congress_52 ?_
          refine lv_bipush (v := nI 22) hx hb dX4_congress_55 (by decide) ?_
          refine hz_icmp_eq (tgt := 64) (by omega) (by omega) hx hb dX4_congress_57 (by decide) (fun c57 => ?_) (fun c57 => ?_)
          · refine lv_iconst (v := nI 0) hx hb dX4_congress_64 (by decide) ?_
            refine va_put hx hb hts hinX4 tyX4 tyX4_ok nmX4 hown hK hP hD hS 0 rfl rfl 12 (by decide) wd2 (fun _ h => h) rfl (tyX4_ok 12 (by decide)) rfl rfl (Nat.le_of_ble_eq_true rfl) dX4_congress_65 (fun H locs hP hD hS => ?_)
            have hP : va_P D zcl [(h0, .inr (4, [.ref am, .ref ak, .ref aw, .int (kf), .ref af, .int (wp), .ref at_, .int (nI n), .int (nI (pz_k T n q2)), .int (nI (pz_b T n q2)), .int (nI (pz_e T n q2)), .int (nI (pz_v T n q2)), .int (nI 0), .ref ab, .ref as_, .ref ac])), (at_, .inl (cI, 120, .inl T)), (am, .inl (cI, 75, .inl M2)), (aw, .inl (cI, 75, .inl M))] H := hP
            have hD : va_D (hz_a [(h0, .inr (4, [.ref am, .ref ak, .ref aw, .int (kf), .ref af, .int (wp), .ref at_, .int (nI n), .int (tk), .int (bg), .int (ap), .int (vl), .int (bd), .ref ab, .ref as_, .ref ac])), (at_, .inl (cI, 120, .inl T)), (am, .inl (cI, 75, .inl M)), (aw, .inl (cI, 75, .inl G))]) [(h0, .inr (4, [.ref am, .ref ak, .ref aw, .int (kf), .ref af, .int (wp), .ref at_, .int (nI n), .int (nI (pz_k T n q2)), .int (nI (pz_b T n q2)), .int (nI (pz_e T n q2)), .int (nI (pz_v T n q2)), .int (nI 0), .ref ab, .ref as_, .ref ac])), (at_, .inl (cI, 120, .inl T)), (am, .inl (cI, 75, .inl M2)), (aw, .inl (cI, 75, .inl M))] := hD
            refine lv_aload_n hx hb dX4_congress_68 rfl (lv_at hl 1 rfl) ?_
            refine lv_iconst (v := nI 0) hx hb dX4_congress_69 (by decide) ?_
            refine va_put hx hb hts hinX4 tyX4 tyX4_ok nmX4 hown hK hP hD hS 0 rfl rfl 7 (by decide) wd4 (fun _ h => h) rfl (tyX4_ok 7 (by decide)) rfl rfl (Nat.le_of_ble_eq_true rfl) dX4_congress_70 (fun H locs hP hD hS => ?_)
            have hP : va_P D zcl [(h0, .inr (4, [.ref am, .ref ak, .ref aw, .int (kf), .ref af, .int (wp), .ref at_, .int (nI 0), .int (nI (pz_k T n q2)), .int (nI (pz_b T n q2)), .int (nI (pz_e T n q2)), .int (nI (pz_v T n q2)), .int (nI 0), .ref ab, .ref as_, .ref ac])), (at_, .inl (cI, 120, .inl T)), (am, .inl (cI, 75, .inl M2)), (aw, .inl (cI, 75, .inl M))] H := hP
            have hD : va_D (hz_a [(h0, .inr (4, [.ref am, .ref ak, .ref aw, .int (kf), .ref af, .int (wp), .ref at_, .int (nI n), .int (tk), .int (bg), .int (ap), .int (vl), .int (bd), .ref ab, .ref as_, .ref ac])), (at_, .inl (cI, 120, .inl T)), (am, .inl (cI, 75, .inl M)), (aw, .inl (cI, 75, .inl G))]) [(h0, .inr (4, [.ref am, .ref ak, .ref aw, .int (kf), .ref af, .int (wp), .ref at_, .int (nI 0), .int (nI (pz_k T n q2)), .int (nI (pz_b T n q2)), .int (nI (pz_e T n q2)), .int (nI (pz_v T n q2)), .int (nI 0), .ref ab, .ref as_, .ref ac])), (at_, .inl (cI, 120, .inl T)), (am, .inl (cI, 75, .inl M2)), (aw, .inl (cI, 75, .inl M))] := hD
            refine lv_aload_n hx hb dX4_congress_73 rfl (lv_at hl 1 rfl) ?_
            refine va_get hx hb hts hinX4 hown hK hP 0 rfl rfl 12 (by decide) wd2 (fun _ h => h) rfl dX4_congress_74 ?_
            refine lv_if_ne (tgt := 82) hx hb dX4_congress_77 (by decide) (fun h => absurd h (by first | decide | omega | exact hz_nneg (by omega) | exact hz_nneg' (by omega))) (fun _ => ?_)
            refine lv_iload_n hx hb dX4_congress_80 rfl (lv_at hl 0 rfl) ?_
            refine hz_xi hx hb hr hlocks rfl (nI (pz_k T n q2), nI (pz_b T n q2), nI (pz_e T n q2), nI (pz_v T n q2), nI 0) ?_ hS (by rw [← hrr, pz_all_o hi c57]; rfl) dX4_congress_81
            rw [show pz_M M (pz_all T n 120 1 M 0) = M2 by rw [← hrr, pz_all_o hi c57]; rfl]
            exact hP
          · refine lv_iconst (v := nI 1) hx hb dX4_congress_60 (by decide) ?_
            refine lv_goto (tgt := 65) hx hb dX4_congress_61 (by decide) ?_
            refine va_put hx hb hts hinX4 tyX4 tyX4_ok nmX4 hown hK hP hD hS 0 rfl rfl 12 (by decide) wd2 (fun _ h => h) rfl (tyX4_ok 12 (by decide)) rfl rfl (Nat.le_of_ble_eq_true rfl) dX4_congress_65 (fun H locs hP hD hS => ?_)
            have hP : va_P D zcl [(h0, .inr (4, [.ref am, .ref ak, .ref aw, .int (kf), .ref af, .int (wp), .ref at_, .int (nI n), .int (nI (pz_k T n q2)), .int (nI (pz_b T n q2)), .int (nI (pz_e T n q2)), .int (nI (pz_v T n q2)), .int (nI 1), .ref ab, .ref as_, .ref ac])), (at_, .inl (cI, 120, .inl T)), (am, .inl (cI, 75, .inl M2)), (aw, .inl (cI, 75, .inl M))] H := hP
            have hD : va_D (hz_a [(h0, .inr (4, [.ref am, .ref ak, .ref aw, .int (kf), .ref af, .int (wp), .ref at_, .int (nI n), .int (tk), .int (bg), .int (ap), .int (vl), .int (bd), .ref ab, .ref as_, .ref ac])), (at_, .inl (cI, 120, .inl T)), (am, .inl (cI, 75, .inl M)), (aw, .inl (cI, 75, .inl G))]) [(h0, .inr (4, [.ref am, .ref ak, .ref aw, .int (kf), .ref af, .int (wp), .ref at_, .int (nI n), .int (nI (pz_k T n q2)), .int (nI (pz_b T n q2)), .int (nI (pz_e T n q2)), .int (nI (pz_v T n q2)), .int (nI 1), .ref ab, .ref as_, .ref ac])), (at_, .inl (cI, 120, .inl T)), (am, .inl (cI, 75, .inl M2)), (aw, .inl (cI, 75, .inl M))] := hD
            refine lv_aload_n hx hb dX4_congress_68 rfl (lv_at hl 1 rfl) ?_
            refine lv_iconst (v := nI 0) hx hb dX4_congress_69 (by decide) ?_
            refine va_put hx hb hts hinX4 tyX4 tyX4_ok nmX4 hown hK hP hD hS 0 rfl rfl 7 (by decide) wd4 (fun _ h => h) rfl (tyX4_ok 7 (by decide)) rfl rfl (Nat.le_of_ble_eq_true rfl) dX4_congress_70 (fun H locs hP hD hS => ?_)
            have hP : va_P D zcl [(h0, .inr (4, [.ref am, .ref ak, .ref aw, .int (kf), .ref af, .int (wp), .ref at_, .int (nI 0), .int (nI (pz_k T n q2)), .int (nI (pz_b T n q2)), .int (nI (pz_e T n q2)), .int (nI (pz_v T n q2)), .int (nI 1), .ref ab, .ref as_, .ref ac])), (at_, .inl (cI, 120, .inl T)), (am, .inl (cI, 75, .inl M2)), (aw, .inl (cI, 75, .inl M))] H := hP
            have hD : va_D (hz_a [(h0, .inr (4, [.ref am, .ref ak, .ref aw, .int (kf), .ref af, .int (wp), .ref at_, .int (nI n), .int (tk), .int (bg), .int (ap), .int (vl), .int (bd), .ref ab, .ref as_, .ref ac])), (at_, .inl (cI, 120, .inl T)), (am, .inl (cI, 75, .inl M)), (aw, .inl (cI, 75, .inl G))]) [(h0, .inr (4, [.ref am, .ref ak, .ref aw, .int (kf), .ref af, .int (wp), .ref at_, .int (nI 0), .int (nI (pz_k T n q2)), .int (nI (pz_b T n q2)), .int (nI (pz_e T n q2)), .int (nI (pz_v T n q2)), .int (nI 1), .ref ab, .ref as_, .ref ac])), (at_, .inl (cI, 120, .inl T)), (am, .inl (cI, 75, .inl M2)), (aw, .inl (cI, 75, .inl M))] := hD
            refine lv_aload_n hx hb dX4_congress_73 rfl (lv_at hl 1 rfl) ?_
            refine va_get hx hb hts hinX4 hown hK hP 0 rfl rfl 12 (by decide) wd2 (fun _ h => h) rfl dX4_congress_74 ?_
            refine lv_if_ne (tgt := 82) hx hb dX4_congress_77 (by decide) (fun _ => ?_) (fun h => absurd h (by first | decide | omega | exact hz_nneg (by omega) | exact hz_nneg' (by omega)))
            refine lv_aload_n hx hb dX4_congress_82 rfl (lv_at hl 1 rfl) ?_
            refine hz_ce (As := []) (rest := []) ⟨hx, hb, hml, hown, hts⟩ (c4_putsBack l D cI cJ (h0 := h0) (am := am) (aw := aw) (fs := [.ref am, .ref ak, .ref aw, .int (kf), .ref af, .int (wp), .ref at_, .int (nI 0), .int (nI (pz_k T n q2)), .int (nI (pz_b T n q2)), .int (nI (pz_e T n q2)), .int (nI (pz_v T n q2)), .int (nI 1), .ref ab, .ref as_, .ref ac]) (M := M2) (G := M) (hf := by first | assumption | rfl) (hf2 := by first | assumption | rfl)) (cwV 0 hts gX4_congress_X4_putsBack rfl rfl rfl (by decide +kernel) ⟨Nat.le_of_ble_eq_true rfl, Nat.le_of_ble_eq_true rfl⟩) hK hP hD hS [0, 2, 3] rfl (by decide) (hz_ha [h0, am, aw] rfl rfl) (w' := [(h0, .inr (4, [.ref am, .ref ak, .ref aw, .int (kf), .ref af, .int (wp), .ref at_, .int (nI 0), .int (nI (pz_k T n q2)), .int (nI (pz_b T n q2)), .int (nI (pz_e T n q2)), .int (nI (pz_v T n q2)), .int (nI 1), .ref ab, .ref as_, .ref ac])), (at_, .inl (cI, 120, .inl T)), (am, .inl (cI, 75, .inl M)), (aw, .inl (cI, 75, .inl M))]) (hz_pt_eq 4 [1] [(at_, .inl (cI, 120, .inl T))] rfl rfl rfl rfl rfl rfl rfl) [0, 1] rfl 0 rfl rfl rfl rfl hl.1 rfl (Nat.le_of_ble_eq_true rfl) dX4_congress_83 ⟨Nat.zero_le _, Nat.zero_le _⟩ (fun H locs hP hD hS => ?_)
            refine W.eq (g2 := F0 m 86 ls []) rfl ?_
            refine lv_iconst (v := -1) hx hb dX4_congress_86 (by decide) ?_
            refine lv_aload_n hx hb dX4_congress_87 rfl (lv_at hl 1 rfl) ?_
            refine va_get hx hb hts hinX4 hown hK hP 0 rfl rfl 9 (by decide) wd5 (fun _ h => h) rfl dX4_congress_88 ?_
            refine lv_isub hx hb dX4_congress_91 ?_
            refine hz_xi hx hb hr hlocks rfl (nI (pz_k T n q2), nI (pz_b T n q2), nI (pz_e T n q2), nI (pz_v T n q2), nI 1) ?_ hS (by rw [← hrr, pz_all_x hi c57 h21]; rfl) dX4_congress_92
            rw [show pz_M M (pz_all T n 120 1 M 0) = M by rw [← hrr, pz_all_x hi c57 h21]; rfl]
            exact hP
  exact loop _ 119 M 0 ls _ _ (Nat.lt_succ_self _) (by omega) (by omega) (by omega) hI rfl (lv_sub hl [0, 1] rfl) hP hD hS
