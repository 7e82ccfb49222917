set_option maxHeartbeats 4000000 in
set_option maxRecDepth 100000 in
theorem c4_image (l : Launch) (D : va_G) (cI cJ : ClassId) (h0 am ak aw af at_ ab as_ ac : Nat) (kf wp tp tk bg ap vl bd : Int32) (M K : Nat → Int32)  : hz_ME l yX4_image wsX4_image { frames := 1, cells := 0, slots := 0, locals := 22 } [.ref h0] D zcl [(cI, .int), (cJ, .long)] [(h0, .inr (4, [.ref am, .ref ak, .ref aw, .int (kf), .ref af, .int (wp), .ref at_, .int (tp), .int (tk), .int (bg), .int (ap), .int (vl), .int (bd), .ref ab, .ref as_, .ref ac])), (am, .inl (cI, 75, .inl M)), (ak, .inl (cI, 75, .inl K))] [(h0, .inr (4, [.ref am, .ref ak, .ref aw, .int (nI 1), .ref af, .int (wp), .ref at_, .int (tp), .int (tk), .int (bg), .int (ap), .int (vl), .int (bd), .ref ab, .ref as_, .ref ac])), (am, .inl (cI, 75, .inl M)), (ak, .inl (cI, 75, .inl M))] (some (.int (nI 1))) := by
  refine hz_me (cc := cX4_image) (maxL := 1) (ret := (some .int)) (by decide) rfl (Nat.le_of_ble_eq_true rfl) ?_
  intro p e s m below meth c hx hb hr hts hown hlocks hml hP hK hD ls hl
  have hS : va_S (hz_a [(h0, .inr (4, [.ref am, .ref ak, .ref aw, .int (kf), .ref af, .int (wp), .ref at_, .int (tp), .int (tk), .int (bg), .int (ap), .int (vl), .int (bd), .ref ab, .ref as_, .ref ac])), (am, .inl (cI, 75, .inl M)), (ak, .inl (cI, 75, .inl K))]) s.heap s.heap [] := va_S.rf
  have hown : s.vm.findClass RX4 = some m.cls := hown
  have hl : lv_has ls 1 [(0, .ref h0)] := hl
  have hinX4 : ∀ w ∈ u_ws RX4 TX4 16, w ∈ wsX4_image := fun w h => List.mem_cons_of_mem _ (List.mem_append_right _ (h))
  have wd1 := hts (.fieldLink RX4 9 "HurtSpeechModel" "m" "[I") (List.mem_of_getElem? (i := 1) rfl)
  have wd2 := hts (.fieldLink RX4 13 "HurtSpeechModel" "kept" "[I") (List.mem_of_getElem? (i := 2) rfl)
  have wd3 := hts (.fieldLink RX4 221 "HurtSpeechModel" "isKept" "Z") (List.mem_of_getElem? (i := 3) rfl)
  refine lv_aload_n hx hb dX4_image_0 rfl (lv_at hl 0 rfl) ?_
  refine va_get hx hb hts hinX4 hown hK hP 0 rfl rfl 0 (by decide) wd1 (fun _ h => h) rfl dX4_image_1 ?_
  refine lv_aload_n hx hb dX4_image_4 rfl (lv_at hl 0 rfl) ?_
  refine va_get hx hb hts hinX4 hown hK hP 0 rfl rfl 1 (by decide) wd2 (fun _ h => h) rfl dX4_image_5 ?_
  refine hz_cse (As := [.ref am, .ref ak]) (rest := []) ⟨hx, hb, hml, hown, hts⟩ (c4_copyAll l D cI cJ (a1 := am) (a2 := ak) (F := M) (G := K) ) (va_cwS 2 hts gX4_image_X4_copyAll rfl rfl rfl (by decide +kernel) ⟨Nat.le_of_ble_eq_true rfl, Nat.le_of_ble_eq_true rfl⟩) hK hP hD hS [1, 2] rfl (by decide) (hz_ha [am, ak] rfl rfl) (w' := [(h0, .inr (4, [.ref am, .ref ak, .ref aw, .int (kf), .ref af, .int (wp), .ref at_, .int (tp), .int (tk), .int (bg), .int (ap), .int (vl), .int (bd), .ref ab, .ref as_, .ref ac])), (am, .inl (cI, 75, .inl M)), (ak, .inl (cI, 75, .inl M))]) (hz_pt_eq 3 [0] [(h0, .inr (4, [.ref am, .ref ak, .ref aw, .int (kf), .ref af, .int (wp), .ref at_, .int (tp), .int (tk), .int (bg), .int (ap), .int (vl), .int (bd), .ref ab, .ref as_, .ref ac]))] rfl rfl rfl rfl rfl rfl rfl) [0, 1] rfl rfl hl.1 rfl (Nat.le_of_ble_eq_true rfl) dX4_image_8 ⟨Nat.zero_le _, Nat.zero_le _⟩ (fun H locs hP hD hS => ?_)
  refine W.eq (g2 := F0 m 11 ls []) rfl ?_
  refine lv_aload_n hx hb dX4_image_11 rfl (lv_at hl 0 rfl) ?_
  refine lv_iconst (v := nI 1) hx hb dX4_image_12 (by decide) ?_
  refine va_put hx hb hts hinX4 tyX4 tyX4_ok nmX4 hown hK hP hD hS 0 rfl rfl 3 (by decide) wd3 (fun _ h => h) rfl (tyX4_ok 3 (by decide)) rfl rfl (Nat.le_of_ble_eq_true rfl) dX4_image_13 (fun H locs hP hD hS => ?_)
  have hP : va_P D zcl [(h0, .inr (4, [.ref am, .ref ak, .ref aw, .int (nI 1), .ref af, .int (wp), .ref at_, .int (tp), .int (tk), .int (bg), .int (ap), .int (vl), .int (bd), .ref ab, .ref as_, .ref ac])), (am, .inl (cI, 75, .inl M)), (ak, .inl (cI, 75, .inl M))] H := hP
  have hD : va_D (hz_a [(h0, .inr (4, [.ref am, .ref ak, .ref aw, .int (kf), .ref af, .int (wp), .ref at_, .int (tp), .int (tk), .int (bg), .int (ap), .int (vl), .int (bd), .ref ab, .ref as_, .ref ac])), (am, .inl (cI, 75, .inl M)), (ak, .inl (cI, 75, .inl K))]) [(h0, .inr (4, [.ref am, .ref ak, .ref aw, .int (nI 1), .ref af, .int (wp), .ref at_, .int (tp), .int (tk), .int (bg), .int (ap), .int (vl), .int (bd), .ref ab, .ref as_, .ref ac])), (am, .inl (cI, 75, .inl M)), (ak, .inl (cI, 75, .inl M))] := hD
  refine lv_iconst (v := nI 1) hx hb dX4_image_16 (by decide) ?_
  refine hz_ei hx hb hr hlocks rfl ?_ hS (rfl) dX4_image_17
  exact hP
set_option maxHeartbeats 4000000 in
set_option maxRecDepth 100000 in
theorem c3_image (l : Launch) (D : va_G) (cI cJ : ClassId) (x0 kc0 tc0 tp0 sh0 fd0 : Nat) (kf : Int32) (a0 k_ p_ t_ h_ w_ b_ g_ i_ f_ : Nat) (kc_k_ kc_p_ kc_t_ kc_h_ kc_w_ kc_b_ kc_g_ kc_i_ kc_f_ : Nat) (M K : Nat → Int32)  : hz_ME l yX3_image wsX3_image { frames := 2, cells := 0, slots := 0, locals := 81 } [.ref x0] D zcl [(cI, .int), (cJ, .long)] [(x0, .inr (3, [.ref a0, .ref kc0, .ref tc0, .ref tp0, .ref sh0, .ref fd0, .int (kf)])), (a0, .inr (0, [.int (M 0), .int (M 1), .ref k_, .ref p_, .ref t_, .ref h_, .ref w_, .int (M 2), .ref b_, .ref g_, .ref i_, .ref f_])), (k_, .inl (cI, 8, .inl (fun x_ => M (3 + 5 * x_)))), (p_, .inl (cI, 8, .inl (fun x_ => M (3 + 5 * x_ + 1)))), (t_, .inl (cI, 8, .inl (fun x_ => M (3 + 5 * x_ + 2)))), (h_, .inl (cI, 8, .inl (fun x_ => M (3 + 5 * x_ + 3)))), (w_, .inl (cI, 8, .inl (fun x_ => M (3 + 5 * x_ + 4)))), (b_, .inl (cI, 8, .inl (fun x_ => M (43 + 4 * x_)))), (g_, .inl (cI, 8, .inl (fun x_ => M (43 + 4 * x_ + 1)))), (i_, .inl (cI, 8, .inl (fun x_ => M (43 + 4 * x_ + 2)))), (f_, .inl (cI, 8, .inl (fun x_ => M (43 + 4 * x_ + 3)))), (kc0, .inr (0, [.int (K 0), .int (K 1), .ref kc_k_, .ref kc_p_, .ref kc_t_, .ref kc_h_, .ref kc_w_, .int (K 2), .ref kc_b_, .ref kc_g_, .ref kc_i_, .ref kc_f_])), (kc_k_, .inl (cI, 8, .inl (fun x_ => K (3 + 5 * x_)))), (kc_p_, .inl (cI, 8, .inl (fun x_ => K (3 + 5 * x_ + 1)))), (kc_t_, .inl (cI, 8, .inl (fun x_ => K (3 + 5 * x_ + 2)))), (kc_h_, .inl (cI, 8, .inl (fun x_ => K (3 + 5 * x_ + 3)))), (kc_w_, .inl (cI, 8, .inl (fun x_ => K (3 + 5 * x_ + 4)))), (kc_b_, .inl (cI, 8, .inl (fun x_ => K (43 + 4 * x_)))), (kc_g_, .inl (cI, 8, .inl (fun x_ => K (43 + 4 * x_ + 1)))), (kc_i_, .inl (cI, 8, .inl (fun x_ => K (43 + 4 * x_ + 2)))), (kc_f_, .inl (cI, 8, .inl (fun x_ => K (43 + 4 * x_ + 3))))] [(x0, .inr (3, [.ref a0, .ref kc0, .ref tc0, .ref tp0, .ref sh0, .ref fd0, .int (nI 1)])), (a0, .inr (0, [.int (M 0), .int (M 1), .ref k_, .ref p_, .ref t_, .ref h_, .ref w_, .int (M 2), .ref b_, .ref g_, .ref i_, .ref f_])), (k_, .inl (cI, 8, .inl (fun x_ => M (3 + 5 * x_)))), (p_, .inl (cI, 8, .inl (fun x_ => M (3 + 5 * x_ + 1)))), (t_, .inl (cI, 8, .inl (fun x_ => M (3 + 5 * x_ + 2)))), (h_, .inl (cI, 8, .inl (fun x_ => M (3 + 5 * x_ + 3)))), (w_, .inl (cI, 8, .inl (fun x_ => M (3 + 5 * x_ + 4)))), (b_, .inl (cI, 8, .inl (fun x_ => M (43 + 4 * x_)))), (g_, .inl (cI, 8, .inl (fun x_ => M (43 + 4 * x_ + 1)))), (i_, .inl (cI, 8, .inl (fun x_ => M (43 + 4 * x_ + 2)))), (f_, .inl (cI, 8, .inl (fun x_ => M (43 + 4 * x_ + 3)))), (kc0, .inr (0, [.int (M 0), .int (M 1), .ref kc_k_, .ref kc_p_, .ref kc_t_, .ref kc_h_, .ref kc_w_, .int (M 2), .ref kc_b_, .ref kc_g_, .ref kc_i_, .ref kc_f_])), (kc_k_, .inl (cI, 8, .inl (fun x_ => M (3 + 5 * x_)))), (kc_p_, .inl (cI, 8, .inl (fun x_ => M (3 + 5 * x_ + 1)))), (kc_t_, .inl (cI, 8, .inl (fun x_ => M (3 + 5 * x_ + 2)))), (kc_h_, .inl (cI, 8, .inl (fun x_ => M (3 + 5 * x_ + 3)))), (kc_w_, .inl (cI, 8, .inl (fun x_ => M (3 + 5 * x_ + 4)))), (kc_b_, .inl (cI, 8, .inl (fun x_ => M (43 + 4 * x_)))), (kc_g_, .inl (cI, 8, .inl (fun x_ => M (43 + 4 * x_ + 1)))), (kc_i_, .inl (cI, 8, .inl (fun x_ => M (43 + 4 * x_ + 2)))), (kc_f_, .inl (cI, 8, .inl (fun x_ => M (43 + 4 * x_ + 3))))] (some (.int (nI 1))) := by
  refine hz_me (cc := cX3_image) (maxL := 1) (ret := (some .int)) (by decide) rfl (Nat.le_of_ble_eq_true rfl) ?_
  intro p e s m below meth c hx hb hr hts hown hlocks hml hP hK hD ls hl
  have hS : va_S (hz_a [(x0, .inr (3, [.ref a0, .ref kc0, .ref tc0, .ref tp0, .ref sh0, .ref fd0, .int (kf)])), (a0, .inr (0, [.int (M 0), .int (M 1), .ref k_, .ref p_, .ref t_, .ref h_, .ref w_, .int (M 2), .ref b_, .ref g_, .ref i_, .ref f_])), (k_, .inl (cI, 8, .inl (fun x_ => M (3 + 5 * x_)))), (p_, .inl (cI, 8, .inl (fun x_ => M (3 + 5 * x_ + 1)))), (t_, .inl (cI, 8, .inl (fun x_ => M (3 + 5 * x_ + 2)))), (h_, .inl (cI, 8, .inl (fun x_ => M (3 + 5 * x_ + 3)))), (w_, .inl (cI, 8, .inl (fun x_ => M (3 + 5 * x_ + 4)))), (b_, .inl (cI, 8, .inl (fun x_ => M (43 + 4 * x_)))), (g_, .inl (cI, 8, .inl (fun x_ => M (43 + 4 * x_ + 1)))), (i_, .inl (cI, 8, .inl (fun x_ => M (43 + 4 * x_ + 2)))), (f_, .inl (cI, 8, .inl (fun x_ => M (43 + 4 * x_ + 3)))), (kc0, .inr (0, [.int (K 0), .int (K 1), .ref kc_k_, .ref kc_p_, .ref kc_t_, .ref kc_h_, .ref kc_w_, .int (K 2), .ref kc_b_, .ref kc_g_, .ref kc_i_, .ref kc_f_])), (kc_k_, .inl (cI, 8, .inl (fun x_ => K (3 + 5 * x_)))), (kc_p_, .inl (cI, 8, .inl (fun x_ => K (3 + 5 * x_ + 1)))), (kc_t_, .inl (cI, 8, .inl (fun x_ => K (3 + 5 * x_ + 2)))), (kc_h_, .inl (cI, 8, .inl (fun x_ => K (3 + 5 * x_ + 3)))), (kc_w_, .inl (cI, 8, .inl (fun x_ => K (3 + 5 * x_ + 4)))), (kc_b_, .inl (cI, 8, .inl (fun x_ => K (43 + 4 * x_)))), (kc_g_, .inl (cI, 8, .inl (fun x_ => K (43 + 4 * x_ + 1)))), (kc_i_, .inl (cI, 8, .inl (fun x_ => K (43 + 4 * x_ + 2)))), (kc_f_, .inl (cI, 8, .inl (fun x_ => K (43 + 4 * x_ + 3))))]) s.heap s.heap [] := va_S.rf
  have hown : s.vm.findClass RX3 = some m.cls := hown
  have hl : lv_has ls 1 [(0, .ref x0)] := hl
  have hinX3 : ∀ w ∈ u_ws RX3 TX3 7, w ∈ wsX3_image := fun w h => List.mem_cons_of_mem _ (List.mem_append_left _ (List.mem_append_right _ (h)))
  have wd1 := hts (.fieldLink RX3 16 "HurtSpeech" "kept" "LHurtSpeech$Congress;") (List.mem_of_getElem? (i := 1) rfl)
  have wd2 := hts (.fieldLink RX3 10 "HurtSpeech" "live" "LHurtSpeech$Congress;") (List.mem_of_getElem? (i := 2) rfl)
  have wd3 := hts (.fieldLink RX3 40 "HurtSpeech" "isKept" "Z") (List.mem_of_getElem? (i := 3) rfl)
  refine lv_aload_n hx hb dX3_image_0 rfl (lv_at hl 0 rfl) ?_
  refine va_get hx hb hts hinX3 hown hK hP 0 rfl rfl 1 (by decide) wd1 (fun _ h => h) rfl dX3_image_1 ?_
  refine lv_aload_n hx hb dX3_image_4 rfl (lv_at hl 0 rfl) ?_
  refine va_get hx hb hts hinX3 hown hK hP 0 rfl rfl 0 (by decide) wd2 (fun _ h => h) rfl dX3_image_5 ?_
  refine hz_ce (As := [.ref a0]) (rest := []) ⟨hx, hb, hml, hown, hts⟩ (c0_takeFrom l D cI cJ (a0 := kc0) (k_ := kc_k_) (p_ := kc_p_) (t_ := kc_t_) (h_ := kc_h_) (w_ := kc_w_) (b_ := kc_b_) (g_ := kc_g_) (i_ := kc_i_) (f_ := kc_f_) (b0 := a0) (o_k_ := k_) (o_p_ := p_) (o_t_ := t_) (o_h_ := h_) (o_w_ := w_) (o_b_ := b_) (o_g_ := g_) (o_i_ := i_) (o_f_ := f_) (M := K) (N := M) ) (cwV 1 hts gX3_image_X0_takeFrom rfl rfl rfl (by decide +kernel) ⟨Nat.le_of_ble_eq_true rfl, Nat.le_of_ble_eq_true rfl⟩) hK hP hD hS [11, 12, 13, 14, 15, 16, 17, 18, 19, 20, 1, 2, 3, 4, 5, 6, 7, 8, 9, 10] rfl (by decide) (hz_ha [kc0, kc_k_, kc_p_, kc_t_, kc_h_, kc_w_, kc_b_, kc_g_, kc_i_, kc_f_, a0, k_, p_, t_, h_, w_, b_, g_, i_, f_] rfl rfl) (w' := [(x0, .inr (3, [.ref a0, .ref kc0, .ref tc0, .ref tp0, .ref sh0, .ref fd0, .int (kf)])), (a0, .inr (0, [.int (M 0), .int (M 1), .ref k_, .ref p_, .ref t_, .ref h_, .ref w_, .int (M 2), .ref b_, .ref g_, .ref i_, .ref f_])), (k_, .inl (cI, 8, .inl (fun x_ => M (3 + 5 * x_)))), (p_, .inl (cI, 8, .inl (fun x_ => M (3 + 5 * x_ + 1)))), (t_, .inl (cI, 8, .inl (fun x_ => M (3 + 5 * x_ + 2)))), (h_, .inl (cI, 8, .inl (fun x_ => M (3 + 5 * x_ + 3)))), (w_, .inl (cI, 8, .inl (fun x_ => M (3 + 5 * x_ + 4)))), (b_, .inl (cI, 8, .inl (fun x_ => M (43 + 4 * x_)))), (g_, .inl (cI, 8, .inl (fun x_ => M (43 + 4 * x_ + 1)))), (i_, .inl (cI, 8, .inl (fun x_ => M (43 + 4 * x_ + 2)))), (f_, .inl (cI, 8, .inl (fun x_ => M (43 + 4 * x_ + 3)))), (kc0, .inr (0, [.int (M 0), .int (M 1), .ref kc_k_, .ref kc_p_, .ref kc_t_, .ref kc_h_, .ref kc_w_, .int (M 2), .ref kc_b_, .ref kc_g_, .ref kc_i_, .ref kc_f_])), (kc_k_, .inl (cI, 8, .inl (fun x_ => M (3 + 5 * x_)))), (kc_p_, .inl (cI, 8, .inl (fun x_ => M (3 + 5 * x_ + 1)))), (kc_t_, .inl (cI, 8, .inl (fun x_ => M (3 + 5 * x_ + 2)))), (kc_h_, .inl (cI, 8, .inl (fun x_ => M (3 + 5 * x_ + 3)))), (kc_w_, .inl (cI, 8, .inl (fun x_ => M (3 + 5 * x_ + 4)))), (kc_b_, .inl (cI, 8, .inl (fun x_ => M (43 + 4 * x_)))), (kc_g_, .inl (cI, 8, .inl (fun x_ => M (43 + 4 * x_ + 1)))), (kc_i_, .inl (cI, 8, .inl (fun x_ => M (43 + 4 * x_ + 2)))), (kc_f_, .inl (cI, 8, .inl (fun x_ => M (43 + 4 * x_ + 3))))]) (hz_pt_eq 21 [0] [(x0, .inr (3, [.ref a0, .ref kc0, .ref tc0, .ref tp0, .ref sh0, .ref fd0, .int (kf)]))] rfl rfl rfl rfl rfl rfl rfl) [0, 1] rfl 11 rfl rfl rfl rfl hl.1 rfl (Nat.le_of_ble_eq_true rfl) dX3_image_8 ⟨Nat.zero_le _, Nat.zero_le _⟩ (fun H locs hP hD hS => ?_)
  refine W.eq (g2 := F0 m 11 ls []) rfl ?_
  refine lv_aload_n hx hb dX3_image_11 rfl (lv_at hl 0 rfl) ?_
  refine lv_iconst (v := nI 1) hx hb dX3_image_12 (by decide) ?_
  refine va_put hx hb hts hinX3 tyX3 tyX3_ok nmX3 hown hK hP hD hS 0 rfl rfl 6 (by decide) wd3 (fun _ h => h) rfl (tyX3_ok 6 (by decide)) rfl rfl (Nat.le_of_ble_eq_true rfl) dX3_image_13 (fun H locs hP hD hS => ?_)
  have hP : va_P D zcl [(x0, .inr (3, [.ref a0, .ref kc0, .ref tc0, .ref tp0, .ref sh0, .ref fd0, .int (nI 1)])), (a0, .inr (0, [.int (M 0), .int (M 1), .ref k_, .ref p_, .ref t_, .ref h_, .ref w_, .int (M 2), .ref b_, .ref g_, .ref i_, .ref f_])), (k_, .inl (cI, 8, .inl (fun x_ => M (3 + 5 * x_)))), (p_, .inl (cI, 8, .inl (fun x_ => M (3 + 5 * x_ + 1)))), (t_, .inl (cI, 8, .inl (fun x_ => M (3 + 5 * x_ + 2)))), (h_, .inl (cI, 8, .inl (fun x_ => M (3 + 5 * x_ + 3)))), (w_, .inl (cI, 8, .inl (fun x_ => M (3 + 5 * x_ + 4)))), (b_, .inl (cI, 8, .inl (fun x_ => M (43 + 4 * x_)))), (g_, .inl (cI, 8, .inl (fun x_ => M (43 + 4 * x_ + 1)))), (i_, .inl (cI, 8, .inl (fun x_ => M (43 + 4 * x_ + 2)))), (f_, .inl (cI, 8, .inl (fun x_ => M (43 + 4 * x_ + 3)))), (kc0, .inr (0, [.int (M 0), .int (M 1), .ref kc_k_, .ref kc_p_, .ref kc_t_, .ref kc_h_, .ref kc_w_, .int (M 2), .ref kc_b_, .ref kc_g_, .ref kc_i_, .ref kc_f_])), (kc_k_, .inl (cI, 8, .inl (fun x_ => M (3 + 5 * x_)))), (kc_p_, .inl (cI, 8, .inl (fun x_ => M (3 + 5 * x_ + 1)))), (kc_t_, .inl (cI, 8, .inl (fun x_ => M (3 + 5 * x_ + 2)))), (kc_h_, .inl (cI, 8, .inl (fun x_ => M (3 + 5 * x_ + 3)))), (kc_w_, .inl (cI, 8, .inl (fun x_ => M (3 + 5 * x_ + 4)))), (kc_b_, .inl (cI, 8, .inl (fun x_ => M (43 + 4 * x_)))), (kc_g_, .inl (cI, 8, .inl (fun x_ => M (43 + 4 * x_ + 1)))), (kc_i_, .inl (cI, 8, .inl (fun x_ => M (43 + 4 * x_ + 2)))), (kc_f_, .inl (cI, 8, .inl (fun x_ => M (43 + 4 * x_ + 3))))] H := hP
  have hD : va_D (hz_a [(x0, .inr (3, [.ref a0, .ref kc0, .ref tc0, .ref tp0, .ref sh0, .ref fd0, .int (kf)])), (a0, .inr (0, [.int (M 0), .int (M 1), .ref k_, .ref p_, .ref t_, .ref h_, .ref w_, .int (M 2), .ref b_, .ref g_, .ref i_, .ref f_])), (k_, .inl (cI, 8, .inl (fun x_ => M (3 + 5 * x_)))), (p_, .inl (cI, 8, .inl (fun x_ => M (3 + 5 * x_ + 1)))), (t_, .inl (cI, 8, .inl (fun x_ => M (3 + 5 * x_ + 2)))), (h_, .inl (cI, 8, .inl (fun x_ => M (3 + 5 * x_ + 3)))), (w_, .inl (cI, 8, .inl (fun x_ => M (3 + 5 * x_ + 4)))), (b_, .inl (cI, 8, .inl (fun x_ => M (43 + 4 * x_)))), (g_, .inl (cI, 8, .inl (fun x_ => M (43 + 4 * x_ + 1)))), (i_, .inl (cI, 8, .inl (fun x_ => M (43 + 4 * x_ + 2)))), (f_, .inl (cI, 8, .inl (fun x_ => M (43 + 4 * x_ + 3)))), (kc0, .inr (0, [.int (K 0), .int (K 1), .ref kc_k_, .ref kc_p_, .ref kc_t_, .ref kc_h_, .ref kc_w_, .int (K 2), .ref kc_b_, .ref kc_g_, .ref kc_i_, .ref kc_f_])), (kc_k_, .inl (cI, 8, .inl (fun x_ => K (3 + 5 * x_)))), (kc_p_, .inl (cI, 8, .inl (fun x_ => K (3 + 5 * x_ + 1)))), (kc_t_, .inl (cI, 8, .inl (fun x_ => K (3 + 5 * x_ + 2)))), (kc_h_, .inl (cI, 8, .inl (fun x_ => K (3 + 5 * x_ + 3)))), (kc_w_, .inl (cI, 8, .inl (fun x_ => K (3 + 5 * x_ + 4)))), (kc_b_, .inl (cI, 8, .inl (fun x_ => K (43 + 4 * x_)))), (kc_g_, .inl (cI, 8, .inl (fun x_ => K (43 + 4 * x_ + 1)))), (kc_i_, .inl (cI, 8, .inl (fun x_ => K (43 + 4 * x_ + 2)))), (kc_f_, .inl (cI, 8, .inl (fun x_ => K (43 + 4 * x_ + 3))))]) [(x0, .inr (3, [.ref a0, .ref kc0, .ref tc0, .ref tp0, .ref sh0, .ref fd0, .int (nI 1)])), (a0, .inr (0, [.int (M 0), .int (M 1), .ref k_, .ref p_, .ref t_, .ref h_, .ref w_, .int (M 2), .ref b_, .ref g_, .ref i_, .ref f_])), (k_, .inl (cI, 8, .inl (fun x_ => M (3 + 5 * x_)))), (p_, .inl (cI, 8, .inl (fun x_ => M (3 + 5 * x_ + 1)))), (t_, .inl (cI, 8, .inl (fun x_ => M (3 + 5 * x_ + 2)))), (h_, .inl (cI, 8, .inl (fun x_ => M (3 + 5 * x_ + 3)))), (w_, .inl (cI, 8, .inl (fun x_ => M (3 + 5 * x_ + 4)))), (b_, .inl (cI, 8, .inl (fun x_ => M (43 + 4 * x_)))), (g_, .inl (cI, 8, .inl (fun x_ => M (43 + 4 * x_ + 1)))), (i_, .inl (cI, 8, .inl (fun x_ => M (43 + 4 * x_ + 2)))), (f_, .inl (cI, 8, .inl (fun x_ => M (43 + 4 * x_ + 3)))), (kc0, .inr (0, [.int (M 0), .int (M 1), .ref kc_k_, .ref kc_p_, .ref kc_t_, .ref kc_h_, .ref kc_w_, .int (M 2), .ref kc_b_, .ref kc_g_, .ref kc_i_, .ref kc_f_])), (kc_k_, .inl (cI, 8, .inl (fun x_ => M (3 + 5 * x_)))), (kc_p_, .inl (cI, 8, .inl (fun x_ => M (3 + 5 * x_ + 1)))), (kc_t_, .inl (cI, 8, .inl (fun x_ => M (3 + 5 * x_ + 2)))), (kc_h_, .inl (cI, 8, .inl (fun x_ => M (3 + 5 * x_ + 3)))), (kc_w_, .inl (cI, 8, .inl (fun x_ => M (3 + 5 * x_ + 4)))), (kc_b_, .inl (cI, 8, .inl (fun x_ => M (43 + 4 * x_)))), (kc_g_, .inl (cI, 8, .inl (fun x_ => M (43 + 4 * x_ + 1)))), (kc_i_, .inl (cI, 8, .inl (fun x_ => M (43 + 4 * x_ + 2)))), (kc_f_, .inl (cI, 8, .inl (fun x_ => M (43 + 4 * x_ + 3))))] := hD
  refine lv_iconst (v := nI 1) hx hb dX3_image_16 (by decide) ?_
  refine hz_ei hx hb hr hlocks rfl ?_ hS (rfl) dX3_image_17
  exact hP
set_option maxHeartbeats 4000000 in
set_option maxRecDepth 100000 in
theorem c4_undo (l : Launch) (D : va_G) (cI cJ : ClassId) (h0 am ak aw af at_ ab as_ ac : Nat) (kf wp tp tk bg ap vl bd : Int32) (M K : Nat → Int32) (F : Nat → Int32)  : hz_ME l yX4_undo wsX4_undo { frames := 1, cells := 0, slots := 0, locals := 22 } [.ref h0] D zcl [(cI, .int), (cJ, .long)] [(h0, .inr (4, [.ref am, .ref ak, .ref aw, .int (kf), .ref af, .int (wp), .ref at_, .int (tp), .int (tk), .int (bg), .int (ap), .int (vl), .int (bd), .ref ab, .ref as_, .ref ac])), (am, .inl (cI, 75, .inl M)), (ak, .inl (cI, 75, .inl K)), (af, .inl (cI, 7, .inl F))] [(h0, .inr (4, [.ref am, .ref ak, .ref aw, .int (kf), .ref af, .int (wp), .ref at_, .int (tp), .int (tk), .int (bg), .int (ap), .int (vl), .int (bd), .ref ab, .ref as_, .ref ac])), (am, .inl (cI, 75, .inl (sp_fM (fd_undo kf) M K))), (ak, .inl (cI, 75, .inl K)), (af, .inl (cI, 7, .inl (sp_ff F (fd_undo kf))))] (some (.int (sp_fr (fd_undo kf) (K 1)))) := by
  refine hz_me (cc := cX4_undo) (maxL := 1) (ret := (some .int)) (by decide) rfl (Nat.le_of_ble_eq_true rfl) ?_
  intro p e s m below meth c hx hb hr hts hown hlocks hml hP hK hD ls hl
  have hS : va_S (hz_a [(h0, .inr (4, [.ref am, .ref ak, .ref aw, .int (kf), .ref af, .int (wp), .ref at_, .int (tp), .int (tk), .int (bg), .int (ap), .int (vl), .int (bd), .ref ab, .ref as_, .ref ac])), (am, .inl (cI, 75, .inl M)), (ak, .inl (cI, 75, .inl K)), (af, .inl (cI, 7, .inl F))]) s.heap s.heap [] := va_S.rf
  have hown : s.vm.findClass RX4 = some m.cls := hown
  have hl : lv_has ls 1 [(0, .ref h0)] := hl
  have hinX4 : ∀ w ∈ u_ws RX4 TX4 16, w ∈ wsX4_undo := fun w h => List.mem_cons_of_mem _ (List.mem_append_right _ (h))
  have wd1 := hts (.fieldLink RX4 221 "HurtSpeechModel" "isKept" "Z") (List.mem_of_getElem? (i := 1) rfl)
  have wd2 := hts (.constant RX4 36 (-1000000004)) (List.mem_of_getElem? (i := 2) rfl)
  have wd3 := hts (.fieldLink RX4 13 "HurtSpeechModel" "kept" "[I") (List.mem_of_getElem? (i := 3) rfl)
  have wd4 := hts (.fieldLink RX4 9 "HurtSpeechModel" "m" "[I") (List.mem_of_getElem? (i := 4) rfl)
  refine lv_aload_n hx hb dX4_undo_0 rfl (lv_at hl 0 rfl) ?_
  refine va_get hx hb hts hinX4 hown hK hP 0 rfl rfl 3 (by decide) wd1 (fun _ h => h) rfl dX4_undo_1 ?_
  refine lv_if_ne (tgt := 14) hx hb dX4_undo_4 (by decide) (fun c4 => ?_) (fun c4 => ?_)
  · refine lv_aload_n hx hb dX4_undo_14 rfl (lv_at hl 0 rfl) ?_
    refine va_get hx hb hts hinX4 hown hK hP 0 rfl rfl 1 (by decide) wd3 (fun _ h => h) rfl dX4_undo_15 ?_
    refine lv_aload_n hx hb dX4_undo_18 rfl (lv_at hl 0 rfl) ?_
    refine va_get hx hb hts hinX4 hown hK hP 0 rfl rfl 0 (by decide) wd4 (fun _ h => h) rfl dX4_undo_19 ?_
    refine hz_cse (As := [.ref ak, .ref am]) (rest := []) ⟨hx, hb, hml, hown, hts⟩ (c4_copyAll l D cI cJ (a1 := ak) (a2 := am) (F := K) (G := M) ) (va_cwS 2 hts gX4_undo_X4_copyAll rfl rfl rfl (by decide +kernel) ⟨Nat.le_of_ble_eq_true rfl, Nat.le_of_ble_eq_true rfl⟩) hK hP hD hS [2, 1] rfl (by decide) (hz_ha [ak, am] rfl rfl) (w' := [(h0, .inr (4, [.ref am, .ref ak, .ref aw, .int (kf), .ref af, .int (wp), .ref at_, .int (tp), .int (tk), .int (bg), .int (ap), .int (vl), .int (bd), .ref ab, .ref as_, .ref ac])), (am, .inl (cI, 75, .inl K)), (ak, .inl (cI, 75, .inl K)), (af, .inl (cI, 7, .inl F))]) (hz_pt_eq 4 [0, 3] [(h0, .inr (4, [.ref am, .ref ak, .ref aw, .int (kf), .ref af, .int (wp), .ref at_, .int (tp), .int (tk), .int (bg), .int (ap), .int (vl), .int (bd), .ref ab, .ref as_, .ref ac])), (af, .inl (cI, 7, .inl F))] rfl rfl rfl rfl rfl rfl rfl) [0, 1] rfl rfl hl.1 rfl (Nat.le_of_ble_eq_true rfl) dX4_undo_22 ⟨Nat.zero_le _, Nat.zero_le _⟩ (fun H locs hP hD hS => ?_)
    refine W.eq (g2 := F0 m 25 ls []) rfl ?_
    refine lv_aload_n hx hb dX4_undo_25 rfl (lv_at hl 0 rfl) ?_
    refine va_get hx hb hts hinX4 hown hK hP 0 rfl rfl 0 (by decide) wd4 (fun _ h => h) rfl dX4_undo_26 ?_
    refine lv_iconst (v := nI 1) hx hb dX4_undo_29 (by decide) ?_
    refine hz_iald (j := 1) hx hb hK hP 1 0 rfl rfl (by omega) (Nat.le_of_ble_eq_true rfl) dX4_undo_30 ?_
    refine hz_ei hx hb hr hlocks rfl ?_ hS (by rw [show fd_undo kf = none from if_neg c4]; rfl) dX4_undo_31
    rw [show fd_undo kf = none from if_neg c4]
    exact hP
  · refine lv_aload_n hx hb dX4_undo_7 rfl (lv_at hl 0 rfl) ?_
    refine lv_ldc (v := -1000000004) hx hb hown wd2 dX4_undo_8 ?_
    refine hz_ce (As := [.int (-1000000004)]) (rest := []) ⟨hx, hb, hml, hown, hts⟩ (c4_finds l D cI cJ (h0 := h0) (af := af) (fs := [.ref am, .ref ak, .ref aw, .int (kf), .ref af, .int (wp), .ref at_, .int (tp), .int (tk), .int (bg), .int (ap), .int (vl), .int (bd), .ref ab, .ref as_, .ref ac]) (F := F) (f := -1000000004) (k := 3) (hf := by first | assumption | rfl) (hk := by omega) (hfk := by decide)) (cwV 1 hts gX4_undo_X4_finds rfl rfl rfl (by decide +kernel) ⟨Nat.le_of_ble_eq_true rfl, Nat.le_of_ble_eq_true rfl⟩) hK hP hD hS [0, 3] rfl (by decide) (hz_ha [h0, af] rfl rfl) (w' := [(h0, .inr (4, [.ref am, .ref ak, .ref aw, .int (kf), .ref af, .int (wp), .ref at_, .int (tp), .int (tk), .int (bg), .int (ap), .int (vl), .int (bd), .ref ab, .ref as_, .ref ac])), (am, .inl (cI, 75, .inl M)), (ak, .inl (cI, 75, .inl K)), (af, .inl (cI, 7, .inl (sp_fd F 3)))]) (hz_pt_eq 4 [1, 2] [(am, .inl (cI, 75, .inl M)), (ak, .inl (cI, 75, .inl K))] rfl rfl rfl rfl rfl rfl rfl) [0, 1] rfl 0 rfl rfl rfl rfl hl.1 rfl (Nat.le_of_ble_eq_true rfl) dX4_undo_10 ⟨Nat.zero_le _, Nat.zero_le _⟩ (fun H locs hP hD hS => ?_)
    refine W.eq (g2 := F0 m 13 ls [.int ((-1000000004))]) rfl ?_
    refine hz_ei hx hb hr hlocks rfl ?_ hS (by rw [show fd_undo kf = some 3 from if_pos c4]; rfl) dX4_undo_13
    rw [show fd_undo kf = some 3 from if_pos c4]
    exact hP
set_option maxHeartbeats 4000000 in
set_option maxRecDepth 100000 in
theorem c3_undo (l : Launch) (D : va_G) (cI cJ : ClassId) (x0 kc0 tc0 tp0 sh0 fd0 : Nat) (kf : Int32) (a0 k_ p_ t_ h_ w_ b_ g_ i_ f_ : Nat) (kc_k_ kc_p_ kc_t_ kc_h_ kc_w_ kc_b_ kc_g_ kc_i_ kc_f_ : Nat) (M K F : Nat → Int32)  : hz_ME l yX3_undo wsX3_undo { frames := 2, cells := 0, slots := 0, locals := 81 } [.ref x0] D zcl [(cI, .int), (cJ, .long)] [(x0, .inr (3, [.ref a0, .ref kc0, .ref tc0, .ref tp0, .ref sh0, .ref fd0, .int (kf)])), (a0, .inr (0, [.int (M 0), .int (M 1), .ref k_, .ref p_, .ref t_, .ref h_, .ref w_, .int (M 2), .ref b_, .ref g_, .ref i_, .ref f_])), (k_, .inl (cI, 8, .inl (fun x_ => M (3 + 5 * x_)))), (p_, .inl (cI, 8, .inl (fun x_ => M (3 + 5 * x_ + 1)))), (t_, .inl (cI, 8, .inl (fun x_ => M (3 + 5 * x_ + 2)))), (h_, .inl (cI, 8, .inl (fun x_ => M (3 + 5 * x_ + 3)))), (w_, .inl (cI, 8, .inl (fun x_ => M (3 + 5 * x_ + 4)))), (b_, .inl (cI, 8, .inl (fun x_ => M (43 + 4 * x_)))), (g_, .inl (cI, 8, .inl (fun x_ => M (43 + 4 * x_ + 1)))), (i_, .inl (cI, 8, .inl (fun x_ => M (43 + 4 * x_ + 2)))), (f_, .inl (cI, 8, .inl (fun x_ => M (43 + 4 * x_ + 3)))), (kc0, .inr (0, [.int (K 0), .int (K 1), .ref kc_k_, .ref kc_p_, .ref kc_t_, .ref kc_h_, .ref kc_w_, .int (K 2), .ref kc_b_, .ref kc_g_, .ref kc_i_, .ref kc_f_])), (kc_k_, .inl (cI, 8, .inl (fun x_ => K (3 + 5 * x_)))), (kc_p_, .inl (cI, 8, .inl (fun x_ => K (3 + 5 * x_ + 1)))), (kc_t_, .inl (cI, 8, .inl (fun x_ => K (3 + 5 * x_ + 2)))), (kc_h_, .inl (cI, 8, .inl (fun x_ => K (3 + 5 * x_ + 3)))), (kc_w_, .inl (cI, 8, .inl (fun x_ => K (3 + 5 * x_ + 4)))), (kc_b_, .inl (cI, 8, .inl (fun x_ => K (43 + 4 * x_)))), (kc_g_, .inl (cI, 8, .inl (fun x_ => K (43 + 4 * x_ + 1)))), (kc_i_, .inl (cI, 8, .inl (fun x_ => K (43 + 4 * x_ + 2)))), (kc_f_, .inl (cI, 8, .inl (fun x_ => K (43 + 4 * x_ + 3)))), (fd0, .inl (cI, 7, .inl F))] [(x0, .inr (3, [.ref a0, .ref kc0, .ref tc0, .ref tp0, .ref sh0, .ref fd0, .int (kf)])), (a0, .inr (0, [.int ((sp_fM (fd_undo kf) M K) 0), .int ((sp_fM (fd_undo kf) M K) 1), .ref k_, .ref p_, .ref t_, .ref h_, .ref w_, .int ((sp_fM (fd_undo kf) M K) 2), .ref b_, .ref g_, .ref i_, .ref f_])), (k_, .inl (cI, 8, .inl (fun x_ => (sp_fM (fd_undo kf) M K) (3 + 5 * x_)))), (p_, .inl (cI, 8, .inl (fun x_ => (sp_fM (fd_undo kf) M K) (3 + 5 * x_ + 1)))), (t_, .inl (cI, 8, .inl (fun x_ => (sp_fM (fd_undo kf) M K) (3 + 5 * x_ + 2)))), (h_, .inl (cI, 8, .inl (fun x_ => (sp_fM (fd_undo kf) M K) (3 + 5 * x_ + 3)))), (w_, .inl (cI, 8, .inl (fun x_ => (sp_fM (fd_undo kf) M K) (3 + 5 * x_ + 4)))), (b_, .inl (cI, 8, .inl (fun x_ => (sp_fM (fd_undo kf) M K) (43 + 4 * x_)))), (g_, .inl (cI, 8, .inl (fun x_ => (sp_fM (fd_undo kf) M K) (43 + 4 * x_ + 1)))), (i_, .inl (cI, 8, .inl (fun x_ => (sp_fM (fd_undo kf) M K) (43 + 4 * x_ + 2)))), (f_, .inl (cI, 8, .inl (fun x_ => (sp_fM (fd_undo kf) M K) (43 + 4 * x_ + 3)))), (kc0, .inr (0, [.int (K 0), .int (K 1), .ref kc_k_, .ref kc_p_, .ref kc_t_, .ref kc_h_, .ref kc_w_, .int (K 2), .ref kc_b_, .ref kc_g_, .ref kc_i_, .ref kc_f_])), (kc_k_, .inl (cI, 8, .inl (fun x_ => K (3 + 5 * x_)))), (kc_p_, .inl (cI, 8, .inl (fun x_ => K (3 + 5 * x_ + 1)))), (kc_t_, .inl (cI, 8, .inl (fun x_ => K (3 + 5 * x_ + 2)))), (kc_h_, .inl (cI, 8, .inl (fun x_ => K (3 + 5 * x_ + 3)))), (kc_w_, .inl (cI, 8, .inl (fun x_ => K (3 + 5 * x_ + 4)))), (kc_b_, .inl (cI, 8, .inl (fun x_ => K (43 + 4 * x_)))), (kc_g_, .inl (cI, 8, .inl (fun x_ => K (43 + 4 * x_ + 1)))), (kc_i_, .inl (cI, 8, .inl (fun x_ => K (43 + 4 * x_ + 2)))), (kc_f_, .inl (cI, 8, .inl (fun x_ => K (43 + 4 * x_ + 3)))), (fd0, .inl (cI, 7, .inl (sp_ff F (fd_undo kf))))] (some (.int (sp_fr (fd_undo kf) (K 1)))) := by
  refine hz_me (cc := cX3_undo) (maxL := 1) (ret := (some .int)) (by decide) rfl (Nat.le_of_ble_eq_true rfl) ?_
  intro p e s m below meth c hx hb hr hts hown hlocks hml hP hK hD ls hl
  have hS : va_S (hz_a [(x0, .inr (3, [.ref a0, .ref kc0, .ref tc0, .ref tp0, .ref sh0, .ref fd0, .int (kf)])), (a0, .inr (0, [.int (M 0), .int (M 1), .ref k_, .ref p_, .ref t_, .ref h_, .ref w_, .int (M 2), .ref b_, .ref g_, .ref i_, .ref f_])), (k_, .inl (cI, 8, .inl (fun x_ => M (3 + 5 * x_)))), (p_, .inl (cI, 8, .inl (fun x_ => M (3 + 5 * x_ + 1)))), (t_, .inl (cI, 8, .inl (fun x_ => M (3 + 5 * x_ + 2)))), (h_, .inl (cI, 8, .inl (fun x_ => M (3 + 5 * x_ + 3)))), (w_, .inl (cI, 8, .inl (fun x_ => M (3 + 5 * x_ + 4)))), (b_, .inl (cI, 8, .inl (fun x_ => M (43 + 4 * x_)))), (g_, .inl (cI, 8, .inl (fun x_ => M (43 + 4 * x_ + 1)))), (i_, .inl (cI, 8, .inl (fun x_ => M (43 + 4 * x_ + 2)))), (f_, .inl (cI, 8, .inl (fun x_ => M (43 + 4 * x_ + 3)))), (kc0, .inr (0, [.int (K 0), .int (K 1), .ref kc_k_, .ref kc_p_, .ref kc_t_, .ref kc_h_, .ref kc_w_, .int (K 2), .ref kc_b_, .ref kc_g_, .ref kc_i_, .ref kc_f_])), (kc_k_, .inl (cI, 8, .inl (fun x_ => K (3 + 5 * x_)))), (kc_p_, .inl (cI, 8, .inl (fun x_ => K (3 + 5 * x_ + 1)))), (kc_t_, .inl (cI, 8, .inl (fun x_ => K (3 + 5 * x_ + 2)))), (kc_h_, .inl (cI, 8, .inl (fun x_ => K (3 + 5 * x_ + 3)))), (kc_w_, .inl (cI, 8, .inl (fun x_ => K (3 + 5 * x_ + 4)))), (kc_b_, .inl (cI, 8, .inl (fun x_ => K (43 + 4 * x_)))), (kc_g_, .inl (cI, 8, .inl (fun x_ => K (43 + 4 * x_ + 1)))), (kc_i_, .inl (cI, 8, .inl (fun x_ => K (43 + 4 * x_ + 2)))), (kc_f_, .inl (cI, 8, .inl (fun x_ => K (43 + 4 * x_ + 3)))), (fd0, .inl (cI, 7, .inl F))]) s.heap s.heap [] := va_S.rf
  have hown : s.vm.findClass RX3 = some m.cls := hown
  have hl : lv_has ls 1 [(0, .ref x0)] := hl
  have hinX0 : ∀ w ∈ u_ws RX0 TX0 12, w ∈ wsX3_undo := fun w h => List.mem_cons_of_mem _ (List.mem_append_right _ (h))
  have hinX3 : ∀ w ∈ u_ws RX3 TX3 7, w ∈ wsX3_undo := fun w h => List.mem_cons_of_mem _ (List.mem_append_left _ (List.mem_append_right _ (h)))
  have wd1 := hts (.fieldLink RX3 40 "HurtSpeech" "isKept" "Z") (List.mem_of_getElem? (i := 1) rfl)
  have wd2 := hts (.constant RX3 157 (-1000000004)) (List.mem_of_getElem? (i := 2) rfl)
  have wd3 := hts (.fieldLink RX3 10 "HurtSpeech" "live" "LHurtSpeech$Congress;") (List.mem_of_getElem? (i := 3) rfl)
  have wd4 := hts (.fieldLink RX3 16 "HurtSpeech" "kept" "LHurtSpeech$Congress;") (List.mem_of_getElem? (i := 4) rfl)
  have wd5 := hts (.fieldLink RX3 53 "HurtSpeech$Congress" "delegates" "I") (List.mem_of_getElem? (i := 5) rfl)
  refine lv_aload_n hx hb dX3_undo_0 rfl (lv_at hl 0 rfl) ?_
  refine va_get hx hb hts hinX3 hown hK hP 0 rfl rfl 6 (by decide) wd1 (fun _ h => h) rfl dX3_undo_1 ?_
  refine lv_if_ne (tgt := 14) hx hb dX3_undo_4 (by decide) (fun c4 => ?_) (fun c4 => ?_)
  · refine lv_aload_n hx hb dX3_undo_14 rfl (lv_at hl 0 rfl) ?_
    refine va_get hx hb hts hinX3 hown hK hP 0 rfl rfl 0 (by decide) wd3 (fun _ h => h) rfl dX3_undo_15 ?_
    refine lv_aload_n hx hb dX3_undo_18 rfl (lv_at hl 0 rfl) ?_
    refine va_get hx hb hts hinX3 hown hK hP 0 rfl rfl 1 (by decide) wd4 (fun _ h => h) rfl dX3_undo_19 ?_
    refine hz_ce (As := [.ref kc0]) (rest := []) ⟨hx, hb, hml, hown, hts⟩ (c0_takeFrom l D cI cJ (a0 := a0) (k_ := k_) (p_ := p_) (t_ := t_) (h_ := h_) (w_ := w_) (b_ := b_) (g_ := g_) (i_ := i_) (f_ := f_) (b0 := kc0) (o_k_ := kc_k_) (o_p_ := kc_p_) (o_t_ := kc_t_) (o_h_ := kc_h_) (o_w_ := kc_w_) (o_b_ := kc_b_) (o_g_ := kc_g_) (o_i_ := kc_i_) (o_f_ := kc_f_) (M := M) (N := K) ) (cwV 1 hts gX3_undo_X0_takeFrom rfl rfl rfl (by decide +kernel) ⟨Nat.le_of_ble_eq_true rfl, Nat.le_of_ble_eq_true rfl⟩) hK hP hD hS [1, 2, 3, 4, 5, 6, 7, 8, 9, 10, 11, 12, 13, 14, 15, 16, 17, 18, 19, 20] rfl (by decide) (hz_ha [a0, k_, p_, t_, h_, w_, b_, g_, i_, f_, kc0, kc_k_, kc_p_, kc_t_, kc_h_, kc_w_, kc_b_, kc_g_, kc_i_, kc_f_] rfl rfl) (w' := [(x0, .inr (3, [.ref a0, .ref kc0, .ref tc0, .ref tp0, .ref sh0, .ref fd0, .int (kf)])), (a0, .inr (0, [.int (K 0), .int (K 1), .ref k_, .ref p_, .ref t_, .ref h_, .ref w_, .int (K 2), .ref b_, .ref g_, .ref i_, .ref f_])), (k_, .inl (cI, 8, .inl (fun x_ => K (3 + 5 * x_)))), (p_, .inl (cI, 8, .inl (fun x_ => K (3 + 5 * x_ + 1)))), (t_, .inl (cI, 8, .inl (fun x_ => K (3 + 5 * x_ + 2)))), (h_, .inl (cI, 8, .inl (fun x_ => K (3 + 5 * x_ + 3)))), (w_, .inl (cI, 8, .inl (fun x_ => K (3 + 5 * x_ + 4)))), (b_, .inl (cI, 8, .inl (fun x_ => K (43 + 4 * x_)))), (g_, .inl (cI, 8, .inl (fun x_ => K (43 + 4 * x_ + 1)))), (i_, .inl (cI, 8, .inl (fun x_ => K (43 + 4 * x_ + 2)))), (f_, .inl (cI, 8, .inl (fun x_ => K (43 + 4 * x_ + 3)))), (kc0, .inr (0, [.int (K 0), .int (K 1), .ref kc_k_, .ref kc_p_, .ref kc_t_, .ref kc_h_, .ref kc_w_, .int (K 2), .ref kc_b_, .ref kc_g_, .ref kc_i_, .ref kc_f_])), (kc_k_, .inl (cI, 8, .inl (fun x_ => K (3 + 5 * x_)))), (kc_p_, .inl (cI, 8, .inl (fun x_ => K (3 + 5 * x_ + 1)))), (kc_t_, .inl (cI, 8, .inl (fun x_ => K (3 + 5 * x_ + 2)))), (kc_h_, .inl (cI, 8, .inl (fun x_ => K (3 + 5 * x_ + 3)))), (kc_w_, .inl (cI, 8, .inl (fun x_ => K (3 + 5 * x_ + 4)))), (kc_b_, .inl (cI, 8, .inl (fun x_ => K (43 + 4 * x_)))), (kc_g_, .inl (cI, 8, .inl (fun x_ => K (43 + 4 * x_ + 1)))), (kc_i_, .inl (cI, 8, .inl (fun x_ => K (43 + 4 * x_ + 2)))), (kc_f_, .inl (cI, 8, .inl (fun x_ => K (43 + 4 * x_ + 3)))), (fd0, .inl (cI, 7, .inl F))]) (hz_pt_eq 22 [0, 21] [(x0, .inr (3, [.ref a0, .ref kc0, .ref tc0, .ref tp0, .ref sh0, .ref fd0, .int (kf)])), (fd0, .inl (cI, 7, .inl F))] rfl rfl rfl rfl rfl rfl rfl) [0, 1] rfl 1 rfl rfl rfl rfl hl.1 rfl (Nat.le_of_ble_eq_true rfl) dX3_undo_22 ⟨Nat.zero_le _, Nat.zero_le _⟩ (fun H locs hP hD hS => ?_)
    refine W.eq (g2 := F0 m 25 ls []) rfl ?_
    refine lv_aload_n hx hb dX3_undo_25 rfl (lv_at hl 0 rfl) ?_
    refine va_get hx hb hts hinX3 hown hK hP 0 rfl rfl 0 (by decide) wd3 (fun _ h => h) rfl dX3_undo_26 ?_
    refine va_get hx hb hts hinX0 hown hK hP 1 rfl rfl 1 (by decide) wd5 (fun _ h => h) rfl dX3_undo_29 ?_
    refine hz_ei hx hb hr hlocks rfl ?_ hS (by rw [show fd_undo kf = none from if_neg c4]; rfl) dX3_undo_32
    rw [show fd_undo kf = none from if_neg c4]
    exact hP
  · refine lv_aload_n hx hb dX3_undo_7 rfl (lv_at hl 0 rfl) ?_
    refine lv_ldc (v := -1000000004) hx hb hown wd2 dX3_undo_8 ?_
    refine hz_ce (As := [.int (-1000000004)]) (rest := []) ⟨hx, hb, hml, hown, hts⟩ (c3_found l D cI cJ (x0 := x0) (a0 := a0) (kc0 := kc0) (tc0 := tc0) (tp0 := tp0) (sh0 := sh0) (fd0 := fd0) (kf := kf) (F := F) (f := -1000000004) (k := 3) (hk := by omega) (hfk := by decide)) (cwV 1 hts gX3_undo_X3_found rfl rfl rfl (by decide +kernel) ⟨Nat.le_of_ble_eq_true rfl, Nat.le_of_ble_eq_true rfl⟩) hK hP hD hS [0, 21] rfl (by decide) (hz_ha [x0, fd0] rfl rfl) (w' := [(x0, .inr (3, [.ref a0, .ref kc0, .ref tc0, .ref tp0, .ref sh0, .ref fd0, .int (kf)])), (a0, .inr (0, [.int (M 0), .int (M 1), .ref k_, .ref p_, .ref t_, .ref h_, .ref w_, .int (M 2), .ref b_, .ref g_, .ref i_, .ref f_])), (k_, .inl (cI, 8, .inl (fun x_ => M (3 + 5 * x_)))), (p_, .inl (cI, 8, .inl (fun x_ => M (3 + 5 * x_ + 1)))), (t_, .inl (cI, 8, .inl (fun x_ => M (3 + 5 * x_ + 2)))), (h_, .inl (cI, 8, .inl (fun x_ => M (3 + 5 * x_ + 3)))), (w_, .inl (cI, 8, .inl (fun x_ => M (3 + 5 * x_ + 4)))), (b_, .inl (cI, 8, .inl (fun x_ => M (43 + 4 * x_)))), (g_, .inl (cI, 8, .inl (fun x_ => M (43 + 4 * x_ + 1)))), (i_, .inl (cI, 8, .inl (fun x_ => M (43 + 4 * x_ + 2)))), (f_, .inl (cI, 8, .inl (fun x_ => M (43 + 4 * x_ + 3)))), (kc0, .inr (0, [.int (K 0), .int (K 1), .ref kc_k_, .ref kc_p_, .ref kc_t_, .ref kc_h_, .ref kc_w_, .int (K 2), .ref kc_b_, .ref kc_g_, .ref kc_i_, .ref kc_f_])), (kc_k_, .inl (cI, 8, .inl (fun x_ => K (3 + 5 * x_)))), (kc_p_, .inl (cI, 8, .inl (fun x_ => K (3 + 5 * x_ + 1)))), (kc_t_, .inl (cI, 8, .inl (fun x_ => K (3 + 5 * x_ + 2)))), (kc_h_, .inl (cI, 8, .inl (fun x_ => K (3 + 5 * x_ + 3)))), (kc_w_, .inl (cI, 8, .inl (fun x_ => K (3 + 5 * x_ + 4)))), (kc_b_, .inl (cI, 8, .inl (fun x_ => K (43 + 4 * x_)))), (kc_g_, .inl (cI, 8, .inl (fun x_ => K (43 + 4 * x_ + 1)))), (kc_i_, .inl (cI, 8, .inl (fun x_ => K (43 + 4 * x_ + 2)))), (kc_f_, .inl (cI, 8, .inl (fun x_ => K (43 + 4 * x_ + 3)))), (fd0, .inl (cI, 7, .inl (sp_fd F 3)))]) (hz_pt_eq 22 [1, 2, 3, 4, 5, 6, 7, 8, 9, 10, 11, 12, 13, 14, 15, 16, 17, 18, 19, 20] [(a0, .inr (0, [.int (M 0), .int (M 1), .ref k_, .ref p_, .ref t_, .ref h_, .ref w_, .int (M 2), .ref b_, .ref g_, .ref i_, .ref f_])), (k_, .inl (cI, 8, .inl (fun x_ => M (3 + 5 * x_)))), (p_, .inl (cI, 8, .inl (fun x_ => M (3 + 5 * x_ + 1)))), (t_, .inl (cI, 8, .inl (fun x_ => M (3 + 5 * x_ + 2)))), (h_, .inl (cI, 8, .inl (fun x_ => M (3 + 5 * x_ + 3)))), (w_, .inl (cI, 8, .inl (fun x_ => M (3 + 5 * x_ + 4)))), (b_, .inl (cI, 8, .inl (fun x_ => M (43 + 4 * x_)))), (g_, .inl (cI, 8, .inl (fun x_ => M (43 + 4 * x_ + 1)))), (i_, .inl (cI, 8, .inl (fun x_ => M (43 + 4 * x_ + 2)))), (f_, .inl (cI, 8, .inl (fun x_ => M (43 + 4 * x_ + 3)))), (kc0, .inr (0, [.int (K 0), .int (K 1), .ref kc_k_, .ref kc_p_, .ref kc_t_, .ref kc_h_, .ref kc_w_, .int (K 2), .ref kc_b_, .ref kc_g_, .ref kc_i_, .ref kc_f_])), (kc_k_, .inl (cI, 8, .inl (fun x_ => K (3 + 5 * x_)))), (kc_p_, .inl (cI, 8, .inl (fun x_ => K (3 + 5 * x_ + 1)))), (kc_t_, .inl (cI, 8, .inl (fun x_ => K (3 + 5 * x_ + 2)))), (kc_h_, .inl (cI, 8, .inl (fun x_ => K (3 + 5 * x_ + 3)))), (kc_w_, .inl (cI, 8, .inl (fun x_ => K (3 + 5 * x_ + 4)))), (kc_b_, .inl (cI, 8, .inl (fun x_ => K (43 + 4 * x_)))), (kc_g_, .inl (cI, 8, .inl (fun x_ => K (43 + 4 * x_ + 1)))), (kc_i_, .inl (cI, 8, .inl (fun x_ => K (43 + 4 * x_ + 2)))), (kc_f_, .inl (cI, 8, .inl (fun x_ => K (43 + 4 * x_ + 3))))] rfl rfl rfl rfl rfl rfl rfl) [0, 1] rfl 0 rfl rfl rfl rfl hl.1 rfl (Nat.le_of_ble_eq_true rfl) dX3_undo_10 ⟨Nat.zero_le _, Nat.zero_le _⟩ (fun H locs hP hD hS => ?_)
    refine W.eq (g2 := F0 m 13 ls [.int ((-1000000004))]) rfl ?_
    refine hz_ei hx hb hr hlocks rfl ?_ hS (by rw [show fd_undo kf = some 3 from if_pos c4]; rfl) dX3_undo_13
    rw [show fd_undo kf = some 3 from if_pos c4]
    exact hP
set_option maxHeartbeats 4000000 in
set_option maxRecDepth 100000 in
theorem c4_tear (l : Launch) (D : va_G) (cI cJ : ClassId) (h0 am ak aw af at_ ab as_ ac : Nat) (kf wp tp tk bg ap vl bd : Int32)  : hz_ME l yX4_tear wsX4_tear { frames := 0, cells := 0, slots := 0, locals := 0 } [.ref h0] D zcl [(cI, .int), (cJ, .long)] [(h0, .inr (4, [.ref am, .ref ak, .ref aw, .int (kf), .ref af, .int (wp), .ref at_, .int (tp), .int (tk), .int (bg), .int (ap), .int (vl), .int (bd), .ref ab, .ref as_, .ref ac]))] [(h0, .inr (4, [.ref am, .ref ak, .ref aw, .int (nI 0), .ref af, .int (wp), .ref at_, .int (tp), .int (tk), .int (bg), .int (ap), .int (vl), .int (bd), .ref ab, .ref as_, .ref ac]))] (some (.int (if kf = 0 then nI 0 else nI 1))) := by
  refine hz_me (cc := cX4_tear) (maxL := 2) (ret := (some .int)) (by decide) rfl (Nat.le_of_ble_eq_true rfl) ?_
  intro p e s m below meth c hx hb hr hts hown hlocks hml hP hK hD ls hl
  have hS : va_S (hz_a [(h0, .inr (4, [.ref am, .ref ak, .ref aw, .int (kf), .ref af, .int (wp), .ref at_, .int (tp), .int (tk), .int (bg), .int (ap), .int (vl), .int (bd), .ref ab, .ref as_, .ref ac]))]) s.heap s.heap [] := va_S.rf
  have hown : s.vm.findClass RX4 = some m.cls := hown
  have hl : lv_has ls 2 [(0, .ref h0)] := hl
  have hinX4 : ∀ w ∈ u_ws RX4 TX4 16, w ∈ wsX4_tear := fun w h => List.mem_cons_of_mem _ (List.mem_append_right _ (h))
  have wd1 := hts (.fieldLink RX4 221 "HurtSpeechModel" "isKept" "Z") (List.mem_of_getElem? (i := 1) rfl)
  refine lv_aload_n hx hb dX4_tear_0 rfl (lv_at hl 0 rfl) ?_
  refine va_get hx hb hts hinX4 hown hK hP 0 rfl rfl 3 (by decide) wd1 (fun _ h => h) rfl dX4_tear_1 ?_
  refine hz_dia (ls := ls) (if kf = 0 then nI 0 else nI 1) 12 [] (fun jn12 => ?_) ?_
  · refine lv_if_eq (tgt := 11) hx hb dX4_tear_4 (by decide) (fun c4 => ?_) (fun c4 => ?_)
    · refine lv_iconst (v := nI 0) hx hb dX4_tear_11 (by decide) ?_
      exact hz_ct ((if_pos c4).symm) jn12
    · refine lv_iconst (v := nI 1) hx hb dX4_tear_7 (by decide) ?_
      refine lv_goto (tgt := 12) hx hb dX4_tear_8 (by decide) ?_
      exact hz_ct ((if_neg c4).symm) jn12
  · refine lv_istore_n (lv' := [(1, .int (if kf = 0 then nI 0 else nI 1)), (0, .ref h0)]) hx hb dX4_tear_12 rfl hl (by decide) rfl (fun ls hl => ?_)
    refine lv_aload_n hx hb dX4_tear_13 rfl (lv_at hl 1 rfl) ?_
    refine lv_iconst (v := nI 0) hx hb dX4_tear_14 (by decide) ?_
    refine va_put hx hb hts hinX4 tyX4 tyX4_ok nmX4 hown hK hP hD hS 0 rfl rfl 3 (by decide) wd1 (fun _ h => h) rfl (tyX4_ok 3 (by decide)) rfl rfl (Nat.le_of_ble_eq_true rfl) dX4_tear_15 (fun H locs hP hD hS => ?_)
    have hP : va_P D zcl [(h0, .inr (4, [.ref am, .ref ak, .ref aw, .int (nI 0), .ref af, .int (wp), .ref at_, .int (tp), .int (tk), .int (bg), .int (ap), .int (vl), .int (bd), .ref ab, .ref as_, .ref ac]))] H := hP
    have hD : va_D (hz_a [(h0, .inr (4, [.ref am, .ref ak, .ref aw, .int (kf), .ref af, .int (wp), .ref at_, .int (tp), .int (tk), .int (bg), .int (ap), .int (vl), .int (bd), .ref ab, .ref as_, .ref ac]))]) [(h0, .inr (4, [.ref am, .ref ak, .ref aw, .int (nI 0), .ref af, .int (wp), .ref at_, .int (tp), .int (tk), .int (bg), .int (ap), .int (vl), .int (bd), .ref ab, .ref as_, .ref ac]))] := hD
    refine lv_iload_n hx hb dX4_tear_18 rfl (lv_at hl 0 rfl) ?_
    refine hz_ei hx hb hr hlocks rfl ?_ hS (rfl) dX4_tear_19
    exact hP
set_option maxHeartbeats 4000000 in
set_option maxRecDepth 100000 in
theorem c3_tear (l : Launch) (D : va_G) (cI cJ : ClassId) (x0 a0 kc0 tc0 tp0 sh0 fd0 : Nat) (kf : Int32)  : hz_ME l yX3_tear wsX3_tear { frames := 0, cells := 0, slots := 0, locals := 0 } [.ref x0] D zcl [(cI, .int), (cJ, .long)] [(x0, .inr (3, [.ref a0, .ref kc0, .ref tc0, .ref tp0, .ref sh0, .ref fd0, .int (kf)]))] [(x0, .inr (3, [.ref a0, .ref kc0, .ref tc0, .ref tp0, .ref sh0, .ref fd0, .int (nI 0)]))] (some (.int (if kf = 0 then nI 0 else nI 1))) := by
  refine hz_me (cc := cX3_tear) (maxL := 2) (ret := (some .int)) (by decide) rfl (Nat.le_of_ble_eq_true rfl) ?_
  intro p e s m below meth c hx hb hr hts hown hlocks hml hP hK hD ls hl
  have hS : va_S (hz_a [(x0, .inr (3, [.ref a0, .ref kc0, .ref tc0, .ref tp0, .ref sh0, .ref fd0, .int (kf)]))]) s.heap s.heap [] := va_S.rf
  have hown : s.vm.findClass RX3 = some m.cls := hown
  have hl : lv_has ls 2 [(0, .ref x0)] := hl
  have hinX3 : ∀ w ∈ u_ws RX3 TX3 7, w ∈ wsX3_tear := fun w h => List.mem_cons_of_mem _ (List.mem_append_right _ (h))
  have wd1 := hts (.fieldLink RX3 40 "HurtSpeech" "isKept" "Z") (List.mem_of_getElem? (i := 1) rfl)
  refine lv_aload_n hx hb dX3_tear_0 rfl (lv_at hl 0 rfl) ?_
  refine va_get hx hb hts hinX3 hown hK hP 0 rfl rfl 6 (by decide) wd1 (fun _ h => h) rfl dX3_tear_1 ?_
  refine hz_dia (ls := ls) (if kf = 0 then nI 0 else nI 1) 12 [] (fun jn12 => ?_) ?_
  · refine lv_if_eq (tgt := 11) hx hb dX3_tear_4 (by decide) (fun c4 => ?_) (fun c4 => ?_)
    · refine lv_iconst (v := nI 0) hx hb dX3_tear_11 (by decide) ?_
      exact hz_ct ((if_pos c4).symm) jn12
    · refine lv_iconst (v := nI 1) hx hb dX3_tear_7 (by decide) ?_
      refine lv_goto (tgt := 12) hx hb dX3_tear_8 (by decide) ?_
      exact hz_ct ((if_neg c4).symm) jn12
  · refine lv_istore_n (lv' := [(1, .int (if kf = 0 then nI 0 else nI 1)), (0, .ref x0)]) hx hb dX3_tear_12 rfl hl (by decide) rfl (fun ls hl => ?_)
    refine lv_aload_n hx hb dX3_tear_13 rfl (lv_at hl 1 rfl) ?_
    refine lv_iconst (v := nI 0) hx hb dX3_tear_14 (by decide) ?_
    refine va_put hx hb hts hinX3 tyX3 tyX3_ok nmX3 hown hK hP hD hS 0 rfl rfl 6 (by decide) wd1 (fun _ h => h) rfl (tyX3_ok 6 (by decide)) rfl rfl (Nat.le_of_ble_eq_true rfl) dX3_tear_15 (fun H locs hP hD hS => ?_)
    have hP : va_P D zcl [(x0, .inr (3, [.ref a0, .ref kc0, .ref tc0, .ref tp0, .ref sh0, .ref fd0, .int (nI 0)]))] H := hP
    have hD : va_D (hz_a [(x0, .inr (3, [.ref a0, .ref kc0, .ref tc0, .ref tp0, .ref sh0, .ref fd0, .int (kf)]))]) [(x0, .inr (3, [.ref a0, .ref kc0, .ref tc0, .ref tp0, .ref sh0, .ref fd0, .int (nI 0)]))] := hD
    refine lv_iload_n hx hb dX3_tear_18 rfl (lv_at hl 0 rfl) ?_
    refine hz_ei hx hb hr hlocks rfl ?_ hS (rfl) dX3_tear_19
    exact hP
set_option maxHeartbeats 4000000 in
set_option maxRecDepth 100000 in
theorem c4_count (l : Launch) (D : va_G) (cI cJ : ClassId) (h0 am ak aw af at_ ab as_ ac : Nat) (kf wp tp tk bg ap vl bd : Int32) (M F : Nat → Int32) (b : Nat) (w : Int32) (hI : hz_I b M) : hz_ME l yX4_count wsX4_count { frames := 2, cells := 0, slots := 0, locals := 44 } [.ref h0, .int (w)] D zcl [(cI, .int), (cJ, .long)] [(h0, .inr (4, [.ref am, .ref ak, .ref aw, .int (kf), .ref af, .int (wp), .ref at_, .int (tp), .int (tk), .int (bg), .int (ap), .int (vl), .int (bd), .ref ab, .ref as_, .ref ac])), (am, .inl (cI, 75, .inl M)), (af, .inl (cI, 7, .inl F))] [(h0, .inr (4, [.ref am, .ref ak, .ref aw, .int (kf), .ref af, .int (wp), .ref at_, .int (tp), .int (tk), .int (bg), .int (ap), .int (vl), .int (bd), .ref ab, .ref as_, .ref ac])), (am, .inl (cI, 75, .inl M)), (af, .inl (cI, 7, .inl (sp_ff F (fd_count w))))] (some (.int (sp_fr (fd_count w) (sp_cnt M tp w)))) := by
  refine hz_me (cc := cX4_count) (maxL := 2) (ret := (some .int)) (by decide) rfl (Nat.le_of_ble_eq_true rfl) ?_
  intro p e s m below meth c hx hb hr hts hown hlocks hml hP hK hD ls hl
  have hS : va_S (hz_a [(h0, .inr (4, [.ref am, .ref ak, .ref aw, .int (kf), .ref af, .int (wp), .ref at_, .int (tp), .int (tk), .int (bg), .int (ap), .int (vl), .int (bd), .ref ab, .ref as_, .ref ac])), (am, .inl (cI, 75, .inl M)), (af, .inl (cI, 7, .inl F))]) s.heap s.heap [] := va_S.rf
  have hown : s.vm.findClass RX4 = some m.cls := hown
  have hl : lv_has ls 2 [(0, .ref h0), (1, .int (w))] := hl
  have hinX4 : ∀ w ∈ u_ws RX4 TX4 16, w ∈ wsX4_count := fun w h => List.mem_cons_of_mem _ (List.mem_append_right _ (h))
  have wd1 := hts (.fieldLink RX4 9 "HurtSpeechModel" "m" "[I") (List.mem_of_getElem? (i := 1) rfl)
  have wd2 := hts (.fieldLink RX4 146 "HurtSpeechModel" "taped" "I") (List.mem_of_getElem? (i := 2) rfl)
  have wd3 := hts (.constant RX4 35 (-1000000001)) (List.mem_of_getElem? (i := 3) rfl)
  obtain ⟨⟨hM0, hTb, hM1, hD8, hM2, hS8⟩, hID, hIS⟩ := id hI
  refine lv_iload_n hx hb dX4_count_0 rfl (lv_at hl 1 rfl) ?_
  rcases hz_sw0_3 w with c1 | c1 | c1 | c1 | c1
  · refine lv_tableIn (tgt := 32) hx hb dX4_count_1 (by rw [c1]; decide) (by rw [c1]; decide) (off := 31) (by rw [c1]; decide) (by decide) ?_
    rw [c1] at hl
    refine lv_aload_n hx hb dX4_count_32 rfl (lv_at hl 0 rfl) ?_
    refine va_get hx hb hts hinX4 hown hK hP 0 rfl rfl 0 (by decide) wd1 (fun _ h => h) rfl dX4_count_33 ?_
    refine lv_iconst (v := nI 1) hx hb dX4_count_36 (by decide) ?_
    refine lv_iload_n hx hb dX4_count_37 rfl (lv_at hl 1 rfl) ?_
    refine hz_iadd hx hb dX4_count_38 ?_
    refine hz_iald (j := 1 + 0) hx hb hK hP 1 0 rfl rfl (by omega) (Nat.le_of_ble_eq_true rfl) dX4_count_39 ?_
    refine hz_ei hx hb hr hlocks rfl ?_ hS (by rw [show fd_count w = none from if_neg (by rw [c1]; decide)]; exact fr_n (cnt_0 c1)) dX4_count_40
    rw [show fd_count w = none from if_neg (by rw [c1]; decide)]
    exact hP
  · refine lv_tableIn (tgt := 32) hx hb dX4_count_1 (by rw [c1]; decide) (by rw [c1]; decide) (off := 31) (by rw [c1]; decide) (by decide) ?_
    rw [c1] at hl
    refine lv_aload_n hx hb dX4_count_32 rfl (lv_at hl 0 rfl) ?_
    refine va_get hx hb hts hinX4 hown hK hP 0 rfl rfl 0 (by decide) wd1 (fun _ h => h) rfl dX4_count_33 ?_
    refine lv_iconst (v := nI 1) hx hb dX4_count_36 (by decide) ?_
    refine lv_iload_n hx hb dX4_count_37 rfl (lv_at hl 1 rfl) ?_
    refine hz_iadd hx hb dX4_count_38 ?_
    refine hz_iald (j := 1 + 1) hx hb hK hP 1 0 rfl rfl (by omega) (Nat.le_of_ble_eq_true rfl) dX4_count_39 ?_
    refine hz_ei hx hb hr hlocks rfl ?_ hS (by rw [show fd_count w = none from if_neg (by rw [c1]; decide)]; exact fr_n (cnt_1 c1)) dX4_count_40
    rw [show fd_count w = none from if_neg (by rw [c1]; decide)]
    exact hP
  · refine lv_tableIn (tgt := 41) hx hb dX4_count_1 (by rw [c1]; decide) (by rw [c1]; decide) (off := 40) (by rw [c1]; decide) (by decide) ?_
    refine lv_aload_n hx hb dX4_count_41 rfl (lv_at hl 0 rfl) ?_
    refine va_get hx hb hts hinX4 hown hK hP 0 rfl rfl 7 (by decide) wd2 (fun _ h => h) rfl dX4_count_42 ?_
    refine hz_ei hx hb hr hlocks rfl ?_ hS (by rw [show fd_count w = none from if_neg (by rw [c1]; decide)]; exact fr_n (cnt_2 c1)) dX4_count_45
    rw [show fd_count w = none from if_neg (by rw [c1]; decide)]
    exact hP
  · refine lv_tableIn (tgt := 46) hx hb dX4_count_1 (by rw [c1]; decide) (by rw [c1]; decide) (off := 45) (by rw [c1]; decide) (by decide) ?_
    refine lv_aload_n hx hb dX4_count_46 rfl (lv_at hl 0 rfl) ?_
    refine hz_cv (As := []) (rest := []) ⟨hx, hb, hml, hown, hts⟩ (c4_allWept l D cI cJ (h0 := h0) (am := am) (fs := [.ref am, .ref ak, .ref aw, .int (kf), .ref af, .int (wp), .ref at_, .int (tp), .int (tk), .int (bg), .int (ap), .int (vl), .int (bd), .ref ab, .ref as_, .ref ac]) (M := M) (hf := by first | assumption | rfl) (hM1 := by first | assumption | rfl) (hD8 := by first | assumption | rfl)) (cwV 0 hts gX4_count_X4_allWept rfl rfl rfl (by decide +kernel) ⟨Nat.le_of_ble_eq_true rfl, Nat.le_of_ble_eq_true rfl⟩) hK hP [0, 1] rfl [0, 1] rfl 0 rfl rfl rfl rfl hl.1 rfl (Nat.le_of_ble_eq_true rfl) dX4_count_47 ⟨Nat.zero_le _, Nat.zero_le _⟩ ?_
    refine hz_ei hx hb hr hlocks rfl ?_ hS (by rw [show fd_count w = none from if_neg (by rw [c1]; decide)]; exact fr_n (cnt_3 c1)) dX4_count_50
    rw [show fd_count w = none from if_neg (by rw [c1]; decide)]
    exact hP
  · refine lv_tableOut (tgt := 51) hx hb dX4_count_1 (by omega) (by decide) ?_
    refine lv_aload_n hx hb dX4_count_51 rfl (lv_at hl 0 rfl) ?_
    refine lv_ldc (v := -1000000001) hx hb hown wd3 dX4_count_52 ?_
    refine hz_ce (As := [.int (-1000000001)]) (rest := []) ⟨hx, hb, hml, hown, hts⟩ (c4_finds l D cI cJ (h0 := h0) (af := af) (fs := [.ref am, .ref ak, .ref aw, .int (kf), .ref af, .int (wp), .ref at_, .int (tp), .int (tk), .int (bg), .int (ap), .int (vl), .int (bd), .ref ab, .ref as_, .ref ac]) (F := F) (f := -1000000001) (k := 0) (hf := by first | assumption | rfl) (hk := by omega) (hfk := by decide)) (cwV 1 hts gX4_count_X4_finds rfl rfl rfl (by decide +kernel) ⟨Nat.le_of_ble_eq_true rfl, Nat.le_of_ble_eq_true rfl⟩) hK hP hD hS [0, 2] rfl (by decide) (hz_ha [h0, af] rfl rfl) (w' := [(h0, .inr (4, [.ref am, .ref ak, .ref aw, .int (kf), .ref af, .int (wp), .ref at_, .int (tp), .int (tk), .int (bg), .int (ap), .int (vl), .int (bd), .ref ab, .ref as_, .ref ac])), (am, .inl (cI, 75, .inl M)), (af, .inl (cI, 7, .inl (sp_fd F 0)))]) (hz_pt_eq 3 [1] [(am, .inl (cI, 75, .inl M))] rfl rfl rfl rfl rfl rfl rfl) [0, 1] rfl 0 rfl rfl rfl rfl hl.1 rfl (Nat.le_of_ble_eq_true rfl) dX4_count_54 ⟨Nat.zero_le _, Nat.zero_le _⟩ (fun H locs hP hD hS => ?_)
    refine W.eq (g2 := F0 m 57 ls [.int ((-1000000001))]) rfl ?_
    refine hz_ei hx hb hr hlocks rfl ?_ hS (by rw [show fd_count w = some 0 from if_pos c1.1]; rfl) dX4_count_57
    rw [show fd_count w = some 0 from if_pos c1.1]
    exact hP
set_option maxHeartbeats 4000000 in
set_option maxRecDepth 100000 in
theorem c3_count (l : Launch) (D : va_G) (cI cJ : ClassId) (x0 kc0 tc0 tp0 sh0 fd0 : Nat) (kf : Int32) (a0 k_ p_ t_ h_ w_ b_ g_ i_ f_ : Nat) (tb0 : Nat) (tp tk sa so nu : Int32) (M F : Nat → Int32) (b : Nat) (w : Int32) (hI : hz_I b M) : hz_ME l yX3_count wsX3_count { frames := 2, cells := 0, slots := 0, locals := 44 } [.ref x0, .int (w)] D zcl [(cI, .int), (cJ, .long)] [(x0, .inr (3, [.ref a0, .ref kc0, .ref tc0, .ref tp0, .ref sh0, .ref fd0, .int (kf)])), (a0, .inr (0, [.int (M 0), .int (M 1), .ref k_, .ref p_, .ref t_, .ref h_, .ref w_, .int (M 2), .ref b_, .ref g_, .ref i_, .ref f_])), (k_, .inl (cI, 8, .inl (fun x_ => M (3 + 5 * x_)))), (p_, .inl (cI, 8, .inl (fun x_ => M (3 + 5 * x_ + 1)))), (t_, .inl (cI, 8, .inl (fun x_ => M (3 + 5 * x_ + 2)))), (h_, .inl (cI, 8, .inl (fun x_ => M (3 + 5 * x_ + 3)))), (w_, .inl (cI, 8, .inl (fun x_ => M (3 + 5 * x_ + 4)))), (b_, .inl (cI, 8, .inl (fun x_ => M (43 + 4 * x_)))), (g_, .inl (cI, 8, .inl (fun x_ => M (43 + 4 * x_ + 1)))), (i_, .inl (cI, 8, .inl (fun x_ => M (43 + 4 * x_ + 2)))), (f_, .inl (cI, 8, .inl (fun x_ => M (43 + 4 * x_ + 3)))), (tp0, .inr (2, [.ref tb0, .int (tp), .int (tk), .int (sa), .int (so), .int (nu)])), (fd0, .inl (cI, 7, .inl F))] [(x0, .inr (3, [.ref a0, .ref kc0, .ref tc0, .ref tp0, .ref sh0, .ref fd0, .int (kf)])), (a0, .inr (0, [.int (M 0), .int (M 1), .ref k_, .ref p_, .ref t_, .ref h_, .ref w_, .int (M 2), .ref b_, .ref g_, .ref i_, .ref f_])), (k_, .inl (cI, 8, .inl (fun x_ => M (3 + 5 * x_)))), (p_, .inl (cI, 8, .inl (fun x_ => M (3 + 5 * x_ + 1)))), (t_, .inl (cI, 8, .inl (fun x_ => M (3 + 5 * x_ + 2)))), (h_, .inl (cI, 8, .inl (fun x_ => M (3 + 5 * x_ + 3)))), (w_, .inl (cI, 8, .inl (fun x_ => M (3 + 5 * x_ + 4)))), (b_, .inl (cI, 8, .inl (fun x_ => M (43 + 4 * x_)))), (g_, .inl (cI, 8, .inl (fun x_ => M (43 + 4 * x_ + 1)))), (i_, .inl (cI, 8, .inl (fun x_ => M (43 + 4 * x_ + 2)))), (f_, .inl (cI, 8, .inl (fun x_ => M (43 + 4 * x_ + 3)))), (tp0, .inr (2, [.ref tb0, .int (tp), .int (tk), .int (sa), .int (so), .int (nu)])), (fd0, .inl (cI, 7, .inl (sp_ff F (fd_count w))))] (some (.int (sp_fr (fd_count w) (sp_cnt M tp w)))) := by
  refine hz_me (cc := cX3_count) (maxL := 2) (ret := (some .int)) (by decide) rfl (Nat.le_of_ble_eq_true rfl) ?_
  intro p e s m below meth c hx hb hr hts hown hlocks hml hP hK hD ls hl
  have hS : va_S (hz_a [(x0, .inr (3, [.ref a0, .ref kc0, .ref tc0, .ref tp0, .ref sh0, .ref fd0, .int (kf)])), (a0, .inr (0, [.int (M 0), .int (M 1), .ref k_, .ref p_, .ref t_, .ref h_, .ref w_, .int (M 2), .ref b_, .ref g_, .ref i_, .ref f_])), (k_, .inl (cI, 8, .inl (fun x_ => M (3 + 5 * x_)))), (p_, .inl (cI, 8, .inl (fun x_ => M (3 + 5 * x_ + 1)))), (t_, .inl (cI, 8, .inl (fun x_ => M (3 + 5 * x_ + 2)))), (h_, .inl (cI, 8, .inl (fun x_ => M (3 + 5 * x_ + 3)))), (w_, .inl (cI, 8, .inl (fun x_ => M (3 + 5 * x_ + 4)))), (b_, .inl (cI, 8, .inl (fun x_ => M (43 + 4 * x_)))), (g_, .inl (cI, 8, .inl (fun x_ => M (43 + 4 * x_ + 1)))), (i_, .inl (cI, 8, .inl (fun x_ => M (43 + 4 * x_ + 2)))), (f_, .inl (cI, 8, .inl (fun x_ => M (43 + 4 * x_ + 3)))), (tp0, .inr (2, [.ref tb0, .int (tp), .int (tk), .int (sa), .int (so), .int (nu)])), (fd0, .inl (cI, 7, .inl F))]) s.heap s.heap [] := va_S.rf
  have hown : s.vm.findClass RX3 = some m.cls := hown
  have hl : lv_has ls 2 [(0, .ref x0), (1, .int (w))] := hl
  have hinX0 : ∀ w ∈ u_ws RX0 TX0 12, w ∈ wsX3_count := fun w h => List.mem_cons_of_mem _ (List.mem_append_left _ (List.mem_append_right _ (h)))
  have hinX2 : ∀ w ∈ u_ws RX2 TX2 6, w ∈ wsX3_count := fun w h => List.mem_cons_of_mem _ (List.mem_append_right _ (h))
  have hinX3 : ∀ w ∈ u_ws RX3 TX3 7, w ∈ wsX3_count := fun w h => List.mem_cons_of_mem _ (List.mem_append_left _ (List.mem_append_left _ (List.mem_append_right _ (h))))
  have wd1 := hts (.fieldLink RX3 10 "HurtSpeech" "live" "LHurtSpeech$Congress;") (List.mem_of_getElem? (i := 1) rfl)
  have wd2 := hts (.fieldLink RX3 53 "HurtSpeech$Congress" "delegates" "I") (List.mem_of_getElem? (i := 2) rfl)
  have wd3 := hts (.fieldLink RX3 93 "HurtSpeech$Congress" "speeches" "I") (List.mem_of_getElem? (i := 3) rfl)
  have wd4 := hts (.fieldLink RX3 25 "HurtSpeech" "tape" "LHurtSpeech$Tape;") (List.mem_of_getElem? (i := 4) rfl)
  have wd5 := hts (.fieldLink RX3 168 "HurtSpeech$Tape" "size" "I") (List.mem_of_getElem? (i := 5) rfl)
  have wd6 := hts (.constant RX3 48 (-1000000001)) (List.mem_of_getElem? (i := 6) rfl)
  obtain ⟨⟨hM0, hTb, hM1, hD8, hM2, hS8⟩, hID, hIS⟩ := id hI
  refine lv_iload_n hx hb dX3_count_0 rfl (lv_at hl 1 rfl) ?_
  rcases hz_sw0_3 w with c1 | c1 | c1 | c1 | c1
  · refine lv_tableIn (tgt := 32) hx hb dX3_count_1 (by rw [c1]; decide) (by rw [c1]; decide) (off := 31) (by rw [c1]; decide) (by decide) ?_
    refine lv_aload_n hx hb dX3_count_32 rfl (lv_at hl 0 rfl) ?_
    refine va_get hx hb hts hinX3 hown hK hP 0 rfl rfl 0 (by decide) wd1 (fun _ h => h) rfl dX3_count_33 ?_
    refine va_get hx hb hts hinX0 hown hK hP 1 rfl rfl 1 (by decide) wd2 (fun _ h => h) rfl dX3_count_36 ?_
    refine hz_ei hx hb hr hlocks rfl ?_ hS (by rw [show fd_count w = none from if_neg (by rw [c1]; decide)]; exact fr_n (cnt_0 c1)) dX3_count_39
    rw [show fd_count w = none from if_neg (by rw [c1]; decide)]
    exact hP
  · refine lv_tableIn (tgt := 40) hx hb dX3_count_1 (by rw [c1]; decide) (by rw [c1]; decide) (off := 39) (by rw [c1]; decide) (by decide) ?_
    refine lv_aload_n hx hb dX3_count_40 rfl (lv_at hl 0 rfl) ?_
    refine va_get hx hb hts hinX3 hown hK hP 0 rfl rfl 0 (by decide) wd1 (fun _ h => h) rfl dX3_count_41 ?_
    refine va_get hx hb hts hinX0 hown hK hP 1 rfl rfl 7 (by decide) wd3 (fun _ h => h) rfl dX3_count_44 ?_
    refine hz_ei hx hb hr hlocks rfl ?_ hS (by rw [show fd_count w = none from if_neg (by rw [c1]; decide)]; exact fr_n (cnt_1 c1)) dX3_count_47
    rw [show fd_count w = none from if_neg (by rw [c1]; decide)]
    exact hP
  · refine lv_tableIn (tgt := 48) hx hb dX3_count_1 (by rw [c1]; decide) (by rw [c1]; decide) (off := 47) (by rw [c1]; decide) (by decide) ?_
    refine lv_aload_n hx hb dX3_count_48 rfl (lv_at hl 0 rfl) ?_
    refine va_get hx hb hts hinX3 hown hK hP 0 rfl rfl 3 (by decide) wd4 (fun _ h => h) rfl dX3_count_49 ?_
    refine va_get hx hb hts hinX2 hown hK hP 11 rfl rfl 1 (by decide) wd5 (fun _ h => h) rfl dX3_count_52 ?_
    refine hz_ei hx hb hr hlocks rfl ?_ hS (by rw [show fd_count w = none from if_neg (by rw [c1]; decide)]; exact fr_n (cnt_2 c1)) dX3_count_55
    rw [show fd_count w = none from if_neg (by rw [c1]; decide)]
    exact hP
  · refine lv_tableIn (tgt := 56) hx hb dX3_count_1 (by rw [c1]; decide) (by rw [c1]; decide) (off := 55) (by rw [c1]; decide) (by decide) ?_
    refine lv_aload_n hx hb dX3_count_56 rfl (lv_at hl 0 rfl) ?_
    refine va_get hx hb hts hinX3 hown hK hP 0 rfl rfl 0 (by decide) wd1 (fun _ h => h) rfl dX3_count_57 ?_
    refine hz_cv (As := []) (rest := []) ⟨hx, hb, hml, hown, hts⟩ (c0_weptOfAll l D cI cJ (a0 := a0) (k_ := k_) (p_ := p_) (t_ := t_) (h_ := h_) (w_ := w_) (b_ := b_) (g_ := g_) (i_ := i_) (f_ := f_) (M := M) (hM1 := by first | assumption | rfl) (hD8 := by first | assumption | rfl)) (cwV 0 hts gX3_count_X0_weptOfAll rfl rfl rfl (by decide +kernel) ⟨Nat.le_of_ble_eq_true rfl, Nat.le_of_ble_eq_true rfl⟩) hK hP [1, 2, 3, 4, 5, 6, 7, 8, 9, 10] rfl [0, 1] rfl 1 rfl rfl rfl rfl hl.1 rfl (Nat.le_of_ble_eq_true rfl) dX3_count_60 ⟨Nat.zero_le _, Nat.zero_le _⟩ ?_
    refine hz_ei hx hb hr hlocks rfl ?_ hS (by rw [show fd_count w = none from if_neg (by rw [c1]; decide)]; exact fr_n (cnt_3 c1)) dX3_count_63
    rw [show fd_count w = none from if_neg (by rw [c1]; decide)]
    exact hP
  · refine lv_tableOut (tgt := 64) hx hb dX3_count_1 (by omega) (by decide) ?_
    refine lv_aload_n hx hb dX3_count_64 rfl (lv_at hl 0 rfl) ?_
    refine lv_ldc (v := -1000000001) hx hb hown wd6 dX3_count_65 ?_
    refine hz_ce (As := [.int (-1000000001)]) (rest := []) ⟨hx, hb, hml, hown, hts⟩ (c3_found l D cI cJ (x0 := x0) (a0 := a0) (kc0 := kc0) (tc0 := tc0) (tp0 := tp0) (sh0 := sh0) (fd0 := fd0) (kf := kf) (F := F) (f := -1000000001) (k := 0) (hk := by omega) (hfk := by decide)) (cwV 1 hts gX3_count_X3_found rfl rfl rfl (by decide +kernel) ⟨Nat.le_of_ble_eq_true rfl, Nat.le_of_ble_eq_true rfl⟩) hK hP hD hS [0, 12] rfl (by decide) (hz_ha [x0, fd0] rfl rfl) (w' := [(x0, .inr (3, [.ref a0, .ref kc0, .ref tc0, .ref tp0, .ref sh0, .ref fd0, .int (kf)])), (a0, .inr (0, [.int (M 0), .int (M 1), .ref k_, .ref p_, .ref t_, .ref h_, .ref w_, .int (M 2), .ref b_, .ref g_, .ref i_, .ref f_])), (k_, .inl (cI, 8, .inl (fun x_ => M (3 + 5 * x_)))), (p_, .inl (cI, 8, .inl (fun x_ => M (3 + 5 * x_ + 1)))), (t_, .inl (cI, 8, .inl (fun x_ => M (3 + 5 * x_ + 2)))), (h_, .inl (cI, 8, .inl (fun x_ => M (3 + 5 * x_ + 3)))), (w_, .inl (cI, 8, .inl (fun x_ => M (3 + 5 * x_ + 4)))), (b_, .inl (cI, 8, .inl (fun x_ => M (43 + 4 * x_)))), (g_, .inl (cI, 8, .inl (fun x_ => M (43 + 4 * x_ + 1)))), (i_, .inl (cI, 8, .inl (fun x_ => M (43 + 4 * x_ + 2)))), (f_, .inl (cI, 8, .inl (fun x_ => M (43 + 4 * x_ + 3)))), (tp0, .inr (2, [.ref tb0, .int (tp), .int (tk), .int (sa), .int (so), .int (nu)])), (fd0, .inl (cI, 7, .inl (sp_fd F 0)))]) (hz_pt_eq 13 [1, 2, 3, 4, 5, 6, 7, 8, 9, 10, 11] [(a0, .inr (0, [.int (M 0), .int (M 1), .ref k_, .ref p_, .ref t_, .ref h_, .ref w_, .int (M 2), .ref b_, .ref g_, .ref i_, .ref f_])), (k_, .inl (cI, 8, .inl (fun x_ => M (3 + 5 * x_)))), (p_, .inl (cI, 8, .inl (fun x_ => M (3 + 5 * x_ + 1)))), (t_, .inl (cI, 8, .inl (fun x_ => M (3 + 5 * x_ + 2)))), (h_, .inl (cI, 8, .inl (fun x_ => M (3 + 5 * x_ + 3)))), (w_, .inl (cI, 8, .inl (fun x_ => M (3 + 5 * x_ + 4)))), (b_, .inl (cI, 8, .inl (fun x_ => M (43 + 4 * x_)))), (g_, .inl (cI, 8, .inl (fun x_ => M (43 + 4 * x_ + 1)))), (i_, .inl (cI, 8, .inl (fun x_ => M (43 + 4 * x_ + 2)))), (f_, .inl (cI, 8, .inl (fun x_ => M (43 + 4 * x_ + 3)))), (tp0, .inr (2, [.ref tb0, .int (tp), .int (tk), .int (sa), .int (so), .int (nu)]))] rfl rfl rfl rfl rfl rfl rfl) [0, 1] rfl 0 rfl rfl rfl rfl hl.1 rfl (Nat.le_of_ble_eq_true rfl) dX3_count_67 ⟨Nat.zero_le _, Nat.zero_le _⟩ (fun H locs hP hD hS => ?_)
    refine W.eq (g2 := F0 m 70 ls [.int ((-1000000001))]) rfl ?_
    refine hz_ei hx hb hr hlocks rfl ?_ hS (by rw [show fd_count w = some 0 from if_pos c1.1]; rfl) dX3_count_70
    rw [show fd_count w = some 0 from if_pos c1.1]
    exact hP
set_option maxHeartbeats 4000000 in
set_option maxRecDepth 100000 in
theorem c4_status (l : Launch) (D : va_G) (cI cJ : ClassId) (h0 af : Nat) (fs : List Value) (F : Nat → Int32) (w : Int32) (hf4 : fs[4]? = some (.ref af)) : hz_ME l yX4_status wsX4_status { frames := 1, cells := 0, slots := 0, locals := 23 } [.ref h0, .int (w)] D zcl [(cI, .int), (cJ, .long)] [(h0, .inr (4, fs)), (af, .inl (cI, 7, .inl F))] [(h0, .inr (4, fs)), (af, .inl (cI, 7, .inl (sp_ff F (fd_status w))))] (some (.int (sp_fr (fd_status w) (sp_stat F w)))) := by
  refine hz_me (cc := cX4_status) (maxL := 4) (ret := (some .int)) (by decide) rfl (Nat.le_of_ble_eq_true rfl) ?_
  intro p e s m below meth c hx hb hr hts hown hlocks hml hP hK hD ls hl
  have hS : va_S (hz_a [(h0, .inr (4, fs)), (af, .inl (cI, 7, .inl F))]) s.heap s.heap [] := va_S.rf
  have hown : s.vm.findClass RX4 = some m.cls := hown
  have hl : lv_has ls 4 [(0, .ref h0), (1, .int (w))] := hl
  have hinX4 : ∀ w ∈ u_ws RX4 TX4 16, w ∈ wsX4_status := fun w h => List.mem_cons_of_mem _ (List.mem_append_right _ (h))
  have wd1 := hts (.constant RX4 35 (-1000000001)) (List.mem_of_getElem? (i := 1) rfl)
  have wd2 := hts (.fieldLink RX4 19 "HurtSpeechModel" "found" "[I") (List.mem_of_getElem? (i := 2) rfl)
  refine lv_iload_n hx hb dX4_status_0 rfl (lv_at hl 1 rfl) ?_
  refine lv_i2l (v := w.toInt64) hx hb dX4_status_1 rfl ?_
  refine lv_iconst (v := -1) hx hb dX4_status_2 (by decide) ?_
  refine lv_bipush (v := nI 6) hx hb dX4_status_3 (by decide) ?_
  refine hz_cs (As := [.long (w.toInt64), .int (-1), .int (nI 6)]) (rest := []) ⟨hx, hb, hml, hown, hts⟩ (c4_in32 l D cI cJ (x := w) (a := -1) (b := nI 6) ) (va_cwS 3 hts gX4_status_X4_in rfl rfl rfl (by decide +kernel) ⟨Nat.le_of_ble_eq_true rfl, Nat.le_of_ble_eq_true rfl⟩) hK hP [] rfl [0, 1] rfl rfl hl.1 rfl (Nat.le_of_ble_eq_true rfl) dX4_status_5 ⟨Nat.zero_le _, Nat.zero_le _⟩ ?_
  refine hz_ifb_ne (tgt := 18) hx hb dX4_status_8 (by decide) (fun c8 => ?_) (fun c8 => ?_)
  · refine lv_iconst (v := nI 0) hx hb dX4_status_18 (by decide) ?_
    refine lv_istore_n (lv' := [(2, .int (nI 0)), (0, .ref h0), (1, .int (w))]) hx hb dX4_status_19 rfl hl (by decide) rfl (fun ls hl => ?_)
    refine lv_iconst (v := nI 0) hx hb dX4_status_20 (by decide) ?_
    refine lv_istore_n (lv' := [(3, .int (nI 0)), (2, .int (nI 0)), (0, .ref h0), (1, .int (w))]) hx hb dX4_status_21 rfl hl (by decide) rfl (fun ls hl => ?_)
    have loop : ∀ (nn : Nat) (k : Nat) (ls : Array Slot) (H : Heap) (locs : List Loc), 7 - k < nn → (k ≤ 7) → lv_has ls 4 [(3, .int (nI k)), (2, .int (sp_st F w k)), (0, .ref h0), (1, .int (w))] → va_P D zcl [(h0, .inr (4, fs)), (af, .inl (cI, 7, .inl F))] H → va_D (hz_a [(h0, .inr (4, fs)), (af, .inl (cI, 7, .inl F))]) [(h0, .inr (4, fs)), (af, .inl (cI, 7, .inl F))] → va_S (hz_a [(h0, .inr (4, fs)), (af, .inl (cI, 7, .inl F))]) s.heap H locs → W p l e (headSpec wsX4_status { frames := 1, cells := 0, slots := 0, locals := 23 }).room s m ([.ref h0, .int (w)] : List Value).toArray below meth c H locs 0 0 (MQ below (hz_E D zcl [(h0, .inr (4, fs)), (af, .inl (cI, 7, .inl (sp_ff F (fd_status w))))] (some (.int (sp_fr (fd_status w) (sp_stat F w)))) (hz_a [(h0, .inr (4, fs)), (af, .inl (cI, 7, .inl F))])) ([.ref h0, .int (w)] : List Value).toArray s 0 0 (hz_a [(h0, .inr (4, fs)), (af, .inl (cI, 7, .inl F))])) (F0 m 22 ls []) := by
      intro nn
      induction nn with
      | zero => intro k ls H locs hnn hk hl hP hD hS; exact absurd hnn (Nat.not_lt_zero _)
      | succ nn ihloop =>
        intro k ls H locs hnn hk hl hP hD hS
        refine lv_iload_n hx hb dX4_status_22 rfl (lv_at hl 0 rfl) ?_
        refine lv_bipush (v := nI 7) hx hb dX4_status_23 (by decide) ?_
        refine hz_icmp_ge (tgt := 56) (by omega) (by omega) hx hb dX4_status_25 (by decide) (fun c25 => ?_) (fun c25 => ?_)
        · refine lv_iload_n hx hb dX4_status_56 rfl (lv_at hl 1 rfl) ?_
          refine hz_ei hx hb hr hlocks rfl ?_ hS (by rw [show fd_status w = none from if_pos c8]; exact fr_n (by rw [show k = 7 by omega]; exact st_eq c8)) dX4_status_57
          rw [show fd_status w = none from if_pos c8]
          exact hP
        · refine lv_iload_n hx hb dX4_status_28 rfl (lv_at hl 1 rfl) ?_
          refine lv_iload_n hx hb dX4_status_29 rfl (lv_at hl 3 rfl) ?_
          refine hz_dia (ls := ls) (if w < 0 ∨ w = nI k then F k else nI 0) 48 [.int (sp_st F w k)] (fun jn48 => ?_) ?_
          · refine lv_if_lt (tgt := 38) hx hb dX4_status_30 (by decide) (fun c30 => ?_) (fun c30 => ?_)
            · refine lv_aload_n hx hb dX4_status_38 rfl (lv_at hl 2 rfl) ?_
              refine va_get hx hb hts hinX4 hown hK hP 0 rfl rfl 4 (by decide) wd2 (fun _ h => h) hf4 dX4_status_39 ?_
              refine lv_iload_n hx hb dX4_status_42 rfl (lv_at hl 0 rfl) ?_
              refine hz_iald (j := k) hx hb hK hP 1 0 rfl rfl (by omega) (Nat.le_of_ble_eq_true rfl) dX4_status_43 ?_
              refine lv_goto (tgt := 48) hx hb dX4_status_44 (by decide) ?_
              exact hz_ct ((if_pos (Or.inl c30)).symm) jn48
            · refine lv_iload_n hx hb dX4_status_33 rfl (lv_at hl 3 rfl) ?_
              refine lv_iload_n hx hb dX4_status_34 rfl (lv_at hl 0 rfl) ?_
              refine lv_icmp_ne (tgt := 47) hx hb dX4_status_35 (by decide) (fun c35 => ?_) (fun c35 => ?_)
              · refine lv_iconst (v := nI 0) hx hb dX4_status_47 (by decide) ?_
                exact hz_ct ((if_neg (fun h => h.elim c30 c35)).symm) jn48
              · refine lv_aload_n hx hb dX4_status_38 rfl (lv_at hl 2 rfl) ?_
                refine va_get hx hb hts hinX4 hown hK hP 0 rfl rfl 4 (by decide) wd2 (fun _ h => h) hf4 dX4_status_39 ?_
                refine lv_iload_n hx hb dX4_status_42 rfl (lv_at hl 0 rfl) ?_
                refine hz_iald (j := k) hx hb hK hP 1 0 rfl rfl (by omega) (Nat.le_of_ble_eq_true rfl) dX4_status_43 ?_
                refine lv_goto (tgt := 48) hx hb dX4_status_44 (by decide) ?_
                exact hz_ct ((if_pos (Or.inr c35)).symm) jn48
          · refine lv_iadd hx hb dX4_status_48 ?_
            refine lv_istore_n (lv' := [(2, .int ((sp_st F w k) + (if w < 0 ∨ w = nI k then F k else nI 0))), (3, .int (nI k)), (0, .ref h0), (1, .int (w))]) hx hb dX4_status_49 rfl hl (by decide) rfl (fun ls hl => ?_)
            refine lv_iinc (v := nI (k + 1)) (lv' := [(3, .int (nI (k + 1))), (2, .int ((sp_st F w k) + (if w < 0 ∨ w = nI k then F k else nI 0))), (0, .ref h0), (1, .int (w))]) hx hb dX4_status_50 hl (k := 1) rfl (nI_1 _) (by decide) rfl (fun ls hl => ?_)
            refine lv_goto (tgt := 22) hx hb dX4_status_53 (by decide) ?_
            exact ihloop (k + 1) ls _ _ (by omega) (by omega) (lv_sub hl [0, 1, 2, 3] rfl) hP hD hS
    exact loop _ 0 ls _ _ (Nat.lt_succ_self _) (by omega) (lv_sub hl [0, 1, 2, 3] rfl) hP hD hS
  · refine lv_aload_n hx hb dX4_status_11 rfl (lv_at hl 0 rfl) ?_
    refine lv_ldc (v := -1000000001) hx hb hown wd1 dX4_status_12 ?_
    refine hz_ce (As := [.int (-1000000001)]) (rest := []) ⟨hx, hb, hml, hown, hts⟩ (c4_finds l D cI cJ (h0 := h0) (af := af) (fs := fs) (F := F) (f := -1000000001) (k := 0) (hf := by first | assumption | rfl) (hk := by omega) (hfk := by decide)) (cwV 1 hts gX4_status_X4_finds rfl rfl rfl (by decide +kernel) ⟨Nat.le_of_ble_eq_true rfl, Nat.le_of_ble_eq_true rfl⟩) hK hP hD hS [0, 1] rfl (by decide) (hz_ha [h0, af] rfl rfl) (w' := [(h0, .inr (4, fs)), (af, .inl (cI, 7, .inl (sp_fd F 0)))]) (hz_pt_eq 2 [] [] rfl rfl rfl rfl rfl rfl rfl) [0, 1] rfl 0 rfl rfl rfl rfl hl.1 rfl (Nat.le_of_ble_eq_true rfl) dX4_status_14 ⟨Nat.zero_le _, Nat.zero_le _⟩ (fun H locs hP hD hS => ?_)
    refine W.eq (g2 := F0 m 17 ls [.int ((-1000000001))]) rfl ?_
    refine hz_ei hx hb hr hlocks rfl ?_ hS (by rw [show fd_status w = some 0 from if_neg c8]; rfl) dX4_status_17
    rw [show fd_status w = some 0 from if_neg c8]
    exact hP
set_option maxHeartbeats 4000000 in
set_option maxRecDepth 100000 in
theorem c3_status (l : Launch) (D : va_G) (cI cJ : ClassId) (x0 a0 kc0 tc0 tp0 sh0 fd0 : Nat) (kf : Int32) (F : Nat → Int32) (w : Int32)  : hz_ME l yX3_status wsX3_status { frames := 2, cells := 0, slots := 0, locals := 44 } [.ref x0, .int (w)] D zcl [(cI, .int), (cJ, .long)] [(x0, .inr (3, [.ref a0, .ref kc0, .ref tc0, .ref tp0, .ref sh0, .ref fd0, .int (kf)])), (fd0, .inl (cI, 7, .inl F))] [(x0, .inr (3, [.ref a0, .ref kc0, .ref tc0, .ref tp0, .ref sh0, .ref fd0, .int (kf)])), (fd0, .inl (cI, 7, .inl (sp_ff F (fd_status w))))] (some (.int (sp_fr (fd_status w) (sp_stat F w)))) := by
  refine hz_me (cc := cX3_status) (maxL := 4) (ret := (some .int)) (by decide) rfl (Nat.le_of_ble_eq_true rfl) ?_
  intro p e s m below meth c hx hb hr hts hown hlocks hml hP hK hD ls hl
  have hS : va_S (hz_a [(x0, .inr (3, [.ref a0, .ref kc0, .ref tc0, .ref tp0, .ref sh0, .ref fd0, .int (kf)])), (fd0, .inl (cI, 7, .inl F))]) s.heap s.heap [] := va_S.rf
  have hown : s.vm.findClass RX3 = some m.cls := hown
  have hl : lv_has ls 4 [(0, .ref x0), (1, .int (w))] := hl
  have hinX3 : ∀ w ∈ u_ws RX3 TX3 7, w ∈ wsX3_status := fun w h => List.mem_cons_of_mem _ (List.mem_append_right _ (h))
  have wd1 := hts (.constant RX3 48 (-1000000001)) (List.mem_of_getElem? (i := 1) rfl)
  have wd2 := hts (.fieldLink RX3 36 "HurtSpeech" "findings" "[I") (List.mem_of_getElem? (i := 2) rfl)
  refine lv_iload_n hx hb dX3_status_0 rfl (lv_at hl 1 rfl) ?_
  refine lv_iconst (v := -1) hx hb dX3_status_1 (by decide) ?_
  refine lv_bipush (v := nI 6) hx hb dX3_status_2 (by decide) ?_
  refine hz_cs (As := [.int (w), .int (-1), .int (nI 6)]) (rest := []) ⟨hx, hb, hml, hown, hts⟩ (c3_isWithin l D cI cJ (x := w) (a := -1) (b := nI 6) ) (va_cwS 3 hts gX3_status_X3_isWithin rfl rfl rfl (by decide +kernel) ⟨Nat.le_of_ble_eq_true rfl, Nat.le_of_ble_eq_true rfl⟩) hK hP [] rfl [0, 1] rfl rfl hl.1 rfl (Nat.le_of_ble_eq_true rfl) dX3_status_4 ⟨Nat.zero_le _, Nat.zero_le _⟩ ?_
  refine hz_ifb_ne (tgt := 17) hx hb dX3_status_7 (by decide) (fun c7 => ?_) (fun c7 => ?_)
  · refine lv_iload_n hx hb dX3_status_17 rfl (lv_at hl 1 rfl) ?_
    refine lv_if_lt (tgt := 28) hx hb dX3_status_18 (by decide) (fun c18 => ?_) (fun c18 => ?_)
    · refine lv_iconst (v := nI 0) hx hb dX3_status_28 (by decide) ?_
      refine lv_istore_n (lv' := [(2, .int (nI 0)), (0, .ref x0), (1, .int (w))]) hx hb dX3_status_29 rfl hl (by decide) rfl (fun ls hl => ?_)
      refine lv_iconst (v := nI 0) hx hb dX3_status_30 (by decide) ?_
      refine lv_istore_n (lv' := [(3, .int (nI 0)), (2, .int (nI 0)), (0, .ref x0), (1, .int (w))]) hx hb dX3_status_31 rfl hl (by decide) rfl (fun ls hl => ?_)
      have loop : ∀ (nn : Nat) (k : Nat) (ls : Array Slot) (H : Heap) (locs : List Loc), 7 - k < nn → (k ≤ 7) → lv_has ls 4 [(3, .int (nI k)), (2, .int (sp_sum F k)), (0, .ref x0), (1, .int (w))] → va_P D zcl [(x0, .inr (3, [.ref a0, .ref kc0, .ref tc0, .ref tp0, .ref sh0, .ref fd0, .int (kf)])), (fd0, .inl (cI, 7, .inl F))] H → va_D (hz_a [(x0, .inr (3, [.ref a0, .ref kc0, .ref tc0, .ref tp0, .ref sh0, .ref fd0, .int (kf)])), (fd0, .inl (cI, 7, .inl F))]) [(x0, .inr (3, [.ref a0, .ref kc0, .ref tc0, .ref tp0, .ref sh0, .ref fd0, .int (kf)])), (fd0, .inl (cI, 7, .inl F))] → va_S (hz_a [(x0, .inr (3, [.ref a0, .ref kc0, .ref tc0, .ref tp0, .ref sh0, .ref fd0, .int (kf)])), (fd0, .inl (cI, 7, .inl F))]) s.heap H locs → W p l e (headSpec wsX3_status { frames := 2, cells := 0, slots := 0, locals := 44 }).room s m ([.ref x0, .int (w)] : List Value).toArray below meth c H locs 0 0 (MQ below (hz_E D zcl [(x0, .inr (3, [.ref a0, .ref kc0, .ref tc0, .ref tp0, .ref sh0, .ref fd0, .int (kf)])), (fd0, .inl (cI, 7, .inl (sp_ff F (fd_status w))))] (some (.int (sp_fr (fd_status w) (sp_stat F w)))) (hz_a [(x0, .inr (3, [.ref a0, .ref kc0, .ref tc0, .ref tp0, .ref sh0, .ref fd0, .int (kf)])), (fd0, .inl (cI, 7, .inl F))])) ([.ref x0, .int (w)] : List Value).toArray s 0 0 (hz_a [(x0, .inr (3, [.ref a0, .ref kc0, .ref tc0, .ref tp0, .ref sh0, .ref fd0, .int (kf)])), (fd0, .inl (cI, 7, .inl F))])) (F0 m 32 ls []) := by
        intro nn
        induction nn with
        | zero => intro k ls H locs hnn hk hl hP hD hS; exact absurd hnn (Nat.not_lt_zero _)
        | succ nn ihloop =>
          intro k ls H locs hnn hk hl hP hD hS
          refine lv_iload_n hx hb dX3_status_32 rfl (lv_at hl 0 rfl) ?_
          refine lv_bipush (v := nI 7) hx hb dX3_status_33 (by decide) ?_
          refine hz_icmp_ge (tgt := 53) (by omega) (by omega) hx hb dX3_status_35 (by decide) (fun c35 => ?_) (fun c35 => ?_)
          · refine lv_iload_n hx hb dX3_status_53 rfl (lv_at hl 1 rfl) ?_
            refine hz_ei hx hb hr hlocks rfl ?_ hS (by rw [show fd_status w = none from if_pos c7]; exact fr_n (by rw [show k = 7 by omega, sp_stat, if_pos c18])) dX3_status_54
            rw [show fd_status w = none from if_pos c7]
            exact hP
          · refine lv_iload_n hx hb dX3_status_38 rfl (lv_at hl 1 rfl) ?_
            refine lv_aload_n hx hb dX3_status_39 rfl (lv_at hl 2 rfl) ?_
            refine va_get hx hb hts hinX3 hown hK hP 0 rfl rfl 5 (by decide) wd2 (fun _ h => h) rfl dX3_status_40 ?_
            refine lv_iload_n hx hb dX3_status_43 rfl (lv_at hl 0 rfl) ?_
            refine hz_iald (j := k) hx hb hK hP 1 0 rfl rfl (by omega) (Nat.le_of_ble_eq_true rfl) dX3_status_44 ?_
            refine lv_iadd hx hb dX3_status_45 ?_
            refine lv_istore_n (lv' := [(2, .int ((sp_sum F k) + (F k))), (3, .int (nI k)), (0, .ref x0), (1, .int (w))]) hx hb dX3_status_46 rfl hl (by decide) rfl (fun ls hl => ?_)
            refine lv_iinc (v := nI (k + 1)) (lv' := [(3, .int (nI (k + 1))), (2, .int ((sp_sum F k) + (F k))), (0, .ref x0), (1, .int (w))]) hx hb dX3_status_47 hl (k := 1) rfl (nI_1 _) (by decide) rfl (fun ls hl => ?_)
            refine lv_goto (tgt := 32) hx hb dX3_status_50 (by decide) ?_
            exact ihloop (k + 1) ls _ _ (by omega) (by omega) (lv_sub hl [0, 1, 2, 3] rfl) hP hD hS
      exact loop _ 0 ls _ _ (Nat.lt_succ_self _) (by omega) (lv_sub hl [0, 1, 2, 3] rfl) hP hD hS
    · obtain ⟨j, hj, rfl⟩ := st_in c7 c18
      refine lv_aload_n hx hb dX3_status_21 rfl (lv_at hl 0 rfl) ?_
      refine va_get hx hb hts hinX3 hown hK hP 0 rfl rfl 5 (by decide) wd2 (fun _ h => h) rfl dX3_status_22 ?_
      refine lv_iload_n hx hb dX3_status_25 rfl (lv_at hl 1 rfl) ?_
      refine hz_iald (j := j) hx hb hK hP 1 0 rfl rfl (by omega) (Nat.le_of_ble_eq_true rfl) dX3_status_26 ?_
      refine hz_ei hx hb hr hlocks rfl ?_ hS (by rw [show fd_status (nI j) = none from if_pos c7]; exact fr_n (by rw [sp_stat, if_neg c18, cl, nI_clamp (by omega)])) dX3_status_27
      rw [show fd_status (nI j) = none from if_pos c7]
      exact hP
  · refine lv_aload_n hx hb dX3_status_10 rfl (lv_at hl 0 rfl) ?_
    refine lv_ldc (v := -1000000001) hx hb hown wd1 dX3_status_11 ?_
    refine hz_ce (As := [.int (-1000000001)]) (rest := []) ⟨hx, hb, hml, hown, hts⟩ (c3_found l D cI cJ (x0 := x0) (a0 := a0) (kc0 := kc0) (tc0 := tc0) (tp0 := tp0) (sh0 := sh0) (fd0 := fd0) (kf := kf) (F := F) (f := -1000000001) (k := 0) (hk := by omega) (hfk := by decide)) (cwV 1 hts gX3_status_X3_found rfl rfl rfl (by decide +kernel) ⟨Nat.le_of_ble_eq_true rfl, Nat.le_of_ble_eq_true rfl⟩) hK hP hD hS [0, 1] rfl (by decide) (hz_ha [x0, fd0] rfl rfl) (w' := [(x0, .inr (3, [.ref a0, .ref kc0, .ref tc0, .ref tp0, .ref sh0, .ref fd0, .int (kf)])), (fd0, .inl (cI, 7, .inl (sp_fd F 0)))]) (hz_pt_eq 2 [] [] rfl rfl rfl rfl rfl rfl rfl) [0, 1] rfl 0 rfl rfl rfl rfl hl.1 rfl (Nat.le_of_ble_eq_true rfl) dX3_status_13 ⟨Nat.zero_le _, Nat.zero_le _⟩ (fun H locs hP hD hS => ?_)
    refine W.eq (g2 := F0 m 16 ls [.int ((-1000000001))]) rfl ?_
    refine hz_ei hx hb hr hlocks rfl ?_ hS (by rw [show fd_status w = some 0 from if_neg c7]; rfl) dX3_status_16
    rw [show fd_status w = some 0 from if_neg c7]
    exact hP
