set_option maxHeartbeats 4000000 in
set_option maxRecDepth 100000 in
theorem c2_isAmong (l : Launch) (D : va_G) (cI cJ : ClassId) (tp0 tb0 : Nat) (tk sa so nu : Int32) (T : Nat → Int32) (n : Nat) (p_ lo hi_ : Nat) (hn : n ≤ 120) (hp : p_ < 2 ^ 31) : hz_MP l yX2_isAmong wsX2_isAmong { frames := 0, cells := 0, slots := 0, locals := 0 } [.ref tp0, .int (nI p_), .int (nI lo), .int (nI hi_)] D zcl [(cI, .int), (cJ, .long)] [(tp0, .inr (2, [.ref tb0, .int (nI n), .int (tk), .int (sa), .int (so), .int (nu)])), (tb0, .inl (cI, 120, .inl T))] (.int (hz_b (p_ < n ∧ rg (T p_) lo hi_))) := by
  refine hz_mp (cc := cX2_isAmong) (maxL := 4) (ret := (some .boolean)) (by decide) rfl (Nat.le_of_ble_eq_true rfl) ?_
  intro p e s m below meth c hx hb hr hts hown hlocks hml hP hK ls hl
  have hown : s.vm.findClass RX2 = some m.cls := hown
  have hl : lv_has ls 4 [(0, .ref tp0), (1, .int (nI p_)), (2, .int (nI lo)), (3, .int (nI hi_))] := hl
  have hinX2 : ∀ w ∈ u_ws RX2 TX2 6, w ∈ wsX2_isAmong := fun w h => List.mem_cons_of_mem _ (List.mem_append_right _ (h))
  have wd1 := hts (.fieldLink RX2 15 "HurtSpeech$Tape" "size" "I") (List.mem_of_getElem? (i := 1) rfl)
  have wd2 := hts (.fieldLink RX2 11 "HurtSpeech$Tape" "bytes" "[I") (List.mem_of_getElem? (i := 2) rfl)
  refine lv_iload_n hx hb dX2_isAmong_0 rfl (lv_at hl 1 rfl) ?_
  refine lv_aload_n hx hb dX2_isAmong_1 rfl (lv_at hl 0 rfl) ?_
  refine va_get hx hb hts hinX2 hown hK hP 0 rfl rfl 1 (by decide) wd1 (fun _ h => h) rfl dX2_isAmong_2 ?_
  refine hz_icmp_ge (tgt := 32) (by omega) (by omega) hx hb dX2_isAmong_5 (by decide) (fun c5 => ?_) (fun c5 => ?_)
  · refine lv_iconst (v := nI 0) hx hb dX2_isAmong_32 (by decide) ?_
    exact hz_ri hx hb hr hlocks rfl ((hz_bf (fun h => absurd h.1 (by omega))).symm) dX2_isAmong_33
  · refine lv_aload_n hx hb dX2_isAmong_8 rfl (lv_at hl 0 rfl) ?_
    refine va_get hx hb hts hinX2 hown hK hP 0 rfl rfl 0 (by decide) wd2 (fun _ h => h) rfl dX2_isAmong_9 ?_
    refine lv_iload_n hx hb dX2_isAmong_12 rfl (lv_at hl 1 rfl) ?_
    refine hz_iald (j := p_) hx hb hK hP 1 0 rfl rfl (by omega) (Nat.le_of_ble_eq_true rfl) dX2_isAmong_13 ?_
    refine lv_iload_n hx hb dX2_isAmong_14 rfl (lv_at hl 2 rfl) ?_
    refine lv_icmp_lt (tgt := 32) hx hb dX2_isAmong_15 (by decide) (fun c15 => ?_) (fun c15 => ?_)
    · refine lv_iconst (v := nI 0) hx hb dX2_isAmong_32 (by decide) ?_
      exact hz_ri hx hb hr hlocks rfl ((hz_bf (fun h => absurd c15 (Int32.not_lt.mpr h.2.1))).symm) dX2_isAmong_33
    · refine lv_aload_n hx hb dX2_isAmong_18 rfl (lv_at hl 0 rfl) ?_
      refine va_get hx hb hts hinX2 hown hK hP 0 rfl rfl 0 (by decide) wd2 (fun _ h => h) rfl dX2_isAmong_19 ?_
      refine lv_iload_n hx hb dX2_isAmong_22 rfl (lv_at hl 1 rfl) ?_
      refine hz_iald (j := p_) hx hb hK hP 1 0 rfl rfl (by omega) (Nat.le_of_ble_eq_true rfl) dX2_isAmong_23 ?_
      refine lv_iload_n hx hb dX2_isAmong_24 rfl (lv_at hl 3 rfl) ?_
      refine lv_icmp_gt (tgt := 32) hx hb dX2_isAmong_25 (by decide) (fun c25 => ?_) (fun c25 => ?_)
      · refine lv_iconst (v := nI 0) hx hb dX2_isAmong_32 (by decide) ?_
        exact hz_ri hx hb hr hlocks rfl ((hz_bf (fun h => absurd c25 (Int32.not_lt.mpr h.2.2))).symm) dX2_isAmong_33
      · refine lv_iconst (v := nI 1) hx hb dX2_isAmong_28 (by decide) ?_
        refine lv_goto (tgt := 33) hx hb dX2_isAmong_29 (by decide) ?_
        exact hz_ri hx hb hr hlocks rfl ((hz_bt ⟨c5, Int32.not_lt.mp c15, Int32.not_lt.mp c25⟩).symm) dX2_isAmong_33
set_option maxHeartbeats 4000000 in
set_option maxRecDepth 100000 in
theorem c2_skipAll (l : Launch) (D : va_G) (cI cJ : ClassId) (tp0 tb0 : Nat) (tk sa nu : Int32) (T : Nat → Int32) (n : Nat) (p_ lo hi_ : Nat) (hn : n ≤ 120) (hp : p_ ≤ n) : hz_ME l yX2_skipAll wsX2_skipAll { frames := 1, cells := 0, slots := 0, locals := 23 } [.ref tp0, .int (nI lo), .int (nI hi_)] D zcl [(cI, .int), (cJ, .long)] [(tp0, .inr (2, [.ref tb0, .int (nI n), .int (tk), .int (sa), .int (nI p_), .int (nu)])), (tb0, .inl (cI, 120, .inl T))] [(tp0, .inr (2, [.ref tb0, .int (nI n), .int (tk), .int (sa), .int (nI (pz_r lo hi_ T n p_)), .int (nu)])), (tb0, .inl (cI, 120, .inl T))] none := by
  refine hz_me (cc := cX2_skipAll) (maxL := 3) (ret := none) (by decide) rfl (Nat.le_of_ble_eq_true rfl) ?_
  intro p e s m below meth c hx hb hr hts hown hlocks hml hP hK hD ls hl
  have hS : va_S (hz_a [(tp0, .inr (2, [.ref tb0, .int (nI n), .int (tk), .int (sa), .int (nI p_), .int (nu)])), (tb0, .inl (cI, 120, .inl T))]) s.heap s.heap [] := va_S.rf
  have hown : s.vm.findClass RX2 = some m.cls := hown
  have hl : lv_has ls 3 [(0, .ref tp0), (1, .int (nI lo)), (2, .int (nI hi_))] := hl
  have hinX2 : ∀ w ∈ u_ws RX2 TX2 6, w ∈ wsX2_skipAll := fun w h => List.mem_cons_of_mem _ (List.mem_append_right _ (h))
  have wd1 := hts (.fieldLink RX2 19 "HurtSpeech$Tape" "stop" "I") (List.mem_of_getElem? (i := 1) rfl)
  have wd2 := hts (.fieldLink RX2 15 "HurtSpeech$Tape" "size" "I") (List.mem_of_getElem? (i := 2) rfl)
  have loop : ∀ (nn : Nat) (e_ : Nat) (ls : Array Slot) (H : Heap) (locs : List Loc), n - e_ < nn → (p_ ≤ e_) → (e_ ≤ n) → (pz_r lo hi_ T n e_ = pz_r lo hi_ T n p_) → lv_has ls 3 [(0, .ref tp0), (1, .int (nI lo)), (2, .int (nI hi_))] → va_P D zcl [(tp0, .inr (2, [.ref tb0, .int (nI n), .int (tk), .int (sa), .int (nI e_), .int (nu)])), (tb0, .inl (cI, 120, .inl T))] H → va_D (hz_a [(tp0, .inr (2, [.ref tb0, .int (nI n), .int (tk), .int (sa), .int (nI p_), .int (nu)])), (tb0, .inl (cI, 120, .inl T))]) [(tp0, .inr (2, [.ref tb0, .int (nI n), .int (tk), .int (sa), .int (nI e_), .int (nu)])), (tb0, .inl (cI, 120, .inl T))] → va_S (hz_a [(tp0, .inr (2, [.ref tb0, .int (nI n), .int (tk), .int (sa), .int (nI p_), .int (nu)])), (tb0, .inl (cI, 120, .inl T))]) s.heap H locs → W p l e (headSpec wsX2_skipAll { frames := 1, cells := 0, slots := 0, locals := 23 }).room s m ([.ref tp0, .int (nI lo), .int (nI hi_)] : List Value).toArray below meth c H locs 0 0 (MQ below (hz_E D zcl [(tp0, .inr (2, [.ref tb0, .int (nI n), .int (tk), .int (sa), .int (nI (pz_r lo hi_ T n p_)), .int (nu)])), (tb0, .inl (cI, 120, .inl T))] none (hz_a [(tp0, .inr (2, [.ref tb0, .int (nI n), .int (tk), .int (sa), .int (nI p_), .int (nu)])), (tb0, .inl (cI, 120, .inl T))])) ([.ref tp0, .int (nI lo), .int (nI hi_)] : List Value).toArray s 0 0 (hz_a [(tp0, .inr (2, [.ref tb0, .int (nI n), .int (tk), .int (sa), .int (nI p_), .int (nu)])), (tb0, .inl (cI, 120, .inl T))])) (F0 m 0 ls []) := by
    intro nn
    induction nn with
    | zero => intro e_ ls H locs hnn he1 he2 he3 hl hP hD hS; exact absurd hnn (Nat.not_lt_zero _)
    | succ nn ihloop =>
      intro e_ ls H locs hnn he1 he2 he3 hl hP hD hS
      refine lv_aload_n hx hb dX2_skipAll_0 rfl (lv_at hl 0 rfl) ?_
      refine va_get hx hb hts hinX2 hown hK hP 0 rfl rfl 4 (by decide) wd1 (fun _ h => h) rfl dX2_skipAll_1 ?_
      refine lv_aload_n hx hb dX2_skipAll_4 rfl (lv_at hl 0 rfl) ?_
      refine va_get hx hb hts hinX2 hown hK hP 0 rfl rfl 1 (by decide) wd2 (fun _ h => h) rfl dX2_skipAll_5 ?_
      refine hz_icmp_ge (tgt := 37) (by omega) (by omega) hx hb dX2_skipAll_8 (by decide) (fun c8 => ?_) (fun c8 => ?_)
      · refine hz_ev hx hb hr hlocks ?_ hS dX2_skipAll_37
        rw [← he3, pz_r_n (fun h => absurd h.1 (by omega))]
        exact hP
      · refine lv_aload_n hx hb dX2_skipAll_11 rfl (lv_at hl 0 rfl) ?_
        refine lv_aload_n hx hb dX2_skipAll_12 rfl (lv_at hl 0 rfl) ?_
        refine va_get hx hb hts hinX2 hown hK hP 0 rfl rfl 4 (by decide) wd1 (fun _ h => h) rfl dX2_skipAll_13 ?_
        refine lv_iload_n hx hb dX2_skipAll_16 rfl (lv_at hl 1 rfl) ?_
        refine lv_iload_n hx hb dX2_skipAll_17 rfl (lv_at hl 2 rfl) ?_
        refine hz_cv (As := [.int (nI e_), .int (nI lo), .int (nI hi_)]) (rest := []) ⟨hx, hb, hml, hown, hts⟩ (c2_isAmong l D cI cJ (tp0 := tp0) (tb0 := tb0) (tk := tk) (sa := sa) (so := nI e_) (nu := nu) (T := T) (n := n) (p_ := e_) (lo := lo) (hi_ := hi_) (hn := by omega) (hp := by omega)) (cwV 3 hts gX2_skipAll_X2_isAmong rfl rfl rfl (by decide +kernel) ⟨Nat.le_of_ble_eq_true rfl, Nat.le_of_ble_eq_true rfl⟩) hK hP [0, 1] rfl [0, 1] rfl 0 rfl rfl rfl rfl hl.1 rfl (Nat.le_of_ble_eq_true rfl) dX2_skipAll_18 ⟨Nat.zero_le _, Nat.zero_le _⟩ ?_
        refine hz_ifb_eq (tgt := 37) hx hb dX2_skipAll_21 (by decide) (fun c21 => ?_) (fun c21 => ?_)
        · refine hz_ev hx hb hr hlocks ?_ hS dX2_skipAll_37
          rw [← he3, pz_r_n c21]
          exact hP
        · refine lv_aload_n hx hb dX2_skipAll_24 rfl (lv_at hl 0 rfl) ?_
          refine lv_dup hx hb dX2_skipAll_25 rfl ?_
          refine va_get hx hb hts hinX2 hown hK hP 0 rfl rfl 4 (by decide) wd1 (fun _ h => h) rfl dX2_skipAll_26 ?_
          refine lv_iconst (v := nI 1) hx hb dX2_skipAll_29 (by decide) ?_
          refine hz_iadd hx hb dX2_skipAll_30 ?_
          refine va_put hx hb hts hinX2 tyX2 tyX2_ok nmX2 hown hK hP hD hS 0 rfl rfl 4 (by decide) wd1 (fun _ h => h) rfl (tyX2_ok 4 (by decide)) rfl rfl (Nat.le_of_ble_eq_true rfl) dX2_skipAll_31 (fun H locs hP hD hS => ?_)
          have hP : va_P D zcl [(tp0, .inr (2, [.ref tb0, .int (nI n), .int (tk), .int (sa), .int (nI (e_ + 1)), .int (nu)])), (tb0, .inl (cI, 120, .inl T))] H := hP
          have hD : va_D (hz_a [(tp0, .inr (2, [.ref tb0, .int (nI n), .int (tk), .int (sa), .int (nI p_), .int (nu)])), (tb0, .inl (cI, 120, .inl T))]) [(tp0, .inr (2, [.ref tb0, .int (nI n), .int (tk), .int (sa), .int (nI (e_ + 1)), .int (nu)])), (tb0, .inl (cI, 120, .inl T))] := hD
          refine lv_goto (tgt := 0) hx hb dX2_skipAll_34 (by decide) ?_
          exact ihloop (e_ + 1) ls _ _ (by omega) (by omega) (by omega) ((pz_r_y c21.1 c21.2).symm.trans he3) (lv_sub hl [0, 1, 2] rfl) hP hD hS
  exact loop _ p_ ls _ _ (Nat.lt_succ_self _) (by omega) (by omega) rfl (lv_sub hl [0, 1, 2] rfl) hP hD hS
set_option maxHeartbeats 4000000 in
set_option maxRecDepth 100000 in
theorem c2_value (l : Launch) (D : va_G) (cI cJ : ClassId) (tp0 tb0 : Nat) (tk nu : Int32) (T : Nat → Int32) (n : Nat) (b e_ : Nat) (hbe : b ≤ e_) (he : e_ ≤ 120) (hdg : ∀ j, b ≤ j → j < e_ → rg (T j) 48 57) : hz_MP l yX2_valueOfDigits wsX2_valueOfDigits { frames := 1, cells := 0, slots := 0, locals := 21 } [.ref tp0] D zcl [(cI, .int), (cJ, .long)] [(tp0, .inr (2, [.ref tb0, .int (nI n), .int (tk), .int (nI b), .int (nI e_), .int (nu)])), (tb0, .inl (cI, 120, .inl T))] (.int (nI (pz_m (pz_d T b (e_ - b))))) := by
  refine hz_mp (cc := cX2_valueOfDigits) (maxL := 3) (ret := (some .int)) (by decide) rfl (Nat.le_of_ble_eq_true rfl) ?_
  intro p e s m below meth c hx hb hr hts hown hlocks hml hP hK ls hl
  have hown : s.vm.findClass RX2 = some m.cls := hown
  have hl : lv_has ls 3 [(0, .ref tp0)] := hl
  have hinX2 : ∀ w ∈ u_ws RX2 TX2 6, w ∈ wsX2_valueOfDigits := fun w h => List.mem_cons_of_mem _ (List.mem_append_right _ (h))
  have wd1 := hts (.fieldLink RX2 32 "HurtSpeech$Tape" "start" "I") (List.mem_of_getElem? (i := 1) rfl)
  have wd2 := hts (.fieldLink RX2 19 "HurtSpeech$Tape" "stop" "I") (List.mem_of_getElem? (i := 2) rfl)
  have wd3 := hts (.fieldLink RX2 11 "HurtSpeech$Tape" "bytes" "[I") (List.mem_of_getElem? (i := 3) rfl)
  have wd4 := hts (.methodLink RX2 126 Lib.Math.min.name) (List.mem_of_getElem? (i := 4) rfl)
  have wd5 := hts (.static Lib.Math.min.name) (List.mem_of_getElem? (i := 5) rfl)
  have wd6 := hts (.initialized "java/lang/Math") (List.mem_of_getElem? (i := 6) rfl)
  have wd7 := hts (.code Lib.Math.min.name Lib.Math.min.code 2 (some .int)) (List.mem_of_getElem? (i := 7) rfl)
  refine lv_iconst (v := nI 0) hx hb dX2_valueOfDigits_0 (by decide) ?_
  refine lv_istore_n (lv' := [(1, .int (nI 0)), (0, .ref tp0)]) hx hb dX2_valueOfDigits_1 rfl hl (by decide) rfl (fun ls hl => ?_)
  refine lv_aload_n hx hb dX2_valueOfDigits_2 rfl (lv_at hl 1 rfl) ?_
  refine va_get hx hb hts hinX2 hown hK hP 0 rfl rfl 3 (by decide) wd1 (fun _ h => h) rfl dX2_valueOfDigits_3 ?_
  refine lv_istore_n (lv' := [(2, .int (nI b)), (1, .int (nI 0)), (0, .ref tp0)]) hx hb dX2_valueOfDigits_6 rfl hl (by decide) rfl (fun ls hl => ?_)
  have loop : ∀ (nn : Nat) (i_ : Nat) (ls : Array Slot), e_ - i_ < nn → (b ≤ i_) → (i_ ≤ e_) → lv_has ls 3 [(2, .int (nI i_)), (1, .int (nI (pz_m (pz_d T b (i_ - b))))), (0, .ref tp0)] → W p l e (headSpec wsX2_valueOfDigits { frames := 1, cells := 0, slots := 0, locals := 21 }).room s m ([.ref tp0] : List Value).toArray below meth c s.heap [] 0 0 (MQ below (hz_V (.int (nI (pz_m (pz_d T b (e_ - b)))))) ([.ref tp0] : List Value).toArray s 0 0 (fun _ => False)) (F0 m 7 ls []) := by
    intro nn
    induction nn with
    | zero => intro i_ ls hnn hi1 hi2 hl; exact absurd hnn (Nat.not_lt_zero _)
    | succ nn ihloop =>
      intro i_ ls hnn hi1 hi2 hl
      refine lv_iload_n hx hb dX2_valueOfDigits_7 rfl (lv_at hl 0 rfl) ?_
      refine lv_aload_n hx hb dX2_valueOfDigits_8 rfl (lv_at hl 2 rfl) ?_
      refine va_get hx hb hts hinX2 hown hK hP 0 rfl rfl 4 (by decide) wd2 (fun _ h => h) rfl dX2_valueOfDigits_9 ?_
      refine hz_icmp_ge (tgt := 42) (by omega) (by omega) hx hb dX2_valueOfDigits_12 (by decide) (fun c12 => ?_) (fun c12 => ?_)
      · refine lv_iload_n hx hb dX2_valueOfDigits_42 rfl (lv_at hl 1 rfl) ?_
        exact hz_ri hx hb hr hlocks rfl (by rw [show i_ = e_ by omega]) dX2_valueOfDigits_43
      · refine lv_iload_n hx hb dX2_valueOfDigits_15 rfl (lv_at hl 1 rfl) ?_
        refine lv_bipush (v := nI 10) hx hb dX2_valueOfDigits_16 (by decide) ?_
        refine hz_imul hx hb dX2_valueOfDigits_18 ?_
        refine lv_aload_n hx hb dX2_valueOfDigits_19 rfl (lv_at hl 2 rfl) ?_
        refine va_get hx hb hts hinX2 hown hK hP 0 rfl rfl 0 (by decide) wd3 (fun _ h => h) rfl dX2_valueOfDigits_20 ?_
        refine lv_iload_n hx hb dX2_valueOfDigits_23 rfl (lv_at hl 0 rfl) ?_
        refine hz_iald (j := i_) hx hb hK hP 1 0 rfl rfl (by omega) (Nat.le_of_ble_eq_true rfl) dX2_valueOfDigits_24 ?_
        refine lv_iadd hx hb dX2_valueOfDigits_25 ?_
        refine lv_bipush (v := nI 48) hx hb dX2_valueOfDigits_26 (by decide) ?_
        refine lv_isub hx hb dX2_valueOfDigits_28 ?_
        refine lv_sipush (v := nI 1000) hx hb dX2_valueOfDigits_29 (by decide) ?_
        refine va_mmin hx hb (hml.trans hl.1.symm) hown wd4 wd5 wd6 wd7 (Nat.le_of_ble_eq_true rfl) (Nat.le_of_ble_eq_true rfl) (Nat.zero_le _) (Nat.zero_le _) dX2_valueOfDigits_32 ?_
        refine hz_ct (y := nI (pz_m (pz_d T b (i_ - b + 1)))) (by have h := pz_m_d (T := T) (b := b) (k := i_ - b) (by rw [show b + (i_ - b) = i_ by omega]; exact hdg i_ hi1 c12); rw [show b + (i_ - b) = i_ by omega] at h; exact h) ?_
        refine lv_istore_n (lv' := [(1, .int (nI (pz_m (pz_d T b (i_ - b + 1))))), (2, .int (nI i_)), (0, .ref tp0)]) hx hb dX2_valueOfDigits_35 rfl hl (by decide) rfl (fun ls hl => ?_)
        refine lv_iinc (v := nI (i_ + 1)) (lv' := [(2, .int (nI (i_ + 1))), (1, .int (nI (pz_m (pz_d T b (i_ - b + 1))))), (0, .ref tp0)]) hx hb dX2_valueOfDigits_36 hl (k := 1) rfl (nI_1 _) (by decide) rfl (fun ls hl => ?_)
        refine lv_goto (tgt := 7) hx hb dX2_valueOfDigits_39 (by decide) ?_
        exact ihloop (i_ + 1) ls (by omega) (by omega) (by omega) (by rw [show i_ + 1 - b = i_ - b + 1 by omega]; exact lv_sub hl [0, 1, 2] rfl)
  exact loop _ b ls (Nat.lt_succ_self _) (by omega) (by omega) (by rw [Nat.sub_self]; exact lv_sub hl [0, 1, 2] rfl)
set_option maxHeartbeats 4000000 in
set_option maxRecDepth 100000 in
theorem c2_advance (l : Launch) (D : va_G) (cI cJ : ClassId) (tp0 tb0 : Nat) (tk sa nu : Int32) (T : Nat → Int32) (n : Nat) (q : Nat) (hn : n ≤ 120) (hq : q ≤ n) : hz_ME l yX2_advance wsX2_advance { frames := 2, cells := 0, slots := 0, locals := 45 } [.ref tp0] D zcl [(cI, .int), (cJ, .long)] [(tp0, .inr (2, [.ref tb0, .int (nI n), .int (tk), .int (sa), .int (nI q), .int (nu)])), (tb0, .inl (cI, 120, .inl T))] [(tp0, .inr (2, [.ref tb0, .int (nI n), .int (nI (pz_t T n q)), .int (nI (pz_b T n q)), .int (nI (pz_e T n q)), .int (pz_nu T n q nu)])), (tb0, .inl (cI, 120, .inl T))] none := by
  refine hz_me (cc := cX2_advance) (maxL := 1) (ret := none) (by decide) rfl (Nat.le_of_ble_eq_true rfl) ?_
  intro p e s m below meth c hx hb hr hts hown hlocks hml hP hK hD ls hl
  have hS : va_S (hz_a [(tp0, .inr (2, [.ref tb0, .int (nI n), .int (tk), .int (sa), .int (nI q), .int (nu)])), (tb0, .inl (cI, 120, .inl T))]) s.heap s.heap [] := va_S.rf
  have hown : s.vm.findClass RX2 = some m.cls := hown
  have hl : lv_has ls 1 [(0, .ref tp0)] := hl
  have hinX2 : ∀ w ∈ u_ws RX2 TX2 6, w ∈ wsX2_advance := fun w h => List.mem_cons_of_mem _ (List.mem_append_right _ (h))
  have wd1 := hts (.fieldLink RX2 19 "HurtSpeech$Tape" "stop" "I") (List.mem_of_getElem? (i := 1) rfl)
  have wd2 := hts (.fieldLink RX2 32 "HurtSpeech$Tape" "start" "I") (List.mem_of_getElem? (i := 2) rfl)
  have wd3 := hts (.fieldLink RX2 15 "HurtSpeech$Tape" "size" "I") (List.mem_of_getElem? (i := 3) rfl)
  have wd4 := hts (.fieldLink RX2 11 "HurtSpeech$Tape" "bytes" "[I") (List.mem_of_getElem? (i := 4) rfl)
  have wd5 := hts (.fieldLink RX2 29 "HurtSpeech$Tape" "token" "I") (List.mem_of_getElem? (i := 5) rfl)
  have wd6 := hts (.fieldLink RX2 72 "HurtSpeech$Tape" "number" "I") (List.mem_of_getElem? (i := 6) rfl)
  refine lv_aload_n hx hb dX2_advance_0 rfl (lv_at hl 0 rfl) ?_
  refine lv_aload_n hx hb dX2_advance_1 rfl (lv_at hl 0 rfl) ?_
  refine va_get hx hb hts hinX2 hown hK hP 0 rfl rfl 4 (by decide) wd1 (fun _ h => h) rfl dX2_advance_2 ?_
  refine va_put hx hb hts hinX2 tyX2 tyX2_ok nmX2 hown hK hP hD hS 0 rfl rfl 3 (by decide) wd2 (fun _ h => h) rfl (tyX2_ok 3 (by decide)) rfl rfl (Nat.le_of_ble_eq_true rfl) dX2_advance_5 (fun H locs hP hD hS => ?_)
  have hP : va_P D zcl [(tp0, .inr (2, [.ref tb0, .int (nI n), .int (tk), .int (nI q), .int (nI q), .int (nu)])), (tb0, .inl (cI, 120, .inl T))] H := hP
  have hD : va_D (hz_a [(tp0, .inr (2, [.ref tb0, .int (nI n), .int (tk), .int (sa), .int (nI q), .int (nu)])), (tb0, .inl (cI, 120, .inl T))]) [(tp0, .inr (2, [.ref tb0, .int (nI n), .int (tk), .int (nI q), .int (nI q), .int (nu)])), (tb0, .inl (cI, 120, .inl T))] := hD
  have loop : ∀ (nn : Nat) (p_ : Nat) (ls : Array Slot) (H : Heap) (locs : List Loc), n - p_ < nn → (q ≤ p_) → (p_ ≤ n) → (pz_r 32 32 T n p_ = pz_b T n q) → lv_has ls 1 [(0, .ref tp0)] → va_P D zcl [(tp0, .inr (2, [.ref tb0, .int (nI n), .int (tk), .int (nI p_), .int (nI q), .int (nu)])), (tb0, .inl (cI, 120, .inl T))] H → va_D (hz_a [(tp0, .inr (2, [.ref tb0, .int (nI n), .int (tk), .int (sa), .int (nI q), .int (nu)])), (tb0, .inl (cI, 120, .inl T))]) [(tp0, .inr (2, [.ref tb0, .int (nI n), .int (tk), .int (nI p_), .int (nI q), .int (nu)])), (tb0, .inl (cI, 120, .inl T))] → va_S (hz_a [(tp0, .inr (2, [.ref tb0, .int (nI n), .int (tk), .int (sa), .int (nI q), .int (nu)])), (tb0, .inl (cI, 120, .inl T))]) s.heap H locs → W p l e (headSpec wsX2_advance { frames := 2, cells := 0, slots := 0, locals := 45 }).room s m ([.ref tp0] : List Value).toArray below meth c H locs 0 0 (MQ below (hz_E D zcl [(tp0, .inr (2, [.ref tb0, .int (nI n), .int (nI (pz_t T n q)), .int (nI (pz_b T n q)), .int (nI (pz_e T n q)), .int (pz_nu T n q nu)])), (tb0, .inl (cI, 120, .inl T))] none (hz_a [(tp0, .inr (2, [.ref tb0, .int (nI n), .int (tk), .int (sa), .int (nI q), .int (nu)])), (tb0, .inl (cI, 120, .inl T))])) ([.ref tp0] : List Value).toArray s 0 0 (hz_a [(tp0, .inr (2, [.ref tb0, .int (nI n), .int (tk), .int (sa), .int (nI q), .int (nu)])), (tb0, .inl (cI, 120, .inl T))])) (F0 m 8 ls []) := by
    intro nn
    induction nn with
    | zero => intro p_ ls H locs hnn hp1 hp2 hp3 hl hP hD hS; exact absurd hnn (Nat.not_lt_zero _)
    | succ nn ihloop =>
      intro p_ ls H locs hnn hp1 hp2 hp3 hl hP hD hS
      refine lv_aload_n hx hb dX2_advance_8 rfl (lv_at hl 0 rfl) ?_
      refine va_get hx hb hts hinX2 hown hK hP 0 rfl rfl 3 (by decide) wd2 (fun _ h => h) rfl dX2_advance_9 ?_
      refine lv_aload_n hx hb dX2_advance_12 rfl (lv_at hl 0 rfl) ?_
      refine va_get hx hb hts hinX2 hown hK hP 0 rfl rfl 1 (by decide) wd3 (fun _ h => h) rfl dX2_advance_13 ?_
      refine hz_icmp_ge (tgt := 46) (by omega) (by omega) hx hb dX2_advance_16 (by decide) (fun c16 => ?_) (fun c16 => ?_)
      · refine lv_aload_n hx hb dX2_advance_46 rfl (lv_at hl 0 rfl) ?_
        refine lv_aload_n hx hb dX2_advance_47 rfl (lv_at hl 0 rfl) ?_
        refine va_get hx hb hts hinX2 hown hK hP 0 rfl rfl 3 (by decide) wd2 (fun _ h => h) rfl dX2_advance_48 ?_
        refine va_put hx hb hts hinX2 tyX2 tyX2_ok nmX2 hown hK hP hD hS 0 rfl rfl 4 (by decide) wd1 (fun _ h => h) rfl (tyX2_ok 4 (by decide)) rfl rfl (Nat.le_of_ble_eq_true rfl) dX2_advance_51 (fun H locs hP hD hS => ?_)
        have hP : va_P D zcl [(tp0, .inr (2, [.ref tb0, .int (nI n), .int (tk), .int (nI p_), .int (nI p_), .int (nu)])), (tb0, .inl (cI, 120, .inl T))] H := hP
        have hD : va_D (hz_a [(tp0, .inr (2, [.ref tb0, .int (nI n), .int (tk), .int (sa), .int (nI q), .int (nu)])), (tb0, .inl (cI, 120, .inl T))]) [(tp0, .inr (2, [.ref tb0, .int (nI n), .int (tk), .int (nI p_), .int (nI p_), .int (nu)])), (tb0, .inl (cI, 120, .inl T))] := hD
        refine lv_aload_n hx hb dX2_advance_54 rfl (lv_at hl 0 rfl) ?_
        refine va_get hx hb hts hinX2 hown hK hP 0 rfl rfl 3 (by decide) wd2 (fun _ h => h) rfl dX2_advance_55 ?_
        refine lv_aload_n hx hb dX2_advance_58 rfl (lv_at hl 0 rfl) ?_
        refine va_get hx hb hts hinX2 hown hK hP 0 rfl rfl 1 (by decide) wd3 (fun _ h => h) rfl dX2_advance_59 ?_
        refine hz_icmp_lt (tgt := 73) (by omega) (by omega) hx hb dX2_advance_62 (by decide) (fun c62 => ?_) (fun c62 => ?_)
        · refine lv_aload_n hx hb dX2_advance_73 rfl (lv_at hl 0 rfl) ?_
          refine lv_aload_n hx hb dX2_advance_74 rfl (lv_at hl 0 rfl) ?_
          refine va_get hx hb hts hinX2 hown hK hP 0 rfl rfl 3 (by decide) wd2 (fun _ h => h) rfl dX2_advance_75 ?_
          refine lv_bipush (v := nI 97) hx hb dX2_advance_78 (by decide) ?_
          refine lv_bipush (v := nI 122) hx hb dX2_advance_80 (by decide) ?_
          refine hz_cv (As := [.int (nI p_), .int (nI 97), .int (nI 122)]) (rest := []) ⟨hx, hb, hml, hown, hts⟩ (c2_isAmong l D cI cJ (tp0 := tp0) (tb0 := tb0) (tk := tk) (sa := nI p_) (so := nI p_) (nu := nu) (T := T) (n := n) (p_ := p_) (lo := 97) (hi_ := 122) (hn := by omega) (hp := by omega)) (cwV 3 hts gX2_advance_X2_isAmong rfl rfl rfl (by decide +kernel) ⟨Nat.le_of_ble_eq_true rfl, Nat.le_of_ble_eq_true rfl⟩) hK hP [0, 1] rfl [0, 1] rfl 0 rfl rfl rfl rfl hl.1 rfl (Nat.le_of_ble_eq_true rfl) dX2_advance_82 ⟨Nat.zero_le _, Nat.zero_le _⟩ ?_
          refine hz_ifb_eq (tgt := 104) hx hb dX2_advance_85 (by decide) (fun c85 => ?_) (fun c85 => ?_)
          · refine lv_aload_n hx hb dX2_advance_104 rfl (lv_at hl 0 rfl) ?_
            refine lv_aload_n hx hb dX2_advance_105 rfl (lv_at hl 0 rfl) ?_
            refine va_get hx hb hts hinX2 hown hK hP 0 rfl rfl 3 (by decide) wd2 (fun _ h => h) rfl dX2_advance_106 ?_
            refine lv_bipush (v := nI 48) hx hb dX2_advance_109 (by decide) ?_
            refine lv_bipush (v := nI 57) hx hb dX2_advance_111 (by decide) ?_
            refine hz_cv (As := [.int (nI p_), .int (nI 48), .int (nI 57)]) (rest := []) ⟨hx, hb, hml, hown, hts⟩ (c2_isAmong l D cI cJ (tp0 := tp0) (tb0 := tb0) (tk := tk) (sa := nI p_) (so := nI p_) (nu := nu) (T := T) (n := n) (p_ := p_) (lo := 48) (hi_ := 57) (hn := by omega) (hp := by omega)) (cwV 3 hts gX2_advance_X2_isAmong rfl rfl rfl (by decide +kernel) ⟨Nat.le_of_ble_eq_true rfl, Nat.le_of_ble_eq_true rfl⟩) hK hP [0, 1] rfl [0, 1] rfl 0 rfl rfl rfl rfl hl.1 rfl (Nat.le_of_ble_eq_true rfl) dX2_advance_113 ⟨Nat.zero_le _, Nat.zero_le _⟩ ?_
            refine hz_ifb_eq (tgt := 143) hx hb dX2_advance_116 (by decide) (fun c116 => ?_) (fun c116 => ?_)
            · refine lv_aload_n hx hb dX2_advance_143 rfl (lv_at hl 0 rfl) ?_
              refine lv_aload_n hx hb dX2_advance_144 rfl (lv_at hl 0 rfl) ?_
              refine va_get hx hb hts hinX2 hown hK hP 0 rfl rfl 0 (by decide) wd4 (fun _ h => h) rfl dX2_advance_145 ?_
              refine lv_aload_n hx hb dX2_advance_148 rfl (lv_at hl 0 rfl) ?_
              refine va_get hx hb hts hinX2 hown hK hP 0 rfl rfl 3 (by decide) wd2 (fun _ h => h) rfl dX2_advance_149 ?_
              refine hz_iald (j := p_) hx hb hK hP 1 0 rfl rfl (by omega) (Nat.le_of_ble_eq_true rfl) dX2_advance_152 ?_
              refine lv_bipush (v := nI 59) hx hb dX2_advance_153 (by decide) ?_
              refine lv_icmp_ne (tgt := 162) hx hb dX2_advance_155 (by decide) (fun c155 => ?_) (fun c155 => ?_)
              · refine lv_iconst (v := nI 4) hx hb dX2_advance_162 (by decide) ?_
                refine va_put hx hb hts hinX2 tyX2 tyX2_ok nmX2 hown hK hP hD hS 0 rfl rfl 2 (by decide) wd5 (fun _ h => h) rfl (tyX2_ok 2 (by decide)) rfl rfl (Nat.le_of_ble_eq_true rfl) dX2_advance_163 (fun H locs hP hD hS => ?_)
                have hP : va_P D zcl [(tp0, .inr (2, [.ref tb0, .int (nI n), .int (nI 4), .int (nI p_), .int (nI p_), .int (nu)])), (tb0, .inl (cI, 120, .inl T))] H := hP
                have hD : va_D (hz_a [(tp0, .inr (2, [.ref tb0, .int (nI n), .int (tk), .int (sa), .int (nI q), .int (nu)])), (tb0, .inl (cI, 120, .inl T))]) [(tp0, .inr (2, [.ref tb0, .int (nI n), .int (nI 4), .int (nI p_), .int (nI p_), .int (nu)])), (tb0, .inl (cI, 120, .inl T))] := hD
                refine lv_aload_n hx hb dX2_advance_166 rfl (lv_at hl 0 rfl) ?_
                refine lv_aload_n hx hb dX2_advance_167 rfl (lv_at hl 0 rfl) ?_
                refine va_get hx hb hts hinX2 hown hK hP 0 rfl rfl 3 (by decide) wd2 (fun _ h => h) rfl dX2_advance_168 ?_
                refine lv_iconst (v := nI 1) hx hb dX2_advance_171 (by decide) ?_
                refine hz_iadd hx hb dX2_advance_172 ?_
                refine va_put hx hb hts hinX2 tyX2 tyX2_ok nmX2 hown hK hP hD hS 0 rfl rfl 4 (by decide) wd1 (fun _ h => h) rfl (tyX2_ok 4 (by decide)) rfl rfl (Nat.le_of_ble_eq_true rfl) dX2_advance_173 (fun H locs hP hD hS => ?_)
                have hP : va_P D zcl [(tp0, .inr (2, [.ref tb0, .int (nI n), .int (nI 4), .int (nI p_), .int (nI (p_ + 1)), .int (nu)])), (tb0, .inl (cI, 120, .inl T))] H := hP
                have hD : va_D (hz_a [(tp0, .inr (2, [.ref tb0, .int (nI n), .int (tk), .int (sa), .int (nI q), .int (nu)])), (tb0, .inl (cI, 120, .inl T))]) [(tp0, .inr (2, [.ref tb0, .int (nI n), .int (nI 4), .int (nI p_), .int (nI (p_ + 1)), .int (nu)])), (tb0, .inl (cI, 120, .inl T))] := hD
                refine hz_ev hx hb hr hlocks ?_ hS dX2_advance_176
                have hb0 : p_ = pz_b T n q := (pz_r_n (fun h => absurd h.1 (by omega))).symm.trans hp3
                obtain ⟨E1, -, E3, E4⟩ := pz_e4 hb0 c62 c85 c116 c155
                rw [show pz_nu T n q nu = nu by unfold pz_nu; rw [E4]; rfl, E1, E4, ← hb0]
                exact hP
              · refine lv_iconst (v := nI 3) hx hb dX2_advance_158 (by decide) ?_
                refine lv_goto (tgt := 163) hx hb dX2_advance_159 (by decide) ?_
                refine va_put hx hb hts hinX2 tyX2 tyX2_ok nmX2 hown hK hP hD hS 0 rfl rfl 2 (by decide) wd5 (fun _ h => h) rfl (tyX2_ok 2 (by decide)) rfl rfl (Nat.le_of_ble_eq_true rfl) dX2_advance_163 (fun H locs hP hD hS => ?_)
                have hP : va_P D zcl [(tp0, .inr (2, [.ref tb0, .int (nI n), .int (nI 3), .int (nI p_), .int (nI p_), .int (nu)])), (tb0, .inl (cI, 120, .inl T))] H := hP
                have hD : va_D (hz_a [(tp0, .inr (2, [.ref tb0, .int (nI n), .int (tk), .int (sa), .int (nI q), .int (nu)])), (tb0, .inl (cI, 120, .inl T))]) [(tp0, .inr (2, [.ref tb0, .int (nI n), .int (nI 3), .int (nI p_), .int (nI p_), .int (nu)])), (tb0, .inl (cI, 120, .inl T))] := hD
                refine lv_aload_n hx hb dX2_advance_166 rfl (lv_at hl 0 rfl) ?_
                refine lv_aload_n hx hb dX2_advance_167 rfl (lv_at hl 0 rfl) ?_
                refine va_get hx hb hts hinX2 hown hK hP 0 rfl rfl 3 (by decide) wd2 (fun _ h => h) rfl dX2_advance_168 ?_
                refine lv_iconst (v := nI 1) hx hb dX2_advance_171 (by decide) ?_
                refine hz_iadd hx hb dX2_advance_172 ?_
                refine va_put hx hb hts hinX2 tyX2 tyX2_ok nmX2 hown hK hP hD hS 0 rfl rfl 4 (by decide) wd1 (fun _ h => h) rfl (tyX2_ok 4 (by decide)) rfl rfl (Nat.le_of_ble_eq_true rfl) dX2_advance_173 (fun H locs hP hD hS => ?_)
                have hP : va_P D zcl [(tp0, .inr (2, [.ref tb0, .int (nI n), .int (nI 3), .int (nI p_), .int (nI (p_ + 1)), .int (nu)])), (tb0, .inl (cI, 120, .inl T))] H := hP
                have hD : va_D (hz_a [(tp0, .inr (2, [.ref tb0, .int (nI n), .int (tk), .int (sa), .int (nI q), .int (nu)])), (tb0, .inl (cI, 120, .inl T))]) [(tp0, .inr (2, [.ref tb0, .int (nI n), .int (nI 3), .int (nI p_), .int (nI (p_ + 1)), .int (nu)])), (tb0, .inl (cI, 120, .inl T))] := hD
                refine hz_ev hx hb hr hlocks ?_ hS dX2_advance_176
                have hb0 : p_ = pz_b T n q := (pz_r_n (fun h => absurd h.1 (by omega))).symm.trans hp3
                obtain ⟨E1, -, E3, E4⟩ := pz_e3 hb0 c62 c85 c116 c155
                rw [show pz_nu T n q nu = nu by unfold pz_nu; rw [E4]; rfl, E1, E4, ← hb0]
                exact hP
            · refine lv_aload_n hx hb dX2_advance_119 rfl (lv_at hl 0 rfl) ?_
              refine lv_iconst (v := nI 2) hx hb dX2_advance_120 (by decide) ?_
              refine va_put hx hb hts hinX2 tyX2 tyX2_ok nmX2 hown hK hP hD hS 0 rfl rfl 2 (by decide) wd5 (fun _ h => h) rfl (tyX2_ok 2 (by decide)) rfl rfl (Nat.le_of_ble_eq_true rfl) dX2_advance_121 (fun H locs hP hD hS => ?_)
              have hP : va_P D zcl [(tp0, .inr (2, [.ref tb0, .int (nI n), .int (nI 2), .int (nI p_), .int (nI p_), .int (nu)])), (tb0, .inl (cI, 120, .inl T))] H := hP
              have hD : va_D (hz_a [(tp0, .inr (2, [.ref tb0, .int (nI n), .int (tk), .int (sa), .int (nI q), .int (nu)])), (tb0, .inl (cI, 120, .inl T))]) [(tp0, .inr (2, [.ref tb0, .int (nI n), .int (nI 2), .int (nI p_), .int (nI p_), .int (nu)])), (tb0, .inl (cI, 120, .inl T))] := hD
              refine lv_aload_n hx hb dX2_advance_124 rfl (lv_at hl 0 rfl) ?_
              refine lv_bipush (v := nI 48) hx hb dX2_advance_125 (by decide) ?_
              refine lv_bipush (v := nI 57) hx hb dX2_advance_127 (by decide) ?_
              refine hz_ce (As := [.int (nI 48), .int (nI 57)]) (rest := []) ⟨hx, hb, hml, hown, hts⟩ (c2_skipAll l D cI cJ (tp0 := tp0) (tb0 := tb0) (tk := nI 2) (sa := nI p_) (nu := nu) (T := T) (n := n) (p_ := p_) (lo := 48) (hi_ := 57) (hn := by omega) (hp := by omega)) (cwV 2 hts gX2_advance_X2_skipAll rfl rfl rfl (by decide +kernel) ⟨Nat.le_of_ble_eq_true rfl, Nat.le_of_ble_eq_true rfl⟩) hK hP hD hS [0, 1] rfl (by decide) (hz_ha [tp0, tb0] rfl rfl) (w' := [(tp0, .inr (2, [.ref tb0, .int (nI n), .int (nI 2), .int (nI p_), .int (nI (pz_r 48 57 T n p_)), .int (nu)])), (tb0, .inl (cI, 120, .inl T))]) (hz_pt_eq 2 [] [] rfl rfl rfl rfl rfl rfl rfl) [0, 1] rfl 0 rfl rfl rfl rfl hl.1 rfl (Nat.le_of_ble_eq_true rfl) dX2_advance_129 ⟨Nat.zero_le _, Nat.zero_le _⟩ (fun H locs hP hD hS => ?_)
              refine W.eq (g2 := F0 m 132 ls []) rfl ?_
              refine lv_aload_n hx hb dX2_advance_132 rfl (lv_at hl 0 rfl) ?_
              refine lv_aload_n hx hb dX2_advance_133 rfl (lv_at hl 0 rfl) ?_
              refine hz_cv (As := []) (rest := [.ref tp0]) ⟨hx, hb, hml, hown, hts⟩ (c2_value l D cI cJ (tp0 := tp0) (tb0 := tb0) (tk := nI 2) (nu := nu) (T := T) (n := n) (b := p_) (e_ := pz_r 48 57 T n p_) (hbe := pz_r_ge _ _ _ _ _) (he := by have := pz_r_le (lo := 48) (hi := 57) (T := T) hp2; omega) (hdg := fun j h1 h2 => pz_r_in h1 h2)) (cwV 0 hts gX2_advance_X2_valueOfDigits rfl rfl rfl (by decide +kernel) ⟨Nat.le_of_ble_eq_true rfl, Nat.le_of_ble_eq_true rfl⟩) hK hP [0, 1] rfl [0, 1] rfl 0 rfl rfl rfl rfl hl.1 rfl (Nat.le_of_ble_eq_true rfl) dX2_advance_134 ⟨Nat.zero_le _, Nat.zero_le _⟩ ?_
              refine va_put hx hb hts hinX2 tyX2 tyX2_ok nmX2 hown hK hP hD hS 0 rfl rfl 5 (by decide) wd6 (fun _ h => h) rfl (tyX2_ok 5 (by decide)) rfl rfl (Nat.le_of_ble_eq_true rfl) dX2_advance_137 (fun H locs hP hD hS => ?_)
              have hP : va_P D zcl [(tp0, .inr (2, [.ref tb0, .int (nI n), .int (nI 2), .int (nI p_), .int (nI (pz_r 48 57 T n p_)), .int (nI (pz_m (pz_d T p_ ((pz_r 48 57 T n p_) - p_))))])), (tb0, .inl (cI, 120, .inl T))] H := hP
              have hD : va_D (hz_a [(tp0, .inr (2, [.ref tb0, .int (nI n), .int (tk), .int (sa), .int (nI q), .int (nu)])), (tb0, .inl (cI, 120, .inl T))]) [(tp0, .inr (2, [.ref tb0, .int (nI n), .int (nI 2), .int (nI p_), .int (nI (pz_r 48 57 T n p_)), .int (nI (pz_m (pz_d T p_ ((pz_r 48 57 T n p_) - p_))))])), (tb0, .inl (cI, 120, .inl T))] := hD
              refine lv_goto (tgt := 176) hx hb dX2_advance_140 (by decide) ?_
              refine hz_ev hx hb hr hlocks ?_ hS dX2_advance_176
              have hb0 : p_ = pz_b T n q := (pz_r_n (fun h => absurd h.1 (by omega))).symm.trans hp3
              obtain ⟨E1, -, E3, E4⟩ := pz_e2 hb0 c85 c116
              rw [show pz_nu T n q nu = nI (pz_m (pz_d T p_ (pz_r 48 57 T n p_ - p_))) by unfold pz_nu; rw [if_pos E4, E3], E1, E4, ← hb0]
              exact hP
          · refine lv_aload_n hx hb dX2_advance_88 rfl (lv_at hl 0 rfl) ?_
            refine lv_iconst (v := nI 1) hx hb dX2_advance_89 (by decide) ?_
            refine va_put hx hb hts hinX2 tyX2 tyX2_ok nmX2 hown hK hP hD hS 0 rfl rfl 2 (by decide) wd5 (fun _ h => h) rfl (tyX2_ok 2 (by decide)) rfl rfl (Nat.le_of_ble_eq_true rfl) dX2_advance_90 (fun H locs hP hD hS => ?_)
            have hP : va_P D zcl [(tp0, .inr (2, [.ref tb0, .int (nI n), .int (nI 1), .int (nI p_), .int (nI p_), .int (nu)])), (tb0, .inl (cI, 120, .inl T))] H := hP
            have hD : va_D (hz_a [(tp0, .inr (2, [.ref tb0, .int (nI n), .int (tk), .int (sa), .int (nI q), .int (nu)])), (tb0, .inl (cI, 120, .inl T))]) [(tp0, .inr (2, [.ref tb0, .int (nI n), .int (nI 1), .int (nI p_), .int (nI p_), .int (nu)])), (tb0, .inl (cI, 120, .inl T))] := hD
            refine lv_aload_n hx hb dX2_advance_93 rfl (lv_at hl 0 rfl) ?_
            refine lv_bipush (v := nI 97) hx hb dX2_advance_94 (by decide) ?_
            refine lv_bipush (v := nI 122) hx hb dX2_advance_96 (by decide) ?_
            refine hz_ce (As := [.int (nI 97), .int (nI 122)]) (rest := []) ⟨hx, hb, hml, hown, hts⟩ (c2_skipAll l D cI cJ (tp0 := tp0) (tb0 := tb0) (tk := nI 1) (sa := nI p_) (nu := nu) (T := T) (n := n) (p_ := p_) (lo := 97) (hi_ := 122) (hn := by omega) (hp := by omega)) (cwV 2 hts gX2_advance_X2_skipAll rfl rfl rfl (by decide +kernel) ⟨Nat.le_of_ble_eq_true rfl, Nat.le_of_ble_eq_true rfl⟩) hK hP hD hS [0, 1] rfl (by decide) (hz_ha [tp0, tb0] rfl rfl) (w' := [(tp0, .inr (2, [.ref tb0, .int (nI n), .int (nI 1), .int (nI p_), .int (nI (pz_r 97 122 T n p_)), .int (nu)])), (tb0, .inl (cI, 120, .inl T))]) (hz_pt_eq 2 [] [] rfl rfl rfl rfl rfl rfl rfl) [0, 1] rfl 0 rfl rfl rfl rfl hl.1 rfl (Nat.le_of_ble_eq_true rfl) dX2_advance_98 ⟨Nat.zero_le _, Nat.zero_le _⟩ (fun H locs hP hD hS => ?_)
            refine W.eq (g2 := F0 m 101 ls []) rfl ?_
            refine lv_goto (tgt := 176) hx hb dX2_advance_101 (by decide) ?_
            refine hz_ev hx hb hr hlocks ?_ hS dX2_advance_176
            have hb0 : p_ = pz_b T n q := (pz_r_n (fun h => absurd h.1 (by omega))).symm.trans hp3
            obtain ⟨E1, -, E3, E4⟩ := pz_e1 hb0 c85
            rw [show pz_nu T n q nu = nu by unfold pz_nu; rw [E4]; rfl, E1, E4, ← hb0]
            exact hP
        · refine lv_aload_n hx hb dX2_advance_65 rfl (lv_at hl 0 rfl) ?_
          refine lv_iconst (v := nI 0) hx hb dX2_advance_66 (by decide) ?_
          refine va_put hx hb hts hinX2 tyX2 tyX2_ok nmX2 hown hK hP hD hS 0 rfl rfl 2 (by decide) wd5 (fun _ h => h) rfl (tyX2_ok 2 (by decide)) rfl rfl (Nat.le_of_ble_eq_true rfl) dX2_advance_67 (fun H locs hP hD hS => ?_)
          have hP : va_P D zcl [(tp0, .inr (2, [.ref tb0, .int (nI n), .int (nI 0), .int (nI p_), .int (nI p_), .int (nu)])), (tb0, .inl (cI, 120, .inl T))] H := hP
          have hD : va_D (hz_a [(tp0, .inr (2, [.ref tb0, .int (nI n), .int (tk), .int (sa), .int (nI q), .int (nu)])), (tb0, .inl (cI, 120, .inl T))]) [(tp0, .inr (2, [.ref tb0, .int (nI n), .int (nI 0), .int (nI p_), .int (nI p_), .int (nu)])), (tb0, .inl (cI, 120, .inl T))] := hD
          refine lv_goto (tgt := 176) hx hb dX2_advance_70 (by decide) ?_
          refine hz_ev hx hb hr hlocks ?_ hS dX2_advance_176
          have hb0 : p_ = pz_b T n q := (pz_r_n (fun h => absurd h.1 (by omega))).symm.trans hp3
          obtain ⟨E1, -, E3, E4⟩ := pz_e0 hb0 (by omega)
          rw [show pz_nu T n q nu = nu by unfold pz_nu; rw [E4]; rfl, E1, E4, ← hb0]
          exact hP
      · refine lv_aload_n hx hb dX2_advance_19 rfl (lv_at hl 0 rfl) ?_
        refine va_get hx hb hts hinX2 hown hK hP 0 rfl rfl 0 (by decide) wd4 (fun _ h => h) rfl dX2_advance_20 ?_
        refine lv_aload_n hx hb dX2_advance_23 rfl (lv_at hl 0 rfl) ?_
        refine va_get hx hb hts hinX2 hown hK hP 0 rfl rfl 3 (by decide) wd2 (fun _ h => h) rfl dX2_advance_24 ?_
        refine hz_iald (j := p_) hx hb hK hP 1 0 rfl rfl (by omega) (Nat.le_of_ble_eq_true rfl) dX2_advance_27 ?_
        refine lv_bipush (v := nI 32) hx hb dX2_advance_28 (by decide) ?_
        refine lv_icmp_ne (tgt := 46) hx hb dX2_advance_30 (by decide) (fun c30 => ?_) (fun c30 => ?_)
        · refine lv_aload_n hx hb dX2_advance_46 rfl (lv_at hl 0 rfl) ?_
          refine lv_aload_n hx hb dX2_advance_47 rfl (lv_at hl 0 rfl) ?_
          refine va_get hx hb hts hinX2 hown hK hP 0 rfl rfl 3 (by decide) wd2 (fun _ h => h) rfl dX2_advance_48 ?_
          refine va_put hx hb hts hinX2 tyX2 tyX2_ok nmX2 hown hK hP hD hS 0 rfl rfl 4 (by decide) wd1 (fun _ h => h) rfl (tyX2_ok 4 (by decide)) rfl rfl (Nat.le_of_ble_eq_true rfl) dX2_advance_51 (fun H locs hP hD hS => ?_)
          have hP : va_P D zcl [(tp0, .inr (2, [.ref tb0, .int (nI n), .int (tk), .int (nI p_), .int (nI p_), .int (nu)])), (tb0, .inl (cI, 120, .inl T))] H := hP
          have hD : va_D (hz_a [(tp0, .inr (2, [.ref tb0, .int (nI n), .int (tk), .int (sa), .int (nI q), .int (nu)])), (tb0, .inl (cI, 120, .inl T))]) [(tp0, .inr (2, [.ref tb0, .int (nI n), .int (tk), .int (nI p_), .int (nI p_), .int (nu)])), (tb0, .inl (cI, 120, .inl T))] := hD
          refine lv_aload_n hx hb dX2_advance_54 rfl (lv_at hl 0 rfl) ?_
          refine va_get hx hb hts hinX2 hown hK hP 0 rfl rfl 3 (by decide) wd2 (fun _ h => h) rfl dX2_advance_55 ?_
          refine lv_aload_n hx hb dX2_advance_58 rfl (lv_at hl 0 rfl) ?_
          refine va_get hx hb hts hinX2 hown hK hP 0 rfl rfl 1 (by decide) wd3 (fun _ h => h) rfl dX2_advance_59 ?_
          refine hz_icmp_lt (tgt := 73) (by omega) (by omega) hx hb dX2_advance_62 (by decide) (fun c62 => ?_) (fun c62 => ?_)
          · refine lv_aload_n hx hb dX2_advance_73 rfl (lv_at hl 0 rfl) ?_
            refine lv_aload_n hx hb dX2_advance_74 rfl (lv_at hl 0 rfl) ?_
            refine va_get hx hb hts hinX2 hown hK hP 0 rfl rfl 3 (by decide) wd2 (fun _ h => h) rfl dX2_advance_75 ?_
            refine lv_bipush (v := nI 97) hx hb dX2_advance_78 (by decide) ?_
            refine lv_bipush (v := nI 122) hx hb dX2_advance_80 (by decide) ?_
            refine hz_cv (As := [.int (nI p_), .int (nI 97), .int (nI 122)]) (rest := []) ⟨hx, hb, hml, hown, hts⟩ (c2_isAmong l D cI cJ (tp0 := tp0) (tb0 := tb0) (tk := tk) (sa := nI p_) (so := nI p_) (nu := nu) (T := T) (n := n) (p_ := p_) (lo := 97) (hi_ := 122) (hn := by omega) (hp := by omega)) (cwV 3 hts gX2_advance_X2_isAmong rfl rfl rfl (by decide +kernel) ⟨Nat.le_of_ble_eq_true rfl, Nat.le_of_ble_eq_true rfl⟩) hK hP [0, 1] rfl [0, 1] rfl 0 rfl rfl rfl rfl hl.1 rfl (Nat.le_of_ble_eq_true rfl) dX2_advance_82 ⟨Nat.zero_le _, Nat.zero_le _⟩ ?_
            refine hz_ifb_eq (tgt := 104) hx hb dX2_advance_85 (by decide) (fun c85 => ?_) (fun c85 => ?_)
            · refine lv_aload_n hx hb dX2_advance_104 rfl (lv_at hl 0 rfl) ?_
              refine lv_aload_n hx hb dX2_advance_105 rfl (lv_at hl 0 rfl) ?_
              refine va_get hx hb hts hinX2 hown hK hP 0 rfl rfl 3 (by decide) wd2 (fun _ h => h) rfl dX2_advance_106 ?_
              refine lv_bipush (v := nI 48) hx hb dX2_advance_109 (by decide) ?_
              refine lv_bipush (v := nI 57) hx hb dX2_advance_111 (by decide) ?_
              refine hz_cv (As := [.int (nI p_), .int (nI 48), .int (nI 57)]) (rest := []) ⟨hx, hb, hml, hown, hts⟩ (c2_isAmong l D cI cJ (tp0 := tp0) (tb0 := tb0) (tk := tk) (sa := nI p_) (so := nI p_) (nu := nu) (T := T) (n := n) (p_ := p_) (lo := 48) (hi_ := 57) (hn := by omega) (hp := by omega)) (cwV 3 hts gX2_advance_X2_isAmong rfl rfl rfl (by decide +kernel) ⟨Nat.le_of_ble_eq_true rfl, Nat.le_of_ble_eq_true rfl⟩) hK hP [0, 1] rfl [0, 1] rfl 0 rfl rfl rfl rfl hl.1 rfl (Nat.le_of_ble_eq_true rfl) dX2_advance_113 ⟨Nat.zero_le _, Nat.zero_le _⟩ ?_
              refine hz_ifb_eq (tgt := 143) hx hb dX2_advance_116 (by decide) (fun c116 => ?_) (fun c116 => ?_)
              · refine lv_aload_n hx hb dX2_advance_143 rfl (lv_at hl 0 rfl) ?_
                refine lv_aload_n hx hb dX2_advance_144 rfl (lv_at hl 0 rfl) ?_
                refine va_get hx hb hts hinX2 hown hK hP 0 rfl rfl 0 (by decide) wd4 (fun _ h => h) rfl dX2_advance_145 ?_
                refine lv_aload_n hx hb dX2_advance_148 rfl (lv_at hl 0 rfl) ?_
                refine va_get hx hb hts hinX2 hown hK hP 0 rfl rfl 3 (by decide) wd2 (fun _ h => h) rfl dX2_advance_149 ?_
                refine hz_iald (j := p_) hx hb hK hP 1 0 rfl rfl (by omega) (Nat.le_of_ble_eq_true rfl) dX2_advance_152 ?_
                refine lv_bipush (v := nI 59) hx hb dX2_advance_153 (by decide) ?_
                refine lv_icmp_ne (tgt := 162) hx hb dX2_advance_155 (by decide) (fun c155 => ?_) (fun c155 => ?_)
                · refine lv_iconst (v := nI 4) hx hb dX2_advance_162 (by decide) ?_
                  refine va_put hx hb hts hinX2 tyX2 tyX2_ok nmX2 hown hK hP hD hS 0 rfl rfl 2 (by decide) wd5 (fun _ h => h) rfl (tyX2_ok 2 (by decide)) rfl rfl (Nat.le_of_ble_eq_true rfl) dX2_advance_163 (fun H locs hP hD hS => ?_)
                  have hP : va_P D zcl [(tp0, .inr (2, [.ref tb0, .int (nI n), .int (nI 4), .int (nI p_), .int (nI p_), .int (nu)])), (tb0, .inl (cI, 120, .inl T))] H := hP
                  have hD : va_D (hz_a [(tp0, .inr (2, [.ref tb0, .int (nI n), .int (tk), .int (sa), .int (nI q), .int (nu)])), (tb0, .inl (cI, 120, .inl T))]) [(tp0, .inr (2, [.ref tb0, .int (nI n), .int (nI 4), .int (nI p_), .int (nI p_), .int (nu)])), (tb0, .inl (cI, 120, .inl T))] := hD
                  refine lv_aload_n hx hb dX2_advance_166 rfl (lv_at hl 0 rfl) ?_
                  refine lv_aload_n hx hb dX2_advance_167 rfl (lv_at hl 0 rfl) ?_
                  refine va_get hx hb hts hinX2 hown hK hP 0 rfl rfl 3 (by decide) wd2 (fun _ h => h) rfl dX2_advance_168 ?_
                  refine lv_iconst (v := nI 1) hx hb dX2_advance_171 (by decide) ?_
                  refine hz_iadd hx hb dX2_advance_172 ?_
                  refine va_put hx hb hts hinX2 tyX2 tyX2_ok nmX2 hown hK hP hD hS 0 rfl rfl 4 (by decide) wd1 (fun _ h => h) rfl (tyX2_ok 4 (by decide)) rfl rfl (Nat.le_of_ble_eq_true rfl) dX2_advance_173 (fun H locs hP hD hS => ?_)
                  have hP : va_P D zcl [(tp0, .inr (2, [.ref tb0, .int (nI n), .int (nI 4), .int (nI p_), .int (nI (p_ + 1)), .int (nu)])), (tb0, .inl (cI, 120, .inl T))] H := hP
                  have hD : va_D (hz_a [(tp0, .inr (2, [.ref tb0, .int (nI n), .int (tk), .int (sa), .int (nI q), .int (nu)])), (tb0, .inl (cI, 120, .inl T))]) [(tp0, .inr (2, [.ref tb0, .int (nI n), .int (nI 4), .int (nI p_), .int (nI (p_ + 1)), .int (nu)])), (tb0, .inl (cI, 120, .inl T))] := hD
                  refine hz_ev hx hb hr hlocks ?_ hS dX2_advance_176
                  have hb0 : p_ = pz_b T n q := (pz_r_n (fun h => c30 (rg_1.mp h.2))).symm.trans hp3
                  obtain ⟨E1, -, E3, E4⟩ := pz_e4 hb0 c62 c85 c116 c155
                  rw [show pz_nu T n q nu = nu by unfold pz_nu; rw [E4]; rfl, E1, E4, ← hb0]
                  exact hP
                · refine lv_iconst (v := nI 3) hx hb dX2_advance_158 (by decide) ?_
                  refine lv_goto (tgt := 163) hx hb dX2_advance_159 (by decide) ?_
                  refine va_put hx hb hts hinX2 tyX2 tyX2_ok nmX2 hown hK hP hD hS 0 rfl rfl 2 (by decide) wd5 (fun _ h => h) rfl (tyX2_ok 2 (by decide)) rfl rfl (Nat.le_of_ble_eq_true rfl) dX2_advance_163 (fun H locs hP hD hS => ?_)
                  have hP : va_P D zcl [(tp0, .inr (2, [.ref tb0, .int (nI n), .int (nI 3), .int (nI p_), .int (nI p_), .int (nu)])), (tb0, .inl (cI, 120, .inl T))] H := hP
                  have hD : va_D (hz_a [(tp0, .inr (2, [.ref tb0, .int (nI n), .int (tk), .int (sa), .int (nI q), .int (nu)])), (tb0, .inl (cI, 120, .inl T))]) [(tp0, .inr (2, [.ref tb0, .int (nI n), .int (nI 3), .int (nI p_), .int (nI p_), .int (nu)])), (tb0, .inl (cI, 120, .inl T))] := hD
                  refine lv_aload_n hx hb dX2_advance_166 rfl (lv_at hl 0 rfl) ?_
                  refine lv_aload_n hx hb dX2_advance_167 rfl (lv_at hl 0 rfl) ?_
                  refine va_get hx hb hts hinX2 hown hK hP 0 rfl rfl 3 (by decide) wd2 (fun _ h => h) rfl dX2_advance_168 ?_
                  refine lv_iconst (v := nI 1) hx hb dX2_advance_171 (by decide) ?_
                  refine hz_iadd hx hb dX2_advance_172 ?_
                  refine va_put hx hb hts hinX2 tyX2 tyX2_ok nmX2 hown hK hP hD hS 0 rfl rfl 4 (by decide) wd1 (fun _ h => h) rfl (tyX2_ok 4 (by decide)) rfl rfl (Nat.le_of_ble_eq_true rfl) dX2_advance_173 (fun H locs hP hD hS => ?_)
                  have hP : va_P D zcl [(tp0, .inr (2, [.ref tb0, .int (nI n), .int (nI 3), .int (nI p_), .int (nI (p_ + 1)), .int (nu)])), (tb0, .inl (cI, 120, .inl T))] H := hP
                  have hD : va_D (hz_a [(tp0, .inr (2, [.ref tb0, .int (nI n), .int (tk), .int (sa), .int (nI q), .int (nu)])), (tb0, .inl (cI, 120, .inl T))]) [(tp0, .inr (2, [.ref tb0, .int (nI n), .int (nI 3), .int (nI p_), .int (nI (p_ + 1)), .int (nu)])), (tb0, .inl (cI, 120, .inl T))] := hD
                  refine hz_ev hx hb hr hlocks ?_ hS dX2_advance_176
                  have hb0 : p_ = pz_b T n q := (pz_r_n (fun h => c30 (rg_1.mp h.2))).symm.trans hp3
                  obtain ⟨E1, -, E3, E4⟩ := pz_e3 hb0 c62 c85 c116 c155
                  rw [show pz_nu T n q nu = nu by unfold pz_nu; rw [E4]; rfl, E1, E4, ← hb0]
                  exact hP
              · refine lv_aload_n hx hb dX2_advance_119 rfl (lv_at hl 0 rfl) ?_
                refine lv_iconst (v := nI 2) hx hb dX2_advance_120 (by decide) ?_
                refine va_put hx hb hts hinX2 tyX2 tyX2_ok nmX2 hown hK hP hD hS 0 rfl rfl 2 (by decide) wd5 (fun _ h => h) rfl (tyX2_ok 2 (by decide)) rfl rfl (Nat.le_of_ble_eq_true rfl) dX2_advance_121 (fun H locs hP hD hS => ?_)
                have hP : va_P D zcl [(tp0, .inr (2, [.ref tb0, .int (nI n), .int (nI 2), .int (nI p_), .int (nI p_), .int (nu)])), (tb0, .inl (cI, 120, .inl T))] H := hP
                have hD : va_D (hz_a [(tp0, .inr (2, [.ref tb0, .int (nI n), .int (tk), .int (sa), .int (nI q), .int (nu)])), (tb0, .inl (cI, 120, .inl T))]) [(tp0, .inr (2, [.ref tb0, .int (nI n), .int (nI 2), .int (nI p_), .int (nI p_), .int (nu)])), (tb0, .inl (cI, 120, .inl T))] := hD
                refine lv_aload_n hx hb dX2_advance_124 rfl (lv_at hl 0 rfl) ?_
                refine lv_bipush (v := nI 48) hx hb dX2_advance_125 (by decide) ?_
                refine lv_bipush (v := nI 57) hx hb dX2_advance_127 (by decide) ?_
                refine hz_ce (As := [.int (nI 48), .int (nI 57)]) (rest := []) ⟨hx, hb, hml, hown, hts⟩ (c2_skipAll l D cI cJ (tp0 := tp0) (tb0 := tb0) (tk := nI 2) (sa := nI p_) (nu := nu) (T := T) (n := n) (p_ := p_) (lo := 48) (hi_ := 57) (hn := by omega) (hp := by omega)) (cwV 2 hts gX2_advance_X2_skipAll rfl rfl rfl (by decide +kernel) ⟨Nat.le_of_ble_eq_true rfl, Nat.le_of_ble_eq_true rfl⟩) hK hP hD hS [0, 1] rfl (by decide) (hz_ha [tp0, tb0] rfl rfl) (w' := [(tp0, .inr (2, [.ref tb0, .int (nI n), .int (nI 2), .int (nI p_), .int (nI (pz_r 48 57 T n p_)), .int (nu)])), (tb0, .inl (cI, 120, .inl T))]) (hz_pt_eq 2 [] [] rfl rfl rfl rfl rfl rfl rfl) [0, 1] rfl 0 rfl rfl rfl rfl hl.1 rfl (Nat.le_of_ble_eq_true rfl) dX2_advance_129 ⟨Nat.zero_le _, Nat.zero_le _⟩ (fun H locs hP hD hS => ?_)
                refine W.eq (g2 := F0 m 132 ls []) rfl ?_
                refine lv_aload_n hx hb dX2_advance_132 rfl (lv_at hl 0 rfl) ?_
                refine lv_aload_n hx hb dX2_advance_133 rfl (lv_at hl 0 rfl) ?_
                refine hz_cv (As := []) (rest := [.ref tp0]) ⟨hx, hb, hml, hown, hts⟩ (c2_value l D cI cJ (tp0 := tp0) (tb0 := tb0) (tk := nI 2) (nu := nu) (T := T) (n := n) (b := p_) (e_ := pz_r 48 57 T n p_) (hbe := pz_r_ge _ _ _ _ _) (he := by have := pz_r_le (lo := 48) (hi := 57) (T := T) hp2; omega) (hdg := fun j h1 h2 => pz_r_in h1 h2)) (cwV 0 hts gX2_advance_X2_valueOfDigits rfl rfl rfl (by decide +kernel) ⟨Nat.le_of_ble_eq_true rfl, Nat.le_of_ble_eq_true rfl⟩) hK hP [0, 1] rfl [0, 1] rfl 0 rfl rfl rfl rfl hl.1 rfl (Nat.le_of_ble_eq_true rfl) dX2_advance_134 ⟨Nat.zero_le _, Nat.zero_le _⟩ ?_
                refine va_put hx hb hts hinX2 tyX2 tyX2_ok nmX2 hown hK hP hD hS 0 rfl rfl 5 (by decide) wd6 (fun _ h => h) rfl (tyX2_ok 5 (by decide)) rfl rfl (Nat.le_of_ble_eq_true rfl) dX2_advance_137 (fun H locs hP hD hS => ?_)
                have hP : va_P D zcl [(tp0, .inr (2, [.ref tb0, .int (nI n), .int (nI 2), .int (nI p_), .int (nI (pz_r 48 57 T n p_)), .int (nI (pz_m (pz_d T p_ ((pz_r 48 57 T n p_) - p_))))])), (tb0, .inl (cI, 120, .inl T))] H := hP
                have hD : va_D (hz_a [(tp0, .inr (2, [.ref tb0, .int (nI n), .int (tk), .int (sa), .int (nI q), .int (nu)])), (tb0, .inl (cI, 120, .inl T))]) [(tp0, .inr (2, [.ref tb0, .int (nI n), .int (nI 2), .int (nI p_), .int (nI (pz_r 48 57 T n p_)), .int (nI (pz_m (pz_d T p_ ((pz_r 48 57 T n p_) - p_))))])), (tb0, .inl (cI, 120, .inl T))] := hD
                refine lv_goto (tgt := 176) hx hb dX2_advance_140 (by decide) ?_
                refine hz_ev hx hb hr hlocks ?_ hS dX2_advance_176
                have hb0 : p_ = pz_b T n q := (pz_r_n (fun h => c30 (rg_1.mp h.2))).symm.trans hp3
                obtain ⟨E1, -, E3, E4⟩ := pz_e2 hb0 c85 c116
                rw [show pz_nu T n q nu = nI (pz_m (pz_d T p_ (pz_r 48 57 T n p_ - p_))) by unfold pz_nu; rw [if_pos E4, E3], E1, E4, ← hb0]
                exact hP
            · refine lv_aload_n hx hb dX2_advance_88 rfl (lv_at hl 0 rfl) ?_
              refine lv_iconst (v := nI 1) hx hb dX2_advance_89 (by decide) ?_
              refine va_put hx hb hts hinX2 tyX2 tyX2_ok nmX2 hown hK hP hD hS 0 rfl rfl 2 (by decide) wd5 (fun _ h => h) rfl (tyX2_ok 2 (by decide)) rfl rfl (Nat.le_of_ble_eq_true rfl) dX2_advance_90 (fun H locs hP hD hS => ?_)
              have hP : va_P D zcl [(tp0, .inr (2, [.ref tb0, .int (nI n), .int (nI 1), .int (nI p_), .int (nI p_), .int (nu)])), (tb0, .inl (cI, 120, .inl T))] H := hP
              have hD : va_D (hz_a [(tp0, .inr (2, [.ref tb0, .int (nI n), .int (tk), .int (sa), .int (nI q), .int (nu)])), (tb0, .inl (cI, 120, .inl T))]) [(tp0, .inr (2, [.ref tb0, .int (nI n), .int (nI 1), .int (nI p_), .int (nI p_), .int (nu)])), (tb0, .inl (cI, 120, .inl T))] := hD
              refine lv_aload_n hx hb dX2_advance_93 rfl (lv_at hl 0 rfl) ?_
              refine lv_bipush (v := nI 97) hx hb dX2_advance_94 (by decide) ?_
              refine lv_bipush (v := nI 122) hx hb dX2_advance_96 (by decide) ?_
              refine hz_ce (As := [.int (nI 97), .int (nI 122)]) (rest := []) ⟨hx, hb, hml, hown, hts⟩ (c2_skipAll l D cI cJ (tp0 := tp0) (tb0 := tb0) (tk := nI 1) (sa := nI p_) (nu := nu) (T := T) (n := n) (p_ := p_) (lo := 97) (hi_ := 122) (hn := by omega) (hp := by omega)) (cwV 2 hts gX2_advance_X2_skipAll rfl rfl rfl (by decide +kernel) ⟨Nat.le_of_ble_eq_true rfl, Nat.le_of_ble_eq_true rfl⟩) hK hP hD hS [0, 1] rfl (by decide) (hz_ha [tp0, tb0] rfl rfl) (w' := [(tp0, .inr (2, [.ref tb0, .int (nI n), .int (nI 1), .int (nI p_), .int (nI (pz_r 97 122 T n p_)), .int (nu)])), (tb0, .inl (cI, 120, .inl T))]) (hz_pt_eq 2 [] [] rfl rfl rfl rfl rfl rfl rfl) [0, 1] rfl 0 rfl rfl rfl rfl hl.1 rfl (Nat.le_of_ble_eq_true rfl) dX2_advance_98 ⟨Nat.zero_le _, Nat.zero_le _⟩ (fun H locs hP hD hS => ?_)
              refine W.eq (g2 := F0 m 101 ls []) rfl ?_
              refine lv_goto (tgt := 176) hx hb dX2_advance_101 (by decide) ?_
              refine hz_ev hx hb hr hlocks ?_ hS dX2_advance_176
              have hb0 : p_ = pz_b T n q := (pz_r_n (fun h => c30 (rg_1.mp h.2))).symm.trans hp3
              obtain ⟨E1, -, E3, E4⟩ := pz_e1 hb0 c85
              rw [show pz_nu T n q nu = nu by unfold pz_nu; rw [E4]; rfl, E1, E4, ← hb0]
              exact hP
          · refine lv_aload_n hx hb dX2_advance_65 rfl (lv_at hl 0 rfl) ?_
            refine lv_iconst (v := nI 0) hx hb dX2_advance_66 (by decide) ?_
            refine va_put hx hb hts hinX2 tyX2 tyX2_ok nmX2 hown hK hP hD hS 0 rfl rfl 2 (by decide) wd5 (fun _ h => h) rfl (tyX2_ok 2 (by decide)) rfl rfl (Nat.le_of_ble_eq_true rfl) dX2_advance_67 (fun H locs hP hD hS => ?_)
            have hP : va_P D zcl [(tp0, .inr (2, [.ref tb0, .int (nI n), .int (nI 0), .int (nI p_), .int (nI p_), .int (nu)])), (tb0, .inl (cI, 120, .inl T))] H := hP
            have hD : va_D (hz_a [(tp0, .inr (2, [.ref tb0, .int (nI n), .int (tk), .int (sa), .int (nI q), .int (nu)])), (tb0, .inl (cI, 120, .inl T))]) [(tp0, .inr (2, [.ref tb0, .int (nI n), .int (nI 0), .int (nI p_), .int (nI p_), .int (nu)])), (tb0, .inl (cI, 120, .inl T))] := hD
            refine lv_goto (tgt := 176) hx hb dX2_advance_70 (by decide) ?_
            refine hz_ev hx hb hr hlocks ?_ hS dX2_advance_176
            have hb0 : p_ = pz_b T n q := (pz_r_n (fun h => c30 (rg_1.mp h.2))).symm.trans hp3
            obtain ⟨E1, -, E3, E4⟩ := pz_e0 hb0 (by omega)
            rw [show pz_nu T n q nu = nu by unfold pz_nu; rw [E4]; rfl, E1, E4, ← hb0]
            exact hP
        · refine lv_aload_n hx hb dX2_advance_33 rfl (lv_at hl 0 rfl) ?_
          refine lv_dup hx hb dX2_advance_34 rfl ?_
          refine va_get hx hb hts hinX2 hown hK hP 0 rfl rfl 3 (by decide) wd2 (fun _ h => h) rfl dX2_advance_35 ?_
          refine lv_iconst (v := nI 1) hx hb dX2_advance_38 (by decide) ?_
          refine hz_iadd hx hb dX2_advance_39 ?_
          refine va_put hx hb hts hinX2 tyX2 tyX2_ok nmX2 hown hK hP hD hS 0 rfl rfl 3 (by decide) wd2 (fun _ h => h) rfl (tyX2_ok 3 (by decide)) rfl rfl (Nat.le_of_ble_eq_true rfl) dX2_advance_40 (fun H locs hP hD hS => ?_)
          have hP : va_P D zcl [(tp0, .inr (2, [.ref tb0, .int (nI n), .int (tk), .int (nI (p_ + 1)), .int (nI q), .int (nu)])), (tb0, .inl (cI, 120, .inl T))] H := hP
          have hD : va_D (hz_a [(tp0, .inr (2, [.ref tb0, .int (nI n), .int (tk), .int (sa), .int (nI q), .int (nu)])), (tb0, .inl (cI, 120, .inl T))]) [(tp0, .inr (2, [.ref tb0, .int (nI n), .int (tk), .int (nI (p_ + 1)), .int (nI q), .int (nu)])), (tb0, .inl (cI, 120, .inl T))] := hD
          refine lv_goto (tgt := 8) hx hb dX2_advance_43 (by decide) ?_
          exact ihloop (p_ + 1) ls _ _ (by omega) (by omega) (by omega) ((pz_r_y c16 (rg_1.mpr c30)).symm.trans hp3) (lv_sub hl [0] rfl) hP hD hS
  exact loop _ q ls _ _ (Nat.lt_succ_self _) (by omega) (by omega) rfl (lv_sub hl [0] rfl) hP hD hS
set_option maxHeartbeats 4000000 in
set_option maxRecDepth 100000 in
theorem c2_below (l : Launch) (D : va_G) (cI cJ : ClassId) (tp0 tb0 : Nat) (sa so nu : Int32) (t n h : Nat) (ht : t < 2 ^ 31) : hz_MP l yX2_isNumberBelow wsX2_isNumberBelow { frames := 0, cells := 0, slots := 0, locals := 0 } [.ref tp0, .int (nI h)] D zcl [(cI, .int), (cJ, .long)] [(tp0, .inr (2, [.ref tb0, .int (nI n), .int (nI t), .int (sa), .int (so), .int (nu)]))] (.int (hz_b (t = 2 ∧ nu < nI h))) := by
  refine hz_mp (cc := cX2_isNumberBelow) (maxL := 2) (ret := (some .boolean)) (by decide) rfl (Nat.le_of_ble_eq_true rfl) ?_
  intro p e s m below meth c hx hb hr hts hown hlocks hml hP hK ls hl
  have hown : s.vm.findClass RX2 = some m.cls := hown
  have hl : lv_has ls 2 [(0, .ref tp0), (1, .int (nI h))] := hl
  have hinX2 : ∀ w ∈ u_ws RX2 TX2 6, w ∈ wsX2_isNumberBelow := fun w h => List.mem_cons_of_mem _ (List.mem_append_right _ (h))
  have wd1 := hts (.fieldLink RX2 29 "HurtSpeech$Tape" "token" "I") (List.mem_of_getElem? (i := 1) rfl)
  have wd2 := hts (.fieldLink RX2 72 "HurtSpeech$Tape" "number" "I") (List.mem_of_getElem? (i := 2) rfl)
  refine lv_aload_n hx hb dX2_isNumberBelow_0 rfl (lv_at hl 0 rfl) ?_
  refine va_get hx hb hts hinX2 hown hK hP 0 rfl rfl 2 (by decide) wd1 (fun _ h => h) rfl dX2_isNumberBelow_1 ?_
  refine lv_iconst (v := nI 2) hx hb dX2_isNumberBelow_4 (by decide) ?_
  refine hz_icmp_ne (tgt := 20) (by omega) (by omega) hx hb dX2_isNumberBelow_5 (by decide) (fun c5 => ?_) (fun c5 => ?_)
  · refine lv_iconst (v := nI 0) hx hb dX2_isNumberBelow_20 (by decide) ?_
    exact hz_ri hx hb hr hlocks rfl ((hz_bf (fun z => c5 z.1)).symm) dX2_isNumberBelow_21
  · refine lv_aload_n hx hb dX2_isNumberBelow_8 rfl (lv_at hl 0 rfl) ?_
    refine va_get hx hb hts hinX2 hown hK hP 0 rfl rfl 5 (by decide) wd2 (fun _ h => h) rfl dX2_isNumberBelow_9 ?_
    refine lv_iload_n hx hb dX2_isNumberBelow_12 rfl (lv_at hl 1 rfl) ?_
    refine lv_icmp_ge (tgt := 20) hx hb dX2_isNumberBelow_13 (by decide) (fun c13 => ?_) (fun c13 => ?_)
    · refine lv_iconst (v := nI 0) hx hb dX2_isNumberBelow_20 (by decide) ?_
      exact hz_ri hx hb hr hlocks rfl ((hz_bf (fun z => absurd z.2 (Int32.not_lt.mpr c13))).symm) dX2_isNumberBelow_21
    · refine lv_iconst (v := nI 1) hx hb dX2_isNumberBelow_16 (by decide) ?_
      refine lv_goto (tgt := 21) hx hb dX2_isNumberBelow_17 (by decide) ?_
      exact hz_ri hx hb hr hlocks rfl ((hz_bt ⟨c5, Int32.not_le.mp c13⟩).symm) dX2_isNumberBelow_21
set_option maxHeartbeats 4000000 in
set_option maxRecDepth 100000 in
theorem c2_isWord (l : Launch) (D : va_G) (cI cJ : ClassId) (aN : Nat) (adK adV : Nat → Nat) (tp0 tb0 : Nat) (nu : Int32) (T : Nat → Int32) (n : Nat) (t b e_ i : Nat) (ht : t < 2 ^ 31) (hbe : b ≤ e_) (he : e_ ≤ 120) (hi : i < 10) : hz_MPz (hz_Q aN adK adV) l yX2_isWord wsX2_isWord { frames := 5, cells := 0, slots := 0, locals := 106 } [.ref tp0, .ref (adK i)] D zcl [(cI, .int), (cJ, .long)] [(tp0, .inr (2, [.ref tb0, .int (nI n), .int (nI t), .int (nI b), .int (nI e_), .int (nu)])), (tb0, .inl (cI, 120, .inl T))] (.int (hz_b (t = 1 ∧ pz_is T b (e_ - b) i))) := by
  refine hz_mpz (cc := cX2_isWord) (maxL := 3) (ret := (some .boolean)) (by decide) rfl (Nat.le_of_ble_eq_true rfl) ?_
  intro p e s m below meth c hx hb hr hts hown hlocks hml hP hK hZ ls hl
  have hS : va_S hz_no s.heap s.heap [] := va_S.rf
  have hown : s.vm.findClass RX2 = some m.cls := hown
  have hl : lv_has ls 3 [(0, .ref tp0), (1, .ref (adK i))] := hl
  have hinX2 : ∀ w ∈ u_ws RX2 TX2 6, w ∈ wsX2_isWord := fun w h => List.mem_cons_of_mem _ (List.mem_append_right _ (h))
  have wd1 := hts (.fieldLink RX2 29 "HurtSpeech$Tape" "token" "I") (List.mem_of_getElem? (i := 1) rfl)
  have wd2 := hts (.fieldLink RX2 19 "HurtSpeech$Tape" "stop" "I") (List.mem_of_getElem? (i := 2) rfl)
  have wd3 := hts (.fieldLink RX2 32 "HurtSpeech$Tape" "start" "I") (List.mem_of_getElem? (i := 3) rfl)
  have wd4 := hts (.fieldLink RX2 11 "HurtSpeech$Tape" "bytes" "[I") (List.mem_of_getElem? (i := 4) rfl)
  refine lv_aload_n hx hb dX2_isWord_0 rfl (lv_at hl 0 rfl) ?_
  refine va_get hx hb hts hinX2 hown hK hP 0 rfl rfl 2 (by decide) wd1 (fun _ h => h) rfl dX2_isWord_1 ?_
  refine lv_iconst (v := nI 1) hx hb dX2_isWord_4 (by decide) ?_
  refine hz_icmp_ne (tgt := 24) (by omega) (by omega) hx hb dX2_isWord_5 (by decide) (fun c5 => ?_) (fun c5 => ?_)
  · refine lv_iconst (v := nI 0) hx hb dX2_isWord_24 (by decide) ?_
    exact hz_ri hx hb hr hlocks rfl ((hz_bf (fun z => c5 z.1)).symm) dX2_isWord_25
  · refine lv_aload_n hx hb dX2_isWord_8 rfl (lv_at hl 0 rfl) ?_
    refine va_get hx hb hts hinX2 hown hK hP 0 rfl rfl 4 (by decide) wd2 (fun _ h => h) rfl dX2_isWord_9 ?_
    refine lv_aload_n hx hb dX2_isWord_12 rfl (lv_at hl 0 rfl) ?_
    refine va_get hx hb hts hinX2 hown hK hP 0 rfl rfl 3 (by decide) wd3 (fun _ h => h) rfl dX2_isWord_13 ?_
    refine hz_isub (by omega) hx hb dX2_isWord_16 ?_
    refine lv_aload_n hx hb dX2_isWord_17 rfl (lv_at hl 1 rfl) ?_
    have hl8 := (pz_n1 i hi).1.2
    refine hz_cvr (As := []) (rest := [.int (nI (e_ - b))]) ⟨hx, hb, hml, hown, hts⟩ (hz_Q_ok aN adK adV) hZ hS (cJ_len l D cI cJ (aN := aN) (adK := adK) (adV := adV) (i := i) (hi := hi)) (cwV 0 hts gX2_isWord_J0_length_8abf5 rfl rfl rfl (by decide +kernel) ⟨Nat.le_of_ble_eq_true rfl, Nat.le_of_ble_eq_true rfl⟩) hK hP [] rfl [0, 1] rfl (vk_recv (i := i) hZ.2.2.2.2.1 hi hS) rfl hl.1 rfl (Nat.le_of_ble_eq_true rfl) dX2_isWord_18 ⟨Nat.zero_le _, Nat.zero_le _⟩ ?_
    refine hz_icmp_eq (tgt := 26) (by omega) (by omega) hx hb dX2_isWord_21 (by decide) (fun c21 => ?_) (fun c21 => ?_)
    · refine lv_iconst (v := nI 0) hx hb dX2_isWord_26 (by decide) ?_
      refine lv_istore_n (lv' := [(2, .int (nI 0)), (0, .ref tp0), (1, .ref (adK i))]) hx hb dX2_isWord_27 rfl hl (by decide) rfl (fun ls hl => ?_)
      have loop : ∀ (nn : Nat) (j_ : Nat) (ls : Array Slot), pz_ln i - j_ < nn → (j_ ≤ pz_ln i) → (∀ j, j < j_ → T (b + j) = pz_NM (8 * i + j)) → lv_has ls 3 [(2, .int (nI j_)), (0, .ref tp0), (1, .ref (adK i))] → W p l e (headSpec wsX2_isWord { frames := 5, cells := 0, slots := 0, locals := 106 }).room s m ([.ref tp0, .ref (adK i)] : List Value).toArray below meth c s.heap [] 0 0 (MQ below (hz_V (.int (hz_b (t = 1 ∧ pz_is T b (e_ - b) i)))) ([.ref tp0, .ref (adK i)] : List Value).toArray s 0 0 (fun _ => False)) (F0 m 28 ls []) := by
        intro nn
        induction nn with
        | zero => intro j_ ls hnn hj1 hj2 hl; exact absurd hnn (Nat.not_lt_zero _)
        | succ nn ihloop =>
          intro j_ ls hnn hj1 hj2 hl
          refine lv_iload_n hx hb dX2_isWord_28 rfl (lv_at hl 0 rfl) ?_
          refine lv_aload_n hx hb dX2_isWord_29 rfl (lv_at hl 2 rfl) ?_
          refine hz_cvr (As := []) (rest := [.int (nI j_)]) ⟨hx, hb, hml, hown, hts⟩ (hz_Q_ok aN adK adV) hZ hS (cJ_len l D cI cJ (aN := aN) (adK := adK) (adV := adV) (i := i) (hi := hi)) (cwV 0 hts gX2_isWord_J0_length_8abf5 rfl rfl rfl (by decide +kernel) ⟨Nat.le_of_ble_eq_true rfl, Nat.le_of_ble_eq_true rfl⟩) hK hP [] rfl [0, 1] rfl (vk_recv (i := i) hZ.2.2.2.2.1 hi hS) rfl hl.1 rfl (Nat.le_of_ble_eq_true rfl) dX2_isWord_30 ⟨Nat.zero_le _, Nat.zero_le _⟩ ?_
          refine hz_icmp_ge (tgt := 63) (by omega) (by omega) hx hb dX2_isWord_33 (by decide) (fun c33 => ?_) (fun c33 => ?_)
          · refine lv_iconst (v := nI 1) hx hb dX2_isWord_63 (by decide) ?_
            exact hz_ri hx hb hr hlocks rfl ((hz_bt ⟨c5, c21, fun j hj => hj2 j (by omega)⟩).symm) dX2_isWord_64
          · refine lv_aload_n hx hb dX2_isWord_36 rfl (lv_at hl 1 rfl) ?_
            refine va_get hx hb hts hinX2 hown hK hP 0 rfl rfl 0 (by decide) wd4 (fun _ h => h) rfl dX2_isWord_37 ?_
            refine lv_aload_n hx hb dX2_isWord_40 rfl (lv_at hl 1 rfl) ?_
            refine va_get hx hb hts hinX2 hown hK hP 0 rfl rfl 3 (by decide) wd3 (fun _ h => h) rfl dX2_isWord_41 ?_
            refine lv_iload_n hx hb dX2_isWord_44 rfl (lv_at hl 0 rfl) ?_
            refine hz_iadd hx hb dX2_isWord_45 ?_
            refine hz_iald (j := b + j_) hx hb hK hP 1 0 rfl rfl (by omega) (Nat.le_of_ble_eq_true rfl) dX2_isWord_46 ?_
            refine lv_aload_n hx hb dX2_isWord_47 rfl (lv_at hl 2 rfl) ?_
            refine lv_iload_n hx hb dX2_isWord_48 rfl (lv_at hl 0 rfl) ?_
            refine hz_cvr (As := [.int (nI j_)]) (rest := [.int (T (b + j_))]) ⟨hx, hb, hml, hown, hts⟩ (hz_Q_ok aN adK adV) hZ hS (cJ_ca l D cI cJ (aN := aN) (adK := adK) (adV := adV) (i := i) (j := j_) (hi := hi) (hj := c33)) (cwV 1 hts gX2_isWord_J0_charAt_5068e rfl rfl rfl (by decide +kernel) ⟨Nat.le_of_ble_eq_true rfl, Nat.le_of_ble_eq_true rfl⟩) hK hP [] rfl [0, 1] rfl (vk_recv (i := i) hZ.2.2.2.2.1 hi hS) rfl hl.1 rfl (Nat.le_of_ble_eq_true rfl) dX2_isWord_49 ⟨Nat.zero_le _, Nat.zero_le _⟩ ?_
            refine lv_icmp_eq (tgt := 57) hx hb dX2_isWord_52 (by decide) (fun c52 => ?_) (fun c52 => ?_)
            · refine lv_iinc (v := nI (j_ + 1)) (lv' := [(2, .int (nI (j_ + 1))), (0, .ref tp0), (1, .ref (adK i))]) hx hb dX2_isWord_57 hl (k := 0) rfl (nI_1 _) (by decide) rfl (fun ls hl => ?_)
              refine lv_goto (tgt := 28) hx hb dX2_isWord_60 (by decide) ?_
              exact ihloop (j_ + 1) ls (by omega) (by omega) (pz_ext hj2 c52) (lv_sub hl [0, 1, 2] rfl)
            · refine lv_iconst (v := nI 0) hx hb dX2_isWord_55 (by decide) ?_
              exact hz_ri hx hb hr hlocks rfl ((hz_bf (fun z => c52 (z.2.2 j_ c33))).symm) dX2_isWord_56
      exact loop _ 0 ls (Nat.lt_succ_self _) (by omega) (fun j hj => absurd hj (by omega)) (lv_sub hl [0, 1, 2] rfl)
    · refine lv_iconst (v := nI 0) hx hb dX2_isWord_24 (by decide) ?_
      exact hz_ri hx hb hr hlocks rfl ((hz_bf (fun z => c21 z.2.1)).symm) dX2_isWord_25
set_option maxHeartbeats 4000000 in
set_option maxRecDepth 100000 in
theorem c2_kind (l : Launch) (D : va_G) (cI cJ : ClassId) (aN : Nat) (adK adV : Nat → Nat) (tp0 tb0 : Nat) (nu : Int32) (T : Nat → Int32) (n : Nat) (q : Nat) (hn : n ≤ 120) (hq : q ≤ n) : hz_MPz (hz_Q aN adK adV) l yX2_kindNamed wsX2_kindNamed { frames := 6, cells := 0, slots := 0, locals := 128 } [.ref tp0] D zcl [(cI, .int), (cJ, .long)] [(tp0, .inr (2, [.ref tb0, .int (nI n), .int (nI (pz_t T n q)), .int (nI (pz_b T n q)), .int (nI (pz_e T n q)), .int (nu)])), (tb0, .inl (cI, 120, .inl T))] (.int (if pz_k T n q ≤ 5 then nI (pz_k T n q) else -1)) := by
  refine hz_mpz (cc := cX2_kindNamed) (maxL := 1) (ret := (some .int)) (by decide) rfl (Nat.le_of_ble_eq_true rfl) ?_
  intro p e s m below meth c hx hb hr hts hown hlocks hml hP hK hZ ls hl
  have hS : va_S hz_no s.heap s.heap [] := va_S.rf
  have hown : s.vm.findClass RX2 = some m.cls := hown
  have hl : lv_has ls 1 [(0, .ref tp0)] := hl
  have hb1 := pz_b_ge T n q
  have hb2 := pz_e_ge T n q
  have hb3 := pz_e_le (T := T) hq
  have hb4 := pz_t_le T n q
  refine lv_aload_n hx hb dX2_kindNamed_0 rfl (lv_at hl 0 rfl) ?_
  refine va_ldcS hx hb hown (hZ.2.2.2.2.2 0 (by decide)) dX2_kindNamed_1 ?_
  refine hz_cvz (As := [.ref (adK 0)]) (rest := []) ⟨hx, hb, hml, hown, hts⟩ (hz_Q_ok aN adK adV) hZ hS (c2_isWord l D cI cJ (aN := aN) (adK := adK) (adV := adV) (tp0 := tp0) (tb0 := tb0) (nu := nu) (T := T) (n := n) (t := pz_t T n q) (b := pz_b T n q) (e_ := pz_e T n q) (i := 0) (ht := by omega) (hbe := by omega) (he := by omega) (hi := by omega)) (cwV 1 hts gX2_kindNamed_X2_isWord rfl rfl rfl (by decide +kernel) ⟨Nat.le_of_ble_eq_true rfl, Nat.le_of_ble_eq_true rfl⟩) hK hP [0, 1] rfl [0, 1] rfl 0 rfl rfl rfl rfl hl.1 rfl (Nat.le_of_ble_eq_true rfl) dX2_kindNamed_3 ⟨Nat.zero_le _, Nat.zero_le _⟩ ?_
  refine hz_ifb_eq (tgt := 11) hx hb dX2_kindNamed_6 (by decide) (fun c6 => ?_) (fun c6 => ?_)
  · refine lv_aload_n hx hb dX2_kindNamed_11 rfl (lv_at hl 0 rfl) ?_
    refine va_ldcS hx hb hown (hZ.2.2.2.2.2 1 (by decide)) dX2_kindNamed_12 ?_
    refine hz_cvz (As := [.ref (adK 1)]) (rest := []) ⟨hx, hb, hml, hown, hts⟩ (hz_Q_ok aN adK adV) hZ hS (c2_isWord l D cI cJ (aN := aN) (adK := adK) (adV := adV) (tp0 := tp0) (tb0 := tb0) (nu := nu) (T := T) (n := n) (t := pz_t T n q) (b := pz_b T n q) (e_ := pz_e T n q) (i := 1) (ht := by omega) (hbe := by omega) (he := by omega) (hi := by omega)) (cwV 1 hts gX2_kindNamed_X2_isWord rfl rfl rfl (by decide +kernel) ⟨Nat.le_of_ble_eq_true rfl, Nat.le_of_ble_eq_true rfl⟩) hK hP [0, 1] rfl [0, 1] rfl 0 rfl rfl rfl rfl hl.1 rfl (Nat.le_of_ble_eq_true rfl) dX2_kindNamed_14 ⟨Nat.zero_le _, Nat.zero_le _⟩ ?_
    refine hz_ifb_eq (tgt := 22) hx hb dX2_kindNamed_17 (by decide) (fun c17 => ?_) (fun c17 => ?_)
    · refine lv_aload_n hx hb dX2_kindNamed_22 rfl (lv_at hl 0 rfl) ?_
      refine va_ldcS hx hb hown (hZ.2.2.2.2.2 2 (by decide)) dX2_kindNamed_23 ?_
      refine hz_cvz (As := [.ref (adK 2)]) (rest := []) ⟨hx, hb, hml, hown, hts⟩ (hz_Q_ok aN adK adV) hZ hS (c2_isWord l D cI cJ (aN := aN) (adK := adK) (adV := adV) (tp0 := tp0) (tb0 := tb0) (nu := nu) (T := T) (n := n) (t := pz_t T n q) (b := pz_b T n q) (e_ := pz_e T n q) (i := 2) (ht := by omega) (hbe := by omega) (he := by omega) (hi := by omega)) (cwV 1 hts gX2_kindNamed_X2_isWord rfl rfl rfl (by decide +kernel) ⟨Nat.le_of_ble_eq_true rfl, Nat.le_of_ble_eq_true rfl⟩) hK hP [0, 1] rfl [0, 1] rfl 0 rfl rfl rfl rfl hl.1 rfl (Nat.le_of_ble_eq_true rfl) dX2_kindNamed_25 ⟨Nat.zero_le _, Nat.zero_le _⟩ ?_
      refine hz_ifb_eq (tgt := 33) hx hb dX2_kindNamed_28 (by decide) (fun c28 => ?_) (fun c28 => ?_)
      · refine lv_aload_n hx hb dX2_kindNamed_33 rfl (lv_at hl 0 rfl) ?_
        refine va_ldcS hx hb hown (hZ.2.2.2.2.2 3 (by decide)) dX2_kindNamed_34 ?_
        refine hz_cvz (As := [.ref (adK 3)]) (rest := []) ⟨hx, hb, hml, hown, hts⟩ (hz_Q_ok aN adK adV) hZ hS (c2_isWord l D cI cJ (aN := aN) (adK := adK) (adV := adV) (tp0 := tp0) (tb0 := tb0) (nu := nu) (T := T) (n := n) (t := pz_t T n q) (b := pz_b T n q) (e_ := pz_e T n q) (i := 3) (ht := by omega) (hbe := by omega) (he := by omega) (hi := by omega)) (cwV 1 hts gX2_kindNamed_X2_isWord rfl rfl rfl (by decide +kernel) ⟨Nat.le_of_ble_eq_true rfl, Nat.le_of_ble_eq_true rfl⟩) hK hP [0, 1] rfl [0, 1] rfl 0 rfl rfl rfl rfl hl.1 rfl (Nat.le_of_ble_eq_true rfl) dX2_kindNamed_36 ⟨Nat.zero_le _, Nat.zero_le _⟩ ?_
        refine hz_ifb_eq (tgt := 44) hx hb dX2_kindNamed_39 (by decide) (fun c39 => ?_) (fun c39 => ?_)
        · refine lv_aload_n hx hb dX2_kindNamed_44 rfl (lv_at hl 0 rfl) ?_
          refine va_ldcS hx hb hown (hZ.2.2.2.2.2 4 (by decide)) dX2_kindNamed_45 ?_
          refine hz_cvz (As := [.ref (adK 4)]) (rest := []) ⟨hx, hb, hml, hown, hts⟩ (hz_Q_ok aN adK adV) hZ hS (c2_isWord l D cI cJ (aN := aN) (adK := adK) (adV := adV) (tp0 := tp0) (tb0 := tb0) (nu := nu) (T := T) (n := n) (t := pz_t T n q) (b := pz_b T n q) (e_ := pz_e T n q) (i := 4) (ht := by omega) (hbe := by omega) (he := by omega) (hi := by omega)) (cwV 1 hts gX2_kindNamed_X2_isWord rfl rfl rfl (by decide +kernel) ⟨Nat.le_of_ble_eq_true rfl, Nat.le_of_ble_eq_true rfl⟩) hK hP [0, 1] rfl [0, 1] rfl 0 rfl rfl rfl rfl hl.1 rfl (Nat.le_of_ble_eq_true rfl) dX2_kindNamed_47 ⟨Nat.zero_le _, Nat.zero_le _⟩ ?_
          refine hz_ifb_eq (tgt := 55) hx hb dX2_kindNamed_50 (by decide) (fun c50 => ?_) (fun c50 => ?_)
          · refine lv_aload_n hx hb dX2_kindNamed_55 rfl (lv_at hl 0 rfl) ?_
            refine va_ldcS hx hb hown (hZ.2.2.2.2.2 5 (by decide)) dX2_kindNamed_56 ?_
            refine hz_cvz (As := [.ref (adK 5)]) (rest := []) ⟨hx, hb, hml, hown, hts⟩ (hz_Q_ok aN adK adV) hZ hS (c2_isWord l D cI cJ (aN := aN) (adK := adK) (adV := adV) (tp0 := tp0) (tb0 := tb0) (nu := nu) (T := T) (n := n) (t := pz_t T n q) (b := pz_b T n q) (e_ := pz_e T n q) (i := 5) (ht := by omega) (hbe := by omega) (he := by omega) (hi := by omega)) (cwV 1 hts gX2_kindNamed_X2_isWord rfl rfl rfl (by decide +kernel) ⟨Nat.le_of_ble_eq_true rfl, Nat.le_of_ble_eq_true rfl⟩) hK hP [0, 1] rfl [0, 1] rfl 0 rfl rfl rfl rfl hl.1 rfl (Nat.le_of_ble_eq_true rfl) dX2_kindNamed_58 ⟨Nat.zero_le _, Nat.zero_le _⟩ ?_
            refine hz_ifb_eq (tgt := 68) hx hb dX2_kindNamed_61 (by decide) (fun c61 => ?_) (fun c61 => ?_)
            · refine lv_iconst (v := -1) hx hb dX2_kindNamed_68 (by decide) ?_
              exact hz_ri hx hb hr hlocks rfl ((if_neg (pz_n6 (fun z => c6 ((pz_word (by decide)).mpr z)) (fun z => c17 ((pz_word (by decide)).mpr z)) (fun z => c28 ((pz_word (by decide)).mpr z)) (fun z => c39 ((pz_word (by decide)).mpr z)) (fun z => c50 ((pz_word (by decide)).mpr z)) (fun z => c61 ((pz_word (by decide)).mpr z)) )).symm) dX2_kindNamed_69
            · refine lv_iconst (v := nI 5) hx hb dX2_kindNamed_64 (by decide) ?_
              refine lv_goto (tgt := 69) hx hb dX2_kindNamed_65 (by decide) ?_
              exact hz_ri hx hb hr hlocks rfl (by have h := (pz_word (by decide)).mp c61; rw [h]; rfl) dX2_kindNamed_69
          · refine lv_iconst (v := nI 4) hx hb dX2_kindNamed_53 (by decide) ?_
            exact hz_ri hx hb hr hlocks rfl (by have h := (pz_word (by decide)).mp c50; rw [h]; rfl) dX2_kindNamed_54
        · refine lv_iconst (v := nI 3) hx hb dX2_kindNamed_42 (by decide) ?_
          exact hz_ri hx hb hr hlocks rfl (by have h := (pz_word (by decide)).mp c39; rw [h]; rfl) dX2_kindNamed_43
      · refine lv_iconst (v := nI 2) hx hb dX2_kindNamed_31 (by decide) ?_
        exact hz_ri hx hb hr hlocks rfl (by have h := (pz_word (by decide)).mp c28; rw [h]; rfl) dX2_kindNamed_32
    · refine lv_iconst (v := nI 1) hx hb dX2_kindNamed_20 (by decide) ?_
      exact hz_ri hx hb hr hlocks rfl (by have h := (pz_word (by decide)).mp c17; rw [h]; rfl) dX2_kindNamed_21
  · refine lv_iconst (v := nI 0) hx hb dX2_kindNamed_9 (by decide) ?_
    exact hz_ri hx hb hr hlocks rfl (by have h := (pz_word (by decide)).mp c6; rw [h]; rfl) dX2_kindNamed_10
set_option maxHeartbeats 4000000 in
set_option maxRecDepth 100000 in
theorem c4_isByte (l : Launch) (D : va_G) (cI cJ : ClassId) (h0 at_ : Nat) (fs : List Value) (T : Nat → Int32) (n : Nat) (p_ lo hi_ : Nat) (hf6 : fs[6]? = some (.ref at_)) (hf7 : fs[7]? = some (.int (nI n))) (hn : n ≤ 120) (hp : p_ < 2 ^ 31) : hz_MP l yX4_isByte wsX4_isByte { frames := 1, cells := 0, slots := 0, locals := 23 } [.ref h0, .int (nI p_), .int (nI lo), .int (nI hi_)] D zcl [(cI, .int), (cJ, .long)] [(h0, .inr (4, fs)), (at_, .inl (cI, 120, .inl T))] (.int (hz_b (p_ < n ∧ rg (T p_) lo hi_))) := by
  refine hz_mp (cc := cX4_isByte) (maxL := 4) (ret := (some .boolean)) (by decide) rfl (Nat.le_of_ble_eq_true rfl) ?_
  intro p e s m below meth c hx hb hr hts hown hlocks hml hP hK ls hl
  have hown : s.vm.findClass RX4 = some m.cls := hown
  have hl : lv_has ls 4 [(0, .ref h0), (1, .int (nI p_)), (2, .int (nI lo)), (3, .int (nI hi_))] := hl
  have hinX4 : ∀ w ∈ u_ws RX4 TX4 16, w ∈ wsX4_isByte := fun w h => List.mem_cons_of_mem _ (List.mem_append_right _ (h))
  have wd1 := hts (.fieldLink RX4 146 "HurtSpeechModel" "taped" "I") (List.mem_of_getElem? (i := 1) rfl)
  have wd2 := hts (.fieldLink RX4 22 "HurtSpeechModel" "tape" "[I") (List.mem_of_getElem? (i := 2) rfl)
  refine lv_iload_n hx hb dX4_isByte_0 rfl (lv_at hl 1 rfl) ?_
  refine lv_aload_n hx hb dX4_isByte_1 rfl (lv_at hl 0 rfl) ?_
  refine va_get hx hb hts hinX4 hown hK hP 0 rfl rfl 7 (by decide) wd1 (fun _ h => h) hf7 dX4_isByte_2 ?_
  refine hz_icmp_ge (tgt := 27) (by omega) (by omega) hx hb dX4_isByte_5 (by decide) (fun c5 => ?_) (fun c5 => ?_)
  · refine lv_iconst (v := nI 0) hx hb dX4_isByte_27 (by decide) ?_
    exact hz_ri hx hb hr hlocks rfl ((hz_bf (fun h => absurd h.1 (by omega))).symm) dX4_isByte_28
  · refine lv_aload_n hx hb dX4_isByte_8 rfl (lv_at hl 0 rfl) ?_
    refine va_get hx hb hts hinX4 hown hK hP 0 rfl rfl 6 (by decide) wd2 (fun _ h => h) hf6 dX4_isByte_9 ?_
    refine lv_iload_n hx hb dX4_isByte_12 rfl (lv_at hl 1 rfl) ?_
    refine hz_iald (j := p_) hx hb hK hP 1 0 rfl rfl (by omega) (Nat.le_of_ble_eq_true rfl) dX4_isByte_13 ?_
    refine lv_i2l (v := (T p_).toInt64) hx hb dX4_isByte_14 rfl ?_
    refine lv_iload_n hx hb dX4_isByte_15 rfl (lv_at hl 2 rfl) ?_
    refine lv_iload_n hx hb dX4_isByte_16 rfl (lv_at hl 3 rfl) ?_
    refine hz_cs (As := [.long ((T p_).toInt64), .int (nI lo), .int (nI hi_)]) (rest := []) ⟨hx, hb, hml, hown, hts⟩ (c4_in32 l D cI cJ (x := T p_) (a := nI lo) (b := nI hi_) ) (va_cwS 3 hts gX4_isByte_X4_in rfl rfl rfl (by decide +kernel) ⟨Nat.le_of_ble_eq_true rfl, Nat.le_of_ble_eq_true rfl⟩) hK hP [] rfl [0, 1] rfl rfl hl.1 rfl (Nat.le_of_ble_eq_true rfl) dX4_isByte_17 ⟨Nat.zero_le _, Nat.zero_le _⟩ ?_
    refine hz_ifb_eq (tgt := 27) hx hb dX4_isByte_20 (by decide) (fun c20 => ?_) (fun c20 => ?_)
    · refine lv_iconst (v := nI 0) hx hb dX4_isByte_27 (by decide) ?_
      exact hz_ri hx hb hr hlocks rfl ((hz_bf (fun h => c20 h.2)).symm) dX4_isByte_28
    · refine lv_iconst (v := nI 1) hx hb dX4_isByte_23 (by decide) ?_
      refine lv_goto (tgt := 28) hx hb dX4_isByte_24 (by decide) ?_
      exact hz_ri hx hb hr hlocks rfl ((hz_bt ⟨c5, c20⟩).symm) dX4_isByte_28
set_option maxHeartbeats 4000000 in
set_option maxRecDepth 100000 in
theorem c4_isName (l : Launch) (D : va_G) (cI cJ : ClassId) (aN : Nat) (adK adV : Nat → Nat) (h0 at_ : Nat) (fs : List Value) (T : Nat → Int32) (b k i : Nat) (hf6 : fs[6]? = some (.ref at_)) (hf9 : fs[9]? = some (.int (nI b))) (hi : i < 10) (hk1 : 1 ≤ k) (hbk : b + k ≤ 120) (hlet : ∀ j, j < k → rg (T (b + j)) 97 122) : hz_MPz (hz_Q aN adK adV) l yX4_isName wsX4_isName { frames := 0, cells := 0, slots := 0, locals := 0 } [.ref h0, .int (nI i), .int (nI k)] D zcl [(cI, .int), (cJ, .long)] [(h0, .inr (4, fs)), (at_, .inl (cI, 120, .inl T))] (.int (hz_b (pz_is T b k i))) := by
  refine hz_mpz (cc := cX4_isName) (maxL := 5) (ret := (some .boolean)) (by decide) rfl (Nat.le_of_ble_eq_true rfl) ?_
  intro p e s m below meth c hx hb hr hts hown hlocks hml hP hK hZ ls hl
  have hS : va_S hz_no s.heap s.heap [] := va_S.rf
  have hown : s.vm.findClass RX4 = some m.cls := hown
  have hl : lv_has ls 5 [(0, .ref h0), (1, .int (nI i)), (2, .int (nI k))] := hl
  have hinX4 : ∀ w ∈ u_ws RX4 TX4 16, w ∈ wsX4_isName := fun w h => List.mem_cons_of_mem _ (List.mem_append_right _ (h))
  have wd1 := hts (.fieldLink RX4 149 "HurtSpeechModel" "NAMES" "[I") (List.mem_of_getElem? (i := 1) rfl)
  have wd2 := hts (.fieldLink RX4 22 "HurtSpeechModel" "tape" "[I") (List.mem_of_getElem? (i := 2) rfl)
  have wd3 := hts (.fieldLink RX4 152 "HurtSpeechModel" "begin" "I") (List.mem_of_getElem? (i := 3) rfl)
  refine lv_iload_n hx hb dX4_isName_0 rfl (lv_at hl 2 rfl) ?_
  refine lv_bipush (v := nI 8) hx hb dX4_isName_1 (by decide) ?_
  refine hz_dia (ls := ls) (hz_b (pz_q T b k i 0)) 30 [] (fun jn30 => ?_) ?_
  · refine hz_icmp_gt (tgt := 29) (by omega) (by omega) hx hb dX4_isName_3 (by decide) (fun c3 => ?_) (fun c3 => ?_)
    · refine lv_iconst (v := nI 0) hx hb dX4_isName_29 (by decide) ?_
      exact hz_ct ((hz_bf (fun h => absurd h.1.1 (by omega))).symm) jn30
    · refine lv_iload_n hx hb dX4_isName_6 rfl (lv_at hl 2 rfl) ?_
      refine lv_bipush (v := nI 8) hx hb dX4_isName_7 (by decide) ?_
      refine hz_icmp_eq (tgt := 25) (by omega) (by omega) hx hb dX4_isName_9 (by decide) (fun c9 => ?_) (fun c9 => ?_)
      · refine lv_iconst (v := nI 1) hx hb dX4_isName_25 (by decide) ?_
        refine lv_goto (tgt := 30) hx hb dX4_isName_26 (by decide) ?_
        exact hz_ct ((hz_bt ⟨⟨by omega, Or.inl c9⟩, fun t ht => absurd ht (by omega)⟩).symm) jn30
      · refine va_gets hx hb hZ.1 hS hown wd1 (fun _ h => h) dX4_isName_12 ?_
        refine lv_bipush (v := nI 8) hx hb dX4_isName_15 (by decide) ?_
        refine lv_iload_n hx hb dX4_isName_17 rfl (lv_at hl 1 rfl) ?_
        refine hz_imul hx hb dX4_isName_18 ?_
        refine lv_iload_n hx hb dX4_isName_19 rfl (lv_at hl 2 rfl) ?_
        refine hz_iadd hx hb dX4_isName_20 ?_
        refine hz_ti (j := 8 * i + k) hx hb hZ.2.1 hS (by omega) (by decide) dX4_isName_21 ?_
        refine lv_if_ne (tgt := 29) hx hb dX4_isName_22 (by decide) (fun c22 => ?_) (fun c22 => ?_)
        · refine lv_iconst (v := nI 0) hx hb dX4_isName_29 (by decide) ?_
          exact hz_ct ((hz_bf (fun h => h.1.2.elim c9 c22)).symm) jn30
        · refine lv_iconst (v := nI 1) hx hb dX4_isName_25 (by decide) ?_
          refine lv_goto (tgt := 30) hx hb dX4_isName_26 (by decide) ?_
          exact hz_ct ((hz_bt ⟨⟨by omega, Or.inr c22⟩, fun t ht => absurd ht (by omega)⟩).symm) jn30
  · refine lv_istore_n (lv' := [(3, .int (hz_b (pz_q T b k i 0))), (0, .ref h0), (1, .int (nI i)), (2, .int (nI k))]) hx hb dX4_isName_30 rfl hl (by decide) rfl (fun ls hl => ?_)
    refine lv_iconst (v := nI 0) hx hb dX4_isName_31 (by decide) ?_
    refine lv_istore (lv' := [(4, .int (nI 0)), (3, .int (hz_b (pz_q T b k i 0))), (0, .ref h0), (1, .int (nI i)), (2, .int (nI k))]) hx hb dX4_isName_32 hl (by decide) rfl (fun ls hl => ?_)
    have loop : ∀ (nn : Nat) (j_ : Nat) (ls : Array Slot), k - j_ < nn → (j_ ≤ k) → lv_has ls 5 [(4, .int (nI j_)), (3, .int (hz_b (pz_q T b k i j_))), (0, .ref h0), (1, .int (nI i)), (2, .int (nI k))] → W p l e (headSpec wsX4_isName { frames := 0, cells := 0, slots := 0, locals := 0 }).room s m ([.ref h0, .int (nI i), .int (nI k)] : List Value).toArray below meth c s.heap [] 0 0 (MQ below (hz_V (.int (hz_b (pz_is T b k i)))) ([.ref h0, .int (nI i), .int (nI k)] : List Value).toArray s 0 0 (fun _ => False)) (F0 m 34 ls []) := by
      intro nn
      induction nn with
      | zero => intro j_ ls hnn hj1 hl; exact absurd hnn (Nat.not_lt_zero _)
      | succ nn ihloop =>
        intro j_ ls hnn hj1 hl
        refine lv_iload hx hb dX4_isName_34 (lv_at hl 0 rfl) ?_
        refine lv_iload_n hx hb dX4_isName_36 rfl (lv_at hl 4 rfl) ?_
        refine hz_icmp_ge (tgt := 82) (by omega) (by omega) hx hb dX4_isName_37 (by decide) (fun c37 => ?_) (fun c37 => ?_)
        · refine lv_iload_n hx hb dX4_isName_82 rfl (lv_at hl 1 rfl) ?_
          exact hz_ri hx hb hr hlocks (hz_nb _) (hz_be (by rw [show j_ = k by omega]; exact pz_q_is hi hlet)) dX4_isName_83
        · refine lv_iload_n hx hb dX4_isName_40 rfl (lv_at hl 1 rfl) ?_
          refine hz_ifb_eq (tgt := 82) hx hb dX4_isName_41 (by decide) (fun c41 => ?_) (fun c41 => ?_)
          · refine lv_iload_n hx hb dX4_isName_82 rfl (lv_at hl 1 rfl) ?_
            exact hz_ri hx hb hr hlocks (hz_nb _) ((hz_bf c41).trans (hz_bf (fun z => c41 (pz_q_mono (by omega) ((pz_q_is hi hlet).mpr z)))).symm) dX4_isName_83
          · have hk8 := c41.1.1
            refine va_gets hx hb hZ.1 hS hown wd1 (fun _ h => h) dX4_isName_44 ?_
            refine lv_bipush (v := nI 8) hx hb dX4_isName_47 (by decide) ?_
            refine lv_iload_n hx hb dX4_isName_49 rfl (lv_at hl 3 rfl) ?_
            refine hz_imul hx hb dX4_isName_50 ?_
            refine lv_iload hx hb dX4_isName_51 (lv_at hl 0 rfl) ?_
            refine hz_iadd hx hb dX4_isName_53 ?_
            refine hz_ti (j := 8 * i + j_) hx hb hZ.2.1 hS (by omega) (by decide) dX4_isName_54 ?_
            refine lv_aload_n hx hb dX4_isName_55 rfl (lv_at hl 2 rfl) ?_
            refine va_get hx hb hts hinX4 hown hK hP 0 rfl rfl 6 (by decide) wd2 (fun _ h => h) hf6 dX4_isName_56 ?_
            refine lv_aload_n hx hb dX4_isName_59 rfl (lv_at hl 2 rfl) ?_
            refine va_get hx hb hts hinX4 hown hK hP 0 rfl rfl 9 (by decide) wd3 (fun _ h => h) hf9 dX4_isName_60 ?_
            refine lv_iload hx hb dX4_isName_63 (lv_at hl 0 rfl) ?_
            refine hz_iadd hx hb dX4_isName_65 ?_
            refine hz_iald (j := b + j_) hx hb hK hP 1 0 rfl rfl (by omega) (Nat.le_of_ble_eq_true rfl) dX4_isName_66 ?_
            refine hz_dia (ls := ls) (hz_b (pz_q T b k i (j_ + 1))) 75 [] (fun jn75 => ?_) ?_
            · refine lv_icmp_ne (tgt := 74) hx hb dX4_isName_67 (by decide) (fun c67 => ?_) (fun c67 => ?_)
              · refine lv_iconst (v := nI 0) hx hb dX4_isName_74 (by decide) ?_
                exact hz_ct ((hz_bf (fun h => c67 (h.2 j_ (by omega)))).symm) jn75
              · refine lv_iconst (v := nI 1) hx hb dX4_isName_70 (by decide) ?_
                refine lv_goto (tgt := 75) hx hb dX4_isName_71 (by decide) ?_
                exact hz_ct ((hz_bt (pz_q_s c41 c67)).symm) jn75
            · refine lv_istore_n (lv' := [(3, .int (hz_b (pz_q T b k i (j_ + 1)))), (4, .int (nI j_)), (0, .ref h0), (1, .int (nI i)), (2, .int (nI k))]) hx hb dX4_isName_75 rfl hl (by decide) rfl (fun ls hl => ?_)
              refine lv_iinc (v := nI (j_ + 1)) (lv' := [(4, .int (nI (j_ + 1))), (3, .int (hz_b (pz_q T b k i (j_ + 1)))), (0, .ref h0), (1, .int (nI i)), (2, .int (nI k))]) hx hb dX4_isName_76 hl (k := 1) rfl (nI_1 _) (by decide) rfl (fun ls hl => ?_)
              refine lv_goto (tgt := 34) hx hb dX4_isName_79 (by decide) ?_
              exact ihloop (j_ + 1) ls (by omega) (by omega) (lv_sub hl [0, 1, 2, 3, 4] rfl)
    exact loop _ 0 ls (Nat.lt_succ_self _) (by omega) (lv_sub hl [0, 1, 2, 3, 4] rfl)
set_option maxHeartbeats 4000000 in
set_option maxRecDepth 100000 in
theorem c4_wordHere (l : Launch) (D : va_G) (cI cJ : ClassId) (aN : Nat) (adK adV : Nat → Nat) (h0 at_ : Nat) (fs : List Value) (T : Nat → Int32) (b e_ : Nat) (hf6 : fs[6]? = some (.ref at_)) (hf9 : fs[9]? = some (.int (nI b))) (hf10 : fs[10]? = some (.int (nI e_))) (hbe : b < e_) (he : e_ ≤ 120) (hlet : ∀ j, b ≤ j → j < e_ → rg (T j) 97 122) : hz_MPz (hz_Q aN adK adV) l yX4_wordHere wsX4_wordHere { frames := 1, cells := 0, slots := 0, locals := 24 } [.ref h0] D zcl [(cI, .int), (cJ, .long)] [(h0, .inr (4, fs)), (at_, .inl (cI, 120, .inl T))] (.int (nI (pz_w T b (e_ - b)))) := by
  refine hz_mpz (cc := cX4_wordHere) (maxL := 2) (ret := (some .int)) (by decide) rfl (Nat.le_of_ble_eq_true rfl) ?_
  intro p e s m below meth c hx hb hr hts hown hlocks hml hP hK hZ ls hl
  have hS : va_S hz_no s.heap s.heap [] := va_S.rf
  have hown : s.vm.findClass RX4 = some m.cls := hown
  have hl : lv_has ls 2 [(0, .ref h0)] := hl
  have hinX4 : ∀ w ∈ u_ws RX4 TX4 16, w ∈ wsX4_wordHere := fun w h => List.mem_cons_of_mem _ (List.mem_append_right _ (h))
  have wd1 := hts (.fieldLink RX4 155 "HurtSpeechModel" "at" "I") (List.mem_of_getElem? (i := 1) rfl)
  have wd2 := hts (.fieldLink RX4 152 "HurtSpeechModel" "begin" "I") (List.mem_of_getElem? (i := 2) rfl)
  refine lv_iconst (v := nI 0) hx hb dX4_wordHere_0 (by decide) ?_
  refine lv_istore_n (lv' := [(1, .int (nI 0)), (0, .ref h0)]) hx hb dX4_wordHere_1 rfl hl (by decide) rfl (fun ls hl => ?_)
  have loop : ∀ (nn : Nat) (w_ : Nat) (ls : Array Slot), 10 - w_ < nn → (w_ ≤ 10) → (∀ j, j < w_ → ¬ pz_is T b (e_ - b) j) → lv_has ls 2 [(1, .int (nI w_)), (0, .ref h0)] → W p l e (headSpec wsX4_wordHere { frames := 1, cells := 0, slots := 0, locals := 24 }).room s m ([.ref h0] : List Value).toArray below meth c s.heap [] 0 0 (MQ below (hz_V (.int (nI (pz_w T b (e_ - b))))) ([.ref h0] : List Value).toArray s 0 0 (fun _ => False)) (F0 m 2 ls []) := by
    intro nn
    induction nn with
    | zero => intro w_ ls hnn hw1 hw2 hl; exact absurd hnn (Nat.not_lt_zero _)
    | succ nn ihloop =>
      intro w_ ls hnn hw1 hw2 hl
      refine lv_iload_n hx hb dX4_wordHere_2 rfl (lv_at hl 0 rfl) ?_
      refine lv_bipush (v := nI 10) hx hb dX4_wordHere_3 (by decide) ?_
      refine hz_icmp_ge (tgt := 31) (by omega) (by omega) hx hb dX4_wordHere_5 (by decide) (fun c5 => ?_) (fun c5 => ?_)
      · refine lv_iload_n hx hb dX4_wordHere_31 rfl (lv_at hl 0 rfl) ?_
        refine lv_bipush (v := nI 10) hx hb dX4_wordHere_32 (by decide) ?_
        refine hz_icmp_ge (tgt := 41) (by omega) (by omega) hx hb dX4_wordHere_34 (by decide) (fun c34 => ?_) (fun c34 => ?_)
        · refine lv_bipush (v := nI 23) hx hb dX4_wordHere_41 (by decide) ?_
          exact hz_ri hx hb hr hlocks rfl ((by rw [pz_w_no (fun j hj => hw2 j (by omega))])) dX4_wordHere_43
        · refine lv_iload_n hx hb dX4_wordHere_37 rfl (lv_at hl 0 rfl) ?_
          refine lv_goto (tgt := 43) hx hb dX4_wordHere_38 (by decide) ?_
          exact hz_ri hx hb hr hlocks rfl (absurd c34 (by omega)) dX4_wordHere_43
      · refine lv_aload_n hx hb dX4_wordHere_8 rfl (lv_at hl 1 rfl) ?_
        refine lv_iload_n hx hb dX4_wordHere_9 rfl (lv_at hl 0 rfl) ?_
        refine lv_aload_n hx hb dX4_wordHere_10 rfl (lv_at hl 1 rfl) ?_
        refine va_get hx hb hts hinX4 hown hK hP 0 rfl rfl 10 (by decide) wd1 (fun _ h => h) hf10 dX4_wordHere_11 ?_
        refine lv_aload_n hx hb dX4_wordHere_14 rfl (lv_at hl 1 rfl) ?_
        refine va_get hx hb hts hinX4 hown hK hP 0 rfl rfl 9 (by decide) wd2 (fun _ h => h) hf9 dX4_wordHere_15 ?_
        refine hz_isub (by omega) hx hb dX4_wordHere_18 ?_
        refine hz_cvz (As := [.int (nI w_), .int (nI (e_ - b))]) (rest := []) ⟨hx, hb, hml, hown, hts⟩ (hz_Q_ok aN adK adV) hZ hS (c4_isName l D cI cJ (aN := aN) (adK := adK) (adV := adV) (h0 := h0) (at_ := at_) (fs := fs) (T := T) (b := b) (k := e_ - b) (i := w_) (hf6 := by first | assumption | rfl) (hf9 := by first | assumption | rfl) (hi := by omega) (hk1 := by omega) (hbk := by omega) (hlet := fun j hj => hlet (b + j) (by omega) (by omega))) (cwV 2 hts gX4_wordHere_X4_isName rfl rfl rfl (by decide +kernel) ⟨Nat.le_of_ble_eq_true rfl, Nat.le_of_ble_eq_true rfl⟩) hK hP [0, 1] rfl [0, 1] rfl 0 rfl rfl rfl rfl hl.1 rfl (Nat.le_of_ble_eq_true rfl) dX4_wordHere_19 ⟨Nat.zero_le _, Nat.zero_le _⟩ ?_
        refine hz_ifb_ne (tgt := 31) hx hb dX4_wordHere_22 (by decide) (fun c22 => ?_) (fun c22 => ?_)
        · refine lv_iload_n hx hb dX4_wordHere_31 rfl (lv_at hl 0 rfl) ?_
          refine lv_bipush (v := nI 10) hx hb dX4_wordHere_32 (by decide) ?_
          refine hz_icmp_ge (tgt := 41) (by omega) (by omega) hx hb dX4_wordHere_34 (by decide) (fun c34 => ?_) (fun c34 => ?_)
          · refine lv_bipush (v := nI 23) hx hb dX4_wordHere_41 (by decide) ?_
            exact hz_ri hx hb hr hlocks rfl (absurd c34 (by omega)) dX4_wordHere_43
          · refine lv_iload_n hx hb dX4_wordHere_37 rfl (lv_at hl 0 rfl) ?_
            refine lv_goto (tgt := 43) hx hb dX4_wordHere_38 (by decide) ?_
            exact hz_ri hx hb hr hlocks rfl ((by rw [pz_w_yes hw2 c22 (by omega)])) dX4_wordHere_43
        · refine lv_iinc (v := nI (w_ + 1)) (lv' := [(1, .int (nI (w_ + 1))), (0, .ref h0)]) hx hb dX4_wordHere_25 hl (k := 0) rfl (nI_1 _) (by decide) rfl (fun ls hl => ?_)
          refine lv_goto (tgt := 2) hx hb dX4_wordHere_28 (by decide) ?_
          exact ihloop (w_ + 1) ls (by omega) (by omega) (pz_ext hw2 c22) (lv_sub hl [0, 1] rfl)
  exact loop _ 0 ls (Nat.lt_succ_self _) (by omega) (fun j hj => absurd hj (by omega)) (lv_sub hl [0, 1] rfl)
set_option maxHeartbeats 4000000 in
set_option maxRecDepth 100000 in
theorem c4_reads (l : Launch) (D : va_G) (cI cJ : ClassId) (aN : Nat) (adK adV : Nat → Nat) (h0 am ak aw af at_ ab as_ ac : Nat) (kf wp bd : Int32) (tk bg vl : Int32) (T : Nat → Int32) (n : Nat) (q : Nat) (hn : n ≤ 120) (hq : q ≤ n) : hz_MEz (hz_Q aN adK adV) l yX4_reads wsX4_reads { frames := 2, cells := 0, slots := 0, locals := 46 } [.ref h0] D zcl [(cI, .int), (cJ, .long)] [(h0, .inr (4, [.ref am, .ref ak, .ref aw, .int (kf), .ref af, .int (wp), .ref at_, .int (nI n), .int (tk), .int (bg), .int (nI q), .int (vl), .int (bd), .ref ab, .ref as_, .ref ac])), (at_, .inl (cI, 120, .inl T))] [(h0, .inr (4, [.ref am, .ref ak, .ref aw, .int (kf), .ref af, .int (wp), .ref at_, .int (nI n), .int (nI (pz_k T n q)), .int (nI (pz_b T n q)), .int (nI (pz_e T n q)), .int (nI (pz_v T n q)), .int (bd), .ref ab, .ref as_, .ref ac])), (at_, .inl (cI, 120, .inl T))] none := by
  refine hz_mez (cc := cX4_reads) (maxL := 1) (ret := none) (by decide) rfl (Nat.le_of_ble_eq_true rfl) ?_
  intro p e s m below meth c hx hb hr hts hown hlocks hml hP hK hD hZ ls hl
  have hS : va_S (hz_a [(h0, .inr (4, [.ref am, .ref ak, .ref aw, .int (kf), .ref af, .int (wp), .ref at_, .int (nI n), .int (tk), .int (bg), .int (nI q), .int (vl), .int (bd), .ref ab, .ref as_, .ref ac])), (at_, .inl (cI, 120, .inl T))]) s.heap s.heap [] := va_S.rf
  have hown : s.vm.findClass RX4 = some m.cls := hown
  have hl : lv_has ls 1 [(0, .ref h0)] := hl
  have hinX4 : ∀ w ∈ u_ws RX4 TX4 16, w ∈ wsX4_reads := fun w h => List.mem_cons_of_mem _ (List.mem_append_right _ (h))
  have wd1 := hts (.fieldLink RX4 155 "HurtSpeechModel" "at" "I") (List.mem_of_getElem? (i := 1) rfl)
  have wd2 := hts (.fieldLink RX4 152 "HurtSpeechModel" "begin" "I") (List.mem_of_getElem? (i := 2) rfl)
  have wd3 := hts (.fieldLink RX4 165 "HurtSpeechModel" "value" "I") (List.mem_of_getElem? (i := 3) rfl)
  have wd4 := hts (.fieldLink RX4 146 "HurtSpeechModel" "taped" "I") (List.mem_of_getElem? (i := 4) rfl)
  have wd5 := hts (.fieldLink RX4 168 "HurtSpeechModel" "token" "I") (List.mem_of_getElem? (i := 5) rfl)
  have wd6 := hts (.fieldLink RX4 22 "HurtSpeechModel" "tape" "[I") (List.mem_of_getElem? (i := 6) rfl)
  have lpa : ∀ (nn : Nat) (p_ : Nat) (ls : Array Slot) (H : Heap) (locs : List Loc), n - p_ < nn → (q ≤ p_) → (p_ ≤ n) → (pz_r 32 32 T n p_ = pz_b T n q) → lv_has ls 1 [(0, .ref h0)] → va_P D zcl [(h0, .inr (4, [.ref am, .ref ak, .ref aw, .int (kf), .ref af, .int (wp), .ref at_, .int (nI n), .int (tk), .int (bg), .int (nI p_), .int (vl), .int (bd), .ref ab, .ref as_, .ref ac])), (at_, .inl (cI, 120, .inl T))] H → va_D (hz_a [(h0, .inr (4, [.ref am, .ref ak, .ref aw, .int (kf), .ref af, .int (wp), .ref at_, .int (nI n), .int (tk), .int (bg), .int (nI q), .int (vl), .int (bd), .ref ab, .ref as_, .ref ac])), (at_, .inl (cI, 120, .inl T))]) [(h0, .inr (4, [.ref am, .ref ak, .ref aw, .int (kf), .ref af, .int (wp), .ref at_, .int (nI n), .int (tk), .int (bg), .int (nI p_), .int (vl), .int (bd), .ref ab, .ref as_, .ref ac])), (at_, .inl (cI, 120, .inl T))] → va_S (hz_a [(h0, .inr (4, [.ref am, .ref ak, .ref aw, .int (kf), .ref af, .int (wp), .ref at_, .int (nI n), .int (tk), .int (bg), .int (nI q), .int (vl), .int (bd), .ref ab, .ref as_, .ref ac])), (at_, .inl (cI, 120, .inl T))]) s.heap H locs → W p l e (headSpec wsX4_reads { frames := 2, cells := 0, slots := 0, locals := 46 }).room s m ([.ref h0] : List Value).toArray below meth c H locs 0 0 (MQ below (hz_E D zcl [(h0, .inr (4, [.ref am, .ref ak, .ref aw, .int (kf), .ref af, .int (wp), .ref at_, .int (nI n), .int (nI (pz_k T n q)), .int (nI (pz_b T n q)), .int (nI (pz_e T n q)), .int (nI (pz_v T n q)), .int (bd), .ref ab, .ref as_, .ref ac])), (at_, .inl (cI, 120, .inl T))] none (hz_a [(h0, .inr (4, [.ref am, .ref ak, .ref aw, .int (kf), .ref af, .int (wp), .ref at_, .int (nI n), .int (tk), .int (bg), .int (nI q), .int (vl), .int (bd), .ref ab, .ref as_, .ref ac])), (at_, .inl (cI, 120, .inl T))])) ([.ref h0] : List Value).toArray s 0 0 (hz_a [(h0, .inr (4, [.ref am, .ref ak, .ref aw, .int (kf), .ref af, .int (wp), .ref at_, .int (nI n), .int (tk), .int (bg), .int (nI q), .int (vl), .int (bd), .ref ab, .ref as_, .ref ac])), (at_, .inl (cI, 120, .inl T))])) (F0 m 0 ls []) := by
    intro nn
    induction nn with
    | zero => intro p_ ls H locs hnn hp1 hp2 hp3 hl hP hD hS; exact absurd hnn (Nat.not_lt_zero _)
    | succ nn ihlpa =>
      intro p_ ls H locs hnn hp1 hp2 hp3 hl hP hD hS
      refine lv_aload_n hx hb dX4_reads_0 rfl (lv_at hl 0 rfl) ?_
      refine lv_aload_n hx hb dX4_reads_1 rfl (lv_at hl 0 rfl) ?_
      refine va_get hx hb hts hinX4 hown hK hP 0 rfl rfl 10 (by decide) wd1 (fun _ h => h) rfl dX4_reads_2 ?_
      refine lv_bipush (v := nI 32) hx hb dX4_reads_5 (by decide) ?_
      refine lv_bipush (v := nI 32) hx hb dX4_reads_7 (by decide) ?_
      refine hz_cv (As := [.int (nI p_), .int (nI 32), .int (nI 32)]) (rest := []) ⟨hx, hb, hml, hown, hts⟩ (c4_isByte l D cI cJ (h0 := h0) (at_ := at_) (fs := [.ref am, .ref ak, .ref aw, .int (kf), .ref af, .int (wp), .ref at_, .int (nI n), .int (tk), .int (bg), .int (nI p_), .int (vl), .int (bd), .ref ab, .ref as_, .ref ac]) (T := T) (n := n) (p_ := p_) (lo := 32) (hi_ := 32) (hf6 := by first | assumption | rfl) (hf7 := by first | assumption | rfl) (hn := by omega) (hp := by omega)) (cwV 3 hts gX4_reads_X4_isByte rfl rfl rfl (by decide +kernel) ⟨Nat.le_of_ble_eq_true rfl, Nat.le_of_ble_eq_true rfl⟩) hK hP [0, 1] rfl [0, 1] rfl 0 rfl rfl rfl rfl hl.1 rfl (Nat.le_of_ble_eq_true rfl) dX4_reads_9 ⟨Nat.zero_le _, Nat.zero_le _⟩ ?_
      refine hz_ifb_eq (tgt := 28) hx hb dX4_reads_12 (by decide) (fun c12 => ?_) (fun c12 => ?_)
      · have hb0 : p_ = pz_b T n q := (pz_r_n c12).symm.trans hp3
        refine lv_aload_n hx hb dX4_reads_28 rfl (lv_at hl 0 rfl) ?_
        refine lv_aload_n hx hb dX4_reads_29 rfl (lv_at hl 0 rfl) ?_
        refine va_get hx hb hts hinX4 hown hK hP 0 rfl rfl 10 (by decide) wd1 (fun _ h => h) rfl dX4_reads_30 ?_
        refine va_put hx hb hts hinX4 tyX4 tyX4_ok nmX4 hown hK hP hD hS 0 rfl rfl 9 (by decide) wd2 (fun _ h => h) rfl (tyX4_ok 9 (by decide)) rfl rfl (Nat.le_of_ble_eq_true rfl) dX4_reads_33 (fun H locs hP hD hS => ?_)
        have hP : va_P D zcl [(h0, .inr (4, [.ref am, .ref ak, .ref aw, .int (kf), .ref af, .int (wp), .ref at_, .int (nI n), .int (tk), .int (nI p_), .int (nI p_), .int (vl), .int (bd), .ref ab, .ref as_, .ref ac])), (at_, .inl (cI, 120, .inl T))] H := hP
        have hD : va_D (hz_a [(h0, .inr (4, [.ref am, .ref ak, .ref aw, .int (kf), .ref af, .int (wp), .ref at_, .int (nI n), .int (tk), .int (bg), .int (nI q), .int (vl), .int (bd), .ref ab, .ref as_, .ref ac])), (at_, .inl (cI, 120, .inl T))]) [(h0, .inr (4, [.ref am, .ref ak, .ref aw, .int (kf), .ref af, .int (wp), .ref at_, .int (nI n), .int (tk), .int (nI p_), .int (nI p_), .int (vl), .int (bd), .ref ab, .ref as_, .ref ac])), (at_, .inl (cI, 120, .inl T))] := hD
        refine lv_aload_n hx hb dX4_reads_36 rfl (lv_at hl 0 rfl) ?_
        refine lv_iconst (v := nI 0) hx hb dX4_reads_37 (by decide) ?_
        refine va_put hx hb hts hinX4 tyX4 tyX4_ok nmX4 hown hK hP hD hS 0 rfl rfl 11 (by decide) wd3 (fun _ h => h) rfl (tyX4_ok 11 (by decide)) rfl rfl (Nat.le_of_ble_eq_true rfl) dX4_reads_38 (fun H locs hP hD hS => ?_)
        have hP : va_P D zcl [(h0, .inr (4, [.ref am, .ref ak, .ref aw, .int (kf), .ref af, .int (wp), .ref at_, .int (nI n), .int (tk), .int (nI p_), .int (nI p_), .int (nI 0), .int (bd), .ref ab, .ref as_, .ref ac])), (at_, .inl (cI, 120, .inl T))] H := hP
        have hD : va_D (hz_a [(h0, .inr (4, [.ref am, .ref ak, .ref aw, .int (kf), .ref af, .int (wp), .ref at_, .int (nI n), .int (tk), .int (bg), .int (nI q), .int (vl), .int (bd), .ref ab, .ref as_, .ref ac])), (at_, .inl (cI, 120, .inl T))]) [(h0, .inr (4, [.ref am, .ref ak, .ref aw, .int (kf), .ref af, .int (wp), .ref at_, .int (nI n), .int (tk), .int (nI p_), .int (nI p_), .int (nI 0), .int (bd), .ref ab, .ref as_, .ref ac])), (at_, .inl (cI, 120, .inl T))] := hD
        refine lv_aload_n hx hb dX4_reads_41 rfl (lv_at hl 0 rfl) ?_
        refine va_get hx hb hts hinX4 hown hK hP 0 rfl rfl 10 (by decide) wd1 (fun _ h => h) rfl dX4_reads_42 ?_
        refine lv_aload_n hx hb dX4_reads_45 rfl (lv_at hl 0 rfl) ?_
        refine va_get hx hb hts hinX4 hown hK hP 0 rfl rfl 7 (by decide) wd4 (fun _ h => h) rfl dX4_reads_46 ?_
        refine hz_icmp_ne (tgt := 61) (by omega) (by omega) hx hb dX4_reads_49 (by decide) (fun c49 => ?_) (fun c49 => ?_)
        · refine lv_aload_n hx hb dX4_reads_61 rfl (lv_at hl 0 rfl) ?_
          refine lv_aload_n hx hb dX4_reads_62 rfl (lv_at hl 0 rfl) ?_
          refine va_get hx hb hts hinX4 hown hK hP 0 rfl rfl 10 (by decide) wd1 (fun _ h => h) rfl dX4_reads_63 ?_
          refine lv_bipush (v := nI 97) hx hb dX4_reads_66 (by decide) ?_
          refine lv_bipush (v := nI 122) hx hb dX4_reads_68 (by decide) ?_
          refine hz_cv (As := [.int (nI p_), .int (nI 97), .int (nI 122)]) (rest := []) ⟨hx, hb, hml, hown, hts⟩ (c4_isByte l D cI cJ (h0 := h0) (at_ := at_) (fs := [.ref am, .ref ak, .ref aw, .int (kf), .ref af, .int (wp), .ref at_, .int (nI n), .int (tk), .int (nI p_), .int (nI p_), .int (nI 0), .int (bd), .ref ab, .ref as_, .ref ac]) (T := T) (n := n) (p_ := p_) (lo := 97) (hi_ := 122) (hf6 := by first | assumption | rfl) (hf7 := by first | assumption | rfl) (hn := by omega) (hp := by omega)) (cwV 3 hts gX4_reads_X4_isByte rfl rfl rfl (by decide +kernel) ⟨Nat.le_of_ble_eq_true rfl, Nat.le_of_ble_eq_true rfl⟩) hK hP [0, 1] rfl [0, 1] rfl 0 rfl rfl rfl rfl hl.1 rfl (Nat.le_of_ble_eq_true rfl) dX4_reads_70 ⟨Nat.zero_le _, Nat.zero_le _⟩ ?_
          refine hz_ifb_eq (tgt := 115) hx hb dX4_reads_73 (by decide) (fun c73 => ?_) (fun c73 => ?_)
          · refine lv_aload_n hx hb dX4_reads_115 rfl (lv_at hl 0 rfl) ?_
            refine lv_aload_n hx hb dX4_reads_116 rfl (lv_at hl 0 rfl) ?_
            refine va_get hx hb hts hinX4 hown hK hP 0 rfl rfl 10 (by decide) wd1 (fun _ h => h) rfl dX4_reads_117 ?_
            refine lv_bipush (v := nI 48) hx hb dX4_reads_120 (by decide) ?_
            refine lv_bipush (v := nI 57) hx hb dX4_reads_122 (by decide) ?_
            refine hz_cv (As := [.int (nI p_), .int (nI 48), .int (nI 57)]) (rest := []) ⟨hx, hb, hml, hown, hts⟩ (c4_isByte l D cI cJ (h0 := h0) (at_ := at_) (fs := [.ref am, .ref ak, .ref aw, .int (kf), .ref af, .int (wp), .ref at_, .int (nI n), .int (tk), .int (nI p_), .int (nI p_), .int (nI 0), .int (bd), .ref ab, .ref as_, .ref ac]) (T := T) (n := n) (p_ := p_) (lo := 48) (hi_ := 57) (hf6 := by first | assumption | rfl) (hf7 := by first | assumption | rfl) (hn := by omega) (hp := by omega)) (cwV 3 hts gX4_reads_X4_isByte rfl rfl rfl (by decide +kernel) ⟨Nat.le_of_ble_eq_true rfl, Nat.le_of_ble_eq_true rfl⟩) hK hP [0, 1] rfl [0, 1] rfl 0 rfl rfl rfl rfl hl.1 rfl (Nat.le_of_ble_eq_true rfl) dX4_reads_124 ⟨Nat.zero_le _, Nat.zero_le _⟩ ?_
            refine hz_ifb_eq (tgt := 208) hx hb dX4_reads_127 (by decide) (fun c127 => ?_) (fun c127 => ?_)
            · refine lv_aload_n hx hb dX4_reads_208 rfl (lv_at hl 0 rfl) ?_
              refine lv_aload_n hx hb dX4_reads_209 rfl (lv_at hl 0 rfl) ?_
              refine lv_aload_n hx hb dX4_reads_210 rfl (lv_at hl 0 rfl) ?_
              refine va_get hx hb hts hinX4 hown hK hP 0 rfl rfl 10 (by decide) wd1 (fun _ h => h) rfl dX4_reads_211 ?_
              refine lv_bipush (v := nI 59) hx hb dX4_reads_214 (by decide) ?_
              refine lv_bipush (v := nI 59) hx hb dX4_reads_216 (by decide) ?_
              refine hz_cv (As := [.int (nI p_), .int (nI 59), .int (nI 59)]) (rest := [.ref h0]) ⟨hx, hb, hml, hown, hts⟩ (c4_isByte l D cI cJ (h0 := h0) (at_ := at_) (fs := [.ref am, .ref ak, .ref aw, .int (kf), .ref af, .int (wp), .ref at_, .int (nI n), .int (tk), .int (nI p_), .int (nI p_), .int (nI 0), .int (bd), .ref ab, .ref as_, .ref ac]) (T := T) (n := n) (p_ := p_) (lo := 59) (hi_ := 59) (hf6 := by first | assumption | rfl) (hf7 := by first | assumption | rfl) (hn := by omega) (hp := by omega)) (cwV 3 hts gX4_reads_X4_isByte rfl rfl rfl (by decide +kernel) ⟨Nat.le_of_ble_eq_true rfl, Nat.le_of_ble_eq_true rfl⟩) hK hP [0, 1] rfl [0, 1] rfl 0 rfl rfl rfl rfl hl.1 rfl (Nat.le_of_ble_eq_true rfl) dX4_reads_218 ⟨Nat.zero_le _, Nat.zero_le _⟩ ?_
              refine hz_ifb_eq (tgt := 229) hx hb dX4_reads_221 (by decide) (fun c221 => ?_) (fun c221 => ?_)
              · refine lv_bipush (v := nI 23) hx hb dX4_reads_229 (by decide) ?_
                refine va_put hx hb hts hinX4 tyX4 tyX4_ok nmX4 hown hK hP hD hS 0 rfl rfl 8 (by decide) wd5 (fun _ h => h) rfl (tyX4_ok 8 (by decide)) rfl rfl (Nat.le_of_ble_eq_true rfl) dX4_reads_231 (fun H locs hP hD hS => ?_)
                have hP : va_P D zcl [(h0, .inr (4, [.ref am, .ref ak, .ref aw, .int (kf), .ref af, .int (wp), .ref at_, .int (nI n), .int (nI 23), .int (nI p_), .int (nI p_), .int (nI 0), .int (bd), .ref ab, .ref as_, .ref ac])), (at_, .inl (cI, 120, .inl T))] H := hP
                have hD : va_D (hz_a [(h0, .inr (4, [.ref am, .ref ak, .ref aw, .int (kf), .ref af, .int (wp), .ref at_, .int (nI n), .int (tk), .int (bg), .int (nI q), .int (vl), .int (bd), .ref ab, .ref as_, .ref ac])), (at_, .inl (cI, 120, .inl T))]) [(h0, .inr (4, [.ref am, .ref ak, .ref aw, .int (kf), .ref af, .int (wp), .ref at_, .int (nI n), .int (nI 23), .int (nI p_), .int (nI p_), .int (nI 0), .int (bd), .ref ab, .ref as_, .ref ac])), (at_, .inl (cI, 120, .inl T))] := hD
                refine lv_aload_n hx hb dX4_reads_234 rfl (lv_at hl 0 rfl) ?_
                refine lv_dup hx hb dX4_reads_235 rfl ?_
                refine va_get hx hb hts hinX4 hown hK hP 0 rfl rfl 10 (by decide) wd1 (fun _ h => h) rfl dX4_reads_236 ?_
                refine lv_iconst (v := nI 1) hx hb dX4_reads_239 (by decide) ?_
                refine hz_iadd hx hb dX4_reads_240 ?_
                refine va_put hx hb hts hinX4 tyX4 tyX4_ok nmX4 hown hK hP hD hS 0 rfl rfl 10 (by decide) wd1 (fun _ h => h) rfl (tyX4_ok 10 (by decide)) rfl rfl (Nat.le_of_ble_eq_true rfl) dX4_reads_241 (fun H locs hP hD hS => ?_)
                have hP : va_P D zcl [(h0, .inr (4, [.ref am, .ref ak, .ref aw, .int (kf), .ref af, .int (wp), .ref at_, .int (nI n), .int (nI 23), .int (nI p_), .int (nI (p_ + 1)), .int (nI 0), .int (bd), .ref ab, .ref as_, .ref ac])), (at_, .inl (cI, 120, .inl T))] H := hP
                have hD : va_D (hz_a [(h0, .inr (4, [.ref am, .ref ak, .ref aw, .int (kf), .ref af, .int (wp), .ref at_, .int (nI n), .int (tk), .int (bg), .int (nI q), .int (vl), .int (bd), .ref ab, .ref as_, .ref ac])), (at_, .inl (cI, 120, .inl T))]) [(h0, .inr (4, [.ref am, .ref ak, .ref aw, .int (kf), .ref af, .int (wp), .ref at_, .int (nI n), .int (nI 23), .int (nI p_), .int (nI (p_ + 1)), .int (nI 0), .int (bd), .ref ab, .ref as_, .ref ac])), (at_, .inl (cI, 120, .inl T))] := hD
                refine hz_ev hx hb hr hlocks ?_ hS dX4_reads_244
                obtain ⟨E1, E2, E3, -⟩ := pz_e4 hb0 (by omega) c73 c127 (fun z => c221 ⟨by omega, rg_1.mpr z⟩)
                rw [E1, E2, E3, ← hb0]
                exact hP
              · refine lv_bipush (v := nI 21) hx hb dX4_reads_224 (by decide) ?_
                refine lv_goto (tgt := 231) hx hb dX4_reads_226 (by decide) ?_
                refine va_put hx hb hts hinX4 tyX4 tyX4_ok nmX4 hown hK hP hD hS 0 rfl rfl 8 (by decide) wd5 (fun _ h => h) rfl (tyX4_ok 8 (by decide)) rfl rfl (Nat.le_of_ble_eq_true rfl) dX4_reads_231 (fun H locs hP hD hS => ?_)
                have hP : va_P D zcl [(h0, .inr (4, [.ref am, .ref ak, .ref aw, .int (kf), .ref af, .int (wp), .ref at_, .int (nI n), .int (nI 21), .int (nI p_), .int (nI p_), .int (nI 0), .int (bd), .ref ab, .ref as_, .ref ac])), (at_, .inl (cI, 120, .inl T))] H := hP
                have hD : va_D (hz_a [(h0, .inr (4, [.ref am, .ref ak, .ref aw, .int (kf), .ref af, .int (wp), .ref at_, .int (nI n), .int (tk), .int (bg), .int (nI q), .int (vl), .int (bd), .ref ab, .ref as_, .ref ac])), (at_, .inl (cI, 120, .inl T))]) [(h0, .inr (4, [.ref am, .ref ak, .ref aw, .int (kf), .ref af, .int (wp), .ref at_, .int (nI n), .int (nI 21), .int (nI p_), .int (nI p_), .int (nI 0), .int (bd), .ref ab, .ref as_, .ref ac])), (at_, .inl (cI, 120, .inl T))] := hD
                refine lv_aload_n hx hb dX4_reads_234 rfl (lv_at hl 0 rfl) ?_
                refine lv_dup hx hb dX4_reads_235 rfl ?_
                refine va_get hx hb hts hinX4 hown hK hP 0 rfl rfl 10 (by decide) wd1 (fun _ h => h) rfl dX4_reads_236 ?_
                refine lv_iconst (v := nI 1) hx hb dX4_reads_239 (by decide) ?_
                refine hz_iadd hx hb dX4_reads_240 ?_
                refine va_put hx hb hts hinX4 tyX4 tyX4_ok nmX4 hown hK hP hD hS 0 rfl rfl 10 (by decide) wd1 (fun _ h => h) rfl (tyX4_ok 10 (by decide)) rfl rfl (Nat.le_of_ble_eq_true rfl) dX4_reads_241 (fun H locs hP hD hS => ?_)
                have hP : va_P D zcl [(h0, .inr (4, [.ref am, .ref ak, .ref aw, .int (kf), .ref af, .int (wp), .ref at_, .int (nI n), .int (nI 21), .int (nI p_), .int (nI (p_ + 1)), .int (nI 0), .int (bd), .ref ab, .ref as_, .ref ac])), (at_, .inl (cI, 120, .inl T))] H := hP
                have hD : va_D (hz_a [(h0, .inr (4, [.ref am, .ref ak, .ref aw, .int (kf), .ref af, .int (wp), .ref at_, .int (nI n), .int (tk), .int (bg), .int (nI q), .int (vl), .int (bd), .ref ab, .ref as_, .ref ac])), (at_, .inl (cI, 120, .inl T))]) [(h0, .inr (4, [.ref am, .ref ak, .ref aw, .int (kf), .ref af, .int (wp), .ref at_, .int (nI n), .int (nI 21), .int (nI p_), .int (nI (p_ + 1)), .int (nI 0), .int (bd), .ref ab, .ref as_, .ref ac])), (at_, .inl (cI, 120, .inl T))] := hD
                refine hz_ev hx hb hr hlocks ?_ hS dX4_reads_244
                obtain ⟨E1, E2, E3, -⟩ := pz_e3 hb0 (by omega) c73 c127 (rg_1.mp c221.2)
                rw [E1, E2, E3, ← hb0]
                exact hP
            · have lpc : ∀ (nn : Nat) (e_ : Nat) (ls : Array Slot) (H : Heap) (locs : List Loc), n - e_ < nn → (p_ ≤ e_) → (e_ ≤ n) → (pz_r 48 57 T n e_ = pz_r 48 57 T n p_) → lv_has ls 1 [(0, .ref h0)] → va_P D zcl [(h0, .inr (4, [.ref am, .ref ak, .ref aw, .int (kf), .ref af, .int (wp), .ref at_, .int (nI n), .int (tk), .int (nI p_), .int (nI e_), .int (nI (pz_d T p_ (e_ - p_))), .int (bd), .ref ab, .ref as_, .ref ac])), (at_, .inl (cI, 120, .inl T))] H → va_D (hz_a [(h0, .inr (4, [.ref am, .ref ak, .ref aw, .int (kf), .ref af, .int (wp), .ref at_, .int (nI n), .int (tk), .int (bg), .int (nI q), .int (vl), .int (bd), .ref ab, .ref as_, .ref ac])), (at_, .inl (cI, 120, .inl T))]) [(h0, .inr (4, [.ref am, .ref ak, .ref aw, .int (kf), .ref af, .int (wp), .ref at_, .int (nI n), .int (tk), .int (nI p_), .int (nI e_), .int (nI (pz_d T p_ (e_ - p_))), .int (bd), .ref ab, .ref as_, .ref ac])), (at_, .inl (cI, 120, .inl T))] → va_S (hz_a [(h0, .inr (4, [.ref am, .ref ak, .ref aw, .int (kf), .ref af, .int (wp), .ref at_, .int (nI n), .int (tk), .int (bg), .int (nI q), .int (vl), .int (bd), .ref ab, .ref as_, .ref ac])), (at_, .inl (cI, 120, .inl T))]) s.heap H locs → W p l e (headSpec wsX4_reads { frames := 2, cells := 0, slots := 0, locals := 46 }).room s m ([.ref h0] : List Value).toArray below meth c H locs 0 0 (MQ below (hz_E D zcl [(h0, .inr (4, [.ref am, .ref ak, .ref aw, .int (kf), .ref af, .int (wp), .ref at_, .int (nI n), .int (nI (pz_k T n q)), .int (nI (pz_b T n q)), .int (nI (pz_e T n q)), .int (nI (pz_v T n q)), .int (bd), .ref ab, .ref as_, .ref ac])), (at_, .inl (cI, 120, .inl T))] none (hz_a [(h0, .inr (4, [.ref am, .ref ak, .ref aw, .int (kf), .ref af, .int (wp), .ref at_, .int (nI n), .int (tk), .int (bg), .int (nI q), .int (vl), .int (bd), .ref ab, .ref as_, .ref ac])), (at_, .inl (cI, 120, .inl T))])) ([.ref h0] : List Value).toArray s 0 0 (hz_a [(h0, .inr (4, [.ref am, .ref ak, .ref aw, .int (kf), .ref af, .int (wp), .ref at_, .int (nI n), .int (tk), .int (bg), .int (nI q), .int (vl), .int (bd), .ref ab, .ref as_, .ref ac])), (at_, .inl (cI, 120, .inl T))])) (F0 m 130 ls []) := by
                intro nn
                induction nn with
                | zero => intro e_ ls H locs hnn he1 he2 he3 hl hP hD hS; exact absurd hnn (Nat.not_lt_zero _)
                | succ nn ihlpc =>
                  intro e_ ls H locs hnn he1 he2 he3 hl hP hD hS
                  have hd9 := pz_d_r (T := T) (b := p_) (e_ - p_) (fun j hj => pz_r_in (n := n) (p := p_) (by omega) (by have := pz_r_ge 48 57 T n e_; omega))
                  refine lv_aload_n hx hb dX4_reads_130 rfl (lv_at hl 0 rfl) ?_
                  refine lv_aload_n hx hb dX4_reads_131 rfl (lv_at hl 0 rfl) ?_
                  refine va_get hx hb hts hinX4 hown hK hP 0 rfl rfl 10 (by decide) wd1 (fun _ h => h) rfl dX4_reads_132 ?_
                  refine lv_bipush (v := nI 48) hx hb dX4_reads_135 (by decide) ?_
                  refine lv_bipush (v := nI 57) hx hb dX4_reads_137 (by decide) ?_
                  refine hz_cv (As := [.int (nI e_), .int (nI 48), .int (nI 57)]) (rest := []) ⟨hx, hb, hml, hown, hts⟩ (c4_isByte l D cI cJ (h0 := h0) (at_ := at_) (fs := [.ref am, .ref ak, .ref aw, .int (kf), .ref af, .int (wp), .ref at_, .int (nI n), .int (tk), .int (nI p_), .int (nI e_), .int (nI (pz_d T p_ (e_ - p_))), .int (bd), .ref ab, .ref as_, .ref ac]) (T := T) (n := n) (p_ := e_) (lo := 48) (hi_ := 57) (hf6 := by first | assumption | rfl) (hf7 := by first | assumption | rfl) (hn := by omega) (hp := by omega)) (cwV 3 hts gX4_reads_X4_isByte rfl rfl rfl (by decide +kernel) ⟨Nat.le_of_ble_eq_true rfl, Nat.le_of_ble_eq_true rfl⟩) hK hP [0, 1] rfl [0, 1] rfl 0 rfl rfl rfl rfl hl.1 rfl (Nat.le_of_ble_eq_true rfl) dX4_reads_139 ⟨Nat.zero_le _, Nat.zero_le _⟩ ?_
                  refine hz_ifb_eq (tgt := 199) hx hb dX4_reads_142 (by decide) (fun c142 => ?_) (fun c142 => ?_)
                  · have hee : e_ = pz_r 48 57 T n p_ := (pz_r_n c142).symm.trans he3
                    refine lv_aload_n hx hb dX4_reads_199 rfl (lv_at hl 0 rfl) ?_
                    refine lv_bipush (v := nI 20) hx hb dX4_reads_200 (by decide) ?_
                    refine va_put hx hb hts hinX4 tyX4 tyX4_ok nmX4 hown hK hP hD hS 0 rfl rfl 8 (by decide) wd5 (fun _ h => h) rfl (tyX4_ok 8 (by decide)) rfl rfl (Nat.le_of_ble_eq_true rfl) dX4_reads_202 (fun H locs hP hD hS => ?_)
                    have hP : va_P D zcl [(h0, .inr (4, [.ref am, .ref ak, .ref aw, .int (kf), .ref af, .int (wp), .ref at_, .int (nI n), .int (nI 20), .int (nI p_), .int (nI e_), .int (nI (pz_d T p_ (e_ - p_))), .int (bd), .ref ab, .ref as_, .ref ac])), (at_, .inl (cI, 120, .inl T))] H := hP
                    have hD : va_D (hz_a [(h0, .inr (4, [.ref am, .ref ak, .ref aw, .int (kf), .ref af, .int (wp), .ref at_, .int (nI n), .int (tk), .int (bg), .int (nI q), .int (vl), .int (bd), .ref ab, .ref as_, .ref ac])), (at_, .inl (cI, 120, .inl T))]) [(h0, .inr (4, [.ref am, .ref ak, .ref aw, .int (kf), .ref af, .int (wp), .ref at_, .int (nI n), .int (nI 20), .int (nI p_), .int (nI e_), .int (nI (pz_d T p_ (e_ - p_))), .int (bd), .ref ab, .ref as_, .ref ac])), (at_, .inl (cI, 120, .inl T))] := hD
                    refine lv_goto (tgt := 244) hx hb dX4_reads_205 (by decide) ?_
                    refine hz_ev hx hb hr hlocks ?_ hS dX4_reads_244
                    obtain ⟨E1, E2, E3, -⟩ := pz_e2 hb0 c73 c127
                    rw [E1, E2, E3, ← hb0, ← hee]
                    exact hP
                  · refine lv_aload_n hx hb dX4_reads_145 rfl (lv_at hl 0 rfl) ?_
                    refine lv_aload_n hx hb dX4_reads_146 rfl (lv_at hl 0 rfl) ?_
                    refine va_get hx hb hts hinX4 hown hK hP 0 rfl rfl 11 (by decide) wd3 (fun _ h => h) rfl dX4_reads_147 ?_
                    refine lv_sipush (v := nI 999) hx hb dX4_reads_150 (by decide) ?_
                    refine hz_dia (ls := ls) (nI (pz_d T p_ (e_ - p_ + 1))) 183 [.ref h0] (fun jn183 => ?_) ?_
                    · refine hz_icmp_le (tgt := 163) (by omega) (by omega) hx hb dX4_reads_153 (by decide) (fun c153 => ?_) (fun c153 => ?_)
                      · refine lv_bipush (v := nI 10) hx hb dX4_reads_163 (by decide) ?_
                        refine lv_aload_n hx hb dX4_reads_165 rfl (lv_at hl 0 rfl) ?_
                        refine va_get hx hb hts hinX4 hown hK hP 0 rfl rfl 11 (by decide) wd3 (fun _ h => h) rfl dX4_reads_166 ?_
                        refine hz_imul hx hb dX4_reads_169 ?_
                        refine lv_aload_n hx hb dX4_reads_170 rfl (lv_at hl 0 rfl) ?_
                        refine va_get hx hb hts hinX4 hown hK hP 0 rfl rfl 6 (by decide) wd6 (fun _ h => h) rfl dX4_reads_171 ?_
                        refine lv_aload_n hx hb dX4_reads_174 rfl (lv_at hl 0 rfl) ?_
                        refine va_get hx hb hts hinX4 hown hK hP 0 rfl rfl 10 (by decide) wd1 (fun _ h => h) rfl dX4_reads_175 ?_
                        refine hz_iald (j := e_) hx hb hK hP 1 0 rfl rfl (by omega) (Nat.le_of_ble_eq_true rfl) dX4_reads_178 ?_
                        refine lv_iadd hx hb dX4_reads_179 ?_
                        refine lv_bipush (v := nI 48) hx hb dX4_reads_180 (by decide) ?_
                        refine lv_isub hx hb dX4_reads_182 ?_
                        exact hz_ct (by have h := pz_d_n (T := T) (b := p_) (k := e_ - p_) (by omega) (by rw [show p_ + (e_ - p_) = e_ by omega]; exact c142.2); rw [show p_ + (e_ - p_) = e_ by omega] at h; exact h) jn183
                      · refine lv_aload_n hx hb dX4_reads_156 rfl (lv_at hl 0 rfl) ?_
                        refine va_get hx hb hts hinX4 hown hK hP 0 rfl rfl 11 (by decide) wd3 (fun _ h => h) rfl dX4_reads_157 ?_
                        refine lv_goto (tgt := 183) hx hb dX4_reads_160 (by decide) ?_
                        exact hz_ct (by rw [pz_d_y (by omega)]) jn183
                    · refine va_put hx hb hts hinX4 tyX4 tyX4_ok nmX4 hown hK hP hD hS 0 rfl rfl 11 (by decide) wd3 (fun _ h => h) rfl (tyX4_ok 11 (by decide)) rfl rfl (Nat.le_of_ble_eq_true rfl) dX4_reads_183 (fun H locs hP hD hS => ?_)
                      have hP : va_P D zcl [(h0, .inr (4, [.ref am, .ref ak, .ref aw, .int (kf), .ref af, .int (wp), .ref at_, .int (nI n), .int (tk), .int (nI p_), .int (nI e_), .int (nI (pz_d T p_ (e_ - p_ + 1))), .int (bd), .ref ab, .ref as_, .ref ac])), (at_, .inl (cI, 120, .inl T))] H := hP
                      have hD : va_D (hz_a [(h0, .inr (4, [.ref am, .ref ak, .ref aw, .int (kf), .ref af, .int (wp), .ref at_, .int (nI n), .int (tk), .int (bg), .int (nI q), .int (vl), .int (bd), .ref ab, .ref as_, .ref ac])), (at_, .inl (cI, 120, .inl T))]) [(h0, .inr (4, [.ref am, .ref ak, .ref aw, .int (kf), .ref af, .int (wp), .ref at_, .int (nI n), .int (tk), .int (nI p_), .int (nI e_), .int (nI (pz_d T p_ (e_ - p_ + 1))), .int (bd), .ref ab, .ref as_, .ref ac])), (at_, .inl (cI, 120, .inl T))] := hD
                      refine lv_aload_n hx hb dX4_reads_186 rfl (lv_at hl 0 rfl) ?_
                      refine lv_dup hx hb dX4_reads_187 rfl ?_
                      refine va_get hx hb hts hinX4 hown hK hP 0 rfl rfl 10 (by decide) wd1 (fun _ h => h) rfl dX4_reads_188 ?_
                      refine lv_iconst (v := nI 1) hx hb dX4_reads_191 (by decide) ?_
                      refine hz_iadd hx hb dX4_reads_192 ?_
                      refine va_put hx hb hts hinX4 tyX4 tyX4_ok nmX4 hown hK hP hD hS 0 rfl rfl 10 (by decide) wd1 (fun _ h => h) rfl (tyX4_ok 10 (by decide)) rfl rfl (Nat.le_of_ble_eq_true rfl) dX4_reads_193 (fun H locs hP hD hS => ?_)
                      have hP : va_P D zcl [(h0, .inr (4, [.ref am, .ref ak, .ref aw, .int (kf), .ref af, .int (wp), .ref at_, .int (nI n), .int (tk), .int (nI p_), .int (nI (e_ + 1)), .int (nI (pz_d T p_ (e_ - p_ + 1))), .int (bd), .ref ab, .ref as_, .ref ac])), (at_, .inl (cI, 120, .inl T))] H := hP
                      have hD : va_D (hz_a [(h0, .inr (4, [.ref am, .ref ak, .ref aw, .int (kf), .ref af, .int (wp), .ref at_, .int (nI n), .int (tk), .int (bg), .int (nI q), .int (vl), .int (bd), .ref ab, .ref as_, .ref ac])), (at_, .inl (cI, 120, .inl T))]) [(h0, .inr (4, [.ref am, .ref ak, .ref aw, .int (kf), .ref af, .int (wp), .ref at_, .int (nI n), .int (tk), .int (nI p_), .int (nI (e_ + 1)), .int (nI (pz_d T p_ (e_ - p_ + 1))), .int (bd), .ref ab, .ref as_, .ref ac])), (at_, .inl (cI, 120, .inl T))] := hD
                      refine lv_goto (tgt := 130) hx hb dX4_reads_196 (by decide) ?_
                      exact ihlpc (e_ + 1) ls _ _ (by omega) (by omega) (by omega) ((pz_r_y c142.1 c142.2).symm.trans he3) (lv_sub hl [0] rfl) (by rw [show e_ + 1 - p_ = e_ - p_ + 1 by omega]; exact hP) (by rw [show e_ + 1 - p_ = e_ - p_ + 1 by omega]; exact hD) hS
              exact lpc _ p_ ls _ _ (Nat.lt_succ_self _) (by omega) (by omega) rfl (lv_sub hl [0] rfl) (by rw [Nat.sub_self]; exact hP) (by rw [Nat.sub_self]; exact hD) hS
          · have lpb : ∀ (nn : Nat) (e_ : Nat) (ls : Array Slot) (H : Heap) (locs : List Loc), n - e_ < nn → (p_ ≤ e_) → (e_ ≤ n) → (pz_r 97 122 T n e_ = pz_r 97 122 T n p_) → lv_has ls 1 [(0, .ref h0)] → va_P D zcl [(h0, .inr (4, [.ref am, .ref ak, .ref aw, .int (kf), .ref af, .int (wp), .ref at_, .int (nI n), .int (tk), .int (nI p_), .int (nI e_), .int (nI 0), .int (bd), .ref ab, .ref as_, .ref ac])), (at_, .inl (cI, 120, .inl T))] H → va_D (hz_a [(h0, .inr (4, [.ref am, .ref ak, .ref aw, .int (kf), .ref af, .int (wp), .ref at_, .int (nI n), .int (tk), .int (bg), .int (nI q), .int (vl), .int (bd), .ref ab, .ref as_, .ref ac])), (at_, .inl (cI, 120, .inl T))]) [(h0, .inr (4, [.ref am, .ref ak, .ref aw, .int (kf), .ref af, .int (wp), .ref at_, .int (nI n), .int (tk), .int (nI p_), .int (nI e_), .int (nI 0), .int (bd), .ref ab, .ref as_, .ref ac])), (at_, .inl (cI, 120, .inl T))] → va_S (hz_a [(h0, .inr (4, [.ref am, .ref ak, .ref aw, .int (kf), .ref af, .int (wp), .ref at_, .int (nI n), .int (tk), .int (bg), .int (nI q), .int (vl), .int (bd), .ref ab, .ref as_, .ref ac])), (at_, .inl (cI, 120, .inl T))]) s.heap H locs → W p l e (headSpec wsX4_reads { frames := 2, cells := 0, slots := 0, locals := 46 }).room s m ([.ref h0] : List Value).toArray below meth c H locs 0 0 (MQ below (hz_E D zcl [(h0, .inr (4, [.ref am, .ref ak, .ref aw, .int (kf), .ref af, .int (wp), .ref at_, .int (nI n), .int (nI (pz_k T n q)), .int (nI (pz_b T n q)), .int (nI (pz_e T n q)), .int (nI (pz_v T n q)), .int (bd), .ref ab, .ref as_, .ref ac])), (at_, .inl (cI, 120, .inl T))] none (hz_a [(h0, .inr (4, [.ref am, .ref ak, .ref aw, .int (kf), .ref af, .int (wp), .ref at_, .int (nI n), .int (tk), .int (bg), .int (nI q), .int (vl), .int (bd), .ref ab, .ref as_, .ref ac])), (at_, .inl (cI, 120, .inl T))])) ([.ref h0] : List Value).toArray s 0 0 (hz_a [(h0, .inr (4, [.ref am, .ref ak, .ref aw, .int (kf), .ref af, .int (wp), .ref at_, .int (nI n), .int (tk), .int (bg), .int (nI q), .int (vl), .int (bd), .ref ab, .ref as_, .ref ac])), (at_, .inl (cI, 120, .inl T))])) (F0 m 76 ls []) := by
              intro nn
              induction nn with
              | zero => intro e_ ls H locs hnn he1 he2 he3 hl hP hD hS; exact absurd hnn (Nat.not_lt_zero _)
              | succ nn ihlpb =>
                intro e_ ls H locs hnn he1 he2 he3 hl hP hD hS
                refine lv_aload_n hx hb dX4_reads_76 rfl (lv_at hl 0 rfl) ?_
                refine lv_aload_n hx hb dX4_reads_77 rfl (lv_at hl 0 rfl) ?_
                refine va_get hx hb hts hinX4 hown hK hP 0 rfl rfl 10 (by decide) wd1 (fun _ h => h) rfl dX4_reads_78 ?_
                refine lv_bipush (v := nI 97) hx hb dX4_reads_81 (by decide) ?_
                refine lv_bipush (v := nI 122) hx hb dX4_reads_83 (by decide) ?_
                refine hz_cv (As := [.int (nI e_), .int (nI 97), .int (nI 122)]) (rest := []) ⟨hx, hb, hml, hown, hts⟩ (c4_isByte l D cI cJ (h0 := h0) (at_ := at_) (fs := [.ref am, .ref ak, .ref aw, .int (kf), .ref af, .int (wp), .ref at_, .int (nI n), .int (tk), .int (nI p_), .int (nI e_), .int (nI 0), .int (bd), .ref ab, .ref as_, .ref ac]) (T := T) (n := n) (p_ := e_) (lo := 97) (hi_ := 122) (hf6 := by first | assumption | rfl) (hf7 := by first | assumption | rfl) (hn := by omega) (hp := by omega)) (cwV 3 hts gX4_reads_X4_isByte rfl rfl rfl (by decide +kernel) ⟨Nat.le_of_ble_eq_true rfl, Nat.le_of_ble_eq_true rfl⟩) hK hP [0, 1] rfl [0, 1] rfl 0 rfl rfl rfl rfl hl.1 rfl (Nat.le_of_ble_eq_true rfl) dX4_reads_85 ⟨Nat.zero_le _, Nat.zero_le _⟩ ?_
                refine hz_ifb_eq (tgt := 104) hx hb dX4_reads_88 (by decide) (fun c88 => ?_) (fun c88 => ?_)
                · have hee : e_ = pz_r 97 122 T n p_ := (pz_r_n c88).symm.trans he3
                  refine lv_aload_n hx hb dX4_reads_104 rfl (lv_at hl 0 rfl) ?_
                  refine lv_aload_n hx hb dX4_reads_105 rfl (lv_at hl 0 rfl) ?_
                  refine hz_cvz (As := []) (rest := [.ref h0]) ⟨hx, hb, hml, hown, hts⟩ (hz_Q_ok aN adK adV) hZ hS (c4_wordHere l D cI cJ (aN := aN) (adK := adK) (adV := adV) (h0 := h0) (at_ := at_) (fs := [.ref am, .ref ak, .ref aw, .int (kf), .ref af, .int (wp), .ref at_, .int (nI n), .int (tk), .int (nI p_), .int (nI e_), .int (nI 0), .int (bd), .ref ab, .ref as_, .ref ac]) (T := T) (b := p_) (e_ := e_) (hf6 := by first | assumption | rfl) (hf9 := by first | assumption | rfl) (hf10 := by first | assumption | rfl) (hbe := by have := pz_r_gt c73.1 c73.2; omega) (he := by omega) (hlet := fun j h1 h2 => pz_r_in (n := n) h1 (by omega))) (cwV 0 hts gX4_reads_X4_wordHere rfl rfl rfl (by decide +kernel) ⟨Nat.le_of_ble_eq_true rfl, Nat.le_of_ble_eq_true rfl⟩) hK hP [0, 1] rfl [0, 1] rfl 0 rfl rfl rfl rfl hl.1 rfl (Nat.le_of_ble_eq_true rfl) dX4_reads_106 ⟨Nat.zero_le _, Nat.zero_le _⟩ ?_
                  refine va_put hx hb hts hinX4 tyX4 tyX4_ok nmX4 hown hK hP hD hS 0 rfl rfl 8 (by decide) wd5 (fun _ h => h) rfl (tyX4_ok 8 (by decide)) rfl rfl (Nat.le_of_ble_eq_true rfl) dX4_reads_109 (fun H locs hP hD hS => ?_)
                  have hP : va_P D zcl [(h0, .inr (4, [.ref am, .ref ak, .ref aw, .int (kf), .ref af, .int (wp), .ref at_, .int (nI n), .int (nI (pz_w T p_ (e_ - p_))), .int (nI p_), .int (nI e_), .int (nI 0), .int (bd), .ref ab, .ref as_, .ref ac])), (at_, .inl (cI, 120, .inl T))] H := hP
                  have hD : va_D (hz_a [(h0, .inr (4, [.ref am, .ref ak, .ref aw, .int (kf), .ref af, .int (wp), .ref at_, .int (nI n), .int (tk), .int (bg), .int (nI q), .int (vl), .int (bd), .ref ab, .ref as_, .ref ac])), (at_, .inl (cI, 120, .inl T))]) [(h0, .inr (4, [.ref am, .ref ak, .ref aw, .int (kf), .ref af, .int (wp), .ref at_, .int (nI n), .int (nI (pz_w T p_ (e_ - p_))), .int (nI p_), .int (nI e_), .int (nI 0), .int (bd), .ref ab, .ref as_, .ref ac])), (at_, .inl (cI, 120, .inl T))] := hD
                  refine lv_goto (tgt := 244) hx hb dX4_reads_112 (by decide) ?_
                  refine hz_ev hx hb hr hlocks ?_ hS dX4_reads_244
                  obtain ⟨E1, E2, E3, -⟩ := pz_e1 hb0 c73
                  rw [E1, E2, E3, ← hb0, ← hee]
                  exact hP
                · refine lv_aload_n hx hb dX4_reads_91 rfl (lv_at hl 0 rfl) ?_
                  refine lv_dup hx hb dX4_reads_92 rfl ?_
                  refine va_get hx hb hts hinX4 hown hK hP 0 rfl rfl 10 (by decide) wd1 (fun _ h => h) rfl dX4_reads_93 ?_
                  refine lv_iconst (v := nI 1) hx hb dX4_reads_96 (by decide) ?_
                  refine hz_iadd hx hb dX4_reads_97 ?_
                  refine va_put hx hb hts hinX4 tyX4 tyX4_ok nmX4 hown hK hP hD hS 0 rfl rfl 10 (by decide) wd1 (fun _ h => h) rfl (tyX4_ok 10 (by decide)) rfl rfl (Nat.le_of_ble_eq_true rfl) dX4_reads_98 (fun H locs hP hD hS => ?_)
                  have hP : va_P D zcl [(h0, .inr (4, [.ref am, .ref ak, .ref aw, .int (kf), .ref af, .int (wp), .ref at_, .int (nI n), .int (tk), .int (nI p_), .int (nI (e_ + 1)), .int (nI 0), .int (bd), .ref ab, .ref as_, .ref ac])), (at_, .inl (cI, 120, .inl T))] H := hP
                  have hD : va_D (hz_a [(h0, .inr (4, [.ref am, .ref ak, .ref aw, .int (kf), .ref af, .int (wp), .ref at_, .int (nI n), .int (tk), .int (bg), .int (nI q), .int (vl), .int (bd), .ref ab, .ref as_, .ref ac])), (at_, .inl (cI, 120, .inl T))]) [(h0, .inr (4, [.ref am, .ref ak, .ref aw, .int (kf), .ref af, .int (wp), .ref at_, .int (nI n), .int (tk), .int (nI p_), .int (nI (e_ + 1)), .int (nI 0), .int (bd), .ref ab, .ref as_, .ref ac])), (at_, .inl (cI, 120, .inl T))] := hD
                  refine lv_goto (tgt := 76) hx hb dX4_reads_101 (by decide) ?_
                  exact ihlpb (e_ + 1) ls _ _ (by omega) (by omega) (by omega) ((pz_r_y c88.1 c88.2).symm.trans he3) (lv_sub hl [0] rfl) hP hD hS
            exact lpb _ p_ ls _ _ (Nat.lt_succ_self _) (by omega) (by omega) rfl (lv_sub hl [0] rfl) hP hD hS
        · refine lv_aload_n hx hb dX4_reads_52 rfl (lv_at hl 0 rfl) ?_
          refine lv_bipush (v := nI 22) hx hb dX4_reads_53 (by decide) ?_
          refine va_put hx hb hts hinX4 tyX4 tyX4_ok nmX4 hown hK hP hD hS 0 rfl rfl 8 (by decide) wd5 (fun _ h => h) rfl (tyX4_ok 8 (by decide)) rfl rfl (Nat.le_of_ble_eq_true rfl) dX4_reads_55 (fun H locs hP hD hS => ?_)
          have hP : va_P D zcl [(h0, .inr (4, [.ref am, .ref ak, .ref aw, .int (kf), .ref af, .int (wp), .ref at_, .int (nI n), .int (nI 22), .int (nI p_), .int (nI p_), .int (nI 0), .int (bd), .ref ab, .ref as_, .ref ac])), (at_, .inl (cI, 120, .inl T))] H := hP
          have hD : va_D (hz_a [(h0, .inr (4, [.ref am, .ref ak, .ref aw, .int (kf), .ref af, .int (wp), .ref at_, .int (nI n), .int (tk), .int (bg), .int (nI q), .int (vl), .int (bd), .ref ab, .ref as_, .ref ac])), (at_, .inl (cI, 120, .inl T))]) [(h0, .inr (4, [.ref am, .ref ak, .ref aw, .int (kf), .ref af, .int (wp), .ref at_, .int (nI n), .int (nI 22), .int (nI p_), .int (nI p_), .int (nI 0), .int (bd), .ref ab, .ref as_, .ref ac])), (at_, .inl (cI, 120, .inl T))] := hD
          refine lv_goto (tgt := 244) hx hb dX4_reads_58 (by decide) ?_
          refine hz_ev hx hb hr hlocks ?_ hS dX4_reads_244
          obtain ⟨E1, E2, E3, -⟩ := pz_e0 hb0 (by omega)
          rw [E1, E2, E3, ← hb0]
          exact hP
      · refine lv_aload_n hx hb dX4_reads_15 rfl (lv_at hl 0 rfl) ?_
        refine lv_dup hx hb dX4_reads_16 rfl ?_
        refine va_get hx hb hts hinX4 hown hK hP 0 rfl rfl 10 (by decide) wd1 (fun _ h => h) rfl dX4_reads_17 ?_
        refine lv_iconst (v := nI 1) hx hb dX4_reads_20 (by decide) ?_
        refine hz_iadd hx hb dX4_reads_21 ?_
        refine va_put hx hb hts hinX4 tyX4 tyX4_ok nmX4 hown hK hP hD hS 0 rfl rfl 10 (by decide) wd1 (fun _ h => h) rfl (tyX4_ok 10 (by decide)) rfl rfl (Nat.le_of_ble_eq_true rfl) dX4_reads_22 (fun H locs hP hD hS => ?_)
        have hP : va_P D zcl [(h0, .inr (4, [.ref am, .ref ak, .ref aw, .int (kf), .ref af, .int (wp), .ref at_, .int (nI n), .int (tk), .int (bg), .int (nI (p_ + 1)), .int (vl), .int (bd), .ref ab, .ref as_, .ref ac])), (at_, .inl (cI, 120, .inl T))] H := hP
        have hD : va_D (hz_a [(h0, .inr (4, [.ref am, .ref ak, .ref aw, .int (kf), .ref af, .int (wp), .ref at_, .int (nI n), .int (tk), .int (bg), .int (nI q), .int (vl), .int (bd), .ref ab, .ref as_, .ref ac])), (at_, .inl (cI, 120, .inl T))]) [(h0, .inr (4, [.ref am, .ref ak, .ref aw, .int (kf), .ref af, .int (wp), .ref at_, .int (nI n), .int (tk), .int (bg), .int (nI (p_ + 1)), .int (vl), .int (bd), .ref ab, .ref as_, .ref ac])), (at_, .inl (cI, 120, .inl T))] := hD
        refine lv_goto (tgt := 0) hx hb dX4_reads_25 (by decide) ?_
        exact ihlpa (p_ + 1) ls _ _ (by omega) (by omega) (by omega) ((pz_r_y c12.1 c12.2).symm.trans hp3) (lv_sub hl [0] rfl) hP hD hS
  exact lpa _ q ls _ _ (Nat.lt_succ_self _) (by omega) (by omega) rfl (lv_sub hl [0] rfl) hP hD hS
