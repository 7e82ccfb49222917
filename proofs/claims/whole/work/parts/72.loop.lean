/-! the law's loop -/
set_option maxHeartbeats 4000000 in
set_option maxRecDepth 100000 in
theorem lw_switch {p : Program} {l : Launch} {e : Env} {s : State} {m : MethodId} {below : List Frame} {meth : Method} {c : Code} {D : va_G} {cI cJ : ClassId} {b L : Nat} {xs : Nat → Int32} {ad : Nat → Nat} {aN : Nat} {adK adV : Nat → Nat} (C0 : lw_C p s m c b L xs D cI cJ aN adK adV) {i : Nat} (hi : i + 6 ≤ L) {ls : Array Slot} (hl : lv_has ls 4 [(0, .ref b), (1, .ref (ad 0)), (2, .ref (ad 38)), (3, .int (nI i))]) (kk : lw_G p l e s m below meth c b D cI cJ ad ls 1415) : lw_G p l e s m below meth c b D cI cJ ad ls 27 := by
  obtain ⟨hx, hb, hml, hown, hts, hX, hbl, hL, hK, hQ⟩ := id C0
  intro M K R F B S C T n kf tk sa so nu G wp tk2 bg ap vl bd H locs hI hIK hZ hn hP hD hS
  refine lv_aload_n hx hb dL_law_27 rfl (lv_at hl 0 rfl) ?_
  refine lv_iload_n hx hb dL_law_28 rfl (lv_at hl 3 rfl) ?_
  refine va_sld hx hb hX hbl (A := lw_Ah s) (Nat.not_le.mpr hbl) hS (vp_in_nI (show i < L by omega) (by omega)) dL_law_29 ?_
  refine lv_bipush (v := nI 63) hx hb dL_law_30 (by decide) ?_
  refine lv_iand hx hb dL_law_32 ?_
  refine lv_topi (fun x ex => ?_)
  by_cases hr : hz_in x 38
  · obtain ⟨j, hj, e⟩ := hz_in_of hr (by decide)
    subst e
    clear ex hr
    rcases (show j = 0 ∨ j = 1 ∨ j = 2 ∨ j = 3 ∨ j = 4 ∨ j = 5 ∨ j = 6 ∨ j = 7 ∨ j = 8 ∨ j = 9 ∨ j = 10 ∨ j = 11 ∨ j = 12 ∨ j = 13 ∨ j = 14 ∨ j = 15 ∨ j = 16 ∨ j = 17 ∨ j = 18 ∨ j = 19 ∨ j = 20 ∨ j = 21 ∨ j = 22 ∨ j = 23 ∨ j = 24 ∨ j = 25 ∨ j = 26 ∨ j = 27 ∨ j = 28 ∨ j = 29 ∨ j = 30 ∨ j = 31 ∨ j = 32 ∨ j = 33 ∨ j = 34 ∨ j = 35 ∨ j = 36 ∨ j = 37 by omega) with rfl | rfl | rfl | rfl | rfl | rfl | rfl | rfl | rfl | rfl | rfl | rfl | rfl | rfl | rfl | rfl | rfl | rfl | rfl | rfl | rfl | rfl | rfl | rfl | rfl | rfl | rfl | rfl | rfl | rfl | rfl | rfl | rfl | rfl | rfl | rfl | rfl | rfl
    · exact lv_tableIn (off := 167) (tgt := 200) hx hb dL_law_33 (by decide) (by decide) (by decide) (by decide) (la_delegate C0 hi hl kk M K R F B S C T n kf tk sa so nu G wp tk2 bg ap vl bd H locs hI hIK hZ hn hP hD hS)
    · exact lv_tableIn (off := 190) (tgt := 223) hx hb dL_law_33 (by decide) (by decide) (by decide) (by decide) (la_of C0 hi hl kk M K R F B S C T n kf tk sa so nu G wp tk2 bg ap vl bd H locs hI hIK hZ hn hP hD hS)
    · exact lv_tableIn (off := 223) (tgt := 256) hx hb dL_law_33 (by decide) (by decide) (by decide) (by decide) (la_set C0 hi hl kk M K R F B S C T n kf tk sa so nu G wp tk2 bg ap vl bd H locs hI hIK hZ hn hP hD hS)
    · exact lv_tableIn (off := 266) (tgt := 299) hx hb dL_law_33 (by decide) (by decide) (by decide) (by decide) (la_turn C0 hi hl kk M K R F B S C T n kf tk sa so nu G wp tk2 bg ap vl bd H locs hI hIK hZ hn hP hD hS)
    · exact lv_tableIn (off := 299) (tgt := 332) hx hb dL_law_33 (by decide) (by decide) (by decide) (by decide) (la_as C0 hi hl kk M K R F B S C T n kf tk sa so nu G wp tk2 bg ap vl bd H locs hI hIK hZ hn hP hD hS)
    · exact lv_tableIn (off := 332) (tgt := 365) hx hb dL_law_33 (by decide) (by decide) (by decide) (by decide) (la_speech C0 hi hl kk M K R F B S C T n kf tk sa so nu G wp tk2 bg ap vl bd H locs hI hIK hZ hn hP hD hS)
    · exact lv_tableIn (off := 385) (tgt := 418) hx hb dL_law_33 (by decide) (by decide) (by decide) (by decide) (la_speechOf C0 hi hl kk M K R F B S C T n kf tk sa so nu G wp tk2 bg ap vl bd H locs hI hIK hZ hn hP hD hS)
    · exact lv_tableIn (off := 418) (tgt := 451) hx hb dL_law_33 (by decide) (by decide) (by decide) (by decide) (la_tell C0 hi hl kk M K R F B S C T n kf tk sa so nu G wp tk2 bg ap vl bd H locs hI hIK hZ hn hP hD hS)
    · exact lv_tableIn (off := 461) (tgt := 494) hx hb dL_law_33 (by decide) (by decide) (by decide) (by decide) (la_loses C0 hi hl kk M K R F B S C T n kf tk sa so nu G wp tk2 bg ap vl bd H locs hI hIK hZ hn hP hD hS)
    · exact lv_tableIn (off := 494) (tgt := 527) hx hb dL_law_33 (by decide) (by decide) (by decide) (by decide) (la_renders C0 hi hl kk M K R F B S C T n kf tk sa so nu G wp tk2 bg ap vl bd H locs hI hIK hZ hn hP hD hS)
    · exact lv_tableIn (off := 527) (tgt := 560) hx hb dL_law_33 (by decide) (by decide) (by decide) (by decide) (la_hurts C0 hi hl kk M K R F B S C T n kf tk sa so nu G wp tk2 bg ap vl bd H locs hI hIK hZ hn hP hD hS)
    · exact lv_tableIn (off := 550) (tgt := 583) hx hb dL_law_33 (by decide) (by decide) (by decide) (by decide) (la_sessions C0 hi hl kk M K R F B S C T n kf tk sa so nu G wp tk2 bg ap vl bd H locs hI hIK hZ hn hP hD hS)
    · exact lv_tableIn (off := 573) (tgt := 606) hx hb dL_law_33 (by decide) (by decide) (by decide) (by decide) (la_now C0 hi hl kk M K R F B S C T n kf tk sa so nu G wp tk2 bg ap vl bd H locs hI hIK hZ hn hP hD hS)
    · exact lv_tableIn (off := 596) (tgt := 629) hx hb dL_law_33 (by decide) (by decide) (by decide) (by decide) (la_on C0 hi hl kk M K R F B S C T n kf tk sa so nu G wp tk2 bg ap vl bd H locs hI hIK hZ hn hP hD hS)
    · exact lv_tableIn (off := 639) (tgt := 672) hx hb dL_law_33 (by decide) (by decide) (by decide) (by decide) (la_left C0 hi hl kk M K R F B S C T n kf tk sa so nu G wp tk2 bg ap vl bd H locs hI hIK hZ hn hP hD hS)
    · exact lv_tableIn (off := 672) (tgt := 705) hx hb dL_law_33 (by decide) (by decide) (by decide) (by decide) (la_weeps C0 hi hl kk M K R F B S C T n kf tk sa so nu G wp tk2 bg ap vl bd H locs hI hIK hZ hn hP hD hS)
    · exact lv_tableIn (off := 695) (tgt := 728) hx hb dL_law_33 (by decide) (by decide) (by decide) (by decide) (la_when C0 hi hl kk M K R F B S C T n kf tk sa so nu G wp tk2 bg ap vl bd H locs hI hIK hZ hn hP hD hS)
    · exact lv_tableIn (off := 728) (tgt := 761) hx hb dL_law_33 (by decide) (by decide) (by decide) (by decide) (la_tongue C0 hi hl kk M K R F B S C T n kf tk sa so nu G wp tk2 bg ap vl bd H locs hI hIK hZ hn hP hD hS)
    · exact lv_tableIn (off := 761) (tgt := 794) hx hb dL_law_33 (by decide) (by decide) (by decide) (by decide) (la_aim C0 hi hl kk M K R F B S C T n kf tk sa so nu G wp tk2 bg ap vl bd H locs hI hIK hZ hn hP hD hS)
    · exact lv_tableIn (off := 804) (tgt := 837) hx hb dL_law_33 (by decide) (by decide) (by decide) (by decide) (la_kind C0 hi hl kk M K R F B S C T n kf tk sa so nu G wp tk2 bg ap vl bd H locs hI hIK hZ hn hP hD hS)
    · exact lv_tableIn (off := 837) (tgt := 870) hx hb dL_law_33 (by decide) (by decide) (by decide) (by decide) (la_pride C0 hi hl kk M K R F B S C T n kf tk sa so nu G wp tk2 bg ap vl bd H locs hI hIK hZ hn hP hD hS)
    · exact lv_tableIn (off := 880) (tgt := 913) hx hb dL_law_33 (by decide) (by decide) (by decide) (by decide) (la_learn C0 hi hl kk M K R F B S C T n kf tk sa so nu G wp tk2 bg ap vl bd H locs hI hIK hZ hn hP hD hS)
    · exact lv_tableIn (off := 913) (tgt := 946) hx hb dL_law_33 (by decide) (by decide) (by decide) (by decide) (la_withdraw C0 hi hl kk M K R F B S C T n kf tk sa so nu G wp tk2 bg ap vl bd H locs hI hIK hZ hn hP hD hS)
    · exact lv_tableIn (off := 936) (tgt := 969) hx hb dL_law_33 (by decide) (by decide) (by decide) (by decide) (la_saddest C0 hi hl kk M K R F B S C T n kf tk sa so nu G wp tk2 bg ap vl bd H locs hI hIK hZ hn hP hD hS)
    · exact lv_tableIn (off := 959) (tgt := 992) hx hb dL_law_33 (by decide) (by decide) (by decide) (by decide) (la_feed C0 hi hl kk M K R F B S C T n kf tk sa so nu G wp tk2 bg ap vl bd H locs hI hIK hZ hn hP hD hS)
    · exact lv_tableIn (off := 992) (tgt := 1025) hx hb dL_law_33 (by decide) (by decide) (by decide) (by decide) (la_wipe C0 hi hl kk M K R F B S C T n kf tk sa so nu G wp tk2 bg ap vl bd H locs hI hIK hZ hn hP hD hS)
    · exact lv_tableIn (off := 1005) (tgt := 1038) hx hb dL_law_33 (by decide) (by decide) (by decide) (by decide) (la_congress C0 hi hl kk M K R F B S C T n kf tk sa so nu G wp tk2 bg ap vl bd H locs hI hIK hZ hn hP hD hS)
    · exact lv_tableIn (off := 1018) (tgt := 1051) hx hb dL_law_33 (by decide) (by decide) (by decide) (by decide) (la_sheet C0 hi hl kk M K R F B S C T n kf tk sa so nu G wp tk2 bg ap vl bd H locs hI hIK hZ hn hP hD hS)
    · exact lv_tableIn (off := 1061) (tgt := 1094) hx hb dL_law_33 (by decide) (by decide) (by decide) (by decide) (la_write C0 hi hl kk M K R F B S C T n kf tk sa so nu G wp tk2 bg ap vl bd H locs hI hIK hZ hn hP hD hS)
    · exact lv_tableIn (off := 1135) (tgt := 1168) hx hb dL_law_33 (by decide) (by decide) (by decide) (by decide) (la_copy C0 hi hl kk M K R F B S C T n kf tk sa so nu G wp tk2 bg ap vl bd H locs hI hIK hZ hn hP hD hS)
    · exact lv_tableIn (off := 1198) (tgt := 1231) hx hb dL_law_33 (by decide) (by decide) (by decide) (by decide) (la_lays C0 hi hl kk M K R F B S C T n kf tk sa so nu G wp tk2 bg ap vl bd H locs hI hIK hZ hn hP hD hS)
    · exact lv_tableIn (off := 1221) (tgt := 1254) hx hb dL_law_33 (by decide) (by decide) (by decide) (by decide) (la_book C0 hi hl kk M K R F B S C T n kf tk sa so nu G wp tk2 bg ap vl bd H locs hI hIK hZ hn hP hD hS)
    · exact lv_tableIn (off := 1254) (tgt := 1287) hx hb dL_law_33 (by decide) (by decide) (by decide) (by decide) (la_read C0 hi hl kk M K R F B S C T n kf tk sa so nu G wp tk2 bg ap vl bd H locs hI hIK hZ hn hP hD hS)
    · exact lv_tableIn (off := 1297) (tgt := 1330) hx hb dL_law_33 (by decide) (by decide) (by decide) (by decide) (la_image C0 hi hl kk M K R F B S C T n kf tk sa so nu G wp tk2 bg ap vl bd H locs hI hIK hZ hn hP hD hS)
    · exact lv_tableIn (off := 1310) (tgt := 1343) hx hb dL_law_33 (by decide) (by decide) (by decide) (by decide) (la_undo C0 hi hl kk M K R F B S C T n kf tk sa so nu G wp tk2 bg ap vl bd H locs hI hIK hZ hn hP hD hS)
    · exact lv_tableIn (off := 1323) (tgt := 1356) hx hb dL_law_33 (by decide) (by decide) (by decide) (by decide) (la_tear C0 hi hl kk M K R F B S C T n kf tk sa so nu G wp tk2 bg ap vl bd H locs hI hIK hZ hn hP hD hS)
    · exact lv_tableIn (off := 1336) (tgt := 1369) hx hb dL_law_33 (by decide) (by decide) (by decide) (by decide) (la_count C0 hi hl kk M K R F B S C T n kf tk sa so nu G wp tk2 bg ap vl bd H locs hI hIK hZ hn hP hD hS)
    · exact lv_tableIn (off := 1359) (tgt := 1392) hx hb dL_law_33 (by decide) (by decide) (by decide) (by decide) (la_status C0 hi hl kk M K R F B S C T n kf tk sa so nu G wp tk2 bg ap vl bd H locs hI hIK hZ hn hP hD hS)
  · refine lv_tableOut (tgt := 1415) hx hb dL_law_33 ?_ (by decide) (kk M K R F B S C T n kf tk sa so nu G wp tk2 bg ap vl bd H locs hI hIK hZ hn hP hD hS)
    unfold hz_in at hr
    omega
set_option maxHeartbeats 4000000 in
set_option maxRecDepth 100000 in
theorem lw_loop {p : Program} {l : Launch} {e : Env} {s : State} {m : MethodId} {below : List Frame} {meth : Method} {c : Code} {D : va_G} {cI cJ : ClassId} {b L : Nat} {xs : Nat → Int32} {ad : Nat → Nat} {aN : Nat} {adK adV : Nat → Nat} (C0 : lw_C p s m c b L xs D cI cJ aN adK adV) (hret : meth.sig.returnType = ret) (hlocks : meth.locks = false) : ∀ (k i : Nat), L + 1 ≤ i + k → i ≤ L → ∀ ls : Array Slot, lv_has ls 4 [(0, .ref b), (1, .ref (ad 0)), (2, .ref (ad 38)), (3, .int (nI i))] → lw_G p l e s m below meth c b D cI cJ ad ls 18 := by
  intro k
  induction k with
  | zero => intro i h1 h2; exact absurd h1 (by omega)
  | succ k ih =>
    intro i hk hiL ls hl
    obtain ⟨hx, hb, hml, hown, hts, hX, hbl, hL, hK, hQ⟩ := id C0
    intro M K R F B S C T n kf tk sa so nu G wp tk2 bg ap vl bd H locs hI hIK hZ hn hP hD hS
    refine lv_iload_n hx hb dL_law_18 rfl (lv_at hl 3 rfl) ?_
    refine lv_aload_n hx hb dL_law_19 rfl (lv_at hl 0 rfl) ?_
    refine va_slen hx hb hX hbl (A := lw_Ah s) (Nat.not_le.mpr hbl) hS dL_law_20 ?_
    refine lv_bipush (v := nI 6) hx hb dL_law_21 (by decide) ?_
    refine lv_isub hx hb dL_law_23 ?_
    refine lv_icmp_gt (tgt := 1421) hx hb dL_law_24 (by decide) (fun h => ?_) (fun h => ?_)
    · refine lv_iconst (v := 1) hx hb dL_law_1421 (by decide) ?_
      refine va_forget (fun q hq => hS.2.2 q hq) ?_
      exact lw_ret hx hb hret hlocks dL_law_1422
    · have hi : i + 6 ≤ L := by
        have h2 := Int32.not_lt.mp h
        rw [fa_le, nI_toInt (by omega), show Int32.ofNat L = nI L from rfl, pk_sub_toInt (by omega) (by decide)] at h2
        omega
      have kk : lw_G p l e s m below meth c b D cI cJ ad ls 1415 := by
        intro M K R F B S C T n kf tk sa so nu G wp tk2 bg ap vl bd H locs hI hIK hZ hn hP hD hS
        refine lv_iinc (v := nI (i + 6)) (lv' := [(3, .int (nI (i + 6))), (0, .ref b), (1, .ref (ad 0)), (2, .ref (ad 38))]) hx hb dL_law_1415 hl (k := 3) rfl (by rw [show Int32.ofInt 6 = nI 6 by decide, nI_add]) (by decide) rfl (fun ls hl => ?_)
        refine lv_goto (tgt := 18) hx hb dL_law_1418 (by decide) ?_
        exact ih (i + 6) (by omega) (by omega) ls (lv_sub hl [1, 2, 3, 0] rfl) M K R F B S C T n kf tk sa so nu G wp tk2 bg ap vl bd H locs hI hIK hZ hn hP hD hS
      exact lw_switch C0 hi hl kk M K R F B S C T n kf tk sa so nu G wp tk2 bg ap vl bd H locs hI hIK hZ hn hP hD hS
