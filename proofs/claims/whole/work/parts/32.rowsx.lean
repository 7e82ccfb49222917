/-! a third kind of contract: cells written, some of them with numbers that don't matter (u) -/
def hz_X {S : Type} (D : va_G) (cl : List vw_C) (wf : S → va_W) (r : Option Value) (A : Nat → Prop) : Array Value → State → Outcome → State → Prop := fun _ st o t => o = .returned r ∧ (∃ u : S, va_P D cl (wf u) t.heap) ∧ va_F A st t
abbrev hz_MX {S : Type} (l : Launch) (y : MethodName) (ws : List Cond) (rm : Room) (av : List Value) (D : va_G) (cl : List vw_C) (tys : List (ClassId × FieldType)) (w : va_W) (wf : S → va_W) (r : Option Value) : Prop := Met l y ws rm (hz_W av D cl tys w) (hz_X D cl wf r (hz_a w)) 0 0 (hz_a w)
section HX
variable {p : Program} {l : Launch} {e : Env} {R : Room} {s : State} {m : MethodId} {args : Array Value} {below : List Frame} {meth : Method} {c : Code} {H : Heap} {locs : List Loc} {cells slots : Nat} {Q : State → Prop}
variable {pc : Nat} {ls : Array Slot} {rest : List Value} {cc : ByteArray} {D : va_G} {cl : List vw_C} {tys tysc : List (ClassId × FieldType)} {A : Nat → Prop} {H0 : Heap} {w wc : va_W}
theorem hz_mx {S : Type} {wf : S → va_W} {y : MethodName} {ws ws' : List Cond} {rm : Room} {av : List Value} {r : Option Value} {maxL : Nat} {ret : Option FieldType} (hy : plainName y.cls = true) (hw : ws = Cond.code y cc maxL ret :: ws') (hn : (lg_sl av).length ≤ maxL)
    (body : ∀ (p : Program) (e : Env) (s : State) (m : MethodId) (below : List Frame) (meth : Method) (c : Code), p.tables.exec = Jvm.exec → c.code = cc → meth.sig.returnType = ret → (∀ w ∈ ws, w.before av.toArray s = true) → s.vm.findClass y.cls = some m.cls → meth.locks = false → c.maxLocals = maxL → va_P D cl w s.heap → va_K D cl tys s → va_D (hz_a w) w → ∀ ls : Array Slot, lv_has ls maxL (lv_args 0 av) →
      W p l e (headSpec ws rm).room s m av.toArray below meth c s.heap [] 0 0 (MQ below (hz_X D cl wf r (hz_a w)) av.toArray s 0 0 (hz_a w)) (F0 m 0 ls [])) : hz_MX l y ws rm av D cl tys w wf r := by
  refine Met.ofW (cc := cc) (maxL := maxL) (ret := ret) hy hw ?_
  intro p e s m args below meth c s₁ B hml hv
  obtain ⟨rfl, hP, hK, hD⟩ := hv
  rw [lg_entry_eq]
  exact body p e s m below meth c B.exec B.bytes B.returns (atoms_spec (ws := ws) B.pre) (findClass_of_methodNamed B.named) B.notSynchronized hml hP hK (hz_D_self hD) _ (lv_entry av hn)
theorem hz_xi {S : Type} {wf : S → va_W} {v r : Int32} {ty : FieldType} (hx : p.tables.exec = Jvm.exec) (hb : c.code = cc) (hr : meth.sig.returnType = some ty) (hlocks : meth.locks = false) (hn : narrow ty (.int v) = .int v) (u : S) (hP : va_P D cl (wf u) H) (hS : va_S A s.heap H locs) (hv : v = r) (hdg : decode cc pc = .ok (.ireturn, 1)) : W p l e R s m args below meth c H locs 0 0 (MQ below (hz_X D cl wf (some (.int r)) A) args s 0 0 A) (F0 m pc ls [.int v]) := by
  subst hv
  exact W.zret hx hb hr hn (fun t ht _ => ⟨rfl, ⟨u, by rw [ht]; exact hP⟩, hS.F ht⟩) hS.2.2 hdg hlocks
theorem hz_runX {S : Type} {wf wf' : S → va_W} {r : Option Value} {a : Array Value} {st0 : List Value} (hr : va_Run p l e R s m args below meth c H locs cells slots 0 0 (F0 m pc ls st0) rest (hz_X D cl wf r (hz_a wc) a) (hz_a wc)) (hP : va_P D cl w H) (hD : va_D A w) (hS : va_S A H0 H locs) (isC : List Nat) (hC : isC.map (fun i => w[i]?) = wc.map some) (ha : ∀ u, (wf u).map Prod.fst = wc.map Prod.fst) (hw : ∀ u, hz_pt w isC (wf u) = wf' u)
    (kk : ∀ (u : S) (H1 : Heap) (locs1 : List Loc), va_P D cl (wf' u) H1 → va_D A (wf' u) → va_S A H0 H1 locs1 → W p l e R s m args below meth c H1 locs1 cells slots Q (F0 m (pc + 3) ls (r.toList ++ rest))) : W p l e R s m args below meth c H locs cells slots Q (F0 m pc ls st0) := by
  intro T hT X
  obtain ⟨v, st₀, t, T', L, h0, X', hL, e1, e2, ⟨hv, ⟨u, hp⟩, hF⟩, st⟩ := hr T hT X
  have hr2 : ∀ T2 : State, T2 = T → va_Run p l e R s m args below meth c H locs cells slots 0 0 (F0 m pc ls st0) rest (hz_E D cl (wf u) r (hz_a wc) a) (hz_a wc) → True := fun _ _ _ => trivial
  have at' : ∀ (k : Nat) (q : Nat × va_E), wc[k]? = some q → ∃ i, isC[k]? = some i ∧ w[i]? = some q := by
    intro k q hq
    have h1 : (isC.map (fun i => w[i]?))[k]? = some (some q) := by rw [hC, List.getElem?_map, hq]; rfl
    rw [List.getElem?_map] at h1
    cases hi : isC[k]? with
    | none => rw [hi] at h1; cases h1
    | some i => rw [hi] at h1; exact ⟨i, rfl, Option.some.inj h1⟩
  have hlen : isC.length = wc.length := by have := congrArg List.length hC; simpa using this
  have hlen' : (wf u).length = wc.length := by have := congrArg List.length (ha u); simpa using this
  have hFA : ∀ q, hz_a wc q → A q := fun q ⟨k, e, h⟩ => by
    obtain ⟨i, -, h2⟩ := at' k _ h
    exact hD.2 i _ h2
  have hD' : va_D A (wf' u) := by
    refine hz_D_adr ?_ hD
    rw [← hw u]
    refine hz_pt_adr isC (wf u) w (fun j i e h1 h2 => ?_)
    have h3 : ((wf u).map Prod.fst)[j]? = some e.1 := by rw [List.getElem?_map, h2]; rfl
    rw [ha u, List.getElem?_map] at h3
    cases hq : wc[j]? with
    | none => rw [hq] at h3; cases h3
    | some q =>
      rw [hq] at h3
      obtain ⟨i2, g1, g2⟩ := at' j q hq
      rw [h1] at g1
      cases g1
      rw [List.getElem?_map, g2]
      exact h3
  obtain ⟨hz, hk⟩ := hF
  cases hv
  rw [h0] at hz hk
  have hP' : va_P D cl (wf' u) T'.heap := by
    intro k q hq
    rw [← hw u] at hq
    rcases hz_pt_get isC (wf u) w (by rw [hlen, hlen']) k q hq with ⟨j, h1, h2⟩ | ⟨h1, h2⟩
    · rw [e1]; exact hp j q h2
    · have hlt := (hP k q h1).lt
      refine (hP k q h1).kept ?_
      rw [e1]
      refine hk q.1 hlt (fun ⟨k2, e, h3⟩ => ?_)
      obtain ⟨i, g1, g2⟩ := at' k2 _ h3
      have := hD.1 k i q (q.1, e) h1 g2 rfl
      subst this
      exact h2 (List.mem_of_getElem? g1)
  obtain ⟨t2, a1, b1⟩ := kk u T'.heap (locs ++ L) hP' hD'
    ⟨Nat.le_trans hS.1 (by rw [e1]; exact hz), fun q h1 h2 => by rw [e1, hk q (Nat.lt_of_lt_of_le h1 hS.1) (fun z => h2 (hFA q z))]; exact hS.2.1 q h1 h2, fun q hq => by
      rcases List.mem_append.mp hq with h | h
      · exact hS.2.2 q h
      · exact hFA _ (hL q h)⟩ T' rfl X'
  exact ⟨t2, st t2 a1, b1⟩
/-- a call of a method of an object that writes cells, some with numbers that don't matter -/
theorem hz_cx {S : Type} {wf wf' : S → va_W} {bytes : ByteArray} {nL maxL index n : Nat} {own C : String} {y : MethodName} {ret : Option FieldType} {ws Ts : List Cond} {rm : Room} {b : Addr} {As st0 : List Value} {r : Option Value} (S0 : CallFix p m c cc nL s args Ts own) (hM : hz_MX l y ws rm (.ref b :: As) D cl tysc wc wf r) (cw : CallW R s args own C index y bytes maxL ret ws rm 0 0 n) (hK : va_K D cl tys s) (hP : va_P D cl w H) (hD : va_D A w) (hS : va_S A H0 H locs) (isC : List Nat) (hC : isC.map (fun i => w[i]?) = wc.map some) (hnd : va_nd isC = true) (ha : ∀ u, (wf u).map Prod.fst = wc.map Prod.fst) (hw : ∀ u, hz_pt w isC (wf u) = wf' u) (isK : List Nat) (hT : isK.filterMap (fun i => tys[i]?) = tysc)
    (q0 : Nat) {ci : Nat} {fs : List Value} {qc : vw_C} (he : w[q0]? = some (b, .inr (ci, fs))) (hc : cl[ci]? = some qc) (hq : qc.1 = C) (hn : As.length = n) (hsize : ls.size = nL) (hst : st0 = As.reverse ++ .ref b :: rest) (hW : (rest.map fun v => v.category).sum ≤ 8) (hdg : decode cc pc = .ok (.invokevirtual index, 3)) (hf : cells ≤ R.cells ∧ slots ≤ R.slots)
    (kk : ∀ (u : S) (H1 : Heap) (locs1 : List Loc), va_P D cl (wf' u) H1 → va_D A (wf' u) → va_S A H0 H1 locs1 → W p l e R s m args below meth c H1 locs1 cells slots Q (F0 m (pc + 3) ls (r.toList ++ rest))) : W p l e R s m args below meth c H locs cells slots Q (F0 m pc ls st0) := by
  have hPc : va_P D cl wc H := by
    intro k q hq
    have h1 : (isC.map (fun i => w[i]?))[k]? = some (some q) := by rw [hC, List.getElem?_map, hq]; rfl
    rw [List.getElem?_map] at h1
    cases hi : isC[k]? with
    | none => rw [hi] at h1; cases h1
    | some i => rw [hi] at h1; exact hP i q (Option.some.inj h1)
  exact hz_runX (va_runV (g := F0 m pc ls st0) (As := As) S0 hM cw ⟨hz_blW, by subst hq; exact va_recv hK hP hc he, fun U hU hw => ⟨rfl, by rw [hU]; exact hPc, va_K.moved hw.alike (hK.sub isK hT), (hD.sub isC hnd hC).weaken (fun _ _ _ _ => trivial)⟩⟩ rfl hn hsize hst (lv_room hW) hdg hf) hP hD hS isC hC ha hw kk
end HX
/-- HURT of all together, FORCE of all together -/
abbrev sp_hurt (N : Nat → Int32) : Int32 := sp_sum (fun d => N (3 + 5 * d + 3)) (nD N)
abbrev sp_force (N : Nat → Int32) : Int32 := sp_sum (fun d => N (43 + 4 * d + 3)) (nS N)
def fd_sessions (M : Nat → Int32) (n : Int32) : Option Nat := if rg n 1 100 then if M 0 + n ≤ nI 99999 then none else some 4 else some 0
def fd_now (w : Int32) : Option Nat := if w.toInt < 0 ∨ 4 < w.toInt then some 0 else none
def sp_nowv (M : Nat → Int32) (w : Int32) : Int32 := if w = nI 0 then M 0 else if w = nI 1 then if nS M = 0 then -1 else nI (nT M % nS M) else if w = nI 2 then sp_hurt M else if w = nI 3 then sp_force M else sp_un M (nS M)
def fd_on (M : Nat → Int32) (d n w : Int32) : Option Nat := if hz_in d (nD M) then if rg n 0 200 then if rg w 0 1 then none else some 0 else some 0 else some 0
def fd_left (M : Nat → Int32) (s n : Int32) : Option Nat := if hz_in s (nS M) then if rg n 0 200 then none else some 0 else some 0
def sp_wp (M : Nat → Int32) (d : Int32) : Nat → Bool := fun k => decide (sp_gW (sp_gN k M) = d)
def fd_weeps (M : Nat → Int32) (d : Int32) : Option Nat := if hz_in d (nD M) then if fa_first (sp_wp M d) 200 < 200 then none else some 3 else some 0
def sp_wn (M : Nat → Int32) (d : Nat) (v : Int32) : Nat → Bool := fun k => decide (v ≤ sp_gN k M (3 + 5 * d + 3))
def fd_when (M : Nat → Int32) (d v : Int32) : Option Nat := if hz_in d (nD M) then if rg v 0 99999 then if fa_first (sp_wn M (cl d) v) 201 < 201 then none else some 3 else some 0 else some 0
def fd_saddest (M : Nat → Int32) (n : Int32) : Option Nat := if rg n 0 200 then if nD M = 0 then some 3 else none else some 0
theorem hz_fi1 {p : Nat → Bool} {k N : Nat} (h : ∀ i, i < k → p i = false) (hk : p k = true) (hN : k < N) : fa_first p N = k := by
  have h1 : ¬ fa_first p N < k := fun q => by
    have a := fa_first_yes p N (by omega)
    rw [h _ q] at a
    cases a
  have h2 : ¬ k < fa_first p N := fun q => by
    have a := fa_first_no p N k q
    rw [hk] at a
    cases a
  omega
theorem hz_fi0 {p : Nat → Bool} {N : Nat} (h : ∀ i, i < N → p i = false) : fa_first p N = N := by
  have h1 : ¬ fa_first p N < N := fun q => by
    have a := fa_first_yes p N q
    rw [h _ q] at a
    cases a
  have := fa_first_le p N
  omega
theorem hz_fis {p : Nat → Bool} {k : Nat} (h : ∀ i, i < k → p i = false) (hk : p k = false) : ∀ i, i < k + 1 → p i = false := fun i hi => by
  rcases Nat.lt_succ_iff_lt_or_eq.mp hi with q | q
  · exact h i q
  · rw [q]; exact hk
/-- the one that has most so far, or nobody yet -/
def sp_mo2 (h : Nat → Int32) (n : Nat) : Option Nat := if n = 0 then none else some (sp_mx h n)
theorem mo2_s {h : Nat → Int32} {n : Nat} (hn : 0 < n) : sp_mo2 h n = some (sp_mx h n) := if_neg (Nat.pos_iff_ne_zero.mp hn)
theorem hz_pt_len : ∀ (is : List Nat) (es w : va_W), (hz_pt w is es).length = w.length
  | [], _, _ => by simp [hz_pt]
  | _ :: _, [], _ => by simp [hz_pt]
  | i :: is, e :: es, w => by
    have := hz_pt_len is es (w.set i e)
    rw [List.length_set] at this
    exact this
theorem hz_pt_eq {w w' wc' : va_W} {isC : List Nat} (n : Nat) (isR : List Nat) (wr : va_W) (hl1 : w'.length = n) (hl2 : w.length = n) (hlc : isC.length = wc'.length) (h1 : isC.map (fun i => w'[i]?) = wc'.map some) (h2a : isR.map (fun i => w'[i]?) = wr.map some) (h2b : isR.map (fun i => w[i]?) = wr.map some) (h3 : (List.range n).all (fun k => isC.contains k || isR.contains k) = true) : hz_pt w isC wc' = w' := by
  have hl : w'.length = w.length := hl1.trans hl2.symm
  subst hl2
  have h2 := h2a.trans h2b.symm
  apply List.ext_getElem?
  intro k
  by_cases hk : k < w.length
  · have hk2 : k < (hz_pt w isC wc').length := by rw [hz_pt_len]; exact hk
    have hq : (hz_pt w isC wc')[k]? = some ((hz_pt w isC wc')[k]) := List.getElem?_eq_getElem hk2
    rw [hq]
    rcases hz_pt_get isC wc' w hlc k _ hq with ⟨j, g1, g2⟩ | ⟨g1, g2⟩
    · have h4 : (isC.map (fun i => w'[i]?))[j]? = some (w'[k]?) := by rw [List.getElem?_map, g1]; rfl
      rw [h1, List.getElem?_map, g2] at h4
      exact Option.some.inj h4
    · have h5 := List.all_eq_true.mp h3 k (List.mem_range.mpr hk)
      have hR : k ∈ isR := by
        rcases Bool.or_eq_true _ _ ▸ h5 with h | h
        · exact absurd (List.contains_iff_mem.mp h) g2
        · exact List.contains_iff_mem.mp h
      obtain ⟨j, hj, ej⟩ := List.getElem_of_mem hR
      have hj2 : isR[j]? = some k := by rw [List.getElem?_eq_getElem hj, ej]
      have h4 : (isR.map (fun i => w'[i]?))[j]? = some (w'[k]?) := by rw [List.getElem?_map, hj2]; rfl
      rw [h2, List.getElem?_map, hj2] at h4
      have h6 : w[k]? = w'[k]? := Option.some.inj h4
      rw [← h6]
      exact g1.symm
  · rw [List.getElem?_eq_none (by rw [hz_pt_len]; omega), List.getElem?_eq_none (by omega)]
theorem hz_ha {w w' : va_W} (ads : List Nat) (h1 : w'.map Prod.fst = ads) (h2 : w.map Prod.fst = ads) : w'.map Prod.fst = w.map Prod.fst := h1.trans h2.symm
