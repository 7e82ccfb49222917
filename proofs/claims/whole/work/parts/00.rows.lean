/-! my own rows: contracts of two kinds (nothing written; cells written), calls of them, ends, numbers that are Nats -/
def hz_a (w : va_W) : Nat → Prop := fun q => ∃ (k : Nat) (e : va_E), w[k]? = some (q, e)
def hz_V (v : Value) : Array Value → State → Outcome → State → Prop := fun _ st o t => o = .returned (some v) ∧ t.heap = st.heap
def hz_E (D : va_G) (cl : List vw_C) (w : va_W) (r : Option Value) (A : Nat → Prop) : Array Value → State → Outcome → State → Prop := fun _ st o t => o = .returned r ∧ va_P D cl w t.heap ∧ va_F A st t
def hz_P (av : List Value) (D : va_G) (cl : List vw_C) (tys : List (ClassId × FieldType)) (w : va_W) : Array Value → State → Prop := fun v U => v = av.toArray ∧ va_P D cl w U.heap ∧ va_K D cl tys U
def hz_W (av : List Value) (D : va_G) (cl : List vw_C) (tys : List (ClassId × FieldType)) (w : va_W) : Array Value → State → Prop := fun v U => v = av.toArray ∧ va_P D cl w U.heap ∧ va_K D cl tys U ∧ va_D (fun _ => True) w
theorem hz_blP {av : List Value} {D : va_G} {cl : List vw_C} {tys : List (ClassId × FieldType)} {w : va_W} : FrameBlind (hz_P av D cl tys w) := fun a U g mk q => ⟨q.1, q.2.1, va_K.moved (u := U) (U := U.calling g mk a) (Vm.Alike.refl U.vm) q.2.2⟩
theorem hz_blW {av : List Value} {D : va_G} {cl : List vw_C} {tys : List (ClassId × FieldType)} {w : va_W} : FrameBlind (hz_W av D cl tys w) := fun a U g mk q => ⟨q.1, q.2.1, va_K.moved (u := U) (U := U.calling g mk a) (Vm.Alike.refl U.vm) q.2.2.1, q.2.2.2⟩
/-- a method that writes nothing: its answer -/
abbrev hz_MP (l : Launch) (y : MethodName) (ws : List Cond) (rm : Room) (av : List Value) (D : va_G) (cl : List vw_C) (tys : List (ClassId × FieldType)) (w : va_W) (v : Value) : Prop := Met l y ws rm (hz_P av D cl tys w) (hz_V v) 0 0 (fun _ => False)
/-- a method that writes cells of its world: its world behind it, its answer -/
abbrev hz_ME (l : Launch) (y : MethodName) (ws : List Cond) (rm : Room) (av : List Value) (D : va_G) (cl : List vw_C) (tys : List (ClassId × FieldType)) (w w' : va_W) (r : Option Value) : Prop := Met l y ws rm (hz_W av D cl tys w) (hz_E D cl w' r (hz_a w)) 0 0 (hz_a w)
/-- cells put into a world at places -/
def hz_pt : va_W → List Nat → va_W → va_W
  | w, i :: is, e :: es => hz_pt (w.set i e) is es
  | w, _, _ => w
theorem hz_pt_get : ∀ (is : List Nat) (es w : va_W), is.length = es.length → ∀ (k : Nat) (q : Nat × va_E), (hz_pt w is es)[k]? = some q → (∃ j : Nat, is[j]? = some k ∧ es[j]? = some q) ∨ (w[k]? = some q ∧ k ∉ is)
  | [], [], w, _, k, q, h => Or.inr ⟨by simpa [hz_pt] using h, fun h => by cases h⟩
  | [], _ :: _, _, hl, _, _, _ => by simp at hl
  | _ :: _, [], _, hl, _, _, _ => by simp at hl
  | i :: is, e :: es, w, hl, k, q, h => by
    rcases hz_pt_get is es (w.set i e) (by simpa using hl) k q h with ⟨j, h1, h2⟩ | ⟨h1, h2⟩
    · exact Or.inl ⟨j + 1, by simpa using h1, by simpa using h2⟩
    · rw [List.getElem?_set] at h1
      by_cases hik : i = k
      · rw [if_pos hik] at h1
        by_cases hlt : i < w.length
        · rw [if_pos hlt] at h1
          exact Or.inl ⟨0, by simp [hik], by simpa using h1⟩
        · rw [if_neg hlt] at h1; cases h1
      · rw [if_neg hik] at h1
        exact Or.inr ⟨h1, fun hm => by
          rcases List.mem_cons.mp hm with h3 | h3
          · exact hik h3.symm
          · exact h2 h3⟩
theorem hz_pt_adr : ∀ (is : List Nat) (es w : va_W), (∀ (j i : Nat) (e : Nat × va_E), is[j]? = some i → es[j]? = some e → (w.map Prod.fst)[i]? = some e.1) → (hz_pt w is es).map Prod.fst = w.map Prod.fst
  | [], _, _, _ => by simp [hz_pt]
  | _ :: _, [], _, _ => by simp [hz_pt]
  | i :: is, e :: es, w, h => by
    have h0 := h 0 i e rfl rfl
    have e1 : (w.set i e).map Prod.fst = w.map Prod.fst := by
      rw [List.map_set]
      apply List.ext_getElem?
      intro k
      rw [List.getElem?_set]
      by_cases hik : i = k
      · subst hik
        rw [if_pos rfl, h0]
        have : i < (w.map Prod.fst).length := (List.getElem?_eq_some_iff.mp h0).1
        rw [if_pos this]
      · rw [if_neg hik]
    have := hz_pt_adr is es (w.set i e) (fun j i' e' h1 h2 => by rw [e1]; exact h (j + 1) i' e' (by simpa using h1) (by simpa using h2))
    exact this.trans e1
theorem hz_D_adr {A : Nat → Prop} {w w' : va_W} (h : w'.map Prod.fst = w.map Prod.fst) (hD : va_D A w) : va_D A w' := by
  have g : ∀ (k : Nat) (q : Nat × va_E), w'[k]? = some q → ∃ q2 : Nat × va_E, w[k]? = some q2 ∧ q2.1 = q.1 := by
    intro k q hq
    have h1 : (w'.map Prod.fst)[k]? = some q.1 := by rw [List.getElem?_map, hq]; rfl
    rw [h, List.getElem?_map] at h1
    cases hw : w[k]? with
    | none => rw [hw] at h1; cases h1
    | some q2 => rw [hw] at h1; exact ⟨q2, rfl, Option.some.inj h1⟩
  refine ⟨fun i j a b ha hb hab => ?_, fun k q hq => ?_⟩
  · obtain ⟨a2, h1, h2⟩ := g i a ha
    obtain ⟨b2, h3, h4⟩ := g j b hb
    exact hD.1 i j a2 b2 h1 h3 (by rw [h2, h4, hab])
  · obtain ⟨q2, h1, h2⟩ := g k q hq
    rw [← h2]
    exact hD.2 k q2 h1
theorem hz_D_self {A : Nat → Prop} {w : va_W} (h : va_D A w) : va_D (hz_a w) w := ⟨h.1, fun k q hk => ⟨k, q.2, hk⟩⟩
/-- an array's contents matter up to its length alone -/
theorem hz_sw {D : va_G} {cl : List vw_C} {w : va_W} {H : Heap} (hP : va_P D cl w H) (k : Nat) {a n : Nat} {cA : ClassId} {f g : Nat → Int32} (hk : w[k]? = some (a, .inl (cA, n, .inl f))) (hfg : ∀ j, j < n → f j = g j) : va_P D cl (w.set k (a, .inl (cA, n, .inl g))) H := by
  intro i q hq
  rw [List.getElem?_set] at hq
  by_cases hik : k = i
  · subst hik
    have hlt : k < w.length := (List.getElem?_eq_some_iff.mp hk).1
    rw [if_pos rfl, if_pos hlt] at hq
    cases hq
    have h1 := hP k _ hk
    have e : vp_cell cA (n, .inl g) = vp_cell cA (n, .inl f) := by
      show arrV cA n (fun j => .int (g j)) = arrV cA n (fun j => .int (f j))
      unfold arrV
      congr 1
      apply Array.ext
      · simp
      · intro i h2 h3
        simp at h2
        simp [hfg i h2]
    show H[a]? = some (vp_cell cA (n, .inl g))
    rw [e]
    exact h1
  · rw [if_neg hik] at hq
    exact hP i q hq
section HZ
variable {p : Program} {l : Launch} {e : Env} {R : Room} {s : State} {m : MethodId} {args : Array Value} {below : List Frame} {meth : Method} {c : Code} {H : Heap} {locs : List Loc} {cells slots : Nat} {Q : State → Prop}
variable {pc : Nat} {ls : Array Slot} {rest : List Value} {cc : ByteArray} {D : va_G} {cl : List vw_C} {tys tysc : List (ClassId × FieldType)} {A : Nat → Prop} {H0 : Heap} {w w' wc wc' : va_W}
/-- the entry of a method that writes nothing -/
theorem hz_mp {y : MethodName} {ws ws' : List Cond} {rm : Room} {av : List Value} {v : Value} {maxL : Nat} {ret : Option FieldType} (hy : plainName y.cls = true) (hw : ws = Cond.code y cc maxL ret :: ws') (hn : (lg_sl av).length ≤ maxL)
    (body : ∀ (p : Program) (e : Env) (s : State) (m : MethodId) (below : List Frame) (meth : Method) (c : Code), p.tables.exec = Jvm.exec → c.code = cc → meth.sig.returnType = ret → (∀ w ∈ ws, w.before av.toArray s = true) → s.vm.findClass y.cls = some m.cls → meth.locks = false → c.maxLocals = maxL → va_P D cl w s.heap → va_K D cl tys s → ∀ ls : Array Slot, lv_has ls maxL (lv_args 0 av) →
      W p l e (headSpec ws rm).room s m av.toArray below meth c s.heap [] 0 0 (MQ below (hz_V v) av.toArray s 0 0 (fun _ => False)) (F0 m 0 ls [])) : hz_MP l y ws rm av D cl tys w v := by
  refine Met.ofW (cc := cc) (maxL := maxL) (ret := ret) hy hw ?_
  intro p e s m args below meth c s₁ B hml hv
  obtain ⟨rfl, hP, hK⟩ := hv
  rw [lg_entry_eq]
  exact body p e s m below meth c B.exec B.bytes B.returns (atoms_spec (ws := ws) B.pre) (findClass_of_methodNamed B.named) B.notSynchronized hml hP hK _ (lv_entry av hn)
/-- the entry of a method that writes -/
theorem hz_me {y : MethodName} {ws ws' : List Cond} {rm : Room} {av : List Value} {r : Option Value} {maxL : Nat} {ret : Option FieldType} (hy : plainName y.cls = true) (hw : ws = Cond.code y cc maxL ret :: ws') (hn : (lg_sl av).length ≤ maxL)
    (body : ∀ (p : Program) (e : Env) (s : State) (m : MethodId) (below : List Frame) (meth : Method) (c : Code), p.tables.exec = Jvm.exec → c.code = cc → meth.sig.returnType = ret → (∀ w ∈ ws, w.before av.toArray s = true) → s.vm.findClass y.cls = some m.cls → meth.locks = false → c.maxLocals = maxL → va_P D cl w s.heap → va_K D cl tys s → va_D (hz_a w) w → ∀ ls : Array Slot, lv_has ls maxL (lv_args 0 av) →
      W p l e (headSpec ws rm).room s m av.toArray below meth c s.heap [] 0 0 (MQ below (hz_E D cl w' r (hz_a w)) av.toArray s 0 0 (hz_a w)) (F0 m 0 ls [])) : hz_ME l y ws rm av D cl tys w w' r := by
  refine Met.ofW (cc := cc) (maxL := maxL) (ret := ret) hy hw ?_
  intro p e s m args below meth c s₁ B hml hv
  obtain ⟨rfl, hP, hK, hD⟩ := hv
  rw [lg_entry_eq]
  exact body p e s m below meth c B.exec B.bytes B.returns (atoms_spec (ws := ws) B.pre) (findClass_of_methodNamed B.named) B.notSynchronized hml hP hK (hz_D_self hD) _ (lv_entry av hn)
-- ends
theorem hz_ri {v r : Int32} {ty : FieldType} (hx : p.tables.exec = Jvm.exec) (hb : c.code = cc) (hr : meth.sig.returnType = some ty) (hlocks : meth.locks = false) (hn : narrow ty (.int v) = .int v) (hv : v = r) (hdg : decode cc pc = .ok (.ireturn, 1)) : W p l e R s m args below meth c s.heap [] 0 0 (MQ below (hz_V (.int r)) args s 0 0 (fun _ => False)) (F0 m pc ls [.int v]) := by
  subst hv
  exact W.zret hx hb hr hn (fun t ht _ => ⟨rfl, ht⟩) (fun _ h => by cases h) hdg hlocks
theorem hz_rl {v r : Int64} (hx : p.tables.exec = Jvm.exec) (hb : c.code = cc) (hr : meth.sig.returnType = some .long) (hlocks : meth.locks = false) (hv : v = r) (hdg : decode cc pc = .ok (.lreturn, 1)) : W p l e R s m args below meth c s.heap [] 0 0 (MQ below (hz_V (.long r)) args s 0 0 (fun _ => False)) (F0 m pc ls [.long v]) := by
  subst hv
  exact W.lret hx hb hr (fun t ht _ => ⟨rfl, ht⟩) (fun _ h => by cases h) hdg hlocks
theorem hz_ra {v r : Nat} {ty : FieldType} (hx : p.tables.exec = Jvm.exec) (hb : c.code = cc) (hr : meth.sig.returnType = some ty) (hlocks : meth.locks = false) (hrt : (∃ n, ty = .object n) ∨ ∃ t, ty = .array t) (hv : v = r) (hdg : decode cc pc = .ok (.areturn, 1)) : W p l e R s m args below meth c s.heap [] 0 0 (MQ below (hz_V (.ref r)) args s 0 0 (fun _ => False)) (F0 m pc ls [.ref v]) := by
  subst hv
  exact W.aret hx hb hr hrt (Or.inr ⟨_, rfl⟩) (fun t ht _ => ⟨rfl, ht⟩) (fun _ h => by cases h) hdg hlocks
theorem hz_ei {v r : Int32} {ty : FieldType} (hx : p.tables.exec = Jvm.exec) (hb : c.code = cc) (hr : meth.sig.returnType = some ty) (hlocks : meth.locks = false) (hn : narrow ty (.int v) = .int v) (hP : va_P D cl w' H) (hS : va_S A s.heap H locs) (hv : v = r) (hdg : decode cc pc = .ok (.ireturn, 1)) : W p l e R s m args below meth c H locs 0 0 (MQ below (hz_E D cl w' (some (.int r)) A) args s 0 0 A) (F0 m pc ls [.int v]) := by
  subst hv
  exact W.zret hx hb hr hn (fun t ht _ => ⟨rfl, by rw [ht]; exact hP, hS.F ht⟩) hS.2.2 hdg hlocks
theorem hz_el {v r : Int64} (hx : p.tables.exec = Jvm.exec) (hb : c.code = cc) (hr : meth.sig.returnType = some .long) (hlocks : meth.locks = false) (hP : va_P D cl w' H) (hS : va_S A s.heap H locs) (hv : v = r) (hdg : decode cc pc = .ok (.lreturn, 1)) : W p l e R s m args below meth c H locs 0 0 (MQ below (hz_E D cl w' (some (.long r)) A) args s 0 0 A) (F0 m pc ls [.long v]) := by
  subst hv
  exact W.lret hx hb hr (fun t ht _ => ⟨rfl, by rw [ht]; exact hP, hS.F ht⟩) hS.2.2 hdg hlocks
theorem hz_ev (hx : p.tables.exec = Jvm.exec) (hb : c.code = cc) (hr : meth.sig.returnType = none) (hlocks : meth.locks = false) (hP : va_P D cl w' H) (hS : va_S A s.heap H locs) (hdg : decode cc pc = .ok (.return_, 1)) : W p l e R s m args below meth c H locs 0 0 (MQ below (hz_E D cl w' none A) args s 0 0 A) (F0 m pc ls []) :=
  W.vret hx hb hr (fun t ht _ => ⟨rfl, by rw [ht]; exact hP, hS.F ht⟩) hS.2.2 hdg hlocks
-- calls
theorem hz_run {v : Value} {a : Array Value} {g : JFrame} (hr : CallRun p l e R s m args below meth c H locs cells slots 0 0 g rest (hz_V v a) (fun _ => False)) (kk : W p l e R s m args below meth c H locs cells slots Q { g with pc := g.pc + 3, stack := v :: rest }) : W p l e R s m args below meth c H locs cells slots Q g := by
  intro T hT X
  obtain ⟨v', st₀, t, T', L, h0, X', hL, e1, ⟨hv, hh⟩, st⟩ := hr T hT X
  cases hv
  obtain ⟨t2, a1, b1⟩ := kk T' (by rw [e1, hh, h0]) (Stand.forget X' (fun q h => (hL q h).elim))
  exact ⟨t2, st t2 a1, b1⟩
/-- a call of a method of an object that writes nothing -/
theorem hz_cv {bytes : ByteArray} {nL maxL index n : Nat} {own C : String} {y : MethodName} {ret : Option FieldType} {ws Ts : List Cond} {rm : Room} {b : Addr} {As st0 : List Value} {v : Value} (S : CallFix p m c cc nL s args Ts own) (hM : hz_MP l y ws rm (.ref b :: As) D cl tysc wc v) (cw : CallW R s args own C index y bytes maxL ret ws rm 0 0 n) (hK : va_K D cl tys s) (hP : va_P D cl w H) (isC : List Nat) (hC : isC.filterMap (fun i => w[i]?) = wc) (isK : List Nat) (hT : isK.filterMap (fun i => tys[i]?) = tysc)
    (q0 : Nat) {ci : Nat} {fs : List Value} {qc : vw_C} (he : w[q0]? = some (b, .inr (ci, fs))) (hc : cl[ci]? = some qc) (hq : qc.1 = C) (hn : As.length = n) (hsize : ls.size = nL) (hst : st0 = As.reverse ++ .ref b :: rest) (hW : (rest.map fun v => v.category).sum ≤ 8) (hdg : decode cc pc = .ok (.invokevirtual index, 3)) (hf : cells ≤ R.cells ∧ slots ≤ R.slots)
    (kk : W p l e R s m args below meth c H locs cells slots Q (F0 m (pc + 3) ls (v :: rest))) : W p l e R s m args below meth c H locs cells slots Q (F0 m pc ls st0) :=
  hz_run (W.runV (g := F0 m pc ls st0) (As := As) S hM cw ⟨hz_blP, by subst hq; exact va_recv hK hP hc he, fun U hU hw => ⟨rfl, by rw [hU]; exact hP.sub isC hC, va_K.moved hw.alike (hK.sub isK hT)⟩⟩ rfl hn hsize hst (lv_room hW) hdg hf) kk
/-- a call of a static method that writes nothing -/
theorem hz_cs {bytes : ByteArray} {nL maxL index n : Nat} {own : String} {y : MethodName} {ret : Option FieldType} {ws Ts : List Cond} {rm : Room} {As st0 : List Value} {v : Value} (S : CallFix p m c cc nL s args Ts own) (hM : hz_MP l y ws rm As D cl tysc wc v) (cw : CallB R s args own index y bytes maxL ret ws rm 0 0 n ∧ (Cond.static y).before args s = true) (hK : va_K D cl tys s) (hP : va_P D cl w H) (isC : List Nat) (hC : isC.filterMap (fun i => w[i]?) = wc) (isK : List Nat) (hT : isK.filterMap (fun i => tys[i]?) = tysc)
    (hn : As.length = n) (hsize : ls.size = nL) (hst : st0 = As.reverse ++ rest) (hW : (rest.map fun v => v.category).sum ≤ 8) (hdg : decode cc pc = .ok (.invokestatic index, 3)) (hf : cells ≤ R.cells ∧ slots ≤ R.slots)
    (kk : W p l e R s m args below meth c H locs cells slots Q (F0 m (pc + 3) ls (v :: rest))) : W p l e R s m args below meth c H locs cells slots Q (F0 m pc ls st0) :=
  hz_run (W.runS (g := F0 m pc ls st0) (As := As) S hM cw ⟨hz_blP, fun U hU hw => ⟨rfl, by rw [hU]; exact hP.sub isC hC, va_K.moved hw.alike (hK.sub isK hT)⟩⟩ rfl hn hsize hst (lv_room hW) hdg hf) kk
theorem hz_runE {r : Option Value} {a : Array Value} {st0 : List Value} (hr : va_Run p l e R s m args below meth c H locs cells slots 0 0 (F0 m pc ls st0) rest (hz_E D cl wc' r (hz_a wc) a) (hz_a wc)) (hP : va_P D cl w H) (hD : va_D A w) (hS : va_S A H0 H locs) (isC : List Nat) (hC : isC.map (fun i => w[i]?) = wc.map some) (ha : wc'.map Prod.fst = wc.map Prod.fst) (hw : hz_pt w isC wc' = w')
    (kk : ∀ (H1 : Heap) (locs1 : List Loc), va_P D cl w' H1 → va_D A w' → va_S A H0 H1 locs1 → W p l e R s m args below meth c H1 locs1 cells slots Q (F0 m (pc + 3) ls (r.toList ++ rest))) : W p l e R s m args below meth c H locs cells slots Q (F0 m pc ls st0) := by
  have at' : ∀ (k : Nat) (q : Nat × va_E), wc[k]? = some q → ∃ i, isC[k]? = some i ∧ w[i]? = some q := by
    intro k q hq
    have h1 : (isC.map (fun i => w[i]?))[k]? = some (some q) := by rw [hC, List.getElem?_map, hq]; rfl
    rw [List.getElem?_map] at h1
    cases hi : isC[k]? with
    | none => rw [hi] at h1; cases h1
    | some i => rw [hi] at h1; exact ⟨i, rfl, Option.some.inj h1⟩
  have hlen : isC.length = wc.length := by have := congrArg List.length hC; simpa using this
  have hlen' : wc'.length = wc.length := by have := congrArg List.length ha; simpa using this
  have hF : ∀ q, hz_a wc q → A q := fun q ⟨k, e, h⟩ => by
    obtain ⟨i, -, h2⟩ := at' k _ h
    exact hD.2 i _ h2
  have hD' : va_D A w' := by
    refine hz_D_adr ?_ hD
    rw [← hw]
    refine hz_pt_adr isC wc' w (fun j i e h1 h2 => ?_)
    have h3 : (wc'.map Prod.fst)[j]? = some e.1 := by rw [List.getElem?_map, h2]; rfl
    rw [ha, List.getElem?_map] at h3
    cases hq : wc[j]? with
    | none => rw [hq] at h3; cases h3
    | some q =>
      rw [hq] at h3
      obtain ⟨i2, g1, g2⟩ := at' j q hq
      rw [h1] at g1
      cases g1
      rw [List.getElem?_map, g2]
      exact h3
  intro T hT X
  obtain ⟨v, st₀, t, T', L, h0, X', hL, e1, e2, ⟨hv, hp, hz, hk⟩, st⟩ := hr T hT X
  cases hv
  rw [h0] at hz hk
  have hP' : va_P D cl w' T'.heap := by
    intro k q hq
    rw [← hw] at hq
    rcases hz_pt_get isC wc' w (by rw [hlen, hlen']) k q hq with ⟨j, h1, h2⟩ | ⟨h1, h2⟩
    · rw [e1]; exact hp j q h2
    · have hlt := (hP k q h1).lt
      refine (hP k q h1).kept ?_
      rw [e1]
      refine hk q.1 hlt (fun ⟨k2, e, h3⟩ => ?_)
      obtain ⟨i, g1, g2⟩ := at' k2 _ h3
      have := hD.1 k i q (q.1, e) h1 g2 rfl
      subst this
      exact h2 (List.mem_of_getElem? g1)
  obtain ⟨t2, a1, b1⟩ := kk T'.heap (locs ++ L) hP' hD'
    ⟨Nat.le_trans hS.1 (by rw [e1]; exact hz), fun q h1 h2 => by rw [e1, hk q (Nat.lt_of_lt_of_le h1 hS.1) (fun z => h2 (hF q z))]; exact hS.2.1 q h1 h2, fun q hq => by
      rcases List.mem_append.mp hq with h | h
      · exact hS.2.2 q h
      · exact hF _ (hL q h)⟩ T' rfl X'
  exact ⟨t2, st t2 a1, b1⟩
/-- a call of a method of an object that writes cells -/
theorem hz_ce {bytes : ByteArray} {nL maxL index n : Nat} {own C : String} {y : MethodName} {ret : Option FieldType} {ws Ts : List Cond} {rm : Room} {b : Addr} {As st0 : List Value} {r : Option Value} (S : CallFix p m c cc nL s args Ts own) (hM : hz_ME l y ws rm (.ref b :: As) D cl tysc wc wc' r) (cw : CallW R s args own C index y bytes maxL ret ws rm 0 0 n) (hK : va_K D cl tys s) (hP : va_P D cl w H) (hD : va_D A w) (hS : va_S A H0 H locs) (isC : List Nat) (hC : isC.map (fun i => w[i]?) = wc.map some) (hnd : va_nd isC = true) (ha : wc'.map Prod.fst = wc.map Prod.fst) (hw : hz_pt w isC wc' = w') (isK : List Nat) (hT : isK.filterMap (fun i => tys[i]?) = tysc)
    (q0 : Nat) {ci : Nat} {fs : List Value} {qc : vw_C} (he : w[q0]? = some (b, .inr (ci, fs))) (hc : cl[ci]? = some qc) (hq : qc.1 = C) (hn : As.length = n) (hsize : ls.size = nL) (hst : st0 = As.reverse ++ .ref b :: rest) (hW : (rest.map fun v => v.category).sum ≤ 8) (hdg : decode cc pc = .ok (.invokevirtual index, 3)) (hf : cells ≤ R.cells ∧ slots ≤ R.slots)
    (kk : ∀ (H1 : Heap) (locs1 : List Loc), va_P D cl w' H1 → va_D A w' → va_S A H0 H1 locs1 → W p l e R s m args below meth c H1 locs1 cells slots Q (F0 m (pc + 3) ls (r.toList ++ rest))) : W p l e R s m args below meth c H locs cells slots Q (F0 m pc ls st0) := by
  have hPc : va_P D cl wc H := by
    intro k q hq
    have h1 : (isC.map (fun i => w[i]?))[k]? = some (some q) := by rw [hC, List.getElem?_map, hq]; rfl
    rw [List.getElem?_map] at h1
    cases hi : isC[k]? with
    | none => rw [hi] at h1; cases h1
    | some i => rw [hi] at h1; exact hP i q (Option.some.inj h1)
  exact hz_runE (va_runV (g := F0 m pc ls st0) (As := As) S hM cw ⟨hz_blW, by subst hq; exact va_recv hK hP hc he, fun U hU hw => ⟨rfl, by rw [hU]; exact hPc, va_K.moved hw.alike (hK.sub isK hT), (hD.sub isC hnd hC).weaken (fun _ _ _ _ => trivial)⟩⟩ rfl hn hsize hst (lv_room hW) hdg hf) hP hD hS isC hC ha hw kk
/-- a call of a static method that writes cells -/
theorem hz_cse {bytes : ByteArray} {nL maxL index n : Nat} {own : String} {y : MethodName} {ret : Option FieldType} {ws Ts : List Cond} {rm : Room} {As st0 : List Value} {r : Option Value} (S : CallFix p m c cc nL s args Ts own) (hM : hz_ME l y ws rm As D cl tysc wc wc' r) (cw : CallB R s args own index y bytes maxL ret ws rm 0 0 n ∧ (Cond.static y).before args s = true) (hK : va_K D cl tys s) (hP : va_P D cl w H) (hD : va_D A w) (hS : va_S A H0 H locs) (isC : List Nat) (hC : isC.map (fun i => w[i]?) = wc.map some) (hnd : va_nd isC = true) (ha : wc'.map Prod.fst = wc.map Prod.fst) (hw : hz_pt w isC wc' = w') (isK : List Nat) (hT : isK.filterMap (fun i => tys[i]?) = tysc)
    (hn : As.length = n) (hsize : ls.size = nL) (hst : st0 = As.reverse ++ rest) (hW : (rest.map fun v => v.category).sum ≤ 8) (hdg : decode cc pc = .ok (.invokestatic index, 3)) (hf : cells ≤ R.cells ∧ slots ≤ R.slots)
    (kk : ∀ (H1 : Heap) (locs1 : List Loc), va_P D cl w' H1 → va_D A w' → va_S A H0 H1 locs1 → W p l e R s m args below meth c H1 locs1 cells slots Q (F0 m (pc + 3) ls (r.toList ++ rest))) : W p l e R s m args below meth c H locs cells slots Q (F0 m pc ls st0) := by
  have hPc : va_P D cl wc H := by
    intro k q hq
    have h1 : (isC.map (fun i => w[i]?))[k]? = some (some q) := by rw [hC, List.getElem?_map, hq]; rfl
    rw [List.getElem?_map] at h1
    cases hi : isC[k]? with
    | none => rw [hi] at h1; cases h1
    | some i => rw [hi] at h1; exact hP i q (Option.some.inj h1)
  exact hz_runE (va_runS (g := F0 m pc ls st0) (As := As) S hM cw ⟨hz_blW, fun U hU hw => ⟨rfl, by rw [hU]; exact hPc, va_K.moved hw.alike (hK.sub isK hT), (hD.sub isC hnd hC).weaken (fun _ _ _ _ => trivial)⟩⟩ rfl hn hsize hst (lv_room hW) hdg hf) hP hD hS isC hC ha hw kk
-- the top of the stack by another word; a join
theorem hz_ct {x y : Int32} (h : x = y) (k : W p l e R s m args below meth c H locs cells slots Q (F0 m pc ls (.int y :: rest))) : W p l e R s m args below meth c H locs cells slots Q (F0 m pc ls (.int x :: rest)) := by
  subst h; exact k
theorem hz_ctl {x y : Int64} (h : x = y) (k : W p l e R s m args below meth c H locs cells slots Q (F0 m pc ls (.long y :: rest))) : W p l e R s m args below meth c H locs cells slots Q (F0 m pc ls (.long x :: rest)) := by
  subst h; exact k
theorem hz_dia {g0 : JFrame} (V : Int32) (j : Nat) (st : List Value) (h : W p l e R s m args below meth c H locs cells slots Q (F0 m j ls (.int V :: st)) → W p l e R s m args below meth c H locs cells slots Q g0) (k : W p l e R s m args below meth c H locs cells slots Q (F0 m j ls (.int V :: st))) : W p l e R s m args below meth c H locs cells slots Q g0 := h k
-- numbers that are Nats
theorem hz_iadd {a b : Nat} (hx : p.tables.exec = Jvm.exec) (hb : c.code = cc) (hdg : decode cc pc = .ok (.iadd, 1)) (k : W p l e R s m args below meth c H locs cells slots Q (F0 m (pc + 1) ls (.int (nI (a + b)) :: rest))) : W p l e R s m args below meth c H locs cells slots Q (F0 m pc ls (.int (nI b) :: .int (nI a) :: rest)) :=
  lv_iadd hx hb hdg (by rw [nI_add]; exact k)
theorem hz_imul {a b : Nat} (hx : p.tables.exec = Jvm.exec) (hb : c.code = cc) (hdg : decode cc pc = .ok (.imul, 1)) (k : W p l e R s m args below meth c H locs cells slots Q (F0 m (pc + 1) ls (.int (nI (a * b)) :: rest))) : W p l e R s m args below meth c H locs cells slots Q (F0 m pc ls (.int (nI b) :: .int (nI a) :: rest)) :=
  lv_imul hx hb hdg (by rw [pk_mul]; exact k)
theorem hz_isub {a b : Nat} (h : b ≤ a) (hx : p.tables.exec = Jvm.exec) (hb : c.code = cc) (hdg : decode cc pc = .ok (.isub, 1)) (k : W p l e R s m args below meth c H locs cells slots Q (F0 m (pc + 1) ls (.int (nI (a - b)) :: rest))) : W p l e R s m args below meth c H locs cells slots Q (F0 m pc ls (.int (nI b) :: .int (nI a) :: rest)) :=
  lv_isub hx hb hdg (by rw [pk_sub h]; exact k)
theorem hz_irem {a b : Nat} (ha : a < 2 ^ 31) (h0 : 0 < b) (hb2 : b < 2 ^ 31) (hx : p.tables.exec = Jvm.exec) (hb : c.code = cc) (hdg : decode cc pc = .ok (.irem, 1)) (k : W p l e R s m args below meth c H locs cells slots Q (F0 m (pc + 1) ls (.int (nI (a % b)) :: rest))) : W p l e R s m args below meth c H locs cells slots Q (F0 m pc ls (.int (nI b) :: .int (nI a) :: rest)) :=
  lv_irem hx hb hdg (nI_ne0 h0 hb2) (by rw [pk_rem ha h0 hb2]; exact k)
theorem hz_idiv {a b : Nat} (ha : a < 2 ^ 31) (h0 : 0 < b) (hb2 : b < 2 ^ 31) (hx : p.tables.exec = Jvm.exec) (hb : c.code = cc) (hdg : decode cc pc = .ok (.idiv, 1)) (k : W p l e R s m args below meth c H locs cells slots Q (F0 m (pc + 1) ls (.int (nI (a / b)) :: rest))) : W p l e R s m args below meth c H locs cells slots Q (F0 m pc ls (.int (nI b) :: .int (nI a) :: rest)) :=
  lv_idiv hx hb hdg (nI_ne0 h0 hb2) (by rw [pk_div ha h0 hb2]; exact k)
theorem hz_iald {f : Nat → Int32} {n j a : Nat} {cA : ClassId} (hx : p.tables.exec = Jvm.exec) (hb : c.code = cc) (hK : va_K D cl tys s) (hP : va_P D cl w H) (q0 t0 : Nat) (ha : w[q0]? = some (a, .inl (cA, n, .inl f))) (ht : tys[t0]? = some (cA, .int)) (hj : j < n) (hn : n < 2 ^ 31) (hdg : decode cc pc = .ok (.iaload, 1)) (k : W p l e R s m args below meth c H locs cells slots Q (F0 m (pc + 1) ls (.int (f j) :: rest))) : W p l e R s m args below meth c H locs cells slots Q (F0 m pc ls (.int (nI j) :: .ref a :: rest)) :=
  va_iald hx hb hK hP q0 t0 ha ht (vp_in_nI hj hn) hdg (by rw [nI_clamp (Nat.lt_trans hj hn)]; exact k)
theorem hz_lald {f : Nat → Int64} {n j a : Nat} {cA : ClassId} (hx : p.tables.exec = Jvm.exec) (hb : c.code = cc) (hK : va_K D cl tys s) (hP : va_P D cl w H) (q0 t0 : Nat) (ha : w[q0]? = some (a, .inl (cA, n, .inr (.inl f)))) (ht : tys[t0]? = some (cA, .long)) (hj : j < n) (hn : n < 2 ^ 31) (hdg : decode cc pc = .ok (.laload, 1)) (k : W p l e R s m args below meth c H locs cells slots Q (F0 m (pc + 1) ls (.long (f j) :: rest))) : W p l e R s m args below meth c H locs cells slots Q (F0 m pc ls (.int (nI j) :: .ref a :: rest)) :=
  va_lald hx hb hK hP q0 t0 ha ht (vp_in_nI hj hn) hdg (by rw [nI_clamp (Nat.lt_trans hj hn)]; exact k)
theorem hz_iast {f : Nat → Int32} {n j a : Nat} {x : Int32} {cA : ClassId} (hx : p.tables.exec = Jvm.exec) (hb : c.code = cc) (hK : va_K D cl tys s) (hP : va_P D cl w H) (hD : va_D A w) (hS : va_S A H0 H locs) (q0 t0 : Nat) (ha : w[q0]? = some (a, .inl (cA, n, .inl f))) (ht : tys[t0]? = some (cA, .int)) (hj : j < n) (hn : n < 2 ^ 31) (hdg : decode cc pc = .ok (.iastore, 1)) (hw : w.set q0 (a, .inl (cA, n, .inl (upd f j x))) = w')
    (k : ∀ (H1 : Heap) (locs1 : List Loc), va_P D cl w' H1 → va_D A w' → va_S A H0 H1 locs1 → W p l e R s m args below meth c H1 locs1 cells slots Q (F0 m (pc + 1) ls rest)) : W p l e R s m args below meth c H locs cells slots Q (F0 m pc ls (.int x :: .int (nI j) :: .ref a :: rest)) :=
  va_iast hx hb hK hP hD hS q0 t0 ha ht (vp_in_nI hj hn) hdg (fun H1 l1 h1 h2 h3 => by rw [nI_clamp (Nat.lt_trans hj hn), hw] at h1 h2; exact k H1 l1 h1 h2 h3)
theorem hz_last {f : Nat → Int64} {n j a : Nat} {x : Int64} {cA : ClassId} (hx : p.tables.exec = Jvm.exec) (hb : c.code = cc) (hK : va_K D cl tys s) (hP : va_P D cl w H) (hD : va_D A w) (hS : va_S A H0 H locs) (q0 t0 : Nat) (ha : w[q0]? = some (a, .inl (cA, n, .inr (.inl f)))) (ht : tys[t0]? = some (cA, .long)) (hj : j < n) (hn : n < 2 ^ 31) (hdg : decode cc pc = .ok (.lastore, 1)) (hw : w.set q0 (a, .inl (cA, n, .inr (.inl (vp_updL f j x)))) = w')
    (k : ∀ (H1 : Heap) (locs1 : List Loc), va_P D cl w' H1 → va_D A w' → va_S A H0 H1 locs1 → W p l e R s m args below meth c H1 locs1 cells slots Q (F0 m (pc + 1) ls rest)) : W p l e R s m args below meth c H locs cells slots Q (F0 m pc ls (.long x :: .int (nI j) :: .ref a :: rest)) :=
  va_last hx hb hK hP hD hS q0 t0 ha ht (vp_in_nI hj hn) hdg (fun H1 l1 h1 h2 h3 => by rw [nI_clamp (Nat.lt_trans hj hn), hw] at h1 h2; exact k H1 l1 h1 h2 h3)
theorem hz_icmp_ge {a b off tgt} (ha : a < 2 ^ 31) (hb2 : b < 2 ^ 31) (hx : p.tables.exec = Jvm.exec) (hb : c.code = cc) (hdg : decode cc pc = .ok (.if_icmp .ge off, 3)) (ht : (pc : Int) + off = ((tgt : Nat) : Int)) (kt : b ≤ a → W p l e R s m args below meth c H locs cells slots Q (F0 m tgt ls rest)) (kf : a < b → W p l e R s m args below meth c H locs cells slots Q (F0 m (pc + 3) ls rest)) : W p l e R s m args below meth c H locs cells slots Q (F0 m pc ls (.int (nI b) :: .int (nI a) :: rest)) :=
  lv_icmp_ge hx hb hdg ht (fun h => kt ((nI_leI hb2 ha).mp h)) (fun h => kf (Nat.lt_of_not_le (fun q => h ((nI_leI hb2 ha).mpr q))))
theorem hz_icmp_lt {a b off tgt} (ha : a < 2 ^ 31) (hb2 : b < 2 ^ 31) (hx : p.tables.exec = Jvm.exec) (hb : c.code = cc) (hdg : decode cc pc = .ok (.if_icmp .lt off, 3)) (ht : (pc : Int) + off = ((tgt : Nat) : Int)) (kt : a < b → W p l e R s m args below meth c H locs cells slots Q (F0 m tgt ls rest)) (kf : b ≤ a → W p l e R s m args below meth c H locs cells slots Q (F0 m (pc + 3) ls rest)) : W p l e R s m args below meth c H locs cells slots Q (F0 m pc ls (.int (nI b) :: .int (nI a) :: rest)) :=
  lv_icmp_lt hx hb hdg ht (fun h => kt ((nI_ltI ha hb2).mp h)) (fun h => kf (Nat.le_of_not_lt (fun q => h ((nI_ltI ha hb2).mpr q))))
theorem hz_icmp_gt {a b off tgt} (ha : a < 2 ^ 31) (hb2 : b < 2 ^ 31) (hx : p.tables.exec = Jvm.exec) (hb : c.code = cc) (hdg : decode cc pc = .ok (.if_icmp .gt off, 3)) (ht : (pc : Int) + off = ((tgt : Nat) : Int)) (kt : b < a → W p l e R s m args below meth c H locs cells slots Q (F0 m tgt ls rest)) (kf : a ≤ b → W p l e R s m args below meth c H locs cells slots Q (F0 m (pc + 3) ls rest)) : W p l e R s m args below meth c H locs cells slots Q (F0 m pc ls (.int (nI b) :: .int (nI a) :: rest)) :=
  lv_icmp_gt hx hb hdg ht (fun h => kt ((nI_ltI hb2 ha).mp h)) (fun h => kf (Nat.le_of_not_lt (fun q => h ((nI_ltI hb2 ha).mpr q))))
theorem hz_icmp_le {a b off tgt} (ha : a < 2 ^ 31) (hb2 : b < 2 ^ 31) (hx : p.tables.exec = Jvm.exec) (hb : c.code = cc) (hdg : decode cc pc = .ok (.if_icmp .le off, 3)) (ht : (pc : Int) + off = ((tgt : Nat) : Int)) (kt : a ≤ b → W p l e R s m args below meth c H locs cells slots Q (F0 m tgt ls rest)) (kf : b < a → W p l e R s m args below meth c H locs cells slots Q (F0 m (pc + 3) ls rest)) : W p l e R s m args below meth c H locs cells slots Q (F0 m pc ls (.int (nI b) :: .int (nI a) :: rest)) :=
  lv_icmp_le hx hb hdg ht (fun h => kt ((nI_leI ha hb2).mp h)) (fun h => kf (Nat.lt_of_not_le (fun q => h ((nI_leI ha hb2).mpr q))))
theorem hz_icmp_eq {a b off tgt} (ha : a < 2 ^ 31) (hb2 : b < 2 ^ 31) (hx : p.tables.exec = Jvm.exec) (hb : c.code = cc) (hdg : decode cc pc = .ok (.if_icmp .eq off, 3)) (ht : (pc : Int) + off = ((tgt : Nat) : Int)) (kt : a = b → W p l e R s m args below meth c H locs cells slots Q (F0 m tgt ls rest)) (kf : ¬ a = b → W p l e R s m args below meth c H locs cells slots Q (F0 m (pc + 3) ls rest)) : W p l e R s m args below meth c H locs cells slots Q (F0 m pc ls (.int (nI b) :: .int (nI a) :: rest)) :=
  lv_icmp_eq hx hb hdg ht (fun h => kt ((nI_eq ha hb2).mp h)) (fun h => kf (fun q => h ((nI_eq ha hb2).mpr q)))
theorem hz_icmp_ne {a b off tgt} (ha : a < 2 ^ 31) (hb2 : b < 2 ^ 31) (hx : p.tables.exec = Jvm.exec) (hb : c.code = cc) (hdg : decode cc pc = .ok (.if_icmp .ne off, 3)) (ht : (pc : Int) + off = ((tgt : Nat) : Int)) (kt : ¬ a = b → W p l e R s m args below meth c H locs cells slots Q (F0 m tgt ls rest)) (kf : a = b → W p l e R s m args below meth c H locs cells slots Q (F0 m (pc + 3) ls rest)) : W p l e R s m args below meth c H locs cells slots Q (F0 m pc ls (.int (nI b) :: .int (nI a) :: rest)) :=
  lv_icmp_ne hx hb hdg ht (fun h => kt (fun q => h ((nI_eq ha hb2).mpr q))) (fun h => kf ((nI_eq ha hb2).mp h))
end HZ
