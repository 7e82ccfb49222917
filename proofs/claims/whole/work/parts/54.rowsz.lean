/-! contracts with what statics and String constants hold carried along (Z) -/
def hz_no : Nat → Prop := fun _ => False
abbrev hz_Zt := (Nat → Prop) → State → Heap → Prop
def hz_Zok (Z : hz_Zt) : Prop := (∀ (A : Nat → Prop) (u U : State) (H : Heap), u.WarmedH U.vm → Z A u H → Z A U H) ∧ (∀ (A : Nat → Prop) (u U : State) (H : Heap), U.vm = u.vm → Z A u H → Z A U H) ∧ (∀ (A : Nat → Prop) (U : State) (H H1 : Heap), Z A U H → (∀ a : Nat, a < H.size → ¬ A a → H1[a]? = H[a]?) → Z A U H1) ∧ (∀ (A B : Nat → Prop) (U : State) (H : Heap), Z A U H → (∀ q, B q → A q) → Z B U H)
abbrev hz_MPz (Z : hz_Zt) (l : Launch) (y : MethodName) (ws : List Cond) (rm : Room) (av : List Value) (D : va_G) (cl : List vw_C) (tys : List (ClassId × FieldType)) (w : va_W) (v : Value) : Prop := Met l y ws rm (fun a U => hz_P av D cl tys w a U ∧ Z hz_no U U.heap) (hz_V v) 0 0 (fun _ => False)
abbrev hz_MEz (Z : hz_Zt) (l : Launch) (y : MethodName) (ws : List Cond) (rm : Room) (av : List Value) (D : va_G) (cl : List vw_C) (tys : List (ClassId × FieldType)) (w w' : va_W) (r : Option Value) : Prop := Met l y ws rm (fun a U => hz_W av D cl tys w a U ∧ Z (hz_a w) U U.heap) (hz_E D cl w' r (hz_a w)) 0 0 (hz_a w)
abbrev hz_MXz {S : Type} (Z : hz_Zt) (l : Launch) (y : MethodName) (ws : List Cond) (rm : Room) (av : List Value) (D : va_G) (cl : List vw_C) (tys : List (ClassId × FieldType)) (w : va_W) (wf : S → va_W) (r : Option Value) : Prop := Met l y ws rm (fun a U => hz_W av D cl tys w a U ∧ Z (hz_a w) U U.heap) (hz_X D cl wf r (hz_a w)) 0 0 (hz_a w)
theorem hz_blPz {Z : hz_Zt} (hok : hz_Zok Z) {av : List Value} {D : va_G} {cl : List vw_C} {tys : List (ClassId × FieldType)} {w : va_W} : FrameBlind (fun a U => hz_P av D cl tys w a U ∧ Z hz_no U U.heap) := fun a U g mk q => ⟨hz_blP a U g mk q.1, hok.2.1 _ U _ _ rfl q.2⟩
theorem hz_blWz {Z : hz_Zt} (hok : hz_Zok Z) {av : List Value} {D : va_G} {cl : List vw_C} {tys : List (ClassId × FieldType)} {w : va_W} : FrameBlind (fun a U => hz_W av D cl tys w a U ∧ Z (hz_a w) U U.heap) := fun a U g mk q => ⟨hz_blW a U g mk q.1, hok.2.1 _ U _ _ rfl q.2⟩
section HZZ
variable {p : Program} {l : Launch} {e : Env} {R : Room} {s : State} {m : MethodId} {args : Array Value} {below : List Frame} {meth : Method} {c : Code} {H : Heap} {locs : List Loc} {cells slots : Nat} {Q : State → Prop}
variable {pc : Nat} {ls : Array Slot} {rest : List Value} {cc : ByteArray} {D : va_G} {cl : List vw_C} {tys tysc : List (ClassId × FieldType)} {A : Nat → Prop} {w w' wc wc' : va_W} {Z : hz_Zt}
theorem hz_zto (hok : hz_Zok Z) (hZ : Z A s s.heap) (hS : va_S A s.heap H locs) {B : Nat → Prop} (hB : ∀ q, B q → A q) {U : State} (hU : U.heap = H) (hw : s.WarmedH U.vm) : Z B U U.heap := by
  rw [hU]
  exact hok.1 _ s _ _ hw (hok.2.2.2 _ _ _ _ (hok.2.2.1 _ _ _ _ hZ hS.2.1) hB)
theorem hz_aA {isC : List Nat} (hD : va_D A w) (hC : isC.map (fun i => w[i]?) = wc.map some) : ∀ q, hz_a wc q → A q := fun q ⟨k, e, h⟩ => by
  have h1 : (isC.map (fun i => w[i]?))[k]? = some (some (q, e)) := by rw [hC, List.getElem?_map, h]; rfl
  rw [List.getElem?_map] at h1
  cases hi : isC[k]? with
  | none => rw [hi] at h1; cases h1
  | some i => rw [hi] at h1; exact hD.2 i _ (Option.some.inj h1)
theorem hz_mpz {y : MethodName} {ws ws' : List Cond} {rm : Room} {av : List Value} {v : Value} {maxL : Nat} {ret : Option FieldType} (hy : plainName y.cls = true) (hw : ws = Cond.code y cc maxL ret :: ws') (hn : (lg_sl av).length ≤ maxL)
    (body : ∀ (p : Program) (e : Env) (s : State) (m : MethodId) (below : List Frame) (meth : Method) (c : Code), p.tables.exec = Jvm.exec → c.code = cc → meth.sig.returnType = ret → (∀ w ∈ ws, w.before av.toArray s = true) → s.vm.findClass y.cls = some m.cls → meth.locks = false → c.maxLocals = maxL → va_P D cl w s.heap → va_K D cl tys s → Z hz_no s s.heap → ∀ ls : Array Slot, lv_has ls maxL (lv_args 0 av) →
      W p l e (headSpec ws rm).room s m av.toArray below meth c s.heap [] 0 0 (MQ below (hz_V v) av.toArray s 0 0 (fun _ => False)) (F0 m 0 ls [])) : hz_MPz Z l y ws rm av D cl tys w v := by
  refine Met.ofW (cc := cc) (maxL := maxL) (ret := ret) hy hw ?_
  intro p e s m args below meth c s₁ B hml hv
  obtain ⟨⟨rfl, hP, hK⟩, hZ⟩ := hv
  rw [lg_entry_eq]
  exact body p e s m below meth c B.exec B.bytes B.returns (atoms_spec (ws := ws) B.pre) (findClass_of_methodNamed B.named) B.notSynchronized hml hP hK hZ _ (lv_entry av hn)
theorem hz_mez {y : MethodName} {ws ws' : List Cond} {rm : Room} {av : List Value} {r : Option Value} {maxL : Nat} {ret : Option FieldType} (hy : plainName y.cls = true) (hw : ws = Cond.code y cc maxL ret :: ws') (hn : (lg_sl av).length ≤ maxL)
    (body : ∀ (p : Program) (e : Env) (s : State) (m : MethodId) (below : List Frame) (meth : Method) (c : Code), p.tables.exec = Jvm.exec → c.code = cc → meth.sig.returnType = ret → (∀ w ∈ ws, w.before av.toArray s = true) → s.vm.findClass y.cls = some m.cls → meth.locks = false → c.maxLocals = maxL → va_P D cl w s.heap → va_K D cl tys s → va_D (hz_a w) w → Z (hz_a w) s s.heap → ∀ ls : Array Slot, lv_has ls maxL (lv_args 0 av) →
      W p l e (headSpec ws rm).room s m av.toArray below meth c s.heap [] 0 0 (MQ below (hz_E D cl w' r (hz_a w)) av.toArray s 0 0 (hz_a w)) (F0 m 0 ls [])) : hz_MEz Z l y ws rm av D cl tys w w' r := by
  refine Met.ofW (cc := cc) (maxL := maxL) (ret := ret) hy hw ?_
  intro p e s m args below meth c s₁ B hml hv
  obtain ⟨⟨rfl, hP, hK, hD⟩, hZ⟩ := hv
  rw [lg_entry_eq]
  exact body p e s m below meth c B.exec B.bytes B.returns (atoms_spec (ws := ws) B.pre) (findClass_of_methodNamed B.named) B.notSynchronized hml hP hK (hz_D_self hD) hZ _ (lv_entry av hn)
theorem hz_mxz {S : Type} {wf : S → va_W} {y : MethodName} {ws ws' : List Cond} {rm : Room} {av : List Value} {r : Option Value} {maxL : Nat} {ret : Option FieldType} (hy : plainName y.cls = true) (hw : ws = Cond.code y cc maxL ret :: ws') (hn : (lg_sl av).length ≤ maxL)
    (body : ∀ (p : Program) (e : Env) (s : State) (m : MethodId) (below : List Frame) (meth : Method) (c : Code), p.tables.exec = Jvm.exec → c.code = cc → meth.sig.returnType = ret → (∀ w ∈ ws, w.before av.toArray s = true) → s.vm.findClass y.cls = some m.cls → meth.locks = false → c.maxLocals = maxL → va_P D cl w s.heap → va_K D cl tys s → va_D (hz_a w) w → Z (hz_a w) s s.heap → ∀ ls : Array Slot, lv_has ls maxL (lv_args 0 av) →
      W p l e (headSpec ws rm).room s m av.toArray below meth c s.heap [] 0 0 (MQ below (hz_X D cl wf r (hz_a w)) av.toArray s 0 0 (hz_a w)) (F0 m 0 ls [])) : hz_MXz Z l y ws rm av D cl tys w wf r := by
  refine Met.ofW (cc := cc) (maxL := maxL) (ret := ret) hy hw ?_
  intro p e s m args below meth c s₁ B hml hv
  obtain ⟨⟨rfl, hP, hK, hD⟩, hZ⟩ := hv
  rw [lg_entry_eq]
  exact body p e s m below meth c B.exec B.bytes B.returns (atoms_spec (ws := ws) B.pre) (findClass_of_methodNamed B.named) B.notSynchronized hml hP hK (hz_D_self hD) hZ _ (lv_entry av hn)
theorem hz_cvz {bytes : ByteArray} {nL maxL index n : Nat} {own C : String} {y : MethodName} {ret : Option FieldType} {ws Ts : List Cond} {rm : Room} {b : Addr} {As st0 : List Value} {v : Value} (S : CallFix p m c cc nL s args Ts own) (hok : hz_Zok Z) (hZ : Z A s s.heap) (hS : va_S A s.heap H locs) (hM : hz_MPz Z l y ws rm (.ref b :: As) D cl tysc wc v) (cw : CallW R s args own C index y bytes maxL ret ws rm 0 0 n) (hK : va_K D cl tys s) (hP : va_P D cl w H) (isC : List Nat) (hC : isC.filterMap (fun i => w[i]?) = wc) (isK : List Nat) (hT : isK.filterMap (fun i => tys[i]?) = tysc)
    (q0 : Nat) {ci : Nat} {fs : List Value} {qc : vw_C} (he : w[q0]? = some (b, .inr (ci, fs))) (hc : cl[ci]? = some qc) (hq : qc.1 = C) (hn : As.length = n) (hsize : ls.size = nL) (hst : st0 = As.reverse ++ .ref b :: rest) (hW : (rest.map fun v => v.category).sum ≤ 8) (hdg : decode cc pc = .ok (.invokevirtual index, 3)) (hf : cells ≤ R.cells ∧ slots ≤ R.slots)
    (kk : W p l e R s m args below meth c H locs cells slots Q (F0 m (pc + 3) ls (v :: rest))) : W p l e R s m args below meth c H locs cells slots Q (F0 m pc ls st0) :=
  hz_run (W.runV (g := F0 m pc ls st0) (As := As) S hM cw ⟨hz_blPz hok, by subst hq; exact va_recv hK hP hc he, fun U hU hw => ⟨⟨rfl, by rw [hU]; exact hP.sub isC hC, va_K.moved hw.alike (hK.sub isK hT)⟩, hz_zto hok hZ hS (fun _ h => h.elim) hU hw⟩⟩ rfl hn hsize hst (lv_room hW) hdg hf) kk
theorem hz_cvr {bytes : ByteArray} {nL maxL index n : Nat} {own C : String} {y : MethodName} {ret : Option FieldType} {ws Ts : List Cond} {rm : Room} {b : Addr} {As st0 : List Value} {v : Value} (S : CallFix p m c cc nL s args Ts own) (hok : hz_Zok Z) (hZ : Z A s s.heap) (hS : va_S A s.heap H locs) (hM : hz_MPz Z l y ws rm (.ref b :: As) D cl tysc wc v) (cw : CallW R s args own C index y bytes maxL ret ws rm 0 0 n) (hK : va_K D cl tys s) (hP : va_P D cl w H) (isC : List Nat) (hC : isC.filterMap (fun i => w[i]?) = wc) (isK : List Nat) (hT : isK.filterMap (fun i => tys[i]?) = tysc)
    (hrv : ∃ cell : Cell, H[b]? = some cell ∧ cell.vm.isStatics = false ∧ s.vm.findClass C = some cell.cls) (hn : As.length = n) (hsize : ls.size = nL) (hst : st0 = As.reverse ++ .ref b :: rest) (hW : (rest.map fun v => v.category).sum ≤ 8) (hdg : decode cc pc = .ok (.invokevirtual index, 3)) (hf : cells ≤ R.cells ∧ slots ≤ R.slots)
    (kk : W p l e R s m args below meth c H locs cells slots Q (F0 m (pc + 3) ls (v :: rest))) : W p l e R s m args below meth c H locs cells slots Q (F0 m pc ls st0) :=
  hz_run (W.runV (g := F0 m pc ls st0) (As := As) S hM cw ⟨hz_blPz hok, hrv, fun U hU hw => ⟨⟨rfl, by rw [hU]; exact hP.sub isC hC, va_K.moved hw.alike (hK.sub isK hT)⟩, hz_zto hok hZ hS (fun _ h => h.elim) hU hw⟩⟩ rfl hn hsize hst (lv_room hW) hdg hf) kk
theorem hz_csz {bytes : ByteArray} {nL maxL index n : Nat} {own : String} {y : MethodName} {ret : Option FieldType} {ws Ts : List Cond} {rm : Room} {As st0 : List Value} {v : Value} (S : CallFix p m c cc nL s args Ts own) (hok : hz_Zok Z) (hZ : Z A s s.heap) (hS : va_S A s.heap H locs) (hM : hz_MPz Z l y ws rm As D cl tysc wc v) (cw : CallB R s args own index y bytes maxL ret ws rm 0 0 n ∧ (Cond.static y).before args s = true) (hK : va_K D cl tys s) (hP : va_P D cl w H) (isC : List Nat) (hC : isC.filterMap (fun i => w[i]?) = wc) (isK : List Nat) (hT : isK.filterMap (fun i => tys[i]?) = tysc)
    (hn : As.length = n) (hsize : ls.size = nL) (hst : st0 = As.reverse ++ rest) (hW : (rest.map fun v => v.category).sum ≤ 8) (hdg : decode cc pc = .ok (.invokestatic index, 3)) (hf : cells ≤ R.cells ∧ slots ≤ R.slots)
    (kk : W p l e R s m args below meth c H locs cells slots Q (F0 m (pc + 3) ls (v :: rest))) : W p l e R s m args below meth c H locs cells slots Q (F0 m pc ls st0) :=
  hz_run (W.runS (g := F0 m pc ls st0) (As := As) S hM cw ⟨hz_blPz hok, fun U hU hw => ⟨⟨rfl, by rw [hU]; exact hP.sub isC hC, va_K.moved hw.alike (hK.sub isK hT)⟩, hz_zto hok hZ hS (fun _ h => h.elim) hU hw⟩⟩ rfl hn hsize hst (lv_room hW) hdg hf) kk
theorem hz_cez {bytes : ByteArray} {nL maxL index n : Nat} {own C : String} {y : MethodName} {ret : Option FieldType} {ws Ts : List Cond} {rm : Room} {b : Addr} {As st0 : List Value} {r : Option Value} (S : CallFix p m c cc nL s args Ts own) (hok : hz_Zok Z) (hZ : Z A s s.heap) (hM : hz_MEz Z l y ws rm (.ref b :: As) D cl tysc wc wc' r) (cw : CallW R s args own C index y bytes maxL ret ws rm 0 0 n) (hK : va_K D cl tys s) (hP : va_P D cl w H) (hD : va_D A w) (hS : va_S A s.heap H locs) (isC : List Nat) (hC : isC.map (fun i => w[i]?) = wc.map some) (hnd : va_nd isC = true) (ha : wc'.map Prod.fst = wc.map Prod.fst) (hw : hz_pt w isC wc' = w') (isK : List Nat) (hT : isK.filterMap (fun i => tys[i]?) = tysc)
    (q0 : Nat) {ci : Nat} {fs : List Value} {qc : vw_C} (he : w[q0]? = some (b, .inr (ci, fs))) (hc : cl[ci]? = some qc) (hq : qc.1 = C) (hn : As.length = n) (hsize : ls.size = nL) (hst : st0 = As.reverse ++ .ref b :: rest) (hW : (rest.map fun v => v.category).sum ≤ 8) (hdg : decode cc pc = .ok (.invokevirtual index, 3)) (hf : cells ≤ R.cells ∧ slots ≤ R.slots)
    (kk : ∀ (H1 : Heap) (locs1 : List Loc), va_P D cl w' H1 → va_D A w' → va_S A s.heap H1 locs1 → W p l e R s m args below meth c H1 locs1 cells slots Q (F0 m (pc + 3) ls (r.toList ++ rest))) : W p l e R s m args below meth c H locs cells slots Q (F0 m pc ls st0) := by
  have hPc : va_P D cl wc H := by
    intro k q hq
    have h1 : (isC.map (fun i => w[i]?))[k]? = some (some q) := by rw [hC, List.getElem?_map, hq]; rfl
    rw [List.getElem?_map] at h1
    cases hi : isC[k]? with
    | none => rw [hi] at h1; cases h1
    | some i => rw [hi] at h1; exact hP i q (Option.some.inj h1)
  exact hz_runE (va_runV (g := F0 m pc ls st0) (As := As) S hM cw ⟨hz_blWz hok, by subst hq; exact va_recv hK hP hc he, fun U hU hw => ⟨⟨rfl, by rw [hU]; exact hPc, va_K.moved hw.alike (hK.sub isK hT), (hD.sub isC hnd hC).weaken (fun _ _ _ _ => trivial)⟩, hz_zto hok hZ hS (hz_aA hD hC) hU hw⟩⟩ rfl hn hsize hst (lv_room hW) hdg hf) hP hD hS isC hC ha hw kk
theorem hz_csez {bytes : ByteArray} {nL maxL index n : Nat} {own : String} {y : MethodName} {ret : Option FieldType} {ws Ts : List Cond} {rm : Room} {As st0 : List Value} {r : Option Value} (S : CallFix p m c cc nL s args Ts own) (hok : hz_Zok Z) (hZ : Z A s s.heap) (hM : hz_MEz Z l y ws rm As D cl tysc wc wc' r) (cw : CallB R s args own index y bytes maxL ret ws rm 0 0 n ∧ (Cond.static y).before args s = true) (hK : va_K D cl tys s) (hP : va_P D cl w H) (hD : va_D A w) (hS : va_S A s.heap H locs) (isC : List Nat) (hC : isC.map (fun i => w[i]?) = wc.map some) (hnd : va_nd isC = true) (ha : wc'.map Prod.fst = wc.map Prod.fst) (hw : hz_pt w isC wc' = w') (isK : List Nat) (hT : isK.filterMap (fun i => tys[i]?) = tysc)
    (hn : As.length = n) (hsize : ls.size = nL) (hst : st0 = As.reverse ++ rest) (hW : (rest.map fun v => v.category).sum ≤ 8) (hdg : decode cc pc = .ok (.invokestatic index, 3)) (hf : cells ≤ R.cells ∧ slots ≤ R.slots)
    (kk : ∀ (H1 : Heap) (locs1 : List Loc), va_P D cl w' H1 → va_D A w' → va_S A s.heap H1 locs1 → W p l e R s m args below meth c H1 locs1 cells slots Q (F0 m (pc + 3) ls (r.toList ++ rest))) : W p l e R s m args below meth c H locs cells slots Q (F0 m pc ls st0) := by
  have hPc : va_P D cl wc H := by
    intro k q hq
    have h1 : (isC.map (fun i => w[i]?))[k]? = some (some q) := by rw [hC, List.getElem?_map, hq]; rfl
    rw [List.getElem?_map] at h1
    cases hi : isC[k]? with
    | none => rw [hi] at h1; cases h1
    | some i => rw [hi] at h1; exact hP i q (Option.some.inj h1)
  exact hz_runE (va_runS (g := F0 m pc ls st0) (As := As) S hM cw ⟨hz_blWz hok, fun U hU hw => ⟨⟨rfl, by rw [hU]; exact hPc, va_K.moved hw.alike (hK.sub isK hT), (hD.sub isC hnd hC).weaken (fun _ _ _ _ => trivial)⟩, hz_zto hok hZ hS (hz_aA hD hC) hU hw⟩⟩ rfl hn hsize hst (lv_room hW) hdg hf) hP hD hS isC hC ha hw kk
theorem hz_cxz {S : Type} {wf wf' : S → va_W} {bytes : ByteArray} {nL maxL index n : Nat} {own C : String} {y : MethodName} {ret : Option FieldType} {ws Ts : List Cond} {rm : Room} {b : Addr} {As st0 : List Value} {r : Option Value} (S0 : CallFix p m c cc nL s args Ts own) (hok : hz_Zok Z) (hZ : Z A s s.heap) (hM : hz_MXz Z l y ws rm (.ref b :: As) D cl tysc wc wf r) (cw : CallW R s args own C index y bytes maxL ret ws rm 0 0 n) (hK : va_K D cl tys s) (hP : va_P D cl w H) (hD : va_D A w) (hS : va_S A s.heap H locs) (isC : List Nat) (hC : isC.map (fun i => w[i]?) = wc.map some) (hnd : va_nd isC = true) (ha : ∀ u, (wf u).map Prod.fst = wc.map Prod.fst) (hw : ∀ u, hz_pt w isC (wf u) = wf' u) (isK : List Nat) (hT : isK.filterMap (fun i => tys[i]?) = tysc)
    (q0 : Nat) {ci : Nat} {fs : List Value} {qc : vw_C} (he : w[q0]? = some (b, .inr (ci, fs))) (hc : cl[ci]? = some qc) (hq : qc.1 = C) (hn : As.length = n) (hsize : ls.size = nL) (hst : st0 = As.reverse ++ .ref b :: rest) (hW : (rest.map fun v => v.category).sum ≤ 8) (hdg : decode cc pc = .ok (.invokevirtual index, 3)) (hf : cells ≤ R.cells ∧ slots ≤ R.slots)
    (kk : ∀ (u : S) (H1 : Heap) (locs1 : List Loc), va_P D cl (wf' u) H1 → va_D A (wf' u) → va_S A s.heap H1 locs1 → W p l e R s m args below meth c H1 locs1 cells slots Q (F0 m (pc + 3) ls (r.toList ++ rest))) : W p l e R s m args below meth c H locs cells slots Q (F0 m pc ls st0) := by
  have hPc : va_P D cl wc H := by
    intro k q hq
    have h1 : (isC.map (fun i => w[i]?))[k]? = some (some q) := by rw [hC, List.getElem?_map, hq]; rfl
    rw [List.getElem?_map] at h1
    cases hi : isC[k]? with
    | none => rw [hi] at h1; cases h1
    | some i => rw [hi] at h1; exact hP i q (Option.some.inj h1)
  exact hz_runX (va_runV (g := F0 m pc ls st0) (As := As) S0 hM cw ⟨hz_blWz hok, by subst hq; exact va_recv hK hP hc he, fun U hU hw => ⟨⟨rfl, by rw [hU]; exact hPc, va_K.moved hw.alike (hK.sub isK hT), (hD.sub isC hnd hC).weaken (fun _ _ _ _ => trivial)⟩, hz_zto hok hZ hS (hz_aA hD hC) hU hw⟩⟩ rfl hn hsize hst (lv_room hW) hdg hf) hP hD hS isC hC ha hw kk
end HZZ
def pz_T : List Int32 := [100, 101, 108, 101, 103, 97, 116, 101, 112, 101, 101, 114, 0, 0, 0, 0, 99, 108, 101, 114, 107, 0, 0, 0, 101, 120, 105, 108, 101, 0, 0, 0, 108, 111, 114, 100, 0, 0, 0, 0, 115, 99, 114, 105, 98, 101, 0, 0, 112, 114, 105, 100, 101, 0, 0, 0, 104, 97, 115, 0, 0, 0, 0, 0, 115, 112, 101, 101, 99, 104, 0, 0, 97, 116, 0, 0, 0, 0, 0, 0]
def pz_NM (j : Nat) : Int32 := pz_T.getD j 0
def pz_L : List Nat := [8, 4, 5, 5, 4, 6, 5, 3, 6, 2]
def pz_ln (i : Nat) : Nat := pz_L.getD i 0
def pz_B : List (List Int32) := [[100, 101, 108, 101, 103, 97, 116, 101], [112, 101, 101, 114], [99, 108, 101, 114, 107], [101, 120, 105, 108, 101], [108, 111, 114, 100], [115, 99, 114, 105, 98, 101], [112, 114, 105, 100, 101], [104, 97, 115], [115, 112, 101, 101, 99, 104], [97, 116]]
def pz_ix (i : Nat) : Nat := [94, 96, 98, 100, 102, 104, 64, 75, 35, 87].getD i 0
def pz_tx (i : Nat) : String := ["delegate", "peer", "clerk", "exile", "lord", "scribe", "pride", "has", "speech", "at"].getD i ""
def hz_Q (aN : Nat) (adK adV : Nat → Nat) : hz_Zt := fun A U H => va_Z "HurtSpeechModel" "NAMES" "[I" (.ref aN) A U H ∧ va_T .int aN 80 (fun j => .int (pz_NM j)) A U H ∧ va_Z "java/lang/String" "COMPACT_STRINGS" "Z" (.int 1) A U H ∧ va_Zq "jdk/internal/util/Preconditions" "SIOOBE_FORMATTER" "Ljava/util/function/BiFunction;" A U H ∧ vk_S 10 pz_L pz_B adK adV A U H ∧ ∀ i : Nat, i < 10 → vk_R RX2 (pz_ix i) (pz_tx i) (adK i) U
theorem hz_Q_ok (aN : Nat) (adK adV : Nat → Nat) : hz_Zok (hz_Q aN adK adV) :=
  ⟨fun A u U H hw h => ⟨va_Z.moved hw.alike h.1, va_T.moved hw.alike h.2.1, va_Z.moved hw.alike h.2.2.1, va_Zq.moved hw.alike h.2.2.2.1, vk_S.moved hw.alike h.2.2.2.2.1, fun i hi => vk_R.warm hw (h.2.2.2.2.2 i hi)⟩,
   fun A u U H hv h => by
    have ha : u.vm.Alike U.vm := by rw [hv]; exact Vm.Alike.refl _
    exact ⟨va_Z.moved ha h.1, va_T.moved ha h.2.1, va_Z.moved ha h.2.2.1, va_Zq.moved ha h.2.2.2.1, vk_S.moved ha h.2.2.2.2.1, fun i hi => vk_R.same hv (h.2.2.2.2.2 i hi)⟩,
   fun A U H H1 h hq => ⟨h.1.kept hq, h.2.1.kept hq, h.2.2.1.kept hq, h.2.2.2.1.kept hq, h.2.2.2.2.1.kept hq, h.2.2.2.2.2⟩,
   fun A B U H h hq => ⟨h.1.narrow hq, h.2.1.narrow hq, h.2.2.1.narrow hq, h.2.2.2.1.narrow hq, h.2.2.2.2.1.narrow hq, h.2.2.2.2.2⟩⟩
