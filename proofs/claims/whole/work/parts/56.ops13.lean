/-! the bytes of String constants as chars -/
def pz_y (i j : Nat) : Int32 := (pz_B.getD i []).getD j 0
theorem pz_ch : ∀ i : Nat, i < 10 → ∀ j : Nat, j < pz_ln i → (((pz_y i j &&& nI 255).toUInt32 % 65536).toInt32 = pz_NM (8 * i + j)) ∧ narrow .char (.int (pz_NM (8 * i + j))) = .int (pz_NM (8 * i + j)) := by
  have h : ∀ i : Nat, i < 10 → ∀ j : Nat, j < pz_ln i → (((pz_y i j &&& nI 255).toUInt32 % 65536).toInt32 = pz_NM (8 * i + j)) ∧ ((pz_NM (8 * i + j)).toUInt32 % 65536).toInt32 = pz_NM (8 * i + j) := by decide +kernel
  intro i hi j hj
  exact ⟨(h i hi j hj).1, congrArg Value.int (h i hi j hj).2⟩
theorem pz_shr0 (k : Nat) : nI k >>> (nI 0 &&& 31) = nI k := by
  rw [show nI 0 &&& 31 = (0 : Int32) by decide]
  exact Int32.shiftRight_zero
/-- a method that writes nothing and answers nothing -/
def hz_V0 : Array Value → State → Outcome → State → Prop := fun _ st o t => o = .returned none ∧ t.heap = st.heap
abbrev hz_M0z (Z : hz_Zt) (l : Launch) (y : MethodName) (ws : List Cond) (rm : Room) (av : List Value) (D : va_G) (cl : List vw_C) (tys : List (ClassId × FieldType)) (w : va_W) : Prop := Met l y ws rm (fun a U => hz_P av D cl tys w a U ∧ Z hz_no U U.heap) hz_V0 0 0 (fun _ => False)
section HZ0
variable {p : Program} {l : Launch} {e : Env} {R : Room} {s : State} {m : MethodId} {args : Array Value} {below : List Frame} {meth : Method} {c : Code} {H : Heap} {locs : List Loc} {cells slots : Nat} {Q : State → Prop}
variable {pc : Nat} {ls : Array Slot} {rest : List Value} {cc : ByteArray} {D : va_G} {cl : List vw_C} {tys tysc : List (ClassId × FieldType)} {A : Nat → Prop} {w w' wc wc' : va_W} {Z : hz_Zt}
theorem hz_m0z {y : MethodName} {ws ws' : List Cond} {rm : Room} {av : List Value} {maxL : Nat} {ret : Option FieldType} (hy : plainName y.cls = true) (hw : ws = Cond.code y cc maxL ret :: ws') (hn : (lg_sl av).length ≤ maxL)
    (body : ∀ (p : Program) (e : Env) (s : State) (m : MethodId) (below : List Frame) (meth : Method) (c : Code), p.tables.exec = Jvm.exec → c.code = cc → meth.sig.returnType = ret → (∀ w ∈ ws, w.before av.toArray s = true) → s.vm.findClass y.cls = some m.cls → meth.locks = false → c.maxLocals = maxL → va_P D cl w s.heap → va_K D cl tys s → Z hz_no s s.heap → ∀ ls : Array Slot, lv_has ls maxL (lv_args 0 av) →
      W p l e (headSpec ws rm).room s m av.toArray below meth c s.heap [] 0 0 (MQ below hz_V0 av.toArray s 0 0 (fun _ => False)) (F0 m 0 ls [])) : hz_M0z Z l y ws rm av D cl tys w := by
  refine Met.ofW (cc := cc) (maxL := maxL) (ret := ret) hy hw ?_
  intro p e s m args below meth c s₁ B hml hv
  obtain ⟨⟨rfl, hP, hK⟩, hZ⟩ := hv
  rw [lg_entry_eq]
  exact body p e s m below meth c B.exec B.bytes B.returns (atoms_spec (ws := ws) B.pre) (findClass_of_methodNamed B.named) B.notSynchronized hml hP hK hZ _ (lv_entry av hn)
theorem hz_rv (hx : p.tables.exec = Jvm.exec) (hb : c.code = cc) (hr : meth.sig.returnType = none) (hlocks : meth.locks = false) (hdg : decode cc pc = .ok (.return_, 1)) : W p l e R s m args below meth c s.heap [] 0 0 (MQ below hz_V0 args s 0 0 (fun _ => False)) (F0 m pc ls []) :=
  W.vret hx hb hr (fun t ht _ => ⟨rfl, ht⟩) (fun _ h => by cases h) hdg hlocks
theorem hz_run0 {a : Array Value} {g : JFrame} (hr : CallRun p l e R s m args below meth c H locs cells slots 0 0 g rest (hz_V0 a) (fun _ => False)) (kk : W p l e R s m args below meth c H locs cells slots Q { g with pc := g.pc + 3, stack := rest }) : W p l e R s m args below meth c H locs cells slots Q g := by
  intro T hT X
  obtain ⟨v', st₀, t, T', L, h0, X', hL, e1, ⟨hv, hh⟩, st⟩ := hr T hT X
  cases hv
  obtain ⟨t2, a1, b1⟩ := kk T' (by rw [e1, hh, h0]) (Stand.forget X' (fun q h => (hL q h).elim))
  exact ⟨t2, st t2 a1, b1⟩
theorem hz_cs0z {bytes : ByteArray} {nL maxL index n : Nat} {own : String} {y : MethodName} {ret : Option FieldType} {ws Ts : List Cond} {rm : Room} {As st0 : List Value} (S : CallFix p m c cc nL s args Ts own) (hok : hz_Zok Z) (hZ : Z A s s.heap) (hS : va_S A s.heap H locs) (hM : hz_M0z Z l y ws rm As D cl tysc wc) (cw : CallB R s args own index y bytes maxL ret ws rm 0 0 n ∧ (Cond.static y).before args s = true) (hK : va_K D cl tys s) (hP : va_P D cl w H) (isC : List Nat) (hC : isC.filterMap (fun i => w[i]?) = wc) (isK : List Nat) (hT : isK.filterMap (fun i => tys[i]?) = tysc)
    (hn : As.length = n) (hsize : ls.size = nL) (hst : st0 = As.reverse ++ rest) (hW : (rest.map fun v => v.category).sum ≤ 8) (hdg : decode cc pc = .ok (.invokestatic index, 3)) (hf : cells ≤ R.cells ∧ slots ≤ R.slots)
    (kk : W p l e R s m args below meth c H locs cells slots Q (F0 m (pc + 3) ls rest)) : W p l e R s m args below meth c H locs cells slots Q (F0 m pc ls st0) :=
  hz_run0 (W.runS (g := F0 m pc ls st0) (As := As) S hM cw ⟨hz_blPz hok, fun U hU hw => ⟨⟨rfl, by rw [hU]; exact hP.sub isC hC, va_K.moved hw.alike (hK.sub isK hT)⟩, hz_zto hok hZ hS (fun _ h => h.elim) hU hw⟩⟩ rfl hn hsize hst (lv_room hW) hdg hf) kk
end HZ0
