/-! what statics and String constants hold at the start -/
abbrev st_T : List Jvm.Cond := flatC (Jvm.Cond.and given_1 narrow_1)
def st_t (i : Nat) : Term := .string RX2 (pz_ix i)
def st_b (i : Nat) : Nat := [109, 123, 134, 147, 161, 175, 192, 209, 92, 102].getD i 0
def st_p (i j : Nat) : Nat := [0, 133, 145, 158, 171, 187, 203, 218, 121, 122, 133, 0, 146, 159, 172, 188, 204, 219, 131, 132, 145, 146, 0, 160, 173, 189, 205, 220, 143, 144, 158, 159, 160, 0, 174, 190, 206, 221, 156, 157, 171, 172, 173, 174, 0, 191, 207, 222, 169, 170, 187, 188, 189, 190, 191, 0, 208, 223, 185, 186, 203, 204, 205, 206, 207, 208, 0, 224, 201, 202, 218, 219, 220, 221, 222, 223, 224, 0, 216, 217, 121, 131, 143, 156, 169, 185, 201, 216, 0, 108, 122, 132, 144, 157, 170, 186, 202, 217, 108, 0].getD (10 * i + j) 0
theorem st_nm : ∀ j : Nat, j < 80 → st_T[12 + j]? = some (Cond.eq (.elem (.static "HurtSpeechModel" "NAMES" "[I") (.int (Int32.ofNat j))) (.int (pz_NM j))) := by decide +kernel
theorem st_ex : ∀ i : Nat, i < 10 → st_T[st_b i]? = some (Cond.exactly (st_t i) "java/lang/String") := by decide +kernel
theorem st_co : ∀ i : Nat, i < 10 → st_T[st_b i + 1]? = some (Cond.eq (.field (st_t i) "java/lang/String" "coder" "B") (.int 0)) := by decide +kernel
theorem st_ar : ∀ i : Nat, i < 10 → st_T[st_b i + 2]? = some (Cond.arrayOf (.field (st_t i) "java/lang/String" "value" "[B") .byte) := by decide +kernel
theorem st_le : ∀ i : Nat, i < 10 → st_T[st_b i + 3]? = some (Cond.eq (.length (.field (st_t i) "java/lang/String" "value" "[B")) (.int (Int32.ofNat (pz_L.getD i 0)))) := by decide +kernel
theorem st_el : ∀ i : Nat, i < 10 → ∀ j : Nat, j < pz_L.getD i 0 → st_T[st_b i + 4 + j]? = some (Cond.eq (.elem (.field (st_t i) "java/lang/String" "value" "[B") (.int (Int32.ofNat j))) (.int ((pz_B.getD i []).getD j 0))) := by decide +kernel
theorem st_ne : ∀ i : Nat, i < 10 → ∀ j : Nat, j < 10 → i ≠ j → st_T[st_p i j]? = some (Cond.not (Cond.eq (st_t i) (st_t j))) ∨ st_T[st_p i j]? = some (Cond.not (Cond.eq (st_t j) (st_t i))) := by decide +kernel
theorem st_sr : ∀ i : Nat, i < 10 → Cond.stringRef RX2 (pz_ix i) (pz_tx i) ∈ lw_tbl := by
  intro i hi
  rcases (show i = 0 ∨ i = 1 ∨ i = 2 ∨ i = 3 ∨ i = 4 ∨ i = 5 ∨ i = 6 ∨ i = 7 ∨ i = 8 ∨ i = 9 by omega) with rfl | rfl | rfl | rfl | rfl | rfl | rfl | rfl | rfl | rfl
  · exact lwt_3 (List.mem_of_getElem? (i := 26) rfl)
  · exact lwt_3 (List.mem_of_getElem? (i := 27) rfl)
  · exact lwt_3 (List.mem_of_getElem? (i := 28) rfl)
  · exact lwt_3 (List.mem_of_getElem? (i := 29) rfl)
  · exact lwt_3 (List.mem_of_getElem? (i := 30) rfl)
  · exact lwt_3 (List.mem_of_getElem? (i := 31) rfl)
  · exact lwt_3 (List.mem_of_getElem? (i := 37) rfl)
  · exact lwt_3 (List.mem_of_getElem? (i := 38) rfl)
  · exact lwt_2 (List.mem_of_getElem? (i := 195) rfl)
  · exact lwt_3 (List.mem_of_getElem? (i := 17) rfl)
theorem lw_stat {s : State} {b : Nat} (hts : ∀ w ∈ lw_tbl, w.before #[Value.ref b] s = true) (hgv : (Jvm.Cond.and given_1 narrow_1).before #[Value.ref b] s = true) : ∃ (aN : Nat) (adK adV : Nat → Nat), hz_Q aN adK adV (lw_Ah s) s s.heap := by
  have hs : ∀ c ∈ st_T, c.before #[Value.ref b] s = true := flat_of_before _ hgv
  have hA : ∀ a : Nat, a < s.heap.size → ¬ lw_Ah s a := fun a h => Nat.not_le.mpr h
  have g : ∀ {k : Nat} {c : Cond}, st_T[k]? = some c → c.before #[Value.ref b] s = true := fun h => hs _ (List.mem_of_getElem? h)
  have h80 : (Cond.eq (.length (.static "HurtSpeechModel" "NAMES" "[I")) (.int (Int32.ofNat 80))).before #[Value.ref b] s = true := g (k := 11) (by decide +kernel)
  have har : (Cond.arrayOf (.static "HurtSpeechModel" "NAMES" "[I") .int).before #[Value.ref b] s = true := g (k := 10) (by decide +kernel)
  have hcs : (Cond.eq (.static "java/lang/String" "COMPACT_STRINGS" "Z") (.int 1)).before #[Value.ref b] s = true := g (k := 4) (by decide +kernel)
  have hsf : (Cond.isRef (.static "jdk/internal/util/Preconditions" "SIOOBE_FORMATTER" "Ljava/util/function/BiFunction;")).before #[Value.ref b] s = true := g (k := 5) (by decide +kernel)
  obtain ⟨aN, hN, hT⟩ := va_Tof (tm := .static "HurtSpeechModel" "NAMES" "[I") (ty := .int) (N := 80) (f := fun j => .int (pz_NM j)) (A := lw_Ah s) (by decide) har (va_eqt h80) (fun j hj => va_eqt (g (st_nm j hj))) hA
  obtain ⟨adK, adV, hS, hE⟩ := vk_Sof (N := 10) (tm := st_t) (len := pz_L) (byt := pz_B) (A := lw_Ah s) (by decide) (fun i hi => g (st_ex i hi)) (fun i hi => g (st_co i hi)) (fun i hi => g (st_ar i hi)) (fun i hi => g (st_le i hi)) (fun i hi j hj => g (st_el i hi j hj)) (fun i j hi hj hij => (st_ne i hi j hj hij).imp g g) hA
  exact ⟨aN, adK, adV, va_Zof (hts _ (lwt_4 (List.mem_of_getElem? (i := 199) rfl))) (hts _ (lwt_1 (List.mem_of_getElem? (i := 5) rfl))) hN hA, hT, va_Zof (hts _ (lwt_2 (List.mem_of_getElem? (i := 209) rfl))) (hts _ (lwt_1 (List.mem_of_getElem? (i := 8) rfl))) (va_eqi hcs) hA, va_Zqof (hts _ (lwt_2 (List.mem_of_getElem? (i := 225) rfl))) (hts _ (lwt_1 (List.mem_of_getElem? (i := 10) rfl))) hsf hA, hS, fun i hi => vk_R.of (hts _ (st_sr i hi)) (hE i hi)⟩
theorem hz_arrc {s : State} {args : Array Value} {ty : FieldType} (hp : ∀ cA : ClassId, s.vm.findClass ("[" ++ ty.toString) = some cA → va_RA s cA ty) (h : (Cond.arrayClass ty).before args s = true) : ∃ cA : ClassId, ArrOfT s cA ty ∧ va_RA s cA ty := by
  obtain ⟨cA, kA, comp, h1, h2, h3⟩ := Cond.arrayClass_spec (args := args) (first := s) (o := none) (s := s) (idx := []) h
  exact ⟨cA, fun n z => ⟨fun k h => (by cases h), kA, h2, comp, h3⟩, hp cA h1⟩
