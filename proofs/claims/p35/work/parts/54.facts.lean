theorem zz_arr {s : State} {args : Array Value} {ty : FieldType} (h : (Cond.arrayClass ty).before args s = true) : ∃ cA : ClassId, ArrOfT s cA ty ∧ s.vm.findClass ("[" ++ ty.toString) = some cA := by
  obtain ⟨cA, kA, comp, h1, h2, h3⟩ := Cond.arrayClass_spec h
  exact ⟨cA, fun n z => ⟨fun k h => (by cases h), kA, h2, comp, h3⟩, h1⟩
theorem zz_K {s : State} {D : va_G} {cI cL cD : ClassId} (hKc : ∀ (k : Nat) (q : vw_C), vwCl[k]? = some q → u_Kn s q.1 q.2.1 q.2.2 (D.1 k) (D.2 k)) (h1 : ArrOfT s cI .int ∧ s.vm.findClass ("[" ++ FieldType.int.toString) = some cI) (h2 : ArrOfT s cL .long ∧ s.vm.findClass ("[" ++ FieldType.long.toString) = some cL) (h3 : ArrOfT s cD .double ∧ s.vm.findClass ("[" ++ FieldType.double.toString) = some cD) : va_K D vwCl [(cI, .int), (cL, .long), (cD, .double)] s := by
  refine ⟨hKc, fun k q h => ?_⟩
  match k, h with
  | 0, h => cases h; exact h1
  | 1, h => cases h; exact h2
  | 2, h => cases h; exact h3
  | k + 3, h => simp at h
set_option maxRecDepth 100000 in
theorem zz_mem1 : ∀ q ∈ zz_strs, Cond.stringRef RX4 q.1 q.2 ∈ lw_tbl := by decide +kernel
set_option maxRecDepth 100000 in
theorem zz_mem2 : ∀ q ∈ zz_strs, Cond.exactly (.string RX4 q.1) "java/lang/String" ∈ flatC (Jvm.Cond.and given_1 narrow_1) := by decide +kernel
set_option maxRecDepth 100000 in
theorem zz_mem3 : ∀ E ∈ zz_exs, Cond.castable E E ∈ lw_tbl := by decide +kernel
set_option maxRecDepth 100000 in
theorem zz_mem4 : ∀ q ∈ zz_pairs, Cond.not (.castable q.1 q.2) ∈ flatC (Jvm.Cond.and given_1 narrow_1) := by decide +kernel
set_option maxRecDepth 100000 in
theorem zz_mem5 : ∀ Y ∈ zz_sup, Cond.declares (Bundle.initS Y) ∈ lw_tbl := by decide +kernel
set_option maxRecDepth 100000 in
theorem zz_mem6 : Cond.methodLinkNest RX0 93 yX4_checkOf RX4 ∈ lw_tbl ∧ Cond.laysStatic Bundle.tN "UNASSIGNED_STACK" Bundle.steD ∈ lw_tbl ∧ Cond.laysStatic Bundle.tN "SUPPRESSED_SENTINEL" Bundle.listD ∈ lw_tbl ∧ Cond.initialized Bundle.tN ∈ lw_tbl := by decide +kernel
set_option maxRecDepth 100000 in
theorem zz_mem7 : Cond.isRef (.static Bundle.tN "UNASSIGNED_STACK" Bundle.steD) ∈ flatC (Jvm.Cond.and given_1 narrow_1) ∧ Cond.isRef (.static Bundle.tN "SUPPRESSED_SENTINEL" Bundle.listD) ∈ flatC (Jvm.Cond.and given_1 narrow_1) := by decide +kernel
theorem zz_X0 {s : State} {args : Array Value} {A : Nat → Prop} (hts : ∀ w ∈ lw_tbl, w.before args s = true) (hgv : (Jvm.Cond.and given_1 narrow_1).before args s = true) (hA : ∀ a : Nat, a < s.heap.size → ¬ A a) : zz_X A s := by
  have hg := flat_of_before _ hgv
  refine ⟨vx_Zqof (hts _ zz_mem6.2.1) (hts _ zz_mem6.2.2.2) (hg _ zz_mem7.1) hA, vx_Zqof (hts _ zz_mem6.2.2.1) (hts _ zz_mem6.2.2.2) (hg _ zz_mem7.2) hA, fun q hq => ?_, va_Nw.of rfl (hts _ zz_mem6.1), fun E hE => va_Nw.of rfl (hts _ (zz_mem3 E hE)), fun q hq => va_Nc.of (hg _ (zz_mem4 q hq)), fun Y hY => va_Nw.of rfl (hts _ (zz_mem5 Y hY))⟩
  obtain ⟨a, c, cA, kA, q1, -⟩ := Cond.exactly_spec (args := args) (first := s) (o := none) (s := s) (idx := []) (hg _ (zz_mem2 q hq))
  exact ⟨a, vk_R.of (hts _ (zz_mem1 q hq)) q1⟩
