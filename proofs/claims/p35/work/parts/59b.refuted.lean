def zz_scr : List Int32 := [1, 1, 0, 150, 0] ++ (List.replicate 161 ([13, 0, 0, 0, 0, 12, 3, 0, 0, 0] : List Int32)).flatten
set_option maxRecDepth 100000 in
theorem zz_len : zz_scr.length = 1615 := by decide +kernel
set_option maxRecDepth 100000 in
theorem zz_scrF : zz_F (fun j => zz_scr.getD j 0) := by
  refine ⟨by decide +kernel, by decide +kernel, by decide +kernel, by decide +kernel, fun j hj => ?_⟩
  exact (by decide +kernel : ∀ j : Fin 161, zz_scr.getD (5 + 10 * j.1) 0 = 13 ∧ zz_scr.getD (5 + 10 * j.1 + 5) 0 = 12 ∧ zz_scr.getD (5 + 10 * j.1 + 5 + 1) 0 = 3) ⟨j, hj⟩
set_option maxRecDepth 100000 in
theorem zz_oth : (tables_1.filter (fun c => !c.onTables)).all (fun c => c.before start1.args0 (zz_at zz_scr)) = true := by decide +kernel
theorem zz_words : ∀ c ∈ (Cond.code x code maxLocals ret :: tables_1), c.before start1.args0 (zz_at zz_scr) = true := fun c hc => by
  cases h : c.onTables with
  | true => exact va_tabs h (zz_vm zz_scr) (start1.words c hc)
  | false =>
    rcases List.mem_cons.mp hc with rfl | hc
    · cases h
    · exact List.all_eq_true.mp zz_oth c (List.mem_filter.mpr ⟨hc, by rw [h]; rfl⟩)
set_option maxRecDepth 100000 in
theorem zz_fit : argsFit (zz_at zz_scr).vm ⟨0, 0⟩ start1.args0 = true := by decide +kernel
set_option maxRecDepth 100000 in
theorem zz_pre : (Cond.and given_1 narrow_1).before start1.args0 (zz_at zz_scr) = true := by decide +kernel
set_option maxRecDepth 100000 in
theorem zz_app : (headSpec (Jvm.Cond.code x code maxLocals ret :: tables_1) room_1).applies x start1.e0.platform (zz_at zz_scr) = true :=
  (Spec.applies_iff (m := ⟨0, 0⟩) (args := start1.args0) (below := Lib.HandBits.below0) rfl).mpr ⟨rfl, rfl, rfl, by decide +kernel, by decide +kernel, by decide +kernel, launch0.hasRoom_least _ room_1 (by decide +kernel) (by decide +kernel) (by decide +kernel) (by decide +kernel) (by decide +kernel) (by decide +kernel), atoms_intro zz_words⟩
set_option maxRecDepth 100000 in
theorem zz_app9 : (headSpec (Jvm.Cond.code x code maxLocals ret :: tables_1) room9).applies x start1.e0.platform (zz_at zz_scr) = true :=
  (Spec.applies_iff (m := ⟨0, 0⟩) (args := start1.args0) (below := Lib.HandBits.below0) rfl).mpr ⟨rfl, rfl, rfl, by decide +kernel, by decide +kernel, by decide +kernel, launch0.hasRoom_least _ room9 (by decide +kernel) (by decide +kernel) (by decide +kernel) (by decide +kernel) (by decide +kernel) (by decide +kernel), atoms_intro zz_words⟩
theorem refuted_2 : ¬ Claimed_1_2 := fun hC =>
  zz_fails hC (l := launch0) rfl lists_1 (p := start1.p0) (e := start1.e0) (launch0.admits_env _ _ _) fairChoices_fair.cas fairChoices_fair.clock (s := zz_at zz_scr) (m := ⟨0, 0⟩) (args := start1.args0) (below := Lib.HandBits.below0) rfl zz_fit (zz_heapG zz_scr) zz_app ((Spec.applies_iff_loose rfl).mp zz_app9).1 (zz_restG zz_scr (by rw [zz_len]; decide)) zz_pre (fun b xs h => by
    obtain rfl := zz_is h
    exact ⟨zz_len, zz_scrF⟩)
theorem refuted : ¬ (Claimed_1_1 ∧ Claimed_1_2) := fun h => refuted_2 h.2
