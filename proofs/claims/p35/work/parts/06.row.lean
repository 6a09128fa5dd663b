set_option maxHeartbeats 4000000 in
set_option maxRecDepth 100000 in
theorem c_X3_count (l : Launch) (dC : Nat → ClassId) (dI : Nat → Nat → Nat) (h0 : Nat) (ka : Nat) (kc : Int32) (sz : Nat) : Met l yX3_count wsX3_count ({ frames := 0, cells := 0, slots := 0, locals := 0 }) (va_Pc [.ref h0] (fun U => U.heap.size = sz ∧ va_P (dC, dI) vwCl [(h0, .inr (3, [.ref ka, .int kc]))] U.heap ∧ va_K (dC, dI) vwCl [] U ∧ va_D (fun _ => True) [(h0, .inr (3, [.ref ka, .int kc]))])) (va_Qi (fun (r : Int32) (_ : Unit) => r = kc) (fun _ _ => True) (fun q : Nat => sz ≤ q)) 0 0 (fun q : Nat => sz ≤ q) := by
  refine Met.ofW (cc := cX3_count) (maxL := 1) (ret := (some .int)) (by decide) rfl ?_
  intro p e s m args below meth c s₁ B hml hv
  obtain ⟨rfl, hsz, hP, hK, hD0⟩ := hv
  have hx := B.exec
  have hb := B.bytes
  have hr := B.returns
  have hts := atoms_spec (ws := wsX3_count) B.pre
  have hown : s.vm.findClass RX3 = some m.cls := findClass_of_methodNamed B.named
  have hlocks := B.notSynchronized
  subst hsz
  generalize hAe : (fun q : Nat => s.heap.size ≤ q) = A
  have hA : ∀ q : Nat, s.heap.size ≤ q → A q := fun q h => by rw [← hAe]; exact h
  have hS : va_S A s.heap s.heap [] := va_S.rf
  have hP : va_P (dC, dI) vwCl [(h0, .inr (3, [.ref ka, .int kc]))] s.heap := hP
  have hl := lv_entry ([.ref h0]) (n := 1) (Nat.le_of_ble_eq_true rfl)
  rw [lg_entry_eq]
  generalize (lg_sl ([.ref h0]) ++ List.replicate (1 - (lg_sl ([.ref h0])).length) Slot.unset).toArray = ls at hl ⊢
  have hl : lv_has ls 1 [(0, .ref h0)] := hl
  refine lv_aload_n hx hb dX3_count_0 rfl (lv_at hl 0 rfl) ?_
  refine va_get (D := (dC, dI)) (ci := 3) (v := .int kc) (C := RX3) (T := TX3) (N := 2) hx hb hts (by decide +kernel) hown hK hP 0 rfl rfl 1 (by decide) (hts (.fieldLink RX3 19 "DeltaCodec$Row" "count" "I") (by decide +kernel)) (fun _ h9 => h9) rfl dX3_count_1 ?_
  exact W.iret (v := kc) hx hb hr (fun t ht hW => ⟨⟨kc, (), rfl, rfl, trivial⟩, hS.F ht⟩) hS.2.2 dX3_count_4
set_option maxHeartbeats 4000000 in
set_option maxRecDepth 100000 in
theorem c_X3_hasRoom (l : Launch) (dC : Nat → ClassId) (dI : Nat → Nat → Nat) (cI : ClassId) (h0 : Nat) (ka : Nat) (kn : Nat) (kf : Nat → Int32) (p0 : Int32) (sz : Nat) (hm : ¬ nI kn - 0 < p0) : Met l yX3_hasRoom wsX3_hasRoom ({ frames := 0, cells := 0, slots := 0, locals := 0 }) (va_Pc [.ref h0, .int p0] (fun U => U.heap.size = sz ∧ va_P (dC, dI) vwCl [(h0, .inr (3, [.ref ka, .int 0])), (ka, .inl (cI, kn, .inl kf))] U.heap ∧ va_K (dC, dI) vwCl [(cI, .int)] U ∧ va_D (fun _ => True) [(h0, .inr (3, [.ref ka, .int 0])), (ka, .inl (cI, kn, .inl kf))])) (va_Qi (fun (r : Int32) (_ : Unit) => r = 1) (fun _ _ => True) (fun q : Nat => sz ≤ q)) 0 0 (fun q : Nat => sz ≤ q) := by
  refine Met.ofW (cc := cX3_hasRoom) (maxL := 2) (ret := (some .boolean)) (by decide) rfl ?_
  intro p e s m args below meth c s₁ B hml hv
  obtain ⟨rfl, hsz, hP, hK, hD0⟩ := hv
  have hx := B.exec
  have hb := B.bytes
  have hr := B.returns
  have hts := atoms_spec (ws := wsX3_hasRoom) B.pre
  have hown : s.vm.findClass RX3 = some m.cls := findClass_of_methodNamed B.named
  have hlocks := B.notSynchronized
  subst hsz
  generalize hAe : (fun q : Nat => s.heap.size ≤ q) = A
  have hA : ∀ q : Nat, s.heap.size ≤ q → A q := fun q h => by rw [← hAe]; exact h
  have hS : va_S A s.heap s.heap [] := va_S.rf
  have hP : va_P (dC, dI) vwCl [(h0, .inr (3, [.ref ka, .int 0])), (ka, .inl (cI, kn, .inl kf))] s.heap := hP
  have hl := lv_entry ([.ref h0, .int p0]) (n := 2) (Nat.le_of_ble_eq_true rfl)
  rw [lg_entry_eq]
  generalize (lg_sl ([.ref h0, .int p0]) ++ List.replicate (2 - (lg_sl ([.ref h0, .int p0])).length) Slot.unset).toArray = ls at hl ⊢
  have hl : lv_has ls 2 [(0, .ref h0), (1, .int p0)] := hl
  refine lv_iload_n hx hb dX3_hasRoom_0 rfl (lv_at hl 1 rfl) ?_
  refine lv_aload_n hx hb dX3_hasRoom_1 rfl (lv_at hl 0 rfl) ?_
  refine va_get (D := (dC, dI)) (ci := 3) (v := .ref ka) (C := RX3) (T := TX3) (N := 2) hx hb hts (by decide +kernel) hown hK hP 0 rfl rfl 0 (by decide) (hts (.fieldLink RX3 13 "DeltaCodec$Row" "bytes" "[I") (by decide +kernel)) (fun _ h9 => h9) rfl dX3_hasRoom_2 ?_
  refine va_alen (v := nI kn) hx hb hK hP 1 0 rfl rfl rfl dX3_hasRoom_5 ?_
  refine lv_aload_n hx hb dX3_hasRoom_6 rfl (lv_at hl 0 rfl) ?_
  refine va_get (D := (dC, dI)) (ci := 3) (v := .int 0) (C := RX3) (T := TX3) (N := 2) hx hb hts (by decide +kernel) hown hK hP 0 rfl rfl 1 (by decide) (hts (.fieldLink RX3 19 "DeltaCodec$Row" "count" "I") (by decide +kernel)) (fun _ h9 => h9) rfl dX3_hasRoom_7 ?_
  refine lv_isub hx hb dX3_hasRoom_10 ?_
  refine lv_topi (fun x_3 ex_3 => ?_)
  obtain rfl : nI kn - 0 = x_3 := ex_3.symm
  refine lv_icmp_gt (tgt := 18) hx hb dX3_hasRoom_11 (by decide) (fun h => absurd h hm) (fun c11 => ?_)
  refine lv_iconst (v := 1) hx hb dX3_hasRoom_14 (by decide) ?_
  refine lv_goto (tgt := 19) hx hb dX3_hasRoom_15 (by decide) ?_
  exact W.zret (v := 1) hx hb hr (by decide) (fun t ht hW => ⟨⟨1, (), rfl, rfl, trivial⟩, hS.F ht⟩) hS.2.2 dX3_hasRoom_19
set_option maxHeartbeats 4000000 in
set_option maxRecDepth 100000 in
theorem c_X3_append (l : Launch) (dC : Nat → ClassId) (dI : Nat → Nat → Nat) (cI : ClassId) (h0 : Nat) (ka : Nat) (kn : Nat) (kf : Nat → Int32) (kc : Int32) (p0 : Int32) (sz : Nat) (h1 : ¬ kc < 0) (h2 : ¬ nI kn ≤ kc) (h3 : vp_in kc kn) : Met l yX3_append wsX3_append ({ frames := 0, cells := 0, slots := 0, locals := 0 }) (va_Pc [.ref h0, .int p0] (fun U => U.heap.size = sz ∧ va_P (dC, dI) vwCl [(h0, .inr (3, [.ref ka, .int kc])), (ka, .inl (cI, kn, .inl kf))] U.heap ∧ va_K (dC, dI) vwCl [(cI, .int)] U ∧ va_D (fun _ => True) [(h0, .inr (3, [.ref ka, .int kc])), (ka, .inl (cI, kn, .inl kf))])) (va_Qv (fun kg : Nat → Int32 => True) (fun kg t => va_P (dC, dI) vwCl [(h0, .inr (3, [.ref ka, .int (kc + 1)])), (ka, .inl (cI, kn, .inl kg))] t.heap ∧ va_D (va_A [(h0, .inr (3, [.ref ka, .int kc])), (ka, .inl (cI, kn, .inl kf))] sz) [(h0, .inr (3, [.ref ka, .int (kc + 1)])), (ka, .inl (cI, kn, .inl kg))]) (va_A [(h0, .inr (3, [.ref ka, .int kc])), (ka, .inl (cI, kn, .inl kf))] sz)) 0 0 (va_A [(h0, .inr (3, [.ref ka, .int kc])), (ka, .inl (cI, kn, .inl kf))] sz) := by
  refine Met.ofW (cc := cX3_append) (maxL := 2) (ret := none) (by decide) rfl ?_
  intro p e s m args below meth c s₁ B hml hv
  obtain ⟨rfl, hsz, hP, hK, hD0⟩ := hv
  have hx := B.exec
  have hb := B.bytes
  have hr := B.returns
  have hts := atoms_spec (ws := wsX3_append) B.pre
  have hown : s.vm.findClass RX3 = some m.cls := findClass_of_methodNamed B.named
  have hlocks := B.notSynchronized
  subst hsz
  have hD := hD0.self (sz := s.heap.size)
  generalize hAe : va_A [(h0, .inr (3, [.ref ka, .int kc])), (ka, .inl (cI, kn, .inl kf))] s.heap.size = A at hD ⊢
  have hA : ∀ q : Nat, s.heap.size ≤ q → A q := fun q h => by rw [← hAe]; exact Or.inr h
  have hS : va_S A s.heap s.heap [] := va_S.rf
  have hP : va_P (dC, dI) vwCl [(h0, .inr (3, [.ref ka, .int kc])), (ka, .inl (cI, kn, .inl kf))] s.heap := hP
  have hl := lv_entry ([.ref h0, .int p0]) (n := 2) (Nat.le_of_ble_eq_true rfl)
  rw [lg_entry_eq]
  generalize (lg_sl ([.ref h0, .int p0]) ++ List.replicate (2 - (lg_sl ([.ref h0, .int p0])).length) Slot.unset).toArray = ls at hl ⊢
  have hl : lv_has ls 2 [(0, .ref h0), (1, .int p0)] := hl
  refine lv_aload_n hx hb dX3_append_0 rfl (lv_at hl 0 rfl) ?_
  refine va_get (D := (dC, dI)) (ci := 3) (v := .int kc) (C := RX3) (T := TX3) (N := 2) hx hb hts (by decide +kernel) hown hK hP 0 rfl rfl 1 (by decide) (hts (.fieldLink RX3 19 "DeltaCodec$Row" "count" "I") (by decide +kernel)) (fun _ h9 => h9) rfl dX3_append_1 ?_
  refine lv_if_lt (tgt := 39) hx hb dX3_append_4 (by decide) (fun h => absurd h h1) (fun c4 => ?_)
  refine lv_aload_n hx hb dX3_append_7 rfl (lv_at hl 0 rfl) ?_
  refine va_get (D := (dC, dI)) (ci := 3) (v := .int kc) (C := RX3) (T := TX3) (N := 2) hx hb hts (by decide +kernel) hown hK hP 0 rfl rfl 1 (by decide) (hts (.fieldLink RX3 19 "DeltaCodec$Row" "count" "I") (by decide +kernel)) (fun _ h9 => h9) rfl dX3_append_8 ?_
  refine lv_aload_n hx hb dX3_append_11 rfl (lv_at hl 0 rfl) ?_
  refine va_get (D := (dC, dI)) (ci := 3) (v := .ref ka) (C := RX3) (T := TX3) (N := 2) hx hb hts (by decide +kernel) hown hK hP 0 rfl rfl 0 (by decide) (hts (.fieldLink RX3 13 "DeltaCodec$Row" "bytes" "[I") (by decide +kernel)) (fun _ h9 => h9) rfl dX3_append_12 ?_
  refine va_alen (v := nI kn) hx hb hK hP 1 0 rfl rfl rfl dX3_append_15 ?_
  refine lv_icmp_ge (tgt := 39) hx hb dX3_append_16 (by decide) (fun h => absurd h h2) (fun c16 => ?_)
  refine lv_aload_n hx hb dX3_append_19 rfl (lv_at hl 0 rfl) ?_
  refine va_get (D := (dC, dI)) (ci := 3) (v := .ref ka) (C := RX3) (T := TX3) (N := 2) hx hb hts (by decide +kernel) hown hK hP 0 rfl rfl 0 (by decide) (hts (.fieldLink RX3 13 "DeltaCodec$Row" "bytes" "[I") (by decide +kernel)) (fun _ h9 => h9) rfl dX3_append_20 ?_
  refine lv_aload_n hx hb dX3_append_23 rfl (lv_at hl 0 rfl) ?_
  refine va_get (D := (dC, dI)) (ci := 3) (v := .int kc) (C := RX3) (T := TX3) (N := 2) hx hb hts (by decide +kernel) hown hK hP 0 rfl rfl 1 (by decide) (hts (.fieldLink RX3 19 "DeltaCodec$Row" "count" "I") (by decide +kernel)) (fun _ h9 => h9) rfl dX3_append_24 ?_
  refine lv_iload_n hx hb dX3_append_27 rfl (lv_at hl 1 rfl) ?_
  refine va_iast hx hb hK hP hD hS 1 0 rfl rfl h3 dX3_append_28 (fun H locs hP hD hS => ?_)
  obtain ⟨f_4, ef_4⟩ : ∃ g, g = upd kf (kc : Int32).toNatClampNeg p0 := ⟨_, rfl⟩
  rw [← ef_4] at hP hD
  have hP : va_P (dC, dI) vwCl [(h0, .inr (3, [.ref ka, .int kc])), (ka, .inl (cI, kn, .inl f_4))] H := hP
  have hD : va_D A [(h0, .inr (3, [.ref ka, .int kc])), (ka, .inl (cI, kn, .inl f_4))] := hD
  refine lv_aload_n hx hb dX3_append_29 rfl (lv_at hl 0 rfl) ?_
  refine lv_dup hx hb dX3_append_30 rfl ?_
  refine va_get (D := (dC, dI)) (ci := 3) (v := .int kc) (C := RX3) (T := TX3) (N := 2) hx hb hts (by decide +kernel) hown hK hP 0 rfl rfl 1 (by decide) (hts (.fieldLink RX3 19 "DeltaCodec$Row" "count" "I") (by decide +kernel)) (fun _ h9 => h9) rfl dX3_append_31 ?_
  refine lv_iconst (v := 1) hx hb dX3_append_34 (by decide) ?_
  refine lv_iadd hx hb dX3_append_35 ?_
  refine lv_topi (fun x_5 ex_5 => ?_)
  obtain rfl : kc + 1 = x_5 := ex_5.symm
  refine va_put (D := (dC, dI)) (ci := 3) (v := .int (kc + 1)) (ty := .int) (C := RX3) (T := TX3) (N := 2) hx hb hts (by decide +kernel) tyX3 tyX3_ok nmX3 hown hK hP hD hS 0 rfl rfl 1 (by decide) (hts (.fieldLink RX3 19 "DeltaCodec$Row" "count" "I") (by decide +kernel)) (fun _ h9 => h9) rfl (by decide +kernel) rfl rfl (Nat.le_of_ble_eq_true rfl) dX3_append_36 (fun H locs hP hD hS => ?_)
  have hP : va_P (dC, dI) vwCl [(h0, .inr (3, [.ref ka, .int (kc + 1)])), (ka, .inl (cI, kn, .inl f_4))] H := hP
  have hD : va_D A [(h0, .inr (3, [.ref ka, .int (kc + 1)])), (ka, .inl (cI, kn, .inl f_4))] := hD
  have hP9 := hP.sub (ws' := [(h0, .inr (3, [.ref ka, .int (kc + 1)])), (ka, .inl (cI, kn, .inl f_4))]) [0, 1] rfl
  have hD9 := hD.sub (ws' := [(h0, .inr (3, [.ref ka, .int (kc + 1)])), (ka, .inl (cI, kn, .inl f_4))]) [0, 1] (by decide) rfl
  exact W.vret hx hb hr (fun t ht hW => ⟨⟨f_4, rfl, trivial, ⟨by rw [ht]; exact hP9, hD9⟩⟩, hS.F ht⟩) hS.2.2 dX3_append_39
set_option maxHeartbeats 4000000 in
set_option maxRecDepth 100000 in
theorem c_X3_clear (l : Launch) (dC : Nat → ClassId) (dI : Nat → Nat → Nat) (h0 : Nat) (ka : Nat) (kc : Int32) (sz : Nat) : Met l yX3_clear wsX3_clear ({ frames := 0, cells := 0, slots := 0, locals := 0 }) (va_Pc [.ref h0] (fun U => U.heap.size = sz ∧ va_P (dC, dI) vwCl [(h0, .inr (3, [.ref ka, .int kc]))] U.heap ∧ va_K (dC, dI) vwCl [] U ∧ va_D (fun _ => True) [(h0, .inr (3, [.ref ka, .int kc]))])) (va_Qv (fun _ : Unit => True) (fun _ t => va_P (dC, dI) vwCl [(h0, .inr (3, [.ref ka, .int 0]))] t.heap ∧ va_D (va_A [(h0, .inr (3, [.ref ka, .int kc]))] sz) [(h0, .inr (3, [.ref ka, .int 0]))]) (va_A [(h0, .inr (3, [.ref ka, .int kc]))] sz)) 0 0 (va_A [(h0, .inr (3, [.ref ka, .int kc]))] sz) := by
  refine Met.ofW (cc := cX3_clear) (maxL := 1) (ret := none) (by decide) rfl ?_
  intro p e s m args below meth c s₁ B hml hv
  obtain ⟨rfl, hsz, hP, hK, hD0⟩ := hv
  have hx := B.exec
  have hb := B.bytes
  have hr := B.returns
  have hts := atoms_spec (ws := wsX3_clear) B.pre
  have hown : s.vm.findClass RX3 = some m.cls := findClass_of_methodNamed B.named
  have hlocks := B.notSynchronized
  subst hsz
  have hD := hD0.self (sz := s.heap.size)
  generalize hAe : va_A [(h0, .inr (3, [.ref ka, .int kc]))] s.heap.size = A at hD ⊢
  have hA : ∀ q : Nat, s.heap.size ≤ q → A q := fun q h => by rw [← hAe]; exact Or.inr h
  have hS : va_S A s.heap s.heap [] := va_S.rf
  have hP : va_P (dC, dI) vwCl [(h0, .inr (3, [.ref ka, .int kc]))] s.heap := hP
  have hl := lv_entry ([.ref h0]) (n := 1) (Nat.le_of_ble_eq_true rfl)
  rw [lg_entry_eq]
  generalize (lg_sl ([.ref h0]) ++ List.replicate (1 - (lg_sl ([.ref h0])).length) Slot.unset).toArray = ls at hl ⊢
  have hl : lv_has ls 1 [(0, .ref h0)] := hl
  refine lv_aload_n hx hb dX3_clear_0 rfl (lv_at hl 0 rfl) ?_
  refine lv_iconst (v := 0) hx hb dX3_clear_1 (by decide) ?_
  refine va_put (D := (dC, dI)) (ci := 3) (v := .int 0) (ty := .int) (C := RX3) (T := TX3) (N := 2) hx hb hts (by decide +kernel) tyX3 tyX3_ok nmX3 hown hK hP hD hS 0 rfl rfl 1 (by decide) (hts (.fieldLink RX3 19 "DeltaCodec$Row" "count" "I") (by decide +kernel)) (fun _ h9 => h9) rfl (by decide +kernel) rfl rfl (Nat.le_of_ble_eq_true rfl) dX3_clear_2 (fun H locs hP hD hS => ?_)
  have hP : va_P (dC, dI) vwCl [(h0, .inr (3, [.ref ka, .int 0]))] H := hP
  have hD : va_D A [(h0, .inr (3, [.ref ka, .int 0]))] := hD
  have hP9 := hP.sub (ws' := [(h0, .inr (3, [.ref ka, .int 0]))]) [0] rfl
  have hD9 := hD.sub (ws' := [(h0, .inr (3, [.ref ka, .int 0]))]) [0] (by decide) rfl
  exact W.vret hx hb hr (fun t ht hW => ⟨⟨(), rfl, trivial, ⟨by rw [ht]; exact hP9, hD9⟩⟩, hS.F ht⟩) hS.2.2 dX3_clear_5
set_option maxHeartbeats 4000000 in
set_option maxRecDepth 100000 in
theorem c_X3_init (l : Launch) (dC : Nat → ClassId) (dI : Nat → Nat → Nat) (cI : ClassId) (h0 : Nat) (p0 : Int32) (kn : Nat) (sz : Nat) (h1 : ¬ p0 < 0) (h2 : p0.toNatClampNeg = kn) (h3 : kn * componentBytes .int ≤ 536870912) : Met l yX3_init wsX3_init ({ frames := 1, cells := 1, slots := kn, locals := 21 }) (va_Pc [.ref h0, .int p0] (fun U => U.heap.size = sz ∧ va_P (dC, dI) vwCl [(h0, .inr (3, [.null, .int 0]))] U.heap ∧ va_K (dC, dI) vwCl [(cI, .int)] U ∧ va_D (fun _ => True) [(h0, .inr (3, [.null, .int 0]))])) (va_Qv (fun kb : Nat => True) (fun kb t => va_P (dC, dI) vwCl [(h0, .inr (3, [.ref kb, .int 0])), (kb, .inl (cI, kn, .inl (fun _ => 0)))] t.heap ∧ va_D (va_A [(h0, .inr (3, [.null, .int 0]))] sz) [(h0, .inr (3, [.ref kb, .int 0])), (kb, .inl (cI, kn, .inl (fun _ => 0)))]) (va_A [(h0, .inr (3, [.null, .int 0]))] sz)) 1 kn (va_A [(h0, .inr (3, [.null, .int 0]))] sz) := by
  refine Met.ofW (cc := cX3_init) (maxL := 2) (ret := none) (by decide) rfl ?_
  intro p e s m args below meth c s₁ B hml hv
  obtain ⟨rfl, hsz, hP, hK, hD0⟩ := hv
  have hx := B.exec
  have hb := B.bytes
  have hr := B.returns
  have hts := atoms_spec (ws := wsX3_init) B.pre
  have hown : s.vm.findClass RX3 = some m.cls := findClass_of_methodNamed B.named
  have hlocks := B.notSynchronized
  have hin : meth.name = "<init>" := (name_of_methodNamed B.named B.method).1
  subst hsz
  have hD := hD0.self (sz := s.heap.size)
  generalize hAe : va_A [(h0, .inr (3, [.null, .int 0]))] s.heap.size = A at hD ⊢
  have hA : ∀ q : Nat, s.heap.size ≤ q → A q := fun q h => by rw [← hAe]; exact Or.inr h
  have hS : va_S A s.heap s.heap [] := va_S.rf
  have hP : va_P (dC, dI) vwCl [(h0, .inr (3, [.null, .int 0]))] s.heap := hP
  have hl := lv_entry ([.ref h0, .int p0]) (n := 2) (Nat.le_of_ble_eq_true rfl)
  rw [lg_entry_eq]
  generalize (lg_sl ([.ref h0, .int p0]) ++ List.replicate (2 - (lg_sl ([.ref h0, .int p0])).length) Slot.unset).toArray = ls at hl ⊢
  have hl : lv_has ls 2 [(0, .ref h0), (1, .int p0)] := hl
  refine lv_aload_n hx hb dX3_init_0 rfl (lv_at hl 0 rfl) ?_
  refine W.objInit hx hb hown (hts (.methodLink RX3 1 objectInit) (by decide +kernel)) (hts (.instanceMethod objectInit) (by decide +kernel)) (hts (.code objectInit ⟨#[0xb1]⟩ 1 none) (by decide +kernel)) rfl (by rw [hml]; exact hl.1) rfl dX3_init_1 (Nat.le_of_ble_eq_true rfl) (Nat.le_of_ble_eq_true rfl) ?_
  refine W.eq (g2 := F0 m 4 ls []) rfl ?_
  refine lv_aload_n hx hb dX3_init_4 rfl (lv_at hl 0 rfl) ?_
  refine lv_iload_n hx hb dX3_init_5 rfl (lv_at hl 1 rfl) ?_
  refine lv_iconst (v := 0) hx hb dX3_init_6 (by decide) ?_
  refine va_mmax hx hb (hml.trans hl.1.symm) hown (hts (.methodLink RX3 7 Lib.Math.max.name) (by decide +kernel)) (hts (.static Lib.Math.max.name) (by decide +kernel)) (hts (.initialized "java/lang/Math") (by decide +kernel)) (hts (.code Lib.Math.max.name Lib.Math.max.code 2 (some .int)) (by decide +kernel)) (Nat.le_of_ble_eq_true rfl) (Nat.le_of_ble_eq_true rfl) (Nat.le_of_ble_eq_true rfl) (Nat.le_of_ble_eq_true rfl) dX3_init_7 ?_
  refine lv_topi (fun x_7 ex_7 => ?_)
  obtain rfl : p0 = x_7 := (ex_7.trans (if_neg h1)).symm
  refine va_newa (atype := .int) (ty := .int) (N' := kn) (a0 := (kn, .inl (fun _ => 0))) hx hb (hts (.arrayClass .int) (by decide +kernel)) rfl hK hP hD hS hA (fun _ => rfl) h1 h2 h3 (by show _ ≤ _; simp only [headSpec]; omega) (by show _ ≤ _; simp only [headSpec]; omega) dX3_init_10 (fun q_8 cA H hK hP hD hS => ?_)
  obtain rfl : cI = cA := (zz_same hK 0 1 rfl rfl).symm
  have hK := hK.sub (tys' := [(cI, .int)]) [0] rfl
  have hP : va_P (dC, dI) vwCl [(h0, .inr (3, [.null, .int 0])), (q_8, .inl (cI, kn, .inl (fun _ => 0)))] H := hP
  have hD : va_D A [(h0, .inr (3, [.null, .int 0])), (q_8, .inl (cI, kn, .inl (fun _ => 0)))] := hD
  refine W.widen (k := 1) (n := kn) (by omega) (by omega) ?_
  refine va_putF (D := (dC, dI)) (ci := 3) (v := .ref q_8) (ty := (.array .int)) (C := RX3) (T := TX3) (N := 2) hx hb hts (by decide +kernel) tyX3 tyX3_ok nmX3 hown hK hP hD hS 0 rfl rfl 0 (by decide) (hts (.fieldLink RX3 13 "DeltaCodec$Row" "bytes" "[I") (by decide +kernel)) (fun _ h9 => h9) rfl hin rfl (by decide +kernel) rfl rfl (Nat.le_of_ble_eq_true rfl) dX3_init_12 (fun H locs hP hD hS => ?_)
  have hP : va_P (dC, dI) vwCl [(h0, .inr (3, [.ref q_8, .int 0])), (q_8, .inl (cI, kn, .inl (fun _ => 0)))] H := hP
  have hD : va_D A [(h0, .inr (3, [.ref q_8, .int 0])), (q_8, .inl (cI, kn, .inl (fun _ => 0)))] := hD
  refine lv_aload_n hx hb dX3_init_15 rfl (lv_at hl 0 rfl) ?_
  refine lv_iconst (v := 0) hx hb dX3_init_16 (by decide) ?_
  refine va_put (D := (dC, dI)) (ci := 3) (v := .int 0) (ty := .int) (C := RX3) (T := TX3) (N := 2) hx hb hts (by decide +kernel) tyX3 tyX3_ok nmX3 hown hK hP hD hS 0 rfl rfl 1 (by decide) (hts (.fieldLink RX3 19 "DeltaCodec$Row" "count" "I") (by decide +kernel)) (fun _ h9 => h9) rfl (by decide +kernel) rfl rfl (Nat.le_of_ble_eq_true rfl) dX3_init_17 (fun H locs hP hD hS => ?_)
  have hP : va_P (dC, dI) vwCl [(h0, .inr (3, [.ref q_8, .int 0])), (q_8, .inl (cI, kn, .inl (fun _ => 0)))] H := hP
  have hD : va_D A [(h0, .inr (3, [.ref q_8, .int 0])), (q_8, .inl (cI, kn, .inl (fun _ => 0)))] := hD
  have hP9 := hP.sub (ws' := [(h0, .inr (3, [.ref q_8, .int 0])), (q_8, .inl (cI, kn, .inl (fun _ => 0)))]) [0, 1] rfl
  have hD9 := hD.sub (ws' := [(h0, .inr (3, [.ref q_8, .int 0])), (q_8, .inl (cI, kn, .inl (fun _ => 0)))]) [0, 1] (by decide) rfl
  exact W.vret hx hb hr (fun t ht hW => ⟨⟨q_8, rfl, trivial, ⟨by rw [ht]; exact hP9, hD9⟩⟩, hS.F ht⟩) hS.2.2 dX3_init_20
