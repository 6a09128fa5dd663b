theorem zz_vin {x : Int32} {n : Nat} (hn : n < 2 ^ 31) (h0 : ¬ x < 0) (h1 : ¬ nI n ≤ x) : vp_in x n := by
  obtain ⟨j, hj, rfl⟩ := nI_of h0
  exact vp_in_nI (Nat.lt_of_not_le (fun q => h1 (nI_le q hj))) hn
set_option maxHeartbeats 4000000 in
set_option maxRecDepth 100000 in
theorem q_holds (l : Launch) (dC : Nat → ClassId) (dI : Nat → Nat → Nat) (cI : ClassId) (h0 : Nat) (ka : Nat) (kn : Nat) (kf : Nat → Int32) (kc : Int32) (p0 : Int32) (sz : Nat) (hn : kn < 2 ^ 31) : Met l yX3_holds wsX3_holds ({ frames := 0, cells := 0, slots := 0, locals := 0 }) (va_Pc [.ref h0, .int p0] (fun U => U.heap.size = sz ∧ va_P (dC, dI) vwCl [(h0, .inr (3, [.ref ka, .int kc])), (ka, .inl (cI, kn, .inl kf))] U.heap ∧ va_K (dC, dI) vwCl [(cI, .int)] U ∧ va_D (fun _ => True) [(h0, .inr (3, [.ref ka, .int kc])), (ka, .inl (cI, kn, .inl kf))])) (va_Qi (fun (r : Int32) (_ : Unit) => (r = 1 ∧ vp_in p0 kn) ∨ r = 0) (fun _ _ => True) (fun q : Nat => sz ≤ q)) 0 0 (fun q : Nat => sz ≤ q) := by
  refine Met.ofW (cc := cX3_holds) (maxL := 2) (ret := (some .boolean)) (by decide) rfl ?_
  intro p e s m args below meth c s₁ B hml hv
  obtain ⟨rfl, hsz, hP, hK, hD0⟩ := hv
  have hx := B.exec
  have hb := B.bytes
  have hr := B.returns
  have hts := atoms_spec (ws := wsX3_holds) B.pre
  have hown : s.vm.findClass RX3 = some m.cls := findClass_of_methodNamed B.named
  have hlocks := B.notSynchronized
  subst hsz
  generalize hAe : (fun q : Nat => s.heap.size ≤ q) = A
  have hA : ∀ q : Nat, s.heap.size ≤ q → A q := fun q h => by rw [← hAe]; exact h
  have hS : va_S A s.heap s.heap [] := va_S.rf
  have hP : va_P (dC, dI) vwCl [(h0, .inr (3, [.ref ka, .int kc])), (ka, .inl (cI, kn, .inl kf))] s.heap := hP
  have hl := lv_entry ([.ref h0, .int p0]) (n := 2) (Nat.le_of_ble_eq_true rfl)
  rw [lg_entry_eq]
  generalize (lg_sl ([.ref h0, .int p0]) ++ List.replicate (2 - (lg_sl ([.ref h0, .int p0])).length) Slot.unset).toArray = ls at hl ⊢
  have hl : lv_has ls 2 [(0, .ref h0), (1, .int p0)] := hl
  refine lv_iload_n hx hb dX3_holds_0 rfl (lv_at hl 1 rfl) ?_
  refine lv_if_lt (tgt := 25) hx hb dX3_holds_1 (by decide) (fun c1 => ?_) (fun c1 => ?_)
  · skip
    refine lv_iconst (v := 0) hx hb dX3_holds_25 (by decide) ?_
    exact W.zret (v := 0) hx hb hr (by decide) (fun t ht hW => ⟨⟨0, (), rfl, Or.inr rfl, trivial⟩, hS.F ht⟩) hS.2.2 dX3_holds_26
  · skip
    refine lv_iload_n hx hb dX3_holds_4 rfl (lv_at hl 1 rfl) ?_
    refine lv_aload_n hx hb dX3_holds_5 rfl (lv_at hl 0 rfl) ?_
    refine va_get (D := (dC, dI)) (ci := 3) (v := .int kc) (C := RX3) (T := TX3) (N := 2) hx hb hts (by decide +kernel) hown hK hP 0 rfl rfl 1 (by decide) (hts (.fieldLink RX3 19 "DeltaCodec$Row" "count" "I") (by decide +kernel)) (fun _ h9 => h9) rfl dX3_holds_6 ?_
    refine lv_icmp_ge (tgt := 25) hx hb dX3_holds_9 (by decide) (fun c9 => ?_) (fun c9 => ?_)
    · skip
      refine lv_iconst (v := 0) hx hb dX3_holds_25 (by decide) ?_
      exact W.zret (v := 0) hx hb hr (by decide) (fun t ht hW => ⟨⟨0, (), rfl, Or.inr rfl, trivial⟩, hS.F ht⟩) hS.2.2 dX3_holds_26
    · skip
      refine lv_iload_n hx hb dX3_holds_12 rfl (lv_at hl 1 rfl) ?_
      refine lv_aload_n hx hb dX3_holds_13 rfl (lv_at hl 0 rfl) ?_
      refine va_get (D := (dC, dI)) (ci := 3) (v := .ref ka) (C := RX3) (T := TX3) (N := 2) hx hb hts (by decide +kernel) hown hK hP 0 rfl rfl 0 (by decide) (hts (.fieldLink RX3 13 "DeltaCodec$Row" "bytes" "[I") (by decide +kernel)) (fun _ h9 => h9) rfl dX3_holds_14 ?_
      refine va_alen (v := nI kn) hx hb hK hP 1 0 rfl rfl rfl dX3_holds_17 ?_
      refine lv_icmp_ge (tgt := 25) hx hb dX3_holds_18 (by decide) (fun c18 => ?_) (fun c18 => ?_)
      · skip
        refine lv_iconst (v := 0) hx hb dX3_holds_25 (by decide) ?_
        exact W.zret (v := 0) hx hb hr (by decide) (fun t ht hW => ⟨⟨0, (), rfl, Or.inr rfl, trivial⟩, hS.F ht⟩) hS.2.2 dX3_holds_26
      · skip
        refine lv_iconst (v := 1) hx hb dX3_holds_21 (by decide) ?_
        refine lv_goto (tgt := 26) hx hb dX3_holds_22 (by decide) ?_
        exact W.zret (v := 1) hx hb hr (by decide) (fun t ht hW => ⟨⟨1, (), rfl, Or.inl ⟨rfl, zz_vin hn c1 c18⟩, trivial⟩, hS.F ht⟩) hS.2.2 dX3_holds_26
set_option maxHeartbeats 4000000 in
set_option maxRecDepth 100000 in
theorem q_at (l : Launch) (dC : Nat → ClassId) (dI : Nat → Nat → Nat) (cI : ClassId) (h0 : Nat) (ka : Nat) (kn : Nat) (kf : Nat → Int32) (kc : Int32) (p0 : Int32) (sz : Nat) (hn : kn < 2 ^ 31) : Met l yX3_at wsX3_at ({ frames := 1, cells := 0, slots := 0, locals := 21 }) (va_Pc [.ref h0, .int p0] (fun U => U.heap.size = sz ∧ va_P (dC, dI) vwCl [(h0, .inr (3, [.ref ka, .int kc])), (ka, .inl (cI, kn, .inl kf))] U.heap ∧ va_K (dC, dI) vwCl [(cI, .int)] U ∧ va_D (fun _ => True) [(h0, .inr (3, [.ref ka, .int kc])), (ka, .inl (cI, kn, .inl kf))])) (va_Qi (fun (r : Int32) (_ : Unit) => True) (fun _ _ => True) (fun q : Nat => sz ≤ q)) 0 0 (fun q : Nat => sz ≤ q) := by
  refine Met.ofW (cc := cX3_at) (maxL := 2) (ret := (some .int)) (by decide) rfl ?_
  intro p e s m args below meth c s₁ B hml hv
  obtain ⟨rfl, hsz, hP, hK, hD0⟩ := hv
  have hx := B.exec
  have hb := B.bytes
  have hr := B.returns
  have hts := atoms_spec (ws := wsX3_at) B.pre
  have hown : s.vm.findClass RX3 = some m.cls := findClass_of_methodNamed B.named
  have hlocks := B.notSynchronized
  subst hsz
  generalize hAe : (fun q : Nat => s.heap.size ≤ q) = A
  have hA : ∀ q : Nat, s.heap.size ≤ q → A q := fun q h => by rw [← hAe]; exact h
  have hS : va_S A s.heap s.heap [] := va_S.rf
  have hP : va_P (dC, dI) vwCl [(h0, .inr (3, [.ref ka, .int kc])), (ka, .inl (cI, kn, .inl kf))] s.heap := hP
  have hl := lv_entry ([.ref h0, .int p0]) (n := 2) (Nat.le_of_ble_eq_true rfl)
  rw [lg_entry_eq]
  generalize (lg_sl ([.ref h0, .int p0]) ++ List.replicate (2 - (lg_sl ([.ref h0, .int p0])).length) Slot.unset).toArray = ls at hl ⊢
  have hl : lv_has ls 2 [(0, .ref h0), (1, .int p0)] := hl
  refine lv_aload_n hx hb dX3_at_0 rfl (lv_at hl 0 rfl) ?_
  refine lv_iload_n hx hb dX3_at_1 rfl (lv_at hl 1 rfl) ?_
  have hPc := hP.sub (ws' := [(h0, .inr (3, [.ref ka, .int kc])), (ka, .inl (cI, kn, .inl kf))]) [0, 1] rfl
  have hFc : ∀ q : Nat, s.heap.size ≤ q → A q := fun q h => hA q (Nat.le_trans hS.1 h)
  have hKc := hK.sub (tys' := [(cI, .int)]) [0] rfl
  refine va_calli (va_runV (As := [.int p0]) (rest := []) ⟨hx, hb, hml, hown, hts⟩ (q_holds l dC dI cI h0 ka kn kf kc p0 s.heap.size hn) (cwV 1 hts gX3_at_X3_holds rfl rfl rfl (by decide +kernel) ⟨Nat.le_of_ble_eq_true rfl, Nat.le_of_ble_eq_true rfl⟩) ⟨fun a U g mk q => by obtain ⟨q0, q1, qP, qK, qD⟩ := q; exact ⟨q0, q1, qP, va_K.moved (u := U) (U := U.calling g mk a) (Vm.Alike.refl U.vm) qK, qD⟩, va_recv hKc hPc (ci := 3) (q0 := 0) rfl rfl, fun U hU hW => ⟨rfl, by rw [hU], by rw [hU]; exact hPc, va_K.moved hW.alike hKc, hD0.sub (ws' := [(h0, .inr (3, [.ref ka, .int kc])), (ka, .inl (cI, kn, .inl kf))]) [0, 1] (by decide) rfl⟩⟩ rfl rfl hl.1 rfl (lv_room (Nat.le_of_ble_eq_true rfl)) dX3_at_2 ⟨(Nat.le_of_ble_eq_true rfl), (Nat.le_of_ble_eq_true rfl)⟩) hS (fun q h1 h2 => absurd h1 (Nat.not_lt.mpr h2)) hFc (fun r_825 u_826 t H1 locs ht hvm hw hB hz1 hk1 hS1 => ?_)
  have hP := zz_keep hP hk1
  have hS := hS1
  clear hS1
  generalize H1 = H at hP hS ht ⊢
  have hP : va_P (dC, dI) vwCl [(h0, .inr (3, [.ref ka, .int kc])), (ka, .inl (cI, kn, .inl kf))] H := hP
  have w2 := hw
  rcases w2 with ⟨hr9, hin9⟩ | hr9
  · skip
    subst hr9
    refine lv_if_eq (tgt := 17) hx hb dX3_at_5 (by decide) (fun h => absurd h (by decide)) (fun c5 => ?_)
    refine lv_aload_n hx hb dX3_at_8 rfl (lv_at hl 0 rfl) ?_
    refine va_get (D := (dC, dI)) (ci := 3) (v := .ref ka) (C := RX3) (T := TX3) (N := 2) hx hb hts (by decide +kernel) hown hK hP 0 rfl rfl 0 (by decide) (hts (.fieldLink RX3 13 "DeltaCodec$Row" "bytes" "[I") (by decide +kernel)) (fun _ h9 => h9) rfl dX3_at_9 ?_
    refine lv_iload_n hx hb dX3_at_12 rfl (lv_at hl 1 rfl) ?_
    refine va_iald hx hb hK hP 1 0 rfl rfl hin9 dX3_at_13 ?_
    refine lv_topi (fun x_827 ex_827 => ?_)
    refine lv_goto (tgt := 18) hx hb dX3_at_14 (by decide) ?_
    exact W.iret (v := x_827) hx hb hr (fun t ht hW => ⟨⟨x_827, (), rfl, trivial, trivial⟩, hS.F ht⟩) hS.2.2 dX3_at_18
  · skip
    subst hr9
    refine lv_if_eq (tgt := 17) hx hb dX3_at_5 (by decide) (fun c5 => ?_) (fun h => absurd h (by decide))
    refine lv_iconst (v := 0) hx hb dX3_at_17 (by decide) ?_
    exact W.iret (v := 0) hx hb hr (fun t ht hW => ⟨⟨0, (), rfl, trivial, trivial⟩, hS.F ht⟩) hS.2.2 dX3_at_18
set_option maxHeartbeats 4000000 in
set_option maxRecDepth 100000 in
theorem q_append (l : Launch) (dC : Nat → ClassId) (dI : Nat → Nat → Nat) (cI : ClassId) (h0 : Nat) (ka : Nat) (kn : Nat) (kf : Nat → Int32) (kc : Int32) (p0 : Int32) (sz : Nat) (hn : kn < 2 ^ 31) : Met l yX3_append wsX3_append ({ frames := 0, cells := 0, slots := 0, locals := 0 }) (va_Pc [.ref h0, .int p0] (fun U => U.heap.size = sz ∧ va_P (dC, dI) vwCl [(h0, .inr (3, [.ref ka, .int kc])), (ka, .inl (cI, kn, .inl kf))] U.heap ∧ va_K (dC, dI) vwCl [(cI, .int)] U ∧ va_D (fun _ => True) [(h0, .inr (3, [.ref ka, .int kc])), (ka, .inl (cI, kn, .inl kf))])) (va_Qv (fun u9 : Int32 × (Nat → Int32) => True) (fun u9 t => va_P (dC, dI) vwCl [(h0, .inr (3, [.ref ka, .int u9.1])), (ka, .inl (cI, kn, .inl u9.2))] t.heap ∧ va_D (va_A [(h0, .inr (3, [.ref ka, .int kc])), (ka, .inl (cI, kn, .inl kf))] sz) [(h0, .inr (3, [.ref ka, .int u9.1])), (ka, .inl (cI, kn, .inl u9.2))]) (va_A [(h0, .inr (3, [.ref ka, .int kc])), (ka, .inl (cI, kn, .inl kf))] sz)) 0 0 (va_A [(h0, .inr (3, [.ref ka, .int kc])), (ka, .inl (cI, kn, .inl kf))] sz) := by
  refine Met.ofW (cc := cX3_append) (maxL := 2) (ret := none) (by decide) rfl ?_
  intro p e s m args below meth c s₁ B hml hv
  obtain ⟨rfl, hsz, hP, hK, hD0⟩ := hv
  have hx := B.exec
  have hb := B.bytes
  have hr := B.returns
  have hts := atoms_spec (ws := wsX3_append) B.pre
  have hown : s.vm.findClass RX3 = some m.cls := findClass_of_methodNamed B.named
  have hlocks := B.notSynchronized
  subst hsz
  have hD := hD0.self (sz := s.heap.size)
  generalize hAe : va_A [(h0, .inr (3, [.ref ka, .int kc])), (ka, .inl (cI, kn, .inl kf))] s.heap.size = A at hD ⊢
  have hA : ∀ q : Nat, s.heap.size ≤ q → A q := fun q h => by rw [← hAe]; exact Or.inr h
  have hS : va_S A s.heap s.heap [] := va_S.rf
  have hP : va_P (dC, dI) vwCl [(h0, .inr (3, [.ref ka, .int kc])), (ka, .inl (cI, kn, .inl kf))] s.heap := hP
  have hl := lv_entry ([.ref h0, .int p0]) (n := 2) (Nat.le_of_ble_eq_true rfl)
  rw [lg_entry_eq]
  generalize (lg_sl ([.ref h0, .int p0]) ++ List.replicate (2 - (lg_sl ([.ref h0, .int p0])).length) Slot.unset).toArray = ls at hl ⊢
  have hl : lv_has ls 2 [(0, .ref h0), (1, .int p0)] := hl
  refine lv_aload_n hx hb dX3_append_0 rfl (lv_at hl 0 rfl) ?_
  refine va_get (D := (dC, dI)) (ci := 3) (v := .int kc) (C := RX3) (T := TX3) (N := 2) hx hb hts (by decide +kernel) hown hK hP 0 rfl rfl 1 (by decide) (hts (.fieldLink RX3 19 "DeltaCodec$Row" "count" "I") (by decide +kernel)) (fun _ h9 => h9) rfl dX3_append_1 ?_
  refine lv_if_lt (tgt := 39) hx hb dX3_append_4 (by decide) (fun c4 => ?_) (fun c4 => ?_)
  · skip
    have hP9 := hP.sub (ws' := [(h0, .inr (3, [.ref ka, .int kc])), (ka, .inl (cI, kn, .inl kf))]) [0, 1] rfl
    have hD9 := hD.sub (ws' := [(h0, .inr (3, [.ref ka, .int kc])), (ka, .inl (cI, kn, .inl kf))]) [0, 1] (by decide) rfl
    exact W.vret hx hb hr (fun t ht hW => ⟨⟨(kc, kf), rfl, trivial, ⟨by rw [ht]; exact hP9, hD9⟩⟩, hS.F ht⟩) hS.2.2 dX3_append_39
  · skip
    refine lv_aload_n hx hb dX3_append_7 rfl (lv_at hl 0 rfl) ?_
    refine va_get (D := (dC, dI)) (ci := 3) (v := .int kc) (C := RX3) (T := TX3) (N := 2) hx hb hts (by decide +kernel) hown hK hP 0 rfl rfl 1 (by decide) (hts (.fieldLink RX3 19 "DeltaCodec$Row" "count" "I") (by decide +kernel)) (fun _ h9 => h9) rfl dX3_append_8 ?_
    refine lv_aload_n hx hb dX3_append_11 rfl (lv_at hl 0 rfl) ?_
    refine va_get (D := (dC, dI)) (ci := 3) (v := .ref ka) (C := RX3) (T := TX3) (N := 2) hx hb hts (by decide +kernel) hown hK hP 0 rfl rfl 0 (by decide) (hts (.fieldLink RX3 13 "DeltaCodec$Row" "bytes" "[I") (by decide +kernel)) (fun _ h9 => h9) rfl dX3_append_12 ?_
    refine va_alen (v := nI kn) hx hb hK hP 1 0 rfl rfl rfl dX3_append_15 ?_
    refine lv_icmp_ge (tgt := 39) hx hb dX3_append_16 (by decide) (fun c16 => ?_) (fun c16 => ?_)
    · skip
      have hP9 := hP.sub (ws' := [(h0, .inr (3, [.ref ka, .int kc])), (ka, .inl (cI, kn, .inl kf))]) [0, 1] rfl
      have hD9 := hD.sub (ws' := [(h0, .inr (3, [.ref ka, .int kc])), (ka, .inl (cI, kn, .inl kf))]) [0, 1] (by decide) rfl
      exact W.vret hx hb hr (fun t ht hW => ⟨⟨(kc, kf), rfl, trivial, ⟨by rw [ht]; exact hP9, hD9⟩⟩, hS.F ht⟩) hS.2.2 dX3_append_39
    · skip
      refine lv_aload_n hx hb dX3_append_19 rfl (lv_at hl 0 rfl) ?_
      refine va_get (D := (dC, dI)) (ci := 3) (v := .ref ka) (C := RX3) (T := TX3) (N := 2) hx hb hts (by decide +kernel) hown hK hP 0 rfl rfl 0 (by decide) (hts (.fieldLink RX3 13 "DeltaCodec$Row" "bytes" "[I") (by decide +kernel)) (fun _ h9 => h9) rfl dX3_append_20 ?_
      refine lv_aload_n hx hb dX3_append_23 rfl (lv_at hl 0 rfl) ?_
      refine va_get (D := (dC, dI)) (ci := 3) (v := .int kc) (C := RX3) (T := TX3) (N := 2) hx hb hts (by decide +kernel) hown hK hP 0 rfl rfl 1 (by decide) (hts (.fieldLink RX3 19 "DeltaCodec$Row" "count" "I") (by decide +kernel)) (fun _ h9 => h9) rfl dX3_append_24 ?_
      refine lv_iload_n hx hb dX3_append_27 rfl (lv_at hl 1 rfl) ?_
      refine va_iast hx hb hK hP hD hS 1 0 rfl rfl (zz_vin hn c4 c16) dX3_append_28 (fun H locs hP hD hS => ?_)
      obtain ⟨f_828, ef_828⟩ : ∃ g, g = upd kf (kc : Int32).toNatClampNeg p0 := ⟨_, rfl⟩
      rw [← ef_828] at hP hD
      have hP : va_P (dC, dI) vwCl [(h0, .inr (3, [.ref ka, .int kc])), (ka, .inl (cI, kn, .inl f_828))] H := hP
      have hD : va_D A [(h0, .inr (3, [.ref ka, .int kc])), (ka, .inl (cI, kn, .inl f_828))] := hD
      refine lv_aload_n hx hb dX3_append_29 rfl (lv_at hl 0 rfl) ?_
      refine lv_dup hx hb dX3_append_30 rfl ?_
      refine va_get (D := (dC, dI)) (ci := 3) (v := .int kc) (C := RX3) (T := TX3) (N := 2) hx hb hts (by decide +kernel) hown hK hP 0 rfl rfl 1 (by decide) (hts (.fieldLink RX3 19 "DeltaCodec$Row" "count" "I") (by decide +kernel)) (fun _ h9 => h9) rfl dX3_append_31 ?_
      refine lv_iconst (v := 1) hx hb dX3_append_34 (by decide) ?_
      refine lv_iadd hx hb dX3_append_35 ?_
      refine lv_topi (fun x_829 ex_829 => ?_)
      refine va_put (D := (dC, dI)) (ci := 3) (v := .int x_829) (ty := .int) (C := RX3) (T := TX3) (N := 2) hx hb hts (by decide +kernel) tyX3 tyX3_ok nmX3 hown hK hP hD hS 0 rfl rfl 1 (by decide) (hts (.fieldLink RX3 19 "DeltaCodec$Row" "count" "I") (by decide +kernel)) (fun _ h9 => h9) rfl (by decide +kernel) rfl rfl (Nat.le_of_ble_eq_true rfl) dX3_append_36 (fun H locs hP hD hS => ?_)
      have hP : va_P (dC, dI) vwCl [(h0, .inr (3, [.ref ka, .int x_829])), (ka, .inl (cI, kn, .inl f_828))] H := hP
      have hD : va_D A [(h0, .inr (3, [.ref ka, .int x_829])), (ka, .inl (cI, kn, .inl f_828))] := hD
      have hP9 := hP.sub (ws' := [(h0, .inr (3, [.ref ka, .int x_829])), (ka, .inl (cI, kn, .inl f_828))]) [0, 1] rfl
      have hD9 := hD.sub (ws' := [(h0, .inr (3, [.ref ka, .int x_829])), (ka, .inl (cI, kn, .inl f_828))]) [0, 1] (by decide) rfl
      exact W.vret hx hb hr (fun t ht hW => ⟨⟨(x_829, f_828), rfl, trivial, ⟨by rw [ht]; exact hP9, hD9⟩⟩, hS.F ht⟩) hS.2.2 dX3_append_39
set_option maxHeartbeats 4000000 in
set_option maxRecDepth 100000 in
theorem q_begin (l : Launch) (dC : Nat → ClassId) (dI : Nat → Nat → Nat) (h0 : Nat) (k1 : Nat) (k2 : Nat) (k3 : Nat) (k4 : Nat) (a1 : Nat) (a2 : Nat) (a3 : Nat) (a4 : Nat) (n1 : Int32) (n2 : Int32) (n3 : Int32) (n4 : Int32) (kb : Int32) (km : Int32) (p0 : Int32) (sz : Nat) : Met l yX1_begin wsX1_begin ({ frames := 1, cells := 0, slots := 0, locals := 20 }) (va_Pc [.ref h0, .int p0] (fun U => U.heap.size = sz ∧ va_P (dC, dI) vwCl [(h0, .inr (1, [.ref k1, .ref k2, .ref k3, .ref k4, .int kb, .int km])), (k1, .inr (3, [.ref a1, .int n1])), (k2, .inr (3, [.ref a2, .int n2])), (k3, .inr (3, [.ref a3, .int n3])), (k4, .inr (3, [.ref a4, .int n4]))] U.heap ∧ va_K (dC, dI) vwCl [] U ∧ va_D (fun _ => True) [(h0, .inr (1, [.ref k1, .ref k2, .ref k3, .ref k4, .int kb, .int km])), (k1, .inr (3, [.ref a1, .int n1])), (k2, .inr (3, [.ref a2, .int n2])), (k3, .inr (3, [.ref a3, .int n3])), (k4, .inr (3, [.ref a4, .int n4]))])) (va_Qv (fun _ : Unit => True) (fun _ t => va_P (dC, dI) vwCl [(h0, .inr (1, [.ref k1, .ref k2, .ref k3, .ref k4, .int p0, .int 1])), (k1, .inr (3, [.ref a1, .int 0])), (k2, .inr (3, [.ref a2, .int 0])), (k3, .inr (3, [.ref a3, .int 0])), (k4, .inr (3, [.ref a4, .int 0]))] t.heap ∧ va_D (va_A [(h0, .inr (1, [.ref k1, .ref k2, .ref k3, .ref k4, .int kb, .int km])), (k1, .inr (3, [.ref a1, .int n1])), (k2, .inr (3, [.ref a2, .int n2])), (k3, .inr (3, [.ref a3, .int n3])), (k4, .inr (3, [.ref a4, .int n4]))] sz) [(h0, .inr (1, [.ref k1, .ref k2, .ref k3, .ref k4, .int p0, .int 1])), (k1, .inr (3, [.ref a1, .int 0])), (k2, .inr (3, [.ref a2, .int 0])), (k3, .inr (3, [.ref a3, .int 0])), (k4, .inr (3, [.ref a4, .int 0]))]) (va_A [(h0, .inr (1, [.ref k1, .ref k2, .ref k3, .ref k4, .int kb, .int km])), (k1, .inr (3, [.ref a1, .int n1])), (k2, .inr (3, [.ref a2, .int n2])), (k3, .inr (3, [.ref a3, .int n3])), (k4, .inr (3, [.ref a4, .int n4]))] sz)) 0 0 (va_A [(h0, .inr (1, [.ref k1, .ref k2, .ref k3, .ref k4, .int kb, .int km])), (k1, .inr (3, [.ref a1, .int n1])), (k2, .inr (3, [.ref a2, .int n2])), (k3, .inr (3, [.ref a3, .int n3])), (k4, .inr (3, [.ref a4, .int n4]))] sz) := by
  refine Met.ofW (cc := cX1_begin) (maxL := 2) (ret := none) (by decide) rfl ?_
  intro p e s m args below meth c s₁ B hml hv
  obtain ⟨rfl, hsz, hP, hK, hD0⟩ := hv
  have hx := B.exec
  have hb := B.bytes
  have hr := B.returns
  have hts := atoms_spec (ws := wsX1_begin) B.pre
  have hown : s.vm.findClass RX1 = some m.cls := findClass_of_methodNamed B.named
  have hlocks := B.notSynchronized
  subst hsz
  have hD := hD0.self (sz := s.heap.size)
  generalize hAe : va_A [(h0, .inr (1, [.ref k1, .ref k2, .ref k3, .ref k4, .int kb, .int km])), (k1, .inr (3, [.ref a1, .int n1])), (k2, .inr (3, [.ref a2, .int n2])), (k3, .inr (3, [.ref a3, .int n3])), (k4, .inr (3, [.ref a4, .int n4]))] s.heap.size = A at hD ⊢
  have hA : ∀ q : Nat, s.heap.size ≤ q → A q := fun q h => by rw [← hAe]; exact Or.inr h
  have hS : va_S A s.heap s.heap [] := va_S.rf
  have hP : va_P (dC, dI) vwCl [(h0, .inr (1, [.ref k1, .ref k2, .ref k3, .ref k4, .int kb, .int km])), (k1, .inr (3, [.ref a1, .int n1])), (k2, .inr (3, [.ref a2, .int n2])), (k3, .inr (3, [.ref a3, .int n3])), (k4, .inr (3, [.ref a4, .int n4]))] s.heap := hP
  have hl := lv_entry ([.ref h0, .int p0]) (n := 2) (Nat.le_of_ble_eq_true rfl)
  rw [lg_entry_eq]
  generalize (lg_sl ([.ref h0, .int p0]) ++ List.replicate (2 - (lg_sl ([.ref h0, .int p0])).length) Slot.unset).toArray = ls at hl ⊢
  have hl : lv_has ls 2 [(0, .ref h0), (1, .int p0)] := hl
  refine lv_aload_n hx hb dX1_begin_0 rfl (lv_at hl 0 rfl) ?_
  refine va_get (D := (dC, dI)) (ci := 1) (v := .ref k1) (C := RX1) (T := TX1) (N := 6) hx hb hts (by decide +kernel) hown hK hP 0 rfl rfl 0 (by decide) (hts (.fieldLink RX1 14 "DeltaCodec$Plan" "kinds" "LDeltaCodec$Row;") (by decide +kernel)) (fun _ h9 => h9) rfl dX1_begin_1 ?_
  have hPc := hP.sub (ws' := [(k1, .inr (3, [.ref a1, .int n1]))]) [1] rfl
  have hDc := hD.sub (ws' := [(k1, .inr (3, [.ref a1, .int n1]))]) [1] (by decide) rfl
  have hFc := va_free (wc := [(k1, .inr (3, [.ref a1, .int n1]))]) hD hS hA [1] rfl
  have hKc := hK.sub (tys' := []) [] rfl
  refine va_callv (va_runV (As := []) (rest := []) ⟨hx, hb, hml, hown, hts⟩ (c_X3_clear l dC dI k1 a1 n1 s.heap.size) (cwV 0 hts gX1_begin_X3_clear rfl rfl rfl (by decide +kernel) ⟨Nat.le_of_ble_eq_true rfl, Nat.le_of_ble_eq_true rfl⟩) ⟨fun a U g mk q => by obtain ⟨q0, q1, qP, qK, qD⟩ := q; exact ⟨q0, q1, qP, va_K.moved (u := U) (U := U.calling g mk a) (Vm.Alike.refl U.vm) qK, qD⟩, va_recv hKc hPc (ci := 3) (q0 := 0) rfl rfl, fun U hU hW => ⟨rfl, by rw [hU], by rw [hU]; exact hPc, va_K.moved hW.alike hKc, zz_D hDc⟩⟩ rfl rfl hl.1 rfl (lv_room (Nat.le_of_ble_eq_true rfl)) dX1_begin_4 ⟨(Nat.le_of_ble_eq_true rfl), (Nat.le_of_ble_eq_true rfl)⟩) hS (fun q _ h => hFc q h) hFc (fun u_831 t H1 locs ht hvm hw hB hz1 hk1 hS1 => ?_)
  obtain ⟨hP1, hD1⟩ := hB
  rw [ht] at hP1
  obtain ⟨hP, hD⟩ := va_join (wr := [(h0, .inr (1, [.ref k1, .ref k2, .ref k3, .ref k4, .int kb, .int km])), (k2, .inr (3, [.ref a2, .int n2])), (k3, .inr (3, [.ref a3, .int n3])), (k4, .inr (3, [.ref a4, .int n4]))]) (w1 := [(k1, .inr (3, [.ref a1, .int 0]))]) hP hD [1] [0, 2, 3, 4] rfl rfl (by decide) (by decide) hk1 hFc hP1 hD1
  have hS := hS1
  clear hS1
  generalize H1 = H at hP hS ht ⊢
  have hP : va_P (dC, dI) vwCl [(h0, .inr (1, [.ref k1, .ref k2, .ref k3, .ref k4, .int kb, .int km])), (k2, .inr (3, [.ref a2, .int n2])), (k3, .inr (3, [.ref a3, .int n3])), (k4, .inr (3, [.ref a4, .int n4])), (k1, .inr (3, [.ref a1, .int 0]))] H := hP
  have hD : va_D A [(h0, .inr (1, [.ref k1, .ref k2, .ref k3, .ref k4, .int kb, .int km])), (k2, .inr (3, [.ref a2, .int n2])), (k3, .inr (3, [.ref a3, .int n3])), (k4, .inr (3, [.ref a4, .int n4])), (k1, .inr (3, [.ref a1, .int 0]))] := hD
  have w4 := hw
  refine lv_aload_n hx hb dX1_begin_7 rfl (lv_at hl 0 rfl) ?_
  refine va_get (D := (dC, dI)) (ci := 1) (v := .ref k2) (C := RX1) (T := TX1) (N := 6) hx hb hts (by decide +kernel) hown hK hP 0 rfl rfl 1 (by decide) (hts (.fieldLink RX1 20 "DeltaCodec$Plan" "lengths" "LDeltaCodec$Row;") (by decide +kernel)) (fun _ h9 => h9) rfl dX1_begin_8 ?_
  have hPc := hP.sub (ws' := [(k2, .inr (3, [.ref a2, .int n2]))]) [1] rfl
  have hDc := hD.sub (ws' := [(k2, .inr (3, [.ref a2, .int n2]))]) [1] (by decide) rfl
  have hFc := va_free (wc := [(k2, .inr (3, [.ref a2, .int n2]))]) hD hS hA [1] rfl
  have hKc := hK.sub (tys' := []) [] rfl
  refine va_callv (va_runV (As := []) (rest := []) ⟨hx, hb, hml, hown, hts⟩ (c_X3_clear l dC dI k2 a2 n2 H.size) (cwV 0 hts gX1_begin_X3_clear rfl rfl rfl (by decide +kernel) ⟨Nat.le_of_ble_eq_true rfl, Nat.le_of_ble_eq_true rfl⟩) ⟨fun a U g mk q => by obtain ⟨q0, q1, qP, qK, qD⟩ := q; exact ⟨q0, q1, qP, va_K.moved (u := U) (U := U.calling g mk a) (Vm.Alike.refl U.vm) qK, qD⟩, va_recv hKc hPc (ci := 3) (q0 := 0) rfl rfl, fun U hU hW => ⟨rfl, by rw [hU], by rw [hU]; exact hPc, va_K.moved hW.alike hKc, zz_D hDc⟩⟩ rfl rfl hl.1 rfl (lv_room (Nat.le_of_ble_eq_true rfl)) dX1_begin_11 ⟨(Nat.le_of_ble_eq_true rfl), (Nat.le_of_ble_eq_true rfl)⟩) hS (fun q _ h => hFc q h) hFc (fun u_833 t H1 locs ht hvm hw hB hz1 hk1 hS1 => ?_)
  obtain ⟨hP1, hD1⟩ := hB
  rw [ht] at hP1
  obtain ⟨hP, hD⟩ := va_join (wr := [(h0, .inr (1, [.ref k1, .ref k2, .ref k3, .ref k4, .int kb, .int km])), (k3, .inr (3, [.ref a3, .int n3])), (k4, .inr (3, [.ref a4, .int n4])), (k1, .inr (3, [.ref a1, .int 0]))]) (w1 := [(k2, .inr (3, [.ref a2, .int 0]))]) hP hD [1] [0, 2, 3, 4] rfl rfl (by decide) (by decide) hk1 hFc hP1 hD1
  have hS := hS1
  clear hS1
  generalize H1 = H at hP hS ht ⊢
  have hP : va_P (dC, dI) vwCl [(h0, .inr (1, [.ref k1, .ref k2, .ref k3, .ref k4, .int kb, .int km])), (k3, .inr (3, [.ref a3, .int n3])), (k4, .inr (3, [.ref a4, .int n4])), (k1, .inr (3, [.ref a1, .int 0])), (k2, .inr (3, [.ref a2, .int 0]))] H := hP
  have hD : va_D A [(h0, .inr (1, [.ref k1, .ref k2, .ref k3, .ref k4, .int kb, .int km])), (k3, .inr (3, [.ref a3, .int n3])), (k4, .inr (3, [.ref a4, .int n4])), (k1, .inr (3, [.ref a1, .int 0])), (k2, .inr (3, [.ref a2, .int 0]))] := hD
  have w11 := hw
  refine lv_aload_n hx hb dX1_begin_14 rfl (lv_at hl 0 rfl) ?_
  refine va_get (D := (dC, dI)) (ci := 1) (v := .ref k3) (C := RX1) (T := TX1) (N := 6) hx hb hts (by decide +kernel) hown hK hP 0 rfl rfl 2 (by decide) (hts (.fieldLink RX1 23 "DeltaCodec$Plan" "operands" "LDeltaCodec$Row;") (by decide +kernel)) (fun _ h9 => h9) rfl dX1_begin_15 ?_
  have hPc := hP.sub (ws' := [(k3, .inr (3, [.ref a3, .int n3]))]) [1] rfl
  have hDc := hD.sub (ws' := [(k3, .inr (3, [.ref a3, .int n3]))]) [1] (by decide) rfl
  have hFc := va_free (wc := [(k3, .inr (3, [.ref a3, .int n3]))]) hD hS hA [1] rfl
  have hKc := hK.sub (tys' := []) [] rfl
  refine va_callv (va_runV (As := []) (rest := []) ⟨hx, hb, hml, hown, hts⟩ (c_X3_clear l dC dI k3 a3 n3 H.size) (cwV 0 hts gX1_begin_X3_clear rfl rfl rfl (by decide +kernel) ⟨Nat.le_of_ble_eq_true rfl, Nat.le_of_ble_eq_true rfl⟩) ⟨fun a U g mk q => by obtain ⟨q0, q1, qP, qK, qD⟩ := q; exact ⟨q0, q1, qP, va_K.moved (u := U) (U := U.calling g mk a) (Vm.Alike.refl U.vm) qK, qD⟩, va_recv hKc hPc (ci := 3) (q0 := 0) rfl rfl, fun U hU hW => ⟨rfl, by rw [hU], by rw [hU]; exact hPc, va_K.moved hW.alike hKc, zz_D hDc⟩⟩ rfl rfl hl.1 rfl (lv_room (Nat.le_of_ble_eq_true rfl)) dX1_begin_18 ⟨(Nat.le_of_ble_eq_true rfl), (Nat.le_of_ble_eq_true rfl)⟩) hS (fun q _ h => hFc q h) hFc (fun u_835 t H1 locs ht hvm hw hB hz1 hk1 hS1 => ?_)
  obtain ⟨hP1, hD1⟩ := hB
  rw [ht] at hP1
  obtain ⟨hP, hD⟩ := va_join (wr := [(h0, .inr (1, [.ref k1, .ref k2, .ref k3, .ref k4, .int kb, .int km])), (k4, .inr (3, [.ref a4, .int n4])), (k1, .inr (3, [.ref a1, .int 0])), (k2, .inr (3, [.ref a2, .int 0]))]) (w1 := [(k3, .inr (3, [.ref a3, .int 0]))]) hP hD [1] [0, 2, 3, 4] rfl rfl (by decide) (by decide) hk1 hFc hP1 hD1
  have hS := hS1
  clear hS1
  generalize H1 = H at hP hS ht ⊢
  have hP : va_P (dC, dI) vwCl [(h0, .inr (1, [.ref k1, .ref k2, .ref k3, .ref k4, .int kb, .int km])), (k4, .inr (3, [.ref a4, .int n4])), (k1, .inr (3, [.ref a1, .int 0])), (k2, .inr (3, [.ref a2, .int 0])), (k3, .inr (3, [.ref a3, .int 0]))] H := hP
  have hD : va_D A [(h0, .inr (1, [.ref k1, .ref k2, .ref k3, .ref k4, .int kb, .int km])), (k4, .inr (3, [.ref a4, .int n4])), (k1, .inr (3, [.ref a1, .int 0])), (k2, .inr (3, [.ref a2, .int 0])), (k3, .inr (3, [.ref a3, .int 0]))] := hD
  have w18 := hw
  refine lv_aload_n hx hb dX1_begin_21 rfl (lv_at hl 0 rfl) ?_
  refine va_get (D := (dC, dI)) (ci := 1) (v := .ref k4) (C := RX1) (T := TX1) (N := 6) hx hb hts (by decide +kernel) hown hK hP 0 rfl rfl 3 (by decide) (hts (.fieldLink RX1 26 "DeltaCodec$Plan" "starts" "LDeltaCodec$Row;") (by decide +kernel)) (fun _ h9 => h9) rfl dX1_begin_22 ?_
  have hPc := hP.sub (ws' := [(k4, .inr (3, [.ref a4, .int n4]))]) [1] rfl
  have hDc := hD.sub (ws' := [(k4, .inr (3, [.ref a4, .int n4]))]) [1] (by decide) rfl
  have hFc := va_free (wc := [(k4, .inr (3, [.ref a4, .int n4]))]) hD hS hA [1] rfl
  have hKc := hK.sub (tys' := []) [] rfl
  refine va_callv (va_runV (As := []) (rest := []) ⟨hx, hb, hml, hown, hts⟩ (c_X3_clear l dC dI k4 a4 n4 H.size) (cwV 0 hts gX1_begin_X3_clear rfl rfl rfl (by decide +kernel) ⟨Nat.le_of_ble_eq_true rfl, Nat.le_of_ble_eq_true rfl⟩) ⟨fun a U g mk q => by obtain ⟨q0, q1, qP, qK, qD⟩ := q; exact ⟨q0, q1, qP, va_K.moved (u := U) (U := U.calling g mk a) (Vm.Alike.refl U.vm) qK, qD⟩, va_recv hKc hPc (ci := 3) (q0 := 0) rfl rfl, fun U hU hW => ⟨rfl, by rw [hU], by rw [hU]; exact hPc, va_K.moved hW.alike hKc, zz_D hDc⟩⟩ rfl rfl hl.1 rfl (lv_room (Nat.le_of_ble_eq_true rfl)) dX1_begin_25 ⟨(Nat.le_of_ble_eq_true rfl), (Nat.le_of_ble_eq_true rfl)⟩) hS (fun q _ h => hFc q h) hFc (fun u_837 t H1 locs ht hvm hw hB hz1 hk1 hS1 => ?_)
  obtain ⟨hP1, hD1⟩ := hB
  rw [ht] at hP1
  obtain ⟨hP, hD⟩ := va_join (wr := [(h0, .inr (1, [.ref k1, .ref k2, .ref k3, .ref k4, .int kb, .int km])), (k1, .inr (3, [.ref a1, .int 0])), (k2, .inr (3, [.ref a2, .int 0])), (k3, .inr (3, [.ref a3, .int 0]))]) (w1 := [(k4, .inr (3, [.ref a4, .int 0]))]) hP hD [1] [0, 2, 3, 4] rfl rfl (by decide) (by decide) hk1 hFc hP1 hD1
  have hS := hS1
  clear hS1
  generalize H1 = H at hP hS ht ⊢
  have hP : va_P (dC, dI) vwCl [(h0, .inr (1, [.ref k1, .ref k2, .ref k3, .ref k4, .int kb, .int km])), (k1, .inr (3, [.ref a1, .int 0])), (k2, .inr (3, [.ref a2, .int 0])), (k3, .inr (3, [.ref a3, .int 0])), (k4, .inr (3, [.ref a4, .int 0]))] H := hP
  have hD : va_D A [(h0, .inr (1, [.ref k1, .ref k2, .ref k3, .ref k4, .int kb, .int km])), (k1, .inr (3, [.ref a1, .int 0])), (k2, .inr (3, [.ref a2, .int 0])), (k3, .inr (3, [.ref a3, .int 0])), (k4, .inr (3, [.ref a4, .int 0]))] := hD
  have w25 := hw
  refine lv_aload_n hx hb dX1_begin_28 rfl (lv_at hl 0 rfl) ?_
  refine lv_iload_n hx hb dX1_begin_29 rfl (lv_at hl 1 rfl) ?_
  refine va_put (D := (dC, dI)) (ci := 1) (v := .int p0) (ty := .int) (C := RX1) (T := TX1) (N := 6) hx hb hts (by decide +kernel) tyX1 tyX1_ok nmX1 hown hK hP hD hS 0 rfl rfl 4 (by decide) (hts (.fieldLink RX1 29 "DeltaCodec$Plan" "codeBytes" "I") (by decide +kernel)) (fun _ h9 => h9) rfl (by decide +kernel) rfl rfl (Nat.le_of_ble_eq_true rfl) dX1_begin_30 (fun H locs hP hD hS => ?_)
  have hP : va_P (dC, dI) vwCl [(h0, .inr (1, [.ref k1, .ref k2, .ref k3, .ref k4, .int p0, .int km])), (k1, .inr (3, [.ref a1, .int 0])), (k2, .inr (3, [.ref a2, .int 0])), (k3, .inr (3, [.ref a3, .int 0])), (k4, .inr (3, [.ref a4, .int 0]))] H := hP
  have hD : va_D A [(h0, .inr (1, [.ref k1, .ref k2, .ref k3, .ref k4, .int p0, .int km])), (k1, .inr (3, [.ref a1, .int 0])), (k2, .inr (3, [.ref a2, .int 0])), (k3, .inr (3, [.ref a3, .int 0])), (k4, .inr (3, [.ref a4, .int 0]))] := hD
  refine lv_aload_n hx hb dX1_begin_33 rfl (lv_at hl 0 rfl) ?_
  refine lv_iconst (v := 1) hx hb dX1_begin_34 (by decide) ?_
  refine va_put (D := (dC, dI)) (ci := 1) (v := .int 1) (ty := .boolean) (C := RX1) (T := TX1) (N := 6) hx hb hts (by decide +kernel) tyX1 tyX1_ok nmX1 hown hK hP hD hS 0 rfl rfl 5 (by decide) (hts (.fieldLink RX1 33 "DeltaCodec$Plan" "isMade" "Z") (by decide +kernel)) (fun _ h9 => h9) rfl (by decide +kernel) (by decide) rfl (Nat.le_of_ble_eq_true rfl) dX1_begin_35 (fun H locs hP hD hS => ?_)
  have hP : va_P (dC, dI) vwCl [(h0, .inr (1, [.ref k1, .ref k2, .ref k3, .ref k4, .int p0, .int 1])), (k1, .inr (3, [.ref a1, .int 0])), (k2, .inr (3, [.ref a2, .int 0])), (k3, .inr (3, [.ref a3, .int 0])), (k4, .inr (3, [.ref a4, .int 0]))] H := hP
  have hD : va_D A [(h0, .inr (1, [.ref k1, .ref k2, .ref k3, .ref k4, .int p0, .int 1])), (k1, .inr (3, [.ref a1, .int 0])), (k2, .inr (3, [.ref a2, .int 0])), (k3, .inr (3, [.ref a3, .int 0])), (k4, .inr (3, [.ref a4, .int 0]))] := hD
  have hP9 := hP.sub (ws' := [(h0, .inr (1, [.ref k1, .ref k2, .ref k3, .ref k4, .int p0, .int 1])), (k1, .inr (3, [.ref a1, .int 0])), (k2, .inr (3, [.ref a2, .int 0])), (k3, .inr (3, [.ref a3, .int 0])), (k4, .inr (3, [.ref a4, .int 0]))]) [0, 1, 2, 3, 4] rfl
  have hD9 := hD.sub (ws' := [(h0, .inr (1, [.ref k1, .ref k2, .ref k3, .ref k4, .int p0, .int 1])), (k1, .inr (3, [.ref a1, .int 0])), (k2, .inr (3, [.ref a2, .int 0])), (k3, .inr (3, [.ref a3, .int 0])), (k4, .inr (3, [.ref a4, .int 0]))]) [0, 1, 2, 3, 4] (by decide) rfl
  exact W.vret hx hb hr (fun t ht hW => ⟨⟨(), rfl, trivial, ⟨by rw [ht]; exact hP9, hD9⟩⟩, hS.F ht⟩) hS.2.2 dX1_begin_38
set_option maxHeartbeats 4000000 in
set_option maxRecDepth 100000 in
theorem q_add (l : Launch) (dC : Nat → ClassId) (dI : Nat → Nat → Nat) (cI : ClassId) (h0 : Nat) (k1 : Nat) (k2 : Nat) (k3 : Nat) (k4 : Nat) (a1 : Nat) (a2 : Nat) (a3 : Nat) (a4 : Nat) (n1 : Int32) (n2 : Int32) (n3 : Int32) (n4 : Int32) (y1 : Nat → Int32) (y2 : Nat → Int32) (y3 : Nat → Int32) (y4 : Nat → Int32) (kb : Int32) (km : Int32) (p0 : Int32) (p1 : Int32) (p2 : Int32) (p3 : Int32) (sz : Nat) : Met l yX1_add wsX1_add ({ frames := 1, cells := 0, slots := 0, locals := 21 }) (va_Pc [.ref h0, .int p0, .int p1, .int p2, .int p3] (fun U => U.heap.size = sz ∧ va_P (dC, dI) vwCl [(h0, .inr (1, [.ref k1, .ref k2, .ref k3, .ref k4, .int kb, .int km])), (k1, .inr (3, [.ref a1, .int n1])), (a1, .inl (cI, 150, .inl y1)), (k2, .inr (3, [.ref a2, .int n2])), (a2, .inl (cI, 150, .inl y2)), (k3, .inr (3, [.ref a3, .int n3])), (a3, .inl (cI, 150, .inl y3)), (k4, .inr (3, [.ref a4, .int n4])), (a4, .inl (cI, 150, .inl y4))] U.heap ∧ va_K (dC, dI) vwCl [(cI, .int)] U ∧ va_D (fun _ => True) [(h0, .inr (1, [.ref k1, .ref k2, .ref k3, .ref k4, .int kb, .int km])), (k1, .inr (3, [.ref a1, .int n1])), (a1, .inl (cI, 150, .inl y1)), (k2, .inr (3, [.ref a2, .int n2])), (a2, .inl (cI, 150, .inl y2)), (k3, .inr (3, [.ref a3, .int n3])), (a3, .inl (cI, 150, .inl y3)), (k4, .inr (3, [.ref a4, .int n4])), (a4, .inl (cI, 150, .inl y4))])) (va_Qv (fun u9 : Int32 × (Nat → Int32) × Int32 × (Nat → Int32) × Int32 × (Nat → Int32) × Int32 × (Nat → Int32) => True) (fun u9 t => va_P (dC, dI) vwCl [(h0, .inr (1, [.ref k1, .ref k2, .ref k3, .ref k4, .int kb, .int km])), (k1, .inr (3, [.ref a1, .int u9.1])), (a1, .inl (cI, 150, .inl u9.2.1)), (k2, .inr (3, [.ref a2, .int u9.2.2.1])), (a2, .inl (cI, 150, .inl u9.2.2.2.1)), (k3, .inr (3, [.ref a3, .int u9.2.2.2.2.1])), (a3, .inl (cI, 150, .inl u9.2.2.2.2.2.1)), (k4, .inr (3, [.ref a4, .int u9.2.2.2.2.2.2.1])), (a4, .inl (cI, 150, .inl u9.2.2.2.2.2.2.2))] t.heap ∧ va_D (va_A [(h0, .inr (1, [.ref k1, .ref k2, .ref k3, .ref k4, .int kb, .int km])), (k1, .inr (3, [.ref a1, .int n1])), (a1, .inl (cI, 150, .inl y1)), (k2, .inr (3, [.ref a2, .int n2])), (a2, .inl (cI, 150, .inl y2)), (k3, .inr (3, [.ref a3, .int n3])), (a3, .inl (cI, 150, .inl y3)), (k4, .inr (3, [.ref a4, .int n4])), (a4, .inl (cI, 150, .inl y4))] sz) [(h0, .inr (1, [.ref k1, .ref k2, .ref k3, .ref k4, .int kb, .int km])), (k1, .inr (3, [.ref a1, .int u9.1])), (a1, .inl (cI, 150, .inl u9.2.1)), (k2, .inr (3, [.ref a2, .int u9.2.2.1])), (a2, .inl (cI, 150, .inl u9.2.2.2.1)), (k3, .inr (3, [.ref a3, .int u9.2.2.2.2.1])), (a3, .inl (cI, 150, .inl u9.2.2.2.2.2.1)), (k4, .inr (3, [.ref a4, .int u9.2.2.2.2.2.2.1])), (a4, .inl (cI, 150, .inl u9.2.2.2.2.2.2.2))]) (va_A [(h0, .inr (1, [.ref k1, .ref k2, .ref k3, .ref k4, .int kb, .int km])), (k1, .inr (3, [.ref a1, .int n1])), (a1, .inl (cI, 150, .inl y1)), (k2, .inr (3, [.ref a2, .int n2])), (a2, .inl (cI, 150, .inl y2)), (k3, .inr (3, [.ref a3, .int n3])), (a3, .inl (cI, 150, .inl y3)), (k4, .inr (3, [.ref a4, .int n4])), (a4, .inl (cI, 150, .inl y4))] sz)) 0 0 (va_A [(h0, .inr (1, [.ref k1, .ref k2, .ref k3, .ref k4, .int kb, .int km])), (k1, .inr (3, [.ref a1, .int n1])), (a1, .inl (cI, 150, .inl y1)), (k2, .inr (3, [.ref a2, .int n2])), (a2, .inl (cI, 150, .inl y2)), (k3, .inr (3, [.ref a3, .int n3])), (a3, .inl (cI, 150, .inl y3)), (k4, .inr (3, [.ref a4, .int n4])), (a4, .inl (cI, 150, .inl y4))] sz) := by
  refine Met.ofW (cc := cX1_add) (maxL := 5) (ret := none) (by decide) rfl ?_
  intro p e s m args below meth c s₁ B hml hv
  obtain ⟨rfl, hsz, hP, hK, hD0⟩ := hv
  have hx := B.exec
  have hb := B.bytes
  have hr := B.returns
  have hts := atoms_spec (ws := wsX1_add) B.pre
  have hown : s.vm.findClass RX1 = some m.cls := findClass_of_methodNamed B.named
  have hlocks := B.notSynchronized
  subst hsz
  have hD := hD0.self (sz := s.heap.size)
  generalize hAe : va_A [(h0, .inr (1, [.ref k1, .ref k2, .ref k3, .ref k4, .int kb, .int km])), (k1, .inr (3, [.ref a1, .int n1])), (a1, .inl (cI, 150, .inl y1)), (k2, .inr (3, [.ref a2, .int n2])), (a2, .inl (cI, 150, .inl y2)), (k3, .inr (3, [.ref a3, .int n3])), (a3, .inl (cI, 150, .inl y3)), (k4, .inr (3, [.ref a4, .int n4])), (a4, .inl (cI, 150, .inl y4))] s.heap.size = A at hD ⊢
  have hA : ∀ q : Nat, s.heap.size ≤ q → A q := fun q h => by rw [← hAe]; exact Or.inr h
  have hS : va_S A s.heap s.heap [] := va_S.rf
  have hP : va_P (dC, dI) vwCl [(h0, .inr (1, [.ref k1, .ref k2, .ref k3, .ref k4, .int kb, .int km])), (k1, .inr (3, [.ref a1, .int n1])), (a1, .inl (cI, 150, .inl y1)), (k2, .inr (3, [.ref a2, .int n2])), (a2, .inl (cI, 150, .inl y2)), (k3, .inr (3, [.ref a3, .int n3])), (a3, .inl (cI, 150, .inl y3)), (k4, .inr (3, [.ref a4, .int n4])), (a4, .inl (cI, 150, .inl y4))] s.heap := hP
  have hl := lv_entry ([.ref h0, .int p0, .int p1, .int p2, .int p3]) (n := 5) (Nat.le_of_ble_eq_true rfl)
  rw [lg_entry_eq]
  generalize (lg_sl ([.ref h0, .int p0, .int p1, .int p2, .int p3]) ++ List.replicate (5 - (lg_sl ([.ref h0, .int p0, .int p1, .int p2, .int p3])).length) Slot.unset).toArray = ls at hl ⊢
  have hl : lv_has ls 5 [(0, .ref h0), (1, .int p0), (2, .int p1), (3, .int p2), (4, .int p3)] := hl
  refine lv_aload_n hx hb dX1_add_0 rfl (lv_at hl 0 rfl) ?_
  refine va_get (D := (dC, dI)) (ci := 1) (v := .ref k1) (C := RX1) (T := TX1) (N := 6) hx hb hts (by decide +kernel) hown hK hP 0 rfl rfl 0 (by decide) (hts (.fieldLink RX1 14 "DeltaCodec$Plan" "kinds" "LDeltaCodec$Row;") (by decide +kernel)) (fun _ h9 => h9) rfl dX1_add_1 ?_
  refine lv_iload_n hx hb dX1_add_4 rfl (lv_at hl 1 rfl) ?_
  have hPc := hP.sub (ws' := [(k1, .inr (3, [.ref a1, .int n1])), (a1, .inl (cI, 150, .inl y1))]) [1, 2] rfl
  have hDc := hD.sub (ws' := [(k1, .inr (3, [.ref a1, .int n1])), (a1, .inl (cI, 150, .inl y1))]) [1, 2] (by decide) rfl
  have hFc := va_free (wc := [(k1, .inr (3, [.ref a1, .int n1])), (a1, .inl (cI, 150, .inl y1))]) hD hS hA [1, 2] rfl
  have hKc := hK.sub (tys' := [(cI, .int)]) [0] rfl
  refine va_callv (va_runV (As := [.int p0]) (rest := []) ⟨hx, hb, hml, hown, hts⟩ (q_append l dC dI cI k1 a1 150 y1 n1 p0 s.heap.size (by decide)) (cwV 1 hts gX1_add_X3_append rfl rfl rfl (by decide +kernel) ⟨Nat.le_of_ble_eq_true rfl, Nat.le_of_ble_eq_true rfl⟩) ⟨fun a U g mk q => by obtain ⟨q0, q1, qP, qK, qD⟩ := q; exact ⟨q0, q1, qP, va_K.moved (u := U) (U := U.calling g mk a) (Vm.Alike.refl U.vm) qK, qD⟩, va_recv hKc hPc (ci := 3) (q0 := 0) rfl rfl, fun U hU hW => ⟨rfl, by rw [hU], by rw [hU]; exact hPc, va_K.moved hW.alike hKc, zz_D hDc⟩⟩ rfl rfl hl.1 rfl (lv_room (Nat.le_of_ble_eq_true rfl)) dX1_add_5 ⟨(Nat.le_of_ble_eq_true rfl), (Nat.le_of_ble_eq_true rfl)⟩) hS (fun q _ h => hFc q h) hFc (fun u_839 t H1 locs ht hvm hw hB hz1 hk1 hS1 => ?_)
  obtain ⟨hP1, hD1⟩ := hB
  rw [ht] at hP1
  obtain ⟨hP, hD⟩ := va_join (wr := [(h0, .inr (1, [.ref k1, .ref k2, .ref k3, .ref k4, .int kb, .int km])), (k2, .inr (3, [.ref a2, .int n2])), (a2, .inl (cI, 150, .inl y2)), (k3, .inr (3, [.ref a3, .int n3])), (a3, .inl (cI, 150, .inl y3)), (k4, .inr (3, [.ref a4, .int n4])), (a4, .inl (cI, 150, .inl y4))]) (w1 := [(k1, .inr (3, [.ref a1, .int u_839.1])), (a1, .inl (cI, 150, .inl u_839.2))]) hP hD [1, 2] [0, 3, 4, 5, 6, 7, 8] rfl rfl (by decide) (by decide) hk1 hFc hP1 hD1
  have hS := hS1
  clear hS1
  generalize H1 = H at hP hS ht ⊢
  have hP : va_P (dC, dI) vwCl [(h0, .inr (1, [.ref k1, .ref k2, .ref k3, .ref k4, .int kb, .int km])), (k2, .inr (3, [.ref a2, .int n2])), (a2, .inl (cI, 150, .inl y2)), (k3, .inr (3, [.ref a3, .int n3])), (a3, .inl (cI, 150, .inl y3)), (k4, .inr (3, [.ref a4, .int n4])), (a4, .inl (cI, 150, .inl y4)), (k1, .inr (3, [.ref a1, .int u_839.1])), (a1, .inl (cI, 150, .inl u_839.2))] H := hP
  have hD : va_D A [(h0, .inr (1, [.ref k1, .ref k2, .ref k3, .ref k4, .int kb, .int km])), (k2, .inr (3, [.ref a2, .int n2])), (a2, .inl (cI, 150, .inl y2)), (k3, .inr (3, [.ref a3, .int n3])), (a3, .inl (cI, 150, .inl y3)), (k4, .inr (3, [.ref a4, .int n4])), (a4, .inl (cI, 150, .inl y4)), (k1, .inr (3, [.ref a1, .int u_839.1])), (a1, .inl (cI, 150, .inl u_839.2))] := hD
  have w5 := hw
  refine lv_aload_n hx hb dX1_add_8 rfl (lv_at hl 0 rfl) ?_
  refine va_get (D := (dC, dI)) (ci := 1) (v := .ref k2) (C := RX1) (T := TX1) (N := 6) hx hb hts (by decide +kernel) hown hK hP 0 rfl rfl 1 (by decide) (hts (.fieldLink RX1 20 "DeltaCodec$Plan" "lengths" "LDeltaCodec$Row;") (by decide +kernel)) (fun _ h9 => h9) rfl dX1_add_9 ?_
  refine lv_iload_n hx hb dX1_add_12 rfl (lv_at hl 2 rfl) ?_
  have hPc := hP.sub (ws' := [(k2, .inr (3, [.ref a2, .int n2])), (a2, .inl (cI, 150, .inl y2))]) [1, 2] rfl
  have hDc := hD.sub (ws' := [(k2, .inr (3, [.ref a2, .int n2])), (a2, .inl (cI, 150, .inl y2))]) [1, 2] (by decide) rfl
  have hFc := va_free (wc := [(k2, .inr (3, [.ref a2, .int n2])), (a2, .inl (cI, 150, .inl y2))]) hD hS hA [1, 2] rfl
  have hKc := hK.sub (tys' := [(cI, .int)]) [0] rfl
  refine va_callv (va_runV (As := [.int p1]) (rest := []) ⟨hx, hb, hml, hown, hts⟩ (q_append l dC dI cI k2 a2 150 y2 n2 p1 H.size (by decide)) (cwV 1 hts gX1_add_X3_append rfl rfl rfl (by decide +kernel) ⟨Nat.le_of_ble_eq_true rfl, Nat.le_of_ble_eq_true rfl⟩) ⟨fun a U g mk q => by obtain ⟨q0, q1, qP, qK, qD⟩ := q; exact ⟨q0, q1, qP, va_K.moved (u := U) (U := U.calling g mk a) (Vm.Alike.refl U.vm) qK, qD⟩, va_recv hKc hPc (ci := 3) (q0 := 0) rfl rfl, fun U hU hW => ⟨rfl, by rw [hU], by rw [hU]; exact hPc, va_K.moved hW.alike hKc, zz_D hDc⟩⟩ rfl rfl hl.1 rfl (lv_room (Nat.le_of_ble_eq_true rfl)) dX1_add_13 ⟨(Nat.le_of_ble_eq_true rfl), (Nat.le_of_ble_eq_true rfl)⟩) hS (fun q _ h => hFc q h) hFc (fun u_841 t H1 locs ht hvm hw hB hz1 hk1 hS1 => ?_)
  obtain ⟨hP1, hD1⟩ := hB
  rw [ht] at hP1
  obtain ⟨hP, hD⟩ := va_join (wr := [(h0, .inr (1, [.ref k1, .ref k2, .ref k3, .ref k4, .int kb, .int km])), (k3, .inr (3, [.ref a3, .int n3])), (a3, .inl (cI, 150, .inl y3)), (k4, .inr (3, [.ref a4, .int n4])), (a4, .inl (cI, 150, .inl y4)), (k1, .inr (3, [.ref a1, .int u_839.1])), (a1, .inl (cI, 150, .inl u_839.2))]) (w1 := [(k2, .inr (3, [.ref a2, .int u_841.1])), (a2, .inl (cI, 150, .inl u_841.2))]) hP hD [1, 2] [0, 3, 4, 5, 6, 7, 8] rfl rfl (by decide) (by decide) hk1 hFc hP1 hD1
  have hS := hS1
  clear hS1
  generalize H1 = H at hP hS ht ⊢
  have hP : va_P (dC, dI) vwCl [(h0, .inr (1, [.ref k1, .ref k2, .ref k3, .ref k4, .int kb, .int km])), (k3, .inr (3, [.ref a3, .int n3])), (a3, .inl (cI, 150, .inl y3)), (k4, .inr (3, [.ref a4, .int n4])), (a4, .inl (cI, 150, .inl y4)), (k1, .inr (3, [.ref a1, .int u_839.1])), (a1, .inl (cI, 150, .inl u_839.2)), (k2, .inr (3, [.ref a2, .int u_841.1])), (a2, .inl (cI, 150, .inl u_841.2))] H := hP
  have hD : va_D A [(h0, .inr (1, [.ref k1, .ref k2, .ref k3, .ref k4, .int kb, .int km])), (k3, .inr (3, [.ref a3, .int n3])), (a3, .inl (cI, 150, .inl y3)), (k4, .inr (3, [.ref a4, .int n4])), (a4, .inl (cI, 150, .inl y4)), (k1, .inr (3, [.ref a1, .int u_839.1])), (a1, .inl (cI, 150, .inl u_839.2)), (k2, .inr (3, [.ref a2, .int u_841.1])), (a2, .inl (cI, 150, .inl u_841.2))] := hD
  have w13 := hw
  refine lv_aload_n hx hb dX1_add_16 rfl (lv_at hl 0 rfl) ?_
  refine va_get (D := (dC, dI)) (ci := 1) (v := .ref k3) (C := RX1) (T := TX1) (N := 6) hx hb hts (by decide +kernel) hown hK hP 0 rfl rfl 2 (by decide) (hts (.fieldLink RX1 23 "DeltaCodec$Plan" "operands" "LDeltaCodec$Row;") (by decide +kernel)) (fun _ h9 => h9) rfl dX1_add_17 ?_
  refine lv_iload_n hx hb dX1_add_20 rfl (lv_at hl 3 rfl) ?_
  have hPc := hP.sub (ws' := [(k3, .inr (3, [.ref a3, .int n3])), (a3, .inl (cI, 150, .inl y3))]) [1, 2] rfl
  have hDc := hD.sub (ws' := [(k3, .inr (3, [.ref a3, .int n3])), (a3, .inl (cI, 150, .inl y3))]) [1, 2] (by decide) rfl
  have hFc := va_free (wc := [(k3, .inr (3, [.ref a3, .int n3])), (a3, .inl (cI, 150, .inl y3))]) hD hS hA [1, 2] rfl
  have hKc := hK.sub (tys' := [(cI, .int)]) [0] rfl
  refine va_callv (va_runV (As := [.int p2]) (rest := []) ⟨hx, hb, hml, hown, hts⟩ (q_append l dC dI cI k3 a3 150 y3 n3 p2 H.size (by decide)) (cwV 1 hts gX1_add_X3_append rfl rfl rfl (by decide +kernel) ⟨Nat.le_of_ble_eq_true rfl, Nat.le_of_ble_eq_true rfl⟩) ⟨fun a U g mk q => by obtain ⟨q0, q1, qP, qK, qD⟩ := q; exact ⟨q0, q1, qP, va_K.moved (u := U) (U := U.calling g mk a) (Vm.Alike.refl U.vm) qK, qD⟩, va_recv hKc hPc (ci := 3) (q0 := 0) rfl rfl, fun U hU hW => ⟨rfl, by rw [hU], by rw [hU]; exact hPc, va_K.moved hW.alike hKc, zz_D hDc⟩⟩ rfl rfl hl.1 rfl (lv_room (Nat.le_of_ble_eq_true rfl)) dX1_add_21 ⟨(Nat.le_of_ble_eq_true rfl), (Nat.le_of_ble_eq_true rfl)⟩) hS (fun q _ h => hFc q h) hFc (fun u_843 t H1 locs ht hvm hw hB hz1 hk1 hS1 => ?_)
  obtain ⟨hP1, hD1⟩ := hB
  rw [ht] at hP1
  obtain ⟨hP, hD⟩ := va_join (wr := [(h0, .inr (1, [.ref k1, .ref k2, .ref k3, .ref k4, .int kb, .int km])), (k4, .inr (3, [.ref a4, .int n4])), (a4, .inl (cI, 150, .inl y4)), (k1, .inr (3, [.ref a1, .int u_839.1])), (a1, .inl (cI, 150, .inl u_839.2)), (k2, .inr (3, [.ref a2, .int u_841.1])), (a2, .inl (cI, 150, .inl u_841.2))]) (w1 := [(k3, .inr (3, [.ref a3, .int u_843.1])), (a3, .inl (cI, 150, .inl u_843.2))]) hP hD [1, 2] [0, 3, 4, 5, 6, 7, 8] rfl rfl (by decide) (by decide) hk1 hFc hP1 hD1
  have hS := hS1
  clear hS1
  generalize H1 = H at hP hS ht ⊢
  have hP : va_P (dC, dI) vwCl [(h0, .inr (1, [.ref k1, .ref k2, .ref k3, .ref k4, .int kb, .int km])), (k4, .inr (3, [.ref a4, .int n4])), (a4, .inl (cI, 150, .inl y4)), (k1, .inr (3, [.ref a1, .int u_839.1])), (a1, .inl (cI, 150, .inl u_839.2)), (k2, .inr (3, [.ref a2, .int u_841.1])), (a2, .inl (cI, 150, .inl u_841.2)), (k3, .inr (3, [.ref a3, .int u_843.1])), (a3, .inl (cI, 150, .inl u_843.2))] H := hP
  have hD : va_D A [(h0, .inr (1, [.ref k1, .ref k2, .ref k3, .ref k4, .int kb, .int km])), (k4, .inr (3, [.ref a4, .int n4])), (a4, .inl (cI, 150, .inl y4)), (k1, .inr (3, [.ref a1, .int u_839.1])), (a1, .inl (cI, 150, .inl u_839.2)), (k2, .inr (3, [.ref a2, .int u_841.1])), (a2, .inl (cI, 150, .inl u_841.2)), (k3, .inr (3, [.ref a3, .int u_843.1])), (a3, .inl (cI, 150, .inl u_843.2))] := hD
  have w21 := hw
  refine lv_aload_n hx hb dX1_add_24 rfl (lv_at hl 0 rfl) ?_
  refine va_get (D := (dC, dI)) (ci := 1) (v := .ref k4) (C := RX1) (T := TX1) (N := 6) hx hb hts (by decide +kernel) hown hK hP 0 rfl rfl 3 (by decide) (hts (.fieldLink RX1 26 "DeltaCodec$Plan" "starts" "LDeltaCodec$Row;") (by decide +kernel)) (fun _ h9 => h9) rfl dX1_add_25 ?_
  refine lv_iload hx hb dX1_add_28 (lv_at hl 4 rfl) ?_
  have hPc := hP.sub (ws' := [(k4, .inr (3, [.ref a4, .int n4])), (a4, .inl (cI, 150, .inl y4))]) [1, 2] rfl
  have hDc := hD.sub (ws' := [(k4, .inr (3, [.ref a4, .int n4])), (a4, .inl (cI, 150, .inl y4))]) [1, 2] (by decide) rfl
  have hFc := va_free (wc := [(k4, .inr (3, [.ref a4, .int n4])), (a4, .inl (cI, 150, .inl y4))]) hD hS hA [1, 2] rfl
  have hKc := hK.sub (tys' := [(cI, .int)]) [0] rfl
  refine va_callv (va_runV (As := [.int p3]) (rest := []) ⟨hx, hb, hml, hown, hts⟩ (q_append l dC dI cI k4 a4 150 y4 n4 p3 H.size (by decide)) (cwV 1 hts gX1_add_X3_append rfl rfl rfl (by decide +kernel) ⟨Nat.le_of_ble_eq_true rfl, Nat.le_of_ble_eq_true rfl⟩) ⟨fun a U g mk q => by obtain ⟨q0, q1, qP, qK, qD⟩ := q; exact ⟨q0, q1, qP, va_K.moved (u := U) (U := U.calling g mk a) (Vm.Alike.refl U.vm) qK, qD⟩, va_recv hKc hPc (ci := 3) (q0 := 0) rfl rfl, fun U hU hW => ⟨rfl, by rw [hU], by rw [hU]; exact hPc, va_K.moved hW.alike hKc, zz_D hDc⟩⟩ rfl rfl hl.1 rfl (lv_room (Nat.le_of_ble_eq_true rfl)) dX1_add_30 ⟨(Nat.le_of_ble_eq_true rfl), (Nat.le_of_ble_eq_true rfl)⟩) hS (fun q _ h => hFc q h) hFc (fun u_845 t H1 locs ht hvm hw hB hz1 hk1 hS1 => ?_)
  obtain ⟨hP1, hD1⟩ := hB
  rw [ht] at hP1
  obtain ⟨hP, hD⟩ := va_join (wr := [(h0, .inr (1, [.ref k1, .ref k2, .ref k3, .ref k4, .int kb, .int km])), (k1, .inr (3, [.ref a1, .int u_839.1])), (a1, .inl (cI, 150, .inl u_839.2)), (k2, .inr (3, [.ref a2, .int u_841.1])), (a2, .inl (cI, 150, .inl u_841.2)), (k3, .inr (3, [.ref a3, .int u_843.1])), (a3, .inl (cI, 150, .inl u_843.2))]) (w1 := [(k4, .inr (3, [.ref a4, .int u_845.1])), (a4, .inl (cI, 150, .inl u_845.2))]) hP hD [1, 2] [0, 3, 4, 5, 6, 7, 8] rfl rfl (by decide) (by decide) hk1 hFc hP1 hD1
  have hS := hS1
  clear hS1
  generalize H1 = H at hP hS ht ⊢
  have hP : va_P (dC, dI) vwCl [(h0, .inr (1, [.ref k1, .ref k2, .ref k3, .ref k4, .int kb, .int km])), (k1, .inr (3, [.ref a1, .int u_839.1])), (a1, .inl (cI, 150, .inl u_839.2)), (k2, .inr (3, [.ref a2, .int u_841.1])), (a2, .inl (cI, 150, .inl u_841.2)), (k3, .inr (3, [.ref a3, .int u_843.1])), (a3, .inl (cI, 150, .inl u_843.2)), (k4, .inr (3, [.ref a4, .int u_845.1])), (a4, .inl (cI, 150, .inl u_845.2))] H := hP
  have hD : va_D A [(h0, .inr (1, [.ref k1, .ref k2, .ref k3, .ref k4, .int kb, .int km])), (k1, .inr (3, [.ref a1, .int u_839.1])), (a1, .inl (cI, 150, .inl u_839.2)), (k2, .inr (3, [.ref a2, .int u_841.1])), (a2, .inl (cI, 150, .inl u_841.2)), (k3, .inr (3, [.ref a3, .int u_843.1])), (a3, .inl (cI, 150, .inl u_843.2)), (k4, .inr (3, [.ref a4, .int u_845.1])), (a4, .inl (cI, 150, .inl u_845.2))] := hD
  have w30 := hw
  have hP9 := hP.sub (ws' := [(h0, .inr (1, [.ref k1, .ref k2, .ref k3, .ref k4, .int kb, .int km])), (k1, .inr (3, [.ref a1, .int u_839.1])), (a1, .inl (cI, 150, .inl u_839.2)), (k2, .inr (3, [.ref a2, .int u_841.1])), (a2, .inl (cI, 150, .inl u_841.2)), (k3, .inr (3, [.ref a3, .int u_843.1])), (a3, .inl (cI, 150, .inl u_843.2)), (k4, .inr (3, [.ref a4, .int u_845.1])), (a4, .inl (cI, 150, .inl u_845.2))]) [0, 1, 2, 3, 4, 5, 6, 7, 8] rfl
  have hD9 := hD.sub (ws' := [(h0, .inr (1, [.ref k1, .ref k2, .ref k3, .ref k4, .int kb, .int km])), (k1, .inr (3, [.ref a1, .int u_839.1])), (a1, .inl (cI, 150, .inl u_839.2)), (k2, .inr (3, [.ref a2, .int u_841.1])), (a2, .inl (cI, 150, .inl u_841.2)), (k3, .inr (3, [.ref a3, .int u_843.1])), (a3, .inl (cI, 150, .inl u_843.2)), (k4, .inr (3, [.ref a4, .int u_845.1])), (a4, .inl (cI, 150, .inl u_845.2))]) [0, 1, 2, 3, 4, 5, 6, 7, 8] (by decide) rfl
  exact W.vret hx hb hr (fun t ht hW => ⟨⟨(u_839.1, u_839.2, u_841.1, u_841.2, u_843.1, u_843.2, u_845.1, u_845.2), rfl, trivial, ⟨by rw [ht]; exact hP9, hD9⟩⟩, hS.F ht⟩) hS.2.2 dX1_add_33
