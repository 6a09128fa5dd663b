set_option maxHeartbeats 4000000 in
set_option maxRecDepth 100000 in
theorem c_X0_init (l : Launch) (dC : Nat → ClassId) (dI : Nat → Nat → Nat) (cI : ClassId) (h0 : Nat) (sz : Nat) : Met l yX0_init wsX0_init ({ frames := 2, cells := 2, slots := 302, locals := 42 }) (va_Pc [.ref h0] (fun U => U.heap.size = sz ∧ va_P (dC, dI) vwCl [(h0, .inr (0, [.null, .int 0, .int 0, .int 0, .int 0, .int 0, .int 0, .int 0]))] U.heap ∧ va_K (dC, dI) vwCl [(cI, .int)] U ∧ va_D (fun _ => True) [(h0, .inr (0, [.null, .int 0, .int 0, .int 0, .int 0, .int 0, .int 0, .int 0]))])) (va_Qv (fun _ : Nat × Nat => True) (fun u t => match u with | (r1, b1) => va_P (dC, dI) vwCl [(h0, .inr (0, [.ref r1, .int 0, .int 0, .int 0, .int (-1), .int 0, .int 0, .int 0])), (r1, .inr (3, [.ref b1, .int 0])), (b1, .inl (cI, 300, .inl (fun _ => 0)))] t.heap ∧ va_D (va_A [(h0, .inr (0, [.null, .int 0, .int 0, .int 0, .int 0, .int 0, .int 0, .int 0]))] sz) [(h0, .inr (0, [.ref r1, .int 0, .int 0, .int 0, .int (-1), .int 0, .int 0, .int 0])), (r1, .inr (3, [.ref b1, .int 0])), (b1, .inl (cI, 300, .inl (fun _ => 0)))]) (va_A [(h0, .inr (0, [.null, .int 0, .int 0, .int 0, .int 0, .int 0, .int 0, .int 0]))] sz)) 2 302 (va_A [(h0, .inr (0, [.null, .int 0, .int 0, .int 0, .int 0, .int 0, .int 0, .int 0]))] sz) := by
  refine Met.ofW (cc := cX0_init) (maxL := 1) (ret := none) (by decide) rfl ?_
  intro p e s m args below meth c s₁ B hml hv
  obtain ⟨rfl, hsz, hP, hK, hD0⟩ := hv
  have hx := B.exec
  have hb := B.bytes
  have hr := B.returns
  have hts := atoms_spec (ws := wsX0_init) B.pre
  have hown : s.vm.findClass RX0 = some m.cls := findClass_of_methodNamed B.named
  have hlocks := B.notSynchronized
  have hin : meth.name = "<init>" := (name_of_methodNamed B.named B.method).1
  subst hsz
  have hD := hD0.self (sz := s.heap.size)
  generalize hAe : va_A [(h0, .inr (0, [.null, .int 0, .int 0, .int 0, .int 0, .int 0, .int 0, .int 0]))] s.heap.size = A at hD ⊢
  have hA : ∀ q : Nat, s.heap.size ≤ q → A q := fun q h => by rw [← hAe]; exact Or.inr h
  have hS : va_S A s.heap s.heap [] := va_S.rf
  have hP : va_P (dC, dI) vwCl [(h0, .inr (0, [.null, .int 0, .int 0, .int 0, .int 0, .int 0, .int 0, .int 0]))] s.heap := hP
  have hl := lv_entry ([.ref h0]) (n := 1) (Nat.le_of_ble_eq_true rfl)
  rw [lg_entry_eq]
  generalize (lg_sl ([.ref h0]) ++ List.replicate (1 - (lg_sl ([.ref h0])).length) Slot.unset).toArray = ls at hl ⊢
  have hl : lv_has ls 1 [(0, .ref h0)] := hl
  refine lv_aload_n hx hb dX0_init_0 rfl (lv_at hl 0 rfl) ?_
  refine W.objInit hx hb hown (hts (.methodLink RX0 3 objectInit) (by decide +kernel)) (hts (.instanceMethod objectInit) (by decide +kernel)) (hts (.code objectInit ⟨#[0xb1]⟩ 1 none) (by decide +kernel)) rfl (by rw [hml]; exact hl.1) rfl dX0_init_1 (Nat.le_of_ble_eq_true rfl) (Nat.le_of_ble_eq_true rfl) ?_
  refine W.eq (g2 := F0 m 4 ls []) rfl ?_
  refine lv_aload_n hx hb dX0_init_4 rfl (lv_at hl 0 rfl) ?_
  refine va_new (ci := 3) (fs := [.null, .int 0]) (C := RX3) (T := TX3) (N := 2) hx hb hts (by decide +kernel) tyX3 tyX3_ok hown (hts (.classLink RX0 9 RX3) (by decide +kernel)) (hts (.instantiable RX3 2) (by decide +kernel)) (hts (.initialized RX3) (by decide +kernel)) hK hP hD hS hA rfl (fun j hj => by rcases (show j = 0 ∨ j = 1 by omega) with rfl | rfl <;> rfl) (Nat.le_of_ble_eq_true rfl) (Nat.le_of_ble_eq_true rfl) dX0_init_5 (fun q_74 H hP hD hS => ?_)
  have hP : va_P (dC, dI) vwCl [(h0, .inr (0, [.null, .int 0, .int 0, .int 0, .int 0, .int 0, .int 0, .int 0])), (q_74, .inr (3, [.null, .int 0]))] H := hP
  have hD : va_D A [(h0, .inr (0, [.null, .int 0, .int 0, .int 0, .int 0, .int 0, .int 0, .int 0])), (q_74, .inr (3, [.null, .int 0]))] := hD
  refine W.widen (k := 1) (n := 2) (by omega) (by omega) ?_
  refine lv_dup hx hb dX0_init_8 rfl ?_
  refine lv_sipush (v := 300) hx hb dX0_init_9 (by decide) ?_
  have hPc := hP.sub (ws' := [(q_74, .inr (3, [.null, .int 0]))]) [1] rfl
  have hDc := hD.sub (ws' := [(q_74, .inr (3, [.null, .int 0]))]) [1] (by decide) rfl
  have hFc := va_free (wc := [(q_74, .inr (3, [.null, .int 0]))]) hD hS hA [1] rfl
  have hKc := hK.sub (tys' := [(cI, .int)]) [0] rfl
  refine va_callv (va_runI (As := [.int 300]) (rest := [.ref q_74, .ref h0]) ⟨hx, hb, hml, hown, hts⟩ (c_X3_init l dC dI cI q_74 300 300 H.size (by decide) (by decide) (by decide)) (cwI 1 hts gX0_init_X3_init rfl rfl rfl (hts (.initialized RX3) (by decide +kernel)) (hts (.methodLink RX0 11 yX3_init) (by decide +kernel)) (hts (.instanceMethod yX3_init) (by decide +kernel)) rfl (by decide +kernel) ⟨Nat.le_of_ble_eq_true rfl, Nat.le_of_ble_eq_true rfl⟩) ⟨fun a U g mk q => by obtain ⟨q0, q1, qP, qK, qD⟩ := q; exact ⟨q0, q1, qP, va_K.moved (u := U) (U := U.calling g mk a) (Vm.Alike.refl U.vm) qK, qD⟩, fun U hU hW => ⟨rfl, by rw [hU], by rw [hU]; exact hPc, va_K.moved hW.alike hKc, zz_D hDc⟩⟩ rfl rfl hl.1 rfl (lv_room (Nat.le_of_ble_eq_true rfl)) dX0_init_12 ⟨(Nat.le_of_ble_eq_true rfl), (Nat.le_of_ble_eq_true rfl)⟩) hS (fun q _ h => hFc q h) hFc (fun u_76 t H1 locs ht hvm hw hB hz1 hk1 hS1 => ?_)
  obtain ⟨hP1, hD1⟩ := hB
  rw [ht] at hP1
  obtain ⟨hP, hD⟩ := va_join (wr := [(h0, .inr (0, [.null, .int 0, .int 0, .int 0, .int 0, .int 0, .int 0, .int 0]))]) (w1 := [(q_74, .inr (3, [.ref u_76, .int 0])), (u_76, .inl (cI, 300, .inl (fun _ => 0)))]) hP hD [1] [0] rfl rfl (by decide) (by decide) hk1 hFc hP1 hD1
  have hS := hS1
  clear hS1
  generalize H1 = H at hP hS ht ⊢
  have hP : va_P (dC, dI) vwCl [(h0, .inr (0, [.null, .int 0, .int 0, .int 0, .int 0, .int 0, .int 0, .int 0])), (q_74, .inr (3, [.ref u_76, .int 0])), (u_76, .inl (cI, 300, .inl (fun _ => 0)))] H := hP
  have hD : va_D A [(h0, .inr (0, [.null, .int 0, .int 0, .int 0, .int 0, .int 0, .int 0, .int 0])), (q_74, .inr (3, [.ref u_76, .int 0])), (u_76, .inl (cI, 300, .inl (fun _ => 0)))] := hD
  refine W.widen (k := 2) (n := 302) (by omega) (by omega) ?_
  have w12 := hw
  refine va_putF (D := (dC, dI)) (ci := 0) (v := .ref q_74) (ty := (.object "DeltaCodec$Row")) (C := RX0) (T := TX0) (N := 8) hx hb hts (by decide +kernel) tyX0 tyX0_ok nmX0 hown hK hP hD hS 0 rfl rfl 0 (by decide) (hts (.fieldLink RX0 14 "DeltaCodec$Decoder" "product" "LDeltaCodec$Row;") (by decide +kernel)) (fun _ h9 => h9) rfl hin rfl (by decide +kernel) rfl rfl (Nat.le_of_ble_eq_true rfl) dX0_init_15 (fun H locs hP hD hS => ?_)
  have hP : va_P (dC, dI) vwCl [(h0, .inr (0, [.ref q_74, .int 0, .int 0, .int 0, .int 0, .int 0, .int 0, .int 0])), (q_74, .inr (3, [.ref u_76, .int 0])), (u_76, .inl (cI, 300, .inl (fun _ => 0)))] H := hP
  have hD : va_D A [(h0, .inr (0, [.ref q_74, .int 0, .int 0, .int 0, .int 0, .int 0, .int 0, .int 0])), (q_74, .inr (3, [.ref u_76, .int 0])), (u_76, .inl (cI, 300, .inl (fun _ => 0)))] := hD
  refine lv_aload_n hx hb dX0_init_18 rfl (lv_at hl 0 rfl) ?_
  refine lv_iconst (v := 0) hx hb dX0_init_19 (by decide) ?_
  refine va_put (D := (dC, dI)) (ci := 0) (v := .int 0) (ty := .int) (C := RX0) (T := TX0) (N := 8) hx hb hts (by decide +kernel) tyX0 tyX0_ok nmX0 hown hK hP hD hS 0 rfl rfl 1 (by decide) (hts (.fieldLink RX0 20 "DeltaCodec$Decoder" "position" "I") (by decide +kernel)) (fun _ h9 => h9) rfl (by decide +kernel) rfl rfl (Nat.le_of_ble_eq_true rfl) dX0_init_20 (fun H locs hP hD hS => ?_)
  have hP : va_P (dC, dI) vwCl [(h0, .inr (0, [.ref q_74, .int 0, .int 0, .int 0, .int 0, .int 0, .int 0, .int 0])), (q_74, .inr (3, [.ref u_76, .int 0])), (u_76, .inl (cI, 300, .inl (fun _ => 0)))] H := hP
  have hD : va_D A [(h0, .inr (0, [.ref q_74, .int 0, .int 0, .int 0, .int 0, .int 0, .int 0, .int 0])), (q_74, .inr (3, [.ref u_76, .int 0])), (u_76, .inl (cI, 300, .inl (fun _ => 0)))] := hD
  refine lv_aload_n hx hb dX0_init_23 rfl (lv_at hl 0 rfl) ?_
  refine lv_iconst (v := 0) hx hb dX0_init_24 (by decide) ?_
  refine va_put (D := (dC, dI)) (ci := 0) (v := .int 0) (ty := .int) (C := RX0) (T := TX0) (N := 8) hx hb hts (by decide +kernel) tyX0 tyX0_ok nmX0 hown hK hP hD hS 0 rfl rfl 2 (by decide) (hts (.fieldLink RX0 24 "DeltaCodec$Decoder" "limit" "I") (by decide +kernel)) (fun _ h9 => h9) rfl (by decide +kernel) rfl rfl (Nat.le_of_ble_eq_true rfl) dX0_init_25 (fun H locs hP hD hS => ?_)
  have hP : va_P (dC, dI) vwCl [(h0, .inr (0, [.ref q_74, .int 0, .int 0, .int 0, .int 0, .int 0, .int 0, .int 0])), (q_74, .inr (3, [.ref u_76, .int 0])), (u_76, .inl (cI, 300, .inl (fun _ => 0)))] H := hP
  have hD : va_D A [(h0, .inr (0, [.ref q_74, .int 0, .int 0, .int 0, .int 0, .int 0, .int 0, .int 0])), (q_74, .inr (3, [.ref u_76, .int 0])), (u_76, .inl (cI, 300, .inl (fun _ => 0)))] := hD
  refine lv_aload_n hx hb dX0_init_28 rfl (lv_at hl 0 rfl) ?_
  refine lv_iconst (v := 0) hx hb dX0_init_29 (by decide) ?_
  refine va_put (D := (dC, dI)) (ci := 0) (v := .int 0) (ty := .int) (C := RX0) (T := TX0) (N := 8) hx hb hts (by decide +kernel) tyX0 tyX0_ok nmX0 hown hK hP hD hS 0 rfl rfl 3 (by decide) (hts (.fieldLink RX0 27 "DeltaCodec$Decoder" "error" "I") (by decide +kernel)) (fun _ h9 => h9) rfl (by decide +kernel) rfl rfl (Nat.le_of_ble_eq_true rfl) dX0_init_30 (fun H locs hP hD hS => ?_)
  have hP : va_P (dC, dI) vwCl [(h0, .inr (0, [.ref q_74, .int 0, .int 0, .int 0, .int 0, .int 0, .int 0, .int 0])), (q_74, .inr (3, [.ref u_76, .int 0])), (u_76, .inl (cI, 300, .inl (fun _ => 0)))] H := hP
  have hD : va_D A [(h0, .inr (0, [.ref q_74, .int 0, .int 0, .int 0, .int 0, .int 0, .int 0, .int 0])), (q_74, .inr (3, [.ref u_76, .int 0])), (u_76, .inl (cI, 300, .inl (fun _ => 0)))] := hD
  refine lv_aload_n hx hb dX0_init_33 rfl (lv_at hl 0 rfl) ?_
  refine lv_iconst (v := (-1)) hx hb dX0_init_34 (by decide) ?_
  refine va_put (D := (dC, dI)) (ci := 0) (v := .int (-1)) (ty := .int) (C := RX0) (T := TX0) (N := 8) hx hb hts (by decide +kernel) tyX0 tyX0_ok nmX0 hown hK hP hD hS 0 rfl rfl 4 (by decide) (hts (.fieldLink RX0 30 "DeltaCodec$Decoder" "errorAt" "I") (by decide +kernel)) (fun _ h9 => h9) rfl (by decide +kernel) rfl rfl (Nat.le_of_ble_eq_true rfl) dX0_init_35 (fun H locs hP hD hS => ?_)
  have hP : va_P (dC, dI) vwCl [(h0, .inr (0, [.ref q_74, .int 0, .int 0, .int 0, .int (-1), .int 0, .int 0, .int 0])), (q_74, .inr (3, [.ref u_76, .int 0])), (u_76, .inl (cI, 300, .inl (fun _ => 0)))] H := hP
  have hD : va_D A [(h0, .inr (0, [.ref q_74, .int 0, .int 0, .int 0, .int (-1), .int 0, .int 0, .int 0])), (q_74, .inr (3, [.ref u_76, .int 0])), (u_76, .inl (cI, 300, .inl (fun _ => 0)))] := hD
  refine lv_aload_n hx hb dX0_init_38 rfl (lv_at hl 0 rfl) ?_
  refine lv_iconst (v := 0) hx hb dX0_init_39 (by decide) ?_
  refine va_put (D := (dC, dI)) (ci := 0) (v := .int 0) (ty := .int) (C := RX0) (T := TX0) (N := 8) hx hb hts (by decide +kernel) tyX0 tyX0_ok nmX0 hown hK hP hD hS 0 rfl rfl 5 (by decide) (hts (.fieldLink RX0 33 "DeltaCodec$Decoder" "kind" "I") (by decide +kernel)) (fun _ h9 => h9) rfl (by decide +kernel) rfl rfl (Nat.le_of_ble_eq_true rfl) dX0_init_40 (fun H locs hP hD hS => ?_)
  have hP : va_P (dC, dI) vwCl [(h0, .inr (0, [.ref q_74, .int 0, .int 0, .int 0, .int (-1), .int 0, .int 0, .int 0])), (q_74, .inr (3, [.ref u_76, .int 0])), (u_76, .inl (cI, 300, .inl (fun _ => 0)))] H := hP
  have hD : va_D A [(h0, .inr (0, [.ref q_74, .int 0, .int 0, .int 0, .int (-1), .int 0, .int 0, .int 0])), (q_74, .inr (3, [.ref u_76, .int 0])), (u_76, .inl (cI, 300, .inl (fun _ => 0)))] := hD
  refine lv_aload_n hx hb dX0_init_43 rfl (lv_at hl 0 rfl) ?_
  refine lv_iconst (v := 0) hx hb dX0_init_44 (by decide) ?_
  refine va_put (D := (dC, dI)) (ci := 0) (v := .int 0) (ty := .int) (C := RX0) (T := TX0) (N := 8) hx hb hts (by decide +kernel) tyX0 tyX0_ok nmX0 hown hK hP hD hS 0 rfl rfl 6 (by decide) (hts (.fieldLink RX0 36 "DeltaCodec$Decoder" "n" "I") (by decide +kernel)) (fun _ h9 => h9) rfl (by decide +kernel) rfl rfl (Nat.le_of_ble_eq_true rfl) dX0_init_45 (fun H locs hP hD hS => ?_)
  have hP : va_P (dC, dI) vwCl [(h0, .inr (0, [.ref q_74, .int 0, .int 0, .int 0, .int (-1), .int 0, .int 0, .int 0])), (q_74, .inr (3, [.ref u_76, .int 0])), (u_76, .inl (cI, 300, .inl (fun _ => 0)))] H := hP
  have hD : va_D A [(h0, .inr (0, [.ref q_74, .int 0, .int 0, .int 0, .int (-1), .int 0, .int 0, .int 0])), (q_74, .inr (3, [.ref u_76, .int 0])), (u_76, .inl (cI, 300, .inl (fun _ => 0)))] := hD
  refine lv_aload_n hx hb dX0_init_48 rfl (lv_at hl 0 rfl) ?_
  refine lv_iconst (v := 0) hx hb dX0_init_49 (by decide) ?_
  refine va_put (D := (dC, dI)) (ci := 0) (v := .int 0) (ty := .int) (C := RX0) (T := TX0) (N := 8) hx hb hts (by decide +kernel) tyX0 tyX0_ok nmX0 hown hK hP hD hS 0 rfl rfl 7 (by decide) (hts (.fieldLink RX0 39 "DeltaCodec$Decoder" "operand" "I") (by decide +kernel)) (fun _ h9 => h9) rfl (by decide +kernel) rfl rfl (Nat.le_of_ble_eq_true rfl) dX0_init_50 (fun H locs hP hD hS => ?_)
  have hP : va_P (dC, dI) vwCl [(h0, .inr (0, [.ref q_74, .int 0, .int 0, .int 0, .int (-1), .int 0, .int 0, .int 0])), (q_74, .inr (3, [.ref u_76, .int 0])), (u_76, .inl (cI, 300, .inl (fun _ => 0)))] H := hP
  have hD : va_D A [(h0, .inr (0, [.ref q_74, .int 0, .int 0, .int 0, .int (-1), .int 0, .int 0, .int 0])), (q_74, .inr (3, [.ref u_76, .int 0])), (u_76, .inl (cI, 300, .inl (fun _ => 0)))] := hD
  have hP9 := hP.sub (ws' := [(h0, .inr (0, [.ref q_74, .int 0, .int 0, .int 0, .int (-1), .int 0, .int 0, .int 0])), (q_74, .inr (3, [.ref u_76, .int 0])), (u_76, .inl (cI, 300, .inl (fun _ => 0)))]) [0, 1, 2] rfl
  have hD9 := hD.sub (ws' := [(h0, .inr (0, [.ref q_74, .int 0, .int 0, .int 0, .int (-1), .int 0, .int 0, .int 0])), (q_74, .inr (3, [.ref u_76, .int 0])), (u_76, .inl (cI, 300, .inl (fun _ => 0)))]) [0, 1, 2] (by decide) rfl
  exact W.vret hx hb hr (fun t ht hW => ⟨⟨(q_74, u_76), rfl, trivial, ⟨by rw [ht]; exact hP9, hD9⟩⟩, hS.F ht⟩) hS.2.2 dX0_init_53
