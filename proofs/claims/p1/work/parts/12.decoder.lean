set_option maxHeartbeats 4000000 in
set_option maxRecDepth 100000 in
theorem c_X0_init (l : Launch) (dC : Nat → ClassId) (dI : Nat → Nat → Nat) (cI : ClassId) (h0 : Nat) (sz : Nat) : Met l yX0_init wsX0_init ({ frames := 2, cells := 2, slots := 302, locals := 42 }) (va_Pc [.ref h0] (fun U => U.heap.size = sz ∧ va_P (dC, dI) vwCl [(h0, .inr (0, [.null, .int 0, .int 0, .int 0, .int 0, .int 0, .int 0, .int 0]))] U.heap ∧ va_K (dC, dI) vwCl [(cI, .int)] U ∧ va_D (fun _ => True) [(h0, .inr (0, [.null, .int 0, .int 0, .int 0, .int 0, .int 0, .int 0, .int 0]))])) (va_Qv (fun _ : Nat × Nat => True) (fun u t => match u with | (r1, b1) => va_P (dC, dI) vwCl [(h0, .inr (0, [.ref r1, .int 0, .int 0, .int 0, .int (-1), .int 0, .int 0, .int 0])), (r1, .inr (3, [.ref b1, .int 0])), (b1, .inl (cI, 300, .inl (fun _ => 0)))] t.heap ∧ va_D (va_A [(h0, .inr (0, [.null, .int 0, .int 0, .int 0, .int 0, .int 0, .int 0, .int 0]))] sz) [(h0, .inr (0, [.ref r1, .int 0, .int 0, .int 0, .int (-1), .int 0, .int 0, .int 0])), (r1, .inr (3, [.ref b1, .int 0])), (b1, .inl (cI, 300, .inl (fun _ => 0)))]) (va_A [(h0, .inr (0, [.null, .int 0, .int 0, .int 0, .int 0, .int 0, .int 0, .int 0]))] sz)) 2 302 (va_A [(h0, .inr (0, [.null, .int 0, .int 0, .int 0, .int 0, .int 0, .int 0, .int 0]))] sz) := by
  refine Met.ofW (cc := cX0_init) (maxL := 1) (ret := none) (by decide) rfl ?_
  intro p e s m args below meth c s₁ B hml hv
  obtain ⟨rfl, hsz, hP, hK, hD0⟩ := hv
  have hx := B.exec
  have hb := B.bytes
  have hr := B.returns
  have hts := atoms_spec (ws := wsX0_init) B.pre
  have hown : s.vm.findClass RX0 = some m.cls := findClass_of_methodNamed B.named
  have hlocks := B.notSynchronized
  have hin : meth.name = "<init>" := (name_of_methodNamed B.named B.method).1
  subst hsz
  have hD := hD0.self (sz := s.heap.size)
  generalize hAe : va_A [(h0, .inr (0, [.null, .int 0, .int 0, .int 0, .int 0, .int 0, .int 0, .int 0]))] s.heap.size = A at hD ⊢
  have hA : ∀ q : Nat, s.heap.size ≤ q → A q := fun q h => by rw [← hAe]; exact Or.inr h
  have hS : va_S A s.heap s.heap [] := va_S.rf
  have hP : va_P (dC, dI) vwCl [(h0, .inr (0, [.null, .int 0, .int 0, .int 0, .int 0, .int 0, .int 0, .int 0]))] s.heap := hP
  have hl := lv_entry ([.ref h0]) (n := 1) (Nat.le_of_ble_eq_true rfl)
  rw [lg_entry_eq]
  generalize (lg_sl ([.ref h0]) ++ List.replicate (1 - (lg_sl ([.ref h0])).length) Slot.unset).toArray = ls at hl ⊢
  have hl : lv_has ls 1 [(0, .ref h0)] := hl
  refine lv_aload_n hx hb dX0_init_0 rfl (lv_at hl 0 rfl) ?_
  refine W.objInit hx hb hown (hts (.methodLink RX0 3 objectInit) (by decide +kernel)) (hts (.instanceMethod objectInit) (by decide +kernel)) (hts (.code objectInit ⟨#[0xb1]⟩ 1 none) (by decide +kernel)) rfl (by rw [hml]; exact hl.1) rfl dX0_init_1 (Nat.le_of_ble_eq_true rfl) (Nat.le_of_ble_eq_true rfl) ?_
  refine W.eq (g2 := F0 m 4 ls []) rfl ?_
  refine lv_aload_n hx hb dX0_init_4 rfl (lv_at hl 0 rfl) ?_
  refine va_new (ci := 3) (fs := [.null, .int 0]) (C := RX3) (T := TX3) (N := 2) hx hb hts (by decide +kernel) tyX3 tyX3_ok hown (hts (.classLink RX0 9 RX3) (by decide +kernel)) (hts (.instantiable RX3 2) (by decide +kernel)) (hts (.initialized RX3) (by decide +kernel)) hK hP hD hS hA rfl (fun j hj => by rcases (show j = 0 ∨ j = 1 by omega) with rfl | rfl <;> rfl) (Nat.le_of_ble_eq_true rfl) (Nat.le_of_ble_eq_true rfl) dX0_init_5 (fun q_74 H hP hD hS => ?_)
  have hP : va_P (dC, dI) vwCl [(h0, .inr (0, [.null, .int 0, .int 0, .int 0, .int 0, .int 0, .int 0, .int 0])), (q_74, .inr (3, [.null, .int 0]))] H := hP
  have hD : va_D A [(h0, .inr (0, [.null, .int 0, .int 0, .int 0, .int 0, .int 0, .int 0, .int 0])), (q_74, .inr (3, [.null, .int 0]))] := hD
  refine W.widen (k := 1) (n := 2) (by omega) (by omega) ?_
  refine lv_dup hx hb dX0_init_8 rfl ?_
  refine lv_sipush (v := 300) hx hb dX0_init_9 (by decide) ?_
  have hPc := hP.sub (ws' := [(q_74, .inr (3, [.null, .int 0]))]) [1] rfl
  have hDc := hD.sub (ws' := [(q_74, .inr (3, [.null, .int 0]))]) [1] (by decide) rfl
  have hFc := va_free (wc := [(q_74, .inr (3, [.null, .int 0]))]) hD hS hA [1] rfl
  have hKc := hK.sub (tys' := [(cI, .int)]) [0] rfl
  refine va_callv (va_runI (As := [.int 300]) (rest := [.ref q_74, .ref h0]) ⟨hx, hb, hml, hown, hts⟩ (c_X3_init l dC dI cI q_74 300 300 H.size (by decide) (by decide) (by decide)) (cwI 1 hts gX0_init_X3_init rfl rfl rfl (hts (.initialized RX3) (by decide +kernel)) (hts (.methodLink RX0 11 yX3_init) (by decide +kernel)) (hts (.instanceMethod yX3_init) (by decide +kernel)) rfl (by decide +kernel) ⟨Nat.le_of_ble_eq_true rfl, Nat.le_of_ble_eq_true rfl⟩) ⟨fun a U g mk q => by obtain ⟨q0, q1, qP, qK, qD⟩ := q; exact ⟨q0, q1, qP, va_K.moved (u := U) (U := U.calling g mk a) (Vm.Alike.refl U.vm) qK, qD⟩, fun U hU hW => ⟨rfl, by rw [hU], by rw [hU]; exact hPc, va_K.moved hW.alike hKc, zz_D hDc⟩⟩ rfl rfl hl.1 rfl (lv_room (Nat.le_of_ble_eq_true rfl)) dX0_init_12 ⟨(Nat.le_of_ble_eq_true rfl), (Nat.le_of_ble_eq_true rfl)⟩) hS (fun q _ h => hFc q h) hFc (fun u_76 t H1 locs ht hvm hw hB hz1 hk1 hS1 => ?_)
  obtain ⟨hP1, hD1⟩ := hB
  rw [ht] at hP1
  obtain ⟨hP, hD⟩ := va_join (wr := [(h0, .inr (0, [.null, .int 0, .int 0, .int 0, .int 0, .int 0, .int 0, .int 0]))]) (w1 := [(q_74, .inr (3, [.ref u_76, .int 0])), (u_76, .inl (cI, 300, .inl (fun _ => 0)))]) hP hD [1] [0] rfl rfl (by decide) (by decide) hk1 hFc hP1 hD1
  have hS := hS1
  clear hS1
  generalize H1 = H at hP hS ht ⊢
  have hP : va_P (dC, dI) vwCl [(h0, .inr (0, [.null, .int 0, .int 0, .int 0, .int 0, .int 0, .int 0, .int 0])), (q_74, .inr (3, [.ref u_76, .int 0])), (u_76, .inl (cI, 300, .inl (fun _ => 0)))] H := hP
  have hD : va_D A [(h0, .inr (0, [.null, .int 0, .int 0, .int 0, .int 0, .int 0, .int 0, .int 0])), (q_74, .inr (3, [.ref u_76, .int 0])), (u_76, .inl (cI, 300, .inl (fun _ => 0)))] := hD
  refine W.widen (k := 2) (n := 302) (by omega) (by omega) ?_
  have w12 := hw
  refine va_putF (D := (dC, dI)) (ci := 0) (v := .ref q_74) (ty := (.object "DeltaCodec$Row")) (C := RX0) (T := TX0) (N := 8) hx hb hts (by decide +kernel) tyX0 tyX0_ok nmX0 hown hK hP hD hS 0 rfl rfl 0 (by decide) (hts (.fieldLink RX0 14 "DeltaCodec$Decoder" "product" "LDeltaCodec$Row;") (by decide +kernel)) (fun _ h9 => h9) rfl hin rfl (by decide +kernel) rfl rfl (Nat.le_of_ble_eq_true rfl) dX0_init_15 (fun H locs hP hD hS => ?_)
  have hP : va_P (dC, dI) vwCl [(h0, .inr (0, [.ref q_74, .int 0, .int 0, .int 0, .int 0, .int 0, .int 0, .int 0])), (q_74, .inr (3, [.ref u_76, .int 0])), (u_76, .inl (cI, 300, .inl (fun _ => 0)))] H := hP
  have hD : va_D A [(h0, .inr (0, [.ref q_74, .int 0, .int 0, .int 0, .int 0, .int 0, .int 0, .int 0])), (q_74, .inr (3, [.ref u_76, .int 0])), (u_76, .inl (cI, 300, .inl (fun _ => 0)))] := hD
  refine lv_aload_n hx hb dX0_init_18 rfl (lv_at hl 0 rfl) ?_
  refine lv_iconst (v := 0) hx hb dX0_init_19 (by decide) ?_
  refine va_put (D := (dC, dI)) (ci := 0) (v := .int 0) (ty := .int) (C := RX0) (T := TX0) (N := 8) hx hb hts (by decide +kernel) tyX0 tyX0_ok nmX0 hown hK hP hD hS 0 rfl rfl 1 (by decide) (hts (.fieldLink RX0 20 "DeltaCodec$Decoder" "position" "I") (by decide +kernel)) (fun _ h9 => h9) rfl (by decide +kernel) rfl rfl (Nat.le_of_ble_eq_true rfl) dX0_init_20 (fun H locs hP hD hS => ?_)
  have hP : va_P (dC, dI) vwCl [(h0, .inr (0, [.ref q_74, .int 0, .int 0, .int 0, .int 0, .int 0, .int 0, .int 0])), (q_74, .inr (3, [.ref u_76, .int 0])), (u_76, .inl (cI, 300, .inl (fun _ => 0)))] H := hP
  have hD : va_D A [(h0, .inr (0, [.ref q_74, .int 0, .int 0, .int 0, .int 0, .int 0, .int 0, .int 0])), (q_74, .inr (3, [.ref u_76, .int 0])), (u_76, .inl (cI, 300, .inl (fun _ => 0)))] := hD
  refine lv_aload_n hx hb dX0_init_23 rfl (lv_at hl 0 rfl) ?_
  refine lv_iconst (v := 0) hx hb dX0_init_24 (by decide) ?_
  refine va_put (D := (dC, dI)) (ci := 0) (v := .int 0) (ty := .int) (C := RX0) (T := TX0) (N := 8) hx hb hts (by decide +kernel) tyX0 tyX0_ok nmX0 hown hK hP hD hS 0 rfl rfl 2 (by decide) (hts (.fieldLink RX0 24 "DeltaCodec$Decoder" "limit" "I") (by decide +kernel)) (fun _ h9 => h9) rfl (by decide +kernel) rfl rfl (Nat.le_of_ble_eq_true rfl) dX0_init_25 (fun H locs hP hD hS => ?_)
  have hP : va_P (dC, dI) vwCl [(h0, .inr (0, [.ref q_74, .int 0, .int 0, .int 0, .int 0, .int 0, .int 0, .int 0])), (q_74, .inr (3, [.ref u_76, .int 0])), (u_76, .inl (cI, 300, .inl (fun _ => 0)))] H := hP
  have hD : va_D A [(h0, .inr (0, [.ref q_74, .int 0, .int 0, .int 0, .int 0, .int 0, .int 0, .int 0])), (q_74, .inr (3, [.ref u_76, .int 0])), (u_76, .inl (cI, 300, .inl (fun _ => 0)))] := hD
  refine lv_aload_n hx hb dX0_init_28 rfl (lv_at hl 0 rfl) ?_
  refine lv_iconst (v := 0) hx hb dX0_init_29 (by decide) ?_
  refine va_put (D := (dC, dI)) (ci := 0) (v := .int 0) (ty := .int) (C := RX0) (T := TX0) (N := 8) hx hb hts (by decide +kernel) tyX0 tyX0_ok nmX0 hown hK hP hD hS 0 rfl rfl 3 (by decide) (hts (.fieldLink RX0 27 "DeltaCodec$Decoder" "error" "I") (by decide +kernel)) (fun _ h9 => h9) rfl (by decide +kernel) rfl rfl (Nat.le_of_ble_eq_true rfl) dX0_init_30 (fun H locs hP hD hS => ?_)
  have hP : va_P (dC, dI) vwCl [(h0, .inr (0, [.ref q_74, .int 0, .int 0, .int 0, .int 0, .int 0, .int 0, .int 0])), (q_74, .inr (3, [.ref u_76, .int 0])), (u_76, .inl (cI, 300, .inl (fun _ => 0)))] H := hP
  have hD : va_D A [(h0, .inr (0, [.ref q_74, .int 0, .int 0, .int 0, .int 0, .int 0, .int 0, .int 0])), (q_74, .inr (3, [.ref u_76, .int 0])), (u_76, .inl (cI, 300, .inl (fun _ => 0)))] := hD
  refine lv_aload_n hx hb dX0_init_33 rfl (lv_at hl 0 rfl) ?_
  refine lv_iconst (v := (-1)) hx hb dX0_init_34 (by decide) ?_
  refine va_put (D := (dC, dI)) (ci := 0) (v := .int (-1)) (ty := .int) (C := RX0) (T := TX0) (N := 8) hx hb hts (by decide +kernel) tyX0 tyX0_ok nmX0 hown hK hP hD hS 0 rfl rfl 4 (by decide) (hts (.fieldLink RX0 30 "DeltaCodec$Decoder" "errorAt" "I") (by decide +kernel)) (fun _ h9 => h9) rfl (by decide +kernel) rfl rfl (Nat.le_of_ble_eq_true rfl) dX0_init_35 (fun H locs hP hD hS => ?_)
  have hP : va_P (dC, dI) vwCl [(h0, .inr (0, [.ref q_74, .int 0, .int 0, .int 0, .int (-1), .int 0, .int 0, .int 0])), (q_74, .inr (3, [.ref u_76, .int 0])), (u_76, .inl (cI, 300, .inl (fun _ => 0)))] H := hP
  have hD : va_D A [(h0, .inr (0, [.ref q_74, .int 0, .int 0, .int 0, .int (-1), .int 0, .int 0, .int 0])), (q_74, .inr (3, [.ref u_76, .int 0])), (u_76, .inl (cI, 300, .inl (fun _ => 0)))] := hD
  refine lv_aload_n hx hb dX0_init_38 rfl (lv_at hl 0 rfl) ?_
  refine lv_iconst (v := 0) hx hb dX0_init_39 (by decide) ?_
  refine va_put (D := (dC, dI)) (ci := 0) (v := .int 0) (ty := .int) (C := RX0) (T := TX0) (N := 8) hx hb hts (by decide +kernel) tyX0 tyX0_ok nmX0 hown hK hP hD hS 0 rfl rfl 5 (by decide) (hts (.fieldLink RX0 33 "DeltaCodec$Decoder" "kind" "I") (by decide +kernel)) (fun _ h9 => h9) rfl (by decide +kernel) rfl rfl (Nat.le_of_ble_eq_true rfl) dX0_init_40 (fun H locs hP hD hS => ?_)
  have hP : va_P (dC, dI) vwCl [(h0, .inr (0, [.ref q_74, .int 0, .int 0, .int 0, .int (-1), .int 0, .int 0, .int 0])), (q_74, .inr (3, [.ref u_76, .int 0])), (u_76, .inl (cI, 300, .inl (fun _ => 0)))] H := hP
  have hD : va_D A [(h0, .inr (0, [.ref q_74, .int 0, .int 0, .int 0, .int (-1), .int 0, .int 0, .int 0])), (q_74, .inr (3, [.ref u_76, .int 0])), (u_76, .inl (cI, 300, .inl (fun _ => 0)))] := hD
  refine lv_aload_n hx hb dX0_init_43 rfl (lv_at hl 0 rfl) ?_
  refine lv_iconst (v := 0) hx hb dX0_init_44 (by decide) ?_
  refine va_put (D := (dC, dI)) (ci := 0) (v := .int 0) (ty := .int) (C := RX0) (T := TX0) (N := 8) hx hb hts (by decide +kernel) tyX0 tyX0_ok nmX0 hown hK hP hD hS 0 rfl rfl 6 (by decide) (hts (.fieldLink RX0 36 "DeltaCodec$Decoder" "n" "I") (by decide +kernel)) (fun _ h9 => h9) rfl (by decide +kernel) rfl rfl (Nat.le_of_ble_eq_true rfl) dX0_init_45 (fun H locs hP hD hS => ?_)
  have hP : va_P (dC, dI) vwCl [(h0, .inr (0, [.ref q_74, .int 0, .int 0, .int 0, .int (-1), .int 0, .int 0, .int 0])), (q_74, .inr (3, [.ref u_76, .int 0])), (u_76, .inl (cI, 300, .inl (fun _ => 0)))] H := hP
  have hD : va_D A [(h0, .inr (0, [.ref q_74, .int 0, .int 0, .int 0, .int (-1), .int 0, .int 0, .int 0])), (q_74, .inr (3, [.ref u_76, .int 0])), (u_76, .inl (cI, 300, .inl (fun _ => 0)))] := hD
  refine lv_aload_n hx hb dX0_init_48 rfl (lv_at hl 0 rfl) ?_
  refine lv_iconst (v := 0) hx hb dX0_init_49 (by decide) ?_
  refine va_put (D := (dC, dI)) (ci := 0) (v := .int 0) (ty := .int) (C := RX0) (T := TX0) (N := 8) hx hb hts (by decide +kernel) tyX0 tyX0_ok nmX0 hown hK hP hD hS 0 rfl rfl 7 (by decide) (hts (.fieldLink RX0 39 "DeltaCodec$Decoder" "operand" "I") (by decide +kernel)) (fun _ h9 => h9) rfl (by decide +kernel) rfl rfl (Nat.le_of_ble_eq_true rfl) dX0_init_50 (fun H locs hP hD hS => ?_)
  have hP : va_P (dC, dI) vwCl [(h0, .inr (0, [.ref q_74, .int 0, .int 0, .int 0, .int (-1), .int 0, .int 0, .int 0])), (q_74, .inr (3, [.ref u_76, .int 0])), (u_76, .inl (cI, 300, .inl (fun _ => 0)))] H := hP
  have hD : va_D A [(h0, .inr (0, [.ref q_74, .int 0, .int 0, .int 0, .int (-1), .int 0, .int 0, .int 0])), (q_74, .inr (3, [.ref u_76, .int 0])), (u_76, .inl (cI, 300, .inl (fun _ => 0)))] := hD
  have hP9 := hP.sub (ws' := [(h0, .inr (0, [.ref q_74, .int 0, .int 0, .int 0, .int (-1), .int 0, .int 0, .int 0])), (q_74, .inr (3, [.ref u_76, .int 0])), (u_76, .inl (cI, 300, .inl (fun _ => 0)))]) [0, 1, 2] rfl
  have hD9 := hD.sub (ws' := [(h0, .inr (0, [.ref q_74, .int 0, .int 0, .int 0, .int (-1), .int 0, .int 0, .int 0])), (q_74, .inr (3, [.ref u_76, .int 0])), (u_76, .inl (cI, 300, .inl (fun _ => 0)))]) [0, 1, 2] (by decide) rfl
  exact W.vret hx hb hr (fun t ht hW => ⟨⟨(q_74, u_76), rfl, trivial, ⟨by rw [ht]; exact hP9, hD9⟩⟩, hS.F ht⟩) hS.2.2 dX0_init_53
set_option maxHeartbeats 4000000 in
set_option maxRecDepth 100000 in
theorem c_X0_product (l : Launch) (dC : Nat → ClassId) (dI : Nat → Nat → Nat) (h0 : Nat) (pr : Nat) (v1 : Int32) (v2 : Int32) (v3 : Int32) (v4 : Int32) (v5 : Int32) (v6 : Int32) (v7 : Int32) (sz : Nat) : Met l yX0_product wsX0_product ({ frames := 0, cells := 0, slots := 0, locals := 0 }) (va_Pc [.ref h0] (fun U => U.heap.size = sz ∧ va_P (dC, dI) vwCl [(h0, .inr (0, [.ref pr, .int v1, .int v2, .int v3, .int v4, .int v5, .int v6, .int v7]))] U.heap ∧ va_K (dC, dI) vwCl [] U ∧ va_D (fun _ => True) [(h0, .inr (0, [.ref pr, .int v1, .int v2, .int v3, .int v4, .int v5, .int v6, .int v7]))])) (va_Qr (fun _ : Unit => True) (fun _ ra9 t => ra9 = pr) (fun q : Nat => sz ≤ q)) 0 0 (fun q : Nat => sz ≤ q) := by
  refine Met.ofW (cc := cX0_product) (maxL := 1) (ret := (some (.object "DeltaCodec$Row"))) (by decide) rfl ?_
  intro p e s m args below meth c s₁ B hml hv
  obtain ⟨rfl, hsz, hP, hK, hD0⟩ := hv
  have hx := B.exec
  have hb := B.bytes
  have hr := B.returns
  have hts := atoms_spec (ws := wsX0_product) B.pre
  have hown : s.vm.findClass RX0 = some m.cls := findClass_of_methodNamed B.named
  have hlocks := B.notSynchronized
  subst hsz
  generalize hAe : (fun q : Nat => s.heap.size ≤ q) = A
  have hA : ∀ q : Nat, s.heap.size ≤ q → A q := fun q h => by rw [← hAe]; exact h
  have hS : va_S A s.heap s.heap [] := va_S.rf
  have hP : va_P (dC, dI) vwCl [(h0, .inr (0, [.ref pr, .int v1, .int v2, .int v3, .int v4, .int v5, .int v6, .int v7]))] s.heap := hP
  have hl := lv_entry ([.ref h0]) (n := 1) (Nat.le_of_ble_eq_true rfl)
  rw [lg_entry_eq]
  generalize (lg_sl ([.ref h0]) ++ List.replicate (1 - (lg_sl ([.ref h0])).length) Slot.unset).toArray = ls at hl ⊢
  have hl : lv_has ls 1 [(0, .ref h0)] := hl
  refine lv_aload_n hx hb dX0_product_0 rfl (lv_at hl 0 rfl) ?_
  refine va_get (D := (dC, dI)) (ci := 0) (v := .ref pr) (C := RX0) (T := TX0) (N := 8) hx hb hts (by decide +kernel) hown hK hP 0 rfl rfl 0 (by decide) (hts (.fieldLink RX0 14 "DeltaCodec$Decoder" "product" "LDeltaCodec$Row;") (by decide +kernel)) (fun _ h9 => h9) rfl dX0_product_1 ?_
  exact W.aret (v := .ref pr) hx hb hr (Or.inl ⟨_, rfl⟩) (Or.inr ⟨_, rfl⟩) (fun t ht hW => ⟨⟨(), pr, rfl, trivial, rfl⟩, hS.F ht⟩) hS.2.2 dX0_product_4
set_option maxHeartbeats 4000000 in
set_option maxRecDepth 100000 in
theorem c_X0_errorAt (l : Launch) (dC : Nat → ClassId) (dI : Nat → Nat → Nat) (h0 : Nat) (pr : Nat) (v1 : Int32) (v2 : Int32) (v3 : Int32) (v4 : Int32) (v5 : Int32) (v6 : Int32) (v7 : Int32) (sz : Nat) : Met l yX0_errorAt wsX0_errorAt ({ frames := 0, cells := 0, slots := 0, locals := 0 }) (va_Pc [.ref h0] (fun U => U.heap.size = sz ∧ va_P (dC, dI) vwCl [(h0, .inr (0, [.ref pr, .int v1, .int v2, .int v3, .int v4, .int v5, .int v6, .int v7]))] U.heap ∧ va_K (dC, dI) vwCl [] U ∧ va_D (fun _ => True) [(h0, .inr (0, [.ref pr, .int v1, .int v2, .int v3, .int v4, .int v5, .int v6, .int v7]))])) (va_Qi (fun (r : Int32) (_ : Unit) => r = v4) (fun _ _ => True) (fun q : Nat => sz ≤ q)) 0 0 (fun q : Nat => sz ≤ q) := by
  refine Met.ofW (cc := cX0_errorAt) (maxL := 1) (ret := (some .int)) (by decide) rfl ?_
  intro p e s m args below meth c s₁ B hml hv
  obtain ⟨rfl, hsz, hP, hK, hD0⟩ := hv
  have hx := B.exec
  have hb := B.bytes
  have hr := B.returns
  have hts := atoms_spec (ws := wsX0_errorAt) B.pre
  have hown : s.vm.findClass RX0 = some m.cls := findClass_of_methodNamed B.named
  have hlocks := B.notSynchronized
  subst hsz
  generalize hAe : (fun q : Nat => s.heap.size ≤ q) = A
  have hA : ∀ q : Nat, s.heap.size ≤ q → A q := fun q h => by rw [← hAe]; exact h
  have hS : va_S A s.heap s.heap [] := va_S.rf
  have hP : va_P (dC, dI) vwCl [(h0, .inr (0, [.ref pr, .int v1, .int v2, .int v3, .int v4, .int v5, .int v6, .int v7]))] s.heap := hP
  have hl := lv_entry ([.ref h0]) (n := 1) (Nat.le_of_ble_eq_true rfl)
  rw [lg_entry_eq]
  generalize (lg_sl ([.ref h0]) ++ List.replicate (1 - (lg_sl ([.ref h0])).length) Slot.unset).toArray = ls at hl ⊢
  have hl : lv_has ls 1 [(0, .ref h0)] := hl
  refine lv_aload_n hx hb dX0_errorAt_0 rfl (lv_at hl 0 rfl) ?_
  refine va_get (D := (dC, dI)) (ci := 0) (v := .int v4) (C := RX0) (T := TX0) (N := 8) hx hb hts (by decide +kernel) hown hK hP 0 rfl rfl 4 (by decide) (hts (.fieldLink RX0 30 "DeltaCodec$Decoder" "errorAt" "I") (by decide +kernel)) (fun _ h9 => h9) rfl dX0_errorAt_1 ?_
  exact W.iret (v := v4) hx hb hr (fun t ht hW => ⟨⟨v4, (), rfl, rfl, trivial⟩, hS.F ht⟩) hS.2.2 dX0_errorAt_4
set_option maxHeartbeats 4000000 in
set_option maxRecDepth 100000 in
theorem c_X0_tell (l : Launch) (dC : Nat → ClassId) (dI : Nat → Nat → Nat) (h0 : Nat) (pr : Nat) (v1 : Int32) (v2 : Int32) (v4 : Int32) (v5 : Int32) (v6 : Int32) (v7 : Int32) (p0 : Int32) (p1 : Int32) (sz : Nat) : Met l yX0_tell wsX0_tell ({ frames := 0, cells := 0, slots := 0, locals := 0 }) (va_Pc [.ref h0, .int p0, .int p1] (fun U => U.heap.size = sz ∧ va_P (dC, dI) vwCl [(h0, .inr (0, [.ref pr, .int v1, .int v2, .int 0, .int v4, .int v5, .int v6, .int v7]))] U.heap ∧ va_K (dC, dI) vwCl [] U ∧ va_D (fun _ => True) [(h0, .inr (0, [.ref pr, .int v1, .int v2, .int 0, .int v4, .int v5, .int v6, .int v7]))])) (va_Qv (fun _ : Unit => True) (fun _ t => va_P (dC, dI) vwCl [(h0, .inr (0, [.ref pr, .int v1, .int v2, .int p0, .int p1, .int v5, .int v6, .int v7]))] t.heap ∧ va_D (va_A [(h0, .inr (0, [.ref pr, .int v1, .int v2, .int 0, .int v4, .int v5, .int v6, .int v7]))] sz) [(h0, .inr (0, [.ref pr, .int v1, .int v2, .int p0, .int p1, .int v5, .int v6, .int v7]))]) (va_A [(h0, .inr (0, [.ref pr, .int v1, .int v2, .int 0, .int v4, .int v5, .int v6, .int v7]))] sz)) 0 0 (va_A [(h0, .inr (0, [.ref pr, .int v1, .int v2, .int 0, .int v4, .int v5, .int v6, .int v7]))] sz) := by
  refine Met.ofW (cc := cX0_tell) (maxL := 3) (ret := none) (by decide) rfl ?_
  intro p e s m args below meth c s₁ B hml hv
  obtain ⟨rfl, hsz, hP, hK, hD0⟩ := hv
  have hx := B.exec
  have hb := B.bytes
  have hr := B.returns
  have hts := atoms_spec (ws := wsX0_tell) B.pre
  have hown : s.vm.findClass RX0 = some m.cls := findClass_of_methodNamed B.named
  have hlocks := B.notSynchronized
  subst hsz
  have hD := hD0.self (sz := s.heap.size)
  generalize hAe : va_A [(h0, .inr (0, [.ref pr, .int v1, .int v2, .int 0, .int v4, .int v5, .int v6, .int v7]))] s.heap.size = A at hD ⊢
  have hA : ∀ q : Nat, s.heap.size ≤ q → A q := fun q h => by rw [← hAe]; exact Or.inr h
  have hS : va_S A s.heap s.heap [] := va_S.rf
  have hP : va_P (dC, dI) vwCl [(h0, .inr (0, [.ref pr, .int v1, .int v2, .int 0, .int v4, .int v5, .int v6, .int v7]))] s.heap := hP
  have hl := lv_entry ([.ref h0, .int p0, .int p1]) (n := 3) (Nat.le_of_ble_eq_true rfl)
  rw [lg_entry_eq]
  generalize (lg_sl ([.ref h0, .int p0, .int p1]) ++ List.replicate (3 - (lg_sl ([.ref h0, .int p0, .int p1])).length) Slot.unset).toArray = ls at hl ⊢
  have hl : lv_has ls 3 [(0, .ref h0), (1, .int p0), (2, .int p1)] := hl
  refine lv_aload_n hx hb dX0_tell_0 rfl (lv_at hl 0 rfl) ?_
  refine va_get (D := (dC, dI)) (ci := 0) (v := .int 0) (C := RX0) (T := TX0) (N := 8) hx hb hts (by decide +kernel) hown hK hP 0 rfl rfl 3 (by decide) (hts (.fieldLink RX0 27 "DeltaCodec$Decoder" "error" "I") (by decide +kernel)) (fun _ h9 => h9) rfl dX0_tell_1 ?_
  refine lv_if_ne (tgt := 17) hx hb dX0_tell_4 (by decide) (fun h => absurd h (by decide)) (fun c4 => ?_)
  refine lv_aload_n hx hb dX0_tell_7 rfl (lv_at hl 0 rfl) ?_
  refine lv_iload_n hx hb dX0_tell_8 rfl (lv_at hl 1 rfl) ?_
  refine va_put (D := (dC, dI)) (ci := 0) (v := .int p0) (ty := .int) (C := RX0) (T := TX0) (N := 8) hx hb hts (by decide +kernel) tyX0 tyX0_ok nmX0 hown hK hP hD hS 0 rfl rfl 3 (by decide) (hts (.fieldLink RX0 27 "DeltaCodec$Decoder" "error" "I") (by decide +kernel)) (fun _ h9 => h9) rfl (by decide +kernel) rfl rfl (Nat.le_of_ble_eq_true rfl) dX0_tell_9 (fun H locs hP hD hS => ?_)
  have hP : va_P (dC, dI) vwCl [(h0, .inr (0, [.ref pr, .int v1, .int v2, .int p0, .int v4, .int v5, .int v6, .int v7]))] H := hP
  have hD : va_D A [(h0, .inr (0, [.ref pr, .int v1, .int v2, .int p0, .int v4, .int v5, .int v6, .int v7]))] := hD
  refine lv_aload_n hx hb dX0_tell_12 rfl (lv_at hl 0 rfl) ?_
  refine lv_iload_n hx hb dX0_tell_13 rfl (lv_at hl 2 rfl) ?_
  refine va_put (D := (dC, dI)) (ci := 0) (v := .int p1) (ty := .int) (C := RX0) (T := TX0) (N := 8) hx hb hts (by decide +kernel) tyX0 tyX0_ok nmX0 hown hK hP hD hS 0 rfl rfl 4 (by decide) (hts (.fieldLink RX0 30 "DeltaCodec$Decoder" "errorAt" "I") (by decide +kernel)) (fun _ h9 => h9) rfl (by decide +kernel) rfl rfl (Nat.le_of_ble_eq_true rfl) dX0_tell_14 (fun H locs hP hD hS => ?_)
  have hP : va_P (dC, dI) vwCl [(h0, .inr (0, [.ref pr, .int v1, .int v2, .int p0, .int p1, .int v5, .int v6, .int v7]))] H := hP
  have hD : va_D A [(h0, .inr (0, [.ref pr, .int v1, .int v2, .int p0, .int p1, .int v5, .int v6, .int v7]))] := hD
  have hP9 := hP.sub (ws' := [(h0, .inr (0, [.ref pr, .int v1, .int v2, .int p0, .int p1, .int v5, .int v6, .int v7]))]) [0] rfl
  have hD9 := hD.sub (ws' := [(h0, .inr (0, [.ref pr, .int v1, .int v2, .int p0, .int p1, .int v5, .int v6, .int v7]))]) [0] (by decide) rfl
  exact W.vret hx hb hr (fun t ht hW => ⟨⟨(), rfl, trivial, ⟨by rw [ht]; exact hP9, hD9⟩⟩, hS.F ht⟩) hS.2.2 dX0_tell_17
set_option maxHeartbeats 4000000 in
set_option maxRecDepth 100000 in
theorem c_X0_judgeCheck (l : Launch) (hfl : l.stackTraces = false) (dC : Nat → ClassId) (dI : Nat → Nat → Nat) (cI : ClassId) (h0 : Nat) (pr : Nat) (v1 : Int32) (v3 : Int32) (v4 : Int32) (v5 : Int32) (v6 : Int32) (v7 : Int32) (pb : Nat) (co : Nat) (cb : Nat) (kn : Nat) (kf : Nat → Int32) (sz : Nat) : Met l yX0_judgeCheck wsX0_judgeCheck ({ frames := 3, cells := 0, slots := 0, locals := 67 }) (va_Pc [.ref h0, .ref co] (fun U => U.heap.size = sz ∧ va_P (dC, dI) vwCl [(h0, .inr (0, [.ref pr, .int v1, .int (-2), .int v3, .int v4, .int v5, .int v6, .int v7])), (pr, .inr (3, [.ref pb, .int 0])), (co, .inr (3, [.ref cb, .int 0])), (cb, .inl (cI, kn, .inl kf))] U.heap ∧ va_K (dC, dI) vwCl [(cI, .int)] U ∧ va_D (fun _ => True) [(h0, .inr (0, [.ref pr, .int v1, .int (-2), .int v3, .int v4, .int v5, .int v6, .int v7])), (pr, .inr (3, [.ref pb, .int 0])), (co, .inr (3, [.ref cb, .int 0])), (cb, .inl (cI, kn, .inl kf))] ∧ zz_X (fun q : Nat => sz ≤ q) U)) (va_Qv (fun _ : Unit => True) (fun _ _ => True) (fun q : Nat => sz ≤ q)) 0 0 (fun q : Nat => sz ≤ q) := by
  refine Met.ofW (cc := cX0_judgeCheck) (maxL := 4) (ret := none) (by decide) rfl ?_
  intro p e s m args below meth c s₁ B hml hv
  obtain ⟨rfl, hsz, hP, hK, hD0, hZ⟩ := hv
  have hx := B.exec
  have hb := B.bytes
  have hr := B.returns
  have hts := atoms_spec (ws := wsX0_judgeCheck) B.pre
  have hown : s.vm.findClass RX0 = some m.cls := findClass_of_methodNamed B.named
  have hlocks := B.notSynchronized
  subst hsz
  generalize hAe : (fun q : Nat => s.heap.size ≤ q) = A at hZ ⊢
  have hA : ∀ q : Nat, s.heap.size ≤ q → A q := fun q h => by rw [← hAe]; exact h
  have hS : va_S A s.heap s.heap [] := va_S.rf
  have hP : va_P (dC, dI) vwCl [(h0, .inr (0, [.ref pr, .int v1, .int (-2), .int v3, .int v4, .int v5, .int v6, .int v7])), (pr, .inr (3, [.ref pb, .int 0])), (co, .inr (3, [.ref cb, .int 0])), (cb, .inl (cI, kn, .inl kf))] s.heap := hP
  have hl := lv_entry ([.ref h0, .ref co]) (n := 4) (Nat.le_of_ble_eq_true rfl)
  rw [lg_entry_eq]
  generalize (lg_sl ([.ref h0, .ref co]) ++ List.replicate (4 - (lg_sl ([.ref h0, .ref co])).length) Slot.unset).toArray = ls at hl ⊢
  have hl : lv_has ls 4 [(0, .ref h0), (1, .ref co)] := hl
  refine lv_aload_n hx hb dX0_judgeCheck_0 rfl (lv_at hl 0 rfl) ?_
  refine va_get (D := (dC, dI)) (ci := 0) (v := .ref pr) (C := RX0) (T := TX0) (N := 8) hx hb hts (by decide +kernel) hown hK hP 0 rfl rfl 0 (by decide) (hts (.fieldLink RX0 14 "DeltaCodec$Decoder" "product" "LDeltaCodec$Row;") (by decide +kernel)) (fun _ h9 => h9) rfl dX0_judgeCheck_1 ?_
  refine lv_iconst (v := 0) hx hb dX0_judgeCheck_4 (by decide) ?_
  refine lv_aload_n hx hb dX0_judgeCheck_5 rfl (lv_at hl 0 rfl) ?_
  refine va_get (D := (dC, dI)) (ci := 0) (v := .ref pr) (C := RX0) (T := TX0) (N := 8) hx hb hts (by decide +kernel) hown hK hP 0 rfl rfl 0 (by decide) (hts (.fieldLink RX0 14 "DeltaCodec$Decoder" "product" "LDeltaCodec$Row;") (by decide +kernel)) (fun _ h9 => h9) rfl dX0_judgeCheck_6 ?_
  have hPc := hP.sub (ws' := [(pr, .inr (3, [.ref pb, .int 0]))]) [1] rfl
  have hFc : ∀ q : Nat, s.heap.size ≤ q → A q := fun q h => hA q (Nat.le_trans hS.1 h)
  have hKc := hK.sub (tys' := []) [] rfl
  refine va_calli (va_runV (As := []) (rest := [.int 0, .ref pr]) ⟨hx, hb, hml, hown, hts⟩ (c_X3_count l dC dI pr pb 0 s.heap.size) (cwV 0 hts gX0_judgeCheck_X3_count rfl rfl rfl (by decide +kernel) ⟨Nat.le_of_ble_eq_true rfl, Nat.le_of_ble_eq_true rfl⟩) ⟨fun a U g mk q => by obtain ⟨q0, q1, qP, qK, qD⟩ := q; exact ⟨q0, q1, qP, va_K.moved (u := U) (U := U.calling g mk a) (Vm.Alike.refl U.vm) qK, qD⟩, va_recv hKc hPc (ci := 3) (q0 := 0) rfl rfl, fun U hU hW => ⟨rfl, by rw [hU], by rw [hU]; exact hPc, va_K.moved hW.alike hKc, hD0.sub (ws' := [(pr, .inr (3, [.ref pb, .int 0]))]) [1] (by decide) rfl⟩⟩ rfl rfl hl.1 rfl (lv_room (Nat.le_of_ble_eq_true rfl)) dX0_judgeCheck_9 ⟨(Nat.le_of_ble_eq_true rfl), (Nat.le_of_ble_eq_true rfl)⟩) hS (fun q h1 h2 => absurd h1 (Nat.not_lt.mpr h2)) hFc (fun r_77 u_78 t H1 locs ht hvm hw hB hz1 hk1 hS1 => ?_)
  have hP := zz_keep hP hk1
  have hS := hS1
  clear hS1
  generalize H1 = H at hP hS ht ⊢
  have hP : va_P (dC, dI) vwCl [(h0, .inr (0, [.ref pr, .int v1, .int (-2), .int v3, .int v4, .int v5, .int v6, .int v7])), (pr, .inr (3, [.ref pb, .int 0])), (co, .inr (3, [.ref cb, .int 0])), (cb, .inl (cI, kn, .inl kf))] H := hP
  obtain rfl : 0 = r_77 := (show r_77 = 0 from hw).symm
  have hPc := hP.sub (ws' := []) [] rfl
  have hFc : ∀ q : Nat, H.size ≤ q → A q := fun q h => hA q (Nat.le_trans hS.1 h)
  have hKc := hK.sub (tys' := []) [] rfl
  refine va_calli (va_runSN (As := [.ref pr, .int 0, .int 0]) (rest := []) ⟨hx, hb, hml, hown, hts⟩ (c_X4_checkOf l dC dI pr H.size) (⟨va_cnB 3 hts gX0_judgeCheck_X4_checkOf_n93 rfl rfl rfl hZ.2.2.2.1 (hts (.initialized RX4) (by decide +kernel)) (by decide +kernel) ⟨Nat.le_of_ble_eq_true rfl, Nat.le_of_ble_eq_true rfl⟩, hts (.static yX4_checkOf) (by decide +kernel), trivial⟩) ⟨fun a U g mk q => by obtain ⟨q0, q1, qP, qK, qD⟩ := q; exact ⟨q0, q1, qP, va_K.moved (u := U) (U := U.calling g mk a) (Vm.Alike.refl U.vm) qK, qD⟩, fun U hU hW => ⟨rfl, by rw [hU], by rw [hU]; exact hPc, va_K.moved hW.alike hKc, hD0.sub (ws' := []) [] (by decide) rfl⟩⟩ rfl rfl hl.1 rfl (lv_room (Nat.le_of_ble_eq_true rfl)) dX0_judgeCheck_12 ⟨(Nat.le_of_ble_eq_true rfl), (Nat.le_of_ble_eq_true rfl)⟩) hS (fun q h1 h2 => absurd h1 (Nat.not_lt.mpr h2)) hFc (fun r_79 u_80 t H1 locs ht hvm hw hB hz1 hk1 hS1 => ?_)
  have hP := zz_keep hP hk1
  have hS := hS1
  clear hS1
  generalize H1 = H at hP hS ht ⊢
  have hP : va_P (dC, dI) vwCl [(h0, .inr (0, [.ref pr, .int v1, .int (-2), .int v3, .int v4, .int v5, .int v6, .int v7])), (pr, .inr (3, [.ref pb, .int 0])), (co, .inr (3, [.ref cb, .int 0])), (cb, .inl (cI, kn, .inl kf))] H := hP
  obtain rfl : 0 = r_79 := (show r_79 = 0 from hw).symm
  refine lv_istore_n (lv' := [(2, .int 0), (0, .ref h0), (1, .ref co)]) hx hb dX0_judgeCheck_15 rfl hl (by decide) rfl (fun ls hl => ?_)
  refine lv_aload_n hx hb dX0_judgeCheck_16 rfl (lv_at hl 2 rfl) ?_
  refine lv_aload_n hx hb dX0_judgeCheck_17 rfl (lv_at hl 1 rfl) ?_
  refine va_get (D := (dC, dI)) (ci := 0) (v := .int (-2)) (C := RX0) (T := TX0) (N := 8) hx hb hts (by decide +kernel) hown hK hP 0 rfl rfl 2 (by decide) (hts (.fieldLink RX0 24 "DeltaCodec$Decoder" "limit" "I") (by decide +kernel)) (fun _ h9 => h9) rfl dX0_judgeCheck_18 ?_
  have hPc := hP.sub (ws' := [(co, .inr (3, [.ref cb, .int 0])), (cb, .inl (cI, kn, .inl kf))]) [2, 3] rfl
  have hFc : ∀ q : Nat, H.size ≤ q → A q := fun q h => hA q (Nat.le_trans hS.1 h)
  have hKc := hK.sub (tys' := [(cI, .int)]) [0] rfl
  refine va_calli (va_runV (As := [.int (-2)]) (rest := []) ⟨hx, hb, hml, hown, hts⟩ (c_X3_at l dC dI cI co cb kn kf (-2) H.size) (cwV 1 hts gX0_judgeCheck_X3_at rfl rfl rfl (by decide +kernel) ⟨Nat.le_of_ble_eq_true rfl, Nat.le_of_ble_eq_true rfl⟩) ⟨fun a U g mk q => by obtain ⟨q0, q1, qP, qK, qD⟩ := q; exact ⟨q0, q1, qP, va_K.moved (u := U) (U := U.calling g mk a) (Vm.Alike.refl U.vm) qK, qD⟩, va_recv hKc hPc (ci := 3) (q0 := 0) rfl rfl, fun U hU hW => ⟨rfl, by rw [hU], by rw [hU]; exact hPc, va_K.moved hW.alike hKc, hD0.sub (ws' := [(co, .inr (3, [.ref cb, .int 0])), (cb, .inl (cI, kn, .inl kf))]) [2, 3] (by decide) rfl⟩⟩ rfl rfl hl.1 rfl (lv_room (Nat.le_of_ble_eq_true rfl)) dX0_judgeCheck_21 ⟨(Nat.le_of_ble_eq_true rfl), (Nat.le_of_ble_eq_true rfl)⟩) hS (fun q h1 h2 => absurd h1 (Nat.not_lt.mpr h2)) hFc (fun r_81 u_82 t H1 locs ht hvm hw hB hz1 hk1 hS1 => ?_)
  have hP := zz_keep hP hk1
  have hS := hS1
  clear hS1
  generalize H1 = H at hP hS ht ⊢
  have hP : va_P (dC, dI) vwCl [(h0, .inr (0, [.ref pr, .int v1, .int (-2), .int v3, .int v4, .int v5, .int v6, .int v7])), (pr, .inr (3, [.ref pb, .int 0])), (co, .inr (3, [.ref cb, .int 0])), (cb, .inl (cI, kn, .inl kf))] H := hP
  obtain rfl : 0 = r_81 := (show r_81 = 0 from hw).symm
  refine lv_iload_n hx hb dX0_judgeCheck_24 rfl (lv_at hl 0 rfl) ?_
  refine lv_sipush (v := 256) hx hb dX0_judgeCheck_25 (by decide) ?_
  refine lv_irem hx hb dX0_judgeCheck_28 (by decide) ?_
  refine lv_topi (fun x_83 ex_83 => ?_)
  obtain rfl : 0 = x_83 := (ex_83.trans (by decide)).symm
  refine lv_icmp_ne (tgt := 54) hx hb dX0_judgeCheck_29 (by decide) (fun h => absurd h (by decide)) (fun c29 => ?_)
  refine lv_aload_n hx hb dX0_judgeCheck_32 rfl (lv_at hl 2 rfl) ?_
  refine lv_aload_n hx hb dX0_judgeCheck_33 rfl (lv_at hl 1 rfl) ?_
  refine va_get (D := (dC, dI)) (ci := 0) (v := .int (-2)) (C := RX0) (T := TX0) (N := 8) hx hb hts (by decide +kernel) hown hK hP 0 rfl rfl 2 (by decide) (hts (.fieldLink RX0 24 "DeltaCodec$Decoder" "limit" "I") (by decide +kernel)) (fun _ h9 => h9) rfl dX0_judgeCheck_34 ?_
  refine lv_iconst (v := 1) hx hb dX0_judgeCheck_37 (by decide) ?_
  refine lv_iadd hx hb dX0_judgeCheck_38 ?_
  refine lv_topi (fun x_84 ex_84 => ?_)
  obtain rfl : (-1) = x_84 := (ex_84.trans (by decide)).symm
  have hPc := hP.sub (ws' := [(co, .inr (3, [.ref cb, .int 0])), (cb, .inl (cI, kn, .inl kf))]) [2, 3] rfl
  have hFc : ∀ q : Nat, H.size ≤ q → A q := fun q h => hA q (Nat.le_trans hS.1 h)
  have hKc := hK.sub (tys' := [(cI, .int)]) [0] rfl
  refine va_calli (va_runV (As := [.int (-1)]) (rest := []) ⟨hx, hb, hml, hown, hts⟩ (c_X3_at l dC dI cI co cb kn kf (-1) H.size) (cwV 1 hts gX0_judgeCheck_X3_at rfl rfl rfl (by decide +kernel) ⟨Nat.le_of_ble_eq_true rfl, Nat.le_of_ble_eq_true rfl⟩) ⟨fun a U g mk q => by obtain ⟨q0, q1, qP, qK, qD⟩ := q; exact ⟨q0, q1, qP, va_K.moved (u := U) (U := U.calling g mk a) (Vm.Alike.refl U.vm) qK, qD⟩, va_recv hKc hPc (ci := 3) (q0 := 0) rfl rfl, fun U hU hW => ⟨rfl, by rw [hU], by rw [hU]; exact hPc, va_K.moved hW.alike hKc, hD0.sub (ws' := [(co, .inr (3, [.ref cb, .int 0])), (cb, .inl (cI, kn, .inl kf))]) [2, 3] (by decide) rfl⟩⟩ rfl rfl hl.1 rfl (lv_room (Nat.le_of_ble_eq_true rfl)) dX0_judgeCheck_39 ⟨(Nat.le_of_ble_eq_true rfl), (Nat.le_of_ble_eq_true rfl)⟩) hS (fun q h1 h2 => absurd h1 (Nat.not_lt.mpr h2)) hFc (fun r_85 u_86 t H1 locs ht hvm hw hB hz1 hk1 hS1 => ?_)
  have hP := zz_keep hP hk1
  have hS := hS1
  clear hS1
  generalize H1 = H at hP hS ht ⊢
  have hP : va_P (dC, dI) vwCl [(h0, .inr (0, [.ref pr, .int v1, .int (-2), .int v3, .int v4, .int v5, .int v6, .int v7])), (pr, .inr (3, [.ref pb, .int 0])), (co, .inr (3, [.ref cb, .int 0])), (cb, .inl (cI, kn, .inl kf))] H := hP
  obtain rfl : 0 = r_85 := (show r_85 = 0 from hw).symm
  refine lv_iload_n hx hb dX0_judgeCheck_42 rfl (lv_at hl 0 rfl) ?_
  refine lv_sipush (v := 256) hx hb dX0_judgeCheck_43 (by decide) ?_
  refine lv_idiv hx hb dX0_judgeCheck_46 (by decide) ?_
  refine lv_topi (fun x_87 ex_87 => ?_)
  obtain rfl : 0 = x_87 := (ex_87.trans (by decide)).symm
  refine lv_icmp_ne (tgt := 54) hx hb dX0_judgeCheck_47 (by decide) (fun h => absurd h (by decide)) (fun c47 => ?_)
  refine lv_iconst (v := 1) hx hb dX0_judgeCheck_50 (by decide) ?_
  refine lv_goto (tgt := 55) hx hb dX0_judgeCheck_51 (by decide) ?_
  refine lv_istore_n (lv' := [(3, .int 1), (2, .int 0), (0, .ref h0), (1, .ref co)]) hx hb dX0_judgeCheck_55 rfl hl (by decide) rfl (fun ls hl => ?_)
  refine lv_iload_n hx hb dX0_judgeCheck_56 rfl (lv_at hl 0 rfl) ?_
  refine lv_if_ne (tgt := 69) hx hb dX0_judgeCheck_57 (by decide) (fun c57 => ?_) (fun h => absurd h (by decide))
  exact W.vret hx hb hr (fun t ht hW => ⟨⟨(), rfl, trivial, trivial⟩, hS.F ht⟩) hS.2.2 dX0_judgeCheck_69
set_option maxHeartbeats 4000000 in
set_option maxRecDepth 100000 in
theorem c_X0_readCode (l : Launch) (hfl : l.stackTraces = false) (dC : Nat → ClassId) (dI : Nat → Nat → Nat) (cI : ClassId) (h0 : Nat) (pr : Nat) (v1 : Int32) (v2 : Int32) (v3 : Int32) (v4 : Int32) (v5 : Int32) (v6 : Int32) (v7 : Int32) (pb : Nat) (co : Nat) (cb : Nat) (kn : Nat) (kf : Nat → Int32) (so : Nat) (sz : Nat) : Met l yX0_readCode wsX0_readCode ({ frames := 4, cells := 0, slots := 0, locals := 90 }) (va_Pc [.ref h0, .ref co, .ref so] (fun U => U.heap.size = sz ∧ va_P (dC, dI) vwCl [(h0, .inr (0, [.ref pr, .int v1, .int v2, .int v3, .int v4, .int v5, .int v6, .int v7])), (pr, .inr (3, [.ref pb, .int 0])), (co, .inr (3, [.ref cb, .int 0])), (cb, .inl (cI, kn, .inl kf))] U.heap ∧ va_K (dC, dI) vwCl [(cI, .int)] U ∧ va_D (fun _ => True) [(h0, .inr (0, [.ref pr, .int v1, .int v2, .int v3, .int v4, .int v5, .int v6, .int v7])), (pr, .inr (3, [.ref pb, .int 0])), (co, .inr (3, [.ref cb, .int 0])), (cb, .inl (cI, kn, .inl kf))] ∧ zz_X (va_A [(h0, .inr (0, [.ref pr, .int v1, .int v2, .int v3, .int v4, .int v5, .int v6, .int v7])), (pr, .inr (3, [.ref pb, .int 0])), (co, .inr (3, [.ref cb, .int 0])), (cb, .inl (cI, kn, .inl kf))] sz) U)) (va_Qi (fun (r : Int32) (_ : Unit) => r = 1) (fun _ _ => True) (va_A [(h0, .inr (0, [.ref pr, .int v1, .int v2, .int v3, .int v4, .int v5, .int v6, .int v7])), (pr, .inr (3, [.ref pb, .int 0])), (co, .inr (3, [.ref cb, .int 0])), (cb, .inl (cI, kn, .inl kf))] sz)) 0 0 (va_A [(h0, .inr (0, [.ref pr, .int v1, .int v2, .int v3, .int v4, .int v5, .int v6, .int v7])), (pr, .inr (3, [.ref pb, .int 0])), (co, .inr (3, [.ref cb, .int 0])), (cb, .inl (cI, kn, .inl kf))] sz) := by
  refine Met.ofW (cc := cX0_readCode) (maxL := 5) (ret := (some .int)) (by decide) rfl ?_
  intro p e s m args below meth c s₁ B hml hv
  obtain ⟨rfl, hsz, hP, hK, hD0, hZ⟩ := hv
  have hx := B.exec
  have hb := B.bytes
  have hr := B.returns
  have hts := atoms_spec (ws := wsX0_readCode) B.pre
  have hown : s.vm.findClass RX0 = some m.cls := findClass_of_methodNamed B.named
  have hlocks := B.notSynchronized
  subst hsz
  have hD := hD0.self (sz := s.heap.size)
  generalize hAe : va_A [(h0, .inr (0, [.ref pr, .int v1, .int v2, .int v3, .int v4, .int v5, .int v6, .int v7])), (pr, .inr (3, [.ref pb, .int 0])), (co, .inr (3, [.ref cb, .int 0])), (cb, .inl (cI, kn, .inl kf))] s.heap.size = A at hD hZ ⊢
  have hA : ∀ q : Nat, s.heap.size ≤ q → A q := fun q h => by rw [← hAe]; exact Or.inr h
  have hS : va_S A s.heap s.heap [] := va_S.rf
  have hP : va_P (dC, dI) vwCl [(h0, .inr (0, [.ref pr, .int v1, .int v2, .int v3, .int v4, .int v5, .int v6, .int v7])), (pr, .inr (3, [.ref pb, .int 0])), (co, .inr (3, [.ref cb, .int 0])), (cb, .inl (cI, kn, .inl kf))] s.heap := hP
  have hl := lv_entry ([.ref h0, .ref co, .ref so]) (n := 5) (Nat.le_of_ble_eq_true rfl)
  rw [lg_entry_eq]
  generalize (lg_sl ([.ref h0, .ref co, .ref so]) ++ List.replicate (5 - (lg_sl ([.ref h0, .ref co, .ref so])).length) Slot.unset).toArray = ls at hl ⊢
  have hl : lv_has ls 5 [(0, .ref h0), (1, .ref co), (2, .ref so)] := hl
  refine lv_aload_n hx hb dX0_readCode_0 rfl (lv_at hl 0 rfl) ?_
  refine va_get (D := (dC, dI)) (ci := 0) (v := .ref pr) (C := RX0) (T := TX0) (N := 8) hx hb hts (by decide +kernel) hown hK hP 0 rfl rfl 0 (by decide) (hts (.fieldLink RX0 14 "DeltaCodec$Decoder" "product" "LDeltaCodec$Row;") (by decide +kernel)) (fun _ h9 => h9) rfl dX0_readCode_1 ?_
  have hPc := hP.sub (ws' := [(pr, .inr (3, [.ref pb, .int 0]))]) [1] rfl
  have hDc := hD.sub (ws' := [(pr, .inr (3, [.ref pb, .int 0]))]) [1] (by decide) rfl
  have hFc := va_free (wc := [(pr, .inr (3, [.ref pb, .int 0]))]) hD hS hA [1] rfl
  have hKc := hK.sub (tys' := []) [] rfl
  refine va_callv (va_runV (As := []) (rest := []) ⟨hx, hb, hml, hown, hts⟩ (c_X3_clear l dC dI pr pb 0 s.heap.size) (cwV 0 hts gX0_readCode_X3_clear rfl rfl rfl (by decide +kernel) ⟨Nat.le_of_ble_eq_true rfl, Nat.le_of_ble_eq_true rfl⟩) ⟨fun a U g mk q => by obtain ⟨q0, q1, qP, qK, qD⟩ := q; exact ⟨q0, q1, qP, va_K.moved (u := U) (U := U.calling g mk a) (Vm.Alike.refl U.vm) qK, qD⟩, va_recv hKc hPc (ci := 3) (q0 := 0) rfl rfl, fun U hU hW => ⟨rfl, by rw [hU], by rw [hU]; exact hPc, va_K.moved hW.alike hKc, zz_D hDc⟩⟩ rfl rfl hl.1 rfl (lv_room (Nat.le_of_ble_eq_true rfl)) dX0_readCode_4 ⟨(Nat.le_of_ble_eq_true rfl), (Nat.le_of_ble_eq_true rfl)⟩) hS (fun q _ h => hFc q h) hFc (fun u_89 t H1 locs ht hvm hw hB hz1 hk1 hS1 => ?_)
  obtain ⟨hP1, hD1⟩ := hB
  rw [ht] at hP1
  obtain ⟨hP, hD⟩ := va_join (wr := [(h0, .inr (0, [.ref pr, .int v1, .int v2, .int v3, .int v4, .int v5, .int v6, .int v7])), (co, .inr (3, [.ref cb, .int 0])), (cb, .inl (cI, kn, .inl kf))]) (w1 := [(pr, .inr (3, [.ref pb, .int 0]))]) hP hD [1] [0, 2, 3] rfl rfl (by decide) (by decide) hk1 hFc hP1 hD1
  have hS := hS1
  clear hS1
  generalize H1 = H at hP hS ht ⊢
  have hP : va_P (dC, dI) vwCl [(h0, .inr (0, [.ref pr, .int v1, .int v2, .int v3, .int v4, .int v5, .int v6, .int v7])), (co, .inr (3, [.ref cb, .int 0])), (cb, .inl (cI, kn, .inl kf)), (pr, .inr (3, [.ref pb, .int 0]))] H := hP
  have hD : va_D A [(h0, .inr (0, [.ref pr, .int v1, .int v2, .int v3, .int v4, .int v5, .int v6, .int v7])), (co, .inr (3, [.ref cb, .int 0])), (cb, .inl (cI, kn, .inl kf)), (pr, .inr (3, [.ref pb, .int 0]))] := hD
  have w4 := hw
  refine lv_aload_n hx hb dX0_readCode_7 rfl (lv_at hl 0 rfl) ?_
  refine lv_iconst (v := 0) hx hb dX0_readCode_8 (by decide) ?_
  refine va_put (D := (dC, dI)) (ci := 0) (v := .int 0) (ty := .int) (C := RX0) (T := TX0) (N := 8) hx hb hts (by decide +kernel) tyX0 tyX0_ok nmX0 hown hK hP hD hS 0 rfl rfl 1 (by decide) (hts (.fieldLink RX0 20 "DeltaCodec$Decoder" "position" "I") (by decide +kernel)) (fun _ h9 => h9) rfl (by decide +kernel) rfl rfl (Nat.le_of_ble_eq_true rfl) dX0_readCode_9 (fun H locs hP hD hS => ?_)
  have hP : va_P (dC, dI) vwCl [(h0, .inr (0, [.ref pr, .int 0, .int v2, .int v3, .int v4, .int v5, .int v6, .int v7])), (co, .inr (3, [.ref cb, .int 0])), (cb, .inl (cI, kn, .inl kf)), (pr, .inr (3, [.ref pb, .int 0]))] H := hP
  have hD : va_D A [(h0, .inr (0, [.ref pr, .int 0, .int v2, .int v3, .int v4, .int v5, .int v6, .int v7])), (co, .inr (3, [.ref cb, .int 0])), (cb, .inl (cI, kn, .inl kf)), (pr, .inr (3, [.ref pb, .int 0]))] := hD
  refine lv_aload_n hx hb dX0_readCode_12 rfl (lv_at hl 0 rfl) ?_
  refine lv_aload_n hx hb dX0_readCode_13 rfl (lv_at hl 1 rfl) ?_
  have hPc := hP.sub (ws' := [(co, .inr (3, [.ref cb, .int 0]))]) [1] rfl
  have hFc : ∀ q : Nat, H.size ≤ q → A q := fun q h => hA q (Nat.le_trans hS.1 h)
  have hKc := hK.sub (tys' := []) [] rfl
  refine va_calli (va_runV (As := []) (rest := [.ref h0]) ⟨hx, hb, hml, hown, hts⟩ (c_X3_count l dC dI co cb 0 H.size) (cwV 0 hts gX0_readCode_X3_count rfl rfl rfl (by decide +kernel) ⟨Nat.le_of_ble_eq_true rfl, Nat.le_of_ble_eq_true rfl⟩) ⟨fun a U g mk q => by obtain ⟨q0, q1, qP, qK, qD⟩ := q; exact ⟨q0, q1, qP, va_K.moved (u := U) (U := U.calling g mk a) (Vm.Alike.refl U.vm) qK, qD⟩, va_recv hKc hPc (ci := 3) (q0 := 0) rfl rfl, fun U hU hW => ⟨rfl, by rw [hU], by rw [hU]; exact hPc, va_K.moved hW.alike hKc, zz_D (hD.sub (ws' := [(co, .inr (3, [.ref cb, .int 0]))]) [1] (by decide) rfl)⟩⟩ rfl rfl hl.1 rfl (lv_room (Nat.le_of_ble_eq_true rfl)) dX0_readCode_14 ⟨(Nat.le_of_ble_eq_true rfl), (Nat.le_of_ble_eq_true rfl)⟩) hS (fun q h1 h2 => absurd h1 (Nat.not_lt.mpr h2)) hFc (fun r_90 u_91 t H1 locs ht hvm hw hB hz1 hk1 hS1 => ?_)
  have hP := zz_keep hP hk1
  have hS := hS1
  clear hS1
  generalize H1 = H at hP hS ht ⊢
  have hP : va_P (dC, dI) vwCl [(h0, .inr (0, [.ref pr, .int 0, .int v2, .int v3, .int v4, .int v5, .int v6, .int v7])), (co, .inr (3, [.ref cb, .int 0])), (cb, .inl (cI, kn, .inl kf)), (pr, .inr (3, [.ref pb, .int 0]))] H := hP
  obtain rfl : 0 = r_90 := (show r_90 = 0 from hw).symm
  refine lv_iconst (v := 2) hx hb dX0_readCode_17 (by decide) ?_
  refine lv_isub hx hb dX0_readCode_18 ?_
  refine lv_topi (fun x_92 ex_92 => ?_)
  obtain rfl : (-2) = x_92 := (ex_92.trans (by decide)).symm
  refine va_put (D := (dC, dI)) (ci := 0) (v := .int (-2)) (ty := .int) (C := RX0) (T := TX0) (N := 8) hx hb hts (by decide +kernel) tyX0 tyX0_ok nmX0 hown hK hP hD hS 0 rfl rfl 2 (by decide) (hts (.fieldLink RX0 24 "DeltaCodec$Decoder" "limit" "I") (by decide +kernel)) (fun _ h9 => h9) rfl (by decide +kernel) rfl rfl (Nat.le_of_ble_eq_true rfl) dX0_readCode_19 (fun H locs hP hD hS => ?_)
  have hP : va_P (dC, dI) vwCl [(h0, .inr (0, [.ref pr, .int 0, .int (-2), .int v3, .int v4, .int v5, .int v6, .int v7])), (co, .inr (3, [.ref cb, .int 0])), (cb, .inl (cI, kn, .inl kf)), (pr, .inr (3, [.ref pb, .int 0]))] H := hP
  have hD : va_D A [(h0, .inr (0, [.ref pr, .int 0, .int (-2), .int v3, .int v4, .int v5, .int v6, .int v7])), (co, .inr (3, [.ref cb, .int 0])), (cb, .inl (cI, kn, .inl kf)), (pr, .inr (3, [.ref pb, .int 0]))] := hD
  refine lv_aload_n hx hb dX0_readCode_22 rfl (lv_at hl 0 rfl) ?_
  refine lv_iconst (v := 0) hx hb dX0_readCode_23 (by decide) ?_
  refine va_put (D := (dC, dI)) (ci := 0) (v := .int 0) (ty := .int) (C := RX0) (T := TX0) (N := 8) hx hb hts (by decide +kernel) tyX0 tyX0_ok nmX0 hown hK hP hD hS 0 rfl rfl 3 (by decide) (hts (.fieldLink RX0 27 "DeltaCodec$Decoder" "error" "I") (by decide +kernel)) (fun _ h9 => h9) rfl (by decide +kernel) rfl rfl (Nat.le_of_ble_eq_true rfl) dX0_readCode_24 (fun H locs hP hD hS => ?_)
  have hP : va_P (dC, dI) vwCl [(h0, .inr (0, [.ref pr, .int 0, .int (-2), .int 0, .int v4, .int v5, .int v6, .int v7])), (co, .inr (3, [.ref cb, .int 0])), (cb, .inl (cI, kn, .inl kf)), (pr, .inr (3, [.ref pb, .int 0]))] H := hP
  have hD : va_D A [(h0, .inr (0, [.ref pr, .int 0, .int (-2), .int 0, .int v4, .int v5, .int v6, .int v7])), (co, .inr (3, [.ref cb, .int 0])), (cb, .inl (cI, kn, .inl kf)), (pr, .inr (3, [.ref pb, .int 0]))] := hD
  refine lv_aload_n hx hb dX0_readCode_27 rfl (lv_at hl 0 rfl) ?_
  refine lv_iconst (v := (-1)) hx hb dX0_readCode_28 (by decide) ?_
  refine va_put (D := (dC, dI)) (ci := 0) (v := .int (-1)) (ty := .int) (C := RX0) (T := TX0) (N := 8) hx hb hts (by decide +kernel) tyX0 tyX0_ok nmX0 hown hK hP hD hS 0 rfl rfl 4 (by decide) (hts (.fieldLink RX0 30 "DeltaCodec$Decoder" "errorAt" "I") (by decide +kernel)) (fun _ h9 => h9) rfl (by decide +kernel) rfl rfl (Nat.le_of_ble_eq_true rfl) dX0_readCode_29 (fun H locs hP hD hS => ?_)
  have hP : va_P (dC, dI) vwCl [(h0, .inr (0, [.ref pr, .int 0, .int (-2), .int 0, .int (-1), .int v5, .int v6, .int v7])), (co, .inr (3, [.ref cb, .int 0])), (cb, .inl (cI, kn, .inl kf)), (pr, .inr (3, [.ref pb, .int 0]))] H := hP
  have hD : va_D A [(h0, .inr (0, [.ref pr, .int 0, .int (-2), .int 0, .int (-1), .int v5, .int v6, .int v7])), (co, .inr (3, [.ref cb, .int 0])), (cb, .inl (cI, kn, .inl kf)), (pr, .inr (3, [.ref pb, .int 0]))] := hD
  refine lv_aload_n hx hb dX0_readCode_32 rfl (lv_at hl 0 rfl) ?_
  refine va_get (D := (dC, dI)) (ci := 0) (v := .int (-2)) (C := RX0) (T := TX0) (N := 8) hx hb hts (by decide +kernel) hown hK hP 0 rfl rfl 2 (by decide) (hts (.fieldLink RX0 24 "DeltaCodec$Decoder" "limit" "I") (by decide +kernel)) (fun _ h9 => h9) rfl dX0_readCode_33 ?_
  refine lv_if_ge (tgt := 48) hx hb dX0_readCode_36 (by decide) (fun h => absurd h (by decide)) (fun c36 => ?_)
  refine lv_aload_n hx hb dX0_readCode_39 rfl (lv_at hl 0 rfl) ?_
  refine lv_iconst (v := 1) hx hb dX0_readCode_40 (by decide) ?_
  refine lv_aload_n hx hb dX0_readCode_41 rfl (lv_at hl 1 rfl) ?_
  have hPc := hP.sub (ws' := [(co, .inr (3, [.ref cb, .int 0]))]) [1] rfl
  have hFc : ∀ q : Nat, H.size ≤ q → A q := fun q h => hA q (Nat.le_trans hS.1 h)
  have hKc := hK.sub (tys' := []) [] rfl
  refine va_calli (va_runV (As := []) (rest := [.int 1, .ref h0]) ⟨hx, hb, hml, hown, hts⟩ (c_X3_count l dC dI co cb 0 H.size) (cwV 0 hts gX0_readCode_X3_count rfl rfl rfl (by decide +kernel) ⟨Nat.le_of_ble_eq_true rfl, Nat.le_of_ble_eq_true rfl⟩) ⟨fun a U g mk q => by obtain ⟨q0, q1, qP, qK, qD⟩ := q; exact ⟨q0, q1, qP, va_K.moved (u := U) (U := U.calling g mk a) (Vm.Alike.refl U.vm) qK, qD⟩, va_recv hKc hPc (ci := 3) (q0 := 0) rfl rfl, fun U hU hW => ⟨rfl, by rw [hU], by rw [hU]; exact hPc, va_K.moved hW.alike hKc, zz_D (hD.sub (ws' := [(co, .inr (3, [.ref cb, .int 0]))]) [1] (by decide) rfl)⟩⟩ rfl rfl hl.1 rfl (lv_room (Nat.le_of_ble_eq_true rfl)) dX0_readCode_42 ⟨(Nat.le_of_ble_eq_true rfl), (Nat.le_of_ble_eq_true rfl)⟩) hS (fun q h1 h2 => absurd h1 (Nat.not_lt.mpr h2)) hFc (fun r_93 u_94 t H1 locs ht hvm hw hB hz1 hk1 hS1 => ?_)
  have hP := zz_keep hP hk1
  have hS := hS1
  clear hS1
  generalize H1 = H at hP hS ht ⊢
  have hP : va_P (dC, dI) vwCl [(h0, .inr (0, [.ref pr, .int 0, .int (-2), .int 0, .int (-1), .int v5, .int v6, .int v7])), (co, .inr (3, [.ref cb, .int 0])), (cb, .inl (cI, kn, .inl kf)), (pr, .inr (3, [.ref pb, .int 0]))] H := hP
  obtain rfl : 0 = r_93 := (show r_93 = 0 from hw).symm
  have hPc := hP.sub (ws' := [(h0, .inr (0, [.ref pr, .int 0, .int (-2), .int 0, .int (-1), .int v5, .int v6, .int v7]))]) [0] rfl
  have hDc := hD.sub (ws' := [(h0, .inr (0, [.ref pr, .int 0, .int (-2), .int 0, .int (-1), .int v5, .int v6, .int v7]))]) [0] (by decide) rfl
  have hFc := va_free (wc := [(h0, .inr (0, [.ref pr, .int 0, .int (-2), .int 0, .int (-1), .int v5, .int v6, .int v7]))]) hD hS hA [0] rfl
  have hKc := hK.sub (tys' := []) [] rfl
  refine va_callv (va_runV (As := [.int 1, .int 0]) (rest := []) ⟨hx, hb, hml, hown, hts⟩ (c_X0_tell l dC dI h0 pr 0 (-2) (-1) v5 v6 v7 1 0 H.size) (cwV 2 hts gX0_readCode_X0_tell rfl rfl rfl (by decide +kernel) ⟨Nat.le_of_ble_eq_true rfl, Nat.le_of_ble_eq_true rfl⟩) ⟨fun a U g mk q => by obtain ⟨q0, q1, qP, qK, qD⟩ := q; exact ⟨q0, q1, qP, va_K.moved (u := U) (U := U.calling g mk a) (Vm.Alike.refl U.vm) qK, qD⟩, va_recv hKc hPc (ci := 0) (q0 := 0) rfl rfl, fun U hU hW => ⟨rfl, by rw [hU], by rw [hU]; exact hPc, va_K.moved hW.alike hKc, zz_D hDc⟩⟩ rfl rfl hl.1 rfl (lv_room (Nat.le_of_ble_eq_true rfl)) dX0_readCode_45 ⟨(Nat.le_of_ble_eq_true rfl), (Nat.le_of_ble_eq_true rfl)⟩) hS (fun q _ h => hFc q h) hFc (fun u_96 t H1 locs ht hvm hw hB hz1 hk1 hS1 => ?_)
  obtain ⟨hP1, hD1⟩ := hB
  rw [ht] at hP1
  obtain ⟨hP, hD⟩ := va_join (wr := [(co, .inr (3, [.ref cb, .int 0])), (cb, .inl (cI, kn, .inl kf)), (pr, .inr (3, [.ref pb, .int 0]))]) (w1 := [(h0, .inr (0, [.ref pr, .int 0, .int (-2), .int 1, .int 0, .int v5, .int v6, .int v7]))]) hP hD [0] [1, 2, 3] rfl rfl (by decide) (by decide) hk1 hFc hP1 hD1
  have hS := hS1
  clear hS1
  generalize H1 = H at hP hS ht ⊢
  have hP : va_P (dC, dI) vwCl [(co, .inr (3, [.ref cb, .int 0])), (cb, .inl (cI, kn, .inl kf)), (pr, .inr (3, [.ref pb, .int 0])), (h0, .inr (0, [.ref pr, .int 0, .int (-2), .int 1, .int 0, .int v5, .int v6, .int v7]))] H := hP
  have hD : va_D A [(co, .inr (3, [.ref cb, .int 0])), (cb, .inl (cI, kn, .inl kf)), (pr, .inr (3, [.ref pb, .int 0])), (h0, .inr (0, [.ref pr, .int 0, .int (-2), .int 1, .int 0, .int v5, .int v6, .int v7]))] := hD
  have w45 := hw
  refine lv_iconst (v := 0) hx hb dX0_readCode_48 (by decide) ?_
  refine lv_istore_n (lv' := [(3, .int 0), (0, .ref h0), (1, .ref co), (2, .ref so)]) hx hb dX0_readCode_49 rfl hl (by decide) rfl (fun ls hl => ?_)
  refine lv_iload_n hx hb dX0_readCode_50 rfl (lv_at hl 0 rfl) ?_
  refine lv_aload_n hx hb dX0_readCode_51 rfl (lv_at hl 1 rfl) ?_
  refine va_get (D := (dC, dI)) (ci := 0) (v := .int (-2)) (C := RX0) (T := TX0) (N := 8) hx hb hts (by decide +kernel) hown hK hP 3 rfl rfl 2 (by decide) (hts (.fieldLink RX0 24 "DeltaCodec$Decoder" "limit" "I") (by decide +kernel)) (fun _ h9 => h9) rfl dX0_readCode_52 ?_
  refine lv_icmp_ge (tgt := 106) hx hb dX0_readCode_55 (by decide) (fun c55 => ?_) (fun h => absurd h (by decide))
  refine lv_aload_n hx hb dX0_readCode_106 rfl (lv_at hl 1 rfl) ?_
  refine lv_aload_n hx hb dX0_readCode_107 rfl (lv_at hl 2 rfl) ?_
  have hPc := hP.sub (ws' := [(h0, .inr (0, [.ref pr, .int 0, .int (-2), .int 1, .int 0, .int v5, .int v6, .int v7])), (pr, .inr (3, [.ref pb, .int 0])), (co, .inr (3, [.ref cb, .int 0])), (cb, .inl (cI, kn, .inl kf))]) [3, 2, 0, 1] rfl
  have hFc : ∀ q : Nat, H.size ≤ q → A q := fun q h => hA q (Nat.le_trans hS.1 h)
  have hKc := hK.sub (tys' := [(cI, .int)]) [0] rfl
  refine va_callv (va_runV (As := [.ref co]) (rest := []) ⟨hx, hb, hml, hown, hts⟩ (c_X0_judgeCheck l hfl dC dI cI h0 pr 0 1 0 v5 v6 v7 pb co cb kn kf H.size) (cwV 1 hts gX0_readCode_X0_judgeCheck rfl rfl rfl (by decide +kernel) ⟨Nat.le_of_ble_eq_true rfl, Nat.le_of_ble_eq_true rfl⟩) ⟨fun a U g mk q => by obtain ⟨q0, q1, qP, qK, qD, qZ⟩ := q; exact ⟨q0, q1, qP, va_K.moved (u := U) (U := U.calling g mk a) (Vm.Alike.refl U.vm) qK, qD, qZ.call⟩, va_recv hKc hPc (ci := 0) (q0 := 0) rfl rfl, fun U hU hW => ⟨rfl, by rw [hU], by rw [hU]; exact hPc, va_K.moved hW.alike hKc, zz_D (hD.sub (ws' := [(h0, .inr (0, [.ref pr, .int 0, .int (-2), .int 1, .int 0, .int v5, .int v6, .int v7])), (pr, .inr (3, [.ref pb, .int 0])), (co, .inr (3, [.ref cb, .int 0])), (cb, .inl (cI, kn, .inl kf))]) [3, 2, 0, 1] (by decide) rfl), hZ.go hS hFc hU hW⟩⟩ rfl rfl hl.1 rfl (lv_room (Nat.le_of_ble_eq_true rfl)) dX0_readCode_108 ⟨(Nat.le_of_ble_eq_true rfl), (Nat.le_of_ble_eq_true rfl)⟩) hS (fun q h1 h2 => absurd h1 (Nat.not_lt.mpr h2)) hFc (fun u_98 t H1 locs ht hvm hw hB hz1 hk1 hS1 => ?_)
  have hP := zz_keep hP hk1
  have hS := hS1
  clear hS1
  generalize H1 = H at hP hS ht ⊢
  have hP : va_P (dC, dI) vwCl [(co, .inr (3, [.ref cb, .int 0])), (cb, .inl (cI, kn, .inl kf)), (pr, .inr (3, [.ref pb, .int 0])), (h0, .inr (0, [.ref pr, .int 0, .int (-2), .int 1, .int 0, .int v5, .int v6, .int v7]))] H := hP
  have w108 := hw
  refine lv_aload_n hx hb dX0_readCode_111 rfl (lv_at hl 1 rfl) ?_
  refine va_get (D := (dC, dI)) (ci := 0) (v := .int 1) (C := RX0) (T := TX0) (N := 8) hx hb hts (by decide +kernel) hown hK hP 3 rfl rfl 3 (by decide) (hts (.fieldLink RX0 27 "DeltaCodec$Decoder" "error" "I") (by decide +kernel)) (fun _ h9 => h9) rfl dX0_readCode_112 ?_
  exact W.iret (v := 1) hx hb hr (fun t ht hW => ⟨⟨1, (), rfl, rfl, trivial⟩, hS.F ht⟩) hS.2.2 dX0_readCode_115
