set_option maxHeartbeats 4000000 in
set_option maxRecDepth 100000 in
theorem c_X1_init (l : Launch) (dC : Nat → ClassId) (dI : Nat → Nat → Nat) (cI : ClassId) (h0 : Nat) (sz : Nat) : Met l yX1_init wsX1_init ({ frames := 2, cells := 8, slots := 608, locals := 42 }) (va_Pc [.ref h0] (fun U => U.heap.size = sz ∧ va_P (dC, dI) vwCl [(h0, .inr (1, [.null, .null, .null, .null, .int 0, .int 0]))] U.heap ∧ va_K (dC, dI) vwCl [(cI, .int)] U ∧ va_D (fun _ => True) [(h0, .inr (1, [.null, .null, .null, .null, .int 0, .int 0]))])) (va_Qv (fun _ : Nat × Nat × Nat × Nat × Nat × Nat × Nat × Nat => True) (fun u t => match u with | (r1, b1, r2, b2, r3, b3, r4, b4) => va_P (dC, dI) vwCl [(h0, .inr (1, [.ref r1, .ref r2, .ref r3, .ref r4, .int 0, .int 0])), (r1, .inr (3, [.ref b1, .int 0])), (b1, .inl (cI, 150, .inl (fun _ => 0))), (r2, .inr (3, [.ref b2, .int 0])), (b2, .inl (cI, 150, .inl (fun _ => 0))), (r3, .inr (3, [.ref b3, .int 0])), (b3, .inl (cI, 150, .inl (fun _ => 0))), (r4, .inr (3, [.ref b4, .int 0])), (b4, .inl (cI, 150, .inl (fun _ => 0)))] t.heap ∧ va_D (va_A [(h0, .inr (1, [.null, .null, .null, .null, .int 0, .int 0]))] sz) [(h0, .inr (1, [.ref r1, .ref r2, .ref r3, .ref r4, .int 0, .int 0])), (r1, .inr (3, [.ref b1, .int 0])), (b1, .inl (cI, 150, .inl (fun _ => 0))), (r2, .inr (3, [.ref b2, .int 0])), (b2, .inl (cI, 150, .inl (fun _ => 0))), (r3, .inr (3, [.ref b3, .int 0])), (b3, .inl (cI, 150, .inl (fun _ => 0))), (r4, .inr (3, [.ref b4, .int 0])), (b4, .inl (cI, 150, .inl (fun _ => 0)))]) (va_A [(h0, .inr (1, [.null, .null, .null, .null, .int 0, .int 0]))] sz)) 8 608 (va_A [(h0, .inr (1, [.null, .null, .null, .null, .int 0, .int 0]))] sz) := by
  refine Met.ofW (cc := cX1_init) (maxL := 1) (ret := none) (by decide) rfl ?_
  intro p e s m args below meth c s₁ B hml hv
  obtain ⟨rfl, hsz, hP, hK, hD0⟩ := hv
  have hx := B.exec
  have hb := B.bytes
  have hr := B.returns
  have hts := atoms_spec (ws := wsX1_init) B.pre
  have hown : s.vm.findClass RX1 = some m.cls := findClass_of_methodNamed B.named
  have hlocks := B.notSynchronized
  have hin : meth.name = "<init>" := (name_of_methodNamed B.named B.method).1
  subst hsz
  have hD := hD0.self (sz := s.heap.size)
  generalize hAe : va_A [(h0, .inr (1, [.null, .null, .null, .null, .int 0, .int 0]))] s.heap.size = A at hD ⊢
  have hA : ∀ q : Nat, s.heap.size ≤ q → A q := fun q h => by rw [← hAe]; exact Or.inr h
  have hS : va_S A s.heap s.heap [] := va_S.rf
  have hP : va_P (dC, dI) vwCl [(h0, .inr (1, [.null, .null, .null, .null, .int 0, .int 0]))] s.heap := hP
  have hl := lv_entry ([.ref h0]) (n := 1) (Nat.le_of_ble_eq_true rfl)
  rw [lg_entry_eq]
  generalize (lg_sl ([.ref h0]) ++ List.replicate (1 - (lg_sl ([.ref h0])).length) Slot.unset).toArray = ls at hl ⊢
  have hl : lv_has ls 1 [(0, .ref h0)] := hl
  refine lv_aload_n hx hb dX1_init_0 rfl (lv_at hl 0 rfl) ?_
  refine W.objInit hx hb hown (hts (.methodLink RX1 3 objectInit) (by decide +kernel)) (hts (.instanceMethod objectInit) (by decide +kernel)) (hts (.code objectInit ⟨#[0xb1]⟩ 1 none) (by decide +kernel)) rfl (by rw [hml]; exact hl.1) rfl dX1_init_1 (Nat.le_of_ble_eq_true rfl) (Nat.le_of_ble_eq_true rfl) ?_
  refine W.eq (g2 := F0 m 4 ls []) rfl ?_
  refine lv_aload_n hx hb dX1_init_4 rfl (lv_at hl 0 rfl) ?_
  refine va_new (ci := 3) (fs := [.null, .int 0]) (C := RX3) (T := TX3) (N := 2) hx hb hts (by decide +kernel) tyX3 tyX3_ok hown (hts (.classLink RX1 9 RX3) (by decide +kernel)) (hts (.instantiable RX3 2) (by decide +kernel)) (hts (.initialized RX3) (by decide +kernel)) hK hP hD hS hA rfl (fun j hj => by rcases (show j = 0 ∨ j = 1 by omega) with rfl | rfl <;> rfl) (Nat.le_of_ble_eq_true rfl) (Nat.le_of_ble_eq_true rfl) dX1_init_5 (fun q_9 H hP hD hS => ?_)
  have hP : va_P (dC, dI) vwCl [(h0, .inr (1, [.null, .null, .null, .null, .int 0, .int 0])), (q_9, .inr (3, [.null, .int 0]))] H := hP
  have hD : va_D A [(h0, .inr (1, [.null, .null, .null, .null, .int 0, .int 0])), (q_9, .inr (3, [.null, .int 0]))] := hD
  refine W.widen (k := 1) (n := 2) (by omega) (by omega) ?_
  refine lv_dup hx hb dX1_init_8 rfl ?_
  refine lv_sipush (v := 150) hx hb dX1_init_9 (by decide) ?_
  have hPc := hP.sub (ws' := [(q_9, .inr (3, [.null, .int 0]))]) [1] rfl
  have hDc := hD.sub (ws' := [(q_9, .inr (3, [.null, .int 0]))]) [1] (by decide) rfl
  have hFc := va_free (wc := [(q_9, .inr (3, [.null, .int 0]))]) hD hS hA [1] rfl
  have hKc := hK.sub (tys' := [(cI, .int)]) [0] rfl
  refine va_callv (va_runI (As := [.int 150]) (rest := [.ref q_9, .ref h0]) ⟨hx, hb, hml, hown, hts⟩ (c_X3_init l dC dI cI q_9 150 150 H.size (by decide) (by decide) (by decide)) (cwI 1 hts gX1_init_X3_init rfl rfl rfl (hts (.initialized RX3) (by decide +kernel)) (hts (.methodLink RX1 11 yX3_init) (by decide +kernel)) (hts (.instanceMethod yX3_init) (by decide +kernel)) rfl (by decide +kernel) ⟨Nat.le_of_ble_eq_true rfl, Nat.le_of_ble_eq_true rfl⟩) ⟨fun a U g mk q => by obtain ⟨q0, q1, qP, qK, qD⟩ := q; exact ⟨q0, q1, qP, va_K.moved (u := U) (U := U.calling g mk a) (Vm.Alike.refl U.vm) qK, qD⟩, fun U hU hW => ⟨rfl, by rw [hU], by rw [hU]; exact hPc, va_K.moved hW.alike hKc, zz_D hDc⟩⟩ rfl rfl hl.1 rfl (lv_room (Nat.le_of_ble_eq_true rfl)) dX1_init_12 ⟨(Nat.le_of_ble_eq_true rfl), (Nat.le_of_ble_eq_true rfl)⟩) hS (fun q _ h => hFc q h) hFc (fun u_11 t H1 locs ht hvm hw hB hz1 hk1 hS1 => ?_)
  obtain ⟨hP1, hD1⟩ := hB
  rw [ht] at hP1
  obtain ⟨hP, hD⟩ := va_join (wr := [(h0, .inr (1, [.null, .null, .null, .null, .int 0, .int 0]))]) (w1 := [(q_9, .inr (3, [.ref u_11, .int 0])), (u_11, .inl (cI, 150, .inl (fun _ => 0)))]) hP hD [1] [0] rfl rfl (by decide) (by decide) hk1 hFc hP1 hD1
  have hS := hS1
  clear hS1
  generalize H1 = H at hP hS ht ⊢
  have hP : va_P (dC, dI) vwCl [(h0, .inr (1, [.null, .null, .null, .null, .int 0, .int 0])), (q_9, .inr (3, [.ref u_11, .int 0])), (u_11, .inl (cI, 150, .inl (fun _ => 0)))] H := hP
  have hD : va_D A [(h0, .inr (1, [.null, .null, .null, .null, .int 0, .int 0])), (q_9, .inr (3, [.ref u_11, .int 0])), (u_11, .inl (cI, 150, .inl (fun _ => 0)))] := hD
  refine W.widen (k := 2) (n := 152) (by omega) (by omega) ?_
  have w12 := hw
  refine va_putF (D := (dC, dI)) (ci := 1) (v := .ref q_9) (ty := (.object "DeltaCodec$Row")) (C := RX1) (T := TX1) (N := 6) hx hb hts (by decide +kernel) tyX1 tyX1_ok nmX1 hown hK hP hD hS 0 rfl rfl 0 (by decide) (hts (.fieldLink RX1 14 "DeltaCodec$Plan" "kinds" "LDeltaCodec$Row;") (by decide +kernel)) (fun _ h9 => h9) rfl hin rfl (by decide +kernel) rfl rfl (Nat.le_of_ble_eq_true rfl) dX1_init_15 (fun H locs hP hD hS => ?_)
  have hP : va_P (dC, dI) vwCl [(h0, .inr (1, [.ref q_9, .null, .null, .null, .int 0, .int 0])), (q_9, .inr (3, [.ref u_11, .int 0])), (u_11, .inl (cI, 150, .inl (fun _ => 0)))] H := hP
  have hD : va_D A [(h0, .inr (1, [.ref q_9, .null, .null, .null, .int 0, .int 0])), (q_9, .inr (3, [.ref u_11, .int 0])), (u_11, .inl (cI, 150, .inl (fun _ => 0)))] := hD
  refine lv_aload_n hx hb dX1_init_18 rfl (lv_at hl 0 rfl) ?_
  refine va_new (ci := 3) (fs := [.null, .int 0]) (C := RX3) (T := TX3) (N := 2) hx hb hts (by decide +kernel) tyX3 tyX3_ok hown (hts (.classLink RX1 9 RX3) (by decide +kernel)) (hts (.instantiable RX3 2) (by decide +kernel)) (hts (.initialized RX3) (by decide +kernel)) hK hP hD hS hA rfl (fun j hj => by rcases (show j = 0 ∨ j = 1 by omega) with rfl | rfl <;> rfl) (Nat.le_of_ble_eq_true rfl) (Nat.le_of_ble_eq_true rfl) dX1_init_19 (fun q_12 H hP hD hS => ?_)
  have hP : va_P (dC, dI) vwCl [(h0, .inr (1, [.ref q_9, .null, .null, .null, .int 0, .int 0])), (q_9, .inr (3, [.ref u_11, .int 0])), (u_11, .inl (cI, 150, .inl (fun _ => 0))), (q_12, .inr (3, [.null, .int 0]))] H := hP
  have hD : va_D A [(h0, .inr (1, [.ref q_9, .null, .null, .null, .int 0, .int 0])), (q_9, .inr (3, [.ref u_11, .int 0])), (u_11, .inl (cI, 150, .inl (fun _ => 0))), (q_12, .inr (3, [.null, .int 0]))] := hD
  refine W.widen (k := 3) (n := 154) (by omega) (by omega) ?_
  refine lv_dup hx hb dX1_init_22 rfl ?_
  refine lv_sipush (v := 150) hx hb dX1_init_23 (by decide) ?_
  have hPc := hP.sub (ws' := [(q_12, .inr (3, [.null, .int 0]))]) [3] rfl
  have hDc := hD.sub (ws' := [(q_12, .inr (3, [.null, .int 0]))]) [3] (by decide) rfl
  have hFc := va_free (wc := [(q_12, .inr (3, [.null, .int 0]))]) hD hS hA [3] rfl
  have hKc := hK.sub (tys' := [(cI, .int)]) [0] rfl
  refine va_callv (va_runI (As := [.int 150]) (rest := [.ref q_12, .ref h0]) ⟨hx, hb, hml, hown, hts⟩ (c_X3_init l dC dI cI q_12 150 150 H.size (by decide) (by decide) (by decide)) (cwI 1 hts gX1_init_X3_init rfl rfl rfl (hts (.initialized RX3) (by decide +kernel)) (hts (.methodLink RX1 11 yX3_init) (by decide +kernel)) (hts (.instanceMethod yX3_init) (by decide +kernel)) rfl (by decide +kernel) ⟨Nat.le_of_ble_eq_true rfl, Nat.le_of_ble_eq_true rfl⟩) ⟨fun a U g mk q => by obtain ⟨q0, q1, qP, qK, qD⟩ := q; exact ⟨q0, q1, qP, va_K.moved (u := U) (U := U.calling g mk a) (Vm.Alike.refl U.vm) qK, qD⟩, fun U hU hW => ⟨rfl, by rw [hU], by rw [hU]; exact hPc, va_K.moved hW.alike hKc, zz_D hDc⟩⟩ rfl rfl hl.1 rfl (lv_room (Nat.le_of_ble_eq_true rfl)) dX1_init_26 ⟨(Nat.le_of_ble_eq_true rfl), (Nat.le_of_ble_eq_true rfl)⟩) hS (fun q _ h => hFc q h) hFc (fun u_14 t H1 locs ht hvm hw hB hz1 hk1 hS1 => ?_)
  obtain ⟨hP1, hD1⟩ := hB
  rw [ht] at hP1
  obtain ⟨hP, hD⟩ := va_join (wr := [(h0, .inr (1, [.ref q_9, .null, .null, .null, .int 0, .int 0])), (q_9, .inr (3, [.ref u_11, .int 0])), (u_11, .inl (cI, 150, .inl (fun _ => 0)))]) (w1 := [(q_12, .inr (3, [.ref u_14, .int 0])), (u_14, .inl (cI, 150, .inl (fun _ => 0)))]) hP hD [3] [0, 1, 2] rfl rfl (by decide) (by decide) hk1 hFc hP1 hD1
  have hS := hS1
  clear hS1
  generalize H1 = H at hP hS ht ⊢
  have hP : va_P (dC, dI) vwCl [(h0, .inr (1, [.ref q_9, .null, .null, .null, .int 0, .int 0])), (q_9, .inr (3, [.ref u_11, .int 0])), (u_11, .inl (cI, 150, .inl (fun _ => 0))), (q_12, .inr (3, [.ref u_14, .int 0])), (u_14, .inl (cI, 150, .inl (fun _ => 0)))] H := hP
  have hD : va_D A [(h0, .inr (1, [.ref q_9, .null, .null, .null, .int 0, .int 0])), (q_9, .inr (3, [.ref u_11, .int 0])), (u_11, .inl (cI, 150, .inl (fun _ => 0))), (q_12, .inr (3, [.ref u_14, .int 0])), (u_14, .inl (cI, 150, .inl (fun _ => 0)))] := hD
  refine W.widen (k := 4) (n := 304) (by omega) (by omega) ?_
  have w26 := hw
  refine va_putF (D := (dC, dI)) (ci := 1) (v := .ref q_12) (ty := (.object "DeltaCodec$Row")) (C := RX1) (T := TX1) (N := 6) hx hb hts (by decide +kernel) tyX1 tyX1_ok nmX1 hown hK hP hD hS 0 rfl rfl 1 (by decide) (hts (.fieldLink RX1 20 "DeltaCodec$Plan" "lengths" "LDeltaCodec$Row;") (by decide +kernel)) (fun _ h9 => h9) rfl hin rfl (by decide +kernel) rfl rfl (Nat.le_of_ble_eq_true rfl) dX1_init_29 (fun H locs hP hD hS => ?_)
  have hP : va_P (dC, dI) vwCl [(h0, .inr (1, [.ref q_9, .ref q_12, .null, .null, .int 0, .int 0])), (q_9, .inr (3, [.ref u_11, .int 0])), (u_11, .inl (cI, 150, .inl (fun _ => 0))), (q_12, .inr (3, [.ref u_14, .int 0])), (u_14, .inl (cI, 150, .inl (fun _ => 0)))] H := hP
  have hD : va_D A [(h0, .inr (1, [.ref q_9, .ref q_12, .null, .null, .int 0, .int 0])), (q_9, .inr (3, [.ref u_11, .int 0])), (u_11, .inl (cI, 150, .inl (fun _ => 0))), (q_12, .inr (3, [.ref u_14, .int 0])), (u_14, .inl (cI, 150, .inl (fun _ => 0)))] := hD
  refine lv_aload_n hx hb dX1_init_32 rfl (lv_at hl 0 rfl) ?_
  refine va_new (ci := 3) (fs := [.null, .int 0]) (C := RX3) (T := TX3) (N := 2) hx hb hts (by decide +kernel) tyX3 tyX3_ok hown (hts (.classLink RX1 9 RX3) (by decide +kernel)) (hts (.instantiable RX3 2) (by decide +kernel)) (hts (.initialized RX3) (by decide +kernel)) hK hP hD hS hA rfl (fun j hj => by rcases (show j = 0 ∨ j = 1 by omega) with rfl | rfl <;> rfl) (Nat.le_of_ble_eq_true rfl) (Nat.le_of_ble_eq_true rfl) dX1_init_33 (fun q_15 H hP hD hS => ?_)
  have hP : va_P (dC, dI) vwCl [(h0, .inr (1, [.ref q_9, .ref q_12, .null, .null, .int 0, .int 0])), (q_9, .inr (3, [.ref u_11, .int 0])), (u_11, .inl (cI, 150, .inl (fun _ => 0))), (q_12, .inr (3, [.ref u_14, .int 0])), (u_14, .inl (cI, 150, .inl (fun _ => 0))), (q_15, .inr (3, [.null, .int 0]))] H := hP
  have hD : va_D A [(h0, .inr (1, [.ref q_9, .ref q_12, .null, .null, .int 0, .int 0])), (q_9, .inr (3, [.ref u_11, .int 0])), (u_11, .inl (cI, 150, .inl (fun _ => 0))), (q_12, .inr (3, [.ref u_14, .int 0])), (u_14, .inl (cI, 150, .inl (fun _ => 0))), (q_15, .inr (3, [.null, .int 0]))] := hD
  refine W.widen (k := 5) (n := 306) (by omega) (by omega) ?_
  refine lv_dup hx hb dX1_init_36 rfl ?_
  refine lv_sipush (v := 150) hx hb dX1_init_37 (by decide) ?_
  have hPc := hP.sub (ws' := [(q_15, .inr (3, [.null, .int 0]))]) [5] rfl
  have hDc := hD.sub (ws' := [(q_15, .inr (3, [.null, .int 0]))]) [5] (by decide) rfl
  have hFc := va_free (wc := [(q_15, .inr (3, [.null, .int 0]))]) hD hS hA [5] rfl
  have hKc := hK.sub (tys' := [(cI, .int)]) [0] rfl
  refine va_callv (va_runI (As := [.int 150]) (rest := [.ref q_15, .ref h0]) ⟨hx, hb, hml, hown, hts⟩ (c_X3_init l dC dI cI q_15 150 150 H.size (by decide) (by decide) (by decide)) (cwI 1 hts gX1_init_X3_init rfl rfl rfl (hts (.initialized RX3) (by decide +kernel)) (hts (.methodLink RX1 11 yX3_init) (by decide +kernel)) (hts (.instanceMethod yX3_init) (by decide +kernel)) rfl (by decide +kernel) ⟨Nat.le_of_ble_eq_true rfl, Nat.le_of_ble_eq_true rfl⟩) ⟨fun a U g mk q => by obtain ⟨q0, q1, qP, qK, qD⟩ := q; exact ⟨q0, q1, qP, va_K.moved (u := U) (U := U.calling g mk a) (Vm.Alike.refl U.vm) qK, qD⟩, fun U hU hW => ⟨rfl, by rw [hU], by rw [hU]; exact hPc, va_K.moved hW.alike hKc, zz_D hDc⟩⟩ rfl rfl hl.1 rfl (lv_room (Nat.le_of_ble_eq_true rfl)) dX1_init_40 ⟨(Nat.le_of_ble_eq_true rfl), (Nat.le_of_ble_eq_true rfl)⟩) hS (fun q _ h => hFc q h) hFc (fun u_17 t H1 locs ht hvm hw hB hz1 hk1 hS1 => ?_)
  obtain ⟨hP1, hD1⟩ := hB
  rw [ht] at hP1
  obtain ⟨hP, hD⟩ := va_join (wr := [(h0, .inr (1, [.ref q_9, .ref q_12, .null, .null, .int 0, .int 0])), (q_9, .inr (3, [.ref u_11, .int 0])), (u_11, .inl (cI, 150, .inl (fun _ => 0))), (q_12, .inr (3, [.ref u_14, .int 0])), (u_14, .inl (cI, 150, .inl (fun _ => 0)))]) (w1 := [(q_15, .inr (3, [.ref u_17, .int 0])), (u_17, .inl (cI, 150, .inl (fun _ => 0)))]) hP hD [5] [0, 1, 2, 3, 4] rfl rfl (by decide) (by decide) hk1 hFc hP1 hD1
  have hS := hS1
  clear hS1
  generalize H1 = H at hP hS ht ⊢
  have hP : va_P (dC, dI) vwCl [(h0, .inr (1, [.ref q_9, .ref q_12, .null, .null, .int 0, .int 0])), (q_9, .inr (3, [.ref u_11, .int 0])), (u_11, .inl (cI, 150, .inl (fun _ => 0))), (q_12, .inr (3, [.ref u_14, .int 0])), (u_14, .inl (cI, 150, .inl (fun _ => 0))), (q_15, .inr (3, [.ref u_17, .int 0])), (u_17, .inl (cI, 150, .inl (fun _ => 0)))] H := hP
  have hD : va_D A [(h0, .inr (1, [.ref q_9, .ref q_12, .null, .null, .int 0, .int 0])), (q_9, .inr (3, [.ref u_11, .int 0])), (u_11, .inl (cI, 150, .inl (fun _ => 0))), (q_12, .inr (3, [.ref u_14, .int 0])), (u_14, .inl (cI, 150, .inl (fun _ => 0))), (q_15, .inr (3, [.ref u_17, .int 0])), (u_17, .inl (cI, 150, .inl (fun _ => 0)))] := hD
  refine W.widen (k := 6) (n := 456) (by omega) (by omega) ?_
  have w40 := hw
  refine va_putF (D := (dC, dI)) (ci := 1) (v := .ref q_15) (ty := (.object "DeltaCodec$Row")) (C := RX1) (T := TX1) (N := 6) hx hb hts (by decide +kernel) tyX1 tyX1_ok nmX1 hown hK hP hD hS 0 rfl rfl 2 (by decide) (hts (.fieldLink RX1 23 "DeltaCodec$Plan" "operands" "LDeltaCodec$Row;") (by decide +kernel)) (fun _ h9 => h9) rfl hin rfl (by decide +kernel) rfl rfl (Nat.le_of_ble_eq_true rfl) dX1_init_43 (fun H locs hP hD hS => ?_)
  have hP : va_P (dC, dI) vwCl [(h0, .inr (1, [.ref q_9, .ref q_12, .ref q_15, .null, .int 0, .int 0])), (q_9, .inr (3, [.ref u_11, .int 0])), (u_11, .inl (cI, 150, .inl (fun _ => 0))), (q_12, .inr (3, [.ref u_14, .int 0])), (u_14, .inl (cI, 150, .inl (fun _ => 0))), (q_15, .inr (3, [.ref u_17, .int 0])), (u_17, .inl (cI, 150, .inl (fun _ => 0)))] H := hP
  have hD : va_D A [(h0, .inr (1, [.ref q_9, .ref q_12, .ref q_15, .null, .int 0, .int 0])), (q_9, .inr (3, [.ref u_11, .int 0])), (u_11, .inl (cI, 150, .inl (fun _ => 0))), (q_12, .inr (3, [.ref u_14, .int 0])), (u_14, .inl (cI, 150, .inl (fun _ => 0))), (q_15, .inr (3, [.ref u_17, .int 0])), (u_17, .inl (cI, 150, .inl (fun _ => 0)))] := hD
  refine lv_aload_n hx hb dX1_init_46 rfl (lv_at hl 0 rfl) ?_
  refine va_new (ci := 3) (fs := [.null, .int 0]) (C := RX3) (T := TX3) (N := 2) hx hb hts (by decide +kernel) tyX3 tyX3_ok hown (hts (.classLink RX1 9 RX3) (by decide +kernel)) (hts (.instantiable RX3 2) (by decide +kernel)) (hts (.initialized RX3) (by decide +kernel)) hK hP hD hS hA rfl (fun j hj => by rcases (show j = 0 ∨ j = 1 by omega) with rfl | rfl <;> rfl) (Nat.le_of_ble_eq_true rfl) (Nat.le_of_ble_eq_true rfl) dX1_init_47 (fun q_18 H hP hD hS => ?_)
  have hP : va_P (dC, dI) vwCl [(h0, .inr (1, [.ref q_9, .ref q_12, .ref q_15, .null, .int 0, .int 0])), (q_9, .inr (3, [.ref u_11, .int 0])), (u_11, .inl (cI, 150, .inl (fun _ => 0))), (q_12, .inr (3, [.ref u_14, .int 0])), (u_14, .inl (cI, 150, .inl (fun _ => 0))), (q_15, .inr (3, [.ref u_17, .int 0])), (u_17, .inl (cI, 150, .inl (fun _ => 0))), (q_18, .inr (3, [.null, .int 0]))] H := hP
  have hD : va_D A [(h0, .inr (1, [.ref q_9, .ref q_12, .ref q_15, .null, .int 0, .int 0])), (q_9, .inr (3, [.ref u_11, .int 0])), (u_11, .inl (cI, 150, .inl (fun _ => 0))), (q_12, .inr (3, [.ref u_14, .int 0])), (u_14, .inl (cI, 150, .inl (fun _ => 0))), (q_15, .inr (3, [.ref u_17, .int 0])), (u_17, .inl (cI, 150, .inl (fun _ => 0))), (q_18, .inr (3, [.null, .int 0]))] := hD
  refine W.widen (k := 7) (n := 458) (by omega) (by omega) ?_
  refine lv_dup hx hb dX1_init_50 rfl ?_
  refine lv_sipush (v := 150) hx hb dX1_init_51 (by decide) ?_
  have hPc := hP.sub (ws' := [(q_18, .inr (3, [.null, .int 0]))]) [7] rfl
  have hDc := hD.sub (ws' := [(q_18, .inr (3, [.null, .int 0]))]) [7] (by decide) rfl
  have hFc := va_free (wc := [(q_18, .inr (3, [.null, .int 0]))]) hD hS hA [7] rfl
  have hKc := hK.sub (tys' := [(cI, .int)]) [0] rfl
  refine va_callv (va_runI (As := [.int 150]) (rest := [.ref q_18, .ref h0]) ⟨hx, hb, hml, hown, hts⟩ (c_X3_init l dC dI cI q_18 150 150 H.size (by decide) (by decide) (by decide)) (cwI 1 hts gX1_init_X3_init rfl rfl rfl (hts (.initialized RX3) (by decide +kernel)) (hts (.methodLink RX1 11 yX3_init) (by decide +kernel)) (hts (.instanceMethod yX3_init) (by decide +kernel)) rfl (by decide +kernel) ⟨Nat.le_of_ble_eq_true rfl, Nat.le_of_ble_eq_true rfl⟩) ⟨fun a U g mk q => by obtain ⟨q0, q1, qP, qK, qD⟩ := q; exact ⟨q0, q1, qP, va_K.moved (u := U) (U := U.calling g mk a) (Vm.Alike.refl U.vm) qK, qD⟩, fun U hU hW => ⟨rfl, by rw [hU], by rw [hU]; exact hPc, va_K.moved hW.alike hKc, zz_D hDc⟩⟩ rfl rfl hl.1 rfl (lv_room (Nat.le_of_ble_eq_true rfl)) dX1_init_54 ⟨(Nat.le_of_ble_eq_true rfl), (Nat.le_of_ble_eq_true rfl)⟩) hS (fun q _ h => hFc q h) hFc (fun u_20 t H1 locs ht hvm hw hB hz1 hk1 hS1 => ?_)
  obtain ⟨hP1, hD1⟩ := hB
  rw [ht] at hP1
  obtain ⟨hP, hD⟩ := va_join (wr := [(h0, .inr (1, [.ref q_9, .ref q_12, .ref q_15, .null, .int 0, .int 0])), (q_9, .inr (3, [.ref u_11, .int 0])), (u_11, .inl (cI, 150, .inl (fun _ => 0))), (q_12, .inr (3, [.ref u_14, .int 0])), (u_14, .inl (cI, 150, .inl (fun _ => 0))), (q_15, .inr (3, [.ref u_17, .int 0])), (u_17, .inl (cI, 150, .inl (fun _ => 0)))]) (w1 := [(q_18, .inr (3, [.ref u_20, .int 0])), (u_20, .inl (cI, 150, .inl (fun _ => 0)))]) hP hD [7] [0, 1, 2, 3, 4, 5, 6] rfl rfl (by decide) (by decide) hk1 hFc hP1 hD1
  have hS := hS1
  clear hS1
  generalize H1 = H at hP hS ht ⊢
  have hP : va_P (dC, dI) vwCl [(h0, .inr (1, [.ref q_9, .ref q_12, .ref q_15, .null, .int 0, .int 0])), (q_9, .inr (3, [.ref u_11, .int 0])), (u_11, .inl (cI, 150, .inl (fun _ => 0))), (q_12, .inr (3, [.ref u_14, .int 0])), (u_14, .inl (cI, 150, .inl (fun _ => 0))), (q_15, .inr (3, [.ref u_17, .int 0])), (u_17, .inl (cI, 150, .inl (fun _ => 0))), (q_18, .inr (3, [.ref u_20, .int 0])), (u_20, .inl (cI, 150, .inl (fun _ => 0)))] H := hP
  have hD : va_D A [(h0, .inr (1, [.ref q_9, .ref q_12, .ref q_15, .null, .int 0, .int 0])), (q_9, .inr (3, [.ref u_11, .int 0])), (u_11, .inl (cI, 150, .inl (fun _ => 0))), (q_12, .inr (3, [.ref u_14, .int 0])), (u_14, .inl (cI, 150, .inl (fun _ => 0))), (q_15, .inr (3, [.ref u_17, .int 0])), (u_17, .inl (cI, 150, .inl (fun _ => 0))), (q_18, .inr (3, [.ref u_20, .int 0])), (u_20, .inl (cI, 150, .inl (fun _ => 0)))] := hD
  refine W.widen (k := 8) (n := 608) (by omega) (by omega) ?_
  have w54 := hw
  refine va_putF (D := (dC, dI)) (ci := 1) (v := .ref q_18) (ty := (.object "DeltaCodec$Row")) (C := RX1) (T := TX1) (N := 6) hx hb hts (by decide +kernel) tyX1 tyX1_ok nmX1 hown hK hP hD hS 0 rfl rfl 3 (by decide) (hts (.fieldLink RX1 26 "DeltaCodec$Plan" "starts" "LDeltaCodec$Row;") (by decide +kernel)) (fun _ h9 => h9) rfl hin rfl (by decide +kernel) rfl rfl (Nat.le_of_ble_eq_true rfl) dX1_init_57 (fun H locs hP hD hS => ?_)
  have hP : va_P (dC, dI) vwCl [(h0, .inr (1, [.ref q_9, .ref q_12, .ref q_15, .ref q_18, .int 0, .int 0])), (q_9, .inr (3, [.ref u_11, .int 0])), (u_11, .inl (cI, 150, .inl (fun _ => 0))), (q_12, .inr (3, [.ref u_14, .int 0])), (u_14, .inl (cI, 150, .inl (fun _ => 0))), (q_15, .inr (3, [.ref u_17, .int 0])), (u_17, .inl (cI, 150, .inl (fun _ => 0))), (q_18, .inr (3, [.ref u_20, .int 0])), (u_20, .inl (cI, 150, .inl (fun _ => 0)))] H := hP
  have hD : va_D A [(h0, .inr (1, [.ref q_9, .ref q_12, .ref q_15, .ref q_18, .int 0, .int 0])), (q_9, .inr (3, [.ref u_11, .int 0])), (u_11, .inl (cI, 150, .inl (fun _ => 0))), (q_12, .inr (3, [.ref u_14, .int 0])), (u_14, .inl (cI, 150, .inl (fun _ => 0))), (q_15, .inr (3, [.ref u_17, .int 0])), (u_17, .inl (cI, 150, .inl (fun _ => 0))), (q_18, .inr (3, [.ref u_20, .int 0])), (u_20, .inl (cI, 150, .inl (fun _ => 0)))] := hD
  refine lv_aload_n hx hb dX1_init_60 rfl (lv_at hl 0 rfl) ?_
  refine lv_iconst (v := 0) hx hb dX1_init_61 (by decide) ?_
  refine va_put (D := (dC, dI)) (ci := 1) (v := .int 0) (ty := .int) (C := RX1) (T := TX1) (N := 6) hx hb hts (by decide +kernel) tyX1 tyX1_ok nmX1 hown hK hP hD hS 0 rfl rfl 4 (by decide) (hts (.fieldLink RX1 29 "DeltaCodec$Plan" "codeBytes" "I") (by decide +kernel)) (fun _ h9 => h9) rfl (by decide +kernel) rfl rfl (Nat.le_of_ble_eq_true rfl) dX1_init_62 (fun H locs hP hD hS => ?_)
  have hP : va_P (dC, dI) vwCl [(h0, .inr (1, [.ref q_9, .ref q_12, .ref q_15, .ref q_18, .int 0, .int 0])), (q_9, .inr (3, [.ref u_11, .int 0])), (u_11, .inl (cI, 150, .inl (fun _ => 0))), (q_12, .inr (3, [.ref u_14, .int 0])), (u_14, .inl (cI, 150, .inl (fun _ => 0))), (q_15, .inr (3, [.ref u_17, .int 0])), (u_17, .inl (cI, 150, .inl (fun _ => 0))), (q_18, .inr (3, [.ref u_20, .int 0])), (u_20, .inl (cI, 150, .inl (fun _ => 0)))] H := hP
  have hD : va_D A [(h0, .inr (1, [.ref q_9, .ref q_12, .ref q_15, .ref q_18, .int 0, .int 0])), (q_9, .inr (3, [.ref u_11, .int 0])), (u_11, .inl (cI, 150, .inl (fun _ => 0))), (q_12, .inr (3, [.ref u_14, .int 0])), (u_14, .inl (cI, 150, .inl (fun _ => 0))), (q_15, .inr (3, [.ref u_17, .int 0])), (u_17, .inl (cI, 150, .inl (fun _ => 0))), (q_18, .inr (3, [.ref u_20, .int 0])), (u_20, .inl (cI, 150, .inl (fun _ => 0)))] := hD
  refine lv_aload_n hx hb dX1_init_65 rfl (lv_at hl 0 rfl) ?_
  refine lv_iconst (v := 0) hx hb dX1_init_66 (by decide) ?_
  refine va_put (D := (dC, dI)) (ci := 1) (v := .int 0) (ty := .boolean) (C := RX1) (T := TX1) (N := 6) hx hb hts (by decide +kernel) tyX1 tyX1_ok nmX1 hown hK hP hD hS 0 rfl rfl 5 (by decide) (hts (.fieldLink RX1 33 "DeltaCodec$Plan" "isMade" "Z") (by decide +kernel)) (fun _ h9 => h9) rfl (by decide +kernel) (by decide) rfl (Nat.le_of_ble_eq_true rfl) dX1_init_67 (fun H locs hP hD hS => ?_)
  have hP : va_P (dC, dI) vwCl [(h0, .inr (1, [.ref q_9, .ref q_12, .ref q_15, .ref q_18, .int 0, .int 0])), (q_9, .inr (3, [.ref u_11, .int 0])), (u_11, .inl (cI, 150, .inl (fun _ => 0))), (q_12, .inr (3, [.ref u_14, .int 0])), (u_14, .inl (cI, 150, .inl (fun _ => 0))), (q_15, .inr (3, [.ref u_17, .int 0])), (u_17, .inl (cI, 150, .inl (fun _ => 0))), (q_18, .inr (3, [.ref u_20, .int 0])), (u_20, .inl (cI, 150, .inl (fun _ => 0)))] H := hP
  have hD : va_D A [(h0, .inr (1, [.ref q_9, .ref q_12, .ref q_15, .ref q_18, .int 0, .int 0])), (q_9, .inr (3, [.ref u_11, .int 0])), (u_11, .inl (cI, 150, .inl (fun _ => 0))), (q_12, .inr (3, [.ref u_14, .int 0])), (u_14, .inl (cI, 150, .inl (fun _ => 0))), (q_15, .inr (3, [.ref u_17, .int 0])), (u_17, .inl (cI, 150, .inl (fun _ => 0))), (q_18, .inr (3, [.ref u_20, .int 0])), (u_20, .inl (cI, 150, .inl (fun _ => 0)))] := hD
  have hP9 := hP.sub (ws' := [(h0, .inr (1, [.ref q_9, .ref q_12, .ref q_15, .ref q_18, .int 0, .int 0])), (q_9, .inr (3, [.ref u_11, .int 0])), (u_11, .inl (cI, 150, .inl (fun _ => 0))), (q_12, .inr (3, [.ref u_14, .int 0])), (u_14, .inl (cI, 150, .inl (fun _ => 0))), (q_15, .inr (3, [.ref u_17, .int 0])), (u_17, .inl (cI, 150, .inl (fun _ => 0))), (q_18, .inr (3, [.ref u_20, .int 0])), (u_20, .inl (cI, 150, .inl (fun _ => 0)))]) [0, 1, 2, 3, 4, 5, 6, 7, 8] rfl
  have hD9 := hD.sub (ws' := [(h0, .inr (1, [.ref q_9, .ref q_12, .ref q_15, .ref q_18, .int 0, .int 0])), (q_9, .inr (3, [.ref u_11, .int 0])), (u_11, .inl (cI, 150, .inl (fun _ => 0))), (q_12, .inr (3, [.ref u_14, .int 0])), (u_14, .inl (cI, 150, .inl (fun _ => 0))), (q_15, .inr (3, [.ref u_17, .int 0])), (u_17, .inl (cI, 150, .inl (fun _ => 0))), (q_18, .inr (3, [.ref u_20, .int 0])), (u_20, .inl (cI, 150, .inl (fun _ => 0)))]) [0, 1, 2, 3, 4, 5, 6, 7, 8] (by decide) rfl
  exact W.vret hx hb hr (fun t ht hW => ⟨⟨(q_9, u_11, q_12, u_14, q_15, u_17, q_18, u_20), rfl, trivial, ⟨by rw [ht]; exact hP9, hD9⟩⟩, hS.F ht⟩) hS.2.2 dX1_init_70
set_option maxHeartbeats 4000000 in
set_option maxRecDepth 100000 in
theorem c_X1_forget (l : Launch) (dC : Nat → ClassId) (dI : Nat → Nat → Nat) (h0 : Nat) (k1 : Nat) (k2 : Nat) (k3 : Nat) (k4 : Nat) (kb : Int32) (km : Int32) (sz : Nat) : Met l yX1_forget wsX1_forget ({ frames := 0, cells := 0, slots := 0, locals := 0 }) (va_Pc [.ref h0] (fun U => U.heap.size = sz ∧ va_P (dC, dI) vwCl [(h0, .inr (1, [.ref k1, .ref k2, .ref k3, .ref k4, .int kb, .int km]))] U.heap ∧ va_K (dC, dI) vwCl [] U ∧ va_D (fun _ => True) [(h0, .inr (1, [.ref k1, .ref k2, .ref k3, .ref k4, .int kb, .int km]))])) (va_Qv (fun _ : Unit => True) (fun _ t => va_P (dC, dI) vwCl [(h0, .inr (1, [.ref k1, .ref k2, .ref k3, .ref k4, .int kb, .int 0]))] t.heap ∧ va_D (va_A [(h0, .inr (1, [.ref k1, .ref k2, .ref k3, .ref k4, .int kb, .int km]))] sz) [(h0, .inr (1, [.ref k1, .ref k2, .ref k3, .ref k4, .int kb, .int 0]))]) (va_A [(h0, .inr (1, [.ref k1, .ref k2, .ref k3, .ref k4, .int kb, .int km]))] sz)) 0 0 (va_A [(h0, .inr (1, [.ref k1, .ref k2, .ref k3, .ref k4, .int kb, .int km]))] sz) := by
  refine Met.ofW (cc := cX1_forget) (maxL := 1) (ret := none) (by decide) rfl ?_
  intro p e s m args below meth c s₁ B hml hv
  obtain ⟨rfl, hsz, hP, hK, hD0⟩ := hv
  have hx := B.exec
  have hb := B.bytes
  have hr := B.returns
  have hts := atoms_spec (ws := wsX1_forget) B.pre
  have hown : s.vm.findClass RX1 = some m.cls := findClass_of_methodNamed B.named
  have hlocks := B.notSynchronized
  subst hsz
  have hD := hD0.self (sz := s.heap.size)
  generalize hAe : va_A [(h0, .inr (1, [.ref k1, .ref k2, .ref k3, .ref k4, .int kb, .int km]))] s.heap.size = A at hD ⊢
  have hA : ∀ q : Nat, s.heap.size ≤ q → A q := fun q h => by rw [← hAe]; exact Or.inr h
  have hS : va_S A s.heap s.heap [] := va_S.rf
  have hP : va_P (dC, dI) vwCl [(h0, .inr (1, [.ref k1, .ref k2, .ref k3, .ref k4, .int kb, .int km]))] s.heap := hP
  have hl := lv_entry ([.ref h0]) (n := 1) (Nat.le_of_ble_eq_true rfl)
  rw [lg_entry_eq]
  generalize (lg_sl ([.ref h0]) ++ List.replicate (1 - (lg_sl ([.ref h0])).length) Slot.unset).toArray = ls at hl ⊢
  have hl : lv_has ls 1 [(0, .ref h0)] := hl
  refine lv_aload_n hx hb dX1_forget_0 rfl (lv_at hl 0 rfl) ?_
  refine lv_iconst (v := 0) hx hb dX1_forget_1 (by decide) ?_
  refine va_put (D := (dC, dI)) (ci := 1) (v := .int 0) (ty := .boolean) (C := RX1) (T := TX1) (N := 6) hx hb hts (by decide +kernel) tyX1 tyX1_ok nmX1 hown hK hP hD hS 0 rfl rfl 5 (by decide) (hts (.fieldLink RX1 33 "DeltaCodec$Plan" "isMade" "Z") (by decide +kernel)) (fun _ h9 => h9) rfl (by decide +kernel) (by decide) rfl (Nat.le_of_ble_eq_true rfl) dX1_forget_2 (fun H locs hP hD hS => ?_)
  have hP : va_P (dC, dI) vwCl [(h0, .inr (1, [.ref k1, .ref k2, .ref k3, .ref k4, .int kb, .int 0]))] H := hP
  have hD : va_D A [(h0, .inr (1, [.ref k1, .ref k2, .ref k3, .ref k4, .int kb, .int 0]))] := hD
  have hP9 := hP.sub (ws' := [(h0, .inr (1, [.ref k1, .ref k2, .ref k3, .ref k4, .int kb, .int 0]))]) [0] rfl
  have hD9 := hD.sub (ws' := [(h0, .inr (1, [.ref k1, .ref k2, .ref k3, .ref k4, .int kb, .int 0]))]) [0] (by decide) rfl
  exact W.vret hx hb hr (fun t ht hW => ⟨⟨(), rfl, trivial, ⟨by rw [ht]; exact hP9, hD9⟩⟩, hS.F ht⟩) hS.2.2 dX1_forget_5
set_option maxHeartbeats 4000000 in
set_option maxRecDepth 100000 in
theorem c_X1_count (l : Launch) (dC : Nat → ClassId) (dI : Nat → Nat → Nat) (h0 : Nat) (k1 : Nat) (k2 : Nat) (k3 : Nat) (k4 : Nat) (kb : Int32) (km : Int32) (ka : Nat) (kc : Int32) (sz : Nat) : Met l yX1_count wsX1_count ({ frames := 1, cells := 0, slots := 0, locals := 20 }) (va_Pc [.ref h0] (fun U => U.heap.size = sz ∧ va_P (dC, dI) vwCl [(h0, .inr (1, [.ref k1, .ref k2, .ref k3, .ref k4, .int kb, .int km])), (k1, .inr (3, [.ref ka, .int kc]))] U.heap ∧ va_K (dC, dI) vwCl [] U ∧ va_D (fun _ => True) [(h0, .inr (1, [.ref k1, .ref k2, .ref k3, .ref k4, .int kb, .int km])), (k1, .inr (3, [.ref ka, .int kc]))])) (va_Qi (fun (r : Int32) (_ : Unit) => r = kc) (fun _ _ => True) (fun q : Nat => sz ≤ q)) 0 0 (fun q : Nat => sz ≤ q) := by
  refine Met.ofW (cc := cX1_count) (maxL := 1) (ret := (some .int)) (by decide) rfl ?_
  intro p e s m args below meth c s₁ B hml hv
  obtain ⟨rfl, hsz, hP, hK, hD0⟩ := hv
  have hx := B.exec
  have hb := B.bytes
  have hr := B.returns
  have hts := atoms_spec (ws := wsX1_count) B.pre
  have hown : s.vm.findClass RX1 = some m.cls := findClass_of_methodNamed B.named
  have hlocks := B.notSynchronized
  subst hsz
  generalize hAe : (fun q : Nat => s.heap.size ≤ q) = A
  have hA : ∀ q : Nat, s.heap.size ≤ q → A q := fun q h => by rw [← hAe]; exact h
  have hS : va_S A s.heap s.heap [] := va_S.rf
  have hP : va_P (dC, dI) vwCl [(h0, .inr (1, [.ref k1, .ref k2, .ref k3, .ref k4, .int kb, .int km])), (k1, .inr (3, [.ref ka, .int kc]))] s.heap := hP
  have hl := lv_entry ([.ref h0]) (n := 1) (Nat.le_of_ble_eq_true rfl)
  rw [lg_entry_eq]
  generalize (lg_sl ([.ref h0]) ++ List.replicate (1 - (lg_sl ([.ref h0])).length) Slot.unset).toArray = ls at hl ⊢
  have hl : lv_has ls 1 [(0, .ref h0)] := hl
  refine lv_aload_n hx hb dX1_count_0 rfl (lv_at hl 0 rfl) ?_
  refine va_get (D := (dC, dI)) (ci := 1) (v := .ref k1) (C := RX1) (T := TX1) (N := 6) hx hb hts (by decide +kernel) hown hK hP 0 rfl rfl 0 (by decide) (hts (.fieldLink RX1 14 "DeltaCodec$Plan" "kinds" "LDeltaCodec$Row;") (by decide +kernel)) (fun _ h9 => h9) rfl dX1_count_1 ?_
  have hPc := hP.sub (ws' := [(k1, .inr (3, [.ref ka, .int kc]))]) [1] rfl
  have hFc : ∀ q : Nat, s.heap.size ≤ q → A q := fun q h => hA q (Nat.le_trans hS.1 h)
  have hKc := hK.sub (tys' := []) [] rfl
  refine va_calli (va_runV (As := []) (rest := []) ⟨hx, hb, hml, hown, hts⟩ (c_X3_count l dC dI k1 ka kc s.heap.size) (cwV 0 hts gX1_count_X3_count rfl rfl rfl (by decide +kernel) ⟨Nat.le_of_ble_eq_true rfl, Nat.le_of_ble_eq_true rfl⟩) ⟨fun a U g mk q => by obtain ⟨q0, q1, qP, qK, qD⟩ := q; exact ⟨q0, q1, qP, va_K.moved (u := U) (U := U.calling g mk a) (Vm.Alike.refl U.vm) qK, qD⟩, va_recv hKc hPc (ci := 3) (q0 := 0) rfl rfl, fun U hU hW => ⟨rfl, by rw [hU], by rw [hU]; exact hPc, va_K.moved hW.alike hKc, hD0.sub (ws' := [(k1, .inr (3, [.ref ka, .int kc]))]) [1] (by decide) rfl⟩⟩ rfl rfl hl.1 rfl (lv_room (Nat.le_of_ble_eq_true rfl)) dX1_count_4 ⟨(Nat.le_of_ble_eq_true rfl), (Nat.le_of_ble_eq_true rfl)⟩) hS (fun q h1 h2 => absurd h1 (Nat.not_lt.mpr h2)) hFc (fun r_21 u_22 t H1 locs ht hvm hw hB hz1 hk1 hS1 => ?_)
  have hP := zz_keep hP hk1
  have hS := hS1
  clear hS1
  generalize H1 = H at hP hS ht ⊢
  have hP : va_P (dC, dI) vwCl [(h0, .inr (1, [.ref k1, .ref k2, .ref k3, .ref k4, .int kb, .int km])), (k1, .inr (3, [.ref ka, .int kc]))] H := hP
  obtain rfl : kc = r_21 := (show r_21 = kc from hw).symm
  exact W.iret (v := kc) hx hb hr (fun t ht hW => ⟨⟨kc, (), rfl, rfl, trivial⟩, hS.F ht⟩) hS.2.2 dX1_count_7
