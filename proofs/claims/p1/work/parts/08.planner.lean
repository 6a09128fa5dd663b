set_option maxHeartbeats 4000000 in
set_option maxRecDepth 100000 in
theorem lo_fill {p : Program} {l : Launch} {e : Env} {s : State} {m : MethodId} {args : Array Value} {below : List Frame} {meth : Method} {c : Code} {Q : State → Prop} {A : Nat → Prop} (dC : Nat → ClassId) (dI : Nat → Nat → Nat) (cI : ClassId) (h0 : Nat) (kn : Nat) (kf : Nat → Int32) (p0 : Int32) (hn : kn < 2 ^ 31) (hx : p.tables.exec = Jvm.exec) (hb : c.code = cJ7_fill_53178) (hml : c.maxLocals = 4) (hown : s.vm.findClass RJ7 = some m.cls) (hts : ∀ w ∈ wsJ7_fill_53178, w.before args s = true) (hA : ∀ q : Nat, s.heap.size ≤ q → A q) (hK : va_K (dC, dI) vwCl [(cI, .int)] s)
    (kk : ∀ (i : Nat) (x : Int32) (kg : Nat → Int32) (H : Heap) (locs : List Loc) (ls : Array Slot), va_P (dC, dI) vwCl [(h0, .inl (cI, kn, .inl kg))] H → va_D A [(h0, .inl (cI, kn, .inl kg))] → va_S A s.heap H locs → lv_has ls 4 [(2, .int x), (3, .int (nI kn)), (0, .ref h0), (1, .int p0)] → W p l e (headSpec wsJ7_fill_53178 ({ frames := 0, cells := 0, slots := 0, locals := 0 })).room s m args below meth c H locs 0 0 Q (F0 m 20 ls []))
    : ∀ (j : Nat) (i : Nat) (x : Int32) (kg : Nat → Int32) (H : Heap) (locs : List Loc) (ls : Array Slot), kn - i < j → (i ≤ kn) → (x = nI i) → va_P (dC, dI) vwCl [(h0, .inl (cI, kn, .inl kg))] H → va_D A [(h0, .inl (cI, kn, .inl kg))] → va_S A s.heap H locs → lv_has ls 4 [(2, .int x), (3, .int (nI kn)), (0, .ref h0), (1, .int p0)] → W p l e (headSpec wsJ7_fill_53178 ({ frames := 0, cells := 0, slots := 0, locals := 0 })).room s m args below meth c H locs 0 0 Q (F0 m 5 ls []) := by
  intro j
  induction j with
  | zero => intro i x kg H locs ls hj; omega
  | succ j ih =>
    intro i x kg H locs ls hj hi hx1 hP hD hS hl
    refine lv_iload_n hx hb dJ7_fill_53178_5 rfl (lv_at hl 0 rfl) ?_
    refine lv_iload_n hx hb dJ7_fill_53178_6 rfl (lv_at hl 1 rfl) ?_
    refine lv_icmp_ge (tgt := 20) hx hb dJ7_fill_53178_7 (by decide) (fun c7 => ?_) (fun c7 => ?_)
    · skip
      exact kk i x kg H locs ls  (hP.sub [0] rfl) (hD.sub [0] (by decide) rfl) hS (lv_sub hl [0, 1, 2, 3] rfl)
    · skip
      have hlt : i < kn := Nat.lt_of_not_le (fun q => c7 (by rw [hx1]; exact nI_le q (by omega)))
      refine lv_aload_n hx hb dJ7_fill_53178_10 rfl (lv_at hl 2 rfl) ?_
      refine lv_iload_n hx hb dJ7_fill_53178_11 rfl (lv_at hl 0 rfl) ?_
      refine lv_iload_n hx hb dJ7_fill_53178_12 rfl (lv_at hl 3 rfl) ?_
      refine va_iast hx hb hK hP hD hS 0 0 rfl rfl (by rw [hx1]; exact vp_in_nI hlt hn) dJ7_fill_53178_13 (fun H locs hP hD hS => ?_)
      obtain ⟨f_31, ef_31⟩ : ∃ g, g = upd kg (x : Int32).toNatClampNeg p0 := ⟨_, rfl⟩
      rw [← ef_31] at hP hD
      have hP : va_P (dC, dI) vwCl [(h0, .inl (cI, kn, .inl f_31))] H := hP
      have hD : va_D A [(h0, .inl (cI, kn, .inl f_31))] := hD
      obtain ⟨x_32, ex_32⟩ : ∃ y : Int32, y = x + 1 := ⟨_, rfl⟩
      refine lv_iinc (v := x_32) (lv' := [(2, .int x_32), (3, .int (nI kn)), (0, .ref h0), (1, .int p0)]) hx hb dJ7_fill_53178_14 hl (k := 0) rfl (by rw [ex_32]; rfl) (by decide) rfl (fun ls hl => ?_)
      refine lv_goto (tgt := 5) hx hb dJ7_fill_53178_17 (by decide) ?_
      exact ih (i + 1) x_32 f_31 H locs ls (by omega) (by omega) (by rw [ex_32, hx1]; exact nI_1 i) (hP.sub [0] rfl) (hD.sub [0] (by decide) rfl) hS (lv_sub hl [0, 1, 2, 3] rfl)
set_option maxHeartbeats 4000000 in
set_option maxRecDepth 100000 in
theorem c_J7_fill_53178 (l : Launch) (dC : Nat → ClassId) (dI : Nat → Nat → Nat) (cI : ClassId) (h0 : Nat) (kn : Nat) (kf : Nat → Int32) (p0 : Int32) (sz : Nat) (hn : kn < 2 ^ 31) : Met l yJ7_fill_53178 wsJ7_fill_53178 ({ frames := 0, cells := 0, slots := 0, locals := 0 }) (va_Pc [.ref h0, .int p0] (fun U => U.heap.size = sz ∧ va_P (dC, dI) vwCl [(h0, .inl (cI, kn, .inl kf))] U.heap ∧ va_K (dC, dI) vwCl [(cI, .int)] U ∧ va_D (fun _ => True) [(h0, .inl (cI, kn, .inl kf))])) (va_Qv (fun kg : Nat → Int32 => True) (fun kg t => va_P (dC, dI) vwCl [(h0, .inl (cI, kn, .inl kg))] t.heap ∧ va_D (va_A [(h0, .inl (cI, kn, .inl kf))] sz) [(h0, .inl (cI, kn, .inl kg))]) (va_A [(h0, .inl (cI, kn, .inl kf))] sz)) 0 0 (va_A [(h0, .inl (cI, kn, .inl kf))] sz) := by
  refine Met.ofW (cc := cJ7_fill_53178) (maxL := 4) (ret := none) (by decide) rfl ?_
  intro p e s m args below meth c s₁ B hml hv
  obtain ⟨rfl, hsz, hP, hK, hD0⟩ := hv
  have hx := B.exec
  have hb := B.bytes
  have hr := B.returns
  have hts := atoms_spec (ws := wsJ7_fill_53178) B.pre
  have hown : s.vm.findClass RJ7 = some m.cls := findClass_of_methodNamed B.named
  have hlocks := B.notSynchronized
  subst hsz
  have hD := hD0.self (sz := s.heap.size)
  generalize hAe : va_A [(h0, .inl (cI, kn, .inl kf))] s.heap.size = A at hD ⊢
  have hA : ∀ q : Nat, s.heap.size ≤ q → A q := fun q h => by rw [← hAe]; exact Or.inr h
  have hS : va_S A s.heap s.heap [] := va_S.rf
  have hP : va_P (dC, dI) vwCl [(h0, .inl (cI, kn, .inl kf))] s.heap := hP
  have hl := lv_entry ([.ref h0, .int p0]) (n := 4) (Nat.le_of_ble_eq_true rfl)
  rw [lg_entry_eq]
  generalize (lg_sl ([.ref h0, .int p0]) ++ List.replicate (4 - (lg_sl ([.ref h0, .int p0])).length) Slot.unset).toArray = ls at hl ⊢
  have hl : lv_has ls 4 [(0, .ref h0), (1, .int p0)] := hl
  refine lv_iconst (v := 0) hx hb dJ7_fill_53178_0 (by decide) ?_
  refine lv_istore_n (lv' := [(2, .int 0), (0, .ref h0), (1, .int p0)]) hx hb dJ7_fill_53178_1 rfl hl (by decide) rfl (fun ls hl => ?_)
  refine lv_aload_n hx hb dJ7_fill_53178_2 rfl (lv_at hl 1 rfl) ?_
  refine va_alen (v := nI kn) hx hb hK hP 0 0 rfl rfl rfl dJ7_fill_53178_3 ?_
  refine lv_istore_n (lv' := [(3, .int (nI kn)), (2, .int 0), (0, .ref h0), (1, .int p0)]) hx hb dJ7_fill_53178_4 rfl hl (by decide) rfl (fun ls hl => ?_)
  refine lo_fill dC dI cI h0 kn kf p0 hn hx hb hml hown hts hA hK ?_ (kn + 1) 0 0 kf s.heap [] ls (by omega) (by omega) nI_0.symm hP hD hS (lv_sub hl [1, 0, 2, 3] rfl)
  intro i x kg H locs ls hP hD hS hl
  have hP9 := hP.sub (ws' := [(h0, .inl (cI, kn, .inl kg))]) [0] rfl
  have hD9 := hD.sub (ws' := [(h0, .inl (cI, kn, .inl kg))]) [0] (by decide) rfl
  exact W.vret hx hb hr (fun t ht hW => ⟨⟨kg, rfl, trivial, ⟨by rw [ht]; exact hP9, hD9⟩⟩, hS.F ht⟩) hS.2.2 dJ7_fill_53178_20
set_option maxHeartbeats 4000000 in
set_option maxRecDepth 100000 in
theorem c_X2_init (l : Launch) (dC : Nat → ClassId) (dI : Nat → Nat → Nat) (cI : ClassId) (h0 : Nat) (sz : Nat) : Met l yX2_init wsX2_init ({ frames := 1, cells := 8, slots := 1208, locals := 20 }) (va_Pc [.ref h0] (fun U => U.heap.size = sz ∧ va_P (dC, dI) vwCl [(h0, .inr (2, [.null, .null, .null, .null, .null, .null, .null, .null]))] U.heap ∧ va_K (dC, dI) vwCl [(cI, .int)] U ∧ va_D (fun _ => True) [(h0, .inr (2, [.null, .null, .null, .null, .null, .null, .null, .null]))])) (va_Qv (fun _ : Nat × Nat × Nat × Nat × Nat × Nat × Nat × Nat => True) (fun u t => match u with | (p1, p2, p3, p4, p5, p6, p7, p8) => va_P (dC, dI) vwCl [(h0, .inr (2, [.ref p1, .ref p2, .ref p3, .ref p4, .ref p5, .ref p6, .ref p7, .ref p8])), (p1, .inl (cI, 151, .inl (fun _ => 0))), (p2, .inl (cI, 151, .inl (fun _ => 0))), (p3, .inl (cI, 151, .inl (fun _ => 0))), (p4, .inl (cI, 151, .inl (fun _ => 0))), (p5, .inl (cI, 151, .inl (fun _ => 0))), (p6, .inl (cI, 151, .inl (fun _ => 0))), (p7, .inl (cI, 151, .inl (fun _ => 0))), (p8, .inl (cI, 151, .inl (fun _ => 0)))] t.heap ∧ va_D (va_A [(h0, .inr (2, [.null, .null, .null, .null, .null, .null, .null, .null]))] sz) [(h0, .inr (2, [.ref p1, .ref p2, .ref p3, .ref p4, .ref p5, .ref p6, .ref p7, .ref p8])), (p1, .inl (cI, 151, .inl (fun _ => 0))), (p2, .inl (cI, 151, .inl (fun _ => 0))), (p3, .inl (cI, 151, .inl (fun _ => 0))), (p4, .inl (cI, 151, .inl (fun _ => 0))), (p5, .inl (cI, 151, .inl (fun _ => 0))), (p6, .inl (cI, 151, .inl (fun _ => 0))), (p7, .inl (cI, 151, .inl (fun _ => 0))), (p8, .inl (cI, 151, .inl (fun _ => 0)))]) (va_A [(h0, .inr (2, [.null, .null, .null, .null, .null, .null, .null, .null]))] sz)) 8 1208 (va_A [(h0, .inr (2, [.null, .null, .null, .null, .null, .null, .null, .null]))] sz) := by
  refine Met.ofW (cc := cX2_init) (maxL := 1) (ret := none) (by decide) rfl ?_
  intro p e s m args below meth c s₁ B hml hv
  obtain ⟨rfl, hsz, hP, hK, hD0⟩ := hv
  have hx := B.exec
  have hb := B.bytes
  have hr := B.returns
  have hts := atoms_spec (ws := wsX2_init) B.pre
  have hown : s.vm.findClass RX2 = some m.cls := findClass_of_methodNamed B.named
  have hlocks := B.notSynchronized
  have hin : meth.name = "<init>" := (name_of_methodNamed B.named B.method).1
  subst hsz
  have hD := hD0.self (sz := s.heap.size)
  generalize hAe : va_A [(h0, .inr (2, [.null, .null, .null, .null, .null, .null, .null, .null]))] s.heap.size = A at hD ⊢
  have hA : ∀ q : Nat, s.heap.size ≤ q → A q := fun q h => by rw [← hAe]; exact Or.inr h
  have hS : va_S A s.heap s.heap [] := va_S.rf
  have hP : va_P (dC, dI) vwCl [(h0, .inr (2, [.null, .null, .null, .null, .null, .null, .null, .null]))] s.heap := hP
  have hl := lv_entry ([.ref h0]) (n := 1) (Nat.le_of_ble_eq_true rfl)
  rw [lg_entry_eq]
  generalize (lg_sl ([.ref h0]) ++ List.replicate (1 - (lg_sl ([.ref h0])).length) Slot.unset).toArray = ls at hl ⊢
  have hl : lv_has ls 1 [(0, .ref h0)] := hl
  refine lv_aload_n hx hb dX2_init_0 rfl (lv_at hl 0 rfl) ?_
  refine W.objInit hx hb hown (hts (.methodLink RX2 3 objectInit) (by decide +kernel)) (hts (.instanceMethod objectInit) (by decide +kernel)) (hts (.code objectInit ⟨#[0xb1]⟩ 1 none) (by decide +kernel)) rfl (by rw [hml]; exact hl.1) rfl dX2_init_1 (Nat.le_of_ble_eq_true rfl) (Nat.le_of_ble_eq_true rfl) ?_
  refine W.eq (g2 := F0 m 4 ls []) rfl ?_
  refine lv_aload_n hx hb dX2_init_4 rfl (lv_at hl 0 rfl) ?_
  refine lv_sipush (v := 151) hx hb dX2_init_5 (by decide) ?_
  refine va_newa (atype := .int) (ty := .int) (N' := 151) (a0 := (151, .inl (fun _ => 0))) hx hb (hts (.arrayClass .int) (by decide +kernel)) rfl hK hP hD hS hA (fun _ => rfl) (by decide) (by decide) (by decide) (Nat.le_of_ble_eq_true rfl) (Nat.le_of_ble_eq_true rfl) dX2_init_8 (fun q_33 cA H hK hP hD hS => ?_)
  obtain rfl : cI = cA := (zz_same hK 0 1 rfl rfl).symm
  have hK := hK.sub (tys' := [(cI, .int)]) [0] rfl
  have hP : va_P (dC, dI) vwCl [(h0, .inr (2, [.null, .null, .null, .null, .null, .null, .null, .null])), (q_33, .inl (cI, 151, .inl (fun _ => 0)))] H := hP
  have hD : va_D A [(h0, .inr (2, [.null, .null, .null, .null, .null, .null, .null, .null])), (q_33, .inl (cI, 151, .inl (fun _ => 0)))] := hD
  refine W.widen (k := 1) (n := 151) (by omega) (by omega) ?_
  refine va_putF (D := (dC, dI)) (ci := 2) (v := .ref q_33) (ty := (.array .int)) (C := RX2) (T := TX2) (N := 8) hx hb hts (by decide +kernel) tyX2 tyX2_ok nmX2 hown hK hP hD hS 0 rfl rfl 0 (by decide) (hts (.fieldLink RX2 11 "DeltaCodec$Planner" "bytesLeft" "[I") (by decide +kernel)) (fun _ h9 => h9) rfl hin rfl (by decide +kernel) rfl rfl (Nat.le_of_ble_eq_true rfl) dX2_init_10 (fun H locs hP hD hS => ?_)
  have hP : va_P (dC, dI) vwCl [(h0, .inr (2, [.ref q_33, .null, .null, .null, .null, .null, .null, .null])), (q_33, .inl (cI, 151, .inl (fun _ => 0)))] H := hP
  have hD : va_D A [(h0, .inr (2, [.ref q_33, .null, .null, .null, .null, .null, .null, .null])), (q_33, .inl (cI, 151, .inl (fun _ => 0)))] := hD
  refine lv_aload_n hx hb dX2_init_13 rfl (lv_at hl 0 rfl) ?_
  refine lv_sipush (v := 151) hx hb dX2_init_14 (by decide) ?_
  refine va_newa (atype := .int) (ty := .int) (N' := 151) (a0 := (151, .inl (fun _ => 0))) hx hb (hts (.arrayClass .int) (by decide +kernel)) rfl hK hP hD hS hA (fun _ => rfl) (by decide) (by decide) (by decide) (Nat.le_of_ble_eq_true rfl) (Nat.le_of_ble_eq_true rfl) dX2_init_17 (fun q_34 cA H hK hP hD hS => ?_)
  obtain rfl : cI = cA := (zz_same hK 0 1 rfl rfl).symm
  have hK := hK.sub (tys' := [(cI, .int)]) [0] rfl
  have hP : va_P (dC, dI) vwCl [(h0, .inr (2, [.ref q_33, .null, .null, .null, .null, .null, .null, .null])), (q_33, .inl (cI, 151, .inl (fun _ => 0))), (q_34, .inl (cI, 151, .inl (fun _ => 0)))] H := hP
  have hD : va_D A [(h0, .inr (2, [.ref q_33, .null, .null, .null, .null, .null, .null, .null])), (q_33, .inl (cI, 151, .inl (fun _ => 0))), (q_34, .inl (cI, 151, .inl (fun _ => 0)))] := hD
  refine W.widen (k := 2) (n := 302) (by omega) (by omega) ?_
  refine va_putF (D := (dC, dI)) (ci := 2) (v := .ref q_34) (ty := (.array .int)) (C := RX2) (T := TX2) (N := 8) hx hb hts (by decide +kernel) tyX2 tyX2_ok nmX2 hown hK hP hD hS 0 rfl rfl 1 (by decide) (hts (.fieldLink RX2 15 "DeltaCodec$Planner" "stepsLeft" "[I") (by decide +kernel)) (fun _ h9 => h9) rfl hin rfl (by decide +kernel) rfl rfl (Nat.le_of_ble_eq_true rfl) dX2_init_19 (fun H locs hP hD hS => ?_)
  have hP : va_P (dC, dI) vwCl [(h0, .inr (2, [.ref q_33, .ref q_34, .null, .null, .null, .null, .null, .null])), (q_33, .inl (cI, 151, .inl (fun _ => 0))), (q_34, .inl (cI, 151, .inl (fun _ => 0)))] H := hP
  have hD : va_D A [(h0, .inr (2, [.ref q_33, .ref q_34, .null, .null, .null, .null, .null, .null])), (q_33, .inl (cI, 151, .inl (fun _ => 0))), (q_34, .inl (cI, 151, .inl (fun _ => 0)))] := hD
  refine lv_aload_n hx hb dX2_init_22 rfl (lv_at hl 0 rfl) ?_
  refine lv_sipush (v := 151) hx hb dX2_init_23 (by decide) ?_
  refine va_newa (atype := .int) (ty := .int) (N' := 151) (a0 := (151, .inl (fun _ => 0))) hx hb (hts (.arrayClass .int) (by decide +kernel)) rfl hK hP hD hS hA (fun _ => rfl) (by decide) (by decide) (by decide) (Nat.le_of_ble_eq_true rfl) (Nat.le_of_ble_eq_true rfl) dX2_init_26 (fun q_35 cA H hK hP hD hS => ?_)
  obtain rfl : cI = cA := (zz_same hK 0 1 rfl rfl).symm
  have hK := hK.sub (tys' := [(cI, .int)]) [0] rfl
  have hP : va_P (dC, dI) vwCl [(h0, .inr (2, [.ref q_33, .ref q_34, .null, .null, .null, .null, .null, .null])), (q_33, .inl (cI, 151, .inl (fun _ => 0))), (q_34, .inl (cI, 151, .inl (fun _ => 0))), (q_35, .inl (cI, 151, .inl (fun _ => 0)))] H := hP
  have hD : va_D A [(h0, .inr (2, [.ref q_33, .ref q_34, .null, .null, .null, .null, .null, .null])), (q_33, .inl (cI, 151, .inl (fun _ => 0))), (q_34, .inl (cI, 151, .inl (fun _ => 0))), (q_35, .inl (cI, 151, .inl (fun _ => 0)))] := hD
  refine W.widen (k := 3) (n := 453) (by omega) (by omega) ?_
  refine va_putF (D := (dC, dI)) (ci := 2) (v := .ref q_35) (ty := (.array .int)) (C := RX2) (T := TX2) (N := 8) hx hb hts (by decide +kernel) tyX2 tyX2_ok nmX2 hown hK hP hD hS 0 rfl rfl 2 (by decide) (hts (.fieldLink RX2 18 "DeltaCodec$Planner" "kinds" "[I") (by decide +kernel)) (fun _ h9 => h9) rfl hin rfl (by decide +kernel) rfl rfl (Nat.le_of_ble_eq_true rfl) dX2_init_28 (fun H locs hP hD hS => ?_)
  have hP : va_P (dC, dI) vwCl [(h0, .inr (2, [.ref q_33, .ref q_34, .ref q_35, .null, .null, .null, .null, .null])), (q_33, .inl (cI, 151, .inl (fun _ => 0))), (q_34, .inl (cI, 151, .inl (fun _ => 0))), (q_35, .inl (cI, 151, .inl (fun _ => 0)))] H := hP
  have hD : va_D A [(h0, .inr (2, [.ref q_33, .ref q_34, .ref q_35, .null, .null, .null, .null, .null])), (q_33, .inl (cI, 151, .inl (fun _ => 0))), (q_34, .inl (cI, 151, .inl (fun _ => 0))), (q_35, .inl (cI, 151, .inl (fun _ => 0)))] := hD
  refine lv_aload_n hx hb dX2_init_31 rfl (lv_at hl 0 rfl) ?_
  refine lv_sipush (v := 151) hx hb dX2_init_32 (by decide) ?_
  refine va_newa (atype := .int) (ty := .int) (N' := 151) (a0 := (151, .inl (fun _ => 0))) hx hb (hts (.arrayClass .int) (by decide +kernel)) rfl hK hP hD hS hA (fun _ => rfl) (by decide) (by decide) (by decide) (Nat.le_of_ble_eq_true rfl) (Nat.le_of_ble_eq_true rfl) dX2_init_35 (fun q_36 cA H hK hP hD hS => ?_)
  obtain rfl : cI = cA := (zz_same hK 0 1 rfl rfl).symm
  have hK := hK.sub (tys' := [(cI, .int)]) [0] rfl
  have hP : va_P (dC, dI) vwCl [(h0, .inr (2, [.ref q_33, .ref q_34, .ref q_35, .null, .null, .null, .null, .null])), (q_33, .inl (cI, 151, .inl (fun _ => 0))), (q_34, .inl (cI, 151, .inl (fun _ => 0))), (q_35, .inl (cI, 151, .inl (fun _ => 0))), (q_36, .inl (cI, 151, .inl (fun _ => 0)))] H := hP
  have hD : va_D A [(h0, .inr (2, [.ref q_33, .ref q_34, .ref q_35, .null, .null, .null, .null, .null])), (q_33, .inl (cI, 151, .inl (fun _ => 0))), (q_34, .inl (cI, 151, .inl (fun _ => 0))), (q_35, .inl (cI, 151, .inl (fun _ => 0))), (q_36, .inl (cI, 151, .inl (fun _ => 0)))] := hD
  refine W.widen (k := 4) (n := 604) (by omega) (by omega) ?_
  refine va_putF (D := (dC, dI)) (ci := 2) (v := .ref q_36) (ty := (.array .int)) (C := RX2) (T := TX2) (N := 8) hx hb hts (by decide +kernel) tyX2 tyX2_ok nmX2 hown hK hP hD hS 0 rfl rfl 3 (by decide) (hts (.fieldLink RX2 21 "DeltaCodec$Planner" "lengths" "[I") (by decide +kernel)) (fun _ h9 => h9) rfl hin rfl (by decide +kernel) rfl rfl (Nat.le_of_ble_eq_true rfl) dX2_init_37 (fun H locs hP hD hS => ?_)
  have hP : va_P (dC, dI) vwCl [(h0, .inr (2, [.ref q_33, .ref q_34, .ref q_35, .ref q_36, .null, .null, .null, .null])), (q_33, .inl (cI, 151, .inl (fun _ => 0))), (q_34, .inl (cI, 151, .inl (fun _ => 0))), (q_35, .inl (cI, 151, .inl (fun _ => 0))), (q_36, .inl (cI, 151, .inl (fun _ => 0)))] H := hP
  have hD : va_D A [(h0, .inr (2, [.ref q_33, .ref q_34, .ref q_35, .ref q_36, .null, .null, .null, .null])), (q_33, .inl (cI, 151, .inl (fun _ => 0))), (q_34, .inl (cI, 151, .inl (fun _ => 0))), (q_35, .inl (cI, 151, .inl (fun _ => 0))), (q_36, .inl (cI, 151, .inl (fun _ => 0)))] := hD
  refine lv_aload_n hx hb dX2_init_40 rfl (lv_at hl 0 rfl) ?_
  refine lv_sipush (v := 151) hx hb dX2_init_41 (by decide) ?_
  refine va_newa (atype := .int) (ty := .int) (N' := 151) (a0 := (151, .inl (fun _ => 0))) hx hb (hts (.arrayClass .int) (by decide +kernel)) rfl hK hP hD hS hA (fun _ => rfl) (by decide) (by decide) (by decide) (Nat.le_of_ble_eq_true rfl) (Nat.le_of_ble_eq_true rfl) dX2_init_44 (fun q_37 cA H hK hP hD hS => ?_)
  obtain rfl : cI = cA := (zz_same hK 0 1 rfl rfl).symm
  have hK := hK.sub (tys' := [(cI, .int)]) [0] rfl
  have hP : va_P (dC, dI) vwCl [(h0, .inr (2, [.ref q_33, .ref q_34, .ref q_35, .ref q_36, .null, .null, .null, .null])), (q_33, .inl (cI, 151, .inl (fun _ => 0))), (q_34, .inl (cI, 151, .inl (fun _ => 0))), (q_35, .inl (cI, 151, .inl (fun _ => 0))), (q_36, .inl (cI, 151, .inl (fun _ => 0))), (q_37, .inl (cI, 151, .inl (fun _ => 0)))] H := hP
  have hD : va_D A [(h0, .inr (2, [.ref q_33, .ref q_34, .ref q_35, .ref q_36, .null, .null, .null, .null])), (q_33, .inl (cI, 151, .inl (fun _ => 0))), (q_34, .inl (cI, 151, .inl (fun _ => 0))), (q_35, .inl (cI, 151, .inl (fun _ => 0))), (q_36, .inl (cI, 151, .inl (fun _ => 0))), (q_37, .inl (cI, 151, .inl (fun _ => 0)))] := hD
  refine W.widen (k := 5) (n := 755) (by omega) (by omega) ?_
  refine va_putF (D := (dC, dI)) (ci := 2) (v := .ref q_37) (ty := (.array .int)) (C := RX2) (T := TX2) (N := 8) hx hb hts (by decide +kernel) tyX2 tyX2_ok nmX2 hown hK hP hD hS 0 rfl rfl 4 (by decide) (hts (.fieldLink RX2 24 "DeltaCodec$Planner" "operands" "[I") (by decide +kernel)) (fun _ h9 => h9) rfl hin rfl (by decide +kernel) rfl rfl (Nat.le_of_ble_eq_true rfl) dX2_init_46 (fun H locs hP hD hS => ?_)
  have hP : va_P (dC, dI) vwCl [(h0, .inr (2, [.ref q_33, .ref q_34, .ref q_35, .ref q_36, .ref q_37, .null, .null, .null])), (q_33, .inl (cI, 151, .inl (fun _ => 0))), (q_34, .inl (cI, 151, .inl (fun _ => 0))), (q_35, .inl (cI, 151, .inl (fun _ => 0))), (q_36, .inl (cI, 151, .inl (fun _ => 0))), (q_37, .inl (cI, 151, .inl (fun _ => 0)))] H := hP
  have hD : va_D A [(h0, .inr (2, [.ref q_33, .ref q_34, .ref q_35, .ref q_36, .ref q_37, .null, .null, .null])), (q_33, .inl (cI, 151, .inl (fun _ => 0))), (q_34, .inl (cI, 151, .inl (fun _ => 0))), (q_35, .inl (cI, 151, .inl (fun _ => 0))), (q_36, .inl (cI, 151, .inl (fun _ => 0))), (q_37, .inl (cI, 151, .inl (fun _ => 0)))] := hD
  refine lv_aload_n hx hb dX2_init_49 rfl (lv_at hl 0 rfl) ?_
  refine lv_sipush (v := 151) hx hb dX2_init_50 (by decide) ?_
  refine va_newa (atype := .int) (ty := .int) (N' := 151) (a0 := (151, .inl (fun _ => 0))) hx hb (hts (.arrayClass .int) (by decide +kernel)) rfl hK hP hD hS hA (fun _ => rfl) (by decide) (by decide) (by decide) (Nat.le_of_ble_eq_true rfl) (Nat.le_of_ble_eq_true rfl) dX2_init_53 (fun q_38 cA H hK hP hD hS => ?_)
  obtain rfl : cI = cA := (zz_same hK 0 1 rfl rfl).symm
  have hK := hK.sub (tys' := [(cI, .int)]) [0] rfl
  have hP : va_P (dC, dI) vwCl [(h0, .inr (2, [.ref q_33, .ref q_34, .ref q_35, .ref q_36, .ref q_37, .null, .null, .null])), (q_33, .inl (cI, 151, .inl (fun _ => 0))), (q_34, .inl (cI, 151, .inl (fun _ => 0))), (q_35, .inl (cI, 151, .inl (fun _ => 0))), (q_36, .inl (cI, 151, .inl (fun _ => 0))), (q_37, .inl (cI, 151, .inl (fun _ => 0))), (q_38, .inl (cI, 151, .inl (fun _ => 0)))] H := hP
  have hD : va_D A [(h0, .inr (2, [.ref q_33, .ref q_34, .ref q_35, .ref q_36, .ref q_37, .null, .null, .null])), (q_33, .inl (cI, 151, .inl (fun _ => 0))), (q_34, .inl (cI, 151, .inl (fun _ => 0))), (q_35, .inl (cI, 151, .inl (fun _ => 0))), (q_36, .inl (cI, 151, .inl (fun _ => 0))), (q_37, .inl (cI, 151, .inl (fun _ => 0))), (q_38, .inl (cI, 151, .inl (fun _ => 0)))] := hD
  refine W.widen (k := 6) (n := 906) (by omega) (by omega) ?_
  refine va_putF (D := (dC, dI)) (ci := 2) (v := .ref q_38) (ty := (.array .int)) (C := RX2) (T := TX2) (N := 8) hx hb hts (by decide +kernel) tyX2 tyX2_ok nmX2 hown hK hP hD hS 0 rfl rfl 5 (by decide) (hts (.fieldLink RX2 27 "DeltaCodec$Planner" "copyCommon" "[I") (by decide +kernel)) (fun _ h9 => h9) rfl hin rfl (by decide +kernel) rfl rfl (Nat.le_of_ble_eq_true rfl) dX2_init_55 (fun H locs hP hD hS => ?_)
  have hP : va_P (dC, dI) vwCl [(h0, .inr (2, [.ref q_33, .ref q_34, .ref q_35, .ref q_36, .ref q_37, .ref q_38, .null, .null])), (q_33, .inl (cI, 151, .inl (fun _ => 0))), (q_34, .inl (cI, 151, .inl (fun _ => 0))), (q_35, .inl (cI, 151, .inl (fun _ => 0))), (q_36, .inl (cI, 151, .inl (fun _ => 0))), (q_37, .inl (cI, 151, .inl (fun _ => 0))), (q_38, .inl (cI, 151, .inl (fun _ => 0)))] H := hP
  have hD : va_D A [(h0, .inr (2, [.ref q_33, .ref q_34, .ref q_35, .ref q_36, .ref q_37, .ref q_38, .null, .null])), (q_33, .inl (cI, 151, .inl (fun _ => 0))), (q_34, .inl (cI, 151, .inl (fun _ => 0))), (q_35, .inl (cI, 151, .inl (fun _ => 0))), (q_36, .inl (cI, 151, .inl (fun _ => 0))), (q_37, .inl (cI, 151, .inl (fun _ => 0))), (q_38, .inl (cI, 151, .inl (fun _ => 0)))] := hD
  refine lv_aload_n hx hb dX2_init_58 rfl (lv_at hl 0 rfl) ?_
  refine lv_sipush (v := 151) hx hb dX2_init_59 (by decide) ?_
  refine va_newa (atype := .int) (ty := .int) (N' := 151) (a0 := (151, .inl (fun _ => 0))) hx hb (hts (.arrayClass .int) (by decide +kernel)) rfl hK hP hD hS hA (fun _ => rfl) (by decide) (by decide) (by decide) (Nat.le_of_ble_eq_true rfl) (Nat.le_of_ble_eq_true rfl) dX2_init_62 (fun q_39 cA H hK hP hD hS => ?_)
  obtain rfl : cI = cA := (zz_same hK 0 1 rfl rfl).symm
  have hK := hK.sub (tys' := [(cI, .int)]) [0] rfl
  have hP : va_P (dC, dI) vwCl [(h0, .inr (2, [.ref q_33, .ref q_34, .ref q_35, .ref q_36, .ref q_37, .ref q_38, .null, .null])), (q_33, .inl (cI, 151, .inl (fun _ => 0))), (q_34, .inl (cI, 151, .inl (fun _ => 0))), (q_35, .inl (cI, 151, .inl (fun _ => 0))), (q_36, .inl (cI, 151, .inl (fun _ => 0))), (q_37, .inl (cI, 151, .inl (fun _ => 0))), (q_38, .inl (cI, 151, .inl (fun _ => 0))), (q_39, .inl (cI, 151, .inl (fun _ => 0)))] H := hP
  have hD : va_D A [(h0, .inr (2, [.ref q_33, .ref q_34, .ref q_35, .ref q_36, .ref q_37, .ref q_38, .null, .null])), (q_33, .inl (cI, 151, .inl (fun _ => 0))), (q_34, .inl (cI, 151, .inl (fun _ => 0))), (q_35, .inl (cI, 151, .inl (fun _ => 0))), (q_36, .inl (cI, 151, .inl (fun _ => 0))), (q_37, .inl (cI, 151, .inl (fun _ => 0))), (q_38, .inl (cI, 151, .inl (fun _ => 0))), (q_39, .inl (cI, 151, .inl (fun _ => 0)))] := hD
  refine W.widen (k := 7) (n := 1057) (by omega) (by omega) ?_
  refine va_putF (D := (dC, dI)) (ci := 2) (v := .ref q_39) (ty := (.array .int)) (C := RX2) (T := TX2) (N := 8) hx hb hts (by decide +kernel) tyX2 tyX2_ok nmX2 hown hK hP hD hS 0 rfl rfl 6 (by decide) (hts (.fieldLink RX2 30 "DeltaCodec$Planner" "repeatCommon" "[I") (by decide +kernel)) (fun _ h9 => h9) rfl hin rfl (by decide +kernel) rfl rfl (Nat.le_of_ble_eq_true rfl) dX2_init_64 (fun H locs hP hD hS => ?_)
  have hP : va_P (dC, dI) vwCl [(h0, .inr (2, [.ref q_33, .ref q_34, .ref q_35, .ref q_36, .ref q_37, .ref q_38, .ref q_39, .null])), (q_33, .inl (cI, 151, .inl (fun _ => 0))), (q_34, .inl (cI, 151, .inl (fun _ => 0))), (q_35, .inl (cI, 151, .inl (fun _ => 0))), (q_36, .inl (cI, 151, .inl (fun _ => 0))), (q_37, .inl (cI, 151, .inl (fun _ => 0))), (q_38, .inl (cI, 151, .inl (fun _ => 0))), (q_39, .inl (cI, 151, .inl (fun _ => 0)))] H := hP
  have hD : va_D A [(h0, .inr (2, [.ref q_33, .ref q_34, .ref q_35, .ref q_36, .ref q_37, .ref q_38, .ref q_39, .null])), (q_33, .inl (cI, 151, .inl (fun _ => 0))), (q_34, .inl (cI, 151, .inl (fun _ => 0))), (q_35, .inl (cI, 151, .inl (fun _ => 0))), (q_36, .inl (cI, 151, .inl (fun _ => 0))), (q_37, .inl (cI, 151, .inl (fun _ => 0))), (q_38, .inl (cI, 151, .inl (fun _ => 0))), (q_39, .inl (cI, 151, .inl (fun _ => 0)))] := hD
  refine lv_aload_n hx hb dX2_init_67 rfl (lv_at hl 0 rfl) ?_
  refine lv_sipush (v := 151) hx hb dX2_init_68 (by decide) ?_
  refine va_newa (atype := .int) (ty := .int) (N' := 151) (a0 := (151, .inl (fun _ => 0))) hx hb (hts (.arrayClass .int) (by decide +kernel)) rfl hK hP hD hS hA (fun _ => rfl) (by decide) (by decide) (by decide) (Nat.le_of_ble_eq_true rfl) (Nat.le_of_ble_eq_true rfl) dX2_init_71 (fun q_40 cA H hK hP hD hS => ?_)
  obtain rfl : cI = cA := (zz_same hK 0 1 rfl rfl).symm
  have hK := hK.sub (tys' := [(cI, .int)]) [0] rfl
  have hP : va_P (dC, dI) vwCl [(h0, .inr (2, [.ref q_33, .ref q_34, .ref q_35, .ref q_36, .ref q_37, .ref q_38, .ref q_39, .null])), (q_33, .inl (cI, 151, .inl (fun _ => 0))), (q_34, .inl (cI, 151, .inl (fun _ => 0))), (q_35, .inl (cI, 151, .inl (fun _ => 0))), (q_36, .inl (cI, 151, .inl (fun _ => 0))), (q_37, .inl (cI, 151, .inl (fun _ => 0))), (q_38, .inl (cI, 151, .inl (fun _ => 0))), (q_39, .inl (cI, 151, .inl (fun _ => 0))), (q_40, .inl (cI, 151, .inl (fun _ => 0)))] H := hP
  have hD : va_D A [(h0, .inr (2, [.ref q_33, .ref q_34, .ref q_35, .ref q_36, .ref q_37, .ref q_38, .ref q_39, .null])), (q_33, .inl (cI, 151, .inl (fun _ => 0))), (q_34, .inl (cI, 151, .inl (fun _ => 0))), (q_35, .inl (cI, 151, .inl (fun _ => 0))), (q_36, .inl (cI, 151, .inl (fun _ => 0))), (q_37, .inl (cI, 151, .inl (fun _ => 0))), (q_38, .inl (cI, 151, .inl (fun _ => 0))), (q_39, .inl (cI, 151, .inl (fun _ => 0))), (q_40, .inl (cI, 151, .inl (fun _ => 0)))] := hD
  refine W.widen (k := 8) (n := 1208) (by omega) (by omega) ?_
  refine va_putF (D := (dC, dI)) (ci := 2) (v := .ref q_40) (ty := (.array .int)) (C := RX2) (T := TX2) (N := 8) hx hb hts (by decide +kernel) tyX2 tyX2_ok nmX2 hown hK hP hD hS 0 rfl rfl 7 (by decide) (hts (.fieldLink RX2 33 "DeltaCodec$Planner" "firstPlaces" "[I") (by decide +kernel)) (fun _ h9 => h9) rfl hin rfl (by decide +kernel) rfl rfl (Nat.le_of_ble_eq_true rfl) dX2_init_73 (fun H locs hP hD hS => ?_)
  have hP : va_P (dC, dI) vwCl [(h0, .inr (2, [.ref q_33, .ref q_34, .ref q_35, .ref q_36, .ref q_37, .ref q_38, .ref q_39, .ref q_40])), (q_33, .inl (cI, 151, .inl (fun _ => 0))), (q_34, .inl (cI, 151, .inl (fun _ => 0))), (q_35, .inl (cI, 151, .inl (fun _ => 0))), (q_36, .inl (cI, 151, .inl (fun _ => 0))), (q_37, .inl (cI, 151, .inl (fun _ => 0))), (q_38, .inl (cI, 151, .inl (fun _ => 0))), (q_39, .inl (cI, 151, .inl (fun _ => 0))), (q_40, .inl (cI, 151, .inl (fun _ => 0)))] H := hP
  have hD : va_D A [(h0, .inr (2, [.ref q_33, .ref q_34, .ref q_35, .ref q_36, .ref q_37, .ref q_38, .ref q_39, .ref q_40])), (q_33, .inl (cI, 151, .inl (fun _ => 0))), (q_34, .inl (cI, 151, .inl (fun _ => 0))), (q_35, .inl (cI, 151, .inl (fun _ => 0))), (q_36, .inl (cI, 151, .inl (fun _ => 0))), (q_37, .inl (cI, 151, .inl (fun _ => 0))), (q_38, .inl (cI, 151, .inl (fun _ => 0))), (q_39, .inl (cI, 151, .inl (fun _ => 0))), (q_40, .inl (cI, 151, .inl (fun _ => 0)))] := hD
  have hP9 := hP.sub (ws' := [(h0, .inr (2, [.ref q_33, .ref q_34, .ref q_35, .ref q_36, .ref q_37, .ref q_38, .ref q_39, .ref q_40])), (q_33, .inl (cI, 151, .inl (fun _ => 0))), (q_34, .inl (cI, 151, .inl (fun _ => 0))), (q_35, .inl (cI, 151, .inl (fun _ => 0))), (q_36, .inl (cI, 151, .inl (fun _ => 0))), (q_37, .inl (cI, 151, .inl (fun _ => 0))), (q_38, .inl (cI, 151, .inl (fun _ => 0))), (q_39, .inl (cI, 151, .inl (fun _ => 0))), (q_40, .inl (cI, 151, .inl (fun _ => 0)))]) [0, 1, 2, 3, 4, 5, 6, 7, 8] rfl
  have hD9 := hD.sub (ws' := [(h0, .inr (2, [.ref q_33, .ref q_34, .ref q_35, .ref q_36, .ref q_37, .ref q_38, .ref q_39, .ref q_40])), (q_33, .inl (cI, 151, .inl (fun _ => 0))), (q_34, .inl (cI, 151, .inl (fun _ => 0))), (q_35, .inl (cI, 151, .inl (fun _ => 0))), (q_36, .inl (cI, 151, .inl (fun _ => 0))), (q_37, .inl (cI, 151, .inl (fun _ => 0))), (q_38, .inl (cI, 151, .inl (fun _ => 0))), (q_39, .inl (cI, 151, .inl (fun _ => 0))), (q_40, .inl (cI, 151, .inl (fun _ => 0)))]) [0, 1, 2, 3, 4, 5, 6, 7, 8] (by decide) rfl
  exact W.vret hx hb hr (fun t ht hW => ⟨⟨(q_33, q_34, q_35, q_36, q_37, q_38, q_39, q_40), rfl, trivial, ⟨by rw [ht]; exact hP9, hD9⟩⟩, hS.F ht⟩) hS.2.2 dX2_init_76
set_option maxHeartbeats 4000000 in
set_option maxRecDepth 100000 in
theorem c_X2_listInstructions (l : Launch) (dC : Nat → ClassId) (dI : Nat → Nat → Nat) (cI : ClassId) (h0 : Nat) (p1 : Nat) (p2 : Nat) (p3 : Nat) (p4 : Nat) (p5 : Nat) (p6 : Nat) (p7 : Nat) (p8 : Nat) (h1 : Nat) (k1 : Nat) (k2 : Nat) (k3 : Nat) (k4 : Nat) (a1 : Nat) (a2 : Nat) (a3 : Nat) (a4 : Nat) (kb : Int32) (km : Int32) (kg : Nat → Int32) (sz : Nat) : Met l yX2_listInstructions wsX2_listInstructions ({ frames := 2, cells := 0, slots := 0, locals := 41 }) (va_Pc [.ref h0, .int 0, .ref h1] (fun U => U.heap.size = sz ∧ va_P (dC, dI) vwCl [(h0, .inr (2, [.ref p1, .ref p2, .ref p3, .ref p4, .ref p5, .ref p6, .ref p7, .ref p8])), (p1, .inl (cI, 151, .inl kg)), (h1, .inr (1, [.ref k1, .ref k2, .ref k3, .ref k4, .int kb, .int km])), (k1, .inr (3, [.ref a1, .int 0])), (k2, .inr (3, [.ref a2, .int 0])), (k3, .inr (3, [.ref a3, .int 0])), (k4, .inr (3, [.ref a4, .int 0]))] U.heap ∧ va_K (dC, dI) vwCl [(cI, .int)] U ∧ va_D (fun _ => True) [(h0, .inr (2, [.ref p1, .ref p2, .ref p3, .ref p4, .ref p5, .ref p6, .ref p7, .ref p8])), (p1, .inl (cI, 151, .inl kg)), (h1, .inr (1, [.ref k1, .ref k2, .ref k3, .ref k4, .int kb, .int km])), (k1, .inr (3, [.ref a1, .int 0])), (k2, .inr (3, [.ref a2, .int 0])), (k3, .inr (3, [.ref a3, .int 0])), (k4, .inr (3, [.ref a4, .int 0]))])) (va_Qv (fun kv : Int32 => True) (fun kv t => va_P (dC, dI) vwCl [(h1, .inr (1, [.ref k1, .ref k2, .ref k3, .ref k4, .int kv, .int 1])), (k1, .inr (3, [.ref a1, .int 0])), (k2, .inr (3, [.ref a2, .int 0])), (k3, .inr (3, [.ref a3, .int 0])), (k4, .inr (3, [.ref a4, .int 0]))] t.heap ∧ va_D (va_A [(h0, .inr (2, [.ref p1, .ref p2, .ref p3, .ref p4, .ref p5, .ref p6, .ref p7, .ref p8])), (p1, .inl (cI, 151, .inl kg)), (h1, .inr (1, [.ref k1, .ref k2, .ref k3, .ref k4, .int kb, .int km])), (k1, .inr (3, [.ref a1, .int 0])), (k2, .inr (3, [.ref a2, .int 0])), (k3, .inr (3, [.ref a3, .int 0])), (k4, .inr (3, [.ref a4, .int 0]))] sz) [(h1, .inr (1, [.ref k1, .ref k2, .ref k3, .ref k4, .int kv, .int 1])), (k1, .inr (3, [.ref a1, .int 0])), (k2, .inr (3, [.ref a2, .int 0])), (k3, .inr (3, [.ref a3, .int 0])), (k4, .inr (3, [.ref a4, .int 0]))]) (va_A [(h0, .inr (2, [.ref p1, .ref p2, .ref p3, .ref p4, .ref p5, .ref p6, .ref p7, .ref p8])), (p1, .inl (cI, 151, .inl kg)), (h1, .inr (1, [.ref k1, .ref k2, .ref k3, .ref k4, .int kb, .int km])), (k1, .inr (3, [.ref a1, .int 0])), (k2, .inr (3, [.ref a2, .int 0])), (k3, .inr (3, [.ref a3, .int 0])), (k4, .inr (3, [.ref a4, .int 0]))] sz)) 0 0 (va_A [(h0, .inr (2, [.ref p1, .ref p2, .ref p3, .ref p4, .ref p5, .ref p6, .ref p7, .ref p8])), (p1, .inl (cI, 151, .inl kg)), (h1, .inr (1, [.ref k1, .ref k2, .ref k3, .ref k4, .int kb, .int km])), (k1, .inr (3, [.ref a1, .int 0])), (k2, .inr (3, [.ref a2, .int 0])), (k3, .inr (3, [.ref a3, .int 0])), (k4, .inr (3, [.ref a4, .int 0]))] sz) := by
  refine Met.ofW (cc := cX2_listInstructions) (maxL := 5) (ret := none) (by decide) rfl ?_
  intro p e s m args below meth c s₁ B hml hv
  obtain ⟨rfl, hsz, hP, hK, hD0⟩ := hv
  have hx := B.exec
  have hb := B.bytes
  have hr := B.returns
  have hts := atoms_spec (ws := wsX2_listInstructions) B.pre
  have hown : s.vm.findClass RX2 = some m.cls := findClass_of_methodNamed B.named
  have hlocks := B.notSynchronized
  subst hsz
  have hD := hD0.self (sz := s.heap.size)
  generalize hAe : va_A [(h0, .inr (2, [.ref p1, .ref p2, .ref p3, .ref p4, .ref p5, .ref p6, .ref p7, .ref p8])), (p1, .inl (cI, 151, .inl kg)), (h1, .inr (1, [.ref k1, .ref k2, .ref k3, .ref k4, .int kb, .int km])), (k1, .inr (3, [.ref a1, .int 0])), (k2, .inr (3, [.ref a2, .int 0])), (k3, .inr (3, [.ref a3, .int 0])), (k4, .inr (3, [.ref a4, .int 0]))] s.heap.size = A at hD ⊢
  have hA : ∀ q : Nat, s.heap.size ≤ q → A q := fun q h => by rw [← hAe]; exact Or.inr h
  have hS : va_S A s.heap s.heap [] := va_S.rf
  have hP : va_P (dC, dI) vwCl [(h0, .inr (2, [.ref p1, .ref p2, .ref p3, .ref p4, .ref p5, .ref p6, .ref p7, .ref p8])), (p1, .inl (cI, 151, .inl kg)), (h1, .inr (1, [.ref k1, .ref k2, .ref k3, .ref k4, .int kb, .int km])), (k1, .inr (3, [.ref a1, .int 0])), (k2, .inr (3, [.ref a2, .int 0])), (k3, .inr (3, [.ref a3, .int 0])), (k4, .inr (3, [.ref a4, .int 0]))] s.heap := hP
  have hl := lv_entry ([.ref h0, .int 0, .ref h1]) (n := 5) (Nat.le_of_ble_eq_true rfl)
  rw [lg_entry_eq]
  generalize (lg_sl ([.ref h0, .int 0, .ref h1]) ++ List.replicate (5 - (lg_sl ([.ref h0, .int 0, .ref h1])).length) Slot.unset).toArray = ls at hl ⊢
  have hl : lv_has ls 5 [(0, .ref h0), (1, .int 0), (2, .ref h1)] := hl
  refine lv_aload_n hx hb dX2_listInstructions_0 rfl (lv_at hl 2 rfl) ?_
  refine lv_aload_n hx hb dX2_listInstructions_1 rfl (lv_at hl 0 rfl) ?_
  refine va_get (D := (dC, dI)) (ci := 2) (v := .ref p1) (C := RX2) (T := TX2) (N := 8) hx hb hts (by decide +kernel) hown hK hP 0 rfl rfl 0 (by decide) (hts (.fieldLink RX2 11 "DeltaCodec$Planner" "bytesLeft" "[I") (by decide +kernel)) (fun _ h9 => h9) rfl dX2_listInstructions_2 ?_
  refine lv_iconst (v := 0) hx hb dX2_listInstructions_5 (by decide) ?_
  refine va_iald hx hb hK hP 1 0 rfl rfl (by unfold vp_in; decide) dX2_listInstructions_6 ?_
  refine lv_topi (fun x_41 ex_41 => ?_)
  have hPc := hP.sub (ws' := [(h1, .inr (1, [.ref k1, .ref k2, .ref k3, .ref k4, .int kb, .int km])), (k1, .inr (3, [.ref a1, .int 0])), (k2, .inr (3, [.ref a2, .int 0])), (k3, .inr (3, [.ref a3, .int 0])), (k4, .inr (3, [.ref a4, .int 0]))]) [2, 3, 4, 5, 6] rfl
  have hDc := hD.sub (ws' := [(h1, .inr (1, [.ref k1, .ref k2, .ref k3, .ref k4, .int kb, .int km])), (k1, .inr (3, [.ref a1, .int 0])), (k2, .inr (3, [.ref a2, .int 0])), (k3, .inr (3, [.ref a3, .int 0])), (k4, .inr (3, [.ref a4, .int 0]))]) [2, 3, 4, 5, 6] (by decide) rfl
  have hFc := va_free (wc := [(h1, .inr (1, [.ref k1, .ref k2, .ref k3, .ref k4, .int kb, .int km])), (k1, .inr (3, [.ref a1, .int 0])), (k2, .inr (3, [.ref a2, .int 0])), (k3, .inr (3, [.ref a3, .int 0])), (k4, .inr (3, [.ref a4, .int 0]))]) hD hS hA [2, 3, 4, 5, 6] rfl
  have hKc := hK.sub (tys' := []) [] rfl
  refine va_callv (va_runV (As := [.int x_41]) (rest := []) ⟨hx, hb, hml, hown, hts⟩ (c_X1_begin l dC dI h1 k1 k2 k3 k4 a1 a2 a3 a4 kb km x_41 s.heap.size) (cwV 1 hts gX2_listInstructions_X1_begin rfl rfl rfl (by decide +kernel) ⟨Nat.le_of_ble_eq_true rfl, Nat.le_of_ble_eq_true rfl⟩) ⟨fun a U g mk q => by obtain ⟨q0, q1, qP, qK, qD⟩ := q; exact ⟨q0, q1, qP, va_K.moved (u := U) (U := U.calling g mk a) (Vm.Alike.refl U.vm) qK, qD⟩, va_recv hKc hPc (ci := 1) (q0 := 0) rfl rfl, fun U hU hW => ⟨rfl, by rw [hU], by rw [hU]; exact hPc, va_K.moved hW.alike hKc, zz_D hDc⟩⟩ rfl rfl hl.1 rfl (lv_room (Nat.le_of_ble_eq_true rfl)) dX2_listInstructions_7 ⟨(Nat.le_of_ble_eq_true rfl), (Nat.le_of_ble_eq_true rfl)⟩) hS (fun q _ h => hFc q h) hFc (fun u_43 t H1 locs ht hvm hw hB hz1 hk1 hS1 => ?_)
  obtain ⟨hP1, hD1⟩ := hB
  rw [ht] at hP1
  obtain ⟨hP, hD⟩ := va_join (wr := [(h0, .inr (2, [.ref p1, .ref p2, .ref p3, .ref p4, .ref p5, .ref p6, .ref p7, .ref p8])), (p1, .inl (cI, 151, .inl kg))]) (w1 := [(h1, .inr (1, [.ref k1, .ref k2, .ref k3, .ref k4, .int x_41, .int 1])), (k1, .inr (3, [.ref a1, .int 0])), (k2, .inr (3, [.ref a2, .int 0])), (k3, .inr (3, [.ref a3, .int 0])), (k4, .inr (3, [.ref a4, .int 0]))]) hP hD [2, 3, 4, 5, 6] [0, 1] rfl rfl (by decide) (by decide) hk1 hFc hP1 hD1
  have hS := hS1
  clear hS1
  generalize H1 = H at hP hS ht ⊢
  have hP : va_P (dC, dI) vwCl [(h0, .inr (2, [.ref p1, .ref p2, .ref p3, .ref p4, .ref p5, .ref p6, .ref p7, .ref p8])), (p1, .inl (cI, 151, .inl kg)), (h1, .inr (1, [.ref k1, .ref k2, .ref k3, .ref k4, .int x_41, .int 1])), (k1, .inr (3, [.ref a1, .int 0])), (k2, .inr (3, [.ref a2, .int 0])), (k3, .inr (3, [.ref a3, .int 0])), (k4, .inr (3, [.ref a4, .int 0]))] H := hP
  have hD : va_D A [(h0, .inr (2, [.ref p1, .ref p2, .ref p3, .ref p4, .ref p5, .ref p6, .ref p7, .ref p8])), (p1, .inl (cI, 151, .inl kg)), (h1, .inr (1, [.ref k1, .ref k2, .ref k3, .ref k4, .int x_41, .int 1])), (k1, .inr (3, [.ref a1, .int 0])), (k2, .inr (3, [.ref a2, .int 0])), (k3, .inr (3, [.ref a3, .int 0])), (k4, .inr (3, [.ref a4, .int 0]))] := hD
  have w7 := hw
  refine lv_iconst (v := 0) hx hb dX2_listInstructions_10 (by decide) ?_
  refine lv_istore_n (lv' := [(3, .int 0), (0, .ref h0), (1, .int 0), (2, .ref h1)]) hx hb dX2_listInstructions_11 rfl hl (by decide) rfl (fun ls hl => ?_)
  refine lv_iconst (v := 0) hx hb dX2_listInstructions_12 (by decide) ?_
  refine lv_istore (lv' := [(4, .int 0), (3, .int 0), (0, .ref h0), (1, .int 0), (2, .ref h1)]) hx hb dX2_listInstructions_13 hl (by decide) rfl (fun ls hl => ?_)
  refine lv_iload hx hb dX2_listInstructions_15 (lv_at hl 0 rfl) ?_
  refine lv_iload_n hx hb dX2_listInstructions_17 rfl (lv_at hl 3 rfl) ?_
  refine lv_icmp_ge (tgt := 79) hx hb dX2_listInstructions_18 (by decide) (fun c18 => ?_) (fun h => absurd h (by decide))
  have hP9 := hP.sub (ws' := [(h1, .inr (1, [.ref k1, .ref k2, .ref k3, .ref k4, .int x_41, .int 1])), (k1, .inr (3, [.ref a1, .int 0])), (k2, .inr (3, [.ref a2, .int 0])), (k3, .inr (3, [.ref a3, .int 0])), (k4, .inr (3, [.ref a4, .int 0]))]) [2, 3, 4, 5, 6] rfl
  have hD9 := hD.sub (ws' := [(h1, .inr (1, [.ref k1, .ref k2, .ref k3, .ref k4, .int x_41, .int 1])), (k1, .inr (3, [.ref a1, .int 0])), (k2, .inr (3, [.ref a2, .int 0])), (k3, .inr (3, [.ref a3, .int 0])), (k4, .inr (3, [.ref a4, .int 0]))]) [2, 3, 4, 5, 6] (by decide) rfl
  exact W.vret hx hb hr (fun t ht hW => ⟨⟨x_41, rfl, trivial, ⟨by rw [ht]; exact hP9, hD9⟩⟩, hS.F ht⟩) hS.2.2 dX2_listInstructions_79
set_option maxHeartbeats 4000000 in
set_option maxRecDepth 100000 in
theorem c_X2_makePlan (l : Launch) (dC : Nat → ClassId) (dI : Nat → Nat → Nat) (cI : ClassId) (h0 : Nat) (p1 : Nat) (p2 : Nat) (p3 : Nat) (p4 : Nat) (p5 : Nat) (p6 : Nat) (p7 : Nat) (p8 : Nat) (sr : Nat) (tg : Nat) (tb : Nat) (ls0 : Int32) (h1 : Nat) (k1 : Nat) (k2 : Nat) (k3 : Nat) (k4 : Nat) (a1 : Nat) (a2 : Nat) (a3 : Nat) (a4 : Nat) (kb : Int32) (km : Int32) (g1 : Nat → Int32) (g2 : Nat → Int32) (g6 : Nat → Int32) (g7 : Nat → Int32) (sz : Nat) : Met l yX2_makePlan wsX2_makePlan ({ frames := 3, cells := 0, slots := 0, locals := 65 }) (va_Pc [.ref h0, .ref sr, .ref tg, .int ls0, .ref h1] (fun U => U.heap.size = sz ∧ va_P (dC, dI) vwCl [(h0, .inr (2, [.ref p1, .ref p2, .ref p3, .ref p4, .ref p5, .ref p6, .ref p7, .ref p8])), (p1, .inl (cI, 151, .inl g1)), (p2, .inl (cI, 151, .inl g2)), (p6, .inl (cI, 151, .inl g6)), (p7, .inl (cI, 151, .inl g7)), (tg, .inr (3, [.ref tb, .int 0])), (h1, .inr (1, [.ref k1, .ref k2, .ref k3, .ref k4, .int kb, .int km])), (k1, .inr (3, [.ref a1, .int 0])), (k2, .inr (3, [.ref a2, .int 0])), (k3, .inr (3, [.ref a3, .int 0])), (k4, .inr (3, [.ref a4, .int 0]))] U.heap ∧ va_K (dC, dI) vwCl [(cI, .int)] U ∧ va_D (fun _ => True) [(h0, .inr (2, [.ref p1, .ref p2, .ref p3, .ref p4, .ref p5, .ref p6, .ref p7, .ref p8])), (p1, .inl (cI, 151, .inl g1)), (p2, .inl (cI, 151, .inl g2)), (p6, .inl (cI, 151, .inl g6)), (p7, .inl (cI, 151, .inl g7)), (tg, .inr (3, [.ref tb, .int 0])), (h1, .inr (1, [.ref k1, .ref k2, .ref k3, .ref k4, .int kb, .int km])), (k1, .inr (3, [.ref a1, .int 0])), (k2, .inr (3, [.ref a2, .int 0])), (k3, .inr (3, [.ref a3, .int 0])), (k4, .inr (3, [.ref a4, .int 0]))])) (va_Qv (fun kv : Int32 => True) (fun kv t => va_P (dC, dI) vwCl [(h1, .inr (1, [.ref k1, .ref k2, .ref k3, .ref k4, .int kv, .int 1])), (k1, .inr (3, [.ref a1, .int 0])), (k2, .inr (3, [.ref a2, .int 0])), (k3, .inr (3, [.ref a3, .int 0])), (k4, .inr (3, [.ref a4, .int 0]))] t.heap ∧ va_D (va_A [(h0, .inr (2, [.ref p1, .ref p2, .ref p3, .ref p4, .ref p5, .ref p6, .ref p7, .ref p8])), (p1, .inl (cI, 151, .inl g1)), (p2, .inl (cI, 151, .inl g2)), (p6, .inl (cI, 151, .inl g6)), (p7, .inl (cI, 151, .inl g7)), (tg, .inr (3, [.ref tb, .int 0])), (h1, .inr (1, [.ref k1, .ref k2, .ref k3, .ref k4, .int kb, .int km])), (k1, .inr (3, [.ref a1, .int 0])), (k2, .inr (3, [.ref a2, .int 0])), (k3, .inr (3, [.ref a3, .int 0])), (k4, .inr (3, [.ref a4, .int 0]))] sz) [(h1, .inr (1, [.ref k1, .ref k2, .ref k3, .ref k4, .int kv, .int 1])), (k1, .inr (3, [.ref a1, .int 0])), (k2, .inr (3, [.ref a2, .int 0])), (k3, .inr (3, [.ref a3, .int 0])), (k4, .inr (3, [.ref a4, .int 0]))]) (va_A [(h0, .inr (2, [.ref p1, .ref p2, .ref p3, .ref p4, .ref p5, .ref p6, .ref p7, .ref p8])), (p1, .inl (cI, 151, .inl g1)), (p2, .inl (cI, 151, .inl g2)), (p6, .inl (cI, 151, .inl g6)), (p7, .inl (cI, 151, .inl g7)), (tg, .inr (3, [.ref tb, .int 0])), (h1, .inr (1, [.ref k1, .ref k2, .ref k3, .ref k4, .int kb, .int km])), (k1, .inr (3, [.ref a1, .int 0])), (k2, .inr (3, [.ref a2, .int 0])), (k3, .inr (3, [.ref a3, .int 0])), (k4, .inr (3, [.ref a4, .int 0]))] sz)) 0 0 (va_A [(h0, .inr (2, [.ref p1, .ref p2, .ref p3, .ref p4, .ref p5, .ref p6, .ref p7, .ref p8])), (p1, .inl (cI, 151, .inl g1)), (p2, .inl (cI, 151, .inl g2)), (p6, .inl (cI, 151, .inl g6)), (p7, .inl (cI, 151, .inl g7)), (tg, .inr (3, [.ref tb, .int 0])), (h1, .inr (1, [.ref k1, .ref k2, .ref k3, .ref k4, .int kb, .int km])), (k1, .inr (3, [.ref a1, .int 0])), (k2, .inr (3, [.ref a2, .int 0])), (k3, .inr (3, [.ref a3, .int 0])), (k4, .inr (3, [.ref a4, .int 0]))] sz) := by
  refine Met.ofW (cc := cX2_makePlan) (maxL := 9) (ret := none) (by decide) rfl ?_
  intro p e s m args below meth c s₁ B hml hv
  obtain ⟨rfl, hsz, hP, hK, hD0⟩ := hv
  have hx := B.exec
  have hb := B.bytes
  have hr := B.returns
  have hts := atoms_spec (ws := wsX2_makePlan) B.pre
  have hown : s.vm.findClass RX2 = some m.cls := findClass_of_methodNamed B.named
  have hlocks := B.notSynchronized
  subst hsz
  have hD := hD0.self (sz := s.heap.size)
  generalize hAe : va_A [(h0, .inr (2, [.ref p1, .ref p2, .ref p3, .ref p4, .ref p5, .ref p6, .ref p7, .ref p8])), (p1, .inl (cI, 151, .inl g1)), (p2, .inl (cI, 151, .inl g2)), (p6, .inl (cI, 151, .inl g6)), (p7, .inl (cI, 151, .inl g7)), (tg, .inr (3, [.ref tb, .int 0])), (h1, .inr (1, [.ref k1, .ref k2, .ref k3, .ref k4, .int kb, .int km])), (k1, .inr (3, [.ref a1, .int 0])), (k2, .inr (3, [.ref a2, .int 0])), (k3, .inr (3, [.ref a3, .int 0])), (k4, .inr (3, [.ref a4, .int 0]))] s.heap.size = A at hD ⊢
  have hA : ∀ q : Nat, s.heap.size ≤ q → A q := fun q h => by rw [← hAe]; exact Or.inr h
  have hS : va_S A s.heap s.heap [] := va_S.rf
  have hP : va_P (dC, dI) vwCl [(h0, .inr (2, [.ref p1, .ref p2, .ref p3, .ref p4, .ref p5, .ref p6, .ref p7, .ref p8])), (p1, .inl (cI, 151, .inl g1)), (p2, .inl (cI, 151, .inl g2)), (p6, .inl (cI, 151, .inl g6)), (p7, .inl (cI, 151, .inl g7)), (tg, .inr (3, [.ref tb, .int 0])), (h1, .inr (1, [.ref k1, .ref k2, .ref k3, .ref k4, .int kb, .int km])), (k1, .inr (3, [.ref a1, .int 0])), (k2, .inr (3, [.ref a2, .int 0])), (k3, .inr (3, [.ref a3, .int 0])), (k4, .inr (3, [.ref a4, .int 0]))] s.heap := hP
  have hl := lv_entry ([.ref h0, .ref sr, .ref tg, .int ls0, .ref h1]) (n := 9) (Nat.le_of_ble_eq_true rfl)
  rw [lg_entry_eq]
  generalize (lg_sl ([.ref h0, .ref sr, .ref tg, .int ls0, .ref h1]) ++ List.replicate (9 - (lg_sl ([.ref h0, .ref sr, .ref tg, .int ls0, .ref h1])).length) Slot.unset).toArray = ls at hl ⊢
  have hl : lv_has ls 9 [(0, .ref h0), (1, .ref sr), (2, .ref tg), (3, .int ls0), (4, .ref h1)] := hl
  refine lv_aload_n hx hb dX2_makePlan_0 rfl (lv_at hl 2 rfl) ?_
  have hPc := hP.sub (ws' := [(tg, .inr (3, [.ref tb, .int 0]))]) [5] rfl
  have hFc : ∀ q : Nat, s.heap.size ≤ q → A q := fun q h => hA q (Nat.le_trans hS.1 h)
  have hKc := hK.sub (tys' := []) [] rfl
  refine va_calli (va_runV (As := []) (rest := []) ⟨hx, hb, hml, hown, hts⟩ (c_X3_count l dC dI tg tb 0 s.heap.size) (cwV 0 hts gX2_makePlan_X3_count rfl rfl rfl (by decide +kernel) ⟨Nat.le_of_ble_eq_true rfl, Nat.le_of_ble_eq_true rfl⟩) ⟨fun a U g mk q => by obtain ⟨q0, q1, qP, qK, qD⟩ := q; exact ⟨q0, q1, qP, va_K.moved (u := U) (U := U.calling g mk a) (Vm.Alike.refl U.vm) qK, qD⟩, va_recv hKc hPc (ci := 3) (q0 := 0) rfl rfl, fun U hU hW => ⟨rfl, by rw [hU], by rw [hU]; exact hPc, va_K.moved hW.alike hKc, zz_D (hD.sub (ws' := [(tg, .inr (3, [.ref tb, .int 0]))]) [5] (by decide) rfl)⟩⟩ rfl rfl hl.1 rfl (lv_room (Nat.le_of_ble_eq_true rfl)) dX2_makePlan_1 ⟨(Nat.le_of_ble_eq_true rfl), (Nat.le_of_ble_eq_true rfl)⟩) hS (fun q h1 h2 => absurd h1 (Nat.not_lt.mpr h2)) hFc (fun r_44 u_45 t H1 locs ht hvm hw hB hz1 hk1 hS1 => ?_)
  have hP := zz_keep hP hk1
  have hS := hS1
  clear hS1
  generalize H1 = H at hP hS ht ⊢
  have hP : va_P (dC, dI) vwCl [(h0, .inr (2, [.ref p1, .ref p2, .ref p3, .ref p4, .ref p5, .ref p6, .ref p7, .ref p8])), (p1, .inl (cI, 151, .inl g1)), (p2, .inl (cI, 151, .inl g2)), (p6, .inl (cI, 151, .inl g6)), (p7, .inl (cI, 151, .inl g7)), (tg, .inr (3, [.ref tb, .int 0])), (h1, .inr (1, [.ref k1, .ref k2, .ref k3, .ref k4, .int kb, .int km])), (k1, .inr (3, [.ref a1, .int 0])), (k2, .inr (3, [.ref a2, .int 0])), (k3, .inr (3, [.ref a3, .int 0])), (k4, .inr (3, [.ref a4, .int 0]))] H := hP
  obtain rfl : 0 = r_44 := (show r_44 = 0 from hw).symm
  refine lv_sipush (v := 150) hx hb dX2_makePlan_4 (by decide) ?_
  refine va_mmin hx hb (hml.trans hl.1.symm) hown (hts (.methodLink RX2 42 Lib.Math.min.name) (by decide +kernel)) (hts (.static Lib.Math.min.name) (by decide +kernel)) (hts (.initialized "java/lang/Math") (by decide +kernel)) (hts (.code Lib.Math.min.name Lib.Math.min.code 2 (some .int)) (by decide +kernel)) (Nat.le_of_ble_eq_true rfl) (Nat.le_of_ble_eq_true rfl) (Nat.le_of_ble_eq_true rfl) (Nat.le_of_ble_eq_true rfl) dX2_makePlan_7 ?_
  refine lv_topi (fun x_46 ex_46 => ?_)
  obtain rfl : 0 = x_46 := (ex_46.trans (by decide)).symm
  refine lv_istore (lv' := [(5, .int 0), (0, .ref h0), (1, .ref sr), (2, .ref tg), (3, .int ls0), (4, .ref h1)]) hx hb dX2_makePlan_10 hl (by decide) rfl (fun ls hl => ?_)
  refine lv_aload_n hx hb dX2_makePlan_12 rfl (lv_at hl 1 rfl) ?_
  refine va_get (D := (dC, dI)) (ci := 2) (v := .ref p6) (C := RX2) (T := TX2) (N := 8) hx hb hts (by decide +kernel) hown hK hP 0 rfl rfl 5 (by decide) (hts (.fieldLink RX2 27 "DeltaCodec$Planner" "copyCommon" "[I") (by decide +kernel)) (fun _ h9 => h9) rfl dX2_makePlan_13 ?_
  refine lv_iconst (v := 0) hx hb dX2_makePlan_16 (by decide) ?_
  have hPc := hP.sub (ws' := [(p6, .inl (cI, 151, .inl g6))]) [3] rfl
  have hDc := hD.sub (ws' := [(p6, .inl (cI, 151, .inl g6))]) [3] (by decide) rfl
  have hFc := va_free (wc := [(p6, .inl (cI, 151, .inl g6))]) hD hS hA [3] rfl
  have hKc := hK.sub (tys' := [(cI, .int)]) [0] rfl
  refine va_callv (va_runS (As := [.ref p6, .int 0]) (rest := []) ⟨hx, hb, hml, hown, hts⟩ (c_J7_fill_53178 l dC dI cI p6 151 g6 0 H.size (by decide)) (va_cwS 2 hts gX2_makePlan_J7_fill_53178 rfl rfl rfl (by decide +kernel) ⟨Nat.le_of_ble_eq_true rfl, Nat.le_of_ble_eq_true rfl⟩) ⟨fun a U g mk q => by obtain ⟨q0, q1, qP, qK, qD⟩ := q; exact ⟨q0, q1, qP, va_K.moved (u := U) (U := U.calling g mk a) (Vm.Alike.refl U.vm) qK, qD⟩, fun U hU hW => ⟨rfl, by rw [hU], by rw [hU]; exact hPc, va_K.moved hW.alike hKc, zz_D hDc⟩⟩ rfl rfl hl.1 rfl (lv_room (Nat.le_of_ble_eq_true rfl)) dX2_makePlan_17 ⟨(Nat.le_of_ble_eq_true rfl), (Nat.le_of_ble_eq_true rfl)⟩) hS (fun q _ h => hFc q h) hFc (fun u_48 t H1 locs ht hvm hw hB hz1 hk1 hS1 => ?_)
  obtain ⟨hP1, hD1⟩ := hB
  rw [ht] at hP1
  obtain ⟨hP, hD⟩ := va_join (wr := [(h0, .inr (2, [.ref p1, .ref p2, .ref p3, .ref p4, .ref p5, .ref p6, .ref p7, .ref p8])), (p1, .inl (cI, 151, .inl g1)), (p2, .inl (cI, 151, .inl g2)), (p7, .inl (cI, 151, .inl g7)), (tg, .inr (3, [.ref tb, .int 0])), (h1, .inr (1, [.ref k1, .ref k2, .ref k3, .ref k4, .int kb, .int km])), (k1, .inr (3, [.ref a1, .int 0])), (k2, .inr (3, [.ref a2, .int 0])), (k3, .inr (3, [.ref a3, .int 0])), (k4, .inr (3, [.ref a4, .int 0]))]) (w1 := [(p6, .inl (cI, 151, .inl u_48))]) hP hD [3] [0, 1, 2, 4, 5, 6, 7, 8, 9, 10] rfl rfl (by decide) (by decide) hk1 hFc hP1 hD1
  have hS := hS1
  clear hS1
  generalize H1 = H at hP hS ht ⊢
  have hP : va_P (dC, dI) vwCl [(h0, .inr (2, [.ref p1, .ref p2, .ref p3, .ref p4, .ref p5, .ref p6, .ref p7, .ref p8])), (p1, .inl (cI, 151, .inl g1)), (p2, .inl (cI, 151, .inl g2)), (p7, .inl (cI, 151, .inl g7)), (tg, .inr (3, [.ref tb, .int 0])), (h1, .inr (1, [.ref k1, .ref k2, .ref k3, .ref k4, .int kb, .int km])), (k1, .inr (3, [.ref a1, .int 0])), (k2, .inr (3, [.ref a2, .int 0])), (k3, .inr (3, [.ref a3, .int 0])), (k4, .inr (3, [.ref a4, .int 0])), (p6, .inl (cI, 151, .inl u_48))] H := hP
  have hD : va_D A [(h0, .inr (2, [.ref p1, .ref p2, .ref p3, .ref p4, .ref p5, .ref p6, .ref p7, .ref p8])), (p1, .inl (cI, 151, .inl g1)), (p2, .inl (cI, 151, .inl g2)), (p7, .inl (cI, 151, .inl g7)), (tg, .inr (3, [.ref tb, .int 0])), (h1, .inr (1, [.ref k1, .ref k2, .ref k3, .ref k4, .int kb, .int km])), (k1, .inr (3, [.ref a1, .int 0])), (k2, .inr (3, [.ref a2, .int 0])), (k3, .inr (3, [.ref a3, .int 0])), (k4, .inr (3, [.ref a4, .int 0])), (p6, .inl (cI, 151, .inl u_48))] := hD
  have w17 := hw
  refine lv_aload_n hx hb dX2_makePlan_20 rfl (lv_at hl 1 rfl) ?_
  refine va_get (D := (dC, dI)) (ci := 2) (v := .ref p7) (C := RX2) (T := TX2) (N := 8) hx hb hts (by decide +kernel) hown hK hP 0 rfl rfl 6 (by decide) (hts (.fieldLink RX2 30 "DeltaCodec$Planner" "repeatCommon" "[I") (by decide +kernel)) (fun _ h9 => h9) rfl dX2_makePlan_21 ?_
  refine lv_iconst (v := 0) hx hb dX2_makePlan_24 (by decide) ?_
  have hPc := hP.sub (ws' := [(p7, .inl (cI, 151, .inl g7))]) [3] rfl
  have hDc := hD.sub (ws' := [(p7, .inl (cI, 151, .inl g7))]) [3] (by decide) rfl
  have hFc := va_free (wc := [(p7, .inl (cI, 151, .inl g7))]) hD hS hA [3] rfl
  have hKc := hK.sub (tys' := [(cI, .int)]) [0] rfl
  refine va_callv (va_runS (As := [.ref p7, .int 0]) (rest := []) ⟨hx, hb, hml, hown, hts⟩ (c_J7_fill_53178 l dC dI cI p7 151 g7 0 H.size (by decide)) (va_cwS 2 hts gX2_makePlan_J7_fill_53178 rfl rfl rfl (by decide +kernel) ⟨Nat.le_of_ble_eq_true rfl, Nat.le_of_ble_eq_true rfl⟩) ⟨fun a U g mk q => by obtain ⟨q0, q1, qP, qK, qD⟩ := q; exact ⟨q0, q1, qP, va_K.moved (u := U) (U := U.calling g mk a) (Vm.Alike.refl U.vm) qK, qD⟩, fun U hU hW => ⟨rfl, by rw [hU], by rw [hU]; exact hPc, va_K.moved hW.alike hKc, zz_D hDc⟩⟩ rfl rfl hl.1 rfl (lv_room (Nat.le_of_ble_eq_true rfl)) dX2_makePlan_25 ⟨(Nat.le_of_ble_eq_true rfl), (Nat.le_of_ble_eq_true rfl)⟩) hS (fun q _ h => hFc q h) hFc (fun u_50 t H1 locs ht hvm hw hB hz1 hk1 hS1 => ?_)
  obtain ⟨hP1, hD1⟩ := hB
  rw [ht] at hP1
  obtain ⟨hP, hD⟩ := va_join (wr := [(h0, .inr (2, [.ref p1, .ref p2, .ref p3, .ref p4, .ref p5, .ref p6, .ref p7, .ref p8])), (p1, .inl (cI, 151, .inl g1)), (p2, .inl (cI, 151, .inl g2)), (tg, .inr (3, [.ref tb, .int 0])), (h1, .inr (1, [.ref k1, .ref k2, .ref k3, .ref k4, .int kb, .int km])), (k1, .inr (3, [.ref a1, .int 0])), (k2, .inr (3, [.ref a2, .int 0])), (k3, .inr (3, [.ref a3, .int 0])), (k4, .inr (3, [.ref a4, .int 0])), (p6, .inl (cI, 151, .inl u_48))]) (w1 := [(p7, .inl (cI, 151, .inl u_50))]) hP hD [3] [0, 1, 2, 4, 5, 6, 7, 8, 9, 10] rfl rfl (by decide) (by decide) hk1 hFc hP1 hD1
  have hS := hS1
  clear hS1
  generalize H1 = H at hP hS ht ⊢
  have hP : va_P (dC, dI) vwCl [(h0, .inr (2, [.ref p1, .ref p2, .ref p3, .ref p4, .ref p5, .ref p6, .ref p7, .ref p8])), (p1, .inl (cI, 151, .inl g1)), (p2, .inl (cI, 151, .inl g2)), (tg, .inr (3, [.ref tb, .int 0])), (h1, .inr (1, [.ref k1, .ref k2, .ref k3, .ref k4, .int kb, .int km])), (k1, .inr (3, [.ref a1, .int 0])), (k2, .inr (3, [.ref a2, .int 0])), (k3, .inr (3, [.ref a3, .int 0])), (k4, .inr (3, [.ref a4, .int 0])), (p6, .inl (cI, 151, .inl u_48)), (p7, .inl (cI, 151, .inl u_50))] H := hP
  have hD : va_D A [(h0, .inr (2, [.ref p1, .ref p2, .ref p3, .ref p4, .ref p5, .ref p6, .ref p7, .ref p8])), (p1, .inl (cI, 151, .inl g1)), (p2, .inl (cI, 151, .inl g2)), (tg, .inr (3, [.ref tb, .int 0])), (h1, .inr (1, [.ref k1, .ref k2, .ref k3, .ref k4, .int kb, .int km])), (k1, .inr (3, [.ref a1, .int 0])), (k2, .inr (3, [.ref a2, .int 0])), (k3, .inr (3, [.ref a3, .int 0])), (k4, .inr (3, [.ref a4, .int 0])), (p6, .inl (cI, 151, .inl u_48)), (p7, .inl (cI, 151, .inl u_50))] := hD
  have w25 := hw
  refine lv_aload_n hx hb dX2_makePlan_28 rfl (lv_at hl 1 rfl) ?_
  refine va_get (D := (dC, dI)) (ci := 2) (v := .ref p1) (C := RX2) (T := TX2) (N := 8) hx hb hts (by decide +kernel) hown hK hP 0 rfl rfl 0 (by decide) (hts (.fieldLink RX2 11 "DeltaCodec$Planner" "bytesLeft" "[I") (by decide +kernel)) (fun _ h9 => h9) rfl dX2_makePlan_29 ?_
  refine lv_iload hx hb dX2_makePlan_32 (lv_at hl 0 rfl) ?_
  refine lv_iconst (v := 0) hx hb dX2_makePlan_34 (by decide) ?_
  refine va_iast hx hb hK hP hD hS 1 0 rfl rfl (by unfold vp_in; decide) dX2_makePlan_35 (fun H locs hP hD hS => ?_)
  obtain ⟨f_51, ef_51⟩ : ∃ g, g = upd g1 (0 : Int32).toNatClampNeg 0 := ⟨_, rfl⟩
  rw [← ef_51] at hP hD
  have hP : va_P (dC, dI) vwCl [(h0, .inr (2, [.ref p1, .ref p2, .ref p3, .ref p4, .ref p5, .ref p6, .ref p7, .ref p8])), (p1, .inl (cI, 151, .inl f_51)), (p2, .inl (cI, 151, .inl g2)), (tg, .inr (3, [.ref tb, .int 0])), (h1, .inr (1, [.ref k1, .ref k2, .ref k3, .ref k4, .int kb, .int km])), (k1, .inr (3, [.ref a1, .int 0])), (k2, .inr (3, [.ref a2, .int 0])), (k3, .inr (3, [.ref a3, .int 0])), (k4, .inr (3, [.ref a4, .int 0])), (p6, .inl (cI, 151, .inl u_48)), (p7, .inl (cI, 151, .inl u_50))] H := hP
  have hD : va_D A [(h0, .inr (2, [.ref p1, .ref p2, .ref p3, .ref p4, .ref p5, .ref p6, .ref p7, .ref p8])), (p1, .inl (cI, 151, .inl f_51)), (p2, .inl (cI, 151, .inl g2)), (tg, .inr (3, [.ref tb, .int 0])), (h1, .inr (1, [.ref k1, .ref k2, .ref k3, .ref k4, .int kb, .int km])), (k1, .inr (3, [.ref a1, .int 0])), (k2, .inr (3, [.ref a2, .int 0])), (k3, .inr (3, [.ref a3, .int 0])), (k4, .inr (3, [.ref a4, .int 0])), (p6, .inl (cI, 151, .inl u_48)), (p7, .inl (cI, 151, .inl u_50))] := hD
  refine lv_aload_n hx hb dX2_makePlan_36 rfl (lv_at hl 1 rfl) ?_
  refine va_get (D := (dC, dI)) (ci := 2) (v := .ref p2) (C := RX2) (T := TX2) (N := 8) hx hb hts (by decide +kernel) hown hK hP 0 rfl rfl 1 (by decide) (hts (.fieldLink RX2 15 "DeltaCodec$Planner" "stepsLeft" "[I") (by decide +kernel)) (fun _ h9 => h9) rfl dX2_makePlan_37 ?_
  refine lv_iload hx hb dX2_makePlan_40 (lv_at hl 0 rfl) ?_
  refine lv_iconst (v := 0) hx hb dX2_makePlan_42 (by decide) ?_
  refine va_iast hx hb hK hP hD hS 2 0 rfl rfl (by unfold vp_in; decide) dX2_makePlan_43 (fun H locs hP hD hS => ?_)
  obtain ⟨f_52, ef_52⟩ : ∃ g, g = upd g2 (0 : Int32).toNatClampNeg 0 := ⟨_, rfl⟩
  rw [← ef_52] at hP hD
  have hP : va_P (dC, dI) vwCl [(h0, .inr (2, [.ref p1, .ref p2, .ref p3, .ref p4, .ref p5, .ref p6, .ref p7, .ref p8])), (p1, .inl (cI, 151, .inl f_51)), (p2, .inl (cI, 151, .inl f_52)), (tg, .inr (3, [.ref tb, .int 0])), (h1, .inr (1, [.ref k1, .ref k2, .ref k3, .ref k4, .int kb, .int km])), (k1, .inr (3, [.ref a1, .int 0])), (k2, .inr (3, [.ref a2, .int 0])), (k3, .inr (3, [.ref a3, .int 0])), (k4, .inr (3, [.ref a4, .int 0])), (p6, .inl (cI, 151, .inl u_48)), (p7, .inl (cI, 151, .inl u_50))] H := hP
  have hD : va_D A [(h0, .inr (2, [.ref p1, .ref p2, .ref p3, .ref p4, .ref p5, .ref p6, .ref p7, .ref p8])), (p1, .inl (cI, 151, .inl f_51)), (p2, .inl (cI, 151, .inl f_52)), (tg, .inr (3, [.ref tb, .int 0])), (h1, .inr (1, [.ref k1, .ref k2, .ref k3, .ref k4, .int kb, .int km])), (k1, .inr (3, [.ref a1, .int 0])), (k2, .inr (3, [.ref a2, .int 0])), (k3, .inr (3, [.ref a3, .int 0])), (k4, .inr (3, [.ref a4, .int 0])), (p6, .inl (cI, 151, .inl u_48)), (p7, .inl (cI, 151, .inl u_50))] := hD
  refine lv_iconst (v := 0) hx hb dX2_makePlan_44 (by decide) ?_
  refine lv_istore (lv' := [(6, .int 0), (5, .int 0), (0, .ref h0), (1, .ref sr), (2, .ref tg), (3, .int ls0), (4, .ref h1)]) hx hb dX2_makePlan_45 hl (by decide) rfl (fun ls hl => ?_)
  refine lv_iload hx hb dX2_makePlan_47 (lv_at hl 1 rfl) ?_
  refine lv_iconst (v := 1) hx hb dX2_makePlan_49 (by decide) ?_
  refine lv_isub hx hb dX2_makePlan_50 ?_
  refine lv_topi (fun x_53 ex_53 => ?_)
  obtain rfl : (-1) = x_53 := (ex_53.trans (by decide)).symm
  refine lv_istore (lv' := [(7, .int (-1)), (6, .int 0), (5, .int 0), (0, .ref h0), (1, .ref sr), (2, .ref tg), (3, .int ls0), (4, .ref h1)]) hx hb dX2_makePlan_51 hl (by decide) rfl (fun ls hl => ?_)
  refine lv_iload hx hb dX2_makePlan_53 (lv_at hl 0 rfl) ?_
  refine lv_if_lt (tgt := 195) hx hb dX2_makePlan_55 (by decide) (fun c55 => ?_) (fun h => absurd h (by decide))
  refine lv_aload_n hx hb dX2_makePlan_195 rfl (lv_at hl 3 rfl) ?_
  refine lv_iload hx hb dX2_makePlan_196 (lv_at hl 2 rfl) ?_
  refine lv_aload hx hb dX2_makePlan_198 (lv_at hl 7 rfl) ?_
  have hPc := hP.sub (ws' := [(h0, .inr (2, [.ref p1, .ref p2, .ref p3, .ref p4, .ref p5, .ref p6, .ref p7, .ref p8])), (p1, .inl (cI, 151, .inl f_51)), (h1, .inr (1, [.ref k1, .ref k2, .ref k3, .ref k4, .int kb, .int km])), (k1, .inr (3, [.ref a1, .int 0])), (k2, .inr (3, [.ref a2, .int 0])), (k3, .inr (3, [.ref a3, .int 0])), (k4, .inr (3, [.ref a4, .int 0]))]) [0, 1, 4, 5, 6, 7, 8] rfl
  have hDc := hD.sub (ws' := [(h0, .inr (2, [.ref p1, .ref p2, .ref p3, .ref p4, .ref p5, .ref p6, .ref p7, .ref p8])), (p1, .inl (cI, 151, .inl f_51)), (h1, .inr (1, [.ref k1, .ref k2, .ref k3, .ref k4, .int kb, .int km])), (k1, .inr (3, [.ref a1, .int 0])), (k2, .inr (3, [.ref a2, .int 0])), (k3, .inr (3, [.ref a3, .int 0])), (k4, .inr (3, [.ref a4, .int 0]))]) [0, 1, 4, 5, 6, 7, 8] (by decide) rfl
  have hFc := va_free (wc := [(h0, .inr (2, [.ref p1, .ref p2, .ref p3, .ref p4, .ref p5, .ref p6, .ref p7, .ref p8])), (p1, .inl (cI, 151, .inl f_51)), (h1, .inr (1, [.ref k1, .ref k2, .ref k3, .ref k4, .int kb, .int km])), (k1, .inr (3, [.ref a1, .int 0])), (k2, .inr (3, [.ref a2, .int 0])), (k3, .inr (3, [.ref a3, .int 0])), (k4, .inr (3, [.ref a4, .int 0]))]) hD hS hA [0, 1, 4, 5, 6, 7, 8] rfl
  have hKc := hK.sub (tys' := [(cI, .int)]) [0] rfl
  refine va_callv (va_runV (As := [.int 0, .ref h1]) (rest := []) ⟨hx, hb, hml, hown, hts⟩ (c_X2_listInstructions l dC dI cI h0 p1 p2 p3 p4 p5 p6 p7 p8 h1 k1 k2 k3 k4 a1 a2 a3 a4 kb km f_51 H.size) (cwV 2 hts gX2_makePlan_X2_listInstructions rfl rfl rfl (by decide +kernel) ⟨Nat.le_of_ble_eq_true rfl, Nat.le_of_ble_eq_true rfl⟩) ⟨fun a U g mk q => by obtain ⟨q0, q1, qP, qK, qD⟩ := q; exact ⟨q0, q1, qP, va_K.moved (u := U) (U := U.calling g mk a) (Vm.Alike.refl U.vm) qK, qD⟩, va_recv hKc hPc (ci := 2) (q0 := 0) rfl rfl, fun U hU hW => ⟨rfl, by rw [hU], by rw [hU]; exact hPc, va_K.moved hW.alike hKc, zz_D hDc⟩⟩ rfl rfl hl.1 rfl (lv_room (Nat.le_of_ble_eq_true rfl)) dX2_makePlan_200 ⟨(Nat.le_of_ble_eq_true rfl), (Nat.le_of_ble_eq_true rfl)⟩) hS (fun q _ h => hFc q h) hFc (fun u_55 t H1 locs ht hvm hw hB hz1 hk1 hS1 => ?_)
  obtain ⟨hP1, hD1⟩ := hB
  rw [ht] at hP1
  obtain ⟨hP, hD⟩ := va_join (wr := [(p2, .inl (cI, 151, .inl f_52)), (tg, .inr (3, [.ref tb, .int 0])), (p6, .inl (cI, 151, .inl u_48)), (p7, .inl (cI, 151, .inl u_50))]) (w1 := [(h1, .inr (1, [.ref k1, .ref k2, .ref k3, .ref k4, .int u_55, .int 1])), (k1, .inr (3, [.ref a1, .int 0])), (k2, .inr (3, [.ref a2, .int 0])), (k3, .inr (3, [.ref a3, .int 0])), (k4, .inr (3, [.ref a4, .int 0]))]) hP hD [0, 1, 4, 5, 6, 7, 8] [2, 3, 9, 10] rfl rfl (by decide) (by decide) hk1 hFc hP1 hD1
  have hS := hS1
  clear hS1
  generalize H1 = H at hP hS ht ⊢
  have hP : va_P (dC, dI) vwCl [(p2, .inl (cI, 151, .inl f_52)), (tg, .inr (3, [.ref tb, .int 0])), (p6, .inl (cI, 151, .inl u_48)), (p7, .inl (cI, 151, .inl u_50)), (h1, .inr (1, [.ref k1, .ref k2, .ref k3, .ref k4, .int u_55, .int 1])), (k1, .inr (3, [.ref a1, .int 0])), (k2, .inr (3, [.ref a2, .int 0])), (k3, .inr (3, [.ref a3, .int 0])), (k4, .inr (3, [.ref a4, .int 0]))] H := hP
  have hD : va_D A [(p2, .inl (cI, 151, .inl f_52)), (tg, .inr (3, [.ref tb, .int 0])), (p6, .inl (cI, 151, .inl u_48)), (p7, .inl (cI, 151, .inl u_50)), (h1, .inr (1, [.ref k1, .ref k2, .ref k3, .ref k4, .int u_55, .int 1])), (k1, .inr (3, [.ref a1, .int 0])), (k2, .inr (3, [.ref a2, .int 0])), (k3, .inr (3, [.ref a3, .int 0])), (k4, .inr (3, [.ref a4, .int 0]))] := hD
  have w200 := hw
  have hP9 := hP.sub (ws' := [(h1, .inr (1, [.ref k1, .ref k2, .ref k3, .ref k4, .int u_55, .int 1])), (k1, .inr (3, [.ref a1, .int 0])), (k2, .inr (3, [.ref a2, .int 0])), (k3, .inr (3, [.ref a3, .int 0])), (k4, .inr (3, [.ref a4, .int 0]))]) [4, 5, 6, 7, 8] rfl
  have hD9 := hD.sub (ws' := [(h1, .inr (1, [.ref k1, .ref k2, .ref k3, .ref k4, .int u_55, .int 1])), (k1, .inr (3, [.ref a1, .int 0])), (k2, .inr (3, [.ref a2, .int 0])), (k3, .inr (3, [.ref a3, .int 0])), (k4, .inr (3, [.ref a4, .int 0]))]) [4, 5, 6, 7, 8] (by decide) rfl
  exact W.vret hx hb hr (fun t ht hW => ⟨⟨u_55, rfl, trivial, ⟨by rw [ht]; exact hP9, hD9⟩⟩, hS.F ht⟩) hS.2.2 dX2_makePlan_203
