set_option maxHeartbeats 4000000 in
set_option maxRecDepth 100000 in
theorem lo_fill {p : Program} {l : Launch} {e : Env} {s : State} {m : MethodId} {args : Array Value} {below : List Frame} {meth : Method} {c : Code} {Q : State → Prop} {A : Nat → Prop} (dC : Nat → ClassId) (dI : Nat → Nat → Nat) (cI : ClassId) (h0 : Nat) (kn : Nat) (kf : Nat → Int32) (p0 : Int32) (hn : kn < 2 ^ 31) (hx : p.tables.exec = Jvm.exec) (hb : c.code = cJ7_fill_53178) (hml : c.maxLocals = 4) (hown : s.vm.findClass RJ7 = some m.cls) (hts : ∀ w ∈ wsJ7_fill_53178, w.before args s = true) (hA : ∀ q : Nat, s.heap.size ≤ q → A q) (hK : va_K (dC, dI) vwCl [(cI, .int)] s)
    (kk : ∀ (i : Nat) (x : Int32) (kg : Nat → Int32) (H : Heap) (locs : List Loc) (ls : Array Slot), va_P (dC, dI) vwCl [(h0, .inl (cI, kn, .inl kg))] H → va_D A [(h0, .inl (cI, kn, .inl kg))] → va_S A s.heap H locs → lv_has ls 4 [(2, .int x), (3, .int (nI kn)), (0, .ref h0), (1, .int p0)] → W p l e (headSpec wsJ7_fill_53178 ({ frames := 0, cells := 0, slots := 0, locals := 0 })).room s m args below meth c H locs 0 0 Q (F0 m 20 ls []))
    : ∀ (j : Nat) (i : Nat) (x : Int32) (kg : Nat → Int32) (H : Heap) (locs : List Loc) (ls : Array Slot), kn - i < j → (i ≤ kn) → (x = nI i) → va_P (dC, dI) vwCl [(h0, .inl (cI, kn, .inl kg))] H → va_D A [(h0, .inl (cI, kn, .inl kg))] → va_S A s.heap H locs → lv_has ls 4 [(2, .int x), (3, .int (nI kn)), (0, .ref h0), (1, .int p0)] → W p l e (headSpec wsJ7_fill_53178 ({ frames := 0, cells := 0, slots := 0, locals := 0 })).room s m args below meth c H locs 0 0 Q (F0 m 5 ls []) := by
  intro j
  induction j with
  | zero => intro i x kg H locs ls hj; omega
  | succ j ih =>
    intro i x kg H locs ls hj hi hx1 hP hD hS hl
    refine lv_iload_n hx hb dJ7_fill_53178_5 rfl (lv_at hl 0 rfl) ?_
    refine lv_iload_n hx hb dJ7_fill_53178_6 rfl (lv_at hl 1 rfl) ?_
    refine lv_icmp_ge (tgt := 20) hx hb dJ7_fill_53178_7 (by decide) (fun c7 => ?_) (fun c7 => ?_)
    · skip
      exact kk i x kg H locs ls  (hP.sub [0] rfl) (hD.sub [0] (by decide) rfl) hS (lv_sub hl [0, 1, 2, 3] rfl)
    · skip
      have hlt : i < kn := Nat.lt_of_not_le (fun q => c7 (by rw [hx1]; exact nI_le q (by omega)))
      refine lv_aload_n hx hb dJ7_fill_53178_10 rfl (lv_at hl 2 rfl) ?_
      refine lv_iload_n hx hb dJ7_fill_53178_11 rfl (lv_at hl 0 rfl) ?_
      refine lv_iload_n hx hb dJ7_fill_53178_12 rfl (lv_at hl 3 rfl) ?_
      refine va_iast hx hb hK hP hD hS 0 0 rfl rfl (by rw [hx1]; exact vp_in_nI hlt hn) dJ7_fill_53178_13 (fun H locs hP hD hS => ?_)
      obtain ⟨f_31, ef_31⟩ : ∃ g, g = upd kg (x : Int32).toNatClampNeg p0 := ⟨_, rfl⟩
      rw [← ef_31] at hP hD
      have hP : va_P (dC, dI) vwCl [(h0, .inl (cI, kn, .inl f_31))] H := hP
      have hD : va_D A [(h0, .inl (cI, kn, .inl f_31))] := hD
      obtain ⟨x_32, ex_32⟩ : ∃ y : Int32, y = x + 1 := ⟨_, rfl⟩
      refine lv_iinc (v := x_32) (lv' := [(2, .int x_32), (3, .int (nI kn)), (0, .ref h0), (1, .int p0)]) hx hb dJ7_fill_53178_14 hl (k := 0) rfl (by rw [ex_32]; rfl) (by decide) rfl (fun ls hl => ?_)
      refine lv_goto (tgt := 5) hx hb dJ7_fill_53178_17 (by decide) ?_
      exact ih (i + 1) x_32 f_31 H locs ls (by omega) (by omega) (by rw [ex_32, hx1]; exact nI_1 i) (hP.sub [0] rfl) (hD.sub [0] (by decide) rfl) hS (lv_sub hl [0, 1, 2, 3] rfl)
set_option maxHeartbeats 4000000 in
set_option maxRecDepth 100000 in
theorem c_J7_fill_53178 (l : Launch) (dC : Nat → ClassId) (dI : Nat → Nat → Nat) (cI : ClassId) (h0 : Nat) (kn : Nat) (kf : Nat → Int32) (p0 : Int32) (sz : Nat) (hn : kn < 2 ^ 31) : Met l yJ7_fill_53178 wsJ7_fill_53178 ({ frames := 0, cells := 0, slots := 0, locals := 0 }) (va_Pc [.ref h0, .int p0] (fun U => U.heap.size = sz ∧ va_P (dC, dI) vwCl [(h0, .inl (cI, kn, .inl kf))] U.heap ∧ va_K (dC, dI) vwCl [(cI, .int)] U ∧ va_D (fun _ => True) [(h0, .inl (cI, kn, .inl kf))])) (va_Qv (fun kg : Nat → Int32 => True) (fun kg t => va_P (dC, dI) vwCl [(h0, .inl (cI, kn, .inl kg))] t.heap ∧ va_D (va_A [(h0, .inl (cI, kn, .inl kf))] sz) [(h0, .inl (cI, kn, .inl kg))]) (va_A [(h0, .inl (cI, kn, .inl kf))] sz)) 0 0 (va_A [(h0, .inl (cI, kn, .inl kf))] sz) := by
  refine Met.ofW (cc := cJ7_fill_53178) (maxL := 4) (ret := none) (by decide) rfl ?_
  intro p e s m args below meth c s₁ B hml hv
  obtain ⟨rfl, hsz, hP, hK, hD0⟩ := hv
  have hx := B.exec
  have hb := B.bytes
  have hr := B.returns
  have hts := atoms_spec (ws := wsJ7_fill_53178) B.pre
  have hown : s.vm.findClass RJ7 = some m.cls := findClass_of_methodNamed B.named
  have hlocks := B.notSynchronized
  subst hsz
  have hD := hD0.self (sz := s.heap.size)
  generalize hAe : va_A [(h0, .inl (cI, kn, .inl kf))] s.heap.size = A at hD ⊢
  have hA : ∀ q : Nat, s.heap.size ≤ q → A q := fun q h => by rw [← hAe]; exact Or.inr h
  have hS : va_S A s.heap s.heap [] := va_S.rf
  have hP : va_P (dC, dI) vwCl [(h0, .inl (cI, kn, .inl kf))] s.heap := hP
  have hl := lv_entry ([.ref h0, .int p0]) (n := 4) (Nat.le_of_ble_eq_true rfl)
  rw [lg_entry_eq]
  generalize (lg_sl ([.ref h0, .int p0]) ++ List.replicate (4 - (lg_sl ([.ref h0, .int p0])).length) Slot.unset).toArray = ls at hl ⊢
  have hl : lv_has ls 4 [(0, .ref h0), (1, .int p0)] := hl
  refine lv_iconst (v := 0) hx hb dJ7_fill_53178_0 (by decide) ?_
  refine lv_istore_n (lv' := [(2, .int 0), (0, .ref h0), (1, .int p0)]) hx hb dJ7_fill_53178_1 rfl hl (by decide) rfl (fun ls hl => ?_)
  refine lv_aload_n hx hb dJ7_fill_53178_2 rfl (lv_at hl 1 rfl) ?_
  refine va_alen (v := nI kn) hx hb hK hP 0 0 rfl rfl rfl dJ7_fill_53178_3 ?_
  refine lv_istore_n (lv' := [(3, .int (nI kn)), (2, .int 0), (0, .ref h0), (1, .int p0)]) hx hb dJ7_fill_53178_4 rfl hl (by decide) rfl (fun ls hl => ?_)
  refine lo_fill dC dI cI h0 kn kf p0 hn hx hb hml hown hts hA hK ?_ (kn + 1) 0 0 kf s.heap [] ls (by omega) (by omega) nI_0.symm hP hD hS (lv_sub hl [1, 0, 2, 3] rfl)
  intro i x kg H locs ls hP hD hS hl
  have hP9 := hP.sub (ws' := [(h0, .inl (cI, kn, .inl kg))]) [0] rfl
  have hD9 := hD.sub (ws' := [(h0, .inl (cI, kn, .inl kg))]) [0] (by decide) rfl
  exact W.vret hx hb hr (fun t ht hW => ⟨⟨kg, rfl, trivial, ⟨by rw [ht]; exact hP9, hD9⟩⟩, hS.F ht⟩) hS.2.2 dJ7_fill_53178_20
set_option maxHeartbeats 4000000 in
set_option maxRecDepth 100000 in
theorem c_X2_init (l : Launch) (dC : Nat → ClassId) (dI : Nat → Nat → Nat) (cI : ClassId) (h0 : Nat) (sz : Nat) : Met l yX2_init wsX2_init ({ frames := 1, cells := 8, slots := 1208, locals := 20 }) (va_Pc [.ref h0] (fun U => U.heap.size = sz ∧ va_P (dC, dI) vwCl [(h0, .inr (2, [.null, .null, .null, .null, .null, .null, .null, .null]))] U.heap ∧ va_K (dC, dI) vwCl [(cI, .int)] U ∧ va_D (fun _ => True) [(h0, .inr (2, [.null, .null, .null, .null, .null, .null, .null, .null]))])) (va_Qv (fun _ : Nat × Nat × Nat × Nat × Nat × Nat × Nat × Nat => True) (fun u t => match u with | (p1, p2, p3, p4, p5, p6, p7, p8) => va_P (dC, dI) vwCl [(h0, .inr (2, [.ref p1, .ref p2, .ref p3, .ref p4, .ref p5, .ref p6, .ref p7, .ref p8])), (p1, .inl (cI, 151, .inl (fun _ => 0))), (p2, .inl (cI, 151, .inl (fun _ => 0))), (p3, .inl (cI, 151, .inl (fun _ => 0))), (p4, .inl (cI, 151, .inl (fun _ => 0))), (p5, .inl (cI, 151, .inl (fun _ => 0))), (p6, .inl (cI, 151, .inl (fun _ => 0))), (p7, .inl (cI, 151, .inl (fun _ => 0))), (p8, .inl (cI, 151, .inl (fun _ => 0)))] t.heap ∧ va_D (va_A [(h0, .inr (2, [.null, .null, .null, .null, .null, .null, .null, .null]))] sz) [(h0, .inr (2, [.ref p1, .ref p2, .ref p3, .ref p4, .ref p5, .ref p6, .ref p7, .ref p8])), (p1, .inl (cI, 151, .inl (fun _ => 0))), (p2, .inl (cI, 151, .inl (fun _ => 0))), (p3, .inl (cI, 151, .inl (fun _ => 0))), (p4, .inl (cI, 151, .inl (fun _ => 0))), (p5, .inl (cI, 151, .inl (fun _ => 0))), (p6, .inl (cI, 151, .inl (fun _ => 0))), (p7, .inl (cI, 151, .inl (fun _ => 0))), (p8, .inl (cI, 151, .inl (fun _ => 0)))]) (va_A [(h0, .inr (2, [.null, .null, .null, .null, .null, .null, .null, .null]))] sz)) 8 1208 (va_A [(h0, .inr (2, [.null, .null, .null, .null, .null, .null, .null, .null]))] sz) := by
  refine Met.ofW (cc := cX2_init) (maxL := 1) (ret := none) (by decide) rfl ?_
  intro p e s m args below meth c s₁ B hml hv
  obtain ⟨rfl, hsz, hP, hK, hD0⟩ := hv
  have hx := B.exec
  have hb := B.bytes
  have hr := B.returns
  have hts := atoms_spec (ws := wsX2_init) B.pre
  have hown : s.vm.findClass RX2 = some m.cls := findClass_of_methodNamed B.named
  have hlocks := B.notSynchronized
  have hin : meth.name = "<init>" := (name_of_methodNamed B.named B.method).1
  subst hsz
  have hD := hD0.self (sz := s.heap.size)
  generalize hAe : va_A [(h0, .inr (2, [.null, .null, .null, .null, .null, .null, .null, .null]))] s.heap.size = A at hD ⊢
  have hA : ∀ q : Nat, s.heap.size ≤ q → A q := fun q h => by rw [← hAe]; exact Or.inr h
  have hS : va_S A s.heap s.heap [] := va_S.rf
  have hP : va_P (dC, dI) vwCl [(h0, .inr (2, [.null, .null, .null, .null, .null, .null, .null, .null]))] s.heap := hP
  have hl := lv_entry ([.ref h0]) (n := 1) (Nat.le_of_ble_eq_true rfl)
  rw [lg_entry_eq]
  generalize (lg_sl ([.ref h0]) ++ List.replicate (1 - (lg_sl ([.ref h0])).length) Slot.unset).toArray = ls at hl ⊢
  have hl : lv_has ls 1 [(0, .ref h0)] := hl
  refine lv_aload_n hx hb dX2_init_0 rfl (lv_at hl 0 rfl) ?_
  refine W.objInit hx hb hown (hts (.methodLink RX2 3 objectInit) (by decide +kernel)) (hts (.instanceMethod objectInit) (by decide +kernel)) (hts (.code objectInit ⟨#[0xb1]⟩ 1 none) (by decide +kernel)) rfl (by rw [hml]; exact hl.1) rfl dX2_init_1 (Nat.le_of_ble_eq_true rfl) (Nat.le_of_ble_eq_true rfl) ?_
  refine W.eq (g2 := F0 m 4 ls []) rfl ?_
  refine lv_aload_n hx hb dX2_init_4 rfl (lv_at hl 0 rfl) ?_
  refine lv_sipush (v := 151) hx hb dX2_init_5 (by decide) ?_
  refine va_newa (atype := .int) (ty := .int) (N' := 151) (a0 := (151, .inl (fun _ => 0))) hx hb (hts (.arrayClass .int) (by decide +kernel)) rfl hK hP hD hS hA (fun _ => rfl) (by decide) (by decide) (by decide) (Nat.le_of_ble_eq_true rfl) (Nat.le_of_ble_eq_true rfl) dX2_init_8 (fun q_33 cA H hK hP hD hS => ?_)
  obtain rfl : cI = cA := (zz_same hK 0 1 rfl rfl).symm
  have hK := hK.sub (tys' := [(cI, .int)]) [0] rfl
  have hP : va_P (dC, dI) vwCl [(h0, .inr (2, [.null, .null, .null, .null, .null, .null, .null, .null])), (q_33, .inl (cI, 151, .inl (fun _ => 0)))] H := hP
  have hD : va_D A [(h0, .inr (2, [.null, .null, .null, .null, .null, .null, .null, .null])), (q_33, .inl (cI, 151, .inl (fun _ => 0)))] := hD
  refine W.widen (k := 1) (n := 151) (by omega) (by omega) ?_
  refine va_putF (D := (dC, dI)) (ci := 2) (v := .ref q_33) (ty := (.array .int)) (C := RX2) (T := TX2) (N := 8) hx hb hts (by decide +kernel) tyX2 tyX2_ok nmX2 hown hK hP hD hS 0 rfl rfl 0 (by decide) (hts (.fieldLink RX2 11 "DeltaCodec$Planner" "bytesLeft" "[I") (by decide +kernel)) (fun _ h9 => h9) rfl hin rfl (by decide +kernel) rfl rfl (Nat.le_of_ble_eq_true rfl) dX2_init_10 (fun H locs hP hD hS => ?_)
  have hP : va_P (dC, dI) vwCl [(h0, .inr (2, [.ref q_33, .null, .null, .null, .null, .null, .null, .null])), (q_33, .inl (cI, 151, .inl (fun _ => 0)))] H := hP
  have hD : va_D A [(h0, .inr (2, [.ref q_33, .null, .null, .null, .null, .null, .null, .null])), (q_33, .inl (cI, 151, .inl (fun _ => 0)))] := hD
  refine lv_aload_n hx hb dX2_init_13 rfl (lv_at hl 0 rfl) ?_
  refine lv_sipush (v := 151) hx hb dX2_init_14 (by decide) ?_
  refine va_newa (atype := .int) (ty := .int) (N' := 151) (a0 := (151, .inl (fun _ => 0))) hx hb (hts (.arrayClass .int) (by decide +kernel)) rfl hK hP hD hS hA (fun _ => rfl) (by decide) (by decide) (by decide) (Nat.le_of_ble_eq_true rfl) (Nat.le_of_ble_eq_true rfl) dX2_init_17 (fun q_34 cA H hK hP hD hS => ?_)
  obtain rfl : cI = cA := (zz_same hK 0 1 rfl rfl).symm
  have hK := hK.sub (tys' := [(cI, .int)]) [0] rfl
  have hP : va_P (dC, dI) vwCl [(h0, .inr (2, [.ref q_33, .null, .null, .null, .null, .null, .null, .null])), (q_33, .inl (cI, 151, .inl (fun _ => 0))), (q_34, .inl (cI, 151, .inl (fun _ => 0)))] H := hP
  have hD : va_D A [(h0, .inr (2, [.ref q_33, .null, .null, .null, .null, .null, .null, .null])), (q_33, .inl (cI, 151, .inl (fun _ => 0))), (q_34, .inl (cI, 151, .inl (fun _ => 0)))] := hD
  refine W.widen (k := 2) (n := 302) (by omega) (by omega) ?_
  refine va_putF (D := (dC, dI)) (ci := 2) (v := .ref q_34) (ty := (.array .int)) (C := RX2) (T := TX2) (N := 8) hx hb hts (by decide +kernel) tyX2 tyX2_ok nmX2 hown hK hP hD hS 0 rfl rfl 1 (by decide) (hts (.fieldLink RX2 15 "DeltaCodec$Planner" "stepsLeft" "[I") (by decide +kernel)) (fun _ h9 => h9) rfl hin rfl (by decide +kernel) rfl rfl (Nat.le_of_ble_eq_true rfl) dX2_init_19 (fun H locs hP hD hS => ?_)
  have hP : va_P (dC, dI) vwCl [(h0, .inr (2, [.ref q_33, .ref q_34, .null, .null, .null, .null, .null, .null])), (q_33, .inl (cI, 151, .inl (fun _ => 0))), (q_34, .inl (cI, 151, .inl (fun _ => 0)))] H := hP
  have hD : va_D A [(h0, .inr (2, [.ref q_33, .ref q_34, .null, .null, .null, .null, .null, .null])), (q_33, .inl (cI, 151, .inl (fun _ => 0))), (q_34, .inl (cI, 151, .inl (fun _ => 0)))] := hD
  refine lv_aload_n hx hb dX2_init_22 rfl (lv_at hl 0 rfl) ?_
  refine lv_sipush (v := 151) hx hb dX2_init_23 (by decide) ?_
  refine va_newa (atype := .int) (ty := .int) (N' := 151) (a0 := (151, .inl (fun _ => 0))) hx hb (hts (.arrayClass .int) (by decide +kernel)) rfl hK hP hD hS hA (fun _ => rfl) (by decide) (by decide) (by decide) (Nat.le_of_ble_eq_true rfl) (Nat.le_of_ble_eq_true rfl) dX2_init_26 (fun q_35 cA H hK hP hD hS => ?_)
  obtain rfl : cI = cA := (zz_same hK 0 1 rfl rfl).symm
  have hK := hK.sub (tys' := [(cI, .int)]) [0] rfl
  have hP : va_P (dC, dI) vwCl [(h0, .inr (2, [.ref q_33, .ref q_34, .null, .null, .null, .null, .null, .null])), (q_33, .inl (cI, 151, .inl (fun _ => 0))), (q_34, .inl (cI, 151, .inl (fun _ => 0))), (q_35, .inl (cI, 151, .inl (fun _ => 0)))] H := hP
  have hD : va_D A [(h0, .inr (2, [.ref q_33, .ref q_34, .null, .null, .null, .null, .null, .null])), (q_33, .inl (cI, 151, .inl (fun _ => 0))), (q_34, .inl (cI, 151, .inl (fun _ => 0))), (q_35, .inl (cI, 151, .inl (fun _ => 0)))] := hD
  refine W.widen (k := 3) (n := 453) (by omega) (by omega) ?_
  refine va_putF (D := (dC, dI)) (ci := 2) (v := .ref q_35) (ty := (.array .int)) (C := RX2) (T := TX2) (N := 8) hx hb hts (by decide +kernel) tyX2 tyX2_ok nmX2 hown hK hP hD hS 0 rfl rfl 2 (by decide) (hts (.fieldLink RX2 18 "DeltaCodec$Planner" "kinds" "[I") (by decide +kernel)) (fun _ h9 => h9) rfl hin rfl (by decide +kernel) rfl rfl (Nat.le_of_ble_eq_true rfl) dX2_init_28 (fun H locs hP hD hS => ?_)
  have hP : va_P (dC, dI) vwCl [(h0, .inr (2, [.ref q_33, .ref q_34, .ref q_35, .null, .null, .null, .null, .null])), (q_33, .inl (cI, 151, .inl (fun _ => 0))), (q_34, .inl (cI, 151, .inl (fun _ => 0))), (q_35, .inl (cI, 151, .inl (fun _ => 0)))] H := hP
  have hD : va_D A [(h0, .inr (2, [.ref q_33, .ref q_34, .ref q_35, .null, .null, .null, .null, .null])), (q_33, .inl (cI, 151, .inl (fun _ => 0))), (q_34, .inl (cI, 151, .inl (fun _ => 0))), (q_35, .inl (cI, 151, .inl (fun _ => 0)))] := hD
  refine lv_aload_n hx hb dX2_init_31 rfl (lv_at hl 0 rfl) ?_
  refine lv_sipush (v := 151) hx hb dX2_init_32 (by decide) ?_
  refine va_newa (atype := .int) (ty := .int) (N' := 151) (a0 := (151, .inl (fun _ => 0))) hx hb (hts (.arrayClass .int) (by decide +kernel)) rfl hK hP hD hS hA (fun _ => rfl) (by decide) (by decide) (by decide) (Nat.le_of_ble_eq_true rfl) (Nat.le_of_ble_eq_true rfl) dX2_init_35 (fun q_36 cA H hK hP hD hS => ?_)
  obtain rfl : cI = cA := (zz_same hK 0 1 rfl rfl).symm
  have hK := hK.sub (tys' := [(cI, .int)]) [0] rfl
  have hP : va_P (dC, dI) vwCl [(h0, .inr (2, [.ref q_33, .ref q_34, .ref q_35, .null, .null, .null, .null, .null])), (q_33, .inl (cI, 151, .inl (fun _ => 0))), (q_34, .inl (cI, 151, .inl (fun _ => 0))), (q_35, .inl (cI, 151, .inl (fun _ => 0))), (q_36, .inl (cI, 151, .inl (fun _ => 0)))] H := hP
  have hD : va_D A [(h0, .inr (2, [.ref q_33, .ref q_34, .ref q_35, .null, .null, .null, .null, .null])), (q_33, .inl (cI, 151, .inl (fun _ => 0))), (q_34, .inl (cI, 151, .inl (fun _ => 0))), (q_35, .inl (cI, 151, .inl (fun _ => 0))), (q_36, .inl (cI, 151, .inl (fun _ => 0)))] := hD
  refine W.widen (k := 4) (n := 604) (by omega) (by omega) ?_
  refine va_putF (D := (dC, dI)) (ci := 2) (v := .ref q_36) (ty := (.array .int)) (C := RX2) (T := TX2) (N := 8) hx hb hts (by decide +kernel) tyX2 tyX2_ok nmX2 hown hK hP hD hS 0 rfl rfl 3 (by decide) (hts (.fieldLink RX2 21 "DeltaCodec$Planner" "lengths" "[I") (by decide +kernel)) (fun _ h9 => h9) rfl hin rfl (by decide +kernel) rfl rfl (Nat.le_of_ble_eq_true rfl) dX2_init_37 (fun H locs hP hD hS => ?_)
  have hP : va_P (dC, dI) vwCl [(h0, .inr (2, [.ref q_33, .ref q_34, .ref q_35, .ref q_36, .null, .null, .null, .null])), (q_33, .inl (cI, 151, .inl (fun _ => 0))), (q_34, .inl (cI, 151, .inl (fun _ => 0))), (q_35, .inl (cI, 151, .inl (fun _ => 0))), (q_36, .inl (cI, 151, .inl (fun _ => 0)))] H := hP
  have hD : va_D A [(h0, .inr (2, [.ref q_33, .ref q_34, .ref q_35, .ref q_36, .null, .null, .null, .null])), (q_33, .inl (cI, 151, .inl (fun _ => 0))), (q_34, .inl (cI, 151, .inl (fun _ => 0))), (q_35, .inl (cI, 151, .inl (fun _ => 0))), (q_36, .inl (cI, 151, .inl (fun _ => 0)))] := hD
  refine lv_aload_n hx hb dX2_init_40 rfl (lv_at hl 0 rfl) ?_
  refine lv_sipush (v := 151) hx hb dX2_init_41 (by decide) ?_
  refine va_newa (atype := .int) (ty := .int) (N' := 151) (a0 := (151, .inl (fun _ => 0))) hx hb (hts (.arrayClass .int) (by decide +kernel)) rfl hK hP hD hS hA (fun _ => rfl) (by decide) (by decide) (by decide) (Nat.le_of_ble_eq_true rfl) (Nat.le_of_ble_eq_true rfl) dX2_init_44 (fun q_37 cA H hK hP hD hS => ?_)
  obtain rfl : cI = cA := (zz_same hK 0 1 rfl rfl).symm
  have hK := hK.sub (tys' := [(cI, .int)]) [0] rfl
  have hP : va_P (dC, dI) vwCl [(h0, .inr (2, [.ref q_33, .ref q_34, .ref q_35, .ref q_36, .null, .null, .null, .null])), (q_33, .inl (cI, 151, .inl (fun _ => 0))), (q_34, .inl (cI, 151, .inl (fun _ => 0))), (q_35, .inl (cI, 151, .inl (fun _ => 0))), (q_36, .inl (cI, 151, .inl (fun _ => 0))), (q_37, .inl (cI, 151, .inl (fun _ => 0)))] H := hP
  have hD : va_D A [(h0, .inr (2, [.ref q_33, .ref q_34, .ref q_35, .ref q_36, .null, .null, .null, .null])), (q_33, .inl (cI, 151, .inl (fun _ => 0))), (q_34, .inl (cI, 151, .inl (fun _ => 0))), (q_35, .inl (cI, 151, .inl (fun _ => 0))), (q_36, .inl (cI, 151, .inl (fun _ => 0))), (q_37, .inl (cI, 151, .inl (fun _ => 0)))] := hD
  refine W.widen (k := 5) (n := 755) (by omega) (by omega) ?_
  refine va_putF (D := (dC, dI)) (ci := 2) (v := .ref q_37) (ty := (.array .int)) (C := RX2) (T := TX2) (N := 8) hx hb hts (by decide +kernel) tyX2 tyX2_ok nmX2 hown hK hP hD hS 0 rfl rfl 4 (by decide) (hts (.fieldLink RX2 24 "DeltaCodec$Planner" "operands" "[I") (by decide +kernel)) (fun _ h9 => h9) rfl hin rfl (by decide +kernel) rfl rfl (Nat.le_of_ble_eq_true rfl) dX2_init_46 (fun H locs hP hD hS => ?_)
  have hP : va_P (dC, dI) vwCl [(h0, .inr (2, [.ref q_33, .ref q_34, .ref q_35, .ref q_36, .ref q_37, .null, .null, .null])), (q_33, .inl (cI, 151, .inl (fun _ => 0))), (q_34, .inl (cI, 151, .inl (fun _ => 0))), (q_35, .inl (cI, 151, .inl (fun _ => 0))), (q_36, .inl (cI, 151, .inl (fun _ => 0))), (q_37, .inl (cI, 151, .inl (fun _ => 0)))] H := hP
  have hD : va_D A [(h0, .inr (2, [.ref q_33, .ref q_34, .ref q_35, .ref q_36, .ref q_37, .null, .null, .null])), (q_33, .inl (cI, 151, .inl (fun _ => 0))), (q_34, .inl (cI, 151, .inl (fun _ => 0))), (q_35, .inl (cI, 151, .inl (fun _ => 0))), (q_36, .inl (cI, 151, .inl (fun _ => 0))), (q_37, .inl (cI, 151, .inl (fun _ => 0)))] := hD
  refine lv_aload_n hx hb dX2_init_49 rfl (lv_at hl 0 rfl) ?_
  refine lv_sipush (v := 151) hx hb dX2_init_50 (by decide) ?_
  refine va_newa (atype := .int) (ty := .int) (N' := 151) (a0 := (151, .inl (fun _ => 0))) hx hb (hts (.arrayClass .int) (by decide +kernel)) rfl hK hP hD hS hA (fun _ => rfl) (by decide) (by decide) (by decide) (Nat.le_of_ble_eq_true rfl) (Nat.le_of_ble_eq_true rfl) dX2_init_53 (fun q_38 cA H hK hP hD hS => ?_)
  obtain rfl : cI = cA := (zz_same hK 0 1 rfl rfl).symm
  have hK := hK.sub (tys' := [(cI, .int)]) [0] rfl
  have hP : va_P (dC, dI) vwCl [(h0, .inr (2, [.ref q_33, .ref q_34, .ref q_35, .ref q_36, .ref q_37, .null, .null, .null])), (q_33, .inl (cI, 151, .inl (fun _ => 0))), (q_34, .inl (cI, 151, .inl (fun _ => 0))), (q_35, .inl (cI, 151, .inl (fun _ => 0))), (q_36, .inl (cI, 151, .inl (fun _ => 0))), (q_37, .inl (cI, 151, .inl (fun _ => 0))), (q_38, .inl (cI, 151, .inl (fun _ => 0)))] H := hP
  have hD : va_D A [(h0, .inr (2, [.ref q_33, .ref q_34, .ref q_35, .ref q_36, .ref q_37, .null, .null, .null])), (q_33, .inl (cI, 151, .inl (fun _ => 0))), (q_34, .inl (cI, 151, .inl (fun _ => 0))), (q_35, .inl (cI, 151, .inl (fun _ => 0))), (q_36, .inl (cI, 151, .inl (fun _ => 0))), (q_37, .inl (cI, 151, .inl (fun _ => 0))), (q_38, .inl (cI, 151, .inl (fun _ => 0)))] := hD
  refine W.widen (k := 6) (n := 906) (by omega) (by omega) ?_
  refine va_putF (D := (dC, dI)) (ci := 2) (v := .ref q_38) (ty := (.array .int)) (C := RX2) (T := TX2) (N := 8) hx hb hts (by decide +kernel) tyX2 tyX2_ok nmX2 hown hK hP hD hS 0 rfl rfl 5 (by decide) (hts (.fieldLink RX2 27 "DeltaCodec$Planner" "copyCommon" "[I") (by decide +kernel)) (fun _ h9 => h9) rfl hin rfl (by decide +kernel) rfl rfl (Nat.le_of_ble_eq_true rfl) dX2_init_55 (fun H locs hP hD hS => ?_)
  have hP : va_P (dC, dI) vwCl [(h0, .inr (2, [.ref q_33, .ref q_34, .ref q_35, .ref q_36, .ref q_37, .ref q_38, .null, .null])), (q_33, .inl (cI, 151, .inl (fun _ => 0))), (q_34, .inl (cI, 151, .inl (fun _ => 0))), (q_35, .inl (cI, 151, .inl (fun _ => 0))), (q_36, .inl (cI, 151, .inl (fun _ => 0))), (q_37, .inl (cI, 151, .inl (fun _ => 0))), (q_38, .inl (cI, 151, .inl (fun _ => 0)))] H := hP
  have hD : va_D A [(h0, .inr (2, [.ref q_33, .ref q_34, .ref q_35, .ref q_36, .ref q_37, .ref q_38, .null, .null])), (q_33, .inl (cI, 151, .inl (fun _ => 0))), (q_34, .inl (cI, 151, .inl (fun _ => 0))), (q_35, .inl (cI, 151, .inl (fun _ => 0))), (q_36, .inl (cI, 151, .inl (fun _ => 0))), (q_37, .inl (cI, 151, .inl (fun _ => 0))), (q_38, .inl (cI, 151, .inl (fun _ => 0)))] := hD
  refine lv_aload_n hx hb dX2_init_58 rfl (lv_at hl 0 rfl) ?_
  refine lv_sipush (v := 151) hx hb dX2_init_59 (by decide) ?_
  refine va_newa (atype := .int) (ty := .int) (N' := 151) (a0 := (151, .inl (fun _ => 0))) hx hb (hts (.arrayClass .int) (by decide +kernel)) rfl hK hP hD hS hA (fun _ => rfl) (by decide) (by decide) (by decide) (Nat.le_of_ble_eq_true rfl) (Nat.le_of_ble_eq_true rfl) dX2_init_62 (fun q_39 cA H hK hP hD hS => ?_)
  obtain rfl : cI = cA := (zz_same hK 0 1 rfl rfl).symm
  have hK := hK.sub (tys' := [(cI, .int)]) [0] rfl
  have hP : va_P (dC, dI) vwCl [(h0, .inr (2, [.ref q_33, .ref q_34, .ref q_35, .ref q_36, .ref q_37, .ref q_38, .null, .null])), (q_33, .inl (cI, 151, .inl (fun _ => 0))), (q_34, .inl (cI, 151, .inl (fun _ => 0))), (q_35, .inl (cI, 151, .inl (fun _ => 0))), (q_36, .inl (cI, 151, .inl (fun _ => 0))), (q_37, .inl (cI, 151, .inl (fun _ => 0))), (q_38, .inl (cI, 151, .inl (fun _ => 0))), (q_39, .inl (cI, 151, .inl (fun _ => 0)))] H := hP
  have hD : va_D A [(h0, .inr (2, [.ref q_33, .ref q_34, .ref q_35, .ref q_36, .ref q_37, .ref q_38, .null, .null])), (q_33, .inl (cI, 151, .inl (fun _ => 0))), (q_34, .inl (cI, 151, .inl (fun _ => 0))), (q_35, .inl (cI, 151, .inl (fun _ => 0))), (q_36, .inl (cI, 151, .inl (fun _ => 0))), (q_37, .inl (cI, 151, .inl (fun _ => 0))), (q_38, .inl (cI, 151, .inl (fun _ => 0))), (q_39, .inl (cI, 151, .inl (fun _ => 0)))] := hD
  refine W.widen (k := 7) (n := 1057) (by omega) (by omega) ?_
  refine va_putF (D := (dC, dI)) (ci := 2) (v := .ref q_39) (ty := (.array .int)) (C := RX2) (T := TX2) (N := 8) hx hb hts (by decide +kernel) tyX2 tyX2_ok nmX2 hown hK hP hD hS 0 rfl rfl 6 (by decide) (hts (.fieldLink RX2 30 "DeltaCodec$Planner" "repeatCommon" "[I") (by decide +kernel)) (fun _ h9 => h9) rfl hin rfl (by decide +kernel) rfl rfl (Nat.le_of_ble_eq_true rfl) dX2_init_64 (fun H locs hP hD hS => ?_)
  have hP : va_P (dC, dI) vwCl [(h0, .inr (2, [.ref q_33, .ref q_34, .ref q_35, .ref q_36, .ref q_37, .ref q_38, .ref q_39, .null])), (q_33, .inl (cI, 151, .inl (fun _ => 0))), (q_34, .inl (cI, 151, .inl (fun _ => 0))), (q_35, .inl (cI, 151, .inl (fun _ => 0))), (q_36, .inl (cI, 151, .inl (fun _ => 0))), (q_37, .inl (cI, 151, .inl (fun _ => 0))), (q_38, .inl (cI, 151, .inl (fun _ => 0))), (q_39, .inl (cI, 151, .inl (fun _ => 0)))] H := hP
  have hD : va_D A [(h0, .inr (2, [.ref q_33, .ref q_34, .ref q_35, .ref q_36, .ref q_37, .ref q_38, .ref q_39, .null])), (q_33, .inl (cI, 151, .inl (fun _ => 0))), (q_34, .inl (cI, 151, .inl (fun _ => 0))), (q_35, .inl (cI, 151, .inl (fun _ => 0))), (q_36, .inl (cI, 151, .inl (fun _ => 0))), (q_37, .inl (cI, 151, .inl (fun _ => 0))), (q_38, .inl (cI, 151, .inl (fun _ => 0))), (q_39, .inl (cI, 151, .inl (fun _ => 0)))] := hD
  refine lv_aload_n hx hb dX2_init_67 rfl (lv_at hl 0 rfl) ?_
  refine lv_sipush (v := 151) hx hb dX2_init_68 (by decide) ?_
  refine va_newa (atype := .int) (ty := .int) (N' := 151) (a0 := (151, .inl (fun _ => 0))) hx hb (hts (.arrayClass .int) (by decide +kernel)) rfl hK hP hD hS hA (fun _ => rfl) (by decide) (by decide) (by decide) (Nat.le_of_ble_eq_true rfl) (Nat.le_of_ble_eq_true rfl) dX2_init_71 (fun q_40 cA H hK hP hD hS => ?_)
  obtain rfl : cI = cA := (zz_same hK 0 1 rfl rfl).symm
  have hK := hK.sub (tys' := [(cI, .int)]) [0] rfl
  have hP : va_P (dC, dI) vwCl [(h0, .inr (2, [.ref q_33, .ref q_34, .ref q_35, .ref q_36, .ref q_37, .ref q_38, .ref q_39, .null])), (q_33, .inl (cI, 151, .inl (fun _ => 0))), (q_34, .inl (cI, 151, .inl (fun _ => 0))), (q_35, .inl (cI, 151, .inl (fun _ => 0))), (q_36, .inl (cI, 151, .inl (fun _ => 0))), (q_37, .inl (cI, 151, .inl (fun _ => 0))), (q_38, .inl (cI, 151, .inl (fun _ => 0))), (q_39, .inl (cI, 151, .inl (fun _ => 0))), (q_40, .inl (cI, 151, .inl (fun _ => 0)))] H := hP
  have hD : va_D A [(h0, .inr (2, [.ref q_33, .ref q_34, .ref q_35, .ref q_36, .ref q_37, .ref q_38, .ref q_39, .null])), (q_33, .inl (cI, 151, .inl (fun _ => 0))), (q_34, .inl (cI, 151, .inl (fun _ => 0))), (q_35, .inl (cI, 151, .inl (fun _ => 0))), (q_36, .inl (cI, 151, .inl (fun _ => 0))), (q_37, .inl (cI, 151, .inl (fun _ => 0))), (q_38, .inl (cI, 151, .inl (fun _ => 0))), (q_39, .inl (cI, 151, .inl (fun _ => 0))), (q_40, .inl (cI, 151, .inl (fun _ => 0)))] := hD
  refine W.widen (k := 8) (n := 1208) (by omega) (by omega) ?_
  refine va_putF (D := (dC, dI)) (ci := 2) (v := .ref q_40) (ty := (.array .int)) (C := RX2) (T := TX2) (N := 8) hx hb hts (by decide +kernel) tyX2 tyX2_ok nmX2 hown hK hP hD hS 0 rfl rfl 7 (by decide) (hts (.fieldLink RX2 33 "DeltaCodec$Planner" "firstPlaces" "[I") (by decide +kernel)) (fun _ h9 => h9) rfl hin rfl (by decide +kernel) rfl rfl (Nat.le_of_ble_eq_true rfl) dX2_init_73 (fun H locs hP hD hS => ?_)
  have hP : va_P (dC, dI) vwCl [(h0, .inr (2, [.ref q_33, .ref q_34, .ref q_35, .ref q_36, .ref q_37, .ref q_38, .ref q_39, .ref q_40])), (q_33, .inl (cI, 151, .inl (fun _ => 0))), (q_34, .inl (cI, 151, .inl (fun _ => 0))), (q_35, .inl (cI, 151, .inl (fun _ => 0))), (q_36, .inl (cI, 151, .inl (fun _ => 0))), (q_37, .inl (cI, 151, .inl (fun _ => 0))), (q_38, .inl (cI, 151, .inl (fun _ => 0))), (q_39, .inl (cI, 151, .inl (fun _ => 0))), (q_40, .inl (cI, 151, .inl (fun _ => 0)))] H := hP
  have hD : va_D A [(h0, .inr (2, [.ref q_33, .ref q_34, .ref q_35, .ref q_36, .ref q_37, .ref q_38, .ref q_39, .ref q_40])), (q_33, .inl (cI, 151, .inl (fun _ => 0))), (q_34, .inl (cI, 151, .inl (fun _ => 0))), (q_35, .inl (cI, 151, .inl (fun _ => 0))), (q_36, .inl (cI, 151, .inl (fun _ => 0))), (q_37, .inl (cI, 151, .inl (fun _ => 0))), (q_38, .inl (cI, 151, .inl (fun _ => 0))), (q_39, .inl (cI, 151, .inl (fun _ => 0))), (q_40, .inl (cI, 151, .inl (fun _ => 0)))] := hD
  have hP9 := hP.sub (ws' := [(h0, .inr (2, [.ref q_33, .ref q_34, .ref q_35, .ref q_36, .ref q_37, .ref q_38, .ref q_39, .ref q_40])), (q_33, .inl (cI, 151, .inl (fun _ => 0))), (q_34, .inl (cI, 151, .inl (fun _ => 0))), (q_35, .inl (cI, 151, .inl (fun _ => 0))), (q_36, .inl (cI, 151, .inl (fun _ => 0))), (q_37, .inl (cI, 151, .inl (fun _ => 0))), (q_38, .inl (cI, 151, .inl (fun _ => 0))), (q_39, .inl (cI, 151, .inl (fun _ => 0))), (q_40, .inl (cI, 151, .inl (fun _ => 0)))]) [0, 1, 2, 3, 4, 5, 6, 7, 8] rfl
  have hD9 := hD.sub (ws' := [(h0, .inr (2, [.ref q_33, .ref q_34, .ref q_35, .ref q_36, .ref q_37, .ref q_38, .ref q_39, .ref q_40])), (q_33, .inl (cI, 151, .inl (fun _ => 0))), (q_34, .inl (cI, 151, .inl (fun _ => 0))), (q_35, .inl (cI, 151, .inl (fun _ => 0))), (q_36, .inl (cI, 151, .inl (fun _ => 0))), (q_37, .inl (cI, 151, .inl (fun _ => 0))), (q_38, .inl (cI, 151, .inl (fun _ => 0))), (q_39, .inl (cI, 151, .inl (fun _ => 0))), (q_40, .inl (cI, 151, .inl (fun _ => 0)))]) [0, 1, 2, 3, 4, 5, 6, 7, 8] (by decide) rfl
  exact W.vret hx hb hr (fun t ht hW => ⟨⟨(q_33, q_34, q_35, q_36, q_37, q_38, q_39, q_40), rfl, trivial, ⟨by rw [ht]; exact hP9, hD9⟩⟩, hS.F ht⟩) hS.2.2 dX2_init_76
