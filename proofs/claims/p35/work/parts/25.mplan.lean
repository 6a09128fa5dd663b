set_option maxHeartbeats 4000000 in
set_option maxRecDepth 100000 in
theorem k_places0 (l : Launch) (dC : Nat → ClassId) (dI : Nat → Nat → Nat) (ma : Nat → Nat) (p0 : Int32) (ki : Int32) (kc : Int32) (sz : Nat) : Met l yX5_places wsX5_places ({ frames := 0, cells := 0, slots := 0, locals := 0 }) (va_Pc [.ref (ma 0), .int p0, .int 0] (fun U => U.heap.size = sz ∧ va_P (dC, dI) vwCl [(ma 0, .inr (5, [.int 0, .ref (ma 1), .int 0, .ref (ma 2), .int 150, .int 3, .int 0, .int ki, .ref (ma 3), .ref (ma 4), .ref (ma 5), .ref (ma 6), .int kc, .int 0, .ref (ma 7), .int 0, .ref (ma 8), .int (-1), .ref (ma 9), .ref (ma 10), .ref (ma 11), .ref (ma 12), .ref (ma 13), .int 0, .int 0]))] U.heap ∧ va_K (dC, dI) vwCl [] U ∧ va_D (fun _ => True) [(ma 0, .inr (5, [.int 0, .ref (ma 1), .int 0, .ref (ma 2), .int 150, .int 3, .int 0, .int ki, .ref (ma 3), .ref (ma 4), .ref (ma 5), .ref (ma 6), .int kc, .int 0, .ref (ma 7), .int 0, .ref (ma 8), .int (-1), .ref (ma 9), .ref (ma 10), .ref (ma 11), .ref (ma 12), .ref (ma 13), .int 0, .int 0]))])) (va_Qi (fun (r : Int32) (_ : Unit) => r = 0) (fun _ _ => True) (fun q : Nat => sz ≤ q)) 0 0 (fun q : Nat => sz ≤ q) := by
  refine Met.ofW (cc := cX5_places) (maxL := 3) (ret := (some .int)) (by decide) rfl ?_
  intro p e s m args below meth c s₁ B hml hv
  obtain ⟨rfl, hsz, hP, hK, hD0⟩ := hv
  have hx := B.exec
  have hb := B.bytes
  have hr := B.returns
  have hts := atoms_spec (ws := wsX5_places) B.pre
  have hown : s.vm.findClass RX5 = some m.cls := findClass_of_methodNamed B.named
  have hlocks := B.notSynchronized
  subst hsz
  generalize hAe : (fun q : Nat => s.heap.size ≤ q) = A
  have hA : ∀ q : Nat, s.heap.size ≤ q → A q := fun q h => by rw [← hAe]; exact h
  have hS : va_S A s.heap s.heap [] := va_S.rf
  have hP : va_P (dC, dI) vwCl [(ma 0, .inr (5, [.int 0, .ref (ma 1), .int 0, .ref (ma 2), .int 150, .int 3, .int 0, .int ki, .ref (ma 3), .ref (ma 4), .ref (ma 5), .ref (ma 6), .int kc, .int 0, .ref (ma 7), .int 0, .ref (ma 8), .int (-1), .ref (ma 9), .ref (ma 10), .ref (ma 11), .ref (ma 12), .ref (ma 13), .int 0, .int 0]))] s.heap := hP
  have hl := lv_entry ([.ref (ma 0), .int p0, .int 0]) (n := 3) (Nat.le_of_ble_eq_true rfl)
  rw [lg_entry_eq]
  generalize (lg_sl ([.ref (ma 0), .int p0, .int 0]) ++ List.replicate (3 - (lg_sl ([.ref (ma 0), .int p0, .int 0])).length) Slot.unset).toArray = ls at hl ⊢
  have hl : lv_has ls 3 [(0, .ref (ma 0)), (1, .int p0), (2, .int 0)] := hl
  refine lv_iload_n hx hb dX5_places_0 rfl (lv_at hl 2 rfl) ?_
  refine lv_if_ne (tgt := 11) hx hb dX5_places_1 (by decide) (fun h => absurd h (by decide)) (fun c1 => ?_)
  refine lv_aload_n hx hb dX5_places_4 rfl (lv_at hl 0 rfl) ?_
  refine va_get (D := (dC, dI)) (ci := 5) (v := .int 0) (C := RX5) (T := TX5) (N := 25) hx hb hts (by decide +kernel) hown hK hP 0 rfl rfl 2 (by decide) (hts (.fieldLink RX5 59 "DeltaCodecModel" "sourceSize" "I") (by decide +kernel)) (fun _ h9 => h9) rfl dX5_places_5 ?_
  refine lv_goto (tgt := 12) hx hb dX5_places_8 (by decide) ?_
  exact W.iret (v := 0) hx hb hr (fun t ht hW => ⟨⟨0, (), rfl, rfl, trivial⟩, hS.F ht⟩) hS.2.2 dX5_places_12
set_option maxHeartbeats 4000000 in
set_option maxRecDepth 100000 in
theorem k_places1 (l : Launch) (dC : Nat → ClassId) (dI : Nat → Nat → Nat) (ma : Nat → Nat) (p0 : Int32) (ki : Int32) (kc : Int32) (sz : Nat) : Met l yX5_places wsX5_places ({ frames := 0, cells := 0, slots := 0, locals := 0 }) (va_Pc [.ref (ma 0), .int p0, .int 1] (fun U => U.heap.size = sz ∧ va_P (dC, dI) vwCl [(ma 0, .inr (5, [.int 0, .ref (ma 1), .int 0, .ref (ma 2), .int 150, .int 3, .int 0, .int ki, .ref (ma 3), .ref (ma 4), .ref (ma 5), .ref (ma 6), .int kc, .int 0, .ref (ma 7), .int 0, .ref (ma 8), .int (-1), .ref (ma 9), .ref (ma 10), .ref (ma 11), .ref (ma 12), .ref (ma 13), .int 0, .int 0]))] U.heap ∧ va_K (dC, dI) vwCl [] U ∧ va_D (fun _ => True) [(ma 0, .inr (5, [.int 0, .ref (ma 1), .int 0, .ref (ma 2), .int 150, .int 3, .int 0, .int ki, .ref (ma 3), .ref (ma 4), .ref (ma 5), .ref (ma 6), .int kc, .int 0, .ref (ma 7), .int 0, .ref (ma 8), .int (-1), .ref (ma 9), .ref (ma 10), .ref (ma 11), .ref (ma 12), .ref (ma 13), .int 0, .int 0]))])) (va_Qi (fun (r : Int32) (_ : Unit) => r = p0) (fun _ _ => True) (fun q : Nat => sz ≤ q)) 0 0 (fun q : Nat => sz ≤ q) := by
  refine Met.ofW (cc := cX5_places) (maxL := 3) (ret := (some .int)) (by decide) rfl ?_
  intro p e s m args below meth c s₁ B hml hv
  obtain ⟨rfl, hsz, hP, hK, hD0⟩ := hv
  have hx := B.exec
  have hb := B.bytes
  have hr := B.returns
  have hts := atoms_spec (ws := wsX5_places) B.pre
  have hown : s.vm.findClass RX5 = some m.cls := findClass_of_methodNamed B.named
  have hlocks := B.notSynchronized
  subst hsz
  generalize hAe : (fun q : Nat => s.heap.size ≤ q) = A
  have hA : ∀ q : Nat, s.heap.size ≤ q → A q := fun q h => by rw [← hAe]; exact h
  have hS : va_S A s.heap s.heap [] := va_S.rf
  have hP : va_P (dC, dI) vwCl [(ma 0, .inr (5, [.int 0, .ref (ma 1), .int 0, .ref (ma 2), .int 150, .int 3, .int 0, .int ki, .ref (ma 3), .ref (ma 4), .ref (ma 5), .ref (ma 6), .int kc, .int 0, .ref (ma 7), .int 0, .ref (ma 8), .int (-1), .ref (ma 9), .ref (ma 10), .ref (ma 11), .ref (ma 12), .ref (ma 13), .int 0, .int 0]))] s.heap := hP
  have hl := lv_entry ([.ref (ma 0), .int p0, .int 1]) (n := 3) (Nat.le_of_ble_eq_true rfl)
  rw [lg_entry_eq]
  generalize (lg_sl ([.ref (ma 0), .int p0, .int 1]) ++ List.replicate (3 - (lg_sl ([.ref (ma 0), .int p0, .int 1])).length) Slot.unset).toArray = ls at hl ⊢
  have hl : lv_has ls 3 [(0, .ref (ma 0)), (1, .int p0), (2, .int 1)] := hl
  refine lv_iload_n hx hb dX5_places_0 rfl (lv_at hl 2 rfl) ?_
  refine lv_if_ne (tgt := 11) hx hb dX5_places_1 (by decide) (fun c1 => ?_) (fun h => absurd h (by decide))
  refine lv_iload_n hx hb dX5_places_11 rfl (lv_at hl 1 rfl) ?_
  exact W.iret (v := p0) hx hb hr (fun t ht hW => ⟨⟨p0, (), rfl, rfl, trivial⟩, hS.F ht⟩) hS.2.2 dX5_places_12
set_option maxHeartbeats 4000000 in
set_option maxRecDepth 100000 in
theorem k_numberSize (l : Launch) (dC : Nat → ClassId) (dI : Nat → Nat → Nat) (p0 : Int32) (sz : Nat) : Met l yX5_numberSize wsX5_numberSize ({ frames := 0, cells := 0, slots := 0, locals := 0 }) (va_Pc [.int p0] (fun U => U.heap.size = sz ∧ va_P (dC, dI) vwCl [] U.heap ∧ va_K (dC, dI) vwCl [] U ∧ va_D (fun _ => True) [])) (va_Qi (fun (r : Int32) (_ : Unit) => True) (fun _ _ => True) (fun q : Nat => sz ≤ q)) 0 0 (fun q : Nat => sz ≤ q) := by
  refine Met.ofW (cc := cX5_numberSize) (maxL := 1) (ret := (some .int)) (by decide) rfl ?_
  intro p e s m args below meth c s₁ B hml hv
  obtain ⟨rfl, hsz, hP, hK, hD0⟩ := hv
  have hx := B.exec
  have hb := B.bytes
  have hr := B.returns
  have hts := atoms_spec (ws := wsX5_numberSize) B.pre
  have hown : s.vm.findClass RX5 = some m.cls := findClass_of_methodNamed B.named
  have hlocks := B.notSynchronized
  subst hsz
  generalize hAe : (fun q : Nat => s.heap.size ≤ q) = A
  have hA : ∀ q : Nat, s.heap.size ≤ q → A q := fun q h => by rw [← hAe]; exact h
  have hS : va_S A s.heap s.heap [] := va_S.rf
  have hP : va_P (dC, dI) vwCl [] s.heap := hP
  have hl := lv_entry ([.int p0]) (n := 1) (Nat.le_of_ble_eq_true rfl)
  rw [lg_entry_eq]
  generalize (lg_sl ([.int p0]) ++ List.replicate (1 - (lg_sl ([.int p0])).length) Slot.unset).toArray = ls at hl ⊢
  have hl : lv_has ls 1 [(0, .int p0)] := hl
  refine lv_iload_n hx hb dX5_numberSize_0 rfl (lv_at hl 0 rfl) ?_
  refine lv_sipush (v := 128) hx hb dX5_numberSize_1 (by decide) ?_
  refine lv_icmp_ge (tgt := 11) hx hb dX5_numberSize_4 (by decide) (fun c4 => ?_) (fun c4 => ?_)
  · skip
    refine lv_iconst (v := 2) hx hb dX5_numberSize_11 (by decide) ?_
    exact W.iret (v := 2) hx hb hr (fun t ht hW => ⟨⟨2, (), rfl, trivial, trivial⟩, hS.F ht⟩) hS.2.2 dX5_numberSize_12
  · skip
    refine lv_iconst (v := 1) hx hb dX5_numberSize_7 (by decide) ?_
    refine lv_goto (tgt := 12) hx hb dX5_numberSize_8 (by decide) ?_
    exact W.iret (v := 1) hx hb hr (fun t ht hW => ⟨⟨1, (), rfl, trivial, trivial⟩, hS.F ht⟩) hS.2.2 dX5_numberSize_12
set_option maxHeartbeats 4000000 in
set_option maxRecDepth 100000 in
theorem k_headSize (l : Launch) (dC : Nat → ClassId) (dI : Nat → Nat → Nat) (p0 : Int32) (sz : Nat) : Met l yX5_headSize wsX5_headSize ({ frames := 1, cells := 0, slots := 0, locals := 20 }) (va_Pc [.int p0] (fun U => U.heap.size = sz ∧ va_P (dC, dI) vwCl [] U.heap ∧ va_K (dC, dI) vwCl [] U ∧ va_D (fun _ => True) [])) (va_Qi (fun (r : Int32) (_ : Unit) => True) (fun _ _ => True) (fun q : Nat => sz ≤ q)) 0 0 (fun q : Nat => sz ≤ q) := by
  refine Met.ofW (cc := cX5_headSize) (maxL := 1) (ret := (some .int)) (by decide) rfl ?_
  intro p e s m args below meth c s₁ B hml hv
  obtain ⟨rfl, hsz, hP, hK, hD0⟩ := hv
  have hx := B.exec
  have hb := B.bytes
  have hr := B.returns
  have hts := atoms_spec (ws := wsX5_headSize) B.pre
  have hown : s.vm.findClass RX5 = some m.cls := findClass_of_methodNamed B.named
  have hlocks := B.notSynchronized
  subst hsz
  generalize hAe : (fun q : Nat => s.heap.size ≤ q) = A
  have hA : ∀ q : Nat, s.heap.size ≤ q → A q := fun q h => by rw [← hAe]; exact h
  have hS : va_S A s.heap s.heap [] := va_S.rf
  have hP : va_P (dC, dI) vwCl [] s.heap := hP
  have hl := lv_entry ([.int p0]) (n := 1) (Nat.le_of_ble_eq_true rfl)
  rw [lg_entry_eq]
  generalize (lg_sl ([.int p0]) ++ List.replicate (1 - (lg_sl ([.int p0])).length) Slot.unset).toArray = ls at hl ⊢
  have hl : lv_has ls 1 [(0, .int p0)] := hl
  refine lv_iload_n hx hb dX5_headSize_0 rfl (lv_at hl 0 rfl) ?_
  refine lv_bipush (v := 63) hx hb dX5_headSize_1 (by decide) ?_
  refine lv_icmp_ge (tgt := 10) hx hb dX5_headSize_3 (by decide) (fun c3 => ?_) (fun c3 => ?_)
  · skip
    refine lv_iconst (v := 1) hx hb dX5_headSize_10 (by decide) ?_
    refine lv_iload_n hx hb dX5_headSize_11 rfl (lv_at hl 0 rfl) ?_
    refine lv_bipush (v := 63) hx hb dX5_headSize_12 (by decide) ?_
    refine lv_isub hx hb dX5_headSize_14 ?_
    refine lv_topi (fun x_707 ex_707 => ?_)
    have hPc := hP.sub (ws' := []) [] rfl
    have hFc : ∀ q : Nat, s.heap.size ≤ q → A q := fun q h => hA q (Nat.le_trans hS.1 h)
    have hKc := hK.sub (tys' := []) [] rfl
    refine va_calli (va_runS (As := [.int x_707]) (rest := [.int 1]) ⟨hx, hb, hml, hown, hts⟩ (k_numberSize l dC dI x_707 s.heap.size) (va_cwS 1 hts gX5_headSize_X5_numberSize rfl rfl rfl (by decide +kernel) ⟨Nat.le_of_ble_eq_true rfl, Nat.le_of_ble_eq_true rfl⟩) ⟨fun a U g mk q => by obtain ⟨q0, q1, qP, qK, qD⟩ := q; exact ⟨q0, q1, qP, va_K.moved (u := U) (U := U.calling g mk a) (Vm.Alike.refl U.vm) qK, qD⟩, fun U hU hW => ⟨rfl, by rw [hU], by rw [hU]; exact hPc, va_K.moved hW.alike hKc, hD0.sub (ws' := []) [] (by decide) rfl⟩⟩ rfl rfl hl.1 rfl (lv_room (Nat.le_of_ble_eq_true rfl)) dX5_headSize_15 ⟨(Nat.le_of_ble_eq_true rfl), (Nat.le_of_ble_eq_true rfl)⟩) hS (fun q h1 h2 => absurd h1 (Nat.not_lt.mpr h2)) hFc (fun r_708 u_709 t H1 locs ht hvm hw hB hz1 hk1 hS1 => ?_)
    have hP := zz_keep hP hk1
    have hS := hS1
    clear hS1
    generalize H1 = H at hP hS ht ⊢
    have hP : va_P (dC, dI) vwCl [] H := hP
    have w15 := hw
    refine lv_iadd hx hb dX5_headSize_18 ?_
    refine lv_topi (fun x_710 ex_710 => ?_)
    exact W.iret (v := x_710) hx hb hr (fun t ht hW => ⟨⟨x_710, (), rfl, trivial, trivial⟩, hS.F ht⟩) hS.2.2 dX5_headSize_19
  · skip
    refine lv_iconst (v := 1) hx hb dX5_headSize_6 (by decide) ?_
    refine lv_goto (tgt := 19) hx hb dX5_headSize_7 (by decide) ?_
    exact W.iret (v := 1) hx hb hr (fun t ht hW => ⟨⟨1, (), rfl, trivial, trivial⟩, hS.F ht⟩) hS.2.2 dX5_headSize_19
set_option maxHeartbeats 4000000 in
set_option maxRecDepth 100000 in
theorem lo_common {p : Program} {l : Launch} {e : Env} {s : State} {m : MethodId} {args : Array Value} {below : List Frame} {meth : Method} {c : Code} {Q : State → Prop} {A : Nat → Prop} (dC : Nat → ClassId) (dI : Nat → Nat → Nat) (cI : ClassId) (ma : Nat → Nat) (kt : Nat → Int32) (ka : Nat) (kb : Nat) (ki : Int32) (kc : Int32) (h1 : kb < ka) (h2 : ka < 150) (hx : p.tables.exec = Jvm.exec) (hb : c.code = cX5_common) (hml : c.maxLocals = 5) (hown : s.vm.findClass RX5 = some m.cls) (hts : ∀ w ∈ wsX5_common, w.before args s = true) (hA : ∀ q : Nat, s.heap.size ≤ q → A q) (hK : va_K (dC, dI) vwCl [(cI, .int)] s)
    (kk : ∀ (j9 : Nat) (x : Int32) (H : Heap) (locs : List Loc) (ls : Array Slot), x = nI j9 → ka + j9 ≤ 150 → va_P (dC, dI) vwCl [(ma 0, .inr (5, [.int 0, .ref (ma 1), .int 0, .ref (ma 2), .int 150, .int 3, .int 0, .int ki, .ref (ma 3), .ref (ma 4), .ref (ma 5), .ref (ma 6), .int kc, .int 0, .ref (ma 7), .int 0, .ref (ma 8), .int (-1), .ref (ma 9), .ref (ma 10), .ref (ma 11), .ref (ma 12), .ref (ma 13), .int 0, .int 0])), (ma 2, .inl (cI, 150, .inl kt))] H → va_S A s.heap H locs → lv_has ls 5 [(4, .int x), (3, .int (nI kb)), (2, .int 1), (1, .int (nI ka)), (0, .ref (ma 0))] → W p l e (headSpec wsX5_common ({ frames := 0, cells := 0, slots := 0, locals := 0 })).room s m args below meth c H locs 0 0 Q (F0 m 73 ls []))
    : ∀ (j : Nat) (j9 : Nat) (x : Int32) (H : Heap) (locs : List Loc) (ls : Array Slot), 150 - (ka + j9) < j → (x = nI j9) → (ka + j9 ≤ 150) → va_P (dC, dI) vwCl [(ma 0, .inr (5, [.int 0, .ref (ma 1), .int 0, .ref (ma 2), .int 150, .int 3, .int 0, .int ki, .ref (ma 3), .ref (ma 4), .ref (ma 5), .ref (ma 6), .int kc, .int 0, .ref (ma 7), .int 0, .ref (ma 8), .int (-1), .ref (ma 9), .ref (ma 10), .ref (ma 11), .ref (ma 12), .ref (ma 13), .int 0, .int 0])), (ma 2, .inl (cI, 150, .inl kt))] H → va_S A s.heap H locs → lv_has ls 5 [(4, .int x), (3, .int (nI kb)), (2, .int 1), (1, .int (nI ka)), (0, .ref (ma 0))] → W p l e (headSpec wsX5_common ({ frames := 0, cells := 0, slots := 0, locals := 0 })).room s m args below meth c H locs 0 0 Q (F0 m 3 ls []) := by
  intro j
  induction j with
  | zero => intro j9 x H locs ls hj; omega
  | succ j ih =>
    intro j9 x H locs ls hj hx1 hj9 hP hS hl
    refine lv_iload_n hx hb dX5_common_3 rfl (lv_at hl 3 rfl) ?_
    refine lv_iload hx hb dX5_common_4 (lv_at hl 0 rfl) ?_
    refine lv_iadd hx hb dX5_common_6 ?_
    refine lv_topi (fun x_711 ex_711 => ?_)
    obtain rfl : nI ka + x = x_711 := ex_711.symm
    refine lv_aload_n hx hb dX5_common_7 rfl (lv_at hl 4 rfl) ?_
    refine va_get (D := (dC, dI)) (ci := 5) (v := .int 150) (C := RX5) (T := TX5) (N := 25) hx hb hts (by decide +kernel) hown hK hP 0 rfl rfl 4 (by decide) (hts (.fieldLink RX5 62 "DeltaCodecModel" "size" "I") (by decide +kernel)) (fun _ h9 => h9) rfl dX5_common_8 ?_
    refine lv_icmp_ge (tgt := 73) hx hb dX5_common_11 (by decide) (fun c11 => ?_) (fun c11 => ?_)
    · skip
      exact kk j9 x H locs ls hx1 hj9 (hP.sub [0, 1] rfl) hS (lv_sub hl [0, 1, 2, 3, 4] rfl)
    · skip
      have hlt : ka + j9 < 150 := Nat.lt_of_not_le (fun q => c11 (by rw [hx1, nI_add]; show nI 150 ≤ nI (ka + j9); exact nI_le q (by omega)))
      refine lv_iload_n hx hb dX5_common_14 rfl (lv_at hl 2 rfl) ?_
      refine lv_iconst (v := 1) hx hb dX5_common_15 (by decide) ?_
      refine lv_icmp_eq (tgt := 30) hx hb dX5_common_16 (by decide) (fun c16 => ?_) (fun h => absurd h (by decide))
      refine lv_aload_n hx hb dX5_common_30 rfl (lv_at hl 4 rfl) ?_
      refine va_get (D := (dC, dI)) (ci := 5) (v := .ref (ma 2)) (C := RX5) (T := TX5) (N := 25) hx hb hts (by decide +kernel) hown hK hP 0 rfl rfl 3 (by decide) (hts (.fieldLink RX5 13 "DeltaCodecModel" "target" "[I") (by decide +kernel)) (fun _ h9 => h9) rfl dX5_common_31 ?_
      refine lv_iload_n hx hb dX5_common_34 rfl (lv_at hl 3 rfl) ?_
      refine lv_iload hx hb dX5_common_35 (lv_at hl 0 rfl) ?_
      refine lv_iadd hx hb dX5_common_37 ?_
      refine lv_topi (fun x_712 ex_712 => ?_)
      obtain rfl : nI ka + x = x_712 := ex_712.symm
      refine va_iald hx hb hK hP 1 0 rfl rfl (by rw [hx1, nI_add]; exact vp_in_nI (by omega) (by omega)) dX5_common_38 ?_
      refine lv_topi (fun x_713 ex_713 => ?_)
      refine lv_iload_n hx hb dX5_common_39 rfl (lv_at hl 2 rfl) ?_
      refine lv_if_ne (tgt := 55) hx hb dX5_common_40 (by decide) (fun c40 => ?_) (fun h => absurd h (by decide))
      refine lv_aload_n hx hb dX5_common_55 rfl (lv_at hl 4 rfl) ?_
      refine va_get (D := (dC, dI)) (ci := 5) (v := .ref (ma 2)) (C := RX5) (T := TX5) (N := 25) hx hb hts (by decide +kernel) hown hK hP 0 rfl rfl 3 (by decide) (hts (.fieldLink RX5 13 "DeltaCodecModel" "target" "[I") (by decide +kernel)) (fun _ h9 => h9) rfl dX5_common_56 ?_
      refine lv_iload_n hx hb dX5_common_59 rfl (lv_at hl 1 rfl) ?_
      refine lv_iload hx hb dX5_common_60 (lv_at hl 0 rfl) ?_
      refine lv_iadd hx hb dX5_common_62 ?_
      refine lv_topi (fun x_714 ex_714 => ?_)
      obtain rfl : nI kb + x = x_714 := ex_714.symm
      refine va_iald hx hb hK hP 1 0 rfl rfl (by rw [hx1, nI_add]; exact vp_in_nI (by omega) (by omega)) dX5_common_63 ?_
      refine lv_topi (fun x_715 ex_715 => ?_)
      refine lv_icmp_ne (tgt := 73) hx hb dX5_common_64 (by decide) (fun c64 => ?_) (fun c64 => ?_)
      · skip
        exact kk j9 x H locs ls hx1 hj9 (hP.sub [0, 1] rfl) hS (lv_sub hl [0, 1, 2, 3, 4] rfl)
      · skip
        obtain ⟨x_716, ex_716⟩ : ∃ y : Int32, y = x + 1 := ⟨_, rfl⟩
        refine lv_iinc (v := x_716) (lv' := [(4, .int x_716), (3, .int (nI kb)), (2, .int 1), (1, .int (nI ka)), (0, .ref (ma 0))]) hx hb dX5_common_67 hl (k := 0) rfl (by rw [ex_716]; rfl) (by decide) rfl (fun ls hl => ?_)
        refine lv_goto (tgt := 3) hx hb dX5_common_70 (by decide) ?_
        exact ih (j9 + 1) x_716 H locs ls (by omega) (by rw [ex_716, hx1]; exact nI_1 j9) (by omega) (hP.sub [0, 1] rfl) hS (lv_sub hl [0, 1, 2, 3, 4] rfl)
set_option maxHeartbeats 4000000 in
set_option maxRecDepth 100000 in
theorem k_common (l : Launch) (dC : Nat → ClassId) (dI : Nat → Nat → Nat) (cI : ClassId) (ma : Nat → Nat) (kt : Nat → Int32) (ka : Nat) (kb : Nat) (ki : Int32) (kc : Int32) (sz : Nat) (h1 : kb < ka) (h2 : ka < 150) : Met l yX5_common wsX5_common ({ frames := 0, cells := 0, slots := 0, locals := 0 }) (va_Pc [.ref (ma 0), .int (nI ka), .int 1, .int (nI kb)] (fun U => U.heap.size = sz ∧ va_P (dC, dI) vwCl [(ma 0, .inr (5, [.int 0, .ref (ma 1), .int 0, .ref (ma 2), .int 150, .int 3, .int 0, .int ki, .ref (ma 3), .ref (ma 4), .ref (ma 5), .ref (ma 6), .int kc, .int 0, .ref (ma 7), .int 0, .ref (ma 8), .int (-1), .ref (ma 9), .ref (ma 10), .ref (ma 11), .ref (ma 12), .ref (ma 13), .int 0, .int 0])), (ma 2, .inl (cI, 150, .inl kt))] U.heap ∧ va_K (dC, dI) vwCl [(cI, .int)] U ∧ va_D (fun _ => True) [(ma 0, .inr (5, [.int 0, .ref (ma 1), .int 0, .ref (ma 2), .int 150, .int 3, .int 0, .int ki, .ref (ma 3), .ref (ma 4), .ref (ma 5), .ref (ma 6), .int kc, .int 0, .ref (ma 7), .int 0, .ref (ma 8), .int (-1), .ref (ma 9), .ref (ma 10), .ref (ma 11), .ref (ma 12), .ref (ma 13), .int 0, .int 0])), (ma 2, .inl (cI, 150, .inl kt))])) (va_Qi (fun (r : Int32) (_ : Unit) => ∃ j : Nat, ka + j ≤ 150 ∧ r = nI j) (fun _ _ => True) (fun q : Nat => sz ≤ q)) 0 0 (fun q : Nat => sz ≤ q) := by
  refine Met.ofW (cc := cX5_common) (maxL := 5) (ret := (some .int)) (by decide) rfl ?_
  intro p e s m args below meth c s₁ B hml hv
  obtain ⟨rfl, hsz, hP, hK, hD0⟩ := hv
  have hx := B.exec
  have hb := B.bytes
  have hr := B.returns
  have hts := atoms_spec (ws := wsX5_common) B.pre
  have hown : s.vm.findClass RX5 = some m.cls := findClass_of_methodNamed B.named
  have hlocks := B.notSynchronized
  subst hsz
  generalize hAe : (fun q : Nat => s.heap.size ≤ q) = A
  have hA : ∀ q : Nat, s.heap.size ≤ q → A q := fun q h => by rw [← hAe]; exact h
  have hS : va_S A s.heap s.heap [] := va_S.rf
  have hP : va_P (dC, dI) vwCl [(ma 0, .inr (5, [.int 0, .ref (ma 1), .int 0, .ref (ma 2), .int 150, .int 3, .int 0, .int ki, .ref (ma 3), .ref (ma 4), .ref (ma 5), .ref (ma 6), .int kc, .int 0, .ref (ma 7), .int 0, .ref (ma 8), .int (-1), .ref (ma 9), .ref (ma 10), .ref (ma 11), .ref (ma 12), .ref (ma 13), .int 0, .int 0])), (ma 2, .inl (cI, 150, .inl kt))] s.heap := hP
  have hl := lv_entry ([.ref (ma 0), .int (nI ka), .int 1, .int (nI kb)]) (n := 5) (Nat.le_of_ble_eq_true rfl)
  rw [lg_entry_eq]
  generalize (lg_sl ([.ref (ma 0), .int (nI ka), .int 1, .int (nI kb)]) ++ List.replicate (5 - (lg_sl ([.ref (ma 0), .int (nI ka), .int 1, .int (nI kb)])).length) Slot.unset).toArray = ls at hl ⊢
  have hl : lv_has ls 5 [(0, .ref (ma 0)), (1, .int (nI ka)), (2, .int 1), (3, .int (nI kb))] := hl
  refine lv_iconst (v := 0) hx hb dX5_common_0 (by decide) ?_
  refine lv_istore (lv' := [(4, .int 0), (0, .ref (ma 0)), (1, .int (nI ka)), (2, .int 1), (3, .int (nI kb))]) hx hb dX5_common_1 hl (by decide) rfl (fun ls hl => ?_)
  refine lo_common dC dI cI ma kt ka kb ki kc h1 h2 hx hb hml hown hts hA hK ?_ 151 0 0 _ _ ls (by omega) nI_0.symm (by omega) (hP.sub [0, 1] rfl) hS (lv_sub hl [0, 4, 3, 2, 1] rfl)
  intro j9 x H locs ls hx1 hj9 hP hS hl
  refine lv_iload hx hb dX5_common_73 (lv_at hl 0 rfl) ?_
  exact W.iret (v := x) hx hb hr (fun t ht hW => ⟨⟨x, (), rfl, ⟨j9, hj9, hx1⟩, trivial⟩, hS.F ht⟩) hS.2.2 dX5_common_75
set_option maxHeartbeats 4000000 in
set_option maxRecDepth 100000 in
theorem lo_sm0a {p : Program} {l : Launch} {e : Env} {s : State} {m : MethodId} {args : Array Value} {below : List Frame} {meth : Method} {c : Code} {Q : State → Prop} {A : Nat → Prop} (dC : Nat → ClassId) (dI : Nat → Nat → Nat) (cI : ClassId) (ma : Nat → Nat) (kt : Nat → Int32) (ka : Nat) (ki : Int32) (kc : Int32) (qa : Nat) (hx : p.tables.exec = Jvm.exec) (hb : c.code = cX5_smallest) (hml : c.maxLocals = 7) (hown : s.vm.findClass RX5 = some m.cls) (hts : ∀ w ∈ wsX5_smallest, w.before args s = true) (hA : ∀ q : Nat, s.heap.size ≤ q → A q) (hK : va_K (dC, dI) vwCl [(cI, .int)] s)
    (kk : ∀ (k : Nat) (x : Int32) (kg : Nat → Int32) (H : Heap) (locs : List Loc) (ls : Array Slot), va_P (dC, dI) vwCl [(ma 0, .inr (5, [.int 0, .ref (ma 1), .int 0, .ref (ma 2), .int 150, .int 3, .int 0, .int ki, .ref (ma 3), .ref (ma 4), .ref (ma 5), .ref (ma 6), .int kc, .int 0, .ref (ma 7), .int 0, .ref (ma 8), .int (-1), .ref (ma 9), .ref (ma 10), .ref (ma 11), .ref (ma 12), .ref (ma 13), .int 0, .int 0])), (ma 2, .inl (cI, 150, .inl kt)), (qa, .inl (cI, 151, .inl kg))] H → va_D A [(ma 0, .inr (5, [.int 0, .ref (ma 1), .int 0, .ref (ma 2), .int 150, .int 3, .int 0, .int ki, .ref (ma 3), .ref (ma 4), .ref (ma 5), .ref (ma 6), .int kc, .int 0, .ref (ma 7), .int 0, .ref (ma 8), .int (-1), .ref (ma 9), .ref (ma 10), .ref (ma 11), .ref (ma 12), .ref (ma 13), .int 0, .int 0])), (ma 2, .inl (cI, 150, .inl kt)), (qa, .inl (cI, 151, .inl kg))] → va_S A s.heap H locs → lv_has ls 7 [(4, .int x), (3, .ref qa), (2, .int 0), (1, .int (nI ka)), (0, .ref (ma 0))] → W p l e (headSpec wsX5_smallest ({ frames := 1, cells := 1, slots := 151, locals := 24 })).room s m args below meth c H locs 1 151 Q (F0 m 28 ls []))
    : ∀ (j : Nat) (k : Nat) (x : Int32) (kg : Nat → Int32) (H : Heap) (locs : List Loc) (ls : Array Slot), 151 - k < j → (x = nI k) → (k ≤ 151) → va_P (dC, dI) vwCl [(ma 0, .inr (5, [.int 0, .ref (ma 1), .int 0, .ref (ma 2), .int 150, .int 3, .int 0, .int ki, .ref (ma 3), .ref (ma 4), .ref (ma 5), .ref (ma 6), .int kc, .int 0, .ref (ma 7), .int 0, .ref (ma 8), .int (-1), .ref (ma 9), .ref (ma 10), .ref (ma 11), .ref (ma 12), .ref (ma 13), .int 0, .int 0])), (ma 2, .inl (cI, 150, .inl kt)), (qa, .inl (cI, 151, .inl kg))] H → va_D A [(ma 0, .inr (5, [.int 0, .ref (ma 1), .int 0, .ref (ma 2), .int 150, .int 3, .int 0, .int ki, .ref (ma 3), .ref (ma 4), .ref (ma 5), .ref (ma 6), .int kc, .int 0, .ref (ma 7), .int 0, .ref (ma 8), .int (-1), .ref (ma 9), .ref (ma 10), .ref (ma 11), .ref (ma 12), .ref (ma 13), .int 0, .int 0])), (ma 2, .inl (cI, 150, .inl kt)), (qa, .inl (cI, 151, .inl kg))] → va_S A s.heap H locs → lv_has ls 7 [(4, .int x), (3, .ref qa), (2, .int 0), (1, .int (nI ka)), (0, .ref (ma 0))] → W p l e (headSpec wsX5_smallest ({ frames := 1, cells := 1, slots := 151, locals := 24 })).room s m args below meth c H locs 1 151 Q (F0 m 9 ls []) := by
  intro j
  induction j with
  | zero => intro k x kg H locs ls hj; omega
  | succ j ih =>
    intro k x kg H locs ls hj hx1 hk hP hD hS hl
    refine lv_iload hx hb dX5_smallest_9 (lv_at hl 0 rfl) ?_
    refine lv_sipush (v := 150) hx hb dX5_smallest_11 (by decide) ?_
    refine lv_icmp_gt (tgt := 28) hx hb dX5_smallest_14 (by decide) (fun c14 => ?_) (fun c14 => ?_)
    · skip
      exact kk k x kg H locs ls  (hP.sub [0, 1, 2] rfl) (hD.sub [0, 1, 2] (by decide) rfl) hS (lv_sub hl [0, 1, 2, 3, 4] rfl)
    · skip
      have hlt : k < 151 := Nat.lt_of_not_le (fun q => c14 (by rw [hx1]; show nI 150 < nI k; exact nI_lt (by omega) (by omega)))
      refine lv_aload_n hx hb dX5_smallest_17 rfl (lv_at hl 1 rfl) ?_
      refine lv_iload hx hb dX5_smallest_18 (lv_at hl 0 rfl) ?_
      refine lv_iconst (v := (-1)) hx hb dX5_smallest_20 (by decide) ?_
      refine va_iast hx hb hK hP hD hS 2 0 rfl rfl (by rw [hx1]; exact vp_in_nI hlt (by omega)) dX5_smallest_21 (fun H locs hP hD hS => ?_)
      obtain ⟨f_717, ef_717⟩ : ∃ g, g = upd kg (x : Int32).toNatClampNeg (-1) := ⟨_, rfl⟩
      rw [← ef_717] at hP hD
      have hP : va_P (dC, dI) vwCl [(ma 0, .inr (5, [.int 0, .ref (ma 1), .int 0, .ref (ma 2), .int 150, .int 3, .int 0, .int ki, .ref (ma 3), .ref (ma 4), .ref (ma 5), .ref (ma 6), .int kc, .int 0, .ref (ma 7), .int 0, .ref (ma 8), .int (-1), .ref (ma 9), .ref (ma 10), .ref (ma 11), .ref (ma 12), .ref (ma 13), .int 0, .int 0])), (ma 2, .inl (cI, 150, .inl kt)), (qa, .inl (cI, 151, .inl f_717))] H := hP
      have hD : va_D A [(ma 0, .inr (5, [.int 0, .ref (ma 1), .int 0, .ref (ma 2), .int 150, .int 3, .int 0, .int ki, .ref (ma 3), .ref (ma 4), .ref (ma 5), .ref (ma 6), .int kc, .int 0, .ref (ma 7), .int 0, .ref (ma 8), .int (-1), .ref (ma 9), .ref (ma 10), .ref (ma 11), .ref (ma 12), .ref (ma 13), .int 0, .int 0])), (ma 2, .inl (cI, 150, .inl kt)), (qa, .inl (cI, 151, .inl f_717))] := hD
      obtain ⟨x_718, ex_718⟩ : ∃ y : Int32, y = x + 1 := ⟨_, rfl⟩
      refine lv_iinc (v := x_718) (lv' := [(4, .int x_718), (3, .ref qa), (2, .int 0), (1, .int (nI ka)), (0, .ref (ma 0))]) hx hb dX5_smallest_22 hl (k := 0) rfl (by rw [ex_718]; rfl) (by decide) rfl (fun ls hl => ?_)
      refine lv_goto (tgt := 9) hx hb dX5_smallest_25 (by decide) ?_
      exact ih (k + 1) x_718 f_717 H locs ls (by omega) (by rw [ex_718, hx1]; exact nI_1 k) (by omega) (hP.sub [0, 1, 2] rfl) (hD.sub [0, 1, 2] (by decide) rfl) hS (lv_sub hl [0, 1, 2, 3, 4] rfl)
set_option maxHeartbeats 4000000 in
set_option maxRecDepth 100000 in
theorem k_small0 (l : Launch) (dC : Nat → ClassId) (dI : Nat → Nat → Nat) (cI : ClassId) (ma : Nat → Nat) (kt : Nat → Int32) (ka : Nat) (ki : Int32) (kc : Int32) (sz : Nat) (h2 : ka < 150) : Met l yX5_smallest wsX5_smallest ({ frames := 1, cells := 1, slots := 151, locals := 24 }) (va_Pc [.ref (ma 0), .int (nI ka), .int 0] (fun U => U.heap.size = sz ∧ va_P (dC, dI) vwCl [(ma 0, .inr (5, [.int 0, .ref (ma 1), .int 0, .ref (ma 2), .int 150, .int 3, .int 0, .int ki, .ref (ma 3), .ref (ma 4), .ref (ma 5), .ref (ma 6), .int kc, .int 0, .ref (ma 7), .int 0, .ref (ma 8), .int (-1), .ref (ma 9), .ref (ma 10), .ref (ma 11), .ref (ma 12), .ref (ma 13), .int 0, .int 0])), (ma 2, .inl (cI, 150, .inl kt))] U.heap ∧ va_K (dC, dI) vwCl [(cI, .int)] U ∧ va_D (fun _ => True) [(ma 0, .inr (5, [.int 0, .ref (ma 1), .int 0, .ref (ma 2), .int 150, .int 3, .int 0, .int ki, .ref (ma 3), .ref (ma 4), .ref (ma 5), .ref (ma 6), .int kc, .int 0, .ref (ma 7), .int 0, .ref (ma 8), .int (-1), .ref (ma 9), .ref (ma 10), .ref (ma 11), .ref (ma 12), .ref (ma 13), .int 0, .int 0])), (ma 2, .inl (cI, 150, .inl kt))])) (va_Qr (fun kg : Nat → Int32 => True) (fun kg ra9 t => va_P (dC, dI) vwCl [(ma 0, .inr (5, [.int 0, .ref (ma 1), .int 0, .ref (ma 2), .int 150, .int 3, .int 0, .int ki, .ref (ma 3), .ref (ma 4), .ref (ma 5), .ref (ma 6), .int kc, .int 0, .ref (ma 7), .int 0, .ref (ma 8), .int (-1), .ref (ma 9), .ref (ma 10), .ref (ma 11), .ref (ma 12), .ref (ma 13), .int 0, .int 0])), (ma 2, .inl (cI, 150, .inl kt)), (ra9, .inl (cI, 151, .inl kg))] t.heap ∧ va_D (va_A [(ma 0, .inr (5, [.int 0, .ref (ma 1), .int 0, .ref (ma 2), .int 150, .int 3, .int 0, .int ki, .ref (ma 3), .ref (ma 4), .ref (ma 5), .ref (ma 6), .int kc, .int 0, .ref (ma 7), .int 0, .ref (ma 8), .int (-1), .ref (ma 9), .ref (ma 10), .ref (ma 11), .ref (ma 12), .ref (ma 13), .int 0, .int 0])), (ma 2, .inl (cI, 150, .inl kt))] sz) [(ma 0, .inr (5, [.int 0, .ref (ma 1), .int 0, .ref (ma 2), .int 150, .int 3, .int 0, .int ki, .ref (ma 3), .ref (ma 4), .ref (ma 5), .ref (ma 6), .int kc, .int 0, .ref (ma 7), .int 0, .ref (ma 8), .int (-1), .ref (ma 9), .ref (ma 10), .ref (ma 11), .ref (ma 12), .ref (ma 13), .int 0, .int 0])), (ma 2, .inl (cI, 150, .inl kt)), (ra9, .inl (cI, 151, .inl kg))]) (va_A [(ma 0, .inr (5, [.int 0, .ref (ma 1), .int 0, .ref (ma 2), .int 150, .int 3, .int 0, .int ki, .ref (ma 3), .ref (ma 4), .ref (ma 5), .ref (ma 6), .int kc, .int 0, .ref (ma 7), .int 0, .ref (ma 8), .int (-1), .ref (ma 9), .ref (ma 10), .ref (ma 11), .ref (ma 12), .ref (ma 13), .int 0, .int 0])), (ma 2, .inl (cI, 150, .inl kt))] sz)) 1 151 (va_A [(ma 0, .inr (5, [.int 0, .ref (ma 1), .int 0, .ref (ma 2), .int 150, .int 3, .int 0, .int ki, .ref (ma 3), .ref (ma 4), .ref (ma 5), .ref (ma 6), .int kc, .int 0, .ref (ma 7), .int 0, .ref (ma 8), .int (-1), .ref (ma 9), .ref (ma 10), .ref (ma 11), .ref (ma 12), .ref (ma 13), .int 0, .int 0])), (ma 2, .inl (cI, 150, .inl kt))] sz) := by
  refine Met.ofW (cc := cX5_smallest) (maxL := 7) (ret := (some (.array .int))) (by decide) rfl ?_
  intro p e s m args below meth c s₁ B hml hv
  obtain ⟨rfl, hsz, hP, hK, hD0⟩ := hv
  have hx := B.exec
  have hb := B.bytes
  have hr := B.returns
  have hts := atoms_spec (ws := wsX5_smallest) B.pre
  have hown : s.vm.findClass RX5 = some m.cls := findClass_of_methodNamed B.named
  have hlocks := B.notSynchronized
  subst hsz
  have hD := hD0.self (sz := s.heap.size)
  generalize hAe : va_A [(ma 0, .inr (5, [.int 0, .ref (ma 1), .int 0, .ref (ma 2), .int 150, .int 3, .int 0, .int ki, .ref (ma 3), .ref (ma 4), .ref (ma 5), .ref (ma 6), .int kc, .int 0, .ref (ma 7), .int 0, .ref (ma 8), .int (-1), .ref (ma 9), .ref (ma 10), .ref (ma 11), .ref (ma 12), .ref (ma 13), .int 0, .int 0])), (ma 2, .inl (cI, 150, .inl kt))] s.heap.size = A at hD ⊢
  have hA : ∀ q : Nat, s.heap.size ≤ q → A q := fun q h => by rw [← hAe]; exact Or.inr h
  have hS : va_S A s.heap s.heap [] := va_S.rf
  have hP : va_P (dC, dI) vwCl [(ma 0, .inr (5, [.int 0, .ref (ma 1), .int 0, .ref (ma 2), .int 150, .int 3, .int 0, .int ki, .ref (ma 3), .ref (ma 4), .ref (ma 5), .ref (ma 6), .int kc, .int 0, .ref (ma 7), .int 0, .ref (ma 8), .int (-1), .ref (ma 9), .ref (ma 10), .ref (ma 11), .ref (ma 12), .ref (ma 13), .int 0, .int 0])), (ma 2, .inl (cI, 150, .inl kt))] s.heap := hP
  have hl := lv_entry ([.ref (ma 0), .int (nI ka), .int 0]) (n := 7) (Nat.le_of_ble_eq_true rfl)
  rw [lg_entry_eq]
  generalize (lg_sl ([.ref (ma 0), .int (nI ka), .int 0]) ++ List.replicate (7 - (lg_sl ([.ref (ma 0), .int (nI ka), .int 0])).length) Slot.unset).toArray = ls at hl ⊢
  have hl : lv_has ls 7 [(0, .ref (ma 0)), (1, .int (nI ka)), (2, .int 0)] := hl
  refine lv_sipush (v := 151) hx hb dX5_smallest_0 (by decide) ?_
  refine va_newa (atype := .int) (ty := .int) (N' := 151) (a0 := (151, .inl (fun _ => 0))) hx hb (hts (.arrayClass .int) (by decide +kernel)) rfl hK hP hD hS hA (fun _ => rfl) (by decide) (by decide) (by decide) (Nat.le_of_ble_eq_true rfl) (Nat.le_of_ble_eq_true rfl) dX5_smallest_3 (fun q_719 cA H hK hP hD hS => ?_)
  obtain rfl : cI = cA := (zz_same hK 0 1 rfl rfl).symm
  have hK := hK.sub (tys' := [(cI, .int)]) [0] rfl
  have hP : va_P (dC, dI) vwCl [(ma 0, .inr (5, [.int 0, .ref (ma 1), .int 0, .ref (ma 2), .int 150, .int 3, .int 0, .int ki, .ref (ma 3), .ref (ma 4), .ref (ma 5), .ref (ma 6), .int kc, .int 0, .ref (ma 7), .int 0, .ref (ma 8), .int (-1), .ref (ma 9), .ref (ma 10), .ref (ma 11), .ref (ma 12), .ref (ma 13), .int 0, .int 0])), (ma 2, .inl (cI, 150, .inl kt)), (q_719, .inl (cI, 151, .inl (fun _ => 0)))] H := hP
  have hD : va_D A [(ma 0, .inr (5, [.int 0, .ref (ma 1), .int 0, .ref (ma 2), .int 150, .int 3, .int 0, .int ki, .ref (ma 3), .ref (ma 4), .ref (ma 5), .ref (ma 6), .int kc, .int 0, .ref (ma 7), .int 0, .ref (ma 8), .int (-1), .ref (ma 9), .ref (ma 10), .ref (ma 11), .ref (ma 12), .ref (ma 13), .int 0, .int 0])), (ma 2, .inl (cI, 150, .inl kt)), (q_719, .inl (cI, 151, .inl (fun _ => 0)))] := hD
  refine W.widen (k := 1) (n := 151) (by omega) (by omega) ?_
  refine lv_astore_n (lv' := [(3, .ref q_719), (0, .ref (ma 0)), (1, .int (nI ka)), (2, .int 0)]) hx hb dX5_smallest_5 rfl hl (by decide) rfl (fun ls hl => ?_)
  refine lv_iconst (v := 0) hx hb dX5_smallest_6 (by decide) ?_
  refine lv_istore (lv' := [(4, .int 0), (3, .ref q_719), (0, .ref (ma 0)), (1, .int (nI ka)), (2, .int 0)]) hx hb dX5_smallest_7 hl (by decide) rfl (fun ls hl => ?_)
  refine lo_sm0a dC dI cI ma kt ka ki kc q_719 hx hb hml hown hts hA hK ?_ 152 0 0 (fun _ => 0) _ _ ls (by omega) nI_0.symm (by omega) (hP.sub [0, 1, 2] rfl) (hD.sub [0, 1, 2] (by decide) rfl) hS (lv_sub hl [0, 1, 4, 3, 2] rfl)
  intro k x kg H locs ls hP hD hS hl
  refine lv_iconst (v := 0) hx hb dX5_smallest_28 (by decide) ?_
  refine lv_istore (lv' := [(4, .int 0), (3, .ref q_719), (2, .int 0), (1, .int (nI ka)), (0, .ref (ma 0))]) hx hb dX5_smallest_29 hl (by decide) rfl (fun ls hl => ?_)
  refine lv_iconst (v := 0) hx hb dX5_smallest_31 (by decide) ?_
  refine lv_istore (lv' := [(5, .int 0), (4, .int 0), (3, .ref q_719), (2, .int 0), (1, .int (nI ka)), (0, .ref (ma 0))]) hx hb dX5_smallest_32 hl (by decide) rfl (fun ls hl => ?_)
  refine lv_iload hx hb dX5_smallest_34 (lv_at hl 0 rfl) ?_
  refine lv_aload_n hx hb dX5_smallest_36 rfl (lv_at hl 5 rfl) ?_
  refine lv_iload_n hx hb dX5_smallest_37 rfl (lv_at hl 4 rfl) ?_
  refine lv_iload_n hx hb dX5_smallest_38 rfl (lv_at hl 3 rfl) ?_
  have hPc := hP.sub (ws' := [(ma 0, .inr (5, [.int 0, .ref (ma 1), .int 0, .ref (ma 2), .int 150, .int 3, .int 0, .int ki, .ref (ma 3), .ref (ma 4), .ref (ma 5), .ref (ma 6), .int kc, .int 0, .ref (ma 7), .int 0, .ref (ma 8), .int (-1), .ref (ma 9), .ref (ma 10), .ref (ma 11), .ref (ma 12), .ref (ma 13), .int 0, .int 0]))]) [0] rfl
  have hFc : ∀ q : Nat, H.size ≤ q → A q := fun q h => hA q (Nat.le_trans hS.1 h)
  have hKc := hK.sub (tys' := []) [] rfl
  refine va_calli (va_runV (As := [.int (nI ka), .int 0]) (rest := [.int 0]) ⟨hx, hb, hml, hown, hts⟩ (k_places0 l dC dI ma (nI ka) ki kc H.size) (cwV 2 hts gX5_smallest_X5_places rfl rfl rfl (by decide +kernel) ⟨Nat.le_of_ble_eq_true rfl, Nat.le_of_ble_eq_true rfl⟩) ⟨fun a U g mk q => by obtain ⟨q0, q1, qP, qK, qD⟩ := q; exact ⟨q0, q1, qP, va_K.moved (u := U) (U := U.calling g mk a) (Vm.Alike.refl U.vm) qK, qD⟩, va_recv hKc hPc (ci := 5) (q0 := 0) rfl rfl, fun U hU hW => ⟨rfl, by rw [hU], by rw [hU]; exact hPc, va_K.moved hW.alike hKc, zz_D (hD.sub (ws' := [(ma 0, .inr (5, [.int 0, .ref (ma 1), .int 0, .ref (ma 2), .int 150, .int 3, .int 0, .int ki, .ref (ma 3), .ref (ma 4), .ref (ma 5), .ref (ma 6), .int kc, .int 0, .ref (ma 7), .int 0, .ref (ma 8), .int (-1), .ref (ma 9), .ref (ma 10), .ref (ma 11), .ref (ma 12), .ref (ma 13), .int 0, .int 0]))]) [0] (by decide) rfl)⟩⟩ rfl rfl hl.1 rfl (lv_room (Nat.le_of_ble_eq_true rfl)) dX5_smallest_39 ⟨(Nat.le_of_ble_eq_true rfl), (Nat.le_of_ble_eq_true rfl)⟩) hS (fun q h1 h2 => absurd h1 (Nat.not_lt.mpr h2)) hFc (fun r_720 u_721 t H1 locs ht hvm hw hB hz1 hk1 hS1 => ?_)
  have hP := zz_keep hP hk1
  have hS := hS1
  clear hS1
  generalize H1 = H at hP hS ht ⊢
  have hP : va_P (dC, dI) vwCl [(ma 0, .inr (5, [.int 0, .ref (ma 1), .int 0, .ref (ma 2), .int 150, .int 3, .int 0, .int ki, .ref (ma 3), .ref (ma 4), .ref (ma 5), .ref (ma 6), .int kc, .int 0, .ref (ma 7), .int 0, .ref (ma 8), .int (-1), .ref (ma 9), .ref (ma 10), .ref (ma 11), .ref (ma 12), .ref (ma 13), .int 0, .int 0])), (ma 2, .inl (cI, 150, .inl kt)), (q_719, .inl (cI, 151, .inl kg))] H := hP
  obtain rfl : 0 = r_720 := (show r_720 = 0 from hw).symm
  refine lv_icmp_ge (tgt := 80) hx hb dX5_smallest_42 (by decide) (fun c42 => ?_) (fun h => absurd h (by decide))
  refine lv_aload_n hx hb dX5_smallest_80 rfl (lv_at hl 2 rfl) ?_
  have hP9 := hP.sub (ws' := [(ma 0, .inr (5, [.int 0, .ref (ma 1), .int 0, .ref (ma 2), .int 150, .int 3, .int 0, .int ki, .ref (ma 3), .ref (ma 4), .ref (ma 5), .ref (ma 6), .int kc, .int 0, .ref (ma 7), .int 0, .ref (ma 8), .int (-1), .ref (ma 9), .ref (ma 10), .ref (ma 11), .ref (ma 12), .ref (ma 13), .int 0, .int 0])), (ma 2, .inl (cI, 150, .inl kt)), (q_719, .inl (cI, 151, .inl kg))]) [0, 1, 2] rfl
  have hD9 := hD.sub (ws' := [(ma 0, .inr (5, [.int 0, .ref (ma 1), .int 0, .ref (ma 2), .int 150, .int 3, .int 0, .int ki, .ref (ma 3), .ref (ma 4), .ref (ma 5), .ref (ma 6), .int kc, .int 0, .ref (ma 7), .int 0, .ref (ma 8), .int (-1), .ref (ma 9), .ref (ma 10), .ref (ma 11), .ref (ma 12), .ref (ma 13), .int 0, .int 0])), (ma 2, .inl (cI, 150, .inl kt)), (q_719, .inl (cI, 151, .inl kg))]) [0, 1, 2] (by decide) rfl
  exact W.aret (v := .ref q_719) hx hb hr (Or.inr ⟨_, rfl⟩) (Or.inr ⟨_, rfl⟩) (fun t ht hW => ⟨⟨kg, q_719, rfl, trivial, ⟨by rw [ht]; exact hP9, hD9⟩⟩, hS.F ht⟩) hS.2.2 dX5_smallest_81
set_option maxHeartbeats 4000000 in
set_option maxRecDepth 100000 in
theorem lo_sm1a {p : Program} {l : Launch} {e : Env} {s : State} {m : MethodId} {args : Array Value} {below : List Frame} {meth : Method} {c : Code} {Q : State → Prop} {A : Nat → Prop} (dC : Nat → ClassId) (dI : Nat → Nat → Nat) (cI : ClassId) (ma : Nat → Nat) (kt : Nat → Int32) (ka : Nat) (ki : Int32) (kc : Int32) (qa : Nat) (hx : p.tables.exec = Jvm.exec) (hb : c.code = cX5_smallest) (hml : c.maxLocals = 7) (hown : s.vm.findClass RX5 = some m.cls) (hts : ∀ w ∈ wsX5_smallest, w.before args s = true) (hA : ∀ q : Nat, s.heap.size ≤ q → A q) (hK : va_K (dC, dI) vwCl [(cI, .int)] s)
    (kk : ∀ (k : Nat) (x : Int32) (kg : Nat → Int32) (H : Heap) (locs : List Loc) (ls : Array Slot), va_P (dC, dI) vwCl [(ma 0, .inr (5, [.int 0, .ref (ma 1), .int 0, .ref (ma 2), .int 150, .int 3, .int 0, .int ki, .ref (ma 3), .ref (ma 4), .ref (ma 5), .ref (ma 6), .int kc, .int 0, .ref (ma 7), .int 0, .ref (ma 8), .int (-1), .ref (ma 9), .ref (ma 10), .ref (ma 11), .ref (ma 12), .ref (ma 13), .int 0, .int 0])), (ma 2, .inl (cI, 150, .inl kt)), (qa, .inl (cI, 151, .inl kg))] H → va_D A [(ma 0, .inr (5, [.int 0, .ref (ma 1), .int 0, .ref (ma 2), .int 150, .int 3, .int 0, .int ki, .ref (ma 3), .ref (ma 4), .ref (ma 5), .ref (ma 6), .int kc, .int 0, .ref (ma 7), .int 0, .ref (ma 8), .int (-1), .ref (ma 9), .ref (ma 10), .ref (ma 11), .ref (ma 12), .ref (ma 13), .int 0, .int 0])), (ma 2, .inl (cI, 150, .inl kt)), (qa, .inl (cI, 151, .inl kg))] → va_S A s.heap H locs → lv_has ls 7 [(4, .int x), (3, .ref qa), (2, .int 1), (1, .int (nI ka)), (0, .ref (ma 0))] → W p l e (headSpec wsX5_smallest ({ frames := 1, cells := 1, slots := 151, locals := 24 })).room s m args below meth c H locs 1 151 Q (F0 m 28 ls []))
    : ∀ (j : Nat) (k : Nat) (x : Int32) (kg : Nat → Int32) (H : Heap) (locs : List Loc) (ls : Array Slot), 151 - k < j → (x = nI k) → (k ≤ 151) → va_P (dC, dI) vwCl [(ma 0, .inr (5, [.int 0, .ref (ma 1), .int 0, .ref (ma 2), .int 150, .int 3, .int 0, .int ki, .ref (ma 3), .ref (ma 4), .ref (ma 5), .ref (ma 6), .int kc, .int 0, .ref (ma 7), .int 0, .ref (ma 8), .int (-1), .ref (ma 9), .ref (ma 10), .ref (ma 11), .ref (ma 12), .ref (ma 13), .int 0, .int 0])), (ma 2, .inl (cI, 150, .inl kt)), (qa, .inl (cI, 151, .inl kg))] H → va_D A [(ma 0, .inr (5, [.int 0, .ref (ma 1), .int 0, .ref (ma 2), .int 150, .int 3, .int 0, .int ki, .ref (ma 3), .ref (ma 4), .ref (ma 5), .ref (ma 6), .int kc, .int 0, .ref (ma 7), .int 0, .ref (ma 8), .int (-1), .ref (ma 9), .ref (ma 10), .ref (ma 11), .ref (ma 12), .ref (ma 13), .int 0, .int 0])), (ma 2, .inl (cI, 150, .inl kt)), (qa, .inl (cI, 151, .inl kg))] → va_S A s.heap H locs → lv_has ls 7 [(4, .int x), (3, .ref qa), (2, .int 1), (1, .int (nI ka)), (0, .ref (ma 0))] → W p l e (headSpec wsX5_smallest ({ frames := 1, cells := 1, slots := 151, locals := 24 })).room s m args below meth c H locs 1 151 Q (F0 m 9 ls []) := by
  intro j
  induction j with
  | zero => intro k x kg H locs ls hj; omega
  | succ j ih =>
    intro k x kg H locs ls hj hx1 hk hP hD hS hl
    refine lv_iload hx hb dX5_smallest_9 (lv_at hl 0 rfl) ?_
    refine lv_sipush (v := 150) hx hb dX5_smallest_11 (by decide) ?_
    refine lv_icmp_gt (tgt := 28) hx hb dX5_smallest_14 (by decide) (fun c14 => ?_) (fun c14 => ?_)
    · skip
      exact kk k x kg H locs ls  (hP.sub [0, 1, 2] rfl) (hD.sub [0, 1, 2] (by decide) rfl) hS (lv_sub hl [0, 1, 2, 3, 4] rfl)
    · skip
      have hlt : k < 151 := Nat.lt_of_not_le (fun q => c14 (by rw [hx1]; show nI 150 < nI k; exact nI_lt (by omega) (by omega)))
      refine lv_aload_n hx hb dX5_smallest_17 rfl (lv_at hl 1 rfl) ?_
      refine lv_iload hx hb dX5_smallest_18 (lv_at hl 0 rfl) ?_
      refine lv_iconst (v := (-1)) hx hb dX5_smallest_20 (by decide) ?_
      refine va_iast hx hb hK hP hD hS 2 0 rfl rfl (by rw [hx1]; exact vp_in_nI hlt (by omega)) dX5_smallest_21 (fun H locs hP hD hS => ?_)
      obtain ⟨f_722, ef_722⟩ : ∃ g, g = upd kg (x : Int32).toNatClampNeg (-1) := ⟨_, rfl⟩
      rw [← ef_722] at hP hD
      have hP : va_P (dC, dI) vwCl [(ma 0, .inr (5, [.int 0, .ref (ma 1), .int 0, .ref (ma 2), .int 150, .int 3, .int 0, .int ki, .ref (ma 3), .ref (ma 4), .ref (ma 5), .ref (ma 6), .int kc, .int 0, .ref (ma 7), .int 0, .ref (ma 8), .int (-1), .ref (ma 9), .ref (ma 10), .ref (ma 11), .ref (ma 12), .ref (ma 13), .int 0, .int 0])), (ma 2, .inl (cI, 150, .inl kt)), (qa, .inl (cI, 151, .inl f_722))] H := hP
      have hD : va_D A [(ma 0, .inr (5, [.int 0, .ref (ma 1), .int 0, .ref (ma 2), .int 150, .int 3, .int 0, .int ki, .ref (ma 3), .ref (ma 4), .ref (ma 5), .ref (ma 6), .int kc, .int 0, .ref (ma 7), .int 0, .ref (ma 8), .int (-1), .ref (ma 9), .ref (ma 10), .ref (ma 11), .ref (ma 12), .ref (ma 13), .int 0, .int 0])), (ma 2, .inl (cI, 150, .inl kt)), (qa, .inl (cI, 151, .inl f_722))] := hD
      obtain ⟨x_723, ex_723⟩ : ∃ y : Int32, y = x + 1 := ⟨_, rfl⟩
      refine lv_iinc (v := x_723) (lv' := [(4, .int x_723), (3, .ref qa), (2, .int 1), (1, .int (nI ka)), (0, .ref (ma 0))]) hx hb dX5_smallest_22 hl (k := 0) rfl (by rw [ex_723]; rfl) (by decide) rfl (fun ls hl => ?_)
      refine lv_goto (tgt := 9) hx hb dX5_smallest_25 (by decide) ?_
      exact ih (k + 1) x_723 f_722 H locs ls (by omega) (by rw [ex_723, hx1]; exact nI_1 k) (by omega) (hP.sub [0, 1, 2] rfl) (hD.sub [0, 1, 2] (by decide) rfl) hS (lv_sub hl [0, 1, 2, 3, 4] rfl)
set_option maxHeartbeats 4000000 in
set_option maxRecDepth 100000 in
theorem lo_sm1c {p : Program} {l : Launch} {e : Env} {s : State} {m : MethodId} {args : Array Value} {below : List Frame} {meth : Method} {c : Code} {Q : State → Prop} {A : Nat → Prop} (dC : Nat → ClassId) (dI : Nat → Nat → Nat) (cI : ClassId) (ma : Nat → Nat) (kt : Nat → Int32) (ka : Nat) (ki : Int32) (kc : Int32) (qa : Nat) (jn : Nat) (x : Int32) (hjn : jn ≤ 150) (hx : p.tables.exec = Jvm.exec) (hb : c.code = cX5_smallest) (hml : c.maxLocals = 7) (hown : s.vm.findClass RX5 = some m.cls) (hts : ∀ w ∈ wsX5_smallest, w.before args s = true) (hA : ∀ q : Nat, s.heap.size ≤ q → A q) (hK : va_K (dC, dI) vwCl [(cI, .int)] s)
    (kk : ∀ (tn : Nat) (y : Int32) (kg : Nat → Int32) (H : Heap) (locs : List Loc) (ls : Array Slot), y = nI tn → tn ≤ 150 → va_P (dC, dI) vwCl [(ma 0, .inr (5, [.int 0, .ref (ma 1), .int 0, .ref (ma 2), .int 150, .int 3, .int 0, .int ki, .ref (ma 3), .ref (ma 4), .ref (ma 5), .ref (ma 6), .int kc, .int 0, .ref (ma 7), .int 0, .ref (ma 8), .int (-1), .ref (ma 9), .ref (ma 10), .ref (ma 11), .ref (ma 12), .ref (ma 13), .int 0, .int 0])), (ma 2, .inl (cI, 150, .inl kt)), (qa, .inl (cI, 151, .inl kg))] H → va_D A [(ma 0, .inr (5, [.int 0, .ref (ma 1), .int 0, .ref (ma 2), .int 150, .int 3, .int 0, .int ki, .ref (ma 3), .ref (ma 4), .ref (ma 5), .ref (ma 6), .int kc, .int 0, .ref (ma 7), .int 0, .ref (ma 8), .int (-1), .ref (ma 9), .ref (ma 10), .ref (ma 11), .ref (ma 12), .ref (ma 13), .int 0, .int 0])), (ma 2, .inl (cI, 150, .inl kt)), (qa, .inl (cI, 151, .inl kg))] → va_S A s.heap H locs → lv_has ls 7 [(4, .int y), (6, .int (nI jn)), (5, .int x), (3, .ref qa), (2, .int 1), (1, .int (nI ka)), (0, .ref (ma 0))] → W p l e (headSpec wsX5_smallest ({ frames := 1, cells := 1, slots := 151, locals := 24 })).room s m args below meth c H locs 1 151 Q (F0 m 74 ls []))
    : ∀ (j : Nat) (tn : Nat) (y : Int32) (kg : Nat → Int32) (H : Heap) (locs : List Loc) (ls : Array Slot), 151 - tn < j → (y = nI tn) → (tn ≤ 150) → va_P (dC, dI) vwCl [(ma 0, .inr (5, [.int 0, .ref (ma 1), .int 0, .ref (ma 2), .int 150, .int 3, .int 0, .int ki, .ref (ma 3), .ref (ma 4), .ref (ma 5), .ref (ma 6), .int kc, .int 0, .ref (ma 7), .int 0, .ref (ma 8), .int (-1), .ref (ma 9), .ref (ma 10), .ref (ma 11), .ref (ma 12), .ref (ma 13), .int 0, .int 0])), (ma 2, .inl (cI, 150, .inl kt)), (qa, .inl (cI, 151, .inl kg))] H → va_D A [(ma 0, .inr (5, [.int 0, .ref (ma 1), .int 0, .ref (ma 2), .int 150, .int 3, .int 0, .int ki, .ref (ma 3), .ref (ma 4), .ref (ma 5), .ref (ma 6), .int kc, .int 0, .ref (ma 7), .int 0, .ref (ma 8), .int (-1), .ref (ma 9), .ref (ma 10), .ref (ma 11), .ref (ma 12), .ref (ma 13), .int 0, .int 0])), (ma 2, .inl (cI, 150, .inl kt)), (qa, .inl (cI, 151, .inl kg))] → va_S A s.heap H locs → lv_has ls 7 [(4, .int y), (6, .int (nI jn)), (5, .int x), (3, .ref qa), (2, .int 1), (1, .int (nI ka)), (0, .ref (ma 0))] → W p l e (headSpec wsX5_smallest ({ frames := 1, cells := 1, slots := 151, locals := 24 })).room s m args below meth c H locs 1 151 Q (F0 m 55 ls []) := by
  intro j
  induction j with
  | zero => intro tn y kg H locs ls hj; omega
  | succ j ih =>
    intro tn y kg H locs ls hj hy1 hbt hP hD hS hl
    refine lv_iload hx hb dX5_smallest_55 (lv_at hl 0 rfl) ?_
    refine lv_iload hx hb dX5_smallest_57 (lv_at hl 1 rfl) ?_
    refine lv_icmp_ge (tgt := 74) hx hb dX5_smallest_59 (by decide) (fun c59 => ?_) (fun c59 => ?_)
    · skip
      exact kk tn y kg H locs ls hy1 hbt (hP.sub [0, 1, 2] rfl) (hD.sub [0, 1, 2] (by decide) rfl) hS (lv_sub hl [0, 1, 2, 3, 4, 5, 6] rfl)
    · skip
      have hlt : tn < jn := Nat.lt_of_not_le (fun q => c59 (by rw [hy1]; exact nI_le q (by omega)))
      obtain ⟨x_724, ex_724⟩ : ∃ y99 : Int32, y99 = y + 1 := ⟨_, rfl⟩
      refine lv_iinc (v := x_724) (lv' := [(4, .int x_724), (6, .int (nI jn)), (5, .int x), (3, .ref qa), (2, .int 1), (1, .int (nI ka)), (0, .ref (ma 0))]) hx hb dX5_smallest_62 hl (k := 0) rfl (by rw [ex_724]; rfl) (by decide) rfl (fun ls hl => ?_)
      refine lv_aload_n hx hb dX5_smallest_65 rfl (lv_at hl 3 rfl) ?_
      refine lv_iload hx hb dX5_smallest_66 (lv_at hl 0 rfl) ?_
      refine lv_iload hx hb dX5_smallest_68 (lv_at hl 2 rfl) ?_
      refine va_iast hx hb hK hP hD hS 2 0 rfl rfl (by rw [ex_724, hy1, nI_1]; exact vp_in_nI (by omega) (by omega)) dX5_smallest_70 (fun H locs hP hD hS => ?_)
      obtain ⟨f_725, ef_725⟩ : ∃ g, g = upd kg (x_724 : Int32).toNatClampNeg x := ⟨_, rfl⟩
      rw [← ef_725] at hP hD
      have hP : va_P (dC, dI) vwCl [(ma 0, .inr (5, [.int 0, .ref (ma 1), .int 0, .ref (ma 2), .int 150, .int 3, .int 0, .int ki, .ref (ma 3), .ref (ma 4), .ref (ma 5), .ref (ma 6), .int kc, .int 0, .ref (ma 7), .int 0, .ref (ma 8), .int (-1), .ref (ma 9), .ref (ma 10), .ref (ma 11), .ref (ma 12), .ref (ma 13), .int 0, .int 0])), (ma 2, .inl (cI, 150, .inl kt)), (qa, .inl (cI, 151, .inl f_725))] H := hP
      have hD : va_D A [(ma 0, .inr (5, [.int 0, .ref (ma 1), .int 0, .ref (ma 2), .int 150, .int 3, .int 0, .int ki, .ref (ma 3), .ref (ma 4), .ref (ma 5), .ref (ma 6), .int kc, .int 0, .ref (ma 7), .int 0, .ref (ma 8), .int (-1), .ref (ma 9), .ref (ma 10), .ref (ma 11), .ref (ma 12), .ref (ma 13), .int 0, .int 0])), (ma 2, .inl (cI, 150, .inl kt)), (qa, .inl (cI, 151, .inl f_725))] := hD
      refine lv_goto (tgt := 55) hx hb dX5_smallest_71 (by decide) ?_
      exact ih (tn + 1) x_724 f_725 H locs ls (by omega) (by rw [ex_724, hy1]; exact nI_1 tn) (by omega) (hP.sub [0, 1, 2] rfl) (hD.sub [0, 1, 2] (by decide) rfl) hS (lv_sub hl [0, 1, 2, 3, 4, 5, 6] rfl)
set_option maxHeartbeats 4000000 in
set_option maxRecDepth 100000 in
theorem lo_sm1b {p : Program} {l : Launch} {e : Env} {s : State} {m : MethodId} {args : Array Value} {below : List Frame} {meth : Method} {c : Code} {Q : State → Prop} {A : Nat → Prop} (dC : Nat → ClassId) (dI : Nat → Nat → Nat) (cI : ClassId) (ma : Nat → Nat) (kt : Nat → Int32) (ka : Nat) (ki : Int32) (kc : Int32) (qa : Nat) (h2 : ka < 150) (hx : p.tables.exec = Jvm.exec) (hb : c.code = cX5_smallest) (hml : c.maxLocals = 7) (hown : s.vm.findClass RX5 = some m.cls) (hts : ∀ w ∈ wsX5_smallest, w.before args s = true) (hA : ∀ q : Nat, s.heap.size ≤ q → A q) (hK : va_K (dC, dI) vwCl [(cI, .int)] s)
    (kk : ∀ (k : Nat) (tn : Nat) (x : Int32) (y : Int32) (kg : Nat → Int32) (H : Heap) (locs : List Loc) (ls : Array Slot), va_P (dC, dI) vwCl [(ma 0, .inr (5, [.int 0, .ref (ma 1), .int 0, .ref (ma 2), .int 150, .int 3, .int 0, .int ki, .ref (ma 3), .ref (ma 4), .ref (ma 5), .ref (ma 6), .int kc, .int 0, .ref (ma 7), .int 0, .ref (ma 8), .int (-1), .ref (ma 9), .ref (ma 10), .ref (ma 11), .ref (ma 12), .ref (ma 13), .int 0, .int 0])), (ma 2, .inl (cI, 150, .inl kt)), (qa, .inl (cI, 151, .inl kg))] H → va_D A [(ma 0, .inr (5, [.int 0, .ref (ma 1), .int 0, .ref (ma 2), .int 150, .int 3, .int 0, .int ki, .ref (ma 3), .ref (ma 4), .ref (ma 5), .ref (ma 6), .int kc, .int 0, .ref (ma 7), .int 0, .ref (ma 8), .int (-1), .ref (ma 9), .ref (ma 10), .ref (ma 11), .ref (ma 12), .ref (ma 13), .int 0, .int 0])), (ma 2, .inl (cI, 150, .inl kt)), (qa, .inl (cI, 151, .inl kg))] → va_S A s.heap H locs → lv_has ls 7 [(5, .int x), (4, .int y), (3, .ref qa), (2, .int 1), (1, .int (nI ka)), (0, .ref (ma 0))] → W p l e (headSpec wsX5_smallest ({ frames := 1, cells := 1, slots := 151, locals := 24 })).room s m args below meth c H locs 1 151 Q (F0 m 80 ls []))
    : ∀ (j : Nat) (k : Nat) (tn : Nat) (x : Int32) (y : Int32) (kg : Nat → Int32) (H : Heap) (locs : List Loc) (ls : Array Slot), ka - k < j → (x = nI k) → (k ≤ ka) → (y = nI tn) → (tn ≤ 150) → va_P (dC, dI) vwCl [(ma 0, .inr (5, [.int 0, .ref (ma 1), .int 0, .ref (ma 2), .int 150, .int 3, .int 0, .int ki, .ref (ma 3), .ref (ma 4), .ref (ma 5), .ref (ma 6), .int kc, .int 0, .ref (ma 7), .int 0, .ref (ma 8), .int (-1), .ref (ma 9), .ref (ma 10), .ref (ma 11), .ref (ma 12), .ref (ma 13), .int 0, .int 0])), (ma 2, .inl (cI, 150, .inl kt)), (qa, .inl (cI, 151, .inl kg))] H → va_D A [(ma 0, .inr (5, [.int 0, .ref (ma 1), .int 0, .ref (ma 2), .int 150, .int 3, .int 0, .int ki, .ref (ma 3), .ref (ma 4), .ref (ma 5), .ref (ma 6), .int kc, .int 0, .ref (ma 7), .int 0, .ref (ma 8), .int (-1), .ref (ma 9), .ref (ma 10), .ref (ma 11), .ref (ma 12), .ref (ma 13), .int 0, .int 0])), (ma 2, .inl (cI, 150, .inl kt)), (qa, .inl (cI, 151, .inl kg))] → va_S A s.heap H locs → lv_has ls 7 [(5, .int x), (4, .int y), (3, .ref qa), (2, .int 1), (1, .int (nI ka)), (0, .ref (ma 0))] → W p l e (headSpec wsX5_smallest ({ frames := 1, cells := 1, slots := 151, locals := 24 })).room s m args below meth c H locs 1 151 Q (F0 m 34 ls []) := by
  intro j
  induction j with
  | zero => intro k tn x y kg H locs ls hj; omega
  | succ j ih =>
    intro k tn x y kg H locs ls hj hx1 hk hy1 hbt hP hD hS hl
    refine lv_iload hx hb dX5_smallest_34 (lv_at hl 0 rfl) ?_
    refine lv_aload_n hx hb dX5_smallest_36 rfl (lv_at hl 5 rfl) ?_
    refine lv_iload_n hx hb dX5_smallest_37 rfl (lv_at hl 4 rfl) ?_
    refine lv_iload_n hx hb dX5_smallest_38 rfl (lv_at hl 3 rfl) ?_
    have hPc := hP.sub (ws' := [(ma 0, .inr (5, [.int 0, .ref (ma 1), .int 0, .ref (ma 2), .int 150, .int 3, .int 0, .int ki, .ref (ma 3), .ref (ma 4), .ref (ma 5), .ref (ma 6), .int kc, .int 0, .ref (ma 7), .int 0, .ref (ma 8), .int (-1), .ref (ma 9), .ref (ma 10), .ref (ma 11), .ref (ma 12), .ref (ma 13), .int 0, .int 0]))]) [0] rfl
    have hFc : ∀ q : Nat, H.size ≤ q → A q := fun q h => hA q (Nat.le_trans hS.1 h)
    have hKc := hK.sub (tys' := []) [] rfl
    refine va_calli (va_runV (As := [.int (nI ka), .int 1]) (rest := [.int x]) ⟨hx, hb, hml, hown, hts⟩ (k_places1 l dC dI ma (nI ka) ki kc H.size) (cwV 2 hts gX5_smallest_X5_places rfl rfl rfl (by decide +kernel) ⟨Nat.le_of_ble_eq_true rfl, Nat.le_of_ble_eq_true rfl⟩) ⟨fun a U g mk q => by obtain ⟨q0, q1, qP, qK, qD⟩ := q; exact ⟨q0, q1, qP, va_K.moved (u := U) (U := U.calling g mk a) (Vm.Alike.refl U.vm) qK, qD⟩, va_recv hKc hPc (ci := 5) (q0 := 0) rfl rfl, fun U hU hW => ⟨rfl, by rw [hU], by rw [hU]; exact hPc, va_K.moved hW.alike hKc, zz_D (hD.sub (ws' := [(ma 0, .inr (5, [.int 0, .ref (ma 1), .int 0, .ref (ma 2), .int 150, .int 3, .int 0, .int ki, .ref (ma 3), .ref (ma 4), .ref (ma 5), .ref (ma 6), .int kc, .int 0, .ref (ma 7), .int 0, .ref (ma 8), .int (-1), .ref (ma 9), .ref (ma 10), .ref (ma 11), .ref (ma 12), .ref (ma 13), .int 0, .int 0]))]) [0] (by decide) rfl)⟩⟩ rfl rfl hl.1 rfl (lv_room (Nat.le_of_ble_eq_true rfl)) dX5_smallest_39 ⟨(Nat.le_of_ble_eq_true rfl), (Nat.le_of_ble_eq_true rfl)⟩) hS (fun q h1 h2 => absurd h1 (Nat.not_lt.mpr h2)) hFc (fun r_726 u_727 t H1 locs ht hvm hw hB hz1 hk1 hS1 => ?_)
    have hP := zz_keep hP hk1
    have hS := hS1
    clear hS1
    generalize H1 = H at hP hS ht ⊢
    have hP : va_P (dC, dI) vwCl [(ma 0, .inr (5, [.int 0, .ref (ma 1), .int 0, .ref (ma 2), .int 150, .int 3, .int 0, .int ki, .ref (ma 3), .ref (ma 4), .ref (ma 5), .ref (ma 6), .int kc, .int 0, .ref (ma 7), .int 0, .ref (ma 8), .int (-1), .ref (ma 9), .ref (ma 10), .ref (ma 11), .ref (ma 12), .ref (ma 13), .int 0, .int 0])), (ma 2, .inl (cI, 150, .inl kt)), (qa, .inl (cI, 151, .inl kg))] H := hP
    obtain rfl : nI ka = r_726 := (show r_726 = nI ka from hw).symm
    refine lv_icmp_ge (tgt := 80) hx hb dX5_smallest_42 (by decide) (fun c42 => ?_) (fun c42 => ?_)
    · skip
      exact kk k tn x y kg H locs ls  (hP.sub [0, 1, 2] rfl) (hD.sub [0, 1, 2] (by decide) rfl) hS (lv_sub hl [0, 1, 2, 3, 4, 5] rfl)
    · skip
      have hlt : k < ka := Nat.lt_of_not_le (fun q => c42 (by rw [hx1]; exact nI_le q (by omega)))
      subst hx1
      have hx1 : nI k = nI k := rfl
      refine lv_aload_n hx hb dX5_smallest_45 rfl (lv_at hl 5 rfl) ?_
      refine lv_iload_n hx hb dX5_smallest_46 rfl (lv_at hl 4 rfl) ?_
      refine lv_iload_n hx hb dX5_smallest_47 rfl (lv_at hl 3 rfl) ?_
      refine lv_iload hx hb dX5_smallest_48 (lv_at hl 0 rfl) ?_
      have hPc := hP.sub (ws' := [(ma 0, .inr (5, [.int 0, .ref (ma 1), .int 0, .ref (ma 2), .int 150, .int 3, .int 0, .int ki, .ref (ma 3), .ref (ma 4), .ref (ma 5), .ref (ma 6), .int kc, .int 0, .ref (ma 7), .int 0, .ref (ma 8), .int (-1), .ref (ma 9), .ref (ma 10), .ref (ma 11), .ref (ma 12), .ref (ma 13), .int 0, .int 0])), (ma 2, .inl (cI, 150, .inl kt))]) [0, 1] rfl
      have hFc : ∀ q : Nat, H.size ≤ q → A q := fun q h => hA q (Nat.le_trans hS.1 h)
      have hKc := hK.sub (tys' := [(cI, .int)]) [0] rfl
      refine va_calli (va_runV (As := [.int (nI ka), .int 1, .int (nI k)]) (rest := []) ⟨hx, hb, hml, hown, hts⟩ (k_common l dC dI cI ma kt ka k ki kc H.size hlt h2) (cwV 3 hts gX5_smallest_X5_common rfl rfl rfl (by decide +kernel) ⟨Nat.le_of_ble_eq_true rfl, Nat.le_of_ble_eq_true rfl⟩) ⟨fun a U g mk q => by obtain ⟨q0, q1, qP, qK, qD⟩ := q; exact ⟨q0, q1, qP, va_K.moved (u := U) (U := U.calling g mk a) (Vm.Alike.refl U.vm) qK, qD⟩, va_recv hKc hPc (ci := 5) (q0 := 0) rfl rfl, fun U hU hW => ⟨rfl, by rw [hU], by rw [hU]; exact hPc, va_K.moved hW.alike hKc, zz_D (hD.sub (ws' := [(ma 0, .inr (5, [.int 0, .ref (ma 1), .int 0, .ref (ma 2), .int 150, .int 3, .int 0, .int ki, .ref (ma 3), .ref (ma 4), .ref (ma 5), .ref (ma 6), .int kc, .int 0, .ref (ma 7), .int 0, .ref (ma 8), .int (-1), .ref (ma 9), .ref (ma 10), .ref (ma 11), .ref (ma 12), .ref (ma 13), .int 0, .int 0])), (ma 2, .inl (cI, 150, .inl kt))]) [0, 1] (by decide) rfl)⟩⟩ rfl rfl hl.1 rfl (lv_room (Nat.le_of_ble_eq_true rfl)) dX5_smallest_50 ⟨(Nat.le_of_ble_eq_true rfl), (Nat.le_of_ble_eq_true rfl)⟩) hS (fun q h1 h2 => absurd h1 (Nat.not_lt.mpr h2)) hFc (fun r_728 u_729 t H1 locs ht hvm hw hB hz1 hk1 hS1 => ?_)
      have hP := zz_keep hP hk1
      have hS := hS1
      clear hS1
      generalize H1 = H at hP hS ht ⊢
      have hP : va_P (dC, dI) vwCl [(ma 0, .inr (5, [.int 0, .ref (ma 1), .int 0, .ref (ma 2), .int 150, .int 3, .int 0, .int ki, .ref (ma 3), .ref (ma 4), .ref (ma 5), .ref (ma 6), .int kc, .int 0, .ref (ma 7), .int 0, .ref (ma 8), .int (-1), .ref (ma 9), .ref (ma 10), .ref (ma 11), .ref (ma 12), .ref (ma 13), .int 0, .int 0])), (ma 2, .inl (cI, 150, .inl kt)), (qa, .inl (cI, 151, .inl kg))] H := hP
      have w50 := hw
      obtain ⟨jn, hjn, hrj⟩ := w50
      obtain rfl : nI jn = r_728 := hrj.symm
      refine lv_istore (lv' := [(6, .int (nI jn)), (5, .int (nI k)), (4, .int y), (3, .ref qa), (2, .int 1), (1, .int (nI ka)), (0, .ref (ma 0))]) hx hb dX5_smallest_53 hl (by decide) rfl (fun ls hl => ?_)
      refine W.widen (k := 1) (n := 151) (by omega) (by omega) ?_
      refine lo_sm1c dC dI cI ma kt ka ki kc qa jn (nI k) (by omega) hx hb hml hown hts hA hK ?_ 152 tn y kg _ _ ls (by omega) hy1 hbt (hP.sub [0, 1, 2] rfl) (hD.sub [0, 1, 2] (by decide) rfl) hS (lv_sub hl [2, 0, 1, 3, 4, 5, 6] rfl)
      intro t9 y9 kg9 H locs ls hy9 hbt9 hP hD hS hl
      obtain ⟨x_730, ex_730⟩ : ∃ y : Int32, y = nI k + 1 := ⟨_, rfl⟩
      refine lv_iinc (v := x_730) (lv' := [(5, .int x_730), (4, .int y9), (6, .int (nI jn)), (3, .ref qa), (2, .int 1), (1, .int (nI ka)), (0, .ref (ma 0))]) hx hb dX5_smallest_74 hl (k := 2) rfl (by rw [ex_730]; rfl) (by decide) rfl (fun ls hl => ?_)
      refine lv_goto (tgt := 34) hx hb dX5_smallest_77 (by decide) ?_
      exact ih (k + 1) t9 x_730 y9 kg9 H locs ls (by omega) (by rw [ex_730, hx1]; exact nI_1 k) (by omega) hy9 hbt9 (hP.sub [0, 1, 2] rfl) (hD.sub [0, 1, 2] (by decide) rfl) hS (lv_sub hl [0, 1, 3, 4, 5, 6] rfl)
set_option maxHeartbeats 4000000 in
set_option maxRecDepth 100000 in
theorem k_small1 (l : Launch) (dC : Nat → ClassId) (dI : Nat → Nat → Nat) (cI : ClassId) (ma : Nat → Nat) (kt : Nat → Int32) (ka : Nat) (ki : Int32) (kc : Int32) (sz : Nat) (h2 : ka < 150) : Met l yX5_smallest wsX5_smallest ({ frames := 1, cells := 1, slots := 151, locals := 24 }) (va_Pc [.ref (ma 0), .int (nI ka), .int 1] (fun U => U.heap.size = sz ∧ va_P (dC, dI) vwCl [(ma 0, .inr (5, [.int 0, .ref (ma 1), .int 0, .ref (ma 2), .int 150, .int 3, .int 0, .int ki, .ref (ma 3), .ref (ma 4), .ref (ma 5), .ref (ma 6), .int kc, .int 0, .ref (ma 7), .int 0, .ref (ma 8), .int (-1), .ref (ma 9), .ref (ma 10), .ref (ma 11), .ref (ma 12), .ref (ma 13), .int 0, .int 0])), (ma 2, .inl (cI, 150, .inl kt))] U.heap ∧ va_K (dC, dI) vwCl [(cI, .int)] U ∧ va_D (fun _ => True) [(ma 0, .inr (5, [.int 0, .ref (ma 1), .int 0, .ref (ma 2), .int 150, .int 3, .int 0, .int ki, .ref (ma 3), .ref (ma 4), .ref (ma 5), .ref (ma 6), .int kc, .int 0, .ref (ma 7), .int 0, .ref (ma 8), .int (-1), .ref (ma 9), .ref (ma 10), .ref (ma 11), .ref (ma 12), .ref (ma 13), .int 0, .int 0])), (ma 2, .inl (cI, 150, .inl kt))])) (va_Qr (fun kg : Nat → Int32 => True) (fun kg ra9 t => va_P (dC, dI) vwCl [(ma 0, .inr (5, [.int 0, .ref (ma 1), .int 0, .ref (ma 2), .int 150, .int 3, .int 0, .int ki, .ref (ma 3), .ref (ma 4), .ref (ma 5), .ref (ma 6), .int kc, .int 0, .ref (ma 7), .int 0, .ref (ma 8), .int (-1), .ref (ma 9), .ref (ma 10), .ref (ma 11), .ref (ma 12), .ref (ma 13), .int 0, .int 0])), (ma 2, .inl (cI, 150, .inl kt)), (ra9, .inl (cI, 151, .inl kg))] t.heap ∧ va_D (va_A [(ma 0, .inr (5, [.int 0, .ref (ma 1), .int 0, .ref (ma 2), .int 150, .int 3, .int 0, .int ki, .ref (ma 3), .ref (ma 4), .ref (ma 5), .ref (ma 6), .int kc, .int 0, .ref (ma 7), .int 0, .ref (ma 8), .int (-1), .ref (ma 9), .ref (ma 10), .ref (ma 11), .ref (ma 12), .ref (ma 13), .int 0, .int 0])), (ma 2, .inl (cI, 150, .inl kt))] sz) [(ma 0, .inr (5, [.int 0, .ref (ma 1), .int 0, .ref (ma 2), .int 150, .int 3, .int 0, .int ki, .ref (ma 3), .ref (ma 4), .ref (ma 5), .ref (ma 6), .int kc, .int 0, .ref (ma 7), .int 0, .ref (ma 8), .int (-1), .ref (ma 9), .ref (ma 10), .ref (ma 11), .ref (ma 12), .ref (ma 13), .int 0, .int 0])), (ma 2, .inl (cI, 150, .inl kt)), (ra9, .inl (cI, 151, .inl kg))]) (va_A [(ma 0, .inr (5, [.int 0, .ref (ma 1), .int 0, .ref (ma 2), .int 150, .int 3, .int 0, .int ki, .ref (ma 3), .ref (ma 4), .ref (ma 5), .ref (ma 6), .int kc, .int 0, .ref (ma 7), .int 0, .ref (ma 8), .int (-1), .ref (ma 9), .ref (ma 10), .ref (ma 11), .ref (ma 12), .ref (ma 13), .int 0, .int 0])), (ma 2, .inl (cI, 150, .inl kt))] sz)) 1 151 (va_A [(ma 0, .inr (5, [.int 0, .ref (ma 1), .int 0, .ref (ma 2), .int 150, .int 3, .int 0, .int ki, .ref (ma 3), .ref (ma 4), .ref (ma 5), .ref (ma 6), .int kc, .int 0, .ref (ma 7), .int 0, .ref (ma 8), .int (-1), .ref (ma 9), .ref (ma 10), .ref (ma 11), .ref (ma 12), .ref (ma 13), .int 0, .int 0])), (ma 2, .inl (cI, 150, .inl kt))] sz) := by
  refine Met.ofW (cc := cX5_smallest) (maxL := 7) (ret := (some (.array .int))) (by decide) rfl ?_
  intro p e s m args below meth c s₁ B hml hv
  obtain ⟨rfl, hsz, hP, hK, hD0⟩ := hv
  have hx := B.exec
  have hb := B.bytes
  have hr := B.returns
  have hts := atoms_spec (ws := wsX5_smallest) B.pre
  have hown : s.vm.findClass RX5 = some m.cls := findClass_of_methodNamed B.named
  have hlocks := B.notSynchronized
  subst hsz
  have hD := hD0.self (sz := s.heap.size)
  generalize hAe : va_A [(ma 0, .inr (5, [.int 0, .ref (ma 1), .int 0, .ref (ma 2), .int 150, .int 3, .int 0, .int ki, .ref (ma 3), .ref (ma 4), .ref (ma 5), .ref (ma 6), .int kc, .int 0, .ref (ma 7), .int 0, .ref (ma 8), .int (-1), .ref (ma 9), .ref (ma 10), .ref (ma 11), .ref (ma 12), .ref (ma 13), .int 0, .int 0])), (ma 2, .inl (cI, 150, .inl kt))] s.heap.size = A at hD ⊢
  have hA : ∀ q : Nat, s.heap.size ≤ q → A q := fun q h => by rw [← hAe]; exact Or.inr h
  have hS : va_S A s.heap s.heap [] := va_S.rf
  have hP : va_P (dC, dI) vwCl [(ma 0, .inr (5, [.int 0, .ref (ma 1), .int 0, .ref (ma 2), .int 150, .int 3, .int 0, .int ki, .ref (ma 3), .ref (ma 4), .ref (ma 5), .ref (ma 6), .int kc, .int 0, .ref (ma 7), .int 0, .ref (ma 8), .int (-1), .ref (ma 9), .ref (ma 10), .ref (ma 11), .ref (ma 12), .ref (ma 13), .int 0, .int 0])), (ma 2, .inl (cI, 150, .inl kt))] s.heap := hP
  have hl := lv_entry ([.ref (ma 0), .int (nI ka), .int 1]) (n := 7) (Nat.le_of_ble_eq_true rfl)
  rw [lg_entry_eq]
  generalize (lg_sl ([.ref (ma 0), .int (nI ka), .int 1]) ++ List.replicate (7 - (lg_sl ([.ref (ma 0), .int (nI ka), .int 1])).length) Slot.unset).toArray = ls at hl ⊢
  have hl : lv_has ls 7 [(0, .ref (ma 0)), (1, .int (nI ka)), (2, .int 1)] := hl
  refine lv_sipush (v := 151) hx hb dX5_smallest_0 (by decide) ?_
  refine va_newa (atype := .int) (ty := .int) (N' := 151) (a0 := (151, .inl (fun _ => 0))) hx hb (hts (.arrayClass .int) (by decide +kernel)) rfl hK hP hD hS hA (fun _ => rfl) (by decide) (by decide) (by decide) (Nat.le_of_ble_eq_true rfl) (Nat.le_of_ble_eq_true rfl) dX5_smallest_3 (fun q_731 cA H hK hP hD hS => ?_)
  obtain rfl : cI = cA := (zz_same hK 0 1 rfl rfl).symm
  have hK := hK.sub (tys' := [(cI, .int)]) [0] rfl
  have hP : va_P (dC, dI) vwCl [(ma 0, .inr (5, [.int 0, .ref (ma 1), .int 0, .ref (ma 2), .int 150, .int 3, .int 0, .int ki, .ref (ma 3), .ref (ma 4), .ref (ma 5), .ref (ma 6), .int kc, .int 0, .ref (ma 7), .int 0, .ref (ma 8), .int (-1), .ref (ma 9), .ref (ma 10), .ref (ma 11), .ref (ma 12), .ref (ma 13), .int 0, .int 0])), (ma 2, .inl (cI, 150, .inl kt)), (q_731, .inl (cI, 151, .inl (fun _ => 0)))] H := hP
  have hD : va_D A [(ma 0, .inr (5, [.int 0, .ref (ma 1), .int 0, .ref (ma 2), .int 150, .int 3, .int 0, .int ki, .ref (ma 3), .ref (ma 4), .ref (ma 5), .ref (ma 6), .int kc, .int 0, .ref (ma 7), .int 0, .ref (ma 8), .int (-1), .ref (ma 9), .ref (ma 10), .ref (ma 11), .ref (ma 12), .ref (ma 13), .int 0, .int 0])), (ma 2, .inl (cI, 150, .inl kt)), (q_731, .inl (cI, 151, .inl (fun _ => 0)))] := hD
  refine W.widen (k := 1) (n := 151) (by omega) (by omega) ?_
  refine lv_astore_n (lv' := [(3, .ref q_731), (0, .ref (ma 0)), (1, .int (nI ka)), (2, .int 1)]) hx hb dX5_smallest_5 rfl hl (by decide) rfl (fun ls hl => ?_)
  refine lv_iconst (v := 0) hx hb dX5_smallest_6 (by decide) ?_
  refine lv_istore (lv' := [(4, .int 0), (3, .ref q_731), (0, .ref (ma 0)), (1, .int (nI ka)), (2, .int 1)]) hx hb dX5_smallest_7 hl (by decide) rfl (fun ls hl => ?_)
  refine lo_sm1a dC dI cI ma kt ka ki kc q_731 hx hb hml hown hts hA hK ?_ 152 0 0 (fun _ => 0) _ _ ls (by omega) nI_0.symm (by omega) (hP.sub [0, 1, 2] rfl) (hD.sub [0, 1, 2] (by decide) rfl) hS (lv_sub hl [0, 1, 4, 3, 2] rfl)
  intro k x kg H locs ls hP hD hS hl
  refine lv_iconst (v := 0) hx hb dX5_smallest_28 (by decide) ?_
  refine lv_istore (lv' := [(4, .int 0), (3, .ref q_731), (2, .int 1), (1, .int (nI ka)), (0, .ref (ma 0))]) hx hb dX5_smallest_29 hl (by decide) rfl (fun ls hl => ?_)
  refine lv_iconst (v := 0) hx hb dX5_smallest_31 (by decide) ?_
  refine lv_istore (lv' := [(5, .int 0), (4, .int 0), (3, .ref q_731), (2, .int 1), (1, .int (nI ka)), (0, .ref (ma 0))]) hx hb dX5_smallest_32 hl (by decide) rfl (fun ls hl => ?_)
  refine lo_sm1b dC dI cI ma kt ka ki kc q_731 h2 hx hb hml hown hts hA hK ?_ 151 0 0 0 0 kg _ _ ls (by omega) nI_0.symm (by omega) nI_0.symm (by omega) (hP.sub [0, 1, 2] rfl) (hD.sub [0, 1, 2] (by decide) rfl) hS (lv_sub hl [0, 1, 2, 3, 4, 5] rfl)
  intro k tn x y kg H locs ls hP hD hS hl
  refine lv_aload_n hx hb dX5_smallest_80 rfl (lv_at hl 2 rfl) ?_
  have hP9 := hP.sub (ws' := [(ma 0, .inr (5, [.int 0, .ref (ma 1), .int 0, .ref (ma 2), .int 150, .int 3, .int 0, .int ki, .ref (ma 3), .ref (ma 4), .ref (ma 5), .ref (ma 6), .int kc, .int 0, .ref (ma 7), .int 0, .ref (ma 8), .int (-1), .ref (ma 9), .ref (ma 10), .ref (ma 11), .ref (ma 12), .ref (ma 13), .int 0, .int 0])), (ma 2, .inl (cI, 150, .inl kt)), (q_731, .inl (cI, 151, .inl kg))]) [0, 1, 2] rfl
  have hD9 := hD.sub (ws' := [(ma 0, .inr (5, [.int 0, .ref (ma 1), .int 0, .ref (ma 2), .int 150, .int 3, .int 0, .int ki, .ref (ma 3), .ref (ma 4), .ref (ma 5), .ref (ma 6), .int kc, .int 0, .ref (ma 7), .int 0, .ref (ma 8), .int (-1), .ref (ma 9), .ref (ma 10), .ref (ma 11), .ref (ma 12), .ref (ma 13), .int 0, .int 0])), (ma 2, .inl (cI, 150, .inl kt)), (q_731, .inl (cI, 151, .inl kg))]) [0, 1, 2] (by decide) rfl
  exact W.aret (v := .ref q_731) hx hb hr (Or.inr ⟨_, rfl⟩) (Or.inr ⟨_, rfl⟩) (fun t ht hW => ⟨⟨kg, q_731, rfl, trivial, ⟨by rw [ht]; exact hP9, hD9⟩⟩, hS.F ht⟩) hS.2.2 dX5_smallest_81
