set_option maxHeartbeats 4000000 in
set_option maxRecDepth 100000 in
theorem c_X4_needSide (l : Launch) (hfl : l.stackTraces = false) (dC : Nat → ClassId) (dI : Nat → Nat → Nat) (p0 : Int32) (sz : Nat) : vx_Met l yX4_needSide wsX4_needSide ({ frames := 6, cells := 1, slots := 6, locals := 90 }) (va_Pc [.int p0] (fun U => U.heap.size = sz ∧ va_P (dC, dI) vwCl [] U.heap ∧ va_K (dC, dI) vwCl [] U ∧ va_D (fun _ => True) [] ∧ zz_X (fun q : Nat => sz ≤ q) U)) (va_Qv (fun _ : Unit => p0 = 0 ∨ p0 = 1) (fun _ _ => True) (fun q : Nat => sz ≤ q)) (vx_X (fun _ : Unit => True) (fun E _ _ => E = "java/lang/IndexOutOfBoundsException" ∧ ¬ (p0 = 0 ∨ p0 = 1)) (fun q : Nat => sz ≤ q)) 1 6 (fun q : Nat => sz ≤ q) := by
  refine vx_ofW (cc := cX4_needSide) (maxL := 1) (ret := none) (by decide) rfl ?_
  intro p e s m args below meth c s₁ B hml hno hv
  obtain ⟨rfl, hsz, hP, hK, hD0, hZ⟩ := hv
  have hx := B.exec
  have hb := B.bytes
  have hr := B.returns
  have hts := atoms_spec (ws := wsX4_needSide) B.pre
  have hown : s.vm.findClass RX4 = some m.cls := findClass_of_methodNamed B.named
  have hlocks := B.notSynchronized
  subst hsz
  generalize hAe : (fun q : Nat => s.heap.size ≤ q) = A at hZ ⊢
  have hA : ∀ q : Nat, s.heap.size ≤ q → A q := fun q h => by rw [← hAe]; exact h
  have hS : va_S A s.heap s.heap [] := va_S.rf
  have hP : va_P (dC, dI) vwCl [] s.heap := hP
  have hl := lv_entry ([.int p0]) (n := 1) (Nat.le_of_ble_eq_true rfl)
  rw [lg_entry_eq]
  generalize (lg_sl ([.int p0]) ++ List.replicate (1 - (lg_sl ([.int p0])).length) Slot.unset).toArray = ls at hl ⊢
  have hl : lv_has ls 1 [(0, .int p0)] := hl
  refine lv_iload_n hx hb dX4_needSide_0 rfl (lv_at hl 0 rfl) ?_
  refine lv_if_eq (tgt := 19) hx hb dX4_needSide_1 (by decide) (fun c1 => ?_) (fun c1 => ?_)
  · skip
    refine vx_ret ?_
    refine W.widen (k := 1) (n := 6) (by omega) (by omega) ?_
    exact W.vret hx hb hr (fun t ht hW => ⟨⟨(), rfl, (by first | exact Or.inl c1 | exact Or.inr c6), trivial⟩, hS.F ht⟩) hS.2.2 dX4_needSide_19
  · skip
    refine lv_iload_n hx hb dX4_needSide_4 rfl (lv_at hl 0 rfl) ?_
    refine lv_iconst (v := 1) hx hb dX4_needSide_5 (by decide) ?_
    refine lv_icmp_eq (tgt := 19) hx hb dX4_needSide_6 (by decide) (fun c6 => ?_) (fun c6 => ?_)
    · skip
      refine vx_ret ?_
      refine W.widen (k := 1) (n := 6) (by omega) (by omega) ?_
      exact W.vret hx hb hr (fun t ht hW => ⟨⟨(), rfl, (by first | exact Or.inl c1 | exact Or.inr c6), trivial⟩, hS.F ht⟩) hS.2.2 dX4_needSide_19
    · skip
      obtain ⟨sa, hsa⟩ := hZ.2.2.1 (185, "no such side") (List.mem_of_getElem? (i := 2) rfl)
      exact vx_throwS (names := ["java/lang/RuntimeException", "java/lang/Exception"]) hx hb hfl hown (by decide +kernel) (by decide +kernel) (hts (.classLink RX4 94 "java/lang/IndexOutOfBoundsException") (by decide +kernel)) (hts (.initialized "java/lang/IndexOutOfBoundsException") (by decide +kernel)) hsa (vx_hat (B := zz_B "java/lang/IndexOutOfBoundsException") (fun w h => hts w (List.mem_cons_of_mem _ (List.mem_append_right _ h))) (by decide +kernel) (hZ.words 0 rfl)) (by decide +kernel) hZ.1 hZ.2.1 hS (hl.1.trans hml.symm) dX4_needSide_9 dX4_needSide_12 dX4_needSide_13 dX4_needSide_15 dX4_needSide_18 (fun x h => (hno x h).elim) (Nat.le_of_ble_eq_true rfl) (Nat.le_of_ble_eq_true rfl) (Nat.le_of_ble_eq_true rfl) (Nat.le_of_ble_eq_true rfl) hlocks (fun t _ hz hk => ⟨(), trivial, ⟨rfl, fun h => h.elim c1 c6⟩, ⟨Nat.le_trans hS.1 hz, fun q h1 h2 => (hk q (Nat.lt_of_lt_of_le h1 hS.1)).trans (hS.2.1 q h1 h2)⟩⟩) hS.2.2 (Nat.le_of_ble_eq_true rfl) (Nat.le_of_ble_eq_true rfl)
set_option maxHeartbeats 4000000 in
set_option maxRecDepth 100000 in
theorem c_X4_needWithin (l : Launch) (hfl : l.stackTraces = false) (dC : Nat → ClassId) (dI : Nat → Nat → Nat) (p0 : Int32) (p1 : Int32) (p2 : Int32) (sz : Nat) : vx_Met l yX4_needWithin wsX4_needWithin ({ frames := 6, cells := 1, slots := 6, locals := 90 }) (va_Pc [.int p0, .int p1, .int p2] (fun U => U.heap.size = sz ∧ va_P (dC, dI) vwCl [] U.heap ∧ va_K (dC, dI) vwCl [] U ∧ va_D (fun _ => True) [] ∧ zz_X (fun q : Nat => sz ≤ q) U)) (va_Qv (fun _ : Unit => p1 ≤ p0 ∧ p0 ≤ p2) (fun _ _ => True) (fun q : Nat => sz ≤ q)) (vx_X (fun _ : Unit => True) (fun E _ _ => E = "java/lang/IllegalArgumentException" ∧ ¬ (p1 ≤ p0 ∧ p0 ≤ p2)) (fun q : Nat => sz ≤ q)) 1 6 (fun q : Nat => sz ≤ q) := by
  refine vx_ofW (cc := cX4_needWithin) (maxL := 3) (ret := none) (by decide) rfl ?_
  intro p e s m args below meth c s₁ B hml hno hv
  obtain ⟨rfl, hsz, hP, hK, hD0, hZ⟩ := hv
  have hx := B.exec
  have hb := B.bytes
  have hr := B.returns
  have hts := atoms_spec (ws := wsX4_needWithin) B.pre
  have hown : s.vm.findClass RX4 = some m.cls := findClass_of_methodNamed B.named
  have hlocks := B.notSynchronized
  subst hsz
  generalize hAe : (fun q : Nat => s.heap.size ≤ q) = A at hZ ⊢
  have hA : ∀ q : Nat, s.heap.size ≤ q → A q := fun q h => by rw [← hAe]; exact h
  have hS : va_S A s.heap s.heap [] := va_S.rf
  have hP : va_P (dC, dI) vwCl [] s.heap := hP
  have hl := lv_entry ([.int p0, .int p1, .int p2]) (n := 3) (Nat.le_of_ble_eq_true rfl)
  rw [lg_entry_eq]
  generalize (lg_sl ([.int p0, .int p1, .int p2]) ++ List.replicate (3 - (lg_sl ([.int p0, .int p1, .int p2])).length) Slot.unset).toArray = ls at hl ⊢
  have hl : lv_has ls 3 [(0, .int p0), (1, .int p1), (2, .int p2)] := hl
  refine lv_iload_n hx hb dX4_needWithin_0 rfl (lv_at hl 0 rfl) ?_
  refine lv_iload_n hx hb dX4_needWithin_1 rfl (lv_at hl 1 rfl) ?_
  refine lv_icmp_lt (tgt := 10) hx hb dX4_needWithin_2 (by decide) (fun c2 => ?_) (fun c2 => ?_)
  · skip
    obtain ⟨sa, hsa⟩ := hZ.2.2.1 (189, "a value outside its range") (List.mem_of_getElem? (i := 3) rfl)
    exact vx_throwS (names := ["java/lang/RuntimeException", "java/lang/Exception"]) hx hb hfl hown (by decide +kernel) (by decide +kernel) (hts (.classLink RX4 187 "java/lang/IllegalArgumentException") (by decide +kernel)) (hts (.initialized "java/lang/IllegalArgumentException") (by decide +kernel)) hsa (vx_hat (B := zz_B "java/lang/IllegalArgumentException") (fun w h => hts w (List.mem_cons_of_mem _ (List.mem_append_right _ h))) (by decide +kernel) (hZ.words 1 rfl)) (by decide +kernel) hZ.1 hZ.2.1 hS (hl.1.trans hml.symm) dX4_needWithin_10 dX4_needWithin_13 dX4_needWithin_14 dX4_needWithin_16 dX4_needWithin_19 (fun x h => (hno x h).elim) (Nat.le_of_ble_eq_true rfl) (Nat.le_of_ble_eq_true rfl) (Nat.le_of_ble_eq_true rfl) (Nat.le_of_ble_eq_true rfl) hlocks (fun t _ hz hk => ⟨(), trivial, ⟨rfl, fun h => by first | exact absurd c2 (Int32.not_lt.mpr h.1) | exact c7 h.2⟩, ⟨Nat.le_trans hS.1 hz, fun q h1 h2 => (hk q (Nat.lt_of_lt_of_le h1 hS.1)).trans (hS.2.1 q h1 h2)⟩⟩) hS.2.2 (Nat.le_of_ble_eq_true rfl) (Nat.le_of_ble_eq_true rfl)
  · skip
    refine lv_iload_n hx hb dX4_needWithin_5 rfl (lv_at hl 0 rfl) ?_
    refine lv_iload_n hx hb dX4_needWithin_6 rfl (lv_at hl 2 rfl) ?_
    refine lv_icmp_le (tgt := 20) hx hb dX4_needWithin_7 (by decide) (fun c7 => ?_) (fun c7 => ?_)
    · skip
      refine vx_ret ?_
      refine W.widen (k := 1) (n := 6) (by omega) (by omega) ?_
      exact W.vret hx hb hr (fun t ht hW => ⟨⟨(), rfl, ⟨Int32.not_lt.mp c2, c7⟩, trivial⟩, hS.F ht⟩) hS.2.2 dX4_needWithin_20
    · skip
      obtain ⟨sa, hsa⟩ := hZ.2.2.1 (189, "a value outside its range") (List.mem_of_getElem? (i := 3) rfl)
      exact vx_throwS (names := ["java/lang/RuntimeException", "java/lang/Exception"]) hx hb hfl hown (by decide +kernel) (by decide +kernel) (hts (.classLink RX4 187 "java/lang/IllegalArgumentException") (by decide +kernel)) (hts (.initialized "java/lang/IllegalArgumentException") (by decide +kernel)) hsa (vx_hat (B := zz_B "java/lang/IllegalArgumentException") (fun w h => hts w (List.mem_cons_of_mem _ (List.mem_append_right _ h))) (by decide +kernel) (hZ.words 1 rfl)) (by decide +kernel) hZ.1 hZ.2.1 hS (hl.1.trans hml.symm) dX4_needWithin_10 dX4_needWithin_13 dX4_needWithin_14 dX4_needWithin_16 dX4_needWithin_19 (fun x h => (hno x h).elim) (Nat.le_of_ble_eq_true rfl) (Nat.le_of_ble_eq_true rfl) (Nat.le_of_ble_eq_true rfl) (Nat.le_of_ble_eq_true rfl) hlocks (fun t _ hz hk => ⟨(), trivial, ⟨rfl, fun h => by first | exact absurd c2 (Int32.not_lt.mpr h.1) | exact c7 h.2⟩, ⟨Nat.le_trans hS.1 hz, fun q h1 h2 => (hk q (Nat.lt_of_lt_of_le h1 hS.1)).trans (hS.2.1 q h1 h2)⟩⟩) hS.2.2 (Nat.le_of_ble_eq_true rfl) (Nat.le_of_ble_eq_true rfl)
set_option maxHeartbeats 4000000 in
set_option maxRecDepth 100000 in
theorem c_X4_needRoom (l : Launch) (dC : Nat → ClassId) (dI : Nat → Nat → Nat) (cI : ClassId) (h0 : Nat) (ka : Nat) (kn : Nat) (kf : Nat → Int32) (p0 : Int32) (sz : Nat) (hm : ¬ nI kn - 0 < p0) : Met l yX4_needRoom wsX4_needRoom ({ frames := 6, cells := 0, slots := 0, locals := 90 }) (va_Pc [.ref h0, .int p0] (fun U => U.heap.size = sz ∧ va_P (dC, dI) vwCl [(h0, .inr (3, [.ref ka, .int 0])), (ka, .inl (cI, kn, .inl kf))] U.heap ∧ va_K (dC, dI) vwCl [(cI, .int)] U ∧ va_D (fun _ => True) [(h0, .inr (3, [.ref ka, .int 0])), (ka, .inl (cI, kn, .inl kf))])) (va_Qv (fun _ : Unit => True) (fun _ _ => True) (fun q : Nat => sz ≤ q)) 0 0 (fun q : Nat => sz ≤ q) := by
  refine Met.ofW (cc := cX4_needRoom) (maxL := 2) (ret := none) (by decide) rfl ?_
  intro p e s m args below meth c s₁ B hml hv
  obtain ⟨rfl, hsz, hP, hK, hD0⟩ := hv
  have hx := B.exec
  have hb := B.bytes
  have hr := B.returns
  have hts := atoms_spec (ws := wsX4_needRoom) B.pre
  have hown : s.vm.findClass RX4 = some m.cls := findClass_of_methodNamed B.named
  have hlocks := B.notSynchronized
  subst hsz
  generalize hAe : (fun q : Nat => s.heap.size ≤ q) = A
  have hA : ∀ q : Nat, s.heap.size ≤ q → A q := fun q h => by rw [← hAe]; exact h
  have hS : va_S A s.heap s.heap [] := va_S.rf
  have hP : va_P (dC, dI) vwCl [(h0, .inr (3, [.ref ka, .int 0])), (ka, .inl (cI, kn, .inl kf))] s.heap := hP
  have hl := lv_entry ([.ref h0, .int p0]) (n := 2) (Nat.le_of_ble_eq_true rfl)
  rw [lg_entry_eq]
  generalize (lg_sl ([.ref h0, .int p0]) ++ List.replicate (2 - (lg_sl ([.ref h0, .int p0])).length) Slot.unset).toArray = ls at hl ⊢
  have hl : lv_has ls 2 [(0, .ref h0), (1, .int p0)] := hl
  refine lv_aload_n hx hb dX4_needRoom_0 rfl (lv_at hl 0 rfl) ?_
  refine lv_iload_n hx hb dX4_needRoom_1 rfl (lv_at hl 1 rfl) ?_
  have hPc := hP.sub (ws' := [(h0, .inr (3, [.ref ka, .int 0])), (ka, .inl (cI, kn, .inl kf))]) [0, 1] rfl
  have hFc : ∀ q : Nat, s.heap.size ≤ q → A q := fun q h => hA q (Nat.le_trans hS.1 h)
  have hKc := hK.sub (tys' := [(cI, .int)]) [0] rfl
  refine va_calli (va_runV (As := [.int p0]) (rest := []) ⟨hx, hb, hml, hown, hts⟩ (c_X3_hasRoom l dC dI cI h0 ka kn kf p0 s.heap.size hm) (cwV 1 hts gX4_needRoom_X3_hasRoom rfl rfl rfl (by decide +kernel) ⟨Nat.le_of_ble_eq_true rfl, Nat.le_of_ble_eq_true rfl⟩) ⟨fun a U g mk q => by obtain ⟨q0, q1, qP, qK, qD⟩ := q; exact ⟨q0, q1, qP, va_K.moved (u := U) (U := U.calling g mk a) (Vm.Alike.refl U.vm) qK, qD⟩, va_recv hKc hPc (ci := 3) (q0 := 0) rfl rfl, fun U hU hW => ⟨rfl, by rw [hU], by rw [hU]; exact hPc, va_K.moved hW.alike hKc, hD0.sub (ws' := [(h0, .inr (3, [.ref ka, .int 0])), (ka, .inl (cI, kn, .inl kf))]) [0, 1] (by decide) rfl⟩⟩ rfl rfl hl.1 rfl (lv_room (Nat.le_of_ble_eq_true rfl)) dX4_needRoom_2 ⟨(Nat.le_of_ble_eq_true rfl), (Nat.le_of_ble_eq_true rfl)⟩) hS (fun q h1 h2 => absurd h1 (Nat.not_lt.mpr h2)) hFc (fun r_58 u_59 t H1 locs ht hvm hw hB hz1 hk1 hS1 => ?_)
  have hP := zz_keep hP hk1
  have hS := hS1
  clear hS1
  generalize H1 = H at hP hS ht ⊢
  have hP : va_P (dC, dI) vwCl [(h0, .inr (3, [.ref ka, .int 0])), (ka, .inl (cI, kn, .inl kf))] H := hP
  obtain rfl : 1 = r_58 := (show r_58 = 1 from hw).symm
  refine lv_if_ne (tgt := 18) hx hb dX4_needRoom_5 (by decide) (fun c5 => ?_) (fun h => absurd h (by decide))
  exact W.vret hx hb hr (fun t ht hW => ⟨⟨(), rfl, trivial, trivial⟩, hS.F ht⟩) hS.2.2 dX4_needRoom_18
abbrev wx (cI : ClassId) (xa : Nat → Nat) : va_W := [(xa 0, .inr (4, [.ref (xa 1), .ref (xa 3), .ref (xa 5), .ref (xa 7), .ref (xa 16), .ref (xa 25), .int 3])), (xa 1, .inr (3, [.ref (xa 2), .int 0])), (xa 2, .inl (cI, 150, .inl (fun _ => 0))), (xa 3, .inr (3, [.ref (xa 4), .int 0])), (xa 4, .inl (cI, 150, .inl (fun _ => 0))), (xa 5, .inr (3, [.ref (xa 6), .int 0])), (xa 6, .inl (cI, 400, .inl (fun _ => 0))), (xa 7, .inr (1, [.ref (xa 8), .ref (xa 10), .ref (xa 12), .ref (xa 14), .int 0, .int 0])), (xa 8, .inr (3, [.ref (xa 9), .int 0])), (xa 9, .inl (cI, 150, .inl (fun _ => 0))), (xa 10, .inr (3, [.ref (xa 11), .int 0])), (xa 11, .inl (cI, 150, .inl (fun _ => 0))), (xa 12, .inr (3, [.ref (xa 13), .int 0])), (xa 13, .inl (cI, 150, .inl (fun _ => 0))), (xa 14, .inr (3, [.ref (xa 15), .int 0])), (xa 15, .inl (cI, 150, .inl (fun _ => 0))), (xa 16, .inr (2, [.ref (xa 17), .ref (xa 18), .ref (xa 19), .ref (xa 20), .ref (xa 21), .ref (xa 22), .ref (xa 23), .ref (xa 24)])), (xa 17, .inl (cI, 151, .inl (fun _ => 0))), (xa 18, .inl (cI, 151, .inl (fun _ => 0))), (xa 19, .inl (cI, 151, .inl (fun _ => 0))), (xa 20, .inl (cI, 151, .inl (fun _ => 0))), (xa 21, .inl (cI, 151, .inl (fun _ => 0))), (xa 22, .inl (cI, 151, .inl (fun _ => 0))), (xa 23, .inl (cI, 151, .inl (fun _ => 0))), (xa 24, .inl (cI, 151, .inl (fun _ => 0))), (xa 25, .inr (0, [.ref (xa 26), .int 0, .int 0, .int 0, .int (-1), .int 0, .int 0, .int 0])), (xa 26, .inr (3, [.ref (xa 27), .int 0])), (xa 27, .inl (cI, 300, .inl (fun _ => 0)))]
set_option maxHeartbeats 4000000 in
set_option maxRecDepth 100000 in
theorem c_X4_rowOf1 (l : Launch) (dC : Nat → ClassId) (dI : Nat → Nat → Nat) (h0 : Nat) (z0 : Nat) (z1 : Nat) (z2 : Nat) (z3 : Nat) (z4 : Nat) (z5 : Nat) (kl : Int32) (sz : Nat) : Met l yX4_rowOf wsX4_rowOf ({ frames := 0, cells := 0, slots := 0, locals := 0 }) (va_Pc [.ref h0, .int 1] (fun U => U.heap.size = sz ∧ va_P (dC, dI) vwCl [(h0, .inr (4, [.ref z0, .ref z1, .ref z2, .ref z3, .ref z4, .ref z5, .int kl]))] U.heap ∧ va_K (dC, dI) vwCl [] U ∧ va_D (fun _ => True) [(h0, .inr (4, [.ref z0, .ref z1, .ref z2, .ref z3, .ref z4, .ref z5, .int kl]))])) (va_Qr (fun _ : Unit => True) (fun _ ra9 t => ra9 = z1) (fun q : Nat => sz ≤ q)) 0 0 (fun q : Nat => sz ≤ q) := by
  refine Met.ofW (cc := cX4_rowOf) (maxL := 2) (ret := (some (.object "DeltaCodec$Row"))) (by decide) rfl ?_
  intro p e s m args below meth c s₁ B hml hv
  obtain ⟨rfl, hsz, hP, hK, hD0⟩ := hv
  have hx := B.exec
  have hb := B.bytes
  have hr := B.returns
  have hts := atoms_spec (ws := wsX4_rowOf) B.pre
  have hown : s.vm.findClass RX4 = some m.cls := findClass_of_methodNamed B.named
  have hlocks := B.notSynchronized
  subst hsz
  generalize hAe : (fun q : Nat => s.heap.size ≤ q) = A
  have hA : ∀ q : Nat, s.heap.size ≤ q → A q := fun q h => by rw [← hAe]; exact h
  have hS : va_S A s.heap s.heap [] := va_S.rf
  have hP : va_P (dC, dI) vwCl [(h0, .inr (4, [.ref z0, .ref z1, .ref z2, .ref z3, .ref z4, .ref z5, .int kl]))] s.heap := hP
  have hl := lv_entry ([.ref h0, .int 1]) (n := 2) (Nat.le_of_ble_eq_true rfl)
  rw [lg_entry_eq]
  generalize (lg_sl ([.ref h0, .int 1]) ++ List.replicate (2 - (lg_sl ([.ref h0, .int 1])).length) Slot.unset).toArray = ls at hl ⊢
  have hl : lv_has ls 2 [(0, .ref h0), (1, .int 1)] := hl
  refine lv_iload_n hx hb dX4_rowOf_0 rfl (lv_at hl 1 rfl) ?_
  refine lv_if_ne (tgt := 11) hx hb dX4_rowOf_1 (by decide) (fun c1 => ?_) (fun h => absurd h (by decide))
  refine lv_aload_n hx hb dX4_rowOf_11 rfl (lv_at hl 0 rfl) ?_
  refine va_get (D := (dC, dI)) (ci := 4) (v := .ref z1) (C := RX4) (T := TX4) (N := 7) hx hb hts (by decide +kernel) hown hK hP 0 rfl rfl 1 (by decide) (hts (.fieldLink RX4 18 "DeltaCodec" "target" "LDeltaCodec$Row;") (by decide +kernel)) (fun _ h9 => h9) rfl dX4_rowOf_12 ?_
  exact W.aret (v := .ref z1) hx hb hr (Or.inl ⟨_, rfl⟩) (Or.inr ⟨_, rfl⟩) (fun t ht hW => ⟨⟨(), z1, rfl, trivial, rfl⟩, hS.F ht⟩) hS.2.2 dX4_rowOf_15
