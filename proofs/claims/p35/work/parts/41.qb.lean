set_option maxHeartbeats 4000000 in
set_option maxRecDepth 100000 in
theorem q_bon (l : Launch) (dC : Nat → ClassId) (dI : Nat → Nat → Nat) (p0 : Int32) (sz : Nat) : Met l yX2_bytesOfNumber wsX2_bytesOfNumber ({ frames := 0, cells := 0, slots := 0, locals := 0 }) (va_Pc [.int p0] (fun U => U.heap.size = sz ∧ va_P (dC, dI) vwCl [] U.heap ∧ va_K (dC, dI) vwCl [] U ∧ va_D (fun _ => True) [])) (va_Qi (fun (r : Int32) (_ : Unit) => True) (fun _ _ => True) (fun q : Nat => sz ≤ q)) 0 0 (fun q : Nat => sz ≤ q) := by
  refine Met.ofW (cc := cX2_bytesOfNumber) (maxL := 1) (ret := (some .int)) (by decide) rfl ?_
  intro p e s m args below meth c s₁ B hml hv
  obtain ⟨rfl, hsz, hP, hK, hD0⟩ := hv
  have hx := B.exec
  have hb := B.bytes
  have hr := B.returns
  have hts := atoms_spec (ws := wsX2_bytesOfNumber) B.pre
  have hown : s.vm.findClass RX2 = some m.cls := findClass_of_methodNamed B.named
  have hlocks := B.notSynchronized
  subst hsz
  generalize hAe : (fun q : Nat => s.heap.size ≤ q) = A
  have hA : ∀ q : Nat, s.heap.size ≤ q → A q := fun q h => by rw [← hAe]; exact h
  have hS : va_S A s.heap s.heap [] := va_S.rf
  have hP : va_P (dC, dI) vwCl [] s.heap := hP
  have hl := lv_entry ([.int p0]) (n := 1) (Nat.le_of_ble_eq_true rfl)
  rw [lg_entry_eq]
  generalize (lg_sl ([.int p0]) ++ List.replicate (1 - (lg_sl ([.int p0])).length) Slot.unset).toArray = ls at hl ⊢
  have hl : lv_has ls 1 [(0, .int p0)] := hl
  refine lv_iload_n hx hb dX2_bytesOfNumber_0 rfl (lv_at hl 0 rfl) ?_
  refine lv_sipush (v := 128) hx hb dX2_bytesOfNumber_1 (by decide) ?_
  refine lv_icmp_ge (tgt := 11) hx hb dX2_bytesOfNumber_4 (by decide) (fun c4 => ?_) (fun c4 => ?_)
  · skip
    refine lv_iconst (v := 2) hx hb dX2_bytesOfNumber_11 (by decide) ?_
    exact W.iret (v := 2) hx hb hr (fun t ht hW => ⟨⟨2, (), rfl, trivial, trivial⟩, hS.F ht⟩) hS.2.2 dX2_bytesOfNumber_12
  · skip
    refine lv_iconst (v := 1) hx hb dX2_bytesOfNumber_7 (by decide) ?_
    refine lv_goto (tgt := 12) hx hb dX2_bytesOfNumber_8 (by decide) ?_
    exact W.iret (v := 1) hx hb hr (fun t ht hW => ⟨⟨1, (), rfl, trivial, trivial⟩, hS.F ht⟩) hS.2.2 dX2_bytesOfNumber_12
set_option maxHeartbeats 4000000 in
set_option maxRecDepth 100000 in
theorem q_bo (l : Launch) (dC : Nat → ClassId) (dI : Nat → Nat → Nat) (p0 : Int32) (p1 : Int32) (p2 : Int32) (sz : Nat) : Met l yX2_bytesOf wsX2_bytesOf ({ frames := 1, cells := 0, slots := 0, locals := 20 }) (va_Pc [.int p0, .int p1, .int p2] (fun U => U.heap.size = sz ∧ va_P (dC, dI) vwCl [] U.heap ∧ va_K (dC, dI) vwCl [] U ∧ va_D (fun _ => True) [])) (va_Qi (fun (r : Int32) (_ : Unit) => True) (fun _ _ => True) (fun q : Nat => sz ≤ q)) 0 0 (fun q : Nat => sz ≤ q) := by
  refine Met.ofW (cc := cX2_bytesOf) (maxL := 4) (ret := (some .int)) (by decide) rfl ?_
  intro p e s m args below meth c s₁ B hml hv
  obtain ⟨rfl, hsz, hP, hK, hD0⟩ := hv
  have hx := B.exec
  have hb := B.bytes
  have hr := B.returns
  have hts := atoms_spec (ws := wsX2_bytesOf) B.pre
  have hown : s.vm.findClass RX2 = some m.cls := findClass_of_methodNamed B.named
  have hlocks := B.notSynchronized
  subst hsz
  generalize hAe : (fun q : Nat => s.heap.size ≤ q) = A
  have hA : ∀ q : Nat, s.heap.size ≤ q → A q := fun q h => by rw [← hAe]; exact h
  have hS : va_S A s.heap s.heap [] := va_S.rf
  have hP : va_P (dC, dI) vwCl [] s.heap := hP
  have hl := lv_entry ([.int p0, .int p1, .int p2]) (n := 4) (Nat.le_of_ble_eq_true rfl)
  rw [lg_entry_eq]
  generalize (lg_sl ([.int p0, .int p1, .int p2]) ++ List.replicate (4 - (lg_sl ([.int p0, .int p1, .int p2])).length) Slot.unset).toArray = ls at hl ⊢
  have hl : lv_has ls 4 [(0, .int p0), (1, .int p1), (2, .int p2)] := hl
  refine lv_iload_n hx hb dX2_bytesOf_0 rfl (lv_at hl 1 rfl) ?_
  refine lv_bipush (v := 63) hx hb dX2_bytesOf_1 (by decide) ?_
  refine lv_icmp_ge (tgt := 10) hx hb dX2_bytesOf_3 (by decide) (fun c3 => ?_) (fun c3 => ?_)
  · skip
    refine lv_iconst (v := 1) hx hb dX2_bytesOf_10 (by decide) ?_
    refine lv_iload_n hx hb dX2_bytesOf_11 rfl (lv_at hl 1 rfl) ?_
    refine lv_bipush (v := 63) hx hb dX2_bytesOf_12 (by decide) ?_
    refine lv_isub hx hb dX2_bytesOf_14 ?_
    refine lv_topi (fun x_846 ex_846 => ?_)
    have hPc := hP.sub (ws' := []) [] rfl
    have hFc : ∀ q : Nat, s.heap.size ≤ q → A q := fun q h => hA q (Nat.le_trans hS.1 h)
    have hKc := hK.sub (tys' := []) [] rfl
    refine va_calli (va_runS (As := [.int x_846]) (rest := [.int 1]) ⟨hx, hb, hml, hown, hts⟩ (q_bon l dC dI x_846 s.heap.size) (va_cwS 1 hts gX2_bytesOf_X2_bytesOfNumber rfl rfl rfl (by decide +kernel) ⟨Nat.le_of_ble_eq_true rfl, Nat.le_of_ble_eq_true rfl⟩) ⟨fun a U g mk q => by obtain ⟨q0, q1, qP, qK, qD⟩ := q; exact ⟨q0, q1, qP, va_K.moved (u := U) (U := U.calling g mk a) (Vm.Alike.refl U.vm) qK, qD⟩, fun U hU hW => ⟨rfl, by rw [hU], by rw [hU]; exact hPc, va_K.moved hW.alike hKc, hD0.sub (ws' := []) [] (by decide) rfl⟩⟩ rfl rfl hl.1 rfl (lv_room (Nat.le_of_ble_eq_true rfl)) dX2_bytesOf_15 ⟨(Nat.le_of_ble_eq_true rfl), (Nat.le_of_ble_eq_true rfl)⟩) hS (fun q h1 h2 => absurd h1 (Nat.not_lt.mpr h2)) hFc (fun r_847 u_848 t H1 locs ht hvm hw hB hz1 hk1 hS1 => ?_)
    have hP := zz_keep hP hk1
    have hS := hS1
    clear hS1
    generalize H1 = H at hP hS ht ⊢
    have hP : va_P (dC, dI) vwCl [] H := hP
    have w15 := hw
    refine lv_iadd hx hb dX2_bytesOf_18 ?_
    refine lv_topi (fun x_849 ex_849 => ?_)
    refine lv_istore_n (lv' := [(3, .int x_849), (0, .int p0), (1, .int p1), (2, .int p2)]) hx hb dX2_bytesOf_19 rfl hl (by decide) rfl (fun ls hl => ?_)
    refine lv_iload_n hx hb dX2_bytesOf_20 rfl (lv_at hl 1 rfl) ?_
    refine lv_if_ne (tgt := 28) hx hb dX2_bytesOf_21 (by decide) (fun c21 => ?_) (fun c21 => ?_)
    · skip
      refine lv_iload_n hx hb dX2_bytesOf_28 rfl (lv_at hl 1 rfl) ?_
      refine lv_iconst (v := 3) hx hb dX2_bytesOf_29 (by decide) ?_
      refine lv_icmp_ne (tgt := 39) hx hb dX2_bytesOf_30 (by decide) (fun c30 => ?_) (fun c30 => ?_)
      · skip
        refine lv_iload_n hx hb dX2_bytesOf_39 rfl (lv_at hl 0 rfl) ?_
        refine lv_iload_n hx hb dX2_bytesOf_40 rfl (lv_at hl 3 rfl) ?_
        have hPc := hP.sub (ws' := []) [] rfl
        have hFc : ∀ q : Nat, H.size ≤ q → A q := fun q h => hA q (Nat.le_trans hS.1 h)
        have hKc := hK.sub (tys' := []) [] rfl
        refine va_calli (va_runS (As := [.int p2]) (rest := [.int x_849]) ⟨hx, hb, hml, hown, hts⟩ (q_bon l dC dI p2 H.size) (va_cwS 1 hts gX2_bytesOf_X2_bytesOfNumber rfl rfl rfl (by decide +kernel) ⟨Nat.le_of_ble_eq_true rfl, Nat.le_of_ble_eq_true rfl⟩) ⟨fun a U g mk q => by obtain ⟨q0, q1, qP, qK, qD⟩ := q; exact ⟨q0, q1, qP, va_K.moved (u := U) (U := U.calling g mk a) (Vm.Alike.refl U.vm) qK, qD⟩, fun U hU hW => ⟨rfl, by rw [hU], by rw [hU]; exact hPc, va_K.moved hW.alike hKc, hD0.sub (ws' := []) [] (by decide) rfl⟩⟩ rfl rfl hl.1 rfl (lv_room (Nat.le_of_ble_eq_true rfl)) dX2_bytesOf_41 ⟨(Nat.le_of_ble_eq_true rfl), (Nat.le_of_ble_eq_true rfl)⟩) hS (fun q h1 h2 => absurd h1 (Nat.not_lt.mpr h2)) hFc (fun r_850 u_851 t H1 locs ht hvm hw hB hz1 hk1 hS1 => ?_)
        have hP := zz_keep hP hk1
        have hS := hS1
        clear hS1
        generalize H1 = H at hP hS ht ⊢
        have hP : va_P (dC, dI) vwCl [] H := hP
        have w41 := hw
        refine lv_iadd hx hb dX2_bytesOf_44 ?_
        refine lv_topi (fun x_852 ex_852 => ?_)
        exact W.iret (v := x_852) hx hb hr (fun t ht hW => ⟨⟨x_852, (), rfl, trivial, trivial⟩, hS.F ht⟩) hS.2.2 dX2_bytesOf_45
      · skip
        refine lv_iload_n hx hb dX2_bytesOf_33 rfl (lv_at hl 0 rfl) ?_
        refine lv_iconst (v := 1) hx hb dX2_bytesOf_34 (by decide) ?_
        refine lv_iadd hx hb dX2_bytesOf_35 ?_
        refine lv_topi (fun x_853 ex_853 => ?_)
        refine lv_goto (tgt := 45) hx hb dX2_bytesOf_36 (by decide) ?_
        exact W.iret (v := x_853) hx hb hr (fun t ht hW => ⟨⟨x_853, (), rfl, trivial, trivial⟩, hS.F ht⟩) hS.2.2 dX2_bytesOf_45
    · skip
      refine lv_iload_n hx hb dX2_bytesOf_24 rfl (lv_at hl 0 rfl) ?_
      refine lv_iload_n hx hb dX2_bytesOf_25 rfl (lv_at hl 2 rfl) ?_
      refine lv_iadd hx hb dX2_bytesOf_26 ?_
      refine lv_topi (fun x_854 ex_854 => ?_)
      exact W.iret (v := x_854) hx hb hr (fun t ht hW => ⟨⟨x_854, (), rfl, trivial, trivial⟩, hS.F ht⟩) hS.2.2 dX2_bytesOf_27
  · skip
    refine lv_iconst (v := 1) hx hb dX2_bytesOf_6 (by decide) ?_
    refine lv_goto (tgt := 19) hx hb dX2_bytesOf_7 (by decide) ?_
    refine lv_istore_n (lv' := [(3, .int 1), (0, .int p0), (1, .int p1), (2, .int p2)]) hx hb dX2_bytesOf_19 rfl hl (by decide) rfl (fun ls hl => ?_)
    refine lv_iload_n hx hb dX2_bytesOf_20 rfl (lv_at hl 1 rfl) ?_
    refine lv_if_ne (tgt := 28) hx hb dX2_bytesOf_21 (by decide) (fun c21 => ?_) (fun c21 => ?_)
    · skip
      refine lv_iload_n hx hb dX2_bytesOf_28 rfl (lv_at hl 1 rfl) ?_
      refine lv_iconst (v := 3) hx hb dX2_bytesOf_29 (by decide) ?_
      refine lv_icmp_ne (tgt := 39) hx hb dX2_bytesOf_30 (by decide) (fun c30 => ?_) (fun c30 => ?_)
      · skip
        refine lv_iload_n hx hb dX2_bytesOf_39 rfl (lv_at hl 0 rfl) ?_
        refine lv_iload_n hx hb dX2_bytesOf_40 rfl (lv_at hl 3 rfl) ?_
        have hPc := hP.sub (ws' := []) [] rfl
        have hFc : ∀ q : Nat, s.heap.size ≤ q → A q := fun q h => hA q (Nat.le_trans hS.1 h)
        have hKc := hK.sub (tys' := []) [] rfl
        refine va_calli (va_runS (As := [.int p2]) (rest := [.int 1]) ⟨hx, hb, hml, hown, hts⟩ (q_bon l dC dI p2 s.heap.size) (va_cwS 1 hts gX2_bytesOf_X2_bytesOfNumber rfl rfl rfl (by decide +kernel) ⟨Nat.le_of_ble_eq_true rfl, Nat.le_of_ble_eq_true rfl⟩) ⟨fun a U g mk q => by obtain ⟨q0, q1, qP, qK, qD⟩ := q; exact ⟨q0, q1, qP, va_K.moved (u := U) (U := U.calling g mk a) (Vm.Alike.refl U.vm) qK, qD⟩, fun U hU hW => ⟨rfl, by rw [hU], by rw [hU]; exact hPc, va_K.moved hW.alike hKc, hD0.sub (ws' := []) [] (by decide) rfl⟩⟩ rfl rfl hl.1 rfl (lv_room (Nat.le_of_ble_eq_true rfl)) dX2_bytesOf_41 ⟨(Nat.le_of_ble_eq_true rfl), (Nat.le_of_ble_eq_true rfl)⟩) hS (fun q h1 h2 => absurd h1 (Nat.not_lt.mpr h2)) hFc (fun r_855 u_856 t H1 locs ht hvm hw hB hz1 hk1 hS1 => ?_)
        have hP := zz_keep hP hk1
        have hS := hS1
        clear hS1
        generalize H1 = H at hP hS ht ⊢
        have hP : va_P (dC, dI) vwCl [] H := hP
        have w41 := hw
        refine lv_iadd hx hb dX2_bytesOf_44 ?_
        refine lv_topi (fun x_857 ex_857 => ?_)
        exact W.iret (v := x_857) hx hb hr (fun t ht hW => ⟨⟨x_857, (), rfl, trivial, trivial⟩, hS.F ht⟩) hS.2.2 dX2_bytesOf_45
      · skip
        refine lv_iload_n hx hb dX2_bytesOf_33 rfl (lv_at hl 0 rfl) ?_
        refine lv_iconst (v := 1) hx hb dX2_bytesOf_34 (by decide) ?_
        refine lv_iadd hx hb dX2_bytesOf_35 ?_
        refine lv_topi (fun x_858 ex_858 => ?_)
        obtain rfl : 2 = x_858 := (ex_858.trans (by decide)).symm
        refine lv_goto (tgt := 45) hx hb dX2_bytesOf_36 (by decide) ?_
        exact W.iret (v := 2) hx hb hr (fun t ht hW => ⟨⟨2, (), rfl, trivial, trivial⟩, hS.F ht⟩) hS.2.2 dX2_bytesOf_45
    · skip
      refine lv_iload_n hx hb dX2_bytesOf_24 rfl (lv_at hl 0 rfl) ?_
      refine lv_iload_n hx hb dX2_bytesOf_25 rfl (lv_at hl 2 rfl) ?_
      refine lv_iadd hx hb dX2_bytesOf_26 ?_
      refine lv_topi (fun x_859 ex_859 => ?_)
      exact W.iret (v := x_859) hx hb hr (fun t ht hW => ⟨⟨x_859, (), rfl, trivial, trivial⟩, hS.F ht⟩) hS.2.2 dX2_bytesOf_27
