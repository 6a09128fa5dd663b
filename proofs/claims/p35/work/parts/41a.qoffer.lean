theorem zz_end {ka kb : Nat} (h1 : ka ≤ 150) (h2 : kb ≤ 151) (h : nI ka + nI kb < 151) : vp_in (nI ka + nI kb) 151 := by
  rw [nI_add] at h ⊢
  have h9 : nI (ka + kb) < nI 151 := h
  exact vp_in_nI ((nI_ltI (by omega) (by omega)).mp h9) (by omega)
theorem zz_ka {ka : Nat} (h1 : ka ≤ 150) : vp_in (nI ka) 151 := vp_in_nI (by omega) (by omega)
set_option maxHeartbeats 4000000 in
set_option maxRecDepth 100000 in
theorem q_offer (l : Launch) (dC : Nat → ClassId) (dI : Nat → Nat → Nat) (cI : ClassId) (h0 : Nat) (p1 : Nat) (p2 : Nat) (p3 : Nat) (p4 : Nat) (p5 : Nat) (p6 : Nat) (p7 : Nat) (p8 : Nat) (e19 : Nat → Int32) (e29 : Nat → Int32) (e39 : Nat → Int32) (e49 : Nat → Int32) (e59 : Nat → Int32) (ka : Nat) (q1 : Int32) (kb : Nat) (q3 : Int32) (sz : Nat) (h1 : ka ≤ 150) (h2 : kb ≤ 151) : Met l yX2_offer wsX2_offer ({ frames := 2, cells := 0, slots := 0, locals := 43 }) (va_Pc [.ref h0, .int (nI ka), .int q1, .int (nI kb), .int q3] (fun U => U.heap.size = sz ∧ va_P (dC, dI) vwCl [(h0, .inr (2, [.ref p1, .ref p2, .ref p3, .ref p4, .ref p5, .ref p6, .ref p7, .ref p8])), (p1, .inl (cI, 151, .inl e19)), (p2, .inl (cI, 151, .inl e29)), (p3, .inl (cI, 151, .inl e39)), (p4, .inl (cI, 151, .inl e49)), (p5, .inl (cI, 151, .inl e59))] U.heap ∧ va_K (dC, dI) vwCl [(cI, .int)] U ∧ va_D (fun _ => True) [(h0, .inr (2, [.ref p1, .ref p2, .ref p3, .ref p4, .ref p5, .ref p6, .ref p7, .ref p8])), (p1, .inl (cI, 151, .inl e19)), (p2, .inl (cI, 151, .inl e29)), (p3, .inl (cI, 151, .inl e39)), (p4, .inl (cI, 151, .inl e49)), (p5, .inl (cI, 151, .inl e59))])) (va_Qv (fun u9 : (Nat → Int32) × (Nat → Int32) × (Nat → Int32) × (Nat → Int32) × (Nat → Int32) => True) (fun u9 t => va_P (dC, dI) vwCl [(h0, .inr (2, [.ref p1, .ref p2, .ref p3, .ref p4, .ref p5, .ref p6, .ref p7, .ref p8])), (p1, .inl (cI, 151, .inl u9.1)), (p2, .inl (cI, 151, .inl u9.2.1)), (p3, .inl (cI, 151, .inl u9.2.2.1)), (p4, .inl (cI, 151, .inl u9.2.2.2.1)), (p5, .inl (cI, 151, .inl u9.2.2.2.2))] t.heap ∧ va_D (va_A [(h0, .inr (2, [.ref p1, .ref p2, .ref p3, .ref p4, .ref p5, .ref p6, .ref p7, .ref p8])), (p1, .inl (cI, 151, .inl e19)), (p2, .inl (cI, 151, .inl e29)), (p3, .inl (cI, 151, .inl e39)), (p4, .inl (cI, 151, .inl e49)), (p5, .inl (cI, 151, .inl e59))] sz) [(h0, .inr (2, [.ref p1, .ref p2, .ref p3, .ref p4, .ref p5, .ref p6, .ref p7, .ref p8])), (p1, .inl (cI, 151, .inl u9.1)), (p2, .inl (cI, 151, .inl u9.2.1)), (p3, .inl (cI, 151, .inl u9.2.2.1)), (p4, .inl (cI, 151, .inl u9.2.2.2.1)), (p5, .inl (cI, 151, .inl u9.2.2.2.2))]) (va_A [(h0, .inr (2, [.ref p1, .ref p2, .ref p3, .ref p4, .ref p5, .ref p6, .ref p7, .ref p8])), (p1, .inl (cI, 151, .inl e19)), (p2, .inl (cI, 151, .inl e29)), (p3, .inl (cI, 151, .inl e39)), (p4, .inl (cI, 151, .inl e49)), (p5, .inl (cI, 151, .inl e59))] sz)) 0 0 (va_A [(h0, .inr (2, [.ref p1, .ref p2, .ref p3, .ref p4, .ref p5, .ref p6, .ref p7, .ref p8])), (p1, .inl (cI, 151, .inl e19)), (p2, .inl (cI, 151, .inl e29)), (p3, .inl (cI, 151, .inl e39)), (p4, .inl (cI, 151, .inl e49)), (p5, .inl (cI, 151, .inl e59))] sz) := by
  refine Met.ofW (cc := cX2_offer) (maxL := 10) (ret := none) (by decide) rfl ?_
  intro p e s m args below meth c s₁ B hml hv
  obtain ⟨rfl, hsz, hP, hK, hD0⟩ := hv
  have hx := B.exec
  have hb := B.bytes
  have hr := B.returns
  have hts := atoms_spec (ws := wsX2_offer) B.pre
  have hown : s.vm.findClass RX2 = some m.cls := findClass_of_methodNamed B.named
  have hlocks := B.notSynchronized
  subst hsz
  have hD := hD0.self (sz := s.heap.size)
  generalize hAe : va_A [(h0, .inr (2, [.ref p1, .ref p2, .ref p3, .ref p4, .ref p5, .ref p6, .ref p7, .ref p8])), (p1, .inl (cI, 151, .inl e19)), (p2, .inl (cI, 151, .inl e29)), (p3, .inl (cI, 151, .inl e39)), (p4, .inl (cI, 151, .inl e49)), (p5, .inl (cI, 151, .inl e59))] s.heap.size = A at hD ⊢
  have hA : ∀ q : Nat, s.heap.size ≤ q → A q := fun q h => by rw [← hAe]; exact Or.inr h
  have hS : va_S A s.heap s.heap [] := va_S.rf
  have hP : va_P (dC, dI) vwCl [(h0, .inr (2, [.ref p1, .ref p2, .ref p3, .ref p4, .ref p5, .ref p6, .ref p7, .ref p8])), (p1, .inl (cI, 151, .inl e19)), (p2, .inl (cI, 151, .inl e29)), (p3, .inl (cI, 151, .inl e39)), (p4, .inl (cI, 151, .inl e49)), (p5, .inl (cI, 151, .inl e59))] s.heap := hP
  have hl := lv_entry ([.ref h0, .int (nI ka), .int q1, .int (nI kb), .int q3]) (n := 10) (Nat.le_of_ble_eq_true rfl)
  rw [lg_entry_eq]
  generalize (lg_sl ([.ref h0, .int (nI ka), .int q1, .int (nI kb), .int q3]) ++ List.replicate (10 - (lg_sl ([.ref h0, .int (nI ka), .int q1, .int (nI kb), .int q3])).length) Slot.unset).toArray = ls at hl ⊢
  have hl : lv_has ls 10 [(0, .ref h0), (1, .int (nI ka)), (2, .int q1), (3, .int (nI kb)), (4, .int q3)] := hl
  refine lv_iload_n hx hb dX2_offer_0 rfl (lv_at hl 1 rfl) ?_
  refine lv_iload_n hx hb dX2_offer_1 rfl (lv_at hl 3 rfl) ?_
  refine lv_iadd hx hb dX2_offer_2 ?_
  refine lv_topi (fun x_860 ex_860 => ?_)
  obtain rfl : nI ka + nI kb = x_860 := ex_860.symm
  refine lv_istore (lv' := [(5, .int (nI ka + nI kb)), (0, .ref h0), (1, .int (nI ka)), (2, .int q1), (3, .int (nI kb)), (4, .int q3)]) hx hb dX2_offer_3 hl (by decide) rfl (fun ls hl => ?_)
  refine lv_iload_n hx hb dX2_offer_5 rfl (lv_at hl 2 rfl) ?_
  refine lv_if_lt (tgt := 22) hx hb dX2_offer_6 (by decide) (fun c6 => ?_) (fun c6 => ?_)
  · skip
    have hP9 := hP.sub (ws' := [(h0, .inr (2, [.ref p1, .ref p2, .ref p3, .ref p4, .ref p5, .ref p6, .ref p7, .ref p8])), (p1, .inl (cI, 151, .inl e19)), (p2, .inl (cI, 151, .inl e29)), (p3, .inl (cI, 151, .inl e39)), (p4, .inl (cI, 151, .inl e49)), (p5, .inl (cI, 151, .inl e59))]) [0, 1, 2, 3, 4, 5] rfl
    have hD9 := hD.sub (ws' := [(h0, .inr (2, [.ref p1, .ref p2, .ref p3, .ref p4, .ref p5, .ref p6, .ref p7, .ref p8])), (p1, .inl (cI, 151, .inl e19)), (p2, .inl (cI, 151, .inl e29)), (p3, .inl (cI, 151, .inl e39)), (p4, .inl (cI, 151, .inl e49)), (p5, .inl (cI, 151, .inl e59))]) [0, 1, 2, 3, 4, 5] (by decide) rfl
    exact W.vret hx hb hr (fun t ht hW => ⟨⟨(e19, e29, e39, e49, e59), rfl, trivial, ⟨by rw [ht]; exact hP9, hD9⟩⟩, hS.F ht⟩) hS.2.2 dX2_offer_22
  · skip
    refine lv_iload_n hx hb dX2_offer_9 rfl (lv_at hl 4 rfl) ?_
    refine lv_iconst (v := 1) hx hb dX2_offer_10 (by decide) ?_
    refine lv_icmp_lt (tgt := 22) hx hb dX2_offer_11 (by decide) (fun c11 => ?_) (fun c11 => ?_)
    · skip
      have hP9 := hP.sub (ws' := [(h0, .inr (2, [.ref p1, .ref p2, .ref p3, .ref p4, .ref p5, .ref p6, .ref p7, .ref p8])), (p1, .inl (cI, 151, .inl e19)), (p2, .inl (cI, 151, .inl e29)), (p3, .inl (cI, 151, .inl e39)), (p4, .inl (cI, 151, .inl e49)), (p5, .inl (cI, 151, .inl e59))]) [0, 1, 2, 3, 4, 5] rfl
      have hD9 := hD.sub (ws' := [(h0, .inr (2, [.ref p1, .ref p2, .ref p3, .ref p4, .ref p5, .ref p6, .ref p7, .ref p8])), (p1, .inl (cI, 151, .inl e19)), (p2, .inl (cI, 151, .inl e29)), (p3, .inl (cI, 151, .inl e39)), (p4, .inl (cI, 151, .inl e49)), (p5, .inl (cI, 151, .inl e59))]) [0, 1, 2, 3, 4, 5] (by decide) rfl
      exact W.vret hx hb hr (fun t ht hW => ⟨⟨(e19, e29, e39, e49, e59), rfl, trivial, ⟨by rw [ht]; exact hP9, hD9⟩⟩, hS.F ht⟩) hS.2.2 dX2_offer_22
    · skip
      refine lv_iload hx hb dX2_offer_14 (lv_at hl 0 rfl) ?_
      refine lv_sipush (v := 151) hx hb dX2_offer_16 (by decide) ?_
      refine lv_icmp_lt (tgt := 23) hx hb dX2_offer_19 (by decide) (fun c19 => ?_) (fun c19 => ?_)
      · skip
        refine lv_iload_n hx hb dX2_offer_23 rfl (lv_at hl 3 rfl) ?_
        refine lv_iload_n hx hb dX2_offer_24 rfl (lv_at hl 4 rfl) ?_
        refine lv_iload hx hb dX2_offer_25 (lv_at hl 5 rfl) ?_
        have hPc := hP.sub (ws' := []) [] rfl
        have hFc : ∀ q : Nat, s.heap.size ≤ q → A q := fun q h => hA q (Nat.le_trans hS.1 h)
        have hKc := hK.sub (tys' := []) [] rfl
        refine va_calli (va_runS (As := [.int q1, .int (nI kb), .int q3]) (rest := []) ⟨hx, hb, hml, hown, hts⟩ (q_bo l dC dI q1 (nI kb) q3 s.heap.size) (va_cwS 3 hts gX2_offer_X2_bytesOf rfl rfl rfl (by decide +kernel) ⟨Nat.le_of_ble_eq_true rfl, Nat.le_of_ble_eq_true rfl⟩) ⟨fun a U g mk q => by obtain ⟨q0, q1, qP, qK, qD⟩ := q; exact ⟨q0, q1, qP, va_K.moved (u := U) (U := U.calling g mk a) (Vm.Alike.refl U.vm) qK, qD⟩, fun U hU hW => ⟨rfl, by rw [hU], by rw [hU]; exact hPc, va_K.moved hW.alike hKc, zz_D (hD.sub (ws' := []) [] (by decide) rfl)⟩⟩ rfl rfl hl.1 rfl (lv_room (Nat.le_of_ble_eq_true rfl)) dX2_offer_27 ⟨(Nat.le_of_ble_eq_true rfl), (Nat.le_of_ble_eq_true rfl)⟩) hS (fun q h1 h2 => absurd h1 (Nat.not_lt.mpr h2)) hFc (fun r_861 u_862 t H1 locs ht hvm hw hB hz1 hk1 hS1 => ?_)
        have hP := zz_keep hP hk1
        have hS := hS1
        clear hS1
        generalize H1 = H at hP hS ht ⊢
        have hP : va_P (dC, dI) vwCl [(h0, .inr (2, [.ref p1, .ref p2, .ref p3, .ref p4, .ref p5, .ref p6, .ref p7, .ref p8])), (p1, .inl (cI, 151, .inl e19)), (p2, .inl (cI, 151, .inl e29)), (p3, .inl (cI, 151, .inl e39)), (p4, .inl (cI, 151, .inl e49)), (p5, .inl (cI, 151, .inl e59))] H := hP
        have w27 := hw
        refine lv_aload_n hx hb dX2_offer_30 rfl (lv_at hl 1 rfl) ?_
        refine va_get (D := (dC, dI)) (ci := 2) (v := .ref p1) (C := RX2) (T := TX2) (N := 8) hx hb hts (by decide +kernel) hown hK hP 0 rfl rfl 0 (by decide) (hts (.fieldLink RX2 11 "DeltaCodec$Planner" "bytesLeft" "[I") (by decide +kernel)) (fun _ h9 => h9) rfl dX2_offer_31 ?_
        refine lv_iload hx hb dX2_offer_34 (lv_at hl 0 rfl) ?_
        refine va_iald hx hb hK hP 1 0 rfl rfl (zz_end h1 h2 c19) dX2_offer_36 ?_
        refine lv_topi (fun x_863 ex_863 => ?_)
        refine lv_iadd hx hb dX2_offer_37 ?_
        refine lv_topi (fun x_864 ex_864 => ?_)
        refine lv_istore (lv' := [(6, .int x_864), (5, .int (nI ka + nI kb)), (0, .ref h0), (1, .int (nI ka)), (2, .int q1), (3, .int (nI kb)), (4, .int q3)]) hx hb dX2_offer_38 hl (by decide) rfl (fun ls hl => ?_)
        refine lv_iconst (v := 1) hx hb dX2_offer_40 (by decide) ?_
        refine lv_aload_n hx hb dX2_offer_41 rfl (lv_at hl 2 rfl) ?_
        refine va_get (D := (dC, dI)) (ci := 2) (v := .ref p2) (C := RX2) (T := TX2) (N := 8) hx hb hts (by decide +kernel) hown hK hP 0 rfl rfl 1 (by decide) (hts (.fieldLink RX2 15 "DeltaCodec$Planner" "stepsLeft" "[I") (by decide +kernel)) (fun _ h9 => h9) rfl dX2_offer_42 ?_
        refine lv_iload hx hb dX2_offer_45 (lv_at hl 1 rfl) ?_
        refine va_iald hx hb hK hP 2 0 rfl rfl (zz_end h1 h2 c19) dX2_offer_47 ?_
        refine lv_topi (fun x_865 ex_865 => ?_)
        refine lv_iadd hx hb dX2_offer_48 ?_
        refine lv_topi (fun x_866 ex_866 => ?_)
        refine lv_istore (lv' := [(7, .int x_866), (6, .int x_864), (5, .int (nI ka + nI kb)), (0, .ref h0), (1, .int (nI ka)), (2, .int q1), (3, .int (nI kb)), (4, .int q3)]) hx hb dX2_offer_49 hl (by decide) rfl (fun ls hl => ?_)
        refine lv_iload hx hb dX2_offer_51 (lv_at hl 1 rfl) ?_
        refine lv_aload_n hx hb dX2_offer_53 rfl (lv_at hl 3 rfl) ?_
        refine va_get (D := (dC, dI)) (ci := 2) (v := .ref p1) (C := RX2) (T := TX2) (N := 8) hx hb hts (by decide +kernel) hown hK hP 0 rfl rfl 0 (by decide) (hts (.fieldLink RX2 11 "DeltaCodec$Planner" "bytesLeft" "[I") (by decide +kernel)) (fun _ h9 => h9) rfl dX2_offer_54 ?_
        refine lv_iload_n hx hb dX2_offer_57 rfl (lv_at hl 4 rfl) ?_
        refine va_iald hx hb hK hP 1 0 rfl rfl (zz_ka h1) dX2_offer_58 ?_
        refine lv_topi (fun x_867 ex_867 => ?_)
        refine lv_icmp_ge (tgt := 66) hx hb dX2_offer_59 (by decide) (fun c59 => ?_) (fun c59 => ?_)
        · skip
          refine lv_iconst (v := 0) hx hb dX2_offer_66 (by decide) ?_
          refine lv_istore (lv' := [(8, .int 0), (7, .int x_866), (6, .int x_864), (5, .int (nI ka + nI kb)), (0, .ref h0), (1, .int (nI ka)), (2, .int q1), (3, .int (nI kb)), (4, .int q3)]) hx hb dX2_offer_67 hl (by decide) rfl (fun ls hl => ?_)
          refine lv_iload hx hb dX2_offer_69 (lv_at hl 2 rfl) ?_
          refine lv_aload_n hx hb dX2_offer_71 rfl (lv_at hl 4 rfl) ?_
          refine va_get (D := (dC, dI)) (ci := 2) (v := .ref p1) (C := RX2) (T := TX2) (N := 8) hx hb hts (by decide +kernel) hown hK hP 0 rfl rfl 0 (by decide) (hts (.fieldLink RX2 11 "DeltaCodec$Planner" "bytesLeft" "[I") (by decide +kernel)) (fun _ h9 => h9) rfl dX2_offer_72 ?_
          refine lv_iload_n hx hb dX2_offer_75 rfl (lv_at hl 5 rfl) ?_
          refine va_iald hx hb hK hP 1 0 rfl rfl (zz_ka h1) dX2_offer_76 ?_
          refine lv_topi (fun x_868 ex_868 => ?_)
          refine lv_icmp_ne (tgt := 95) hx hb dX2_offer_77 (by decide) (fun c77 => ?_) (fun c77 => ?_)
          · skip
            refine lv_iconst (v := 0) hx hb dX2_offer_95 (by decide) ?_
            refine lv_istore (lv' := [(9, .int 0), (8, .int 0), (7, .int x_866), (6, .int x_864), (5, .int (nI ka + nI kb)), (0, .ref h0), (1, .int (nI ka)), (2, .int q1), (3, .int (nI kb)), (4, .int q3)]) hx hb dX2_offer_96 hl (by decide) rfl (fun ls hl => ?_)
            refine lv_iload hx hb dX2_offer_98 (lv_at hl 1 rfl) ?_
            refine lv_if_ne (tgt := 108) hx hb dX2_offer_100 (by decide) (fun h => absurd h (by decide)) (fun c100 => ?_)
            refine lv_iload hx hb dX2_offer_103 (lv_at hl 0 rfl) ?_
            refine lv_if_eq (tgt := 146) hx hb dX2_offer_105 (by decide) (fun c105 => ?_) (fun h => absurd h (by decide))
            have hP9 := hP.sub (ws' := [(h0, .inr (2, [.ref p1, .ref p2, .ref p3, .ref p4, .ref p5, .ref p6, .ref p7, .ref p8])), (p1, .inl (cI, 151, .inl e19)), (p2, .inl (cI, 151, .inl e29)), (p3, .inl (cI, 151, .inl e39)), (p4, .inl (cI, 151, .inl e49)), (p5, .inl (cI, 151, .inl e59))]) [0, 1, 2, 3, 4, 5] rfl
            have hD9 := hD.sub (ws' := [(h0, .inr (2, [.ref p1, .ref p2, .ref p3, .ref p4, .ref p5, .ref p6, .ref p7, .ref p8])), (p1, .inl (cI, 151, .inl e19)), (p2, .inl (cI, 151, .inl e29)), (p3, .inl (cI, 151, .inl e39)), (p4, .inl (cI, 151, .inl e49)), (p5, .inl (cI, 151, .inl e59))]) [0, 1, 2, 3, 4, 5] (by decide) rfl
            exact W.vret hx hb hr (fun t ht hW => ⟨⟨(e19, e29, e39, e49, e59), rfl, trivial, ⟨by rw [ht]; exact hP9, hD9⟩⟩, hS.F ht⟩) hS.2.2 dX2_offer_146
          · skip
            refine lv_iload hx hb dX2_offer_80 (lv_at hl 1 rfl) ?_
            refine lv_aload_n hx hb dX2_offer_82 rfl (lv_at hl 4 rfl) ?_
            refine va_get (D := (dC, dI)) (ci := 2) (v := .ref p2) (C := RX2) (T := TX2) (N := 8) hx hb hts (by decide +kernel) hown hK hP 0 rfl rfl 1 (by decide) (hts (.fieldLink RX2 15 "DeltaCodec$Planner" "stepsLeft" "[I") (by decide +kernel)) (fun _ h9 => h9) rfl dX2_offer_83 ?_
            refine lv_iload_n hx hb dX2_offer_86 rfl (lv_at hl 5 rfl) ?_
            refine va_iald hx hb hK hP 2 0 rfl rfl (zz_ka h1) dX2_offer_87 ?_
            refine lv_topi (fun x_869 ex_869 => ?_)
            refine lv_icmp_ge (tgt := 95) hx hb dX2_offer_88 (by decide) (fun c88 => ?_) (fun c88 => ?_)
            · skip
              refine lv_iconst (v := 0) hx hb dX2_offer_95 (by decide) ?_
              refine lv_istore (lv' := [(9, .int 0), (8, .int 0), (7, .int x_866), (6, .int x_864), (5, .int (nI ka + nI kb)), (0, .ref h0), (1, .int (nI ka)), (2, .int q1), (3, .int (nI kb)), (4, .int q3)]) hx hb dX2_offer_96 hl (by decide) rfl (fun ls hl => ?_)
              refine lv_iload hx hb dX2_offer_98 (lv_at hl 1 rfl) ?_
              refine lv_if_ne (tgt := 108) hx hb dX2_offer_100 (by decide) (fun h => absurd h (by decide)) (fun c100 => ?_)
              refine lv_iload hx hb dX2_offer_103 (lv_at hl 0 rfl) ?_
              refine lv_if_eq (tgt := 146) hx hb dX2_offer_105 (by decide) (fun c105 => ?_) (fun h => absurd h (by decide))
              have hP9 := hP.sub (ws' := [(h0, .inr (2, [.ref p1, .ref p2, .ref p3, .ref p4, .ref p5, .ref p6, .ref p7, .ref p8])), (p1, .inl (cI, 151, .inl e19)), (p2, .inl (cI, 151, .inl e29)), (p3, .inl (cI, 151, .inl e39)), (p4, .inl (cI, 151, .inl e49)), (p5, .inl (cI, 151, .inl e59))]) [0, 1, 2, 3, 4, 5] rfl
              have hD9 := hD.sub (ws' := [(h0, .inr (2, [.ref p1, .ref p2, .ref p3, .ref p4, .ref p5, .ref p6, .ref p7, .ref p8])), (p1, .inl (cI, 151, .inl e19)), (p2, .inl (cI, 151, .inl e29)), (p3, .inl (cI, 151, .inl e39)), (p4, .inl (cI, 151, .inl e49)), (p5, .inl (cI, 151, .inl e59))]) [0, 1, 2, 3, 4, 5] (by decide) rfl
              exact W.vret hx hb hr (fun t ht hW => ⟨⟨(e19, e29, e39, e49, e59), rfl, trivial, ⟨by rw [ht]; exact hP9, hD9⟩⟩, hS.F ht⟩) hS.2.2 dX2_offer_146
            · skip
              refine lv_iconst (v := 1) hx hb dX2_offer_91 (by decide) ?_
              refine lv_goto (tgt := 96) hx hb dX2_offer_92 (by decide) ?_
              refine lv_istore (lv' := [(9, .int 1), (8, .int 0), (7, .int x_866), (6, .int x_864), (5, .int (nI ka + nI kb)), (0, .ref h0), (1, .int (nI ka)), (2, .int q1), (3, .int (nI kb)), (4, .int q3)]) hx hb dX2_offer_96 hl (by decide) rfl (fun ls hl => ?_)
              refine lv_iload hx hb dX2_offer_98 (lv_at hl 1 rfl) ?_
              refine lv_if_ne (tgt := 108) hx hb dX2_offer_100 (by decide) (fun h => absurd h (by decide)) (fun c100 => ?_)
              refine lv_iload hx hb dX2_offer_103 (lv_at hl 0 rfl) ?_
              refine lv_if_eq (tgt := 146) hx hb dX2_offer_105 (by decide) (fun h => absurd h (by decide)) (fun c105 => ?_)
              refine lv_aload_n hx hb dX2_offer_108 rfl (lv_at hl 5 rfl) ?_
              refine va_get (D := (dC, dI)) (ci := 2) (v := .ref p1) (C := RX2) (T := TX2) (N := 8) hx hb hts (by decide +kernel) hown hK hP 0 rfl rfl 0 (by decide) (hts (.fieldLink RX2 11 "DeltaCodec$Planner" "bytesLeft" "[I") (by decide +kernel)) (fun _ h9 => h9) rfl dX2_offer_109 ?_
              refine lv_iload_n hx hb dX2_offer_112 rfl (lv_at hl 6 rfl) ?_
              refine lv_iload hx hb dX2_offer_113 (lv_at hl 3 rfl) ?_
              refine va_iast hx hb hK hP hD hS 1 0 rfl rfl (zz_ka h1) dX2_offer_115 (fun H locs hP hD hS => ?_)
              obtain ⟨f_870, ef_870⟩ : ∃ g, g = upd e19 (nI ka : Int32).toNatClampNeg x_864 := ⟨_, rfl⟩
              rw [← ef_870] at hP hD
              have hP : va_P (dC, dI) vwCl [(h0, .inr (2, [.ref p1, .ref p2, .ref p3, .ref p4, .ref p5, .ref p6, .ref p7, .ref p8])), (p1, .inl (cI, 151, .inl f_870)), (p2, .inl (cI, 151, .inl e29)), (p3, .inl (cI, 151, .inl e39)), (p4, .inl (cI, 151, .inl e49)), (p5, .inl (cI, 151, .inl e59))] H := hP
              have hD : va_D A [(h0, .inr (2, [.ref p1, .ref p2, .ref p3, .ref p4, .ref p5, .ref p6, .ref p7, .ref p8])), (p1, .inl (cI, 151, .inl f_870)), (p2, .inl (cI, 151, .inl e29)), (p3, .inl (cI, 151, .inl e39)), (p4, .inl (cI, 151, .inl e49)), (p5, .inl (cI, 151, .inl e59))] := hD
              refine lv_aload_n hx hb dX2_offer_116 rfl (lv_at hl 5 rfl) ?_
              refine va_get (D := (dC, dI)) (ci := 2) (v := .ref p2) (C := RX2) (T := TX2) (N := 8) hx hb hts (by decide +kernel) hown hK hP 0 rfl rfl 1 (by decide) (hts (.fieldLink RX2 15 "DeltaCodec$Planner" "stepsLeft" "[I") (by decide +kernel)) (fun _ h9 => h9) rfl dX2_offer_117 ?_
              refine lv_iload_n hx hb dX2_offer_120 rfl (lv_at hl 6 rfl) ?_
              refine lv_iload hx hb dX2_offer_121 (lv_at hl 2 rfl) ?_
              refine va_iast hx hb hK hP hD hS 2 0 rfl rfl (zz_ka h1) dX2_offer_123 (fun H locs hP hD hS => ?_)
              obtain ⟨f_871, ef_871⟩ : ∃ g, g = upd e29 (nI ka : Int32).toNatClampNeg x_866 := ⟨_, rfl⟩
              rw [← ef_871] at hP hD
              have hP : va_P (dC, dI) vwCl [(h0, .inr (2, [.ref p1, .ref p2, .ref p3, .ref p4, .ref p5, .ref p6, .ref p7, .ref p8])), (p1, .inl (cI, 151, .inl f_870)), (p2, .inl (cI, 151, .inl f_871)), (p3, .inl (cI, 151, .inl e39)), (p4, .inl (cI, 151, .inl e49)), (p5, .inl (cI, 151, .inl e59))] H := hP
              have hD : va_D A [(h0, .inr (2, [.ref p1, .ref p2, .ref p3, .ref p4, .ref p5, .ref p6, .ref p7, .ref p8])), (p1, .inl (cI, 151, .inl f_870)), (p2, .inl (cI, 151, .inl f_871)), (p3, .inl (cI, 151, .inl e39)), (p4, .inl (cI, 151, .inl e49)), (p5, .inl (cI, 151, .inl e59))] := hD
              refine lv_aload_n hx hb dX2_offer_124 rfl (lv_at hl 5 rfl) ?_
              refine va_get (D := (dC, dI)) (ci := 2) (v := .ref p3) (C := RX2) (T := TX2) (N := 8) hx hb hts (by decide +kernel) hown hK hP 0 rfl rfl 2 (by decide) (hts (.fieldLink RX2 18 "DeltaCodec$Planner" "kinds" "[I") (by decide +kernel)) (fun _ h9 => h9) rfl dX2_offer_125 ?_
              refine lv_iload_n hx hb dX2_offer_128 rfl (lv_at hl 6 rfl) ?_
              refine lv_iload_n hx hb dX2_offer_129 rfl (lv_at hl 7 rfl) ?_
              refine va_iast hx hb hK hP hD hS 3 0 rfl rfl (zz_ka h1) dX2_offer_130 (fun H locs hP hD hS => ?_)
              obtain ⟨f_872, ef_872⟩ : ∃ g, g = upd e39 (nI ka : Int32).toNatClampNeg q1 := ⟨_, rfl⟩
              rw [← ef_872] at hP hD
              have hP : va_P (dC, dI) vwCl [(h0, .inr (2, [.ref p1, .ref p2, .ref p3, .ref p4, .ref p5, .ref p6, .ref p7, .ref p8])), (p1, .inl (cI, 151, .inl f_870)), (p2, .inl (cI, 151, .inl f_871)), (p3, .inl (cI, 151, .inl f_872)), (p4, .inl (cI, 151, .inl e49)), (p5, .inl (cI, 151, .inl e59))] H := hP
              have hD : va_D A [(h0, .inr (2, [.ref p1, .ref p2, .ref p3, .ref p4, .ref p5, .ref p6, .ref p7, .ref p8])), (p1, .inl (cI, 151, .inl f_870)), (p2, .inl (cI, 151, .inl f_871)), (p3, .inl (cI, 151, .inl f_872)), (p4, .inl (cI, 151, .inl e49)), (p5, .inl (cI, 151, .inl e59))] := hD
              refine lv_aload_n hx hb dX2_offer_131 rfl (lv_at hl 5 rfl) ?_
              refine va_get (D := (dC, dI)) (ci := 2) (v := .ref p4) (C := RX2) (T := TX2) (N := 8) hx hb hts (by decide +kernel) hown hK hP 0 rfl rfl 3 (by decide) (hts (.fieldLink RX2 21 "DeltaCodec$Planner" "lengths" "[I") (by decide +kernel)) (fun _ h9 => h9) rfl dX2_offer_132 ?_
              refine lv_iload_n hx hb dX2_offer_135 rfl (lv_at hl 6 rfl) ?_
              refine lv_iload_n hx hb dX2_offer_136 rfl (lv_at hl 8 rfl) ?_
              refine va_iast hx hb hK hP hD hS 4 0 rfl rfl (zz_ka h1) dX2_offer_137 (fun H locs hP hD hS => ?_)
              obtain ⟨f_873, ef_873⟩ : ∃ g, g = upd e49 (nI ka : Int32).toNatClampNeg (nI kb) := ⟨_, rfl⟩
              rw [← ef_873] at hP hD
              have hP : va_P (dC, dI) vwCl [(h0, .inr (2, [.ref p1, .ref p2, .ref p3, .ref p4, .ref p5, .ref p6, .ref p7, .ref p8])), (p1, .inl (cI, 151, .inl f_870)), (p2, .inl (cI, 151, .inl f_871)), (p3, .inl (cI, 151, .inl f_872)), (p4, .inl (cI, 151, .inl f_873)), (p5, .inl (cI, 151, .inl e59))] H := hP
              have hD : va_D A [(h0, .inr (2, [.ref p1, .ref p2, .ref p3, .ref p4, .ref p5, .ref p6, .ref p7, .ref p8])), (p1, .inl (cI, 151, .inl f_870)), (p2, .inl (cI, 151, .inl f_871)), (p3, .inl (cI, 151, .inl f_872)), (p4, .inl (cI, 151, .inl f_873)), (p5, .inl (cI, 151, .inl e59))] := hD
              refine lv_aload_n hx hb dX2_offer_138 rfl (lv_at hl 5 rfl) ?_
              refine va_get (D := (dC, dI)) (ci := 2) (v := .ref p5) (C := RX2) (T := TX2) (N := 8) hx hb hts (by decide +kernel) hown hK hP 0 rfl rfl 4 (by decide) (hts (.fieldLink RX2 24 "DeltaCodec$Planner" "operands" "[I") (by decide +kernel)) (fun _ h9 => h9) rfl dX2_offer_139 ?_
              refine lv_iload_n hx hb dX2_offer_142 rfl (lv_at hl 6 rfl) ?_
              refine lv_iload hx hb dX2_offer_143 (lv_at hl 9 rfl) ?_
              refine va_iast hx hb hK hP hD hS 5 0 rfl rfl (zz_ka h1) dX2_offer_145 (fun H locs hP hD hS => ?_)
              obtain ⟨f_874, ef_874⟩ : ∃ g, g = upd e59 (nI ka : Int32).toNatClampNeg q3 := ⟨_, rfl⟩
              rw [← ef_874] at hP hD
              have hP : va_P (dC, dI) vwCl [(h0, .inr (2, [.ref p1, .ref p2, .ref p3, .ref p4, .ref p5, .ref p6, .ref p7, .ref p8])), (p1, .inl (cI, 151, .inl f_870)), (p2, .inl (cI, 151, .inl f_871)), (p3, .inl (cI, 151, .inl f_872)), (p4, .inl (cI, 151, .inl f_873)), (p5, .inl (cI, 151, .inl f_874))] H := hP
              have hD : va_D A [(h0, .inr (2, [.ref p1, .ref p2, .ref p3, .ref p4, .ref p5, .ref p6, .ref p7, .ref p8])), (p1, .inl (cI, 151, .inl f_870)), (p2, .inl (cI, 151, .inl f_871)), (p3, .inl (cI, 151, .inl f_872)), (p4, .inl (cI, 151, .inl f_873)), (p5, .inl (cI, 151, .inl f_874))] := hD
              have hP9 := hP.sub (ws' := [(h0, .inr (2, [.ref p1, .ref p2, .ref p3, .ref p4, .ref p5, .ref p6, .ref p7, .ref p8])), (p1, .inl (cI, 151, .inl f_870)), (p2, .inl (cI, 151, .inl f_871)), (p3, .inl (cI, 151, .inl f_872)), (p4, .inl (cI, 151, .inl f_873)), (p5, .inl (cI, 151, .inl f_874))]) [0, 1, 2, 3, 4, 5] rfl
              have hD9 := hD.sub (ws' := [(h0, .inr (2, [.ref p1, .ref p2, .ref p3, .ref p4, .ref p5, .ref p6, .ref p7, .ref p8])), (p1, .inl (cI, 151, .inl f_870)), (p2, .inl (cI, 151, .inl f_871)), (p3, .inl (cI, 151, .inl f_872)), (p4, .inl (cI, 151, .inl f_873)), (p5, .inl (cI, 151, .inl f_874))]) [0, 1, 2, 3, 4, 5] (by decide) rfl
              exact W.vret hx hb hr (fun t ht hW => ⟨⟨(f_870, f_871, f_872, f_873, f_874), rfl, trivial, ⟨by rw [ht]; exact hP9, hD9⟩⟩, hS.F ht⟩) hS.2.2 dX2_offer_146
        · skip
          refine lv_iconst (v := 1) hx hb dX2_offer_62 (by decide) ?_
          refine lv_goto (tgt := 67) hx hb dX2_offer_63 (by decide) ?_
          refine lv_istore (lv' := [(8, .int 1), (7, .int x_866), (6, .int x_864), (5, .int (nI ka + nI kb)), (0, .ref h0), (1, .int (nI ka)), (2, .int q1), (3, .int (nI kb)), (4, .int q3)]) hx hb dX2_offer_67 hl (by decide) rfl (fun ls hl => ?_)
          refine lv_iload hx hb dX2_offer_69 (lv_at hl 2 rfl) ?_
          refine lv_aload_n hx hb dX2_offer_71 rfl (lv_at hl 4 rfl) ?_
          refine va_get (D := (dC, dI)) (ci := 2) (v := .ref p1) (C := RX2) (T := TX2) (N := 8) hx hb hts (by decide +kernel) hown hK hP 0 rfl rfl 0 (by decide) (hts (.fieldLink RX2 11 "DeltaCodec$Planner" "bytesLeft" "[I") (by decide +kernel)) (fun _ h9 => h9) rfl dX2_offer_72 ?_
          refine lv_iload_n hx hb dX2_offer_75 rfl (lv_at hl 5 rfl) ?_
          refine va_iald hx hb hK hP 1 0 rfl rfl (zz_ka h1) dX2_offer_76 ?_
          refine lv_topi (fun x_875 ex_875 => ?_)
          refine lv_icmp_ne (tgt := 95) hx hb dX2_offer_77 (by decide) (fun c77 => ?_) (fun c77 => ?_)
          · skip
            refine lv_iconst (v := 0) hx hb dX2_offer_95 (by decide) ?_
            refine lv_istore (lv' := [(9, .int 0), (8, .int 1), (7, .int x_866), (6, .int x_864), (5, .int (nI ka + nI kb)), (0, .ref h0), (1, .int (nI ka)), (2, .int q1), (3, .int (nI kb)), (4, .int q3)]) hx hb dX2_offer_96 hl (by decide) rfl (fun ls hl => ?_)
            refine lv_iload hx hb dX2_offer_98 (lv_at hl 1 rfl) ?_
            refine lv_if_ne (tgt := 108) hx hb dX2_offer_100 (by decide) (fun c100 => ?_) (fun h => absurd h (by decide))
            refine lv_aload_n hx hb dX2_offer_108 rfl (lv_at hl 5 rfl) ?_
            refine va_get (D := (dC, dI)) (ci := 2) (v := .ref p1) (C := RX2) (T := TX2) (N := 8) hx hb hts (by decide +kernel) hown hK hP 0 rfl rfl 0 (by decide) (hts (.fieldLink RX2 11 "DeltaCodec$Planner" "bytesLeft" "[I") (by decide +kernel)) (fun _ h9 => h9) rfl dX2_offer_109 ?_
            refine lv_iload_n hx hb dX2_offer_112 rfl (lv_at hl 6 rfl) ?_
            refine lv_iload hx hb dX2_offer_113 (lv_at hl 3 rfl) ?_
            refine va_iast hx hb hK hP hD hS 1 0 rfl rfl (zz_ka h1) dX2_offer_115 (fun H locs hP hD hS => ?_)
            obtain ⟨f_876, ef_876⟩ : ∃ g, g = upd e19 (nI ka : Int32).toNatClampNeg x_864 := ⟨_, rfl⟩
            rw [← ef_876] at hP hD
            have hP : va_P (dC, dI) vwCl [(h0, .inr (2, [.ref p1, .ref p2, .ref p3, .ref p4, .ref p5, .ref p6, .ref p7, .ref p8])), (p1, .inl (cI, 151, .inl f_876)), (p2, .inl (cI, 151, .inl e29)), (p3, .inl (cI, 151, .inl e39)), (p4, .inl (cI, 151, .inl e49)), (p5, .inl (cI, 151, .inl e59))] H := hP
            have hD : va_D A [(h0, .inr (2, [.ref p1, .ref p2, .ref p3, .ref p4, .ref p5, .ref p6, .ref p7, .ref p8])), (p1, .inl (cI, 151, .inl f_876)), (p2, .inl (cI, 151, .inl e29)), (p3, .inl (cI, 151, .inl e39)), (p4, .inl (cI, 151, .inl e49)), (p5, .inl (cI, 151, .inl e59))] := hD
            refine lv_aload_n hx hb dX2_offer_116 rfl (lv_at hl 5 rfl) ?_
            refine va_get (D := (dC, dI)) (ci := 2) (v := .ref p2) (C := RX2) (T := TX2) (N := 8) hx hb hts (by decide +kernel) hown hK hP 0 rfl rfl 1 (by decide) (hts (.fieldLink RX2 15 "DeltaCodec$Planner" "stepsLeft" "[I") (by decide +kernel)) (fun _ h9 => h9) rfl dX2_offer_117 ?_
            refine lv_iload_n hx hb dX2_offer_120 rfl (lv_at hl 6 rfl) ?_
            refine lv_iload hx hb dX2_offer_121 (lv_at hl 2 rfl) ?_
            refine va_iast hx hb hK hP hD hS 2 0 rfl rfl (zz_ka h1) dX2_offer_123 (fun H locs hP hD hS => ?_)
            obtain ⟨f_877, ef_877⟩ : ∃ g, g = upd e29 (nI ka : Int32).toNatClampNeg x_866 := ⟨_, rfl⟩
            rw [← ef_877] at hP hD
            have hP : va_P (dC, dI) vwCl [(h0, .inr (2, [.ref p1, .ref p2, .ref p3, .ref p4, .ref p5, .ref p6, .ref p7, .ref p8])), (p1, .inl (cI, 151, .inl f_876)), (p2, .inl (cI, 151, .inl f_877)), (p3, .inl (cI, 151, .inl e39)), (p4, .inl (cI, 151, .inl e49)), (p5, .inl (cI, 151, .inl e59))] H := hP
            have hD : va_D A [(h0, .inr (2, [.ref p1, .ref p2, .ref p3, .ref p4, .ref p5, .ref p6, .ref p7, .ref p8])), (p1, .inl (cI, 151, .inl f_876)), (p2, .inl (cI, 151, .inl f_877)), (p3, .inl (cI, 151, .inl e39)), (p4, .inl (cI, 151, .inl e49)), (p5, .inl (cI, 151, .inl e59))] := hD
            refine lv_aload_n hx hb dX2_offer_124 rfl (lv_at hl 5 rfl) ?_
            refine va_get (D := (dC, dI)) (ci := 2) (v := .ref p3) (C := RX2) (T := TX2) (N := 8) hx hb hts (by decide +kernel) hown hK hP 0 rfl rfl 2 (by decide) (hts (.fieldLink RX2 18 "DeltaCodec$Planner" "kinds" "[I") (by decide +kernel)) (fun _ h9 => h9) rfl dX2_offer_125 ?_
            refine lv_iload_n hx hb dX2_offer_128 rfl (lv_at hl 6 rfl) ?_
            refine lv_iload_n hx hb dX2_offer_129 rfl (lv_at hl 7 rfl) ?_
            refine va_iast hx hb hK hP hD hS 3 0 rfl rfl (zz_ka h1) dX2_offer_130 (fun H locs hP hD hS => ?_)
            obtain ⟨f_878, ef_878⟩ : ∃ g, g = upd e39 (nI ka : Int32).toNatClampNeg q1 := ⟨_, rfl⟩
            rw [← ef_878] at hP hD
            have hP : va_P (dC, dI) vwCl [(h0, .inr (2, [.ref p1, .ref p2, .ref p3, .ref p4, .ref p5, .ref p6, .ref p7, .ref p8])), (p1, .inl (cI, 151, .inl f_876)), (p2, .inl (cI, 151, .inl f_877)), (p3, .inl (cI, 151, .inl f_878)), (p4, .inl (cI, 151, .inl e49)), (p5, .inl (cI, 151, .inl e59))] H := hP
            have hD : va_D A [(h0, .inr (2, [.ref p1, .ref p2, .ref p3, .ref p4, .ref p5, .ref p6, .ref p7, .ref p8])), (p1, .inl (cI, 151, .inl f_876)), (p2, .inl (cI, 151, .inl f_877)), (p3, .inl (cI, 151, .inl f_878)), (p4, .inl (cI, 151, .inl e49)), (p5, .inl (cI, 151, .inl e59))] := hD
            refine lv_aload_n hx hb dX2_offer_131 rfl (lv_at hl 5 rfl) ?_
            refine va_get (D := (dC, dI)) (ci := 2) (v := .ref p4) (C := RX2) (T := TX2) (N := 8) hx hb hts (by decide +kernel) hown hK hP 0 rfl rfl 3 (by decide) (hts (.fieldLink RX2 21 "DeltaCodec$Planner" "lengths" "[I") (by decide +kernel)) (fun _ h9 => h9) rfl dX2_offer_132 ?_
            refine lv_iload_n hx hb dX2_offer_135 rfl (lv_at hl 6 rfl) ?_
            refine lv_iload_n hx hb dX2_offer_136 rfl (lv_at hl 8 rfl) ?_
            refine va_iast hx hb hK hP hD hS 4 0 rfl rfl (zz_ka h1) dX2_offer_137 (fun H locs hP hD hS => ?_)
            obtain ⟨f_879, ef_879⟩ : ∃ g, g = upd e49 (nI ka : Int32).toNatClampNeg (nI kb) := ⟨_, rfl⟩
            rw [← ef_879] at hP hD
            have hP : va_P (dC, dI) vwCl [(h0, .inr (2, [.ref p1, .ref p2, .ref p3, .ref p4, .ref p5, .ref p6, .ref p7, .ref p8])), (p1, .inl (cI, 151, .inl f_876)), (p2, .inl (cI, 151, .inl f_877)), (p3, .inl (cI, 151, .inl f_878)), (p4, .inl (cI, 151, .inl f_879)), (p5, .inl (cI, 151, .inl e59))] H := hP
            have hD : va_D A [(h0, .inr (2, [.ref p1, .ref p2, .ref p3, .ref p4, .ref p5, .ref p6, .ref p7, .ref p8])), (p1, .inl (cI, 151, .inl f_876)), (p2, .inl (cI, 151, .inl f_877)), (p3, .inl (cI, 151, .inl f_878)), (p4, .inl (cI, 151, .inl f_879)), (p5, .inl (cI, 151, .inl e59))] := hD
            refine lv_aload_n hx hb dX2_offer_138 rfl (lv_at hl 5 rfl) ?_
            refine va_get (D := (dC, dI)) (ci := 2) (v := .ref p5) (C := RX2) (T := TX2) (N := 8) hx hb hts (by decide +kernel) hown hK hP 0 rfl rfl 4 (by decide) (hts (.fieldLink RX2 24 "DeltaCodec$Planner" "operands" "[I") (by decide +kernel)) (fun _ h9 => h9) rfl dX2_offer_139 ?_
            refine lv_iload_n hx hb dX2_offer_142 rfl (lv_at hl 6 rfl) ?_
            refine lv_iload hx hb dX2_offer_143 (lv_at hl 9 rfl) ?_
            refine va_iast hx hb hK hP hD hS 5 0 rfl rfl (zz_ka h1) dX2_offer_145 (fun H locs hP hD hS => ?_)
            obtain ⟨f_880, ef_880⟩ : ∃ g, g = upd e59 (nI ka : Int32).toNatClampNeg q3 := ⟨_, rfl⟩
            rw [← ef_880] at hP hD
            have hP : va_P (dC, dI) vwCl [(h0, .inr (2, [.ref p1, .ref p2, .ref p3, .ref p4, .ref p5, .ref p6, .ref p7, .ref p8])), (p1, .inl (cI, 151, .inl f_876)), (p2, .inl (cI, 151, .inl f_877)), (p3, .inl (cI, 151, .inl f_878)), (p4, .inl (cI, 151, .inl f_879)), (p5, .inl (cI, 151, .inl f_880))] H := hP
            have hD : va_D A [(h0, .inr (2, [.ref p1, .ref p2, .ref p3, .ref p4, .ref p5, .ref p6, .ref p7, .ref p8])), (p1, .inl (cI, 151, .inl f_876)), (p2, .inl (cI, 151, .inl f_877)), (p3, .inl (cI, 151, .inl f_878)), (p4, .inl (cI, 151, .inl f_879)), (p5, .inl (cI, 151, .inl f_880))] := hD
            have hP9 := hP.sub (ws' := [(h0, .inr (2, [.ref p1, .ref p2, .ref p3, .ref p4, .ref p5, .ref p6, .ref p7, .ref p8])), (p1, .inl (cI, 151, .inl f_876)), (p2, .inl (cI, 151, .inl f_877)), (p3, .inl (cI, 151, .inl f_878)), (p4, .inl (cI, 151, .inl f_879)), (p5, .inl (cI, 151, .inl f_880))]) [0, 1, 2, 3, 4, 5] rfl
            have hD9 := hD.sub (ws' := [(h0, .inr (2, [.ref p1, .ref p2, .ref p3, .ref p4, .ref p5, .ref p6, .ref p7, .ref p8])), (p1, .inl (cI, 151, .inl f_876)), (p2, .inl (cI, 151, .inl f_877)), (p3, .inl (cI, 151, .inl f_878)), (p4, .inl (cI, 151, .inl f_879)), (p5, .inl (cI, 151, .inl f_880))]) [0, 1, 2, 3, 4, 5] (by decide) rfl
            exact W.vret hx hb hr (fun t ht hW => ⟨⟨(f_876, f_877, f_878, f_879, f_880), rfl, trivial, ⟨by rw [ht]; exact hP9, hD9⟩⟩, hS.F ht⟩) hS.2.2 dX2_offer_146
          · skip
            refine lv_iload hx hb dX2_offer_80 (lv_at hl 1 rfl) ?_
            refine lv_aload_n hx hb dX2_offer_82 rfl (lv_at hl 4 rfl) ?_
            refine va_get (D := (dC, dI)) (ci := 2) (v := .ref p2) (C := RX2) (T := TX2) (N := 8) hx hb hts (by decide +kernel) hown hK hP 0 rfl rfl 1 (by decide) (hts (.fieldLink RX2 15 "DeltaCodec$Planner" "stepsLeft" "[I") (by decide +kernel)) (fun _ h9 => h9) rfl dX2_offer_83 ?_
            refine lv_iload_n hx hb dX2_offer_86 rfl (lv_at hl 5 rfl) ?_
            refine va_iald hx hb hK hP 2 0 rfl rfl (zz_ka h1) dX2_offer_87 ?_
            refine lv_topi (fun x_881 ex_881 => ?_)
            refine lv_icmp_ge (tgt := 95) hx hb dX2_offer_88 (by decide) (fun c88 => ?_) (fun c88 => ?_)
            · skip
              refine lv_iconst (v := 0) hx hb dX2_offer_95 (by decide) ?_
              refine lv_istore (lv' := [(9, .int 0), (8, .int 1), (7, .int x_866), (6, .int x_864), (5, .int (nI ka + nI kb)), (0, .ref h0), (1, .int (nI ka)), (2, .int q1), (3, .int (nI kb)), (4, .int q3)]) hx hb dX2_offer_96 hl (by decide) rfl (fun ls hl => ?_)
              refine lv_iload hx hb dX2_offer_98 (lv_at hl 1 rfl) ?_
              refine lv_if_ne (tgt := 108) hx hb dX2_offer_100 (by decide) (fun c100 => ?_) (fun h => absurd h (by decide))
              refine lv_aload_n hx hb dX2_offer_108 rfl (lv_at hl 5 rfl) ?_
              refine va_get (D := (dC, dI)) (ci := 2) (v := .ref p1) (C := RX2) (T := TX2) (N := 8) hx hb hts (by decide +kernel) hown hK hP 0 rfl rfl 0 (by decide) (hts (.fieldLink RX2 11 "DeltaCodec$Planner" "bytesLeft" "[I") (by decide +kernel)) (fun _ h9 => h9) rfl dX2_offer_109 ?_
              refine lv_iload_n hx hb dX2_offer_112 rfl (lv_at hl 6 rfl) ?_
              refine lv_iload hx hb dX2_offer_113 (lv_at hl 3 rfl) ?_
              refine va_iast hx hb hK hP hD hS 1 0 rfl rfl (zz_ka h1) dX2_offer_115 (fun H locs hP hD hS => ?_)
              obtain ⟨f_882, ef_882⟩ : ∃ g, g = upd e19 (nI ka : Int32).toNatClampNeg x_864 := ⟨_, rfl⟩
              rw [← ef_882] at hP hD
              have hP : va_P (dC, dI) vwCl [(h0, .inr (2, [.ref p1, .ref p2, .ref p3, .ref p4, .ref p5, .ref p6, .ref p7, .ref p8])), (p1, .inl (cI, 151, .inl f_882)), (p2, .inl (cI, 151, .inl e29)), (p3, .inl (cI, 151, .inl e39)), (p4, .inl (cI, 151, .inl e49)), (p5, .inl (cI, 151, .inl e59))] H := hP
              have hD : va_D A [(h0, .inr (2, [.ref p1, .ref p2, .ref p3, .ref p4, .ref p5, .ref p6, .ref p7, .ref p8])), (p1, .inl (cI, 151, .inl f_882)), (p2, .inl (cI, 151, .inl e29)), (p3, .inl (cI, 151, .inl e39)), (p4, .inl (cI, 151, .inl e49)), (p5, .inl (cI, 151, .inl e59))] := hD
              refine lv_aload_n hx hb dX2_offer_116 rfl (lv_at hl 5 rfl) ?_
              refine va_get (D := (dC, dI)) (ci := 2) (v := .ref p2) (C := RX2) (T := TX2) (N := 8) hx hb hts (by decide +kernel) hown hK hP 0 rfl rfl 1 (by decide) (hts (.fieldLink RX2 15 "DeltaCodec$Planner" "stepsLeft" "[I") (by decide +kernel)) (fun _ h9 => h9) rfl dX2_offer_117 ?_
              refine lv_iload_n hx hb dX2_offer_120 rfl (lv_at hl 6 rfl) ?_
              refine lv_iload hx hb dX2_offer_121 (lv_at hl 2 rfl) ?_
              refine va_iast hx hb hK hP hD hS 2 0 rfl rfl (zz_ka h1) dX2_offer_123 (fun H locs hP hD hS => ?_)
              obtain ⟨f_883, ef_883⟩ : ∃ g, g = upd e29 (nI ka : Int32).toNatClampNeg x_866 := ⟨_, rfl⟩
              rw [← ef_883] at hP hD
              have hP : va_P (dC, dI) vwCl [(h0, .inr (2, [.ref p1, .ref p2, .ref p3, .ref p4, .ref p5, .ref p6, .ref p7, .ref p8])), (p1, .inl (cI, 151, .inl f_882)), (p2, .inl (cI, 151, .inl f_883)), (p3, .inl (cI, 151, .inl e39)), (p4, .inl (cI, 151, .inl e49)), (p5, .inl (cI, 151, .inl e59))] H := hP
              have hD : va_D A [(h0, .inr (2, [.ref p1, .ref p2, .ref p3, .ref p4, .ref p5, .ref p6, .ref p7, .ref p8])), (p1, .inl (cI, 151, .inl f_882)), (p2, .inl (cI, 151, .inl f_883)), (p3, .inl (cI, 151, .inl e39)), (p4, .inl (cI, 151, .inl e49)), (p5, .inl (cI, 151, .inl e59))] := hD
              refine lv_aload_n hx hb dX2_offer_124 rfl (lv_at hl 5 rfl) ?_
              refine va_get (D := (dC, dI)) (ci := 2) (v := .ref p3) (C := RX2) (T := TX2) (N := 8) hx hb hts (by decide +kernel) hown hK hP 0 rfl rfl 2 (by decide) (hts (.fieldLink RX2 18 "DeltaCodec$Planner" "kinds" "[I") (by decide +kernel)) (fun _ h9 => h9) rfl dX2_offer_125 ?_
              refine lv_iload_n hx hb dX2_offer_128 rfl (lv_at hl 6 rfl) ?_
              refine lv_iload_n hx hb dX2_offer_129 rfl (lv_at hl 7 rfl) ?_
              refine va_iast hx hb hK hP hD hS 3 0 rfl rfl (zz_ka h1) dX2_offer_130 (fun H locs hP hD hS => ?_)
              obtain ⟨f_884, ef_884⟩ : ∃ g, g = upd e39 (nI ka : Int32).toNatClampNeg q1 := ⟨_, rfl⟩
              rw [← ef_884] at hP hD
              have hP : va_P (dC, dI) vwCl [(h0, .inr (2, [.ref p1, .ref p2, .ref p3, .ref p4, .ref p5, .ref p6, .ref p7, .ref p8])), (p1, .inl (cI, 151, .inl f_882)), (p2, .inl (cI, 151, .inl f_883)), (p3, .inl (cI, 151, .inl f_884)), (p4, .inl (cI, 151, .inl e49)), (p5, .inl (cI, 151, .inl e59))] H := hP
              have hD : va_D A [(h0, .inr (2, [.ref p1, .ref p2, .ref p3, .ref p4, .ref p5, .ref p6, .ref p7, .ref p8])), (p1, .inl (cI, 151, .inl f_882)), (p2, .inl (cI, 151, .inl f_883)), (p3, .inl (cI, 151, .inl f_884)), (p4, .inl (cI, 151, .inl e49)), (p5, .inl (cI, 151, .inl e59))] := hD
              refine lv_aload_n hx hb dX2_offer_131 rfl (lv_at hl 5 rfl) ?_
              refine va_get (D := (dC, dI)) (ci := 2) (v := .ref p4) (C := RX2) (T := TX2) (N := 8) hx hb hts (by decide +kernel) hown hK hP 0 rfl rfl 3 (by decide) (hts (.fieldLink RX2 21 "DeltaCodec$Planner" "lengths" "[I") (by decide +kernel)) (fun _ h9 => h9) rfl dX2_offer_132 ?_
              refine lv_iload_n hx hb dX2_offer_135 rfl (lv_at hl 6 rfl) ?_
              refine lv_iload_n hx hb dX2_offer_136 rfl (lv_at hl 8 rfl) ?_
              refine va_iast hx hb hK hP hD hS 4 0 rfl rfl (zz_ka h1) dX2_offer_137 (fun H locs hP hD hS => ?_)
              obtain ⟨f_885, ef_885⟩ : ∃ g, g = upd e49 (nI ka : Int32).toNatClampNeg (nI kb) := ⟨_, rfl⟩
              rw [← ef_885] at hP hD
              have hP : va_P (dC, dI) vwCl [(h0, .inr (2, [.ref p1, .ref p2, .ref p3, .ref p4, .ref p5, .ref p6, .ref p7, .ref p8])), (p1, .inl (cI, 151, .inl f_882)), (p2, .inl (cI, 151, .inl f_883)), (p3, .inl (cI, 151, .inl f_884)), (p4, .inl (cI, 151, .inl f_885)), (p5, .inl (cI, 151, .inl e59))] H := hP
              have hD : va_D A [(h0, .inr (2, [.ref p1, .ref p2, .ref p3, .ref p4, .ref p5, .ref p6, .ref p7, .ref p8])), (p1, .inl (cI, 151, .inl f_882)), (p2, .inl (cI, 151, .inl f_883)), (p3, .inl (cI, 151, .inl f_884)), (p4, .inl (cI, 151, .inl f_885)), (p5, .inl (cI, 151, .inl e59))] := hD
              refine lv_aload_n hx hb dX2_offer_138 rfl (lv_at hl 5 rfl) ?_
              refine va_get (D := (dC, dI)) (ci := 2) (v := .ref p5) (C := RX2) (T := TX2) (N := 8) hx hb hts (by decide +kernel) hown hK hP 0 rfl rfl 4 (by decide) (hts (.fieldLink RX2 24 "DeltaCodec$Planner" "operands" "[I") (by decide +kernel)) (fun _ h9 => h9) rfl dX2_offer_139 ?_
              refine lv_iload_n hx hb dX2_offer_142 rfl (lv_at hl 6 rfl) ?_
              refine lv_iload hx hb dX2_offer_143 (lv_at hl 9 rfl) ?_
              refine va_iast hx hb hK hP hD hS 5 0 rfl rfl (zz_ka h1) dX2_offer_145 (fun H locs hP hD hS => ?_)
              obtain ⟨f_886, ef_886⟩ : ∃ g, g = upd e59 (nI ka : Int32).toNatClampNeg q3 := ⟨_, rfl⟩
              rw [← ef_886] at hP hD
              have hP : va_P (dC, dI) vwCl [(h0, .inr (2, [.ref p1, .ref p2, .ref p3, .ref p4, .ref p5, .ref p6, .ref p7, .ref p8])), (p1, .inl (cI, 151, .inl f_882)), (p2, .inl (cI, 151, .inl f_883)), (p3, .inl (cI, 151, .inl f_884)), (p4, .inl (cI, 151, .inl f_885)), (p5, .inl (cI, 151, .inl f_886))] H := hP
              have hD : va_D A [(h0, .inr (2, [.ref p1, .ref p2, .ref p3, .ref p4, .ref p5, .ref p6, .ref p7, .ref p8])), (p1, .inl (cI, 151, .inl f_882)), (p2, .inl (cI, 151, .inl f_883)), (p3, .inl (cI, 151, .inl f_884)), (p4, .inl (cI, 151, .inl f_885)), (p5, .inl (cI, 151, .inl f_886))] := hD
              have hP9 := hP.sub (ws' := [(h0, .inr (2, [.ref p1, .ref p2, .ref p3, .ref p4, .ref p5, .ref p6, .ref p7, .ref p8])), (p1, .inl (cI, 151, .inl f_882)), (p2, .inl (cI, 151, .inl f_883)), (p3, .inl (cI, 151, .inl f_884)), (p4, .inl (cI, 151, .inl f_885)), (p5, .inl (cI, 151, .inl f_886))]) [0, 1, 2, 3, 4, 5] rfl
              have hD9 := hD.sub (ws' := [(h0, .inr (2, [.ref p1, .ref p2, .ref p3, .ref p4, .ref p5, .ref p6, .ref p7, .ref p8])), (p1, .inl (cI, 151, .inl f_882)), (p2, .inl (cI, 151, .inl f_883)), (p3, .inl (cI, 151, .inl f_884)), (p4, .inl (cI, 151, .inl f_885)), (p5, .inl (cI, 151, .inl f_886))]) [0, 1, 2, 3, 4, 5] (by decide) rfl
              exact W.vret hx hb hr (fun t ht hW => ⟨⟨(f_882, f_883, f_884, f_885, f_886), rfl, trivial, ⟨by rw [ht]; exact hP9, hD9⟩⟩, hS.F ht⟩) hS.2.2 dX2_offer_146
            · skip
              refine lv_iconst (v := 1) hx hb dX2_offer_91 (by decide) ?_
              refine lv_goto (tgt := 96) hx hb dX2_offer_92 (by decide) ?_
              refine lv_istore (lv' := [(9, .int 1), (8, .int 1), (7, .int x_866), (6, .int x_864), (5, .int (nI ka + nI kb)), (0, .ref h0), (1, .int (nI ka)), (2, .int q1), (3, .int (nI kb)), (4, .int q3)]) hx hb dX2_offer_96 hl (by decide) rfl (fun ls hl => ?_)
              refine lv_iload hx hb dX2_offer_98 (lv_at hl 1 rfl) ?_
              refine lv_if_ne (tgt := 108) hx hb dX2_offer_100 (by decide) (fun c100 => ?_) (fun h => absurd h (by decide))
              refine lv_aload_n hx hb dX2_offer_108 rfl (lv_at hl 5 rfl) ?_
              refine va_get (D := (dC, dI)) (ci := 2) (v := .ref p1) (C := RX2) (T := TX2) (N := 8) hx hb hts (by decide +kernel) hown hK hP 0 rfl rfl 0 (by decide) (hts (.fieldLink RX2 11 "DeltaCodec$Planner" "bytesLeft" "[I") (by decide +kernel)) (fun _ h9 => h9) rfl dX2_offer_109 ?_
              refine lv_iload_n hx hb dX2_offer_112 rfl (lv_at hl 6 rfl) ?_
              refine lv_iload hx hb dX2_offer_113 (lv_at hl 3 rfl) ?_
              refine va_iast hx hb hK hP hD hS 1 0 rfl rfl (zz_ka h1) dX2_offer_115 (fun H locs hP hD hS => ?_)
              obtain ⟨f_887, ef_887⟩ : ∃ g, g = upd e19 (nI ka : Int32).toNatClampNeg x_864 := ⟨_, rfl⟩
              rw [← ef_887] at hP hD
              have hP : va_P (dC, dI) vwCl [(h0, .inr (2, [.ref p1, .ref p2, .ref p3, .ref p4, .ref p5, .ref p6, .ref p7, .ref p8])), (p1, .inl (cI, 151, .inl f_887)), (p2, .inl (cI, 151, .inl e29)), (p3, .inl (cI, 151, .inl e39)), (p4, .inl (cI, 151, .inl e49)), (p5, .inl (cI, 151, .inl e59))] H := hP
              have hD : va_D A [(h0, .inr (2, [.ref p1, .ref p2, .ref p3, .ref p4, .ref p5, .ref p6, .ref p7, .ref p8])), (p1, .inl (cI, 151, .inl f_887)), (p2, .inl (cI, 151, .inl e29)), (p3, .inl (cI, 151, .inl e39)), (p4, .inl (cI, 151, .inl e49)), (p5, .inl (cI, 151, .inl e59))] := hD
              refine lv_aload_n hx hb dX2_offer_116 rfl (lv_at hl 5 rfl) ?_
              refine va_get (D := (dC, dI)) (ci := 2) (v := .ref p2) (C := RX2) (T := TX2) (N := 8) hx hb hts (by decide +kernel) hown hK hP 0 rfl rfl 1 (by decide) (hts (.fieldLink RX2 15 "DeltaCodec$Planner" "stepsLeft" "[I") (by decide +kernel)) (fun _ h9 => h9) rfl dX2_offer_117 ?_
              refine lv_iload_n hx hb dX2_offer_120 rfl (lv_at hl 6 rfl) ?_
              refine lv_iload hx hb dX2_offer_121 (lv_at hl 2 rfl) ?_
              refine va_iast hx hb hK hP hD hS 2 0 rfl rfl (zz_ka h1) dX2_offer_123 (fun H locs hP hD hS => ?_)
              obtain ⟨f_888, ef_888⟩ : ∃ g, g = upd e29 (nI ka : Int32).toNatClampNeg x_866 := ⟨_, rfl⟩
              rw [← ef_888] at hP hD
              have hP : va_P (dC, dI) vwCl [(h0, .inr (2, [.ref p1, .ref p2, .ref p3, .ref p4, .ref p5, .ref p6, .ref p7, .ref p8])), (p1, .inl (cI, 151, .inl f_887)), (p2, .inl (cI, 151, .inl f_888)), (p3, .inl (cI, 151, .inl e39)), (p4, .inl (cI, 151, .inl e49)), (p5, .inl (cI, 151, .inl e59))] H := hP
              have hD : va_D A [(h0, .inr (2, [.ref p1, .ref p2, .ref p3, .ref p4, .ref p5, .ref p6, .ref p7, .ref p8])), (p1, .inl (cI, 151, .inl f_887)), (p2, .inl (cI, 151, .inl f_888)), (p3, .inl (cI, 151, .inl e39)), (p4, .inl (cI, 151, .inl e49)), (p5, .inl (cI, 151, .inl e59))] := hD
              refine lv_aload_n hx hb dX2_offer_124 rfl (lv_at hl 5 rfl) ?_
              refine va_get (D := (dC, dI)) (ci := 2) (v := .ref p3) (C := RX2) (T := TX2) (N := 8) hx hb hts (by decide +kernel) hown hK hP 0 rfl rfl 2 (by decide) (hts (.fieldLink RX2 18 "DeltaCodec$Planner" "kinds" "[I") (by decide +kernel)) (fun _ h9 => h9) rfl dX2_offer_125 ?_
              refine lv_iload_n hx hb dX2_offer_128 rfl (lv_at hl 6 rfl) ?_
              refine lv_iload_n hx hb dX2_offer_129 rfl (lv_at hl 7 rfl) ?_
              refine va_iast hx hb hK hP hD hS 3 0 rfl rfl (zz_ka h1) dX2_offer_130 (fun H locs hP hD hS => ?_)
              obtain ⟨f_889, ef_889⟩ : ∃ g, g = upd e39 (nI ka : Int32).toNatClampNeg q1 := ⟨_, rfl⟩
              rw [← ef_889] at hP hD
              have hP : va_P (dC, dI) vwCl [(h0, .inr (2, [.ref p1, .ref p2, .ref p3, .ref p4, .ref p5, .ref p6, .ref p7, .ref p8])), (p1, .inl (cI, 151, .inl f_887)), (p2, .inl (cI, 151, .inl f_888)), (p3, .inl (cI, 151, .inl f_889)), (p4, .inl (cI, 151, .inl e49)), (p5, .inl (cI, 151, .inl e59))] H := hP
              have hD : va_D A [(h0, .inr (2, [.ref p1, .ref p2, .ref p3, .ref p4, .ref p5, .ref p6, .ref p7, .ref p8])), (p1, .inl (cI, 151, .inl f_887)), (p2, .inl (cI, 151, .inl f_888)), (p3, .inl (cI, 151, .inl f_889)), (p4, .inl (cI, 151, .inl e49)), (p5, .inl (cI, 151, .inl e59))] := hD
              refine lv_aload_n hx hb dX2_offer_131 rfl (lv_at hl 5 rfl) ?_
              refine va_get (D := (dC, dI)) (ci := 2) (v := .ref p4) (C := RX2) (T := TX2) (N := 8) hx hb hts (by decide +kernel) hown hK hP 0 rfl rfl 3 (by decide) (hts (.fieldLink RX2 21 "DeltaCodec$Planner" "lengths" "[I") (by decide +kernel)) (fun _ h9 => h9) rfl dX2_offer_132 ?_
              refine lv_iload_n hx hb dX2_offer_135 rfl (lv_at hl 6 rfl) ?_
              refine lv_iload_n hx hb dX2_offer_136 rfl (lv_at hl 8 rfl) ?_
              refine va_iast hx hb hK hP hD hS 4 0 rfl rfl (zz_ka h1) dX2_offer_137 (fun H locs hP hD hS => ?_)
              obtain ⟨f_890, ef_890⟩ : ∃ g, g = upd e49 (nI ka : Int32).toNatClampNeg (nI kb) := ⟨_, rfl⟩
              rw [← ef_890] at hP hD
              have hP : va_P (dC, dI) vwCl [(h0, .inr (2, [.ref p1, .ref p2, .ref p3, .ref p4, .ref p5, .ref p6, .ref p7, .ref p8])), (p1, .inl (cI, 151, .inl f_887)), (p2, .inl (cI, 151, .inl f_888)), (p3, .inl (cI, 151, .inl f_889)), (p4, .inl (cI, 151, .inl f_890)), (p5, .inl (cI, 151, .inl e59))] H := hP
              have hD : va_D A [(h0, .inr (2, [.ref p1, .ref p2, .ref p3, .ref p4, .ref p5, .ref p6, .ref p7, .ref p8])), (p1, .inl (cI, 151, .inl f_887)), (p2, .inl (cI, 151, .inl f_888)), (p3, .inl (cI, 151, .inl f_889)), (p4, .inl (cI, 151, .inl f_890)), (p5, .inl (cI, 151, .inl e59))] := hD
              refine lv_aload_n hx hb dX2_offer_138 rfl (lv_at hl 5 rfl) ?_
              refine va_get (D := (dC, dI)) (ci := 2) (v := .ref p5) (C := RX2) (T := TX2) (N := 8) hx hb hts (by decide +kernel) hown hK hP 0 rfl rfl 4 (by decide) (hts (.fieldLink RX2 24 "DeltaCodec$Planner" "operands" "[I") (by decide +kernel)) (fun _ h9 => h9) rfl dX2_offer_139 ?_
              refine lv_iload_n hx hb dX2_offer_142 rfl (lv_at hl 6 rfl) ?_
              refine lv_iload hx hb dX2_offer_143 (lv_at hl 9 rfl) ?_
              refine va_iast hx hb hK hP hD hS 5 0 rfl rfl (zz_ka h1) dX2_offer_145 (fun H locs hP hD hS => ?_)
              obtain ⟨f_891, ef_891⟩ : ∃ g, g = upd e59 (nI ka : Int32).toNatClampNeg q3 := ⟨_, rfl⟩
              rw [← ef_891] at hP hD
              have hP : va_P (dC, dI) vwCl [(h0, .inr (2, [.ref p1, .ref p2, .ref p3, .ref p4, .ref p5, .ref p6, .ref p7, .ref p8])), (p1, .inl (cI, 151, .inl f_887)), (p2, .inl (cI, 151, .inl f_888)), (p3, .inl (cI, 151, .inl f_889)), (p4, .inl (cI, 151, .inl f_890)), (p5, .inl (cI, 151, .inl f_891))] H := hP
              have hD : va_D A [(h0, .inr (2, [.ref p1, .ref p2, .ref p3, .ref p4, .ref p5, .ref p6, .ref p7, .ref p8])), (p1, .inl (cI, 151, .inl f_887)), (p2, .inl (cI, 151, .inl f_888)), (p3, .inl (cI, 151, .inl f_889)), (p4, .inl (cI, 151, .inl f_890)), (p5, .inl (cI, 151, .inl f_891))] := hD
              have hP9 := hP.sub (ws' := [(h0, .inr (2, [.ref p1, .ref p2, .ref p3, .ref p4, .ref p5, .ref p6, .ref p7, .ref p8])), (p1, .inl (cI, 151, .inl f_887)), (p2, .inl (cI, 151, .inl f_888)), (p3, .inl (cI, 151, .inl f_889)), (p4, .inl (cI, 151, .inl f_890)), (p5, .inl (cI, 151, .inl f_891))]) [0, 1, 2, 3, 4, 5] rfl
              have hD9 := hD.sub (ws' := [(h0, .inr (2, [.ref p1, .ref p2, .ref p3, .ref p4, .ref p5, .ref p6, .ref p7, .ref p8])), (p1, .inl (cI, 151, .inl f_887)), (p2, .inl (cI, 151, .inl f_888)), (p3, .inl (cI, 151, .inl f_889)), (p4, .inl (cI, 151, .inl f_890)), (p5, .inl (cI, 151, .inl f_891))]) [0, 1, 2, 3, 4, 5] (by decide) rfl
              exact W.vret hx hb hr (fun t ht hW => ⟨⟨(f_887, f_888, f_889, f_890, f_891), rfl, trivial, ⟨by rw [ht]; exact hP9, hD9⟩⟩, hS.F ht⟩) hS.2.2 dX2_offer_146
      · skip
        have hP9 := hP.sub (ws' := [(h0, .inr (2, [.ref p1, .ref p2, .ref p3, .ref p4, .ref p5, .ref p6, .ref p7, .ref p8])), (p1, .inl (cI, 151, .inl e19)), (p2, .inl (cI, 151, .inl e29)), (p3, .inl (cI, 151, .inl e39)), (p4, .inl (cI, 151, .inl e49)), (p5, .inl (cI, 151, .inl e59))]) [0, 1, 2, 3, 4, 5] rfl
        have hD9 := hD.sub (ws' := [(h0, .inr (2, [.ref p1, .ref p2, .ref p3, .ref p4, .ref p5, .ref p6, .ref p7, .ref p8])), (p1, .inl (cI, 151, .inl e19)), (p2, .inl (cI, 151, .inl e29)), (p3, .inl (cI, 151, .inl e39)), (p4, .inl (cI, 151, .inl e49)), (p5, .inl (cI, 151, .inl e59))]) [0, 1, 2, 3, 4, 5] (by decide) rfl
        exact W.vret hx hb hr (fun t ht hW => ⟨⟨(e19, e29, e39, e49, e59), rfl, trivial, ⟨by rw [ht]; exact hP9, hD9⟩⟩, hS.F ht⟩) hS.2.2 dX2_offer_22
