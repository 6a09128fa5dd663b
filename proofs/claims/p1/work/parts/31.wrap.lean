set_option maxHeartbeats 4000000 in
set_option maxRecDepth 100000 in
theorem c_L_feed (l : Launch) (hfl : l.stackTraces = false) (dC : Nat → ClassId) (dI : Nat → Nat → Nat) (cI : ClassId) (cL : ClassId) (xa : Nat → Nat) (p0 : Int32) (p1 : Int64) (p2 : Int32) (oo : Nat) (kf : Nat → Int64) (sz : Nat) : vx_Met l yL_feed wsL_feed ({ frames := 8, cells := 2, slots := 12, locals := 138 }) (va_Pc [.ref (xa 0), .int p0, .long p1, .int p2, .ref oo] (fun U => U.heap.size = sz ∧ va_P (dC, dI) vwCl (wx cI xa ++ [(oo, .inl (cL, 1, .inr (.inl kf)))]) U.heap ∧ va_K (dC, dI) vwCl [(cI, .int), (cL, .long)] U ∧ va_D (fun _ => True) (wx cI xa ++ [(oo, .inl (cL, 1, .inr (.inl kf)))]) ∧ zz_X (va_A (wx cI xa ++ [(oo, .inl (cL, 1, .inr (.inl kf)))]) sz) U)) (va_Qi (fun (r : Int32) (kg : Nat → Int64) => r = zf_feed p0 p2 ∧ (r = 0 → kg 0 = p2.toInt64)) (fun kg t => va_P (dC, dI) vwCl [(oo, .inl (cL, 1, .inr (.inl kg)))] t.heap ∧ va_D (va_A (wx cI xa ++ [(oo, .inl (cL, 1, .inr (.inl kf)))]) sz) [(oo, .inl (cL, 1, .inr (.inl kg)))]) (va_A (wx cI xa ++ [(oo, .inl (cL, 1, .inr (.inl kf)))]) sz)) (vx_X (fun _ : Unit => True) (fun E _ _ => False) (va_A (wx cI xa ++ [(oo, .inl (cL, 1, .inr (.inl kf)))]) sz)) 2 12 (va_A (wx cI xa ++ [(oo, .inl (cL, 1, .inr (.inl kf)))]) sz) := by
  refine vx_ofWH (cc := cL_feed) (maxL := 7) (ret := (some .int)) (by decide) rfl ?_
  intro p e s m args below meth c s₁ B hml hv
  obtain ⟨rfl, hsz, hP, hK, hD0, hZ⟩ := hv
  have hx := B.exec
  have hb := B.bytes
  have hr := B.returns
  have hts := atoms_spec (ws := wsL_feed) B.pre
  have hown : s.vm.findClass RL = some m.cls := findClass_of_methodNamed B.named
  have hlocks := B.notSynchronized
  subst hsz
  have hD := hD0.self (sz := s.heap.size)
  generalize hAe : va_A (wx cI xa ++ [(oo, .inl (cL, 1, .inr (.inl kf)))]) s.heap.size = A at hD hZ ⊢
  have hA : ∀ q : Nat, s.heap.size ≤ q → A q := fun q h => by rw [← hAe]; exact Or.inr h
  have hS : va_S A s.heap s.heap [] := va_S.rf
  have htab := vx_table (x := yL_feed) B (hts _ (List.mem_cons_self))
  have hP : va_P (dC, dI) vwCl [(xa 0, .inr (4, [.ref (xa 1), .ref (xa 3), .ref (xa 5), .ref (xa 7), .ref (xa 16), .ref (xa 25), .int 3])), (xa 1, .inr (3, [.ref (xa 2), .int 0])), (xa 2, .inl (cI, 150, .inl (fun _ => 0))), (xa 3, .inr (3, [.ref (xa 4), .int 0])), (xa 4, .inl (cI, 150, .inl (fun _ => 0))), (xa 5, .inr (3, [.ref (xa 6), .int 0])), (xa 6, .inl (cI, 400, .inl (fun _ => 0))), (xa 7, .inr (1, [.ref (xa 8), .ref (xa 10), .ref (xa 12), .ref (xa 14), .int 0, .int 0])), (xa 8, .inr (3, [.ref (xa 9), .int 0])), (xa 9, .inl (cI, 150, .inl (fun _ => 0))), (xa 10, .inr (3, [.ref (xa 11), .int 0])), (xa 11, .inl (cI, 150, .inl (fun _ => 0))), (xa 12, .inr (3, [.ref (xa 13), .int 0])), (xa 13, .inl (cI, 150, .inl (fun _ => 0))), (xa 14, .inr (3, [.ref (xa 15), .int 0])), (xa 15, .inl (cI, 150, .inl (fun _ => 0))), (xa 16, .inr (2, [.ref (xa 17), .ref (xa 18), .ref (xa 19), .ref (xa 20), .ref (xa 21), .ref (xa 22), .ref (xa 23), .ref (xa 24)])), (xa 17, .inl (cI, 151, .inl (fun _ => 0))), (xa 18, .inl (cI, 151, .inl (fun _ => 0))), (xa 19, .inl (cI, 151, .inl (fun _ => 0))), (xa 20, .inl (cI, 151, .inl (fun _ => 0))), (xa 21, .inl (cI, 151, .inl (fun _ => 0))), (xa 22, .inl (cI, 151, .inl (fun _ => 0))), (xa 23, .inl (cI, 151, .inl (fun _ => 0))), (xa 24, .inl (cI, 151, .inl (fun _ => 0))), (xa 25, .inr (0, [.ref (xa 26), .int 0, .int 0, .int 0, .int (-1), .int 0, .int 0, .int 0])), (xa 26, .inr (3, [.ref (xa 27), .int 0])), (xa 27, .inl (cI, 300, .inl (fun _ => 0))), (oo, .inl (cL, 1, .inr (.inl kf)))] s.heap := hP
  have hl := lv_entry ([.ref (xa 0), .int p0, .long p1, .int p2, .ref oo]) (n := 7) (Nat.le_of_ble_eq_true rfl)
  rw [lg_entry_eq]
  generalize (lg_sl ([.ref (xa 0), .int p0, .long p1, .int p2, .ref oo]) ++ List.replicate (7 - (lg_sl ([.ref (xa 0), .int p0, .long p1, .int p2, .ref oo])).length) Slot.unset).toArray = ls at hl ⊢
  have hl : lv_has ls 7 [(0, .ref (xa 0)), (1, .int p0), (2, .long p1), (4, .int p2), (5, .ref oo)] := hl
  refine lv_aload hx hb dL_feed_0 (lv_at hl 4 rfl) ?_
  refine lv_iconst (v := 0) hx hb dL_feed_2 (by decide) ?_
  refine lv_aload_n hx hb dL_feed_3 rfl (lv_at hl 0 rfl) ?_
  refine lv_iload_n hx hb dL_feed_4 rfl (lv_at hl 1 rfl) ?_
  refine lv_lload_n hx hb dL_feed_5 rfl (lv_at hl 2 rfl) ?_
  refine lv_iload hx hb dL_feed_6 (lv_at hl 3 rfl) ?_
  have hPc := hP.sub (ws' := wx cI xa) [0, 1, 2, 3, 4, 5, 6, 7, 8, 9, 10, 11, 12, 13, 14, 15, 16, 17, 18, 19, 20, 21, 22, 23, 24, 25, 26, 27] rfl
  have hDc := hD.sub (ws' := wx cI xa) [0, 1, 2, 3, 4, 5, 6, 7, 8, 9, 10, 11, 12, 13, 14, 15, 16, 17, 18, 19, 20, 21, 22, 23, 24, 25, 26, 27] (by decide) rfl
  have hFc := va_free (wc := wx cI xa) hD hS hA [0, 1, 2, 3, 4, 5, 6, 7, 8, 9, 10, 11, 12, 13, 14, 15, 16, 17, 18, 19, 20, 21, 22, 23, 24, 25, 26, 27] rfl
  have hKc := hK.sub (tys' := [(cI, .int)]) [0] rfl
  refine vx_calli (vx_runV (As := [.int p0, .long p1, .int p2]) (rest := [.int 0, .ref oo]) ⟨hx, hb, hml, hown, hts⟩ (c_X4_feed l hfl dC dI cI xa p0 p1 p2 s.heap.size) (cwV 3 hts gL_feed_X4_feed rfl rfl rfl (by decide +kernel) ⟨Nat.le_of_ble_eq_true rfl, Nat.le_of_ble_eq_true rfl⟩) ⟨fun a U g mk q => by obtain ⟨q0, q1, qP, qK, qD, qZ⟩ := q; exact ⟨q0, q1, qP, va_K.moved (u := U) (U := U.calling g mk a) (Vm.Alike.refl U.vm) qK, qD, qZ.call⟩, va_recv hKc hPc (ci := 4) (q0 := 0) rfl rfl, fun U hU hW => ⟨rfl, by rw [hU], by rw [hU]; exact hPc, va_K.moved hW.alike hKc, zz_D hDc, hZ.go hS hFc hU hW⟩⟩ rfl rfl hl.1 rfl (lv_room (Nat.le_of_ble_eq_true rfl)) dL_feed_8 ⟨(Nat.le_of_ble_eq_true rfl), (Nat.le_of_ble_eq_true rfl)⟩) hS (fun q _ h => hFc q h) hFc (fun q _ h => hFc q h) (fun E ce q9 u_651 t H1 locs ht hvm hw hB hz1 hk1 hS1 hce hcv hcl => ?_) (fun r_650 u_651 t H1 locs ht hvm hw hB hz1 hk1 hS1 => ?_)
  · skip
    obtain ⟨hP, hD⟩ := va_join (wr := [(oo, .inl (cL, 1, .inr (.inl kf)))]) (w1 := []) hP hD [0, 1, 2, 3, 4, 5, 6, 7, 8, 9, 10, 11, 12, 13, 14, 15, 16, 17, 18, 19, 20, 21, 22, 23, 24, 25, 26, 27] [28] rfl rfl (by decide) (by decide) hk1 hFc zz_P0 zz_D0
    have hS := hS1
    clear hS1
    generalize H1 = H at hP hS hce ht ⊢
    have hP : va_P (dC, dI) vwCl [(oo, .inl (cL, 1, .inr (.inl kf)))] H := hP
    rcases hB with ⟨rfl, hz⟩ | ⟨rfl, hz⟩
    · skip
      refine vx_catch hown [] ⟨0, 13, 16, 13⟩ [⟨0, 13, 20, 15⟩, ⟨0, 13, 24, 17⟩] htab (fun z h => nomatch h) (by decide) (by decide) (hts (.classLink RL 13 "java/lang/IndexOutOfBoundsException") (by decide +kernel)) (hZ.cast 0 rfl) hce hcv hcl ?_
      refine W.widen (k := 2) (n := 12) (by omega) (by omega) ?_
      refine lv_astore (lv' := [(6, .ref q9), (0, .ref (xa 0)), (1, .int p0), (2, .long p1), (4, .int p2), (5, .ref oo)]) hx hb dL_feed_16 hl (by decide) rfl (fun ls hl => ?_)
      refine lv_iconst (v := 1) hx hb dL_feed_18 (by decide) ?_
      refine vx_ret ?_
      have hP9 := hP.sub (ws' := [(oo, .inl (cL, 1, .inr (.inl kf)))]) [0] rfl
      have hD9 := hD.sub (ws' := [(oo, .inl (cL, 1, .inr (.inl kf)))]) [0] (by decide) rfl
      exact W.iret (v := 1) hx hb hr (fun t ht hW => ⟨⟨1, kf, rfl, ⟨hz.symm, fun h => absurd h (by decide)⟩, ⟨by rw [ht]; exact hP9, hD9⟩⟩, hS.F ht⟩) hS.2.2 dL_feed_19
    · skip
      refine vx_catch hown [⟨0, 13, 16, 13⟩] ⟨0, 13, 20, 15⟩ [⟨0, 13, 24, 17⟩] htab (fun z h => by obtain rfl := List.mem_singleton.mp h; exact Or.inr ⟨by decide, "java/lang/IndexOutOfBoundsException", hts (.classLink RL 13 "java/lang/IndexOutOfBoundsException") (by decide +kernel), hZ.pass 2 rfl⟩) (by decide) (by decide) (hts (.classLink RL 15 "java/lang/IllegalArgumentException") (by decide +kernel)) (hZ.cast 1 rfl) hce hcv hcl ?_
      refine W.widen (k := 2) (n := 12) (by omega) (by omega) ?_
      refine lv_astore (lv' := [(6, .ref q9), (0, .ref (xa 0)), (1, .int p0), (2, .long p1), (4, .int p2), (5, .ref oo)]) hx hb dL_feed_20 hl (by decide) rfl (fun ls hl => ?_)
      refine lv_iconst (v := 2) hx hb dL_feed_22 (by decide) ?_
      refine vx_ret ?_
      have hP9 := hP.sub (ws' := [(oo, .inl (cL, 1, .inr (.inl kf)))]) [0] rfl
      have hD9 := hD.sub (ws' := [(oo, .inl (cL, 1, .inr (.inl kf)))]) [0] (by decide) rfl
      exact W.iret (v := 2) hx hb hr (fun t ht hW => ⟨⟨2, kf, rfl, ⟨hz.symm, fun h => absurd h (by decide)⟩, ⟨by rw [ht]; exact hP9, hD9⟩⟩, hS.F ht⟩) hS.2.2 dL_feed_23
  obtain ⟨hP, hD⟩ := va_join (wr := [(oo, .inl (cL, 1, .inr (.inl kf)))]) (w1 := []) hP hD [0, 1, 2, 3, 4, 5, 6, 7, 8, 9, 10, 11, 12, 13, 14, 15, 16, 17, 18, 19, 20, 21, 22, 23, 24, 25, 26, 27] [28] rfl rfl (by decide) (by decide) hk1 hFc zz_P0 zz_D0
  have hS := hS1
  clear hS1
  generalize H1 = H at hP hS ht ⊢
  have hP : va_P (dC, dI) vwCl [(oo, .inl (cL, 1, .inr (.inl kf)))] H := hP
  have hD : va_D A [(oo, .inl (cL, 1, .inr (.inl kf)))] := hD
  refine W.widen (k := 2) (n := 12) (by omega) (by omega) ?_
  obtain ⟨hrv, hw⟩ := hw
  obtain rfl : p2 = r_650 := hrv.symm
  have w8 := hw
  refine lv_i2l (v := p2.toInt64) hx hb dL_feed_11 rfl ?_
  refine va_last hx hb hK hP hD hS 0 1 rfl rfl (by unfold vp_in; decide) dL_feed_12 (fun H locs hP hD hS => ?_)
  obtain ⟨f_652, ef_652⟩ : ∃ g, g = vp_updL kf (0 : Int32).toNatClampNeg p2.toInt64 := ⟨_, rfl⟩
  rw [← ef_652] at hP hD
  have hP : va_P (dC, dI) vwCl [(oo, .inl (cL, 1, .inr (.inl f_652)))] H := hP
  have hD : va_D A [(oo, .inl (cL, 1, .inr (.inl f_652)))] := hD
  refine lv_goto (tgt := 28) hx hb dL_feed_13 (by decide) ?_
  refine lv_iconst (v := 0) hx hb dL_feed_28 (by decide) ?_
  refine vx_ret ?_
  have hP9 := hP.sub (ws' := [(oo, .inl (cL, 1, .inr (.inl f_652)))]) [0] rfl
  have hD9 := hD.sub (ws' := [(oo, .inl (cL, 1, .inr (.inl f_652)))]) [0] (by decide) rfl
  exact W.iret (v := 0) hx hb hr (fun t ht hW => ⟨⟨0, f_652, rfl, ⟨w8.symm, fun _ => by rw [ef_652]; rfl⟩, ⟨by rw [ht]; exact hP9, hD9⟩⟩, hS.F ht⟩) hS.2.2 dL_feed_29
set_option maxHeartbeats 4000000 in
set_option maxRecDepth 100000 in
theorem c_L_fill (l : Launch) (hfl : l.stackTraces = false) (dC : Nat → ClassId) (dI : Nat → Nat → Nat) (cI : ClassId) (cL : ClassId) (xa : Nat → Nat) (p0 : Int32) (p1 : Int32) (p2 : Int32) (oo : Nat) (kf : Nat → Int64) (sz : Nat) : vx_Met l yL_fill wsL_fill ({ frames := 8, cells := 3, slots := 18, locals := 137 }) (va_Pc [.ref (xa 0), .int p0, .int p1, .int p2, .ref oo] (fun U => U.heap.size = sz ∧ va_P (dC, dI) vwCl (wx cI xa ++ [(oo, .inl (cL, 1, .inr (.inl kf)))]) U.heap ∧ va_K (dC, dI) vwCl [(cI, .int), (cL, .long)] U ∧ va_D (fun _ => True) (wx cI xa ++ [(oo, .inl (cL, 1, .inr (.inl kf)))]) ∧ zz_X (va_A (wx cI xa ++ [(oo, .inl (cL, 1, .inr (.inl kf)))]) sz) U)) (va_Qi (fun (r : Int32) (kg : Nat → Int64) => r = zf_fill p0 p1 p2 ∧ (r = 0 → kg 0 = p2.toInt64)) (fun kg t => va_P (dC, dI) vwCl [(oo, .inl (cL, 1, .inr (.inl kg)))] t.heap ∧ va_D (va_A (wx cI xa ++ [(oo, .inl (cL, 1, .inr (.inl kf)))]) sz) [(oo, .inl (cL, 1, .inr (.inl kg)))]) (va_A (wx cI xa ++ [(oo, .inl (cL, 1, .inr (.inl kf)))]) sz)) (vx_X (fun _ : Unit => True) (fun E _ _ => False) (va_A (wx cI xa ++ [(oo, .inl (cL, 1, .inr (.inl kf)))]) sz)) 3 18 (va_A (wx cI xa ++ [(oo, .inl (cL, 1, .inr (.inl kf)))]) sz) := by
  refine vx_ofWH (cc := cL_fill) (maxL := 6) (ret := (some .int)) (by decide) rfl ?_
  intro p e s m args below meth c s₁ B hml hv
  obtain ⟨rfl, hsz, hP, hK, hD0, hZ⟩ := hv
  have hx := B.exec
  have hb := B.bytes
  have hr := B.returns
  have hts := atoms_spec (ws := wsL_fill) B.pre
  have hown : s.vm.findClass RL = some m.cls := findClass_of_methodNamed B.named
  have hlocks := B.notSynchronized
  subst hsz
  have hD := hD0.self (sz := s.heap.size)
  generalize hAe : va_A (wx cI xa ++ [(oo, .inl (cL, 1, .inr (.inl kf)))]) s.heap.size = A at hD hZ ⊢
  have hA : ∀ q : Nat, s.heap.size ≤ q → A q := fun q h => by rw [← hAe]; exact Or.inr h
  have hS : va_S A s.heap s.heap [] := va_S.rf
  have htab := vx_table (x := yL_fill) B (hts _ (List.mem_cons_self))
  have hP : va_P (dC, dI) vwCl [(xa 0, .inr (4, [.ref (xa 1), .ref (xa 3), .ref (xa 5), .ref (xa 7), .ref (xa 16), .ref (xa 25), .int 3])), (xa 1, .inr (3, [.ref (xa 2), .int 0])), (xa 2, .inl (cI, 150, .inl (fun _ => 0))), (xa 3, .inr (3, [.ref (xa 4), .int 0])), (xa 4, .inl (cI, 150, .inl (fun _ => 0))), (xa 5, .inr (3, [.ref (xa 6), .int 0])), (xa 6, .inl (cI, 400, .inl (fun _ => 0))), (xa 7, .inr (1, [.ref (xa 8), .ref (xa 10), .ref (xa 12), .ref (xa 14), .int 0, .int 0])), (xa 8, .inr (3, [.ref (xa 9), .int 0])), (xa 9, .inl (cI, 150, .inl (fun _ => 0))), (xa 10, .inr (3, [.ref (xa 11), .int 0])), (xa 11, .inl (cI, 150, .inl (fun _ => 0))), (xa 12, .inr (3, [.ref (xa 13), .int 0])), (xa 13, .inl (cI, 150, .inl (fun _ => 0))), (xa 14, .inr (3, [.ref (xa 15), .int 0])), (xa 15, .inl (cI, 150, .inl (fun _ => 0))), (xa 16, .inr (2, [.ref (xa 17), .ref (xa 18), .ref (xa 19), .ref (xa 20), .ref (xa 21), .ref (xa 22), .ref (xa 23), .ref (xa 24)])), (xa 17, .inl (cI, 151, .inl (fun _ => 0))), (xa 18, .inl (cI, 151, .inl (fun _ => 0))), (xa 19, .inl (cI, 151, .inl (fun _ => 0))), (xa 20, .inl (cI, 151, .inl (fun _ => 0))), (xa 21, .inl (cI, 151, .inl (fun _ => 0))), (xa 22, .inl (cI, 151, .inl (fun _ => 0))), (xa 23, .inl (cI, 151, .inl (fun _ => 0))), (xa 24, .inl (cI, 151, .inl (fun _ => 0))), (xa 25, .inr (0, [.ref (xa 26), .int 0, .int 0, .int 0, .int (-1), .int 0, .int 0, .int 0])), (xa 26, .inr (3, [.ref (xa 27), .int 0])), (xa 27, .inl (cI, 300, .inl (fun _ => 0))), (oo, .inl (cL, 1, .inr (.inl kf)))] s.heap := hP
  have hl := lv_entry ([.ref (xa 0), .int p0, .int p1, .int p2, .ref oo]) (n := 6) (Nat.le_of_ble_eq_true rfl)
  rw [lg_entry_eq]
  generalize (lg_sl ([.ref (xa 0), .int p0, .int p1, .int p2, .ref oo]) ++ List.replicate (6 - (lg_sl ([.ref (xa 0), .int p0, .int p1, .int p2, .ref oo])).length) Slot.unset).toArray = ls at hl ⊢
  have hl : lv_has ls 6 [(0, .ref (xa 0)), (1, .int p0), (2, .int p1), (3, .int p2), (4, .ref oo)] := hl
  refine lv_aload hx hb dL_fill_0 (lv_at hl 4 rfl) ?_
  refine lv_iconst (v := 0) hx hb dL_fill_2 (by decide) ?_
  refine lv_aload_n hx hb dL_fill_3 rfl (lv_at hl 0 rfl) ?_
  refine lv_iload_n hx hb dL_fill_4 rfl (lv_at hl 1 rfl) ?_
  refine lv_iload_n hx hb dL_fill_5 rfl (lv_at hl 2 rfl) ?_
  refine lv_iload_n hx hb dL_fill_6 rfl (lv_at hl 3 rfl) ?_
  have hPc := hP.sub (ws' := wx cI xa) [0, 1, 2, 3, 4, 5, 6, 7, 8, 9, 10, 11, 12, 13, 14, 15, 16, 17, 18, 19, 20, 21, 22, 23, 24, 25, 26, 27] rfl
  have hDc := hD.sub (ws' := wx cI xa) [0, 1, 2, 3, 4, 5, 6, 7, 8, 9, 10, 11, 12, 13, 14, 15, 16, 17, 18, 19, 20, 21, 22, 23, 24, 25, 26, 27] (by decide) rfl
  have hFc := va_free (wc := wx cI xa) hD hS hA [0, 1, 2, 3, 4, 5, 6, 7, 8, 9, 10, 11, 12, 13, 14, 15, 16, 17, 18, 19, 20, 21, 22, 23, 24, 25, 26, 27] rfl
  have hKc := hK.sub (tys' := [(cI, .int)]) [0] rfl
  refine vx_calli (vx_runV (As := [.int p0, .int p1, .int p2]) (rest := [.int 0, .ref oo]) ⟨hx, hb, hml, hown, hts⟩ (c_X4_fill l hfl dC dI cI xa p0 p1 p2 s.heap.size) (cwV 3 hts gL_fill_X4_fill rfl rfl rfl (by decide +kernel) ⟨Nat.le_of_ble_eq_true rfl, Nat.le_of_ble_eq_true rfl⟩) ⟨fun a U g mk q => by obtain ⟨q0, q1, qP, qK, qD, qZ⟩ := q; exact ⟨q0, q1, qP, va_K.moved (u := U) (U := U.calling g mk a) (Vm.Alike.refl U.vm) qK, qD, qZ.call⟩, va_recv hKc hPc (ci := 4) (q0 := 0) rfl rfl, fun U hU hW => ⟨rfl, by rw [hU], by rw [hU]; exact hPc, va_K.moved hW.alike hKc, zz_D hDc, hZ.go hS hFc hU hW⟩⟩ rfl rfl hl.1 rfl (lv_room (Nat.le_of_ble_eq_true rfl)) dL_fill_7 ⟨(Nat.le_of_ble_eq_true rfl), (Nat.le_of_ble_eq_true rfl)⟩) hS (fun q _ h => hFc q h) hFc (fun q _ h => hFc q h) (fun E ce q9 u_654 t H1 locs ht hvm hw hB hz1 hk1 hS1 hce hcv hcl => ?_) (fun r_653 u_654 t H1 locs ht hvm hw hB hz1 hk1 hS1 => ?_)
  · skip
    obtain ⟨hP, hD⟩ := va_join (wr := [(oo, .inl (cL, 1, .inr (.inl kf)))]) (w1 := []) hP hD [0, 1, 2, 3, 4, 5, 6, 7, 8, 9, 10, 11, 12, 13, 14, 15, 16, 17, 18, 19, 20, 21, 22, 23, 24, 25, 26, 27] [28] rfl rfl (by decide) (by decide) hk1 hFc zz_P0 zz_D0
    have hS := hS1
    clear hS1
    generalize H1 = H at hP hS hce ht ⊢
    have hP : va_P (dC, dI) vwCl [(oo, .inl (cL, 1, .inr (.inl kf)))] H := hP
    rcases hB with ⟨rfl, hz⟩ | ⟨rfl, hz⟩
    · skip
      refine vx_catch hown [] ⟨0, 12, 15, 13⟩ [⟨0, 12, 19, 15⟩, ⟨0, 12, 23, 17⟩] htab (fun z h => nomatch h) (by decide) (by decide) (hts (.classLink RL 13 "java/lang/IndexOutOfBoundsException") (by decide +kernel)) (hZ.cast 0 rfl) hce hcv hcl ?_
      refine W.widen (k := 3) (n := 18) (by omega) (by omega) ?_
      refine lv_astore (lv' := [(5, .ref q9), (0, .ref (xa 0)), (1, .int p0), (2, .int p1), (3, .int p2), (4, .ref oo)]) hx hb dL_fill_15 hl (by decide) rfl (fun ls hl => ?_)
      refine lv_iconst (v := 1) hx hb dL_fill_17 (by decide) ?_
      refine vx_ret ?_
      have hP9 := hP.sub (ws' := [(oo, .inl (cL, 1, .inr (.inl kf)))]) [0] rfl
      have hD9 := hD.sub (ws' := [(oo, .inl (cL, 1, .inr (.inl kf)))]) [0] (by decide) rfl
      exact W.iret (v := 1) hx hb hr (fun t ht hW => ⟨⟨1, kf, rfl, ⟨hz.symm, fun h => absurd h (by decide)⟩, ⟨by rw [ht]; exact hP9, hD9⟩⟩, hS.F ht⟩) hS.2.2 dL_fill_18
    · skip
      refine vx_catch hown [⟨0, 12, 15, 13⟩] ⟨0, 12, 19, 15⟩ [⟨0, 12, 23, 17⟩] htab (fun z h => by obtain rfl := List.mem_singleton.mp h; exact Or.inr ⟨by decide, "java/lang/IndexOutOfBoundsException", hts (.classLink RL 13 "java/lang/IndexOutOfBoundsException") (by decide +kernel), hZ.pass 2 rfl⟩) (by decide) (by decide) (hts (.classLink RL 15 "java/lang/IllegalArgumentException") (by decide +kernel)) (hZ.cast 1 rfl) hce hcv hcl ?_
      refine W.widen (k := 3) (n := 18) (by omega) (by omega) ?_
      refine lv_astore (lv' := [(5, .ref q9), (0, .ref (xa 0)), (1, .int p0), (2, .int p1), (3, .int p2), (4, .ref oo)]) hx hb dL_fill_19 hl (by decide) rfl (fun ls hl => ?_)
      refine lv_iconst (v := 2) hx hb dL_fill_21 (by decide) ?_
      refine vx_ret ?_
      have hP9 := hP.sub (ws' := [(oo, .inl (cL, 1, .inr (.inl kf)))]) [0] rfl
      have hD9 := hD.sub (ws' := [(oo, .inl (cL, 1, .inr (.inl kf)))]) [0] (by decide) rfl
      exact W.iret (v := 2) hx hb hr (fun t ht hW => ⟨⟨2, kf, rfl, ⟨hz.symm, fun h => absurd h (by decide)⟩, ⟨by rw [ht]; exact hP9, hD9⟩⟩, hS.F ht⟩) hS.2.2 dL_fill_22
  obtain ⟨hP, hD⟩ := va_join (wr := [(oo, .inl (cL, 1, .inr (.inl kf)))]) (w1 := []) hP hD [0, 1, 2, 3, 4, 5, 6, 7, 8, 9, 10, 11, 12, 13, 14, 15, 16, 17, 18, 19, 20, 21, 22, 23, 24, 25, 26, 27] [28] rfl rfl (by decide) (by decide) hk1 hFc zz_P0 zz_D0
  have hS := hS1
  clear hS1
  generalize H1 = H at hP hS ht ⊢
  have hP : va_P (dC, dI) vwCl [(oo, .inl (cL, 1, .inr (.inl kf)))] H := hP
  have hD : va_D A [(oo, .inl (cL, 1, .inr (.inl kf)))] := hD
  refine W.widen (k := 3) (n := 18) (by omega) (by omega) ?_
  obtain ⟨hrv, hw⟩ := hw
  obtain rfl : p2 = r_653 := hrv.symm
  have w7 := hw
  refine lv_i2l (v := p2.toInt64) hx hb dL_fill_10 rfl ?_
  refine va_last hx hb hK hP hD hS 0 1 rfl rfl (by unfold vp_in; decide) dL_fill_11 (fun H locs hP hD hS => ?_)
  obtain ⟨f_655, ef_655⟩ : ∃ g, g = vp_updL kf (0 : Int32).toNatClampNeg p2.toInt64 := ⟨_, rfl⟩
  rw [← ef_655] at hP hD
  have hP : va_P (dC, dI) vwCl [(oo, .inl (cL, 1, .inr (.inl f_655)))] H := hP
  have hD : va_D A [(oo, .inl (cL, 1, .inr (.inl f_655)))] := hD
  refine lv_goto (tgt := 27) hx hb dL_fill_12 (by decide) ?_
  refine lv_iconst (v := 0) hx hb dL_fill_27 (by decide) ?_
  refine vx_ret ?_
  have hP9 := hP.sub (ws' := [(oo, .inl (cL, 1, .inr (.inl f_655)))]) [0] rfl
  have hD9 := hD.sub (ws' := [(oo, .inl (cL, 1, .inr (.inl f_655)))]) [0] (by decide) rfl
  exact W.iret (v := 0) hx hb hr (fun t ht hW => ⟨⟨0, f_655, rfl, ⟨w7.symm, fun _ => by rw [ef_655]; rfl⟩, ⟨by rw [ht]; exact hP9, hD9⟩⟩, hS.F ht⟩) hS.2.2 dL_fill_28
set_option maxHeartbeats 4000000 in
set_option maxRecDepth 100000 in
theorem c_L_cut (l : Launch) (hfl : l.stackTraces = false) (dC : Nat → ClassId) (dI : Nat → Nat → Nat) (cI : ClassId) (cL : ClassId) (xa : Nat → Nat) (p0 : Int32) (p1 : Int32) (oo : Nat) (kf : Nat → Int64) (sz : Nat) : vx_Met l yL_cut wsL_cut ({ frames := 8, cells := 2, slots := 12, locals := 135 }) (va_Pc [.ref (xa 0), .int p0, .int p1, .ref oo] (fun U => U.heap.size = sz ∧ va_P (dC, dI) vwCl (wx cI xa ++ [(oo, .inl (cL, 1, .inr (.inl kf)))]) U.heap ∧ va_K (dC, dI) vwCl [(cI, .int), (cL, .long)] U ∧ va_D (fun _ => True) (wx cI xa ++ [(oo, .inl (cL, 1, .inr (.inl kf)))]) ∧ zz_X (va_A (wx cI xa ++ [(oo, .inl (cL, 1, .inr (.inl kf)))]) sz) U)) (va_Qi (fun (r : Int32) (kg : Nat → Int64) => r = zf_cut p0 p1 ∧ (r = 0 → kg 0 = 0)) (fun kg t => va_P (dC, dI) vwCl [(oo, .inl (cL, 1, .inr (.inl kg)))] t.heap ∧ va_D (va_A (wx cI xa ++ [(oo, .inl (cL, 1, .inr (.inl kf)))]) sz) [(oo, .inl (cL, 1, .inr (.inl kg)))]) (va_A (wx cI xa ++ [(oo, .inl (cL, 1, .inr (.inl kf)))]) sz)) (vx_X (fun _ : Unit => True) (fun E _ _ => False) (va_A (wx cI xa ++ [(oo, .inl (cL, 1, .inr (.inl kf)))]) sz)) 2 12 (va_A (wx cI xa ++ [(oo, .inl (cL, 1, .inr (.inl kf)))]) sz) := by
  refine vx_ofWH (cc := cL_cut) (maxL := 5) (ret := (some .int)) (by decide) rfl ?_
  intro p e s m args below meth c s₁ B hml hv
  obtain ⟨rfl, hsz, hP, hK, hD0, hZ⟩ := hv
  have hx := B.exec
  have hb := B.bytes
  have hr := B.returns
  have hts := atoms_spec (ws := wsL_cut) B.pre
  have hown : s.vm.findClass RL = some m.cls := findClass_of_methodNamed B.named
  have hlocks := B.notSynchronized
  subst hsz
  have hD := hD0.self (sz := s.heap.size)
  generalize hAe : va_A (wx cI xa ++ [(oo, .inl (cL, 1, .inr (.inl kf)))]) s.heap.size = A at hD hZ ⊢
  have hA : ∀ q : Nat, s.heap.size ≤ q → A q := fun q h => by rw [← hAe]; exact Or.inr h
  have hS : va_S A s.heap s.heap [] := va_S.rf
  have htab := vx_table (x := yL_cut) B (hts _ (List.mem_cons_self))
  have hP : va_P (dC, dI) vwCl [(xa 0, .inr (4, [.ref (xa 1), .ref (xa 3), .ref (xa 5), .ref (xa 7), .ref (xa 16), .ref (xa 25), .int 3])), (xa 1, .inr (3, [.ref (xa 2), .int 0])), (xa 2, .inl (cI, 150, .inl (fun _ => 0))), (xa 3, .inr (3, [.ref (xa 4), .int 0])), (xa 4, .inl (cI, 150, .inl (fun _ => 0))), (xa 5, .inr (3, [.ref (xa 6), .int 0])), (xa 6, .inl (cI, 400, .inl (fun _ => 0))), (xa 7, .inr (1, [.ref (xa 8), .ref (xa 10), .ref (xa 12), .ref (xa 14), .int 0, .int 0])), (xa 8, .inr (3, [.ref (xa 9), .int 0])), (xa 9, .inl (cI, 150, .inl (fun _ => 0))), (xa 10, .inr (3, [.ref (xa 11), .int 0])), (xa 11, .inl (cI, 150, .inl (fun _ => 0))), (xa 12, .inr (3, [.ref (xa 13), .int 0])), (xa 13, .inl (cI, 150, .inl (fun _ => 0))), (xa 14, .inr (3, [.ref (xa 15), .int 0])), (xa 15, .inl (cI, 150, .inl (fun _ => 0))), (xa 16, .inr (2, [.ref (xa 17), .ref (xa 18), .ref (xa 19), .ref (xa 20), .ref (xa 21), .ref (xa 22), .ref (xa 23), .ref (xa 24)])), (xa 17, .inl (cI, 151, .inl (fun _ => 0))), (xa 18, .inl (cI, 151, .inl (fun _ => 0))), (xa 19, .inl (cI, 151, .inl (fun _ => 0))), (xa 20, .inl (cI, 151, .inl (fun _ => 0))), (xa 21, .inl (cI, 151, .inl (fun _ => 0))), (xa 22, .inl (cI, 151, .inl (fun _ => 0))), (xa 23, .inl (cI, 151, .inl (fun _ => 0))), (xa 24, .inl (cI, 151, .inl (fun _ => 0))), (xa 25, .inr (0, [.ref (xa 26), .int 0, .int 0, .int 0, .int (-1), .int 0, .int 0, .int 0])), (xa 26, .inr (3, [.ref (xa 27), .int 0])), (xa 27, .inl (cI, 300, .inl (fun _ => 0))), (oo, .inl (cL, 1, .inr (.inl kf)))] s.heap := hP
  have hl := lv_entry ([.ref (xa 0), .int p0, .int p1, .ref oo]) (n := 5) (Nat.le_of_ble_eq_true rfl)
  rw [lg_entry_eq]
  generalize (lg_sl ([.ref (xa 0), .int p0, .int p1, .ref oo]) ++ List.replicate (5 - (lg_sl ([.ref (xa 0), .int p0, .int p1, .ref oo])).length) Slot.unset).toArray = ls at hl ⊢
  have hl : lv_has ls 5 [(0, .ref (xa 0)), (1, .int p0), (2, .int p1), (3, .ref oo)] := hl
  refine lv_aload_n hx hb dL_cut_0 rfl (lv_at hl 3 rfl) ?_
  refine lv_iconst (v := 0) hx hb dL_cut_1 (by decide) ?_
  refine lv_aload_n hx hb dL_cut_2 rfl (lv_at hl 0 rfl) ?_
  refine lv_iload_n hx hb dL_cut_3 rfl (lv_at hl 1 rfl) ?_
  refine lv_iload_n hx hb dL_cut_4 rfl (lv_at hl 2 rfl) ?_
  have hPc := hP.sub (ws' := wx cI xa) [0, 1, 2, 3, 4, 5, 6, 7, 8, 9, 10, 11, 12, 13, 14, 15, 16, 17, 18, 19, 20, 21, 22, 23, 24, 25, 26, 27] rfl
  have hDc := hD.sub (ws' := wx cI xa) [0, 1, 2, 3, 4, 5, 6, 7, 8, 9, 10, 11, 12, 13, 14, 15, 16, 17, 18, 19, 20, 21, 22, 23, 24, 25, 26, 27] (by decide) rfl
  have hFc := va_free (wc := wx cI xa) hD hS hA [0, 1, 2, 3, 4, 5, 6, 7, 8, 9, 10, 11, 12, 13, 14, 15, 16, 17, 18, 19, 20, 21, 22, 23, 24, 25, 26, 27] rfl
  have hKc := hK.sub (tys' := [(cI, .int)]) [0] rfl
  refine vx_calli (vx_runV (As := [.int p0, .int p1]) (rest := [.int 0, .ref oo]) ⟨hx, hb, hml, hown, hts⟩ (c_X4_cut l hfl dC dI cI xa p0 p1 s.heap.size) (cwV 2 hts gL_cut_X4_cut rfl rfl rfl (by decide +kernel) ⟨Nat.le_of_ble_eq_true rfl, Nat.le_of_ble_eq_true rfl⟩) ⟨fun a U g mk q => by obtain ⟨q0, q1, qP, qK, qD, qZ⟩ := q; exact ⟨q0, q1, qP, va_K.moved (u := U) (U := U.calling g mk a) (Vm.Alike.refl U.vm) qK, qD, qZ.call⟩, va_recv hKc hPc (ci := 4) (q0 := 0) rfl rfl, fun U hU hW => ⟨rfl, by rw [hU], by rw [hU]; exact hPc, va_K.moved hW.alike hKc, zz_D hDc, hZ.go hS hFc hU hW⟩⟩ rfl rfl hl.1 rfl (lv_room (Nat.le_of_ble_eq_true rfl)) dL_cut_5 ⟨(Nat.le_of_ble_eq_true rfl), (Nat.le_of_ble_eq_true rfl)⟩) hS (fun q _ h => hFc q h) hFc (fun q _ h => hFc q h) (fun E ce q9 u_657 t H1 locs ht hvm hw hB hz1 hk1 hS1 hce hcv hcl => ?_) (fun r_656 u_657 t H1 locs ht hvm hw hB hz1 hk1 hS1 => ?_)
  · skip
    obtain ⟨hP, hD⟩ := va_join (wr := [(oo, .inl (cL, 1, .inr (.inl kf)))]) (w1 := []) hP hD [0, 1, 2, 3, 4, 5, 6, 7, 8, 9, 10, 11, 12, 13, 14, 15, 16, 17, 18, 19, 20, 21, 22, 23, 24, 25, 26, 27] [28] rfl rfl (by decide) (by decide) hk1 hFc zz_P0 zz_D0
    have hS := hS1
    clear hS1
    generalize H1 = H at hP hS hce ht ⊢
    have hP : va_P (dC, dI) vwCl [(oo, .inl (cL, 1, .inr (.inl kf)))] H := hP
    rcases hB with ⟨rfl, hz⟩ | ⟨rfl, hz⟩
    · skip
      refine vx_catch hown [] ⟨0, 10, 13, 13⟩ [⟨0, 10, 17, 15⟩] htab (fun z h => nomatch h) (by decide) (by decide) (hts (.classLink RL 13 "java/lang/IndexOutOfBoundsException") (by decide +kernel)) (hZ.cast 0 rfl) hce hcv hcl ?_
      refine W.widen (k := 2) (n := 12) (by omega) (by omega) ?_
      refine lv_astore (lv' := [(4, .ref q9), (0, .ref (xa 0)), (1, .int p0), (2, .int p1), (3, .ref oo)]) hx hb dL_cut_13 hl (by decide) rfl (fun ls hl => ?_)
      refine lv_iconst (v := 1) hx hb dL_cut_15 (by decide) ?_
      refine vx_ret ?_
      have hP9 := hP.sub (ws' := [(oo, .inl (cL, 1, .inr (.inl kf)))]) [0] rfl
      have hD9 := hD.sub (ws' := [(oo, .inl (cL, 1, .inr (.inl kf)))]) [0] (by decide) rfl
      exact W.iret (v := 1) hx hb hr (fun t ht hW => ⟨⟨1, kf, rfl, ⟨hz.symm, fun h => absurd h (by decide)⟩, ⟨by rw [ht]; exact hP9, hD9⟩⟩, hS.F ht⟩) hS.2.2 dL_cut_16
    · skip
      refine vx_catch hown [⟨0, 10, 13, 13⟩] ⟨0, 10, 17, 15⟩ [] htab (fun z h => by obtain rfl := List.mem_singleton.mp h; exact Or.inr ⟨by decide, "java/lang/IndexOutOfBoundsException", hts (.classLink RL 13 "java/lang/IndexOutOfBoundsException") (by decide +kernel), hZ.pass 2 rfl⟩) (by decide) (by decide) (hts (.classLink RL 15 "java/lang/IllegalArgumentException") (by decide +kernel)) (hZ.cast 1 rfl) hce hcv hcl ?_
      refine W.widen (k := 2) (n := 12) (by omega) (by omega) ?_
      refine lv_astore (lv' := [(4, .ref q9), (0, .ref (xa 0)), (1, .int p0), (2, .int p1), (3, .ref oo)]) hx hb dL_cut_17 hl (by decide) rfl (fun ls hl => ?_)
      refine lv_iconst (v := 2) hx hb dL_cut_19 (by decide) ?_
      refine vx_ret ?_
      have hP9 := hP.sub (ws' := [(oo, .inl (cL, 1, .inr (.inl kf)))]) [0] rfl
      have hD9 := hD.sub (ws' := [(oo, .inl (cL, 1, .inr (.inl kf)))]) [0] (by decide) rfl
      exact W.iret (v := 2) hx hb hr (fun t ht hW => ⟨⟨2, kf, rfl, ⟨hz.symm, fun h => absurd h (by decide)⟩, ⟨by rw [ht]; exact hP9, hD9⟩⟩, hS.F ht⟩) hS.2.2 dL_cut_20
  obtain ⟨hP, hD⟩ := va_join (wr := [(oo, .inl (cL, 1, .inr (.inl kf)))]) (w1 := []) hP hD [0, 1, 2, 3, 4, 5, 6, 7, 8, 9, 10, 11, 12, 13, 14, 15, 16, 17, 18, 19, 20, 21, 22, 23, 24, 25, 26, 27] [28] rfl rfl (by decide) (by decide) hk1 hFc zz_P0 zz_D0
  have hS := hS1
  clear hS1
  generalize H1 = H at hP hS ht ⊢
  have hP : va_P (dC, dI) vwCl [(oo, .inl (cL, 1, .inr (.inl kf)))] H := hP
  have hD : va_D A [(oo, .inl (cL, 1, .inr (.inl kf)))] := hD
  refine W.widen (k := 2) (n := 12) (by omega) (by omega) ?_
  obtain ⟨hrv, hw⟩ := hw
  obtain rfl : 0 = r_656 := hrv.symm
  have w5 := hw
  refine lv_i2l (v := 0) hx hb dL_cut_8 (by decide) ?_
  refine va_last hx hb hK hP hD hS 0 1 rfl rfl (by unfold vp_in; decide) dL_cut_9 (fun H locs hP hD hS => ?_)
  obtain ⟨f_658, ef_658⟩ : ∃ g, g = vp_updL kf (0 : Int32).toNatClampNeg 0 := ⟨_, rfl⟩
  rw [← ef_658] at hP hD
  have hP : va_P (dC, dI) vwCl [(oo, .inl (cL, 1, .inr (.inl f_658)))] H := hP
  have hD : va_D A [(oo, .inl (cL, 1, .inr (.inl f_658)))] := hD
  refine lv_goto (tgt := 21) hx hb dL_cut_10 (by decide) ?_
  refine lv_iconst (v := 0) hx hb dL_cut_21 (by decide) ?_
  refine vx_ret ?_
  have hP9 := hP.sub (ws' := [(oo, .inl (cL, 1, .inr (.inl f_658)))]) [0] rfl
  have hD9 := hD.sub (ws' := [(oo, .inl (cL, 1, .inr (.inl f_658)))]) [0] (by decide) rfl
  exact W.iret (v := 0) hx hb hr (fun t ht hW => ⟨⟨0, f_658, rfl, ⟨w5.symm, fun _ => by rw [ef_658]; rfl⟩, ⟨by rw [ht]; exact hP9, hD9⟩⟩, hS.F ht⟩) hS.2.2 dL_cut_22
set_option maxHeartbeats 4000000 in
set_option maxRecDepth 100000 in
theorem c_L_set (l : Launch) (hfl : l.stackTraces = false) (dC : Nat → ClassId) (dI : Nat → Nat → Nat) (cI : ClassId) (cL : ClassId) (xa : Nat → Nat) (p0 : Int32) (p1 : Int32) (p2 : Int32) (oo : Nat) (kf : Nat → Int64) (sz : Nat) : vx_Met l yL_set wsL_set ({ frames := 8, cells := 2, slots := 12, locals := 137 }) (va_Pc [.ref (xa 0), .int p0, .int p1, .int p2, .ref oo] (fun U => U.heap.size = sz ∧ va_P (dC, dI) vwCl (wx cI xa ++ [(oo, .inl (cL, 1, .inr (.inl kf)))]) U.heap ∧ va_K (dC, dI) vwCl [(cI, .int), (cL, .long)] U ∧ va_D (fun _ => True) (wx cI xa ++ [(oo, .inl (cL, 1, .inr (.inl kf)))]) ∧ zz_X (va_A (wx cI xa ++ [(oo, .inl (cL, 1, .inr (.inl kf)))]) sz) U)) (va_Qi (fun (r : Int32) (kg : Nat → Int64) => r = 1 ∧ (r = 0 → kg 0 = 0)) (fun kg t => va_P (dC, dI) vwCl [(oo, .inl (cL, 1, .inr (.inl kg)))] t.heap ∧ va_D (va_A (wx cI xa ++ [(oo, .inl (cL, 1, .inr (.inl kf)))]) sz) [(oo, .inl (cL, 1, .inr (.inl kg)))]) (va_A (wx cI xa ++ [(oo, .inl (cL, 1, .inr (.inl kf)))]) sz)) (vx_X (fun _ : Unit => True) (fun E _ _ => False) (va_A (wx cI xa ++ [(oo, .inl (cL, 1, .inr (.inl kf)))]) sz)) 2 12 (va_A (wx cI xa ++ [(oo, .inl (cL, 1, .inr (.inl kf)))]) sz) := by
  refine vx_ofWH (cc := cL_set) (maxL := 6) (ret := (some .int)) (by decide) rfl ?_
  intro p e s m args below meth c s₁ B hml hv
  obtain ⟨rfl, hsz, hP, hK, hD0, hZ⟩ := hv
  have hx := B.exec
  have hb := B.bytes
  have hr := B.returns
  have hts := atoms_spec (ws := wsL_set) B.pre
  have hown : s.vm.findClass RL = some m.cls := findClass_of_methodNamed B.named
  have hlocks := B.notSynchronized
  subst hsz
  have hD := hD0.self (sz := s.heap.size)
  generalize hAe : va_A (wx cI xa ++ [(oo, .inl (cL, 1, .inr (.inl kf)))]) s.heap.size = A at hD hZ ⊢
  have hA : ∀ q : Nat, s.heap.size ≤ q → A q := fun q h => by rw [← hAe]; exact Or.inr h
  have hS : va_S A s.heap s.heap [] := va_S.rf
  have htab := vx_table (x := yL_set) B (hts _ (List.mem_cons_self))
  have hP : va_P (dC, dI) vwCl [(xa 0, .inr (4, [.ref (xa 1), .ref (xa 3), .ref (xa 5), .ref (xa 7), .ref (xa 16), .ref (xa 25), .int 3])), (xa 1, .inr (3, [.ref (xa 2), .int 0])), (xa 2, .inl (cI, 150, .inl (fun _ => 0))), (xa 3, .inr (3, [.ref (xa 4), .int 0])), (xa 4, .inl (cI, 150, .inl (fun _ => 0))), (xa 5, .inr (3, [.ref (xa 6), .int 0])), (xa 6, .inl (cI, 400, .inl (fun _ => 0))), (xa 7, .inr (1, [.ref (xa 8), .ref (xa 10), .ref (xa 12), .ref (xa 14), .int 0, .int 0])), (xa 8, .inr (3, [.ref (xa 9), .int 0])), (xa 9, .inl (cI, 150, .inl (fun _ => 0))), (xa 10, .inr (3, [.ref (xa 11), .int 0])), (xa 11, .inl (cI, 150, .inl (fun _ => 0))), (xa 12, .inr (3, [.ref (xa 13), .int 0])), (xa 13, .inl (cI, 150, .inl (fun _ => 0))), (xa 14, .inr (3, [.ref (xa 15), .int 0])), (xa 15, .inl (cI, 150, .inl (fun _ => 0))), (xa 16, .inr (2, [.ref (xa 17), .ref (xa 18), .ref (xa 19), .ref (xa 20), .ref (xa 21), .ref (xa 22), .ref (xa 23), .ref (xa 24)])), (xa 17, .inl (cI, 151, .inl (fun _ => 0))), (xa 18, .inl (cI, 151, .inl (fun _ => 0))), (xa 19, .inl (cI, 151, .inl (fun _ => 0))), (xa 20, .inl (cI, 151, .inl (fun _ => 0))), (xa 21, .inl (cI, 151, .inl (fun _ => 0))), (xa 22, .inl (cI, 151, .inl (fun _ => 0))), (xa 23, .inl (cI, 151, .inl (fun _ => 0))), (xa 24, .inl (cI, 151, .inl (fun _ => 0))), (xa 25, .inr (0, [.ref (xa 26), .int 0, .int 0, .int 0, .int (-1), .int 0, .int 0, .int 0])), (xa 26, .inr (3, [.ref (xa 27), .int 0])), (xa 27, .inl (cI, 300, .inl (fun _ => 0))), (oo, .inl (cL, 1, .inr (.inl kf)))] s.heap := hP
  have hl := lv_entry ([.ref (xa 0), .int p0, .int p1, .int p2, .ref oo]) (n := 6) (Nat.le_of_ble_eq_true rfl)
  rw [lg_entry_eq]
  generalize (lg_sl ([.ref (xa 0), .int p0, .int p1, .int p2, .ref oo]) ++ List.replicate (6 - (lg_sl ([.ref (xa 0), .int p0, .int p1, .int p2, .ref oo])).length) Slot.unset).toArray = ls at hl ⊢
  have hl : lv_has ls 6 [(0, .ref (xa 0)), (1, .int p0), (2, .int p1), (3, .int p2), (4, .ref oo)] := hl
  refine lv_aload hx hb dL_set_0 (lv_at hl 4 rfl) ?_
  refine lv_iconst (v := 0) hx hb dL_set_2 (by decide) ?_
  refine lv_aload_n hx hb dL_set_3 rfl (lv_at hl 0 rfl) ?_
  refine lv_iload_n hx hb dL_set_4 rfl (lv_at hl 1 rfl) ?_
  refine lv_iload_n hx hb dL_set_5 rfl (lv_at hl 2 rfl) ?_
  refine lv_iload_n hx hb dL_set_6 rfl (lv_at hl 3 rfl) ?_
  have hPc := hP.sub (ws' := wx cI xa) [0, 1, 2, 3, 4, 5, 6, 7, 8, 9, 10, 11, 12, 13, 14, 15, 16, 17, 18, 19, 20, 21, 22, 23, 24, 25, 26, 27] rfl
  have hFc : ∀ q : Nat, s.heap.size ≤ q → A q := fun q h => hA q (Nat.le_trans hS.1 h)
  have hKc := hK.sub (tys' := [(cI, .int)]) [0] rfl
  refine vx_calli (vx_runV (As := [.int p0, .int p1, .int p2]) (rest := [.int 0, .ref oo]) ⟨hx, hb, hml, hown, hts⟩ (c_X4_set l hfl dC dI cI xa p0 p1 p2 s.heap.size) (cwV 3 hts gL_set_X4_set rfl rfl rfl (by decide +kernel) ⟨Nat.le_of_ble_eq_true rfl, Nat.le_of_ble_eq_true rfl⟩) ⟨fun a U g mk q => by obtain ⟨q0, q1, qP, qK, qD, qZ⟩ := q; exact ⟨q0, q1, qP, va_K.moved (u := U) (U := U.calling g mk a) (Vm.Alike.refl U.vm) qK, qD, qZ.call⟩, va_recv hKc hPc (ci := 4) (q0 := 0) rfl rfl, fun U hU hW => ⟨rfl, by rw [hU], by rw [hU]; exact hPc, va_K.moved hW.alike hKc, zz_D (hD.sub (ws' := wx cI xa) [0, 1, 2, 3, 4, 5, 6, 7, 8, 9, 10, 11, 12, 13, 14, 15, 16, 17, 18, 19, 20, 21, 22, 23, 24, 25, 26, 27] (by decide) rfl), hZ.go hS hFc hU hW⟩⟩ rfl rfl hl.1 rfl (lv_room (Nat.le_of_ble_eq_true rfl)) dL_set_7 ⟨(Nat.le_of_ble_eq_true rfl), (Nat.le_of_ble_eq_true rfl)⟩) hS (fun q h1 h2 => absurd h1 (Nat.not_lt.mpr h2)) hFc (fun q h1 h2 => absurd h1 (Nat.not_lt.mpr h2)) (fun E ce q9 u_660 t H1 locs ht hvm hw hB hz1 hk1 hS1 hce hcv hcl => ?_) (fun r_659 u_660 t H1 locs ht hvm hw hB hz1 hk1 hS1 => ?_)
  · skip
    have hP := zz_keep hP hk1
    have hS := hS1
    clear hS1
    generalize H1 = H at hP hS hce ht ⊢
    have hP : va_P (dC, dI) vwCl [(xa 0, .inr (4, [.ref (xa 1), .ref (xa 3), .ref (xa 5), .ref (xa 7), .ref (xa 16), .ref (xa 25), .int 3])), (xa 1, .inr (3, [.ref (xa 2), .int 0])), (xa 2, .inl (cI, 150, .inl (fun _ => 0))), (xa 3, .inr (3, [.ref (xa 4), .int 0])), (xa 4, .inl (cI, 150, .inl (fun _ => 0))), (xa 5, .inr (3, [.ref (xa 6), .int 0])), (xa 6, .inl (cI, 400, .inl (fun _ => 0))), (xa 7, .inr (1, [.ref (xa 8), .ref (xa 10), .ref (xa 12), .ref (xa 14), .int 0, .int 0])), (xa 8, .inr (3, [.ref (xa 9), .int 0])), (xa 9, .inl (cI, 150, .inl (fun _ => 0))), (xa 10, .inr (3, [.ref (xa 11), .int 0])), (xa 11, .inl (cI, 150, .inl (fun _ => 0))), (xa 12, .inr (3, [.ref (xa 13), .int 0])), (xa 13, .inl (cI, 150, .inl (fun _ => 0))), (xa 14, .inr (3, [.ref (xa 15), .int 0])), (xa 15, .inl (cI, 150, .inl (fun _ => 0))), (xa 16, .inr (2, [.ref (xa 17), .ref (xa 18), .ref (xa 19), .ref (xa 20), .ref (xa 21), .ref (xa 22), .ref (xa 23), .ref (xa 24)])), (xa 17, .inl (cI, 151, .inl (fun _ => 0))), (xa 18, .inl (cI, 151, .inl (fun _ => 0))), (xa 19, .inl (cI, 151, .inl (fun _ => 0))), (xa 20, .inl (cI, 151, .inl (fun _ => 0))), (xa 21, .inl (cI, 151, .inl (fun _ => 0))), (xa 22, .inl (cI, 151, .inl (fun _ => 0))), (xa 23, .inl (cI, 151, .inl (fun _ => 0))), (xa 24, .inl (cI, 151, .inl (fun _ => 0))), (xa 25, .inr (0, [.ref (xa 26), .int 0, .int 0, .int 0, .int (-1), .int 0, .int 0, .int 0])), (xa 26, .inr (3, [.ref (xa 27), .int 0])), (xa 27, .inl (cI, 300, .inl (fun _ => 0))), (oo, .inl (cL, 1, .inr (.inl kf)))] H := hP
    obtain rfl := hB
    refine vx_catch hown [] ⟨0, 12, 15, 13⟩ [⟨0, 12, 19, 15⟩] htab (fun z h => nomatch h) (by decide) (by decide) (hts (.classLink RL 13 "java/lang/IndexOutOfBoundsException") (by decide +kernel)) (hZ.cast 0 rfl) hce hcv hcl ?_
    refine W.widen (k := 2) (n := 12) (by omega) (by omega) ?_
    refine lv_astore (lv' := [(5, .ref q9), (0, .ref (xa 0)), (1, .int p0), (2, .int p1), (3, .int p2), (4, .ref oo)]) hx hb dL_set_15 hl (by decide) rfl (fun ls hl => ?_)
    refine lv_iconst (v := 1) hx hb dL_set_17 (by decide) ?_
    refine vx_ret ?_
    have hP9 := hP.sub (ws' := [(oo, .inl (cL, 1, .inr (.inl kf)))]) [28] rfl
    have hD9 := hD.sub (ws' := [(oo, .inl (cL, 1, .inr (.inl kf)))]) [28] (by decide) rfl
    exact W.iret (v := 1) hx hb hr (fun t ht hW => ⟨⟨1, kf, rfl, ⟨rfl, fun h => absurd h (by decide)⟩, ⟨by rw [ht]; exact hP9, hD9⟩⟩, hS.F ht⟩) hS.2.2 dL_set_18
  exact (show False from hw).elim
set_option maxHeartbeats 4000000 in
set_option maxRecDepth 100000 in
theorem c_L_size (l : Launch) (hfl : l.stackTraces = false) (dC : Nat → ClassId) (dI : Nat → Nat → Nat) (cI : ClassId) (cL : ClassId) (xa : Nat → Nat) (p0 : Int32) (oo : Nat) (kf : Nat → Int64) (sz : Nat) : vx_Met l yL_size wsL_size ({ frames := 8, cells := 1, slots := 6, locals := 131 }) (va_Pc [.ref (xa 0), .int p0, .ref oo] (fun U => U.heap.size = sz ∧ va_P (dC, dI) vwCl (wx cI xa ++ [(oo, .inl (cL, 1, .inr (.inl kf)))]) U.heap ∧ va_K (dC, dI) vwCl [(cI, .int), (cL, .long)] U ∧ va_D (fun _ => True) (wx cI xa ++ [(oo, .inl (cL, 1, .inr (.inl kf)))]) ∧ zz_X (va_A (wx cI xa ++ [(oo, .inl (cL, 1, .inr (.inl kf)))]) sz) U)) (va_Qi (fun (r : Int32) (kg : Nat → Int64) => r = zf_size p0 ∧ (r = 0 → kg 0 = 0)) (fun kg t => va_P (dC, dI) vwCl [(oo, .inl (cL, 1, .inr (.inl kg)))] t.heap ∧ va_D (va_A (wx cI xa ++ [(oo, .inl (cL, 1, .inr (.inl kf)))]) sz) [(oo, .inl (cL, 1, .inr (.inl kg)))]) (va_A (wx cI xa ++ [(oo, .inl (cL, 1, .inr (.inl kf)))]) sz)) (vx_X (fun _ : Unit => True) (fun E _ _ => False) (va_A (wx cI xa ++ [(oo, .inl (cL, 1, .inr (.inl kf)))]) sz)) 1 6 (va_A (wx cI xa ++ [(oo, .inl (cL, 1, .inr (.inl kf)))]) sz) := by
  refine vx_ofWH (cc := cL_size) (maxL := 4) (ret := (some .int)) (by decide) rfl ?_
  intro p e s m args below meth c s₁ B hml hv
  obtain ⟨rfl, hsz, hP, hK, hD0, hZ⟩ := hv
  have hx := B.exec
  have hb := B.bytes
  have hr := B.returns
  have hts := atoms_spec (ws := wsL_size) B.pre
  have hown : s.vm.findClass RL = some m.cls := findClass_of_methodNamed B.named
  have hlocks := B.notSynchronized
  subst hsz
  have hD := hD0.self (sz := s.heap.size)
  generalize hAe : va_A (wx cI xa ++ [(oo, .inl (cL, 1, .inr (.inl kf)))]) s.heap.size = A at hD hZ ⊢
  have hA : ∀ q : Nat, s.heap.size ≤ q → A q := fun q h => by rw [← hAe]; exact Or.inr h
  have hS : va_S A s.heap s.heap [] := va_S.rf
  have htab := vx_table (x := yL_size) B (hts _ (List.mem_cons_self))
  have hP : va_P (dC, dI) vwCl [(xa 0, .inr (4, [.ref (xa 1), .ref (xa 3), .ref (xa 5), .ref (xa 7), .ref (xa 16), .ref (xa 25), .int 3])), (xa 1, .inr (3, [.ref (xa 2), .int 0])), (xa 2, .inl (cI, 150, .inl (fun _ => 0))), (xa 3, .inr (3, [.ref (xa 4), .int 0])), (xa 4, .inl (cI, 150, .inl (fun _ => 0))), (xa 5, .inr (3, [.ref (xa 6), .int 0])), (xa 6, .inl (cI, 400, .inl (fun _ => 0))), (xa 7, .inr (1, [.ref (xa 8), .ref (xa 10), .ref (xa 12), .ref (xa 14), .int 0, .int 0])), (xa 8, .inr (3, [.ref (xa 9), .int 0])), (xa 9, .inl (cI, 150, .inl (fun _ => 0))), (xa 10, .inr (3, [.ref (xa 11), .int 0])), (xa 11, .inl (cI, 150, .inl (fun _ => 0))), (xa 12, .inr (3, [.ref (xa 13), .int 0])), (xa 13, .inl (cI, 150, .inl (fun _ => 0))), (xa 14, .inr (3, [.ref (xa 15), .int 0])), (xa 15, .inl (cI, 150, .inl (fun _ => 0))), (xa 16, .inr (2, [.ref (xa 17), .ref (xa 18), .ref (xa 19), .ref (xa 20), .ref (xa 21), .ref (xa 22), .ref (xa 23), .ref (xa 24)])), (xa 17, .inl (cI, 151, .inl (fun _ => 0))), (xa 18, .inl (cI, 151, .inl (fun _ => 0))), (xa 19, .inl (cI, 151, .inl (fun _ => 0))), (xa 20, .inl (cI, 151, .inl (fun _ => 0))), (xa 21, .inl (cI, 151, .inl (fun _ => 0))), (xa 22, .inl (cI, 151, .inl (fun _ => 0))), (xa 23, .inl (cI, 151, .inl (fun _ => 0))), (xa 24, .inl (cI, 151, .inl (fun _ => 0))), (xa 25, .inr (0, [.ref (xa 26), .int 0, .int 0, .int 0, .int (-1), .int 0, .int 0, .int 0])), (xa 26, .inr (3, [.ref (xa 27), .int 0])), (xa 27, .inl (cI, 300, .inl (fun _ => 0))), (oo, .inl (cL, 1, .inr (.inl kf)))] s.heap := hP
  have hl := lv_entry ([.ref (xa 0), .int p0, .ref oo]) (n := 4) (Nat.le_of_ble_eq_true rfl)
  rw [lg_entry_eq]
  generalize (lg_sl ([.ref (xa 0), .int p0, .ref oo]) ++ List.replicate (4 - (lg_sl ([.ref (xa 0), .int p0, .ref oo])).length) Slot.unset).toArray = ls at hl ⊢
  have hl : lv_has ls 4 [(0, .ref (xa 0)), (1, .int p0), (2, .ref oo)] := hl
  refine lv_aload_n hx hb dL_size_0 rfl (lv_at hl 2 rfl) ?_
  refine lv_iconst (v := 0) hx hb dL_size_1 (by decide) ?_
  refine lv_aload_n hx hb dL_size_2 rfl (lv_at hl 0 rfl) ?_
  refine lv_iload_n hx hb dL_size_3 rfl (lv_at hl 1 rfl) ?_
  have hPc := hP.sub (ws' := wx cI xa) [0, 1, 2, 3, 4, 5, 6, 7, 8, 9, 10, 11, 12, 13, 14, 15, 16, 17, 18, 19, 20, 21, 22, 23, 24, 25, 26, 27] rfl
  have hFc : ∀ q : Nat, s.heap.size ≤ q → A q := fun q h => hA q (Nat.le_trans hS.1 h)
  have hKc := hK.sub (tys' := [(cI, .int)]) [0] rfl
  refine vx_calli (vx_runV (As := [.int p0]) (rest := [.int 0, .ref oo]) ⟨hx, hb, hml, hown, hts⟩ (c_X4_size l hfl dC dI cI xa p0 s.heap.size) (cwV 1 hts gL_size_X4_size rfl rfl rfl (by decide +kernel) ⟨Nat.le_of_ble_eq_true rfl, Nat.le_of_ble_eq_true rfl⟩) ⟨fun a U g mk q => by obtain ⟨q0, q1, qP, qK, qD, qZ⟩ := q; exact ⟨q0, q1, qP, va_K.moved (u := U) (U := U.calling g mk a) (Vm.Alike.refl U.vm) qK, qD, qZ.call⟩, va_recv hKc hPc (ci := 4) (q0 := 0) rfl rfl, fun U hU hW => ⟨rfl, by rw [hU], by rw [hU]; exact hPc, va_K.moved hW.alike hKc, zz_D (hD.sub (ws' := wx cI xa) [0, 1, 2, 3, 4, 5, 6, 7, 8, 9, 10, 11, 12, 13, 14, 15, 16, 17, 18, 19, 20, 21, 22, 23, 24, 25, 26, 27] (by decide) rfl), hZ.go hS hFc hU hW⟩⟩ rfl rfl hl.1 rfl (lv_room (Nat.le_of_ble_eq_true rfl)) dL_size_4 ⟨(Nat.le_of_ble_eq_true rfl), (Nat.le_of_ble_eq_true rfl)⟩) hS (fun q h1 h2 => absurd h1 (Nat.not_lt.mpr h2)) hFc (fun q h1 h2 => absurd h1 (Nat.not_lt.mpr h2)) (fun E ce q9 u_662 t H1 locs ht hvm hw hB hz1 hk1 hS1 hce hcv hcl => ?_) (fun r_661 u_662 t H1 locs ht hvm hw hB hz1 hk1 hS1 => ?_)
  · skip
    have hP := zz_keep hP hk1
    have hS := hS1
    clear hS1
    generalize H1 = H at hP hS hce ht ⊢
    have hP : va_P (dC, dI) vwCl [(xa 0, .inr (4, [.ref (xa 1), .ref (xa 3), .ref (xa 5), .ref (xa 7), .ref (xa 16), .ref (xa 25), .int 3])), (xa 1, .inr (3, [.ref (xa 2), .int 0])), (xa 2, .inl (cI, 150, .inl (fun _ => 0))), (xa 3, .inr (3, [.ref (xa 4), .int 0])), (xa 4, .inl (cI, 150, .inl (fun _ => 0))), (xa 5, .inr (3, [.ref (xa 6), .int 0])), (xa 6, .inl (cI, 400, .inl (fun _ => 0))), (xa 7, .inr (1, [.ref (xa 8), .ref (xa 10), .ref (xa 12), .ref (xa 14), .int 0, .int 0])), (xa 8, .inr (3, [.ref (xa 9), .int 0])), (xa 9, .inl (cI, 150, .inl (fun _ => 0))), (xa 10, .inr (3, [.ref (xa 11), .int 0])), (xa 11, .inl (cI, 150, .inl (fun _ => 0))), (xa 12, .inr (3, [.ref (xa 13), .int 0])), (xa 13, .inl (cI, 150, .inl (fun _ => 0))), (xa 14, .inr (3, [.ref (xa 15), .int 0])), (xa 15, .inl (cI, 150, .inl (fun _ => 0))), (xa 16, .inr (2, [.ref (xa 17), .ref (xa 18), .ref (xa 19), .ref (xa 20), .ref (xa 21), .ref (xa 22), .ref (xa 23), .ref (xa 24)])), (xa 17, .inl (cI, 151, .inl (fun _ => 0))), (xa 18, .inl (cI, 151, .inl (fun _ => 0))), (xa 19, .inl (cI, 151, .inl (fun _ => 0))), (xa 20, .inl (cI, 151, .inl (fun _ => 0))), (xa 21, .inl (cI, 151, .inl (fun _ => 0))), (xa 22, .inl (cI, 151, .inl (fun _ => 0))), (xa 23, .inl (cI, 151, .inl (fun _ => 0))), (xa 24, .inl (cI, 151, .inl (fun _ => 0))), (xa 25, .inr (0, [.ref (xa 26), .int 0, .int 0, .int 0, .int (-1), .int 0, .int 0, .int 0])), (xa 26, .inr (3, [.ref (xa 27), .int 0])), (xa 27, .inl (cI, 300, .inl (fun _ => 0))), (oo, .inl (cL, 1, .inr (.inl kf)))] H := hP
    obtain ⟨rfl, hz⟩ := hB
    refine vx_catch hown [] ⟨0, 9, 12, 13⟩ [] htab (fun z h => nomatch h) (by decide) (by decide) (hts (.classLink RL 13 "java/lang/IndexOutOfBoundsException") (by decide +kernel)) (hZ.cast 0 rfl) hce hcv hcl ?_
    refine W.widen (k := 1) (n := 6) (by omega) (by omega) ?_
    refine lv_astore_n (lv' := [(3, .ref q9), (0, .ref (xa 0)), (1, .int p0), (2, .ref oo)]) hx hb dL_size_12 rfl hl (by decide) rfl (fun ls hl => ?_)
    refine lv_iconst (v := 1) hx hb dL_size_13 (by decide) ?_
    refine vx_ret ?_
    have hP9 := hP.sub (ws' := [(oo, .inl (cL, 1, .inr (.inl kf)))]) [28] rfl
    have hD9 := hD.sub (ws' := [(oo, .inl (cL, 1, .inr (.inl kf)))]) [28] (by decide) rfl
    exact W.iret (v := 1) hx hb hr (fun t ht hW => ⟨⟨1, kf, rfl, ⟨hz.symm, fun h => absurd h (by decide)⟩, ⟨by rw [ht]; exact hP9, hD9⟩⟩, hS.F ht⟩) hS.2.2 dL_size_14
  have hP := zz_keep hP hk1
  have hS := hS1
  clear hS1
  generalize H1 = H at hP hS ht ⊢
  have hP : va_P (dC, dI) vwCl [(xa 0, .inr (4, [.ref (xa 1), .ref (xa 3), .ref (xa 5), .ref (xa 7), .ref (xa 16), .ref (xa 25), .int 3])), (xa 1, .inr (3, [.ref (xa 2), .int 0])), (xa 2, .inl (cI, 150, .inl (fun _ => 0))), (xa 3, .inr (3, [.ref (xa 4), .int 0])), (xa 4, .inl (cI, 150, .inl (fun _ => 0))), (xa 5, .inr (3, [.ref (xa 6), .int 0])), (xa 6, .inl (cI, 400, .inl (fun _ => 0))), (xa 7, .inr (1, [.ref (xa 8), .ref (xa 10), .ref (xa 12), .ref (xa 14), .int 0, .int 0])), (xa 8, .inr (3, [.ref (xa 9), .int 0])), (xa 9, .inl (cI, 150, .inl (fun _ => 0))), (xa 10, .inr (3, [.ref (xa 11), .int 0])), (xa 11, .inl (cI, 150, .inl (fun _ => 0))), (xa 12, .inr (3, [.ref (xa 13), .int 0])), (xa 13, .inl (cI, 150, .inl (fun _ => 0))), (xa 14, .inr (3, [.ref (xa 15), .int 0])), (xa 15, .inl (cI, 150, .inl (fun _ => 0))), (xa 16, .inr (2, [.ref (xa 17), .ref (xa 18), .ref (xa 19), .ref (xa 20), .ref (xa 21), .ref (xa 22), .ref (xa 23), .ref (xa 24)])), (xa 17, .inl (cI, 151, .inl (fun _ => 0))), (xa 18, .inl (cI, 151, .inl (fun _ => 0))), (xa 19, .inl (cI, 151, .inl (fun _ => 0))), (xa 20, .inl (cI, 151, .inl (fun _ => 0))), (xa 21, .inl (cI, 151, .inl (fun _ => 0))), (xa 22, .inl (cI, 151, .inl (fun _ => 0))), (xa 23, .inl (cI, 151, .inl (fun _ => 0))), (xa 24, .inl (cI, 151, .inl (fun _ => 0))), (xa 25, .inr (0, [.ref (xa 26), .int 0, .int 0, .int 0, .int (-1), .int 0, .int 0, .int 0])), (xa 26, .inr (3, [.ref (xa 27), .int 0])), (xa 27, .inl (cI, 300, .inl (fun _ => 0))), (oo, .inl (cL, 1, .inr (.inl kf)))] H := hP
  refine W.widen (k := 1) (n := 6) (by omega) (by omega) ?_
  obtain ⟨hrv, hw⟩ := hw
  obtain rfl : 0 = r_661 := hrv.symm
  have w4 := hw
  refine lv_i2l (v := 0) hx hb dL_size_7 (by decide) ?_
  refine va_last hx hb hK hP hD hS 28 1 rfl rfl (by unfold vp_in; decide) dL_size_8 (fun H locs hP hD hS => ?_)
  obtain ⟨f_663, ef_663⟩ : ∃ g, g = vp_updL kf (0 : Int32).toNatClampNeg 0 := ⟨_, rfl⟩
  rw [← ef_663] at hP hD
  have hP : va_P (dC, dI) vwCl [(xa 0, .inr (4, [.ref (xa 1), .ref (xa 3), .ref (xa 5), .ref (xa 7), .ref (xa 16), .ref (xa 25), .int 3])), (xa 1, .inr (3, [.ref (xa 2), .int 0])), (xa 2, .inl (cI, 150, .inl (fun _ => 0))), (xa 3, .inr (3, [.ref (xa 4), .int 0])), (xa 4, .inl (cI, 150, .inl (fun _ => 0))), (xa 5, .inr (3, [.ref (xa 6), .int 0])), (xa 6, .inl (cI, 400, .inl (fun _ => 0))), (xa 7, .inr (1, [.ref (xa 8), .ref (xa 10), .ref (xa 12), .ref (xa 14), .int 0, .int 0])), (xa 8, .inr (3, [.ref (xa 9), .int 0])), (xa 9, .inl (cI, 150, .inl (fun _ => 0))), (xa 10, .inr (3, [.ref (xa 11), .int 0])), (xa 11, .inl (cI, 150, .inl (fun _ => 0))), (xa 12, .inr (3, [.ref (xa 13), .int 0])), (xa 13, .inl (cI, 150, .inl (fun _ => 0))), (xa 14, .inr (3, [.ref (xa 15), .int 0])), (xa 15, .inl (cI, 150, .inl (fun _ => 0))), (xa 16, .inr (2, [.ref (xa 17), .ref (xa 18), .ref (xa 19), .ref (xa 20), .ref (xa 21), .ref (xa 22), .ref (xa 23), .ref (xa 24)])), (xa 17, .inl (cI, 151, .inl (fun _ => 0))), (xa 18, .inl (cI, 151, .inl (fun _ => 0))), (xa 19, .inl (cI, 151, .inl (fun _ => 0))), (xa 20, .inl (cI, 151, .inl (fun _ => 0))), (xa 21, .inl (cI, 151, .inl (fun _ => 0))), (xa 22, .inl (cI, 151, .inl (fun _ => 0))), (xa 23, .inl (cI, 151, .inl (fun _ => 0))), (xa 24, .inl (cI, 151, .inl (fun _ => 0))), (xa 25, .inr (0, [.ref (xa 26), .int 0, .int 0, .int 0, .int (-1), .int 0, .int 0, .int 0])), (xa 26, .inr (3, [.ref (xa 27), .int 0])), (xa 27, .inl (cI, 300, .inl (fun _ => 0))), (oo, .inl (cL, 1, .inr (.inl f_663)))] H := hP
  have hD : va_D A [(xa 0, .inr (4, [.ref (xa 1), .ref (xa 3), .ref (xa 5), .ref (xa 7), .ref (xa 16), .ref (xa 25), .int 3])), (xa 1, .inr (3, [.ref (xa 2), .int 0])), (xa 2, .inl (cI, 150, .inl (fun _ => 0))), (xa 3, .inr (3, [.ref (xa 4), .int 0])), (xa 4, .inl (cI, 150, .inl (fun _ => 0))), (xa 5, .inr (3, [.ref (xa 6), .int 0])), (xa 6, .inl (cI, 400, .inl (fun _ => 0))), (xa 7, .inr (1, [.ref (xa 8), .ref (xa 10), .ref (xa 12), .ref (xa 14), .int 0, .int 0])), (xa 8, .inr (3, [.ref (xa 9), .int 0])), (xa 9, .inl (cI, 150, .inl (fun _ => 0))), (xa 10, .inr (3, [.ref (xa 11), .int 0])), (xa 11, .inl (cI, 150, .inl (fun _ => 0))), (xa 12, .inr (3, [.ref (xa 13), .int 0])), (xa 13, .inl (cI, 150, .inl (fun _ => 0))), (xa 14, .inr (3, [.ref (xa 15), .int 0])), (xa 15, .inl (cI, 150, .inl (fun _ => 0))), (xa 16, .inr (2, [.ref (xa 17), .ref (xa 18), .ref (xa 19), .ref (xa 20), .ref (xa 21), .ref (xa 22), .ref (xa 23), .ref (xa 24)])), (xa 17, .inl (cI, 151, .inl (fun _ => 0))), (xa 18, .inl (cI, 151, .inl (fun _ => 0))), (xa 19, .inl (cI, 151, .inl (fun _ => 0))), (xa 20, .inl (cI, 151, .inl (fun _ => 0))), (xa 21, .inl (cI, 151, .inl (fun _ => 0))), (xa 22, .inl (cI, 151, .inl (fun _ => 0))), (xa 23, .inl (cI, 151, .inl (fun _ => 0))), (xa 24, .inl (cI, 151, .inl (fun _ => 0))), (xa 25, .inr (0, [.ref (xa 26), .int 0, .int 0, .int 0, .int (-1), .int 0, .int 0, .int 0])), (xa 26, .inr (3, [.ref (xa 27), .int 0])), (xa 27, .inl (cI, 300, .inl (fun _ => 0))), (oo, .inl (cL, 1, .inr (.inl f_663)))] := hD
  refine lv_goto (tgt := 15) hx hb dL_size_9 (by decide) ?_
  refine lv_iconst (v := 0) hx hb dL_size_15 (by decide) ?_
  refine vx_ret ?_
  have hP9 := hP.sub (ws' := [(oo, .inl (cL, 1, .inr (.inl f_663)))]) [28] rfl
  have hD9 := hD.sub (ws' := [(oo, .inl (cL, 1, .inr (.inl f_663)))]) [28] (by decide) rfl
  exact W.iret (v := 0) hx hb hr (fun t ht hW => ⟨⟨0, f_663, rfl, ⟨w4.symm, fun _ => by rw [ef_663]; rfl⟩, ⟨by rw [ht]; exact hP9, hD9⟩⟩, hS.F ht⟩) hS.2.2 dL_size_16
set_option maxHeartbeats 4000000 in
set_option maxRecDepth 100000 in
theorem c_L_byteAt (l : Launch) (hfl : l.stackTraces = false) (dC : Nat → ClassId) (dI : Nat → Nat → Nat) (cI : ClassId) (cL : ClassId) (xa : Nat → Nat) (p0 : Int32) (p1 : Int32) (oo : Nat) (kf : Nat → Int64) (sz : Nat) : vx_Met l yL_byteAt wsL_byteAt ({ frames := 8, cells := 2, slots := 12, locals := 134 }) (va_Pc [.ref (xa 0), .int p0, .int p1, .ref oo] (fun U => U.heap.size = sz ∧ va_P (dC, dI) vwCl (wx cI xa ++ [(oo, .inl (cL, 1, .inr (.inl kf)))]) U.heap ∧ va_K (dC, dI) vwCl [(cI, .int), (cL, .long)] U ∧ va_D (fun _ => True) (wx cI xa ++ [(oo, .inl (cL, 1, .inr (.inl kf)))]) ∧ zz_X (va_A (wx cI xa ++ [(oo, .inl (cL, 1, .inr (.inl kf)))]) sz) U)) (va_Qi (fun (r : Int32) (kg : Nat → Int64) => r = 1 ∧ (r = 0 → kg 0 = 0)) (fun kg t => va_P (dC, dI) vwCl [(oo, .inl (cL, 1, .inr (.inl kg)))] t.heap ∧ va_D (va_A (wx cI xa ++ [(oo, .inl (cL, 1, .inr (.inl kf)))]) sz) [(oo, .inl (cL, 1, .inr (.inl kg)))]) (va_A (wx cI xa ++ [(oo, .inl (cL, 1, .inr (.inl kf)))]) sz)) (vx_X (fun _ : Unit => True) (fun E _ _ => False) (va_A (wx cI xa ++ [(oo, .inl (cL, 1, .inr (.inl kf)))]) sz)) 2 12 (va_A (wx cI xa ++ [(oo, .inl (cL, 1, .inr (.inl kf)))]) sz) := by
  refine vx_ofWH (cc := cL_byteAt) (maxL := 5) (ret := (some .int)) (by decide) rfl ?_
  intro p e s m args below meth c s₁ B hml hv
  obtain ⟨rfl, hsz, hP, hK, hD0, hZ⟩ := hv
  have hx := B.exec
  have hb := B.bytes
  have hr := B.returns
  have hts := atoms_spec (ws := wsL_byteAt) B.pre
  have hown : s.vm.findClass RL = some m.cls := findClass_of_methodNamed B.named
  have hlocks := B.notSynchronized
  subst hsz
  have hD := hD0.self (sz := s.heap.size)
  generalize hAe : va_A (wx cI xa ++ [(oo, .inl (cL, 1, .inr (.inl kf)))]) s.heap.size = A at hD hZ ⊢
  have hA : ∀ q : Nat, s.heap.size ≤ q → A q := fun q h => by rw [← hAe]; exact Or.inr h
  have hS : va_S A s.heap s.heap [] := va_S.rf
  have htab := vx_table (x := yL_byteAt) B (hts _ (List.mem_cons_self))
  have hP : va_P (dC, dI) vwCl [(xa 0, .inr (4, [.ref (xa 1), .ref (xa 3), .ref (xa 5), .ref (xa 7), .ref (xa 16), .ref (xa 25), .int 3])), (xa 1, .inr (3, [.ref (xa 2), .int 0])), (xa 2, .inl (cI, 150, .inl (fun _ => 0))), (xa 3, .inr (3, [.ref (xa 4), .int 0])), (xa 4, .inl (cI, 150, .inl (fun _ => 0))), (xa 5, .inr (3, [.ref (xa 6), .int 0])), (xa 6, .inl (cI, 400, .inl (fun _ => 0))), (xa 7, .inr (1, [.ref (xa 8), .ref (xa 10), .ref (xa 12), .ref (xa 14), .int 0, .int 0])), (xa 8, .inr (3, [.ref (xa 9), .int 0])), (xa 9, .inl (cI, 150, .inl (fun _ => 0))), (xa 10, .inr (3, [.ref (xa 11), .int 0])), (xa 11, .inl (cI, 150, .inl (fun _ => 0))), (xa 12, .inr (3, [.ref (xa 13), .int 0])), (xa 13, .inl (cI, 150, .inl (fun _ => 0))), (xa 14, .inr (3, [.ref (xa 15), .int 0])), (xa 15, .inl (cI, 150, .inl (fun _ => 0))), (xa 16, .inr (2, [.ref (xa 17), .ref (xa 18), .ref (xa 19), .ref (xa 20), .ref (xa 21), .ref (xa 22), .ref (xa 23), .ref (xa 24)])), (xa 17, .inl (cI, 151, .inl (fun _ => 0))), (xa 18, .inl (cI, 151, .inl (fun _ => 0))), (xa 19, .inl (cI, 151, .inl (fun _ => 0))), (xa 20, .inl (cI, 151, .inl (fun _ => 0))), (xa 21, .inl (cI, 151, .inl (fun _ => 0))), (xa 22, .inl (cI, 151, .inl (fun _ => 0))), (xa 23, .inl (cI, 151, .inl (fun _ => 0))), (xa 24, .inl (cI, 151, .inl (fun _ => 0))), (xa 25, .inr (0, [.ref (xa 26), .int 0, .int 0, .int 0, .int (-1), .int 0, .int 0, .int 0])), (xa 26, .inr (3, [.ref (xa 27), .int 0])), (xa 27, .inl (cI, 300, .inl (fun _ => 0))), (oo, .inl (cL, 1, .inr (.inl kf)))] s.heap := hP
  have hl := lv_entry ([.ref (xa 0), .int p0, .int p1, .ref oo]) (n := 5) (Nat.le_of_ble_eq_true rfl)
  rw [lg_entry_eq]
  generalize (lg_sl ([.ref (xa 0), .int p0, .int p1, .ref oo]) ++ List.replicate (5 - (lg_sl ([.ref (xa 0), .int p0, .int p1, .ref oo])).length) Slot.unset).toArray = ls at hl ⊢
  have hl : lv_has ls 5 [(0, .ref (xa 0)), (1, .int p0), (2, .int p1), (3, .ref oo)] := hl
  refine lv_aload_n hx hb dL_byteAt_0 rfl (lv_at hl 3 rfl) ?_
  refine lv_iconst (v := 0) hx hb dL_byteAt_1 (by decide) ?_
  refine lv_aload_n hx hb dL_byteAt_2 rfl (lv_at hl 0 rfl) ?_
  refine lv_iload_n hx hb dL_byteAt_3 rfl (lv_at hl 1 rfl) ?_
  refine lv_iload_n hx hb dL_byteAt_4 rfl (lv_at hl 2 rfl) ?_
  have hPc := hP.sub (ws' := wx cI xa) [0, 1, 2, 3, 4, 5, 6, 7, 8, 9, 10, 11, 12, 13, 14, 15, 16, 17, 18, 19, 20, 21, 22, 23, 24, 25, 26, 27] rfl
  have hFc : ∀ q : Nat, s.heap.size ≤ q → A q := fun q h => hA q (Nat.le_trans hS.1 h)
  have hKc := hK.sub (tys' := [(cI, .int)]) [0] rfl
  refine vx_calli (vx_runV (As := [.int p0, .int p1]) (rest := [.int 0, .ref oo]) ⟨hx, hb, hml, hown, hts⟩ (c_X4_byteAt l hfl dC dI cI xa p0 p1 s.heap.size) (cwV 2 hts gL_byteAt_X4_byteAt rfl rfl rfl (by decide +kernel) ⟨Nat.le_of_ble_eq_true rfl, Nat.le_of_ble_eq_true rfl⟩) ⟨fun a U g mk q => by obtain ⟨q0, q1, qP, qK, qD, qZ⟩ := q; exact ⟨q0, q1, qP, va_K.moved (u := U) (U := U.calling g mk a) (Vm.Alike.refl U.vm) qK, qD, qZ.call⟩, va_recv hKc hPc (ci := 4) (q0 := 0) rfl rfl, fun U hU hW => ⟨rfl, by rw [hU], by rw [hU]; exact hPc, va_K.moved hW.alike hKc, zz_D (hD.sub (ws' := wx cI xa) [0, 1, 2, 3, 4, 5, 6, 7, 8, 9, 10, 11, 12, 13, 14, 15, 16, 17, 18, 19, 20, 21, 22, 23, 24, 25, 26, 27] (by decide) rfl), hZ.go hS hFc hU hW⟩⟩ rfl rfl hl.1 rfl (lv_room (Nat.le_of_ble_eq_true rfl)) dL_byteAt_5 ⟨(Nat.le_of_ble_eq_true rfl), (Nat.le_of_ble_eq_true rfl)⟩) hS (fun q h1 h2 => absurd h1 (Nat.not_lt.mpr h2)) hFc (fun q h1 h2 => absurd h1 (Nat.not_lt.mpr h2)) (fun E ce q9 u_665 t H1 locs ht hvm hw hB hz1 hk1 hS1 hce hcv hcl => ?_) (fun r_664 u_665 t H1 locs ht hvm hw hB hz1 hk1 hS1 => ?_)
  · skip
    have hP := zz_keep hP hk1
    have hS := hS1
    clear hS1
    generalize H1 = H at hP hS hce ht ⊢
    have hP : va_P (dC, dI) vwCl [(xa 0, .inr (4, [.ref (xa 1), .ref (xa 3), .ref (xa 5), .ref (xa 7), .ref (xa 16), .ref (xa 25), .int 3])), (xa 1, .inr (3, [.ref (xa 2), .int 0])), (xa 2, .inl (cI, 150, .inl (fun _ => 0))), (xa 3, .inr (3, [.ref (xa 4), .int 0])), (xa 4, .inl (cI, 150, .inl (fun _ => 0))), (xa 5, .inr (3, [.ref (xa 6), .int 0])), (xa 6, .inl (cI, 400, .inl (fun _ => 0))), (xa 7, .inr (1, [.ref (xa 8), .ref (xa 10), .ref (xa 12), .ref (xa 14), .int 0, .int 0])), (xa 8, .inr (3, [.ref (xa 9), .int 0])), (xa 9, .inl (cI, 150, .inl (fun _ => 0))), (xa 10, .inr (3, [.ref (xa 11), .int 0])), (xa 11, .inl (cI, 150, .inl (fun _ => 0))), (xa 12, .inr (3, [.ref (xa 13), .int 0])), (xa 13, .inl (cI, 150, .inl (fun _ => 0))), (xa 14, .inr (3, [.ref (xa 15), .int 0])), (xa 15, .inl (cI, 150, .inl (fun _ => 0))), (xa 16, .inr (2, [.ref (xa 17), .ref (xa 18), .ref (xa 19), .ref (xa 20), .ref (xa 21), .ref (xa 22), .ref (xa 23), .ref (xa 24)])), (xa 17, .inl (cI, 151, .inl (fun _ => 0))), (xa 18, .inl (cI, 151, .inl (fun _ => 0))), (xa 19, .inl (cI, 151, .inl (fun _ => 0))), (xa 20, .inl (cI, 151, .inl (fun _ => 0))), (xa 21, .inl (cI, 151, .inl (fun _ => 0))), (xa 22, .inl (cI, 151, .inl (fun _ => 0))), (xa 23, .inl (cI, 151, .inl (fun _ => 0))), (xa 24, .inl (cI, 151, .inl (fun _ => 0))), (xa 25, .inr (0, [.ref (xa 26), .int 0, .int 0, .int 0, .int (-1), .int 0, .int 0, .int 0])), (xa 26, .inr (3, [.ref (xa 27), .int 0])), (xa 27, .inl (cI, 300, .inl (fun _ => 0))), (oo, .inl (cL, 1, .inr (.inl kf)))] H := hP
    obtain rfl := hB
    refine vx_catch hown [] ⟨0, 10, 13, 13⟩ [] htab (fun z h => nomatch h) (by decide) (by decide) (hts (.classLink RL 13 "java/lang/IndexOutOfBoundsException") (by decide +kernel)) (hZ.cast 0 rfl) hce hcv hcl ?_
    refine W.widen (k := 2) (n := 12) (by omega) (by omega) ?_
    refine lv_astore (lv' := [(4, .ref q9), (0, .ref (xa 0)), (1, .int p0), (2, .int p1), (3, .ref oo)]) hx hb dL_byteAt_13 hl (by decide) rfl (fun ls hl => ?_)
    refine lv_iconst (v := 1) hx hb dL_byteAt_15 (by decide) ?_
    refine vx_ret ?_
    have hP9 := hP.sub (ws' := [(oo, .inl (cL, 1, .inr (.inl kf)))]) [28] rfl
    have hD9 := hD.sub (ws' := [(oo, .inl (cL, 1, .inr (.inl kf)))]) [28] (by decide) rfl
    exact W.iret (v := 1) hx hb hr (fun t ht hW => ⟨⟨1, kf, rfl, ⟨rfl, fun h => absurd h (by decide)⟩, ⟨by rw [ht]; exact hP9, hD9⟩⟩, hS.F ht⟩) hS.2.2 dL_byteAt_16
  exact (show False from hw).elim
set_option maxHeartbeats 4000000 in
set_option maxRecDepth 100000 in
theorem c_L_check (l : Launch) (hfl : l.stackTraces = false) (dC : Nat → ClassId) (dI : Nat → Nat → Nat) (cI : ClassId) (cL : ClassId) (xa : Nat → Nat) (p0 : Int32) (p1 : Int32) (p2 : Int32) (oo : Nat) (kf : Nat → Int64) (sz : Nat) : vx_Met l yL_check wsL_check ({ frames := 8, cells := 2, slots := 12, locals := 134 }) (va_Pc [.ref (xa 0), .int p0, .int p1, .int p2, .ref oo] (fun U => U.heap.size = sz ∧ va_P (dC, dI) vwCl (wx cI xa ++ [(oo, .inl (cL, 1, .inr (.inl kf)))]) U.heap ∧ va_K (dC, dI) vwCl [(cI, .int), (cL, .long)] U ∧ va_D (fun _ => True) (wx cI xa ++ [(oo, .inl (cL, 1, .inr (.inl kf)))]) ∧ zz_X (va_A (wx cI xa ++ [(oo, .inl (cL, 1, .inr (.inl kf)))]) sz) U)) (va_Qi (fun (r : Int32) (kg : Nat → Int64) => r = zf_check p0 p1 p2 ∧ (r = 0 → kg 0 = 0)) (fun kg t => va_P (dC, dI) vwCl [(oo, .inl (cL, 1, .inr (.inl kg)))] t.heap ∧ va_D (va_A (wx cI xa ++ [(oo, .inl (cL, 1, .inr (.inl kf)))]) sz) [(oo, .inl (cL, 1, .inr (.inl kg)))]) (va_A (wx cI xa ++ [(oo, .inl (cL, 1, .inr (.inl kf)))]) sz)) (vx_X (fun _ : Unit => True) (fun E _ _ => False) (va_A (wx cI xa ++ [(oo, .inl (cL, 1, .inr (.inl kf)))]) sz)) 2 12 (va_A (wx cI xa ++ [(oo, .inl (cL, 1, .inr (.inl kf)))]) sz) := by
  refine vx_ofWH (cc := cL_check) (maxL := 6) (ret := (some .int)) (by decide) rfl ?_
  intro p e s m args below meth c s₁ B hml hv
  obtain ⟨rfl, hsz, hP, hK, hD0, hZ⟩ := hv
  have hx := B.exec
  have hb := B.bytes
  have hr := B.returns
  have hts := atoms_spec (ws := wsL_check) B.pre
  have hown : s.vm.findClass RL = some m.cls := findClass_of_methodNamed B.named
  have hlocks := B.notSynchronized
  subst hsz
  have hD := hD0.self (sz := s.heap.size)
  generalize hAe : va_A (wx cI xa ++ [(oo, .inl (cL, 1, .inr (.inl kf)))]) s.heap.size = A at hD hZ ⊢
  have hA : ∀ q : Nat, s.heap.size ≤ q → A q := fun q h => by rw [← hAe]; exact Or.inr h
  have hS : va_S A s.heap s.heap [] := va_S.rf
  have htab := vx_table (x := yL_check) B (hts _ (List.mem_cons_self))
  have hP : va_P (dC, dI) vwCl [(xa 0, .inr (4, [.ref (xa 1), .ref (xa 3), .ref (xa 5), .ref (xa 7), .ref (xa 16), .ref (xa 25), .int 3])), (xa 1, .inr (3, [.ref (xa 2), .int 0])), (xa 2, .inl (cI, 150, .inl (fun _ => 0))), (xa 3, .inr (3, [.ref (xa 4), .int 0])), (xa 4, .inl (cI, 150, .inl (fun _ => 0))), (xa 5, .inr (3, [.ref (xa 6), .int 0])), (xa 6, .inl (cI, 400, .inl (fun _ => 0))), (xa 7, .inr (1, [.ref (xa 8), .ref (xa 10), .ref (xa 12), .ref (xa 14), .int 0, .int 0])), (xa 8, .inr (3, [.ref (xa 9), .int 0])), (xa 9, .inl (cI, 150, .inl (fun _ => 0))), (xa 10, .inr (3, [.ref (xa 11), .int 0])), (xa 11, .inl (cI, 150, .inl (fun _ => 0))), (xa 12, .inr (3, [.ref (xa 13), .int 0])), (xa 13, .inl (cI, 150, .inl (fun _ => 0))), (xa 14, .inr (3, [.ref (xa 15), .int 0])), (xa 15, .inl (cI, 150, .inl (fun _ => 0))), (xa 16, .inr (2, [.ref (xa 17), .ref (xa 18), .ref (xa 19), .ref (xa 20), .ref (xa 21), .ref (xa 22), .ref (xa 23), .ref (xa 24)])), (xa 17, .inl (cI, 151, .inl (fun _ => 0))), (xa 18, .inl (cI, 151, .inl (fun _ => 0))), (xa 19, .inl (cI, 151, .inl (fun _ => 0))), (xa 20, .inl (cI, 151, .inl (fun _ => 0))), (xa 21, .inl (cI, 151, .inl (fun _ => 0))), (xa 22, .inl (cI, 151, .inl (fun _ => 0))), (xa 23, .inl (cI, 151, .inl (fun _ => 0))), (xa 24, .inl (cI, 151, .inl (fun _ => 0))), (xa 25, .inr (0, [.ref (xa 26), .int 0, .int 0, .int 0, .int (-1), .int 0, .int 0, .int 0])), (xa 26, .inr (3, [.ref (xa 27), .int 0])), (xa 27, .inl (cI, 300, .inl (fun _ => 0))), (oo, .inl (cL, 1, .inr (.inl kf)))] s.heap := hP
  have hl := lv_entry ([.ref (xa 0), .int p0, .int p1, .int p2, .ref oo]) (n := 6) (Nat.le_of_ble_eq_true rfl)
  rw [lg_entry_eq]
  generalize (lg_sl ([.ref (xa 0), .int p0, .int p1, .int p2, .ref oo]) ++ List.replicate (6 - (lg_sl ([.ref (xa 0), .int p0, .int p1, .int p2, .ref oo])).length) Slot.unset).toArray = ls at hl ⊢
  have hl : lv_has ls 6 [(0, .ref (xa 0)), (1, .int p0), (2, .int p1), (3, .int p2), (4, .ref oo)] := hl
  refine lv_aload hx hb dL_check_0 (lv_at hl 4 rfl) ?_
  refine lv_iconst (v := 0) hx hb dL_check_2 (by decide) ?_
  refine lv_aload_n hx hb dL_check_3 rfl (lv_at hl 0 rfl) ?_
  refine lv_iload_n hx hb dL_check_4 rfl (lv_at hl 1 rfl) ?_
  refine lv_iload_n hx hb dL_check_5 rfl (lv_at hl 2 rfl) ?_
  refine lv_iload_n hx hb dL_check_6 rfl (lv_at hl 3 rfl) ?_
  have hPc := hP.sub (ws' := wx cI xa) [0, 1, 2, 3, 4, 5, 6, 7, 8, 9, 10, 11, 12, 13, 14, 15, 16, 17, 18, 19, 20, 21, 22, 23, 24, 25, 26, 27] rfl
  have hFc : ∀ q : Nat, s.heap.size ≤ q → A q := fun q h => hA q (Nat.le_trans hS.1 h)
  have hKc := hK.sub (tys' := [(cI, .int)]) [0] rfl
  refine vx_calli (vx_runV (As := [.int p0, .int p1, .int p2]) (rest := [.int 0, .ref oo]) ⟨hx, hb, hml, hown, hts⟩ (c_X4_check l hfl dC dI cI xa p0 p1 p2 s.heap.size) (cwV 3 hts gL_check_X4_check rfl rfl rfl (by decide +kernel) ⟨Nat.le_of_ble_eq_true rfl, Nat.le_of_ble_eq_true rfl⟩) ⟨fun a U g mk q => by obtain ⟨q0, q1, qP, qK, qD, qZ⟩ := q; exact ⟨q0, q1, qP, va_K.moved (u := U) (U := U.calling g mk a) (Vm.Alike.refl U.vm) qK, qD, qZ.call⟩, va_recv hKc hPc (ci := 4) (q0 := 0) rfl rfl, fun U hU hW => ⟨rfl, by rw [hU], by rw [hU]; exact hPc, va_K.moved hW.alike hKc, zz_D (hD.sub (ws' := wx cI xa) [0, 1, 2, 3, 4, 5, 6, 7, 8, 9, 10, 11, 12, 13, 14, 15, 16, 17, 18, 19, 20, 21, 22, 23, 24, 25, 26, 27] (by decide) rfl), hZ.go hS hFc hU hW⟩⟩ rfl rfl hl.1 rfl (lv_room (Nat.le_of_ble_eq_true rfl)) dL_check_7 ⟨(Nat.le_of_ble_eq_true rfl), (Nat.le_of_ble_eq_true rfl)⟩) hS (fun q h1 h2 => absurd h1 (Nat.not_lt.mpr h2)) hFc (fun q h1 h2 => absurd h1 (Nat.not_lt.mpr h2)) (fun E ce q9 u_667 t H1 locs ht hvm hw hB hz1 hk1 hS1 hce hcv hcl => ?_) (fun r_666 u_667 t H1 locs ht hvm hw hB hz1 hk1 hS1 => ?_)
  · skip
    have hP := zz_keep hP hk1
    have hS := hS1
    clear hS1
    generalize H1 = H at hP hS hce ht ⊢
    have hP : va_P (dC, dI) vwCl [(xa 0, .inr (4, [.ref (xa 1), .ref (xa 3), .ref (xa 5), .ref (xa 7), .ref (xa 16), .ref (xa 25), .int 3])), (xa 1, .inr (3, [.ref (xa 2), .int 0])), (xa 2, .inl (cI, 150, .inl (fun _ => 0))), (xa 3, .inr (3, [.ref (xa 4), .int 0])), (xa 4, .inl (cI, 150, .inl (fun _ => 0))), (xa 5, .inr (3, [.ref (xa 6), .int 0])), (xa 6, .inl (cI, 400, .inl (fun _ => 0))), (xa 7, .inr (1, [.ref (xa 8), .ref (xa 10), .ref (xa 12), .ref (xa 14), .int 0, .int 0])), (xa 8, .inr (3, [.ref (xa 9), .int 0])), (xa 9, .inl (cI, 150, .inl (fun _ => 0))), (xa 10, .inr (3, [.ref (xa 11), .int 0])), (xa 11, .inl (cI, 150, .inl (fun _ => 0))), (xa 12, .inr (3, [.ref (xa 13), .int 0])), (xa 13, .inl (cI, 150, .inl (fun _ => 0))), (xa 14, .inr (3, [.ref (xa 15), .int 0])), (xa 15, .inl (cI, 150, .inl (fun _ => 0))), (xa 16, .inr (2, [.ref (xa 17), .ref (xa 18), .ref (xa 19), .ref (xa 20), .ref (xa 21), .ref (xa 22), .ref (xa 23), .ref (xa 24)])), (xa 17, .inl (cI, 151, .inl (fun _ => 0))), (xa 18, .inl (cI, 151, .inl (fun _ => 0))), (xa 19, .inl (cI, 151, .inl (fun _ => 0))), (xa 20, .inl (cI, 151, .inl (fun _ => 0))), (xa 21, .inl (cI, 151, .inl (fun _ => 0))), (xa 22, .inl (cI, 151, .inl (fun _ => 0))), (xa 23, .inl (cI, 151, .inl (fun _ => 0))), (xa 24, .inl (cI, 151, .inl (fun _ => 0))), (xa 25, .inr (0, [.ref (xa 26), .int 0, .int 0, .int 0, .int (-1), .int 0, .int 0, .int 0])), (xa 26, .inr (3, [.ref (xa 27), .int 0])), (xa 27, .inl (cI, 300, .inl (fun _ => 0))), (oo, .inl (cL, 1, .inr (.inl kf)))] H := hP
    obtain ⟨rfl, hz⟩ := hB
    refine vx_catch hown [] ⟨0, 12, 15, 13⟩ [] htab (fun z h => nomatch h) (by decide) (by decide) (hts (.classLink RL 13 "java/lang/IndexOutOfBoundsException") (by decide +kernel)) (hZ.cast 0 rfl) hce hcv hcl ?_
    refine W.widen (k := 2) (n := 12) (by omega) (by omega) ?_
    refine lv_astore (lv' := [(5, .ref q9), (0, .ref (xa 0)), (1, .int p0), (2, .int p1), (3, .int p2), (4, .ref oo)]) hx hb dL_check_15 hl (by decide) rfl (fun ls hl => ?_)
    refine lv_iconst (v := 1) hx hb dL_check_17 (by decide) ?_
    refine vx_ret ?_
    have hP9 := hP.sub (ws' := [(oo, .inl (cL, 1, .inr (.inl kf)))]) [28] rfl
    have hD9 := hD.sub (ws' := [(oo, .inl (cL, 1, .inr (.inl kf)))]) [28] (by decide) rfl
    exact W.iret (v := 1) hx hb hr (fun t ht hW => ⟨⟨1, kf, rfl, ⟨hz.symm, fun h => absurd h (by decide)⟩, ⟨by rw [ht]; exact hP9, hD9⟩⟩, hS.F ht⟩) hS.2.2 dL_check_18
  have hP := zz_keep hP hk1
  have hS := hS1
  clear hS1
  generalize H1 = H at hP hS ht ⊢
  have hP : va_P (dC, dI) vwCl [(xa 0, .inr (4, [.ref (xa 1), .ref (xa 3), .ref (xa 5), .ref (xa 7), .ref (xa 16), .ref (xa 25), .int 3])), (xa 1, .inr (3, [.ref (xa 2), .int 0])), (xa 2, .inl (cI, 150, .inl (fun _ => 0))), (xa 3, .inr (3, [.ref (xa 4), .int 0])), (xa 4, .inl (cI, 150, .inl (fun _ => 0))), (xa 5, .inr (3, [.ref (xa 6), .int 0])), (xa 6, .inl (cI, 400, .inl (fun _ => 0))), (xa 7, .inr (1, [.ref (xa 8), .ref (xa 10), .ref (xa 12), .ref (xa 14), .int 0, .int 0])), (xa 8, .inr (3, [.ref (xa 9), .int 0])), (xa 9, .inl (cI, 150, .inl (fun _ => 0))), (xa 10, .inr (3, [.ref (xa 11), .int 0])), (xa 11, .inl (cI, 150, .inl (fun _ => 0))), (xa 12, .inr (3, [.ref (xa 13), .int 0])), (xa 13, .inl (cI, 150, .inl (fun _ => 0))), (xa 14, .inr (3, [.ref (xa 15), .int 0])), (xa 15, .inl (cI, 150, .inl (fun _ => 0))), (xa 16, .inr (2, [.ref (xa 17), .ref (xa 18), .ref (xa 19), .ref (xa 20), .ref (xa 21), .ref (xa 22), .ref (xa 23), .ref (xa 24)])), (xa 17, .inl (cI, 151, .inl (fun _ => 0))), (xa 18, .inl (cI, 151, .inl (fun _ => 0))), (xa 19, .inl (cI, 151, .inl (fun _ => 0))), (xa 20, .inl (cI, 151, .inl (fun _ => 0))), (xa 21, .inl (cI, 151, .inl (fun _ => 0))), (xa 22, .inl (cI, 151, .inl (fun _ => 0))), (xa 23, .inl (cI, 151, .inl (fun _ => 0))), (xa 24, .inl (cI, 151, .inl (fun _ => 0))), (xa 25, .inr (0, [.ref (xa 26), .int 0, .int 0, .int 0, .int (-1), .int 0, .int 0, .int 0])), (xa 26, .inr (3, [.ref (xa 27), .int 0])), (xa 27, .inl (cI, 300, .inl (fun _ => 0))), (oo, .inl (cL, 1, .inr (.inl kf)))] H := hP
  refine W.widen (k := 2) (n := 12) (by omega) (by omega) ?_
  obtain ⟨hrv, hw⟩ := hw
  obtain rfl : 0 = r_666 := hrv.symm
  have w7 := hw
  refine lv_i2l (v := 0) hx hb dL_check_10 (by decide) ?_
  refine va_last hx hb hK hP hD hS 28 1 rfl rfl (by unfold vp_in; decide) dL_check_11 (fun H locs hP hD hS => ?_)
  obtain ⟨f_668, ef_668⟩ : ∃ g, g = vp_updL kf (0 : Int32).toNatClampNeg 0 := ⟨_, rfl⟩
  rw [← ef_668] at hP hD
  have hP : va_P (dC, dI) vwCl [(xa 0, .inr (4, [.ref (xa 1), .ref (xa 3), .ref (xa 5), .ref (xa 7), .ref (xa 16), .ref (xa 25), .int 3])), (xa 1, .inr (3, [.ref (xa 2), .int 0])), (xa 2, .inl (cI, 150, .inl (fun _ => 0))), (xa 3, .inr (3, [.ref (xa 4), .int 0])), (xa 4, .inl (cI, 150, .inl (fun _ => 0))), (xa 5, .inr (3, [.ref (xa 6), .int 0])), (xa 6, .inl (cI, 400, .inl (fun _ => 0))), (xa 7, .inr (1, [.ref (xa 8), .ref (xa 10), .ref (xa 12), .ref (xa 14), .int 0, .int 0])), (xa 8, .inr (3, [.ref (xa 9), .int 0])), (xa 9, .inl (cI, 150, .inl (fun _ => 0))), (xa 10, .inr (3, [.ref (xa 11), .int 0])), (xa 11, .inl (cI, 150, .inl (fun _ => 0))), (xa 12, .inr (3, [.ref (xa 13), .int 0])), (xa 13, .inl (cI, 150, .inl (fun _ => 0))), (xa 14, .inr (3, [.ref (xa 15), .int 0])), (xa 15, .inl (cI, 150, .inl (fun _ => 0))), (xa 16, .inr (2, [.ref (xa 17), .ref (xa 18), .ref (xa 19), .ref (xa 20), .ref (xa 21), .ref (xa 22), .ref (xa 23), .ref (xa 24)])), (xa 17, .inl (cI, 151, .inl (fun _ => 0))), (xa 18, .inl (cI, 151, .inl (fun _ => 0))), (xa 19, .inl (cI, 151, .inl (fun _ => 0))), (xa 20, .inl (cI, 151, .inl (fun _ => 0))), (xa 21, .inl (cI, 151, .inl (fun _ => 0))), (xa 22, .inl (cI, 151, .inl (fun _ => 0))), (xa 23, .inl (cI, 151, .inl (fun _ => 0))), (xa 24, .inl (cI, 151, .inl (fun _ => 0))), (xa 25, .inr (0, [.ref (xa 26), .int 0, .int 0, .int 0, .int (-1), .int 0, .int 0, .int 0])), (xa 26, .inr (3, [.ref (xa 27), .int 0])), (xa 27, .inl (cI, 300, .inl (fun _ => 0))), (oo, .inl (cL, 1, .inr (.inl f_668)))] H := hP
  have hD : va_D A [(xa 0, .inr (4, [.ref (xa 1), .ref (xa 3), .ref (xa 5), .ref (xa 7), .ref (xa 16), .ref (xa 25), .int 3])), (xa 1, .inr (3, [.ref (xa 2), .int 0])), (xa 2, .inl (cI, 150, .inl (fun _ => 0))), (xa 3, .inr (3, [.ref (xa 4), .int 0])), (xa 4, .inl (cI, 150, .inl (fun _ => 0))), (xa 5, .inr (3, [.ref (xa 6), .int 0])), (xa 6, .inl (cI, 400, .inl (fun _ => 0))), (xa 7, .inr (1, [.ref (xa 8), .ref (xa 10), .ref (xa 12), .ref (xa 14), .int 0, .int 0])), (xa 8, .inr (3, [.ref (xa 9), .int 0])), (xa 9, .inl (cI, 150, .inl (fun _ => 0))), (xa 10, .inr (3, [.ref (xa 11), .int 0])), (xa 11, .inl (cI, 150, .inl (fun _ => 0))), (xa 12, .inr (3, [.ref (xa 13), .int 0])), (xa 13, .inl (cI, 150, .inl (fun _ => 0))), (xa 14, .inr (3, [.ref (xa 15), .int 0])), (xa 15, .inl (cI, 150, .inl (fun _ => 0))), (xa 16, .inr (2, [.ref (xa 17), .ref (xa 18), .ref (xa 19), .ref (xa 20), .ref (xa 21), .ref (xa 22), .ref (xa 23), .ref (xa 24)])), (xa 17, .inl (cI, 151, .inl (fun _ => 0))), (xa 18, .inl (cI, 151, .inl (fun _ => 0))), (xa 19, .inl (cI, 151, .inl (fun _ => 0))), (xa 20, .inl (cI, 151, .inl (fun _ => 0))), (xa 21, .inl (cI, 151, .inl (fun _ => 0))), (xa 22, .inl (cI, 151, .inl (fun _ => 0))), (xa 23, .inl (cI, 151, .inl (fun _ => 0))), (xa 24, .inl (cI, 151, .inl (fun _ => 0))), (xa 25, .inr (0, [.ref (xa 26), .int 0, .int 0, .int 0, .int (-1), .int 0, .int 0, .int 0])), (xa 26, .inr (3, [.ref (xa 27), .int 0])), (xa 27, .inl (cI, 300, .inl (fun _ => 0))), (oo, .inl (cL, 1, .inr (.inl f_668)))] := hD
  refine lv_goto (tgt := 19) hx hb dL_check_12 (by decide) ?_
  refine lv_iconst (v := 0) hx hb dL_check_19 (by decide) ?_
  refine vx_ret ?_
  have hP9 := hP.sub (ws' := [(oo, .inl (cL, 1, .inr (.inl f_668)))]) [28] rfl
  have hD9 := hD.sub (ws' := [(oo, .inl (cL, 1, .inr (.inl f_668)))]) [28] (by decide) rfl
  exact W.iret (v := 0) hx hb hr (fun t ht hW => ⟨⟨0, f_668, rfl, ⟨w7.symm, fun _ => by rw [ef_668]; rfl⟩, ⟨by rw [ht]; exact hP9, hD9⟩⟩, hS.F ht⟩) hS.2.2 dL_check_20
set_option maxHeartbeats 4000000 in
set_option maxRecDepth 100000 in
theorem c_L_match (l : Launch) (hfl : l.stackTraces = false) (dC : Nat → ClassId) (dI : Nat → Nat → Nat) (cI : ClassId) (cL : ClassId) (xa : Nat → Nat) (p0 : Int32) (p1 : Int32) (oo : Nat) (kf : Nat → Int64) (sz : Nat) : vx_Met l yL_match wsL_match ({ frames := 8, cells := 1, slots := 6, locals := 134 }) (va_Pc [.ref (xa 0), .int p0, .int p1, .ref oo] (fun U => U.heap.size = sz ∧ va_P (dC, dI) vwCl (wx cI xa ++ [(oo, .inl (cL, 1, .inr (.inl kf)))]) U.heap ∧ va_K (dC, dI) vwCl [(cI, .int), (cL, .long)] U ∧ va_D (fun _ => True) (wx cI xa ++ [(oo, .inl (cL, 1, .inr (.inl kf)))]) ∧ zz_X (va_A (wx cI xa ++ [(oo, .inl (cL, 1, .inr (.inl kf)))]) sz) U)) (va_Qi (fun (r : Int32) (kg : Nat → Int64) => r = 1 ∧ (r = 0 → kg 0 = 0)) (fun kg t => va_P (dC, dI) vwCl [(oo, .inl (cL, 1, .inr (.inl kg)))] t.heap ∧ va_D (va_A (wx cI xa ++ [(oo, .inl (cL, 1, .inr (.inl kf)))]) sz) [(oo, .inl (cL, 1, .inr (.inl kg)))]) (va_A (wx cI xa ++ [(oo, .inl (cL, 1, .inr (.inl kf)))]) sz)) (vx_X (fun _ : Unit => True) (fun E _ _ => False) (va_A (wx cI xa ++ [(oo, .inl (cL, 1, .inr (.inl kf)))]) sz)) 1 6 (va_A (wx cI xa ++ [(oo, .inl (cL, 1, .inr (.inl kf)))]) sz) := by
  refine vx_ofWH (cc := cL_match) (maxL := 5) (ret := (some .int)) (by decide) rfl ?_
  intro p e s m args below meth c s₁ B hml hv
  obtain ⟨rfl, hsz, hP, hK, hD0, hZ⟩ := hv
  have hx := B.exec
  have hb := B.bytes
  have hr := B.returns
  have hts := atoms_spec (ws := wsL_match) B.pre
  have hown : s.vm.findClass RL = some m.cls := findClass_of_methodNamed B.named
  have hlocks := B.notSynchronized
  subst hsz
  have hD := hD0.self (sz := s.heap.size)
  generalize hAe : va_A (wx cI xa ++ [(oo, .inl (cL, 1, .inr (.inl kf)))]) s.heap.size = A at hD hZ ⊢
  have hA : ∀ q : Nat, s.heap.size ≤ q → A q := fun q h => by rw [← hAe]; exact Or.inr h
  have hS : va_S A s.heap s.heap [] := va_S.rf
  have htab := vx_table (x := yL_match) B (hts _ (List.mem_cons_self))
  have hP : va_P (dC, dI) vwCl [(xa 0, .inr (4, [.ref (xa 1), .ref (xa 3), .ref (xa 5), .ref (xa 7), .ref (xa 16), .ref (xa 25), .int 3])), (xa 1, .inr (3, [.ref (xa 2), .int 0])), (xa 2, .inl (cI, 150, .inl (fun _ => 0))), (xa 3, .inr (3, [.ref (xa 4), .int 0])), (xa 4, .inl (cI, 150, .inl (fun _ => 0))), (xa 5, .inr (3, [.ref (xa 6), .int 0])), (xa 6, .inl (cI, 400, .inl (fun _ => 0))), (xa 7, .inr (1, [.ref (xa 8), .ref (xa 10), .ref (xa 12), .ref (xa 14), .int 0, .int 0])), (xa 8, .inr (3, [.ref (xa 9), .int 0])), (xa 9, .inl (cI, 150, .inl (fun _ => 0))), (xa 10, .inr (3, [.ref (xa 11), .int 0])), (xa 11, .inl (cI, 150, .inl (fun _ => 0))), (xa 12, .inr (3, [.ref (xa 13), .int 0])), (xa 13, .inl (cI, 150, .inl (fun _ => 0))), (xa 14, .inr (3, [.ref (xa 15), .int 0])), (xa 15, .inl (cI, 150, .inl (fun _ => 0))), (xa 16, .inr (2, [.ref (xa 17), .ref (xa 18), .ref (xa 19), .ref (xa 20), .ref (xa 21), .ref (xa 22), .ref (xa 23), .ref (xa 24)])), (xa 17, .inl (cI, 151, .inl (fun _ => 0))), (xa 18, .inl (cI, 151, .inl (fun _ => 0))), (xa 19, .inl (cI, 151, .inl (fun _ => 0))), (xa 20, .inl (cI, 151, .inl (fun _ => 0))), (xa 21, .inl (cI, 151, .inl (fun _ => 0))), (xa 22, .inl (cI, 151, .inl (fun _ => 0))), (xa 23, .inl (cI, 151, .inl (fun _ => 0))), (xa 24, .inl (cI, 151, .inl (fun _ => 0))), (xa 25, .inr (0, [.ref (xa 26), .int 0, .int 0, .int 0, .int (-1), .int 0, .int 0, .int 0])), (xa 26, .inr (3, [.ref (xa 27), .int 0])), (xa 27, .inl (cI, 300, .inl (fun _ => 0))), (oo, .inl (cL, 1, .inr (.inl kf)))] s.heap := hP
  have hl := lv_entry ([.ref (xa 0), .int p0, .int p1, .ref oo]) (n := 5) (Nat.le_of_ble_eq_true rfl)
  rw [lg_entry_eq]
  generalize (lg_sl ([.ref (xa 0), .int p0, .int p1, .ref oo]) ++ List.replicate (5 - (lg_sl ([.ref (xa 0), .int p0, .int p1, .ref oo])).length) Slot.unset).toArray = ls at hl ⊢
  have hl : lv_has ls 5 [(0, .ref (xa 0)), (1, .int p0), (2, .int p1), (3, .ref oo)] := hl
  refine lv_aload_n hx hb dL_match_0 rfl (lv_at hl 3 rfl) ?_
  refine lv_iconst (v := 0) hx hb dL_match_1 (by decide) ?_
  refine lv_aload_n hx hb dL_match_2 rfl (lv_at hl 0 rfl) ?_
  refine lv_iload_n hx hb dL_match_3 rfl (lv_at hl 1 rfl) ?_
  refine lv_iload_n hx hb dL_match_4 rfl (lv_at hl 2 rfl) ?_
  have hPc := hP.sub (ws' := wx cI xa) [0, 1, 2, 3, 4, 5, 6, 7, 8, 9, 10, 11, 12, 13, 14, 15, 16, 17, 18, 19, 20, 21, 22, 23, 24, 25, 26, 27] rfl
  have hFc : ∀ q : Nat, s.heap.size ≤ q → A q := fun q h => hA q (Nat.le_trans hS.1 h)
  have hKc := hK.sub (tys' := [(cI, .int)]) [0] rfl
  refine vx_calli (vx_runV (As := [.int p0, .int p1]) (rest := [.int 0, .ref oo]) ⟨hx, hb, hml, hown, hts⟩ (c_X4_match l hfl dC dI cI xa p0 p1 s.heap.size) (cwV 2 hts gL_match_X4_match rfl rfl rfl (by decide +kernel) ⟨Nat.le_of_ble_eq_true rfl, Nat.le_of_ble_eq_true rfl⟩) ⟨fun a U g mk q => by obtain ⟨q0, q1, qP, qK, qD, qZ⟩ := q; exact ⟨q0, q1, qP, va_K.moved (u := U) (U := U.calling g mk a) (Vm.Alike.refl U.vm) qK, qD, qZ.call⟩, va_recv hKc hPc (ci := 4) (q0 := 0) rfl rfl, fun U hU hW => ⟨rfl, by rw [hU], by rw [hU]; exact hPc, va_K.moved hW.alike hKc, zz_D (hD.sub (ws' := wx cI xa) [0, 1, 2, 3, 4, 5, 6, 7, 8, 9, 10, 11, 12, 13, 14, 15, 16, 17, 18, 19, 20, 21, 22, 23, 24, 25, 26, 27] (by decide) rfl), hZ.go hS hFc hU hW⟩⟩ rfl rfl hl.1 rfl (lv_room (Nat.le_of_ble_eq_true rfl)) dL_match_5 ⟨(Nat.le_of_ble_eq_true rfl), (Nat.le_of_ble_eq_true rfl)⟩) hS (fun q h1 h2 => absurd h1 (Nat.not_lt.mpr h2)) hFc (fun q h1 h2 => absurd h1 (Nat.not_lt.mpr h2)) (fun E ce q9 u_670 t H1 locs ht hvm hw hB hz1 hk1 hS1 hce hcv hcl => ?_) (fun r_669 u_670 t H1 locs ht hvm hw hB hz1 hk1 hS1 => ?_)
  · skip
    have hP := zz_keep hP hk1
    have hS := hS1
    clear hS1
    generalize H1 = H at hP hS hce ht ⊢
    have hP : va_P (dC, dI) vwCl [(xa 0, .inr (4, [.ref (xa 1), .ref (xa 3), .ref (xa 5), .ref (xa 7), .ref (xa 16), .ref (xa 25), .int 3])), (xa 1, .inr (3, [.ref (xa 2), .int 0])), (xa 2, .inl (cI, 150, .inl (fun _ => 0))), (xa 3, .inr (3, [.ref (xa 4), .int 0])), (xa 4, .inl (cI, 150, .inl (fun _ => 0))), (xa 5, .inr (3, [.ref (xa 6), .int 0])), (xa 6, .inl (cI, 400, .inl (fun _ => 0))), (xa 7, .inr (1, [.ref (xa 8), .ref (xa 10), .ref (xa 12), .ref (xa 14), .int 0, .int 0])), (xa 8, .inr (3, [.ref (xa 9), .int 0])), (xa 9, .inl (cI, 150, .inl (fun _ => 0))), (xa 10, .inr (3, [.ref (xa 11), .int 0])), (xa 11, .inl (cI, 150, .inl (fun _ => 0))), (xa 12, .inr (3, [.ref (xa 13), .int 0])), (xa 13, .inl (cI, 150, .inl (fun _ => 0))), (xa 14, .inr (3, [.ref (xa 15), .int 0])), (xa 15, .inl (cI, 150, .inl (fun _ => 0))), (xa 16, .inr (2, [.ref (xa 17), .ref (xa 18), .ref (xa 19), .ref (xa 20), .ref (xa 21), .ref (xa 22), .ref (xa 23), .ref (xa 24)])), (xa 17, .inl (cI, 151, .inl (fun _ => 0))), (xa 18, .inl (cI, 151, .inl (fun _ => 0))), (xa 19, .inl (cI, 151, .inl (fun _ => 0))), (xa 20, .inl (cI, 151, .inl (fun _ => 0))), (xa 21, .inl (cI, 151, .inl (fun _ => 0))), (xa 22, .inl (cI, 151, .inl (fun _ => 0))), (xa 23, .inl (cI, 151, .inl (fun _ => 0))), (xa 24, .inl (cI, 151, .inl (fun _ => 0))), (xa 25, .inr (0, [.ref (xa 26), .int 0, .int 0, .int 0, .int (-1), .int 0, .int 0, .int 0])), (xa 26, .inr (3, [.ref (xa 27), .int 0])), (xa 27, .inl (cI, 300, .inl (fun _ => 0))), (oo, .inl (cL, 1, .inr (.inl kf)))] H := hP
    obtain rfl := hB
    refine vx_catch hown [] ⟨0, 10, 13, 13⟩ [] htab (fun z h => nomatch h) (by decide) (by decide) (hts (.classLink RL 13 "java/lang/IndexOutOfBoundsException") (by decide +kernel)) (hZ.cast 0 rfl) hce hcv hcl ?_
    refine W.widen (k := 1) (n := 6) (by omega) (by omega) ?_
    refine lv_astore (lv' := [(4, .ref q9), (0, .ref (xa 0)), (1, .int p0), (2, .int p1), (3, .ref oo)]) hx hb dL_match_13 hl (by decide) rfl (fun ls hl => ?_)
    refine lv_iconst (v := 1) hx hb dL_match_15 (by decide) ?_
    refine vx_ret ?_
    have hP9 := hP.sub (ws' := [(oo, .inl (cL, 1, .inr (.inl kf)))]) [28] rfl
    have hD9 := hD.sub (ws' := [(oo, .inl (cL, 1, .inr (.inl kf)))]) [28] (by decide) rfl
    exact W.iret (v := 1) hx hb hr (fun t ht hW => ⟨⟨1, kf, rfl, ⟨rfl, fun h => absurd h (by decide)⟩, ⟨by rw [ht]; exact hP9, hD9⟩⟩, hS.F ht⟩) hS.2.2 dL_match_16
  exact (show False from hw).elim
set_option maxHeartbeats 4000000 in
set_option maxRecDepth 100000 in
theorem c_L_matchPlace (l : Launch) (hfl : l.stackTraces = false) (dC : Nat → ClassId) (dI : Nat → Nat → Nat) (cI : ClassId) (cL : ClassId) (xa : Nat → Nat) (p0 : Int32) (p1 : Int32) (oo : Nat) (kf : Nat → Int64) (sz : Nat) : vx_Met l yL_matchPlace wsL_matchPlace ({ frames := 8, cells := 1, slots := 6, locals := 133 }) (va_Pc [.ref (xa 0), .int p0, .int p1, .ref oo] (fun U => U.heap.size = sz ∧ va_P (dC, dI) vwCl (wx cI xa ++ [(oo, .inl (cL, 1, .inr (.inl kf)))]) U.heap ∧ va_K (dC, dI) vwCl [(cI, .int), (cL, .long)] U ∧ va_D (fun _ => True) (wx cI xa ++ [(oo, .inl (cL, 1, .inr (.inl kf)))]) ∧ zz_X (va_A (wx cI xa ++ [(oo, .inl (cL, 1, .inr (.inl kf)))]) sz) U)) (va_Qi (fun (r : Int32) (kg : Nat → Int64) => r = 1 ∧ (r = 0 → kg 0 = 0)) (fun kg t => va_P (dC, dI) vwCl [(oo, .inl (cL, 1, .inr (.inl kg)))] t.heap ∧ va_D (va_A (wx cI xa ++ [(oo, .inl (cL, 1, .inr (.inl kf)))]) sz) [(oo, .inl (cL, 1, .inr (.inl kg)))]) (va_A (wx cI xa ++ [(oo, .inl (cL, 1, .inr (.inl kf)))]) sz)) (vx_X (fun _ : Unit => True) (fun E _ _ => False) (va_A (wx cI xa ++ [(oo, .inl (cL, 1, .inr (.inl kf)))]) sz)) 1 6 (va_A (wx cI xa ++ [(oo, .inl (cL, 1, .inr (.inl kf)))]) sz) := by
  refine vx_ofWH (cc := cL_matchPlace) (maxL := 5) (ret := (some .int)) (by decide) rfl ?_
  intro p e s m args below meth c s₁ B hml hv
  obtain ⟨rfl, hsz, hP, hK, hD0, hZ⟩ := hv
  have hx := B.exec
  have hb := B.bytes
  have hr := B.returns
  have hts := atoms_spec (ws := wsL_matchPlace) B.pre
  have hown : s.vm.findClass RL = some m.cls := findClass_of_methodNamed B.named
  have hlocks := B.notSynchronized
  subst hsz
  have hD := hD0.self (sz := s.heap.size)
  generalize hAe : va_A (wx cI xa ++ [(oo, .inl (cL, 1, .inr (.inl kf)))]) s.heap.size = A at hD hZ ⊢
  have hA : ∀ q : Nat, s.heap.size ≤ q → A q := fun q h => by rw [← hAe]; exact Or.inr h
  have hS : va_S A s.heap s.heap [] := va_S.rf
  have htab := vx_table (x := yL_matchPlace) B (hts _ (List.mem_cons_self))
  have hP : va_P (dC, dI) vwCl [(xa 0, .inr (4, [.ref (xa 1), .ref (xa 3), .ref (xa 5), .ref (xa 7), .ref (xa 16), .ref (xa 25), .int 3])), (xa 1, .inr (3, [.ref (xa 2), .int 0])), (xa 2, .inl (cI, 150, .inl (fun _ => 0))), (xa 3, .inr (3, [.ref (xa 4), .int 0])), (xa 4, .inl (cI, 150, .inl (fun _ => 0))), (xa 5, .inr (3, [.ref (xa 6), .int 0])), (xa 6, .inl (cI, 400, .inl (fun _ => 0))), (xa 7, .inr (1, [.ref (xa 8), .ref (xa 10), .ref (xa 12), .ref (xa 14), .int 0, .int 0])), (xa 8, .inr (3, [.ref (xa 9), .int 0])), (xa 9, .inl (cI, 150, .inl (fun _ => 0))), (xa 10, .inr (3, [.ref (xa 11), .int 0])), (xa 11, .inl (cI, 150, .inl (fun _ => 0))), (xa 12, .inr (3, [.ref (xa 13), .int 0])), (xa 13, .inl (cI, 150, .inl (fun _ => 0))), (xa 14, .inr (3, [.ref (xa 15), .int 0])), (xa 15, .inl (cI, 150, .inl (fun _ => 0))), (xa 16, .inr (2, [.ref (xa 17), .ref (xa 18), .ref (xa 19), .ref (xa 20), .ref (xa 21), .ref (xa 22), .ref (xa 23), .ref (xa 24)])), (xa 17, .inl (cI, 151, .inl (fun _ => 0))), (xa 18, .inl (cI, 151, .inl (fun _ => 0))), (xa 19, .inl (cI, 151, .inl (fun _ => 0))), (xa 20, .inl (cI, 151, .inl (fun _ => 0))), (xa 21, .inl (cI, 151, .inl (fun _ => 0))), (xa 22, .inl (cI, 151, .inl (fun _ => 0))), (xa 23, .inl (cI, 151, .inl (fun _ => 0))), (xa 24, .inl (cI, 151, .inl (fun _ => 0))), (xa 25, .inr (0, [.ref (xa 26), .int 0, .int 0, .int 0, .int (-1), .int 0, .int 0, .int 0])), (xa 26, .inr (3, [.ref (xa 27), .int 0])), (xa 27, .inl (cI, 300, .inl (fun _ => 0))), (oo, .inl (cL, 1, .inr (.inl kf)))] s.heap := hP
  have hl := lv_entry ([.ref (xa 0), .int p0, .int p1, .ref oo]) (n := 5) (Nat.le_of_ble_eq_true rfl)
  rw [lg_entry_eq]
  generalize (lg_sl ([.ref (xa 0), .int p0, .int p1, .ref oo]) ++ List.replicate (5 - (lg_sl ([.ref (xa 0), .int p0, .int p1, .ref oo])).length) Slot.unset).toArray = ls at hl ⊢
  have hl : lv_has ls 5 [(0, .ref (xa 0)), (1, .int p0), (2, .int p1), (3, .ref oo)] := hl
  refine lv_aload_n hx hb dL_matchPlace_0 rfl (lv_at hl 3 rfl) ?_
  refine lv_iconst (v := 0) hx hb dL_matchPlace_1 (by decide) ?_
  refine lv_aload_n hx hb dL_matchPlace_2 rfl (lv_at hl 0 rfl) ?_
  refine lv_iload_n hx hb dL_matchPlace_3 rfl (lv_at hl 1 rfl) ?_
  refine lv_iload_n hx hb dL_matchPlace_4 rfl (lv_at hl 2 rfl) ?_
  have hPc := hP.sub (ws' := wx cI xa) [0, 1, 2, 3, 4, 5, 6, 7, 8, 9, 10, 11, 12, 13, 14, 15, 16, 17, 18, 19, 20, 21, 22, 23, 24, 25, 26, 27] rfl
  have hFc : ∀ q : Nat, s.heap.size ≤ q → A q := fun q h => hA q (Nat.le_trans hS.1 h)
  have hKc := hK.sub (tys' := [(cI, .int)]) [0] rfl
  refine vx_calli (vx_runV (As := [.int p0, .int p1]) (rest := [.int 0, .ref oo]) ⟨hx, hb, hml, hown, hts⟩ (c_X4_matchPlace l hfl dC dI cI xa p0 p1 s.heap.size) (cwV 2 hts gL_matchPlace_X4_matchPlace rfl rfl rfl (by decide +kernel) ⟨Nat.le_of_ble_eq_true rfl, Nat.le_of_ble_eq_true rfl⟩) ⟨fun a U g mk q => by obtain ⟨q0, q1, qP, qK, qD, qZ⟩ := q; exact ⟨q0, q1, qP, va_K.moved (u := U) (U := U.calling g mk a) (Vm.Alike.refl U.vm) qK, qD, qZ.call⟩, va_recv hKc hPc (ci := 4) (q0 := 0) rfl rfl, fun U hU hW => ⟨rfl, by rw [hU], by rw [hU]; exact hPc, va_K.moved hW.alike hKc, zz_D (hD.sub (ws' := wx cI xa) [0, 1, 2, 3, 4, 5, 6, 7, 8, 9, 10, 11, 12, 13, 14, 15, 16, 17, 18, 19, 20, 21, 22, 23, 24, 25, 26, 27] (by decide) rfl), hZ.go hS hFc hU hW⟩⟩ rfl rfl hl.1 rfl (lv_room (Nat.le_of_ble_eq_true rfl)) dL_matchPlace_5 ⟨(Nat.le_of_ble_eq_true rfl), (Nat.le_of_ble_eq_true rfl)⟩) hS (fun q h1 h2 => absurd h1 (Nat.not_lt.mpr h2)) hFc (fun q h1 h2 => absurd h1 (Nat.not_lt.mpr h2)) (fun E ce q9 u_672 t H1 locs ht hvm hw hB hz1 hk1 hS1 hce hcv hcl => ?_) (fun r_671 u_672 t H1 locs ht hvm hw hB hz1 hk1 hS1 => ?_)
  · skip
    have hP := zz_keep hP hk1
    have hS := hS1
    clear hS1
    generalize H1 = H at hP hS hce ht ⊢
    have hP : va_P (dC, dI) vwCl [(xa 0, .inr (4, [.ref (xa 1), .ref (xa 3), .ref (xa 5), .ref (xa 7), .ref (xa 16), .ref (xa 25), .int 3])), (xa 1, .inr (3, [.ref (xa 2), .int 0])), (xa 2, .inl (cI, 150, .inl (fun _ => 0))), (xa 3, .inr (3, [.ref (xa 4), .int 0])), (xa 4, .inl (cI, 150, .inl (fun _ => 0))), (xa 5, .inr (3, [.ref (xa 6), .int 0])), (xa 6, .inl (cI, 400, .inl (fun _ => 0))), (xa 7, .inr (1, [.ref (xa 8), .ref (xa 10), .ref (xa 12), .ref (xa 14), .int 0, .int 0])), (xa 8, .inr (3, [.ref (xa 9), .int 0])), (xa 9, .inl (cI, 150, .inl (fun _ => 0))), (xa 10, .inr (3, [.ref (xa 11), .int 0])), (xa 11, .inl (cI, 150, .inl (fun _ => 0))), (xa 12, .inr (3, [.ref (xa 13), .int 0])), (xa 13, .inl (cI, 150, .inl (fun _ => 0))), (xa 14, .inr (3, [.ref (xa 15), .int 0])), (xa 15, .inl (cI, 150, .inl (fun _ => 0))), (xa 16, .inr (2, [.ref (xa 17), .ref (xa 18), .ref (xa 19), .ref (xa 20), .ref (xa 21), .ref (xa 22), .ref (xa 23), .ref (xa 24)])), (xa 17, .inl (cI, 151, .inl (fun _ => 0))), (xa 18, .inl (cI, 151, .inl (fun _ => 0))), (xa 19, .inl (cI, 151, .inl (fun _ => 0))), (xa 20, .inl (cI, 151, .inl (fun _ => 0))), (xa 21, .inl (cI, 151, .inl (fun _ => 0))), (xa 22, .inl (cI, 151, .inl (fun _ => 0))), (xa 23, .inl (cI, 151, .inl (fun _ => 0))), (xa 24, .inl (cI, 151, .inl (fun _ => 0))), (xa 25, .inr (0, [.ref (xa 26), .int 0, .int 0, .int 0, .int (-1), .int 0, .int 0, .int 0])), (xa 26, .inr (3, [.ref (xa 27), .int 0])), (xa 27, .inl (cI, 300, .inl (fun _ => 0))), (oo, .inl (cL, 1, .inr (.inl kf)))] H := hP
    obtain rfl := hB
    refine vx_catch hown [] ⟨0, 10, 13, 13⟩ [] htab (fun z h => nomatch h) (by decide) (by decide) (hts (.classLink RL 13 "java/lang/IndexOutOfBoundsException") (by decide +kernel)) (hZ.cast 0 rfl) hce hcv hcl ?_
    refine W.widen (k := 1) (n := 6) (by omega) (by omega) ?_
    refine lv_astore (lv' := [(4, .ref q9), (0, .ref (xa 0)), (1, .int p0), (2, .int p1), (3, .ref oo)]) hx hb dL_matchPlace_13 hl (by decide) rfl (fun ls hl => ?_)
    refine lv_iconst (v := 1) hx hb dL_matchPlace_15 (by decide) ?_
    refine vx_ret ?_
    have hP9 := hP.sub (ws' := [(oo, .inl (cL, 1, .inr (.inl kf)))]) [28] rfl
    have hD9 := hD.sub (ws' := [(oo, .inl (cL, 1, .inr (.inl kf)))]) [28] (by decide) rfl
    exact W.iret (v := 1) hx hb hr (fun t ht hW => ⟨⟨1, kf, rfl, ⟨rfl, fun h => absurd h (by decide)⟩, ⟨by rw [ht]; exact hP9, hD9⟩⟩, hS.F ht⟩) hS.2.2 dL_matchPlace_16
  exact (show False from hw).elim
set_option maxHeartbeats 4000000 in
set_option maxRecDepth 100000 in
theorem c_L_blocks (l : Launch) (hfl : l.stackTraces = false) (dC : Nat → ClassId) (dI : Nat → Nat → Nat) (cI : ClassId) (cL : ClassId) (xa : Nat → Nat) (p0 : Int32) (oo : Nat) (kf : Nat → Int64) (sz : Nat) : vx_Met l yL_blocks wsL_blocks ({ frames := 8, cells := 1, slots := 6, locals := 136 }) (va_Pc [.ref (xa 0), .int p0, .ref oo] (fun U => U.heap.size = sz ∧ va_P (dC, dI) vwCl (wx cI xa ++ [(oo, .inl (cL, 1, .inr (.inl kf)))]) U.heap ∧ va_K (dC, dI) vwCl [(cI, .int), (cL, .long)] U ∧ va_D (fun _ => True) (wx cI xa ++ [(oo, .inl (cL, 1, .inr (.inl kf)))]) ∧ zz_X (va_A (wx cI xa ++ [(oo, .inl (cL, 1, .inr (.inl kf)))]) sz) U)) (va_Qi (fun (r : Int32) (kg : Nat → Int64) => r = zf_in 1 50 p0 ∧ (r = 0 → kg 0 = 0)) (fun kg t => va_P (dC, dI) vwCl [(oo, .inl (cL, 1, .inr (.inl kg)))] t.heap ∧ va_D (va_A (wx cI xa ++ [(oo, .inl (cL, 1, .inr (.inl kf)))]) sz) [(oo, .inl (cL, 1, .inr (.inl kg)))]) (va_A (wx cI xa ++ [(oo, .inl (cL, 1, .inr (.inl kf)))]) sz)) (vx_X (fun _ : Unit => True) (fun E _ _ => False) (va_A (wx cI xa ++ [(oo, .inl (cL, 1, .inr (.inl kf)))]) sz)) 1 6 (va_A (wx cI xa ++ [(oo, .inl (cL, 1, .inr (.inl kf)))]) sz) := by
  refine vx_ofWH (cc := cL_blocks) (maxL := 4) (ret := (some .int)) (by decide) rfl ?_
  intro p e s m args below meth c s₁ B hml hv
  obtain ⟨rfl, hsz, hP, hK, hD0, hZ⟩ := hv
  have hx := B.exec
  have hb := B.bytes
  have hr := B.returns
  have hts := atoms_spec (ws := wsL_blocks) B.pre
  have hown : s.vm.findClass RL = some m.cls := findClass_of_methodNamed B.named
  have hlocks := B.notSynchronized
  subst hsz
  have hD := hD0.self (sz := s.heap.size)
  generalize hAe : va_A (wx cI xa ++ [(oo, .inl (cL, 1, .inr (.inl kf)))]) s.heap.size = A at hD hZ ⊢
  have hA : ∀ q : Nat, s.heap.size ≤ q → A q := fun q h => by rw [← hAe]; exact Or.inr h
  have hS : va_S A s.heap s.heap [] := va_S.rf
  have htab := vx_table (x := yL_blocks) B (hts _ (List.mem_cons_self))
  have hP : va_P (dC, dI) vwCl [(xa 0, .inr (4, [.ref (xa 1), .ref (xa 3), .ref (xa 5), .ref (xa 7), .ref (xa 16), .ref (xa 25), .int 3])), (xa 1, .inr (3, [.ref (xa 2), .int 0])), (xa 2, .inl (cI, 150, .inl (fun _ => 0))), (xa 3, .inr (3, [.ref (xa 4), .int 0])), (xa 4, .inl (cI, 150, .inl (fun _ => 0))), (xa 5, .inr (3, [.ref (xa 6), .int 0])), (xa 6, .inl (cI, 400, .inl (fun _ => 0))), (xa 7, .inr (1, [.ref (xa 8), .ref (xa 10), .ref (xa 12), .ref (xa 14), .int 0, .int 0])), (xa 8, .inr (3, [.ref (xa 9), .int 0])), (xa 9, .inl (cI, 150, .inl (fun _ => 0))), (xa 10, .inr (3, [.ref (xa 11), .int 0])), (xa 11, .inl (cI, 150, .inl (fun _ => 0))), (xa 12, .inr (3, [.ref (xa 13), .int 0])), (xa 13, .inl (cI, 150, .inl (fun _ => 0))), (xa 14, .inr (3, [.ref (xa 15), .int 0])), (xa 15, .inl (cI, 150, .inl (fun _ => 0))), (xa 16, .inr (2, [.ref (xa 17), .ref (xa 18), .ref (xa 19), .ref (xa 20), .ref (xa 21), .ref (xa 22), .ref (xa 23), .ref (xa 24)])), (xa 17, .inl (cI, 151, .inl (fun _ => 0))), (xa 18, .inl (cI, 151, .inl (fun _ => 0))), (xa 19, .inl (cI, 151, .inl (fun _ => 0))), (xa 20, .inl (cI, 151, .inl (fun _ => 0))), (xa 21, .inl (cI, 151, .inl (fun _ => 0))), (xa 22, .inl (cI, 151, .inl (fun _ => 0))), (xa 23, .inl (cI, 151, .inl (fun _ => 0))), (xa 24, .inl (cI, 151, .inl (fun _ => 0))), (xa 25, .inr (0, [.ref (xa 26), .int 0, .int 0, .int 0, .int (-1), .int 0, .int 0, .int 0])), (xa 26, .inr (3, [.ref (xa 27), .int 0])), (xa 27, .inl (cI, 300, .inl (fun _ => 0))), (oo, .inl (cL, 1, .inr (.inl kf)))] s.heap := hP
  have hl := lv_entry ([.ref (xa 0), .int p0, .ref oo]) (n := 4) (Nat.le_of_ble_eq_true rfl)
  rw [lg_entry_eq]
  generalize (lg_sl ([.ref (xa 0), .int p0, .ref oo]) ++ List.replicate (4 - (lg_sl ([.ref (xa 0), .int p0, .ref oo])).length) Slot.unset).toArray = ls at hl ⊢
  have hl : lv_has ls 4 [(0, .ref (xa 0)), (1, .int p0), (2, .ref oo)] := hl
  refine lv_aload_n hx hb dL_blocks_0 rfl (lv_at hl 2 rfl) ?_
  refine lv_iconst (v := 0) hx hb dL_blocks_1 (by decide) ?_
  refine lv_aload_n hx hb dL_blocks_2 rfl (lv_at hl 0 rfl) ?_
  refine lv_iload_n hx hb dL_blocks_3 rfl (lv_at hl 1 rfl) ?_
  have hPc := hP.sub (ws' := wx cI xa) [0, 1, 2, 3, 4, 5, 6, 7, 8, 9, 10, 11, 12, 13, 14, 15, 16, 17, 18, 19, 20, 21, 22, 23, 24, 25, 26, 27] rfl
  have hFc : ∀ q : Nat, s.heap.size ≤ q → A q := fun q h => hA q (Nat.le_trans hS.1 h)
  have hKc := hK.sub (tys' := [(cI, .int)]) [0] rfl
  refine vx_calli (vx_runV (As := [.int p0]) (rest := [.int 0, .ref oo]) ⟨hx, hb, hml, hown, hts⟩ (c_X4_blocks l hfl dC dI cI xa p0 s.heap.size) (cwV 1 hts gL_blocks_X4_blocks rfl rfl rfl (by decide +kernel) ⟨Nat.le_of_ble_eq_true rfl, Nat.le_of_ble_eq_true rfl⟩) ⟨fun a U g mk q => by obtain ⟨q0, q1, qP, qK, qD, qZ⟩ := q; exact ⟨q0, q1, qP, va_K.moved (u := U) (U := U.calling g mk a) (Vm.Alike.refl U.vm) qK, qD, qZ.call⟩, va_recv hKc hPc (ci := 4) (q0 := 0) rfl rfl, fun U hU hW => ⟨rfl, by rw [hU], by rw [hU]; exact hPc, va_K.moved hW.alike hKc, zz_D (hD.sub (ws' := wx cI xa) [0, 1, 2, 3, 4, 5, 6, 7, 8, 9, 10, 11, 12, 13, 14, 15, 16, 17, 18, 19, 20, 21, 22, 23, 24, 25, 26, 27] (by decide) rfl), hZ.go hS hFc hU hW⟩⟩ rfl rfl hl.1 rfl (lv_room (Nat.le_of_ble_eq_true rfl)) dL_blocks_4 ⟨(Nat.le_of_ble_eq_true rfl), (Nat.le_of_ble_eq_true rfl)⟩) hS (fun q h1 h2 => absurd h1 (Nat.not_lt.mpr h2)) hFc (fun q h1 h2 => absurd h1 (Nat.not_lt.mpr h2)) (fun E ce q9 u_674 t H1 locs ht hvm hw hB hz1 hk1 hS1 hce hcv hcl => ?_) (fun r_673 u_674 t H1 locs ht hvm hw hB hz1 hk1 hS1 => ?_)
  · skip
    have hP := zz_keep hP hk1
    have hS := hS1
    clear hS1
    generalize H1 = H at hP hS hce ht ⊢
    have hP : va_P (dC, dI) vwCl [(xa 0, .inr (4, [.ref (xa 1), .ref (xa 3), .ref (xa 5), .ref (xa 7), .ref (xa 16), .ref (xa 25), .int 3])), (xa 1, .inr (3, [.ref (xa 2), .int 0])), (xa 2, .inl (cI, 150, .inl (fun _ => 0))), (xa 3, .inr (3, [.ref (xa 4), .int 0])), (xa 4, .inl (cI, 150, .inl (fun _ => 0))), (xa 5, .inr (3, [.ref (xa 6), .int 0])), (xa 6, .inl (cI, 400, .inl (fun _ => 0))), (xa 7, .inr (1, [.ref (xa 8), .ref (xa 10), .ref (xa 12), .ref (xa 14), .int 0, .int 0])), (xa 8, .inr (3, [.ref (xa 9), .int 0])), (xa 9, .inl (cI, 150, .inl (fun _ => 0))), (xa 10, .inr (3, [.ref (xa 11), .int 0])), (xa 11, .inl (cI, 150, .inl (fun _ => 0))), (xa 12, .inr (3, [.ref (xa 13), .int 0])), (xa 13, .inl (cI, 150, .inl (fun _ => 0))), (xa 14, .inr (3, [.ref (xa 15), .int 0])), (xa 15, .inl (cI, 150, .inl (fun _ => 0))), (xa 16, .inr (2, [.ref (xa 17), .ref (xa 18), .ref (xa 19), .ref (xa 20), .ref (xa 21), .ref (xa 22), .ref (xa 23), .ref (xa 24)])), (xa 17, .inl (cI, 151, .inl (fun _ => 0))), (xa 18, .inl (cI, 151, .inl (fun _ => 0))), (xa 19, .inl (cI, 151, .inl (fun _ => 0))), (xa 20, .inl (cI, 151, .inl (fun _ => 0))), (xa 21, .inl (cI, 151, .inl (fun _ => 0))), (xa 22, .inl (cI, 151, .inl (fun _ => 0))), (xa 23, .inl (cI, 151, .inl (fun _ => 0))), (xa 24, .inl (cI, 151, .inl (fun _ => 0))), (xa 25, .inr (0, [.ref (xa 26), .int 0, .int 0, .int 0, .int (-1), .int 0, .int 0, .int 0])), (xa 26, .inr (3, [.ref (xa 27), .int 0])), (xa 27, .inl (cI, 300, .inl (fun _ => 0))), (oo, .inl (cL, 1, .inr (.inl kf)))] H := hP
    obtain ⟨rfl, hz⟩ := hB
    refine vx_catch hown [] ⟨0, 9, 12, 15⟩ [] htab (fun z h => nomatch h) (by decide) (by decide) (hts (.classLink RL 15 "java/lang/IllegalArgumentException") (by decide +kernel)) (hZ.cast 1 rfl) hce hcv hcl ?_
    refine W.widen (k := 1) (n := 6) (by omega) (by omega) ?_
    refine lv_astore_n (lv' := [(3, .ref q9), (0, .ref (xa 0)), (1, .int p0), (2, .ref oo)]) hx hb dL_blocks_12 rfl hl (by decide) rfl (fun ls hl => ?_)
    refine lv_iconst (v := 1) hx hb dL_blocks_13 (by decide) ?_
    refine vx_ret ?_
    have hP9 := hP.sub (ws' := [(oo, .inl (cL, 1, .inr (.inl kf)))]) [28] rfl
    have hD9 := hD.sub (ws' := [(oo, .inl (cL, 1, .inr (.inl kf)))]) [28] (by decide) rfl
    exact W.iret (v := 1) hx hb hr (fun t ht hW => ⟨⟨1, kf, rfl, ⟨hz.symm, fun h => absurd h (by decide)⟩, ⟨by rw [ht]; exact hP9, hD9⟩⟩, hS.F ht⟩) hS.2.2 dL_blocks_14
  have hP := zz_keep hP hk1
  have hS := hS1
  clear hS1
  generalize H1 = H at hP hS ht ⊢
  have hP : va_P (dC, dI) vwCl [(xa 0, .inr (4, [.ref (xa 1), .ref (xa 3), .ref (xa 5), .ref (xa 7), .ref (xa 16), .ref (xa 25), .int 3])), (xa 1, .inr (3, [.ref (xa 2), .int 0])), (xa 2, .inl (cI, 150, .inl (fun _ => 0))), (xa 3, .inr (3, [.ref (xa 4), .int 0])), (xa 4, .inl (cI, 150, .inl (fun _ => 0))), (xa 5, .inr (3, [.ref (xa 6), .int 0])), (xa 6, .inl (cI, 400, .inl (fun _ => 0))), (xa 7, .inr (1, [.ref (xa 8), .ref (xa 10), .ref (xa 12), .ref (xa 14), .int 0, .int 0])), (xa 8, .inr (3, [.ref (xa 9), .int 0])), (xa 9, .inl (cI, 150, .inl (fun _ => 0))), (xa 10, .inr (3, [.ref (xa 11), .int 0])), (xa 11, .inl (cI, 150, .inl (fun _ => 0))), (xa 12, .inr (3, [.ref (xa 13), .int 0])), (xa 13, .inl (cI, 150, .inl (fun _ => 0))), (xa 14, .inr (3, [.ref (xa 15), .int 0])), (xa 15, .inl (cI, 150, .inl (fun _ => 0))), (xa 16, .inr (2, [.ref (xa 17), .ref (xa 18), .ref (xa 19), .ref (xa 20), .ref (xa 21), .ref (xa 22), .ref (xa 23), .ref (xa 24)])), (xa 17, .inl (cI, 151, .inl (fun _ => 0))), (xa 18, .inl (cI, 151, .inl (fun _ => 0))), (xa 19, .inl (cI, 151, .inl (fun _ => 0))), (xa 20, .inl (cI, 151, .inl (fun _ => 0))), (xa 21, .inl (cI, 151, .inl (fun _ => 0))), (xa 22, .inl (cI, 151, .inl (fun _ => 0))), (xa 23, .inl (cI, 151, .inl (fun _ => 0))), (xa 24, .inl (cI, 151, .inl (fun _ => 0))), (xa 25, .inr (0, [.ref (xa 26), .int 0, .int 0, .int 0, .int (-1), .int 0, .int 0, .int 0])), (xa 26, .inr (3, [.ref (xa 27), .int 0])), (xa 27, .inl (cI, 300, .inl (fun _ => 0))), (oo, .inl (cL, 1, .inr (.inl kf)))] H := hP
  refine W.widen (k := 1) (n := 6) (by omega) (by omega) ?_
  obtain ⟨hrv, hw⟩ := hw
  obtain rfl : 0 = r_673 := hrv.symm
  have w4 := hw
  refine lv_i2l (v := 0) hx hb dL_blocks_7 (by decide) ?_
  refine va_last hx hb hK hP hD hS 28 1 rfl rfl (by unfold vp_in; decide) dL_blocks_8 (fun H locs hP hD hS => ?_)
  obtain ⟨f_675, ef_675⟩ : ∃ g, g = vp_updL kf (0 : Int32).toNatClampNeg 0 := ⟨_, rfl⟩
  rw [← ef_675] at hP hD
  have hP : va_P (dC, dI) vwCl [(xa 0, .inr (4, [.ref (xa 1), .ref (xa 3), .ref (xa 5), .ref (xa 7), .ref (xa 16), .ref (xa 25), .int 3])), (xa 1, .inr (3, [.ref (xa 2), .int 0])), (xa 2, .inl (cI, 150, .inl (fun _ => 0))), (xa 3, .inr (3, [.ref (xa 4), .int 0])), (xa 4, .inl (cI, 150, .inl (fun _ => 0))), (xa 5, .inr (3, [.ref (xa 6), .int 0])), (xa 6, .inl (cI, 400, .inl (fun _ => 0))), (xa 7, .inr (1, [.ref (xa 8), .ref (xa 10), .ref (xa 12), .ref (xa 14), .int 0, .int 0])), (xa 8, .inr (3, [.ref (xa 9), .int 0])), (xa 9, .inl (cI, 150, .inl (fun _ => 0))), (xa 10, .inr (3, [.ref (xa 11), .int 0])), (xa 11, .inl (cI, 150, .inl (fun _ => 0))), (xa 12, .inr (3, [.ref (xa 13), .int 0])), (xa 13, .inl (cI, 150, .inl (fun _ => 0))), (xa 14, .inr (3, [.ref (xa 15), .int 0])), (xa 15, .inl (cI, 150, .inl (fun _ => 0))), (xa 16, .inr (2, [.ref (xa 17), .ref (xa 18), .ref (xa 19), .ref (xa 20), .ref (xa 21), .ref (xa 22), .ref (xa 23), .ref (xa 24)])), (xa 17, .inl (cI, 151, .inl (fun _ => 0))), (xa 18, .inl (cI, 151, .inl (fun _ => 0))), (xa 19, .inl (cI, 151, .inl (fun _ => 0))), (xa 20, .inl (cI, 151, .inl (fun _ => 0))), (xa 21, .inl (cI, 151, .inl (fun _ => 0))), (xa 22, .inl (cI, 151, .inl (fun _ => 0))), (xa 23, .inl (cI, 151, .inl (fun _ => 0))), (xa 24, .inl (cI, 151, .inl (fun _ => 0))), (xa 25, .inr (0, [.ref (xa 26), .int 0, .int 0, .int 0, .int (-1), .int 0, .int 0, .int 0])), (xa 26, .inr (3, [.ref (xa 27), .int 0])), (xa 27, .inl (cI, 300, .inl (fun _ => 0))), (oo, .inl (cL, 1, .inr (.inl f_675)))] H := hP
  have hD : va_D A [(xa 0, .inr (4, [.ref (xa 1), .ref (xa 3), .ref (xa 5), .ref (xa 7), .ref (xa 16), .ref (xa 25), .int 3])), (xa 1, .inr (3, [.ref (xa 2), .int 0])), (xa 2, .inl (cI, 150, .inl (fun _ => 0))), (xa 3, .inr (3, [.ref (xa 4), .int 0])), (xa 4, .inl (cI, 150, .inl (fun _ => 0))), (xa 5, .inr (3, [.ref (xa 6), .int 0])), (xa 6, .inl (cI, 400, .inl (fun _ => 0))), (xa 7, .inr (1, [.ref (xa 8), .ref (xa 10), .ref (xa 12), .ref (xa 14), .int 0, .int 0])), (xa 8, .inr (3, [.ref (xa 9), .int 0])), (xa 9, .inl (cI, 150, .inl (fun _ => 0))), (xa 10, .inr (3, [.ref (xa 11), .int 0])), (xa 11, .inl (cI, 150, .inl (fun _ => 0))), (xa 12, .inr (3, [.ref (xa 13), .int 0])), (xa 13, .inl (cI, 150, .inl (fun _ => 0))), (xa 14, .inr (3, [.ref (xa 15), .int 0])), (xa 15, .inl (cI, 150, .inl (fun _ => 0))), (xa 16, .inr (2, [.ref (xa 17), .ref (xa 18), .ref (xa 19), .ref (xa 20), .ref (xa 21), .ref (xa 22), .ref (xa 23), .ref (xa 24)])), (xa 17, .inl (cI, 151, .inl (fun _ => 0))), (xa 18, .inl (cI, 151, .inl (fun _ => 0))), (xa 19, .inl (cI, 151, .inl (fun _ => 0))), (xa 20, .inl (cI, 151, .inl (fun _ => 0))), (xa 21, .inl (cI, 151, .inl (fun _ => 0))), (xa 22, .inl (cI, 151, .inl (fun _ => 0))), (xa 23, .inl (cI, 151, .inl (fun _ => 0))), (xa 24, .inl (cI, 151, .inl (fun _ => 0))), (xa 25, .inr (0, [.ref (xa 26), .int 0, .int 0, .int 0, .int (-1), .int 0, .int 0, .int 0])), (xa 26, .inr (3, [.ref (xa 27), .int 0])), (xa 27, .inl (cI, 300, .inl (fun _ => 0))), (oo, .inl (cL, 1, .inr (.inl f_675)))] := hD
  refine lv_goto (tgt := 15) hx hb dL_blocks_9 (by decide) ?_
  refine lv_iconst (v := 0) hx hb dL_blocks_15 (by decide) ?_
  refine vx_ret ?_
  have hP9 := hP.sub (ws' := [(oo, .inl (cL, 1, .inr (.inl f_675)))]) [28] rfl
  have hD9 := hD.sub (ws' := [(oo, .inl (cL, 1, .inr (.inl f_675)))]) [28] (by decide) rfl
  exact W.iret (v := 0) hx hb hr (fun t ht hW => ⟨⟨0, f_675, rfl, ⟨w4.symm, fun _ => by rw [ef_675]; rfl⟩, ⟨by rw [ht]; exact hP9, hD9⟩⟩, hS.F ht⟩) hS.2.2 dL_blocks_16
set_option maxHeartbeats 4000000 in
set_option maxRecDepth 100000 in
theorem c_L_setLeast (l : Launch) (hfl : l.stackTraces = false) (dC : Nat → ClassId) (dI : Nat → Nat → Nat) (cI : ClassId) (cL : ClassId) (xa : Nat → Nat) (p0 : Int32) (oo : Nat) (kf : Nat → Int64) (sz : Nat) : vx_Met l yL_setLeast wsL_setLeast ({ frames := 8, cells := 1, slots := 6, locals := 134 }) (va_Pc [.ref (xa 0), .int p0, .ref oo] (fun U => U.heap.size = sz ∧ va_P (dC, dI) vwCl (wx cI xa ++ [(oo, .inl (cL, 1, .inr (.inl kf)))]) U.heap ∧ va_K (dC, dI) vwCl [(cI, .int), (cL, .long)] U ∧ va_D (fun _ => True) (wx cI xa ++ [(oo, .inl (cL, 1, .inr (.inl kf)))]) ∧ zz_X (va_A (wx cI xa ++ [(oo, .inl (cL, 1, .inr (.inl kf)))]) sz) U)) (va_Qi (fun (r : Int32) (kg : Nat → Int64) => r = zf_in 1 20 p0 ∧ (r = 0 → kg 0 = 3)) (fun kg t => va_P (dC, dI) vwCl [(oo, .inl (cL, 1, .inr (.inl kg)))] t.heap ∧ va_D (va_A (wx cI xa ++ [(oo, .inl (cL, 1, .inr (.inl kf)))]) sz) [(oo, .inl (cL, 1, .inr (.inl kg)))]) (va_A (wx cI xa ++ [(oo, .inl (cL, 1, .inr (.inl kf)))]) sz)) (vx_X (fun _ : Unit => True) (fun E _ _ => False) (va_A (wx cI xa ++ [(oo, .inl (cL, 1, .inr (.inl kf)))]) sz)) 1 6 (va_A (wx cI xa ++ [(oo, .inl (cL, 1, .inr (.inl kf)))]) sz) := by
  refine vx_ofWH (cc := cL_setLeast) (maxL := 4) (ret := (some .int)) (by decide) rfl ?_
  intro p e s m args below meth c s₁ B hml hv
  obtain ⟨rfl, hsz, hP, hK, hD0, hZ⟩ := hv
  have hx := B.exec
  have hb := B.bytes
  have hr := B.returns
  have hts := atoms_spec (ws := wsL_setLeast) B.pre
  have hown : s.vm.findClass RL = some m.cls := findClass_of_methodNamed B.named
  have hlocks := B.notSynchronized
  subst hsz
  have hD := hD0.self (sz := s.heap.size)
  generalize hAe : va_A (wx cI xa ++ [(oo, .inl (cL, 1, .inr (.inl kf)))]) s.heap.size = A at hD hZ ⊢
  have hA : ∀ q : Nat, s.heap.size ≤ q → A q := fun q h => by rw [← hAe]; exact Or.inr h
  have hS : va_S A s.heap s.heap [] := va_S.rf
  have htab := vx_table (x := yL_setLeast) B (hts _ (List.mem_cons_self))
  have hP : va_P (dC, dI) vwCl [(xa 0, .inr (4, [.ref (xa 1), .ref (xa 3), .ref (xa 5), .ref (xa 7), .ref (xa 16), .ref (xa 25), .int 3])), (xa 1, .inr (3, [.ref (xa 2), .int 0])), (xa 2, .inl (cI, 150, .inl (fun _ => 0))), (xa 3, .inr (3, [.ref (xa 4), .int 0])), (xa 4, .inl (cI, 150, .inl (fun _ => 0))), (xa 5, .inr (3, [.ref (xa 6), .int 0])), (xa 6, .inl (cI, 400, .inl (fun _ => 0))), (xa 7, .inr (1, [.ref (xa 8), .ref (xa 10), .ref (xa 12), .ref (xa 14), .int 0, .int 0])), (xa 8, .inr (3, [.ref (xa 9), .int 0])), (xa 9, .inl (cI, 150, .inl (fun _ => 0))), (xa 10, .inr (3, [.ref (xa 11), .int 0])), (xa 11, .inl (cI, 150, .inl (fun _ => 0))), (xa 12, .inr (3, [.ref (xa 13), .int 0])), (xa 13, .inl (cI, 150, .inl (fun _ => 0))), (xa 14, .inr (3, [.ref (xa 15), .int 0])), (xa 15, .inl (cI, 150, .inl (fun _ => 0))), (xa 16, .inr (2, [.ref (xa 17), .ref (xa 18), .ref (xa 19), .ref (xa 20), .ref (xa 21), .ref (xa 22), .ref (xa 23), .ref (xa 24)])), (xa 17, .inl (cI, 151, .inl (fun _ => 0))), (xa 18, .inl (cI, 151, .inl (fun _ => 0))), (xa 19, .inl (cI, 151, .inl (fun _ => 0))), (xa 20, .inl (cI, 151, .inl (fun _ => 0))), (xa 21, .inl (cI, 151, .inl (fun _ => 0))), (xa 22, .inl (cI, 151, .inl (fun _ => 0))), (xa 23, .inl (cI, 151, .inl (fun _ => 0))), (xa 24, .inl (cI, 151, .inl (fun _ => 0))), (xa 25, .inr (0, [.ref (xa 26), .int 0, .int 0, .int 0, .int (-1), .int 0, .int 0, .int 0])), (xa 26, .inr (3, [.ref (xa 27), .int 0])), (xa 27, .inl (cI, 300, .inl (fun _ => 0))), (oo, .inl (cL, 1, .inr (.inl kf)))] s.heap := hP
  have hl := lv_entry ([.ref (xa 0), .int p0, .ref oo]) (n := 4) (Nat.le_of_ble_eq_true rfl)
  rw [lg_entry_eq]
  generalize (lg_sl ([.ref (xa 0), .int p0, .ref oo]) ++ List.replicate (4 - (lg_sl ([.ref (xa 0), .int p0, .ref oo])).length) Slot.unset).toArray = ls at hl ⊢
  have hl : lv_has ls 4 [(0, .ref (xa 0)), (1, .int p0), (2, .ref oo)] := hl
  refine lv_aload_n hx hb dL_setLeast_0 rfl (lv_at hl 2 rfl) ?_
  refine lv_iconst (v := 0) hx hb dL_setLeast_1 (by decide) ?_
  refine lv_aload_n hx hb dL_setLeast_2 rfl (lv_at hl 0 rfl) ?_
  refine lv_iload_n hx hb dL_setLeast_3 rfl (lv_at hl 1 rfl) ?_
  have hPc := hP.sub (ws' := wx cI xa) [0, 1, 2, 3, 4, 5, 6, 7, 8, 9, 10, 11, 12, 13, 14, 15, 16, 17, 18, 19, 20, 21, 22, 23, 24, 25, 26, 27] rfl
  have hDc := hD.sub (ws' := wx cI xa) [0, 1, 2, 3, 4, 5, 6, 7, 8, 9, 10, 11, 12, 13, 14, 15, 16, 17, 18, 19, 20, 21, 22, 23, 24, 25, 26, 27] (by decide) rfl
  have hFc := va_free (wc := wx cI xa) hD hS hA [0, 1, 2, 3, 4, 5, 6, 7, 8, 9, 10, 11, 12, 13, 14, 15, 16, 17, 18, 19, 20, 21, 22, 23, 24, 25, 26, 27] rfl
  have hKc := hK.sub (tys' := [(cI, .int)]) [0] rfl
  refine vx_calli (vx_runV (As := [.int p0]) (rest := [.int 0, .ref oo]) ⟨hx, hb, hml, hown, hts⟩ (c_X4_setLeast l hfl dC dI cI xa p0 s.heap.size) (cwV 1 hts gL_setLeast_X4_setLeast rfl rfl rfl (by decide +kernel) ⟨Nat.le_of_ble_eq_true rfl, Nat.le_of_ble_eq_true rfl⟩) ⟨fun a U g mk q => by obtain ⟨q0, q1, qP, qK, qD, qZ⟩ := q; exact ⟨q0, q1, qP, va_K.moved (u := U) (U := U.calling g mk a) (Vm.Alike.refl U.vm) qK, qD, qZ.call⟩, va_recv hKc hPc (ci := 4) (q0 := 0) rfl rfl, fun U hU hW => ⟨rfl, by rw [hU], by rw [hU]; exact hPc, va_K.moved hW.alike hKc, zz_D hDc, hZ.go hS hFc hU hW⟩⟩ rfl rfl hl.1 rfl (lv_room (Nat.le_of_ble_eq_true rfl)) dL_setLeast_4 ⟨(Nat.le_of_ble_eq_true rfl), (Nat.le_of_ble_eq_true rfl)⟩) hS (fun q _ h => hFc q h) hFc (fun q _ h => hFc q h) (fun E ce q9 u_677 t H1 locs ht hvm hw hB hz1 hk1 hS1 hce hcv hcl => ?_) (fun r_676 u_677 t H1 locs ht hvm hw hB hz1 hk1 hS1 => ?_)
  · skip
    obtain ⟨hP, hD⟩ := va_join (wr := [(oo, .inl (cL, 1, .inr (.inl kf)))]) (w1 := []) hP hD [0, 1, 2, 3, 4, 5, 6, 7, 8, 9, 10, 11, 12, 13, 14, 15, 16, 17, 18, 19, 20, 21, 22, 23, 24, 25, 26, 27] [28] rfl rfl (by decide) (by decide) hk1 hFc zz_P0 zz_D0
    have hS := hS1
    clear hS1
    generalize H1 = H at hP hS hce ht ⊢
    have hP : va_P (dC, dI) vwCl [(oo, .inl (cL, 1, .inr (.inl kf)))] H := hP
    obtain ⟨rfl, hz⟩ := hB
    refine vx_catch hown [] ⟨0, 9, 12, 15⟩ [] htab (fun z h => nomatch h) (by decide) (by decide) (hts (.classLink RL 15 "java/lang/IllegalArgumentException") (by decide +kernel)) (hZ.cast 1 rfl) hce hcv hcl ?_
    refine W.widen (k := 1) (n := 6) (by omega) (by omega) ?_
    refine lv_astore_n (lv' := [(3, .ref q9), (0, .ref (xa 0)), (1, .int p0), (2, .ref oo)]) hx hb dL_setLeast_12 rfl hl (by decide) rfl (fun ls hl => ?_)
    refine lv_iconst (v := 1) hx hb dL_setLeast_13 (by decide) ?_
    refine vx_ret ?_
    have hP9 := hP.sub (ws' := [(oo, .inl (cL, 1, .inr (.inl kf)))]) [0] rfl
    have hD9 := hD.sub (ws' := [(oo, .inl (cL, 1, .inr (.inl kf)))]) [0] (by decide) rfl
    exact W.iret (v := 1) hx hb hr (fun t ht hW => ⟨⟨1, kf, rfl, ⟨hz.symm, fun h => absurd h (by decide)⟩, ⟨by rw [ht]; exact hP9, hD9⟩⟩, hS.F ht⟩) hS.2.2 dL_setLeast_14
  obtain ⟨hP, hD⟩ := va_join (wr := [(oo, .inl (cL, 1, .inr (.inl kf)))]) (w1 := []) hP hD [0, 1, 2, 3, 4, 5, 6, 7, 8, 9, 10, 11, 12, 13, 14, 15, 16, 17, 18, 19, 20, 21, 22, 23, 24, 25, 26, 27] [28] rfl rfl (by decide) (by decide) hk1 hFc zz_P0 zz_D0
  have hS := hS1
  clear hS1
  generalize H1 = H at hP hS ht ⊢
  have hP : va_P (dC, dI) vwCl [(oo, .inl (cL, 1, .inr (.inl kf)))] H := hP
  have hD : va_D A [(oo, .inl (cL, 1, .inr (.inl kf)))] := hD
  refine W.widen (k := 1) (n := 6) (by omega) (by omega) ?_
  obtain ⟨hrv, hw⟩ := hw
  obtain rfl : 3 = r_676 := hrv.symm
  have w4 := hw
  refine lv_i2l (v := 3) hx hb dL_setLeast_7 (by decide) ?_
  refine va_last hx hb hK hP hD hS 0 1 rfl rfl (by unfold vp_in; decide) dL_setLeast_8 (fun H locs hP hD hS => ?_)
  obtain ⟨f_678, ef_678⟩ : ∃ g, g = vp_updL kf (0 : Int32).toNatClampNeg 3 := ⟨_, rfl⟩
  rw [← ef_678] at hP hD
  have hP : va_P (dC, dI) vwCl [(oo, .inl (cL, 1, .inr (.inl f_678)))] H := hP
  have hD : va_D A [(oo, .inl (cL, 1, .inr (.inl f_678)))] := hD
  refine lv_goto (tgt := 15) hx hb dL_setLeast_9 (by decide) ?_
  refine lv_iconst (v := 0) hx hb dL_setLeast_15 (by decide) ?_
  refine vx_ret ?_
  have hP9 := hP.sub (ws' := [(oo, .inl (cL, 1, .inr (.inl f_678)))]) [0] rfl
  have hD9 := hD.sub (ws' := [(oo, .inl (cL, 1, .inr (.inl f_678)))]) [0] (by decide) rfl
  exact W.iret (v := 0) hx hb hr (fun t ht hW => ⟨⟨0, f_678, rfl, ⟨w4.symm, fun _ => by rw [ef_678]; rfl⟩, ⟨by rw [ht]; exact hP9, hD9⟩⟩, hS.F ht⟩) hS.2.2 dL_setLeast_16
set_option maxHeartbeats 4000000 in
set_option maxRecDepth 100000 in
theorem c_L_cost (l : Launch) (hfl : l.stackTraces = false) (dC : Nat → ClassId) (dI : Nat → Nat → Nat) (cI : ClassId) (cL : ClassId) (xa : Nat → Nat) (oo : Nat) (kf : Nat → Int64) (sz : Nat) : vx_Met l yL_cost wsL_cost ({ frames := 8, cells := 1, slots := 6, locals := 130 }) (va_Pc [.ref (xa 0), .ref oo] (fun U => U.heap.size = sz ∧ va_P (dC, dI) vwCl (wx cI xa ++ [(oo, .inl (cL, 1, .inr (.inl kf)))]) U.heap ∧ va_K (dC, dI) vwCl [(cI, .int), (cL, .long)] U ∧ va_D (fun _ => True) (wx cI xa ++ [(oo, .inl (cL, 1, .inr (.inl kf)))]) ∧ zz_X (va_A (wx cI xa ++ [(oo, .inl (cL, 1, .inr (.inl kf)))]) sz) U)) (va_Qi (fun (r : Int32) (kg : Nat → Int64) => r = 1 ∧ (r = 0 → kg 0 = 0)) (fun kg t => va_P (dC, dI) vwCl [(oo, .inl (cL, 1, .inr (.inl kg)))] t.heap ∧ va_D (va_A (wx cI xa ++ [(oo, .inl (cL, 1, .inr (.inl kf)))]) sz) [(oo, .inl (cL, 1, .inr (.inl kg)))]) (va_A (wx cI xa ++ [(oo, .inl (cL, 1, .inr (.inl kf)))]) sz)) (vx_X (fun _ : Unit => True) (fun E _ _ => False) (va_A (wx cI xa ++ [(oo, .inl (cL, 1, .inr (.inl kf)))]) sz)) 1 6 (va_A (wx cI xa ++ [(oo, .inl (cL, 1, .inr (.inl kf)))]) sz) := by
  refine vx_ofWH (cc := cL_cost) (maxL := 3) (ret := (some .int)) (by decide) rfl ?_
  intro p e s m args below meth c s₁ B hml hv
  obtain ⟨rfl, hsz, hP, hK, hD0, hZ⟩ := hv
  have hx := B.exec
  have hb := B.bytes
  have hr := B.returns
  have hts := atoms_spec (ws := wsL_cost) B.pre
  have hown : s.vm.findClass RL = some m.cls := findClass_of_methodNamed B.named
  have hlocks := B.notSynchronized
  subst hsz
  have hD := hD0.self (sz := s.heap.size)
  generalize hAe : va_A (wx cI xa ++ [(oo, .inl (cL, 1, .inr (.inl kf)))]) s.heap.size = A at hD hZ ⊢
  have hA : ∀ q : Nat, s.heap.size ≤ q → A q := fun q h => by rw [← hAe]; exact Or.inr h
  have hS : va_S A s.heap s.heap [] := va_S.rf
  have htab := vx_table (x := yL_cost) B (hts _ (List.mem_cons_self))
  have hP : va_P (dC, dI) vwCl [(xa 0, .inr (4, [.ref (xa 1), .ref (xa 3), .ref (xa 5), .ref (xa 7), .ref (xa 16), .ref (xa 25), .int 3])), (xa 1, .inr (3, [.ref (xa 2), .int 0])), (xa 2, .inl (cI, 150, .inl (fun _ => 0))), (xa 3, .inr (3, [.ref (xa 4), .int 0])), (xa 4, .inl (cI, 150, .inl (fun _ => 0))), (xa 5, .inr (3, [.ref (xa 6), .int 0])), (xa 6, .inl (cI, 400, .inl (fun _ => 0))), (xa 7, .inr (1, [.ref (xa 8), .ref (xa 10), .ref (xa 12), .ref (xa 14), .int 0, .int 0])), (xa 8, .inr (3, [.ref (xa 9), .int 0])), (xa 9, .inl (cI, 150, .inl (fun _ => 0))), (xa 10, .inr (3, [.ref (xa 11), .int 0])), (xa 11, .inl (cI, 150, .inl (fun _ => 0))), (xa 12, .inr (3, [.ref (xa 13), .int 0])), (xa 13, .inl (cI, 150, .inl (fun _ => 0))), (xa 14, .inr (3, [.ref (xa 15), .int 0])), (xa 15, .inl (cI, 150, .inl (fun _ => 0))), (xa 16, .inr (2, [.ref (xa 17), .ref (xa 18), .ref (xa 19), .ref (xa 20), .ref (xa 21), .ref (xa 22), .ref (xa 23), .ref (xa 24)])), (xa 17, .inl (cI, 151, .inl (fun _ => 0))), (xa 18, .inl (cI, 151, .inl (fun _ => 0))), (xa 19, .inl (cI, 151, .inl (fun _ => 0))), (xa 20, .inl (cI, 151, .inl (fun _ => 0))), (xa 21, .inl (cI, 151, .inl (fun _ => 0))), (xa 22, .inl (cI, 151, .inl (fun _ => 0))), (xa 23, .inl (cI, 151, .inl (fun _ => 0))), (xa 24, .inl (cI, 151, .inl (fun _ => 0))), (xa 25, .inr (0, [.ref (xa 26), .int 0, .int 0, .int 0, .int (-1), .int 0, .int 0, .int 0])), (xa 26, .inr (3, [.ref (xa 27), .int 0])), (xa 27, .inl (cI, 300, .inl (fun _ => 0))), (oo, .inl (cL, 1, .inr (.inl kf)))] s.heap := hP
  have hl := lv_entry ([.ref (xa 0), .ref oo]) (n := 3) (Nat.le_of_ble_eq_true rfl)
  rw [lg_entry_eq]
  generalize (lg_sl ([.ref (xa 0), .ref oo]) ++ List.replicate (3 - (lg_sl ([.ref (xa 0), .ref oo])).length) Slot.unset).toArray = ls at hl ⊢
  have hl : lv_has ls 3 [(0, .ref (xa 0)), (1, .ref oo)] := hl
  refine lv_aload_n hx hb dL_cost_0 rfl (lv_at hl 1 rfl) ?_
  refine lv_iconst (v := 0) hx hb dL_cost_1 (by decide) ?_
  refine lv_aload_n hx hb dL_cost_2 rfl (lv_at hl 0 rfl) ?_
  have hPc := hP.sub (ws' := wx cI xa) [0, 1, 2, 3, 4, 5, 6, 7, 8, 9, 10, 11, 12, 13, 14, 15, 16, 17, 18, 19, 20, 21, 22, 23, 24, 25, 26, 27] rfl
  have hFc : ∀ q : Nat, s.heap.size ≤ q → A q := fun q h => hA q (Nat.le_trans hS.1 h)
  have hKc := hK.sub (tys' := [(cI, .int)]) [0] rfl
  refine vx_calli (vx_runV (As := []) (rest := [.int 0, .ref oo]) ⟨hx, hb, hml, hown, hts⟩ (c_X4_cost l hfl dC dI cI xa s.heap.size) (cwV 0 hts gL_cost_X4_cost rfl rfl rfl (by decide +kernel) ⟨Nat.le_of_ble_eq_true rfl, Nat.le_of_ble_eq_true rfl⟩) ⟨fun a U g mk q => by obtain ⟨q0, q1, qP, qK, qD, qZ⟩ := q; exact ⟨q0, q1, qP, va_K.moved (u := U) (U := U.calling g mk a) (Vm.Alike.refl U.vm) qK, qD, qZ.call⟩, va_recv hKc hPc (ci := 4) (q0 := 0) rfl rfl, fun U hU hW => ⟨rfl, by rw [hU], by rw [hU]; exact hPc, va_K.moved hW.alike hKc, zz_D (hD.sub (ws' := wx cI xa) [0, 1, 2, 3, 4, 5, 6, 7, 8, 9, 10, 11, 12, 13, 14, 15, 16, 17, 18, 19, 20, 21, 22, 23, 24, 25, 26, 27] (by decide) rfl), hZ.go hS hFc hU hW⟩⟩ rfl rfl hl.1 rfl (lv_room (Nat.le_of_ble_eq_true rfl)) dL_cost_3 ⟨(Nat.le_of_ble_eq_true rfl), (Nat.le_of_ble_eq_true rfl)⟩) hS (fun q h1 h2 => absurd h1 (Nat.not_lt.mpr h2)) hFc (fun q h1 h2 => absurd h1 (Nat.not_lt.mpr h2)) (fun E ce q9 u_680 t H1 locs ht hvm hw hB hz1 hk1 hS1 hce hcv hcl => ?_) (fun r_679 u_680 t H1 locs ht hvm hw hB hz1 hk1 hS1 => ?_)
  · skip
    have hP := zz_keep hP hk1
    have hS := hS1
    clear hS1
    generalize H1 = H at hP hS hce ht ⊢
    have hP : va_P (dC, dI) vwCl [(xa 0, .inr (4, [.ref (xa 1), .ref (xa 3), .ref (xa 5), .ref (xa 7), .ref (xa 16), .ref (xa 25), .int 3])), (xa 1, .inr (3, [.ref (xa 2), .int 0])), (xa 2, .inl (cI, 150, .inl (fun _ => 0))), (xa 3, .inr (3, [.ref (xa 4), .int 0])), (xa 4, .inl (cI, 150, .inl (fun _ => 0))), (xa 5, .inr (3, [.ref (xa 6), .int 0])), (xa 6, .inl (cI, 400, .inl (fun _ => 0))), (xa 7, .inr (1, [.ref (xa 8), .ref (xa 10), .ref (xa 12), .ref (xa 14), .int 0, .int 0])), (xa 8, .inr (3, [.ref (xa 9), .int 0])), (xa 9, .inl (cI, 150, .inl (fun _ => 0))), (xa 10, .inr (3, [.ref (xa 11), .int 0])), (xa 11, .inl (cI, 150, .inl (fun _ => 0))), (xa 12, .inr (3, [.ref (xa 13), .int 0])), (xa 13, .inl (cI, 150, .inl (fun _ => 0))), (xa 14, .inr (3, [.ref (xa 15), .int 0])), (xa 15, .inl (cI, 150, .inl (fun _ => 0))), (xa 16, .inr (2, [.ref (xa 17), .ref (xa 18), .ref (xa 19), .ref (xa 20), .ref (xa 21), .ref (xa 22), .ref (xa 23), .ref (xa 24)])), (xa 17, .inl (cI, 151, .inl (fun _ => 0))), (xa 18, .inl (cI, 151, .inl (fun _ => 0))), (xa 19, .inl (cI, 151, .inl (fun _ => 0))), (xa 20, .inl (cI, 151, .inl (fun _ => 0))), (xa 21, .inl (cI, 151, .inl (fun _ => 0))), (xa 22, .inl (cI, 151, .inl (fun _ => 0))), (xa 23, .inl (cI, 151, .inl (fun _ => 0))), (xa 24, .inl (cI, 151, .inl (fun _ => 0))), (xa 25, .inr (0, [.ref (xa 26), .int 0, .int 0, .int 0, .int (-1), .int 0, .int 0, .int 0])), (xa 26, .inr (3, [.ref (xa 27), .int 0])), (xa 27, .inl (cI, 300, .inl (fun _ => 0))), (oo, .inl (cL, 1, .inr (.inl kf)))] H := hP
    obtain rfl := hB
    refine vx_catch hown [] ⟨0, 8, 11, 17⟩ [] htab (fun z h => nomatch h) (by decide) (by decide) (hts (.classLink RL 17 "java/lang/IllegalStateException") (by decide +kernel)) (hZ.cast 2 rfl) hce hcv hcl ?_
    refine W.widen (k := 1) (n := 6) (by omega) (by omega) ?_
    refine lv_astore_n (lv' := [(2, .ref q9), (0, .ref (xa 0)), (1, .ref oo)]) hx hb dL_cost_11 rfl hl (by decide) rfl (fun ls hl => ?_)
    refine lv_iconst (v := 1) hx hb dL_cost_12 (by decide) ?_
    refine vx_ret ?_
    have hP9 := hP.sub (ws' := [(oo, .inl (cL, 1, .inr (.inl kf)))]) [28] rfl
    have hD9 := hD.sub (ws' := [(oo, .inl (cL, 1, .inr (.inl kf)))]) [28] (by decide) rfl
    exact W.iret (v := 1) hx hb hr (fun t ht hW => ⟨⟨1, kf, rfl, ⟨rfl, fun h => absurd h (by decide)⟩, ⟨by rw [ht]; exact hP9, hD9⟩⟩, hS.F ht⟩) hS.2.2 dL_cost_13
  exact (show False from hw).elim
set_option maxHeartbeats 4000000 in
set_option maxRecDepth 100000 in
theorem c_L_kind (l : Launch) (hfl : l.stackTraces = false) (dC : Nat → ClassId) (dI : Nat → Nat → Nat) (cI : ClassId) (cL : ClassId) (xa : Nat → Nat) (p0 : Int32) (oo : Nat) (kf : Nat → Int64) (sz : Nat) : vx_Met l yL_kind wsL_kind ({ frames := 9, cells := 1, slots := 6, locals := 152 }) (va_Pc [.ref (xa 0), .int p0, .ref oo] (fun U => U.heap.size = sz ∧ va_P (dC, dI) vwCl (wx cI xa ++ [(oo, .inl (cL, 1, .inr (.inl kf)))]) U.heap ∧ va_K (dC, dI) vwCl [(cI, .int), (cL, .long)] U ∧ va_D (fun _ => True) (wx cI xa ++ [(oo, .inl (cL, 1, .inr (.inl kf)))]) ∧ zz_X (va_A (wx cI xa ++ [(oo, .inl (cL, 1, .inr (.inl kf)))]) sz) U)) (va_Qi (fun (r : Int32) (kg : Nat → Int64) => r = 1 ∧ (r = 0 → kg 0 = 0)) (fun kg t => va_P (dC, dI) vwCl [(oo, .inl (cL, 1, .inr (.inl kg)))] t.heap ∧ va_D (va_A (wx cI xa ++ [(oo, .inl (cL, 1, .inr (.inl kf)))]) sz) [(oo, .inl (cL, 1, .inr (.inl kg)))]) (va_A (wx cI xa ++ [(oo, .inl (cL, 1, .inr (.inl kf)))]) sz)) (vx_X (fun _ : Unit => True) (fun E _ _ => False) (va_A (wx cI xa ++ [(oo, .inl (cL, 1, .inr (.inl kf)))]) sz)) 1 6 (va_A (wx cI xa ++ [(oo, .inl (cL, 1, .inr (.inl kf)))]) sz) := by
  refine vx_ofWH (cc := cL_kind) (maxL := 4) (ret := (some .int)) (by decide) rfl ?_
  intro p e s m args below meth c s₁ B hml hv
  obtain ⟨rfl, hsz, hP, hK, hD0, hZ⟩ := hv
  have hx := B.exec
  have hb := B.bytes
  have hr := B.returns
  have hts := atoms_spec (ws := wsL_kind) B.pre
  have hown : s.vm.findClass RL = some m.cls := findClass_of_methodNamed B.named
  have hlocks := B.notSynchronized
  subst hsz
  have hD := hD0.self (sz := s.heap.size)
  generalize hAe : va_A (wx cI xa ++ [(oo, .inl (cL, 1, .inr (.inl kf)))]) s.heap.size = A at hD hZ ⊢
  have hA : ∀ q : Nat, s.heap.size ≤ q → A q := fun q h => by rw [← hAe]; exact Or.inr h
  have hS : va_S A s.heap s.heap [] := va_S.rf
  have htab := vx_table (x := yL_kind) B (hts _ (List.mem_cons_self))
  have hP : va_P (dC, dI) vwCl [(xa 0, .inr (4, [.ref (xa 1), .ref (xa 3), .ref (xa 5), .ref (xa 7), .ref (xa 16), .ref (xa 25), .int 3])), (xa 1, .inr (3, [.ref (xa 2), .int 0])), (xa 2, .inl (cI, 150, .inl (fun _ => 0))), (xa 3, .inr (3, [.ref (xa 4), .int 0])), (xa 4, .inl (cI, 150, .inl (fun _ => 0))), (xa 5, .inr (3, [.ref (xa 6), .int 0])), (xa 6, .inl (cI, 400, .inl (fun _ => 0))), (xa 7, .inr (1, [.ref (xa 8), .ref (xa 10), .ref (xa 12), .ref (xa 14), .int 0, .int 0])), (xa 8, .inr (3, [.ref (xa 9), .int 0])), (xa 9, .inl (cI, 150, .inl (fun _ => 0))), (xa 10, .inr (3, [.ref (xa 11), .int 0])), (xa 11, .inl (cI, 150, .inl (fun _ => 0))), (xa 12, .inr (3, [.ref (xa 13), .int 0])), (xa 13, .inl (cI, 150, .inl (fun _ => 0))), (xa 14, .inr (3, [.ref (xa 15), .int 0])), (xa 15, .inl (cI, 150, .inl (fun _ => 0))), (xa 16, .inr (2, [.ref (xa 17), .ref (xa 18), .ref (xa 19), .ref (xa 20), .ref (xa 21), .ref (xa 22), .ref (xa 23), .ref (xa 24)])), (xa 17, .inl (cI, 151, .inl (fun _ => 0))), (xa 18, .inl (cI, 151, .inl (fun _ => 0))), (xa 19, .inl (cI, 151, .inl (fun _ => 0))), (xa 20, .inl (cI, 151, .inl (fun _ => 0))), (xa 21, .inl (cI, 151, .inl (fun _ => 0))), (xa 22, .inl (cI, 151, .inl (fun _ => 0))), (xa 23, .inl (cI, 151, .inl (fun _ => 0))), (xa 24, .inl (cI, 151, .inl (fun _ => 0))), (xa 25, .inr (0, [.ref (xa 26), .int 0, .int 0, .int 0, .int (-1), .int 0, .int 0, .int 0])), (xa 26, .inr (3, [.ref (xa 27), .int 0])), (xa 27, .inl (cI, 300, .inl (fun _ => 0))), (oo, .inl (cL, 1, .inr (.inl kf)))] s.heap := hP
  have hl := lv_entry ([.ref (xa 0), .int p0, .ref oo]) (n := 4) (Nat.le_of_ble_eq_true rfl)
  rw [lg_entry_eq]
  generalize (lg_sl ([.ref (xa 0), .int p0, .ref oo]) ++ List.replicate (4 - (lg_sl ([.ref (xa 0), .int p0, .ref oo])).length) Slot.unset).toArray = ls at hl ⊢
  have hl : lv_has ls 4 [(0, .ref (xa 0)), (1, .int p0), (2, .ref oo)] := hl
  refine lv_aload_n hx hb dL_kind_0 rfl (lv_at hl 2 rfl) ?_
  refine lv_iconst (v := 0) hx hb dL_kind_1 (by decide) ?_
  refine lv_aload_n hx hb dL_kind_2 rfl (lv_at hl 0 rfl) ?_
  refine lv_iload_n hx hb dL_kind_3 rfl (lv_at hl 1 rfl) ?_
  have hPc := hP.sub (ws' := wx cI xa) [0, 1, 2, 3, 4, 5, 6, 7, 8, 9, 10, 11, 12, 13, 14, 15, 16, 17, 18, 19, 20, 21, 22, 23, 24, 25, 26, 27] rfl
  have hFc : ∀ q : Nat, s.heap.size ≤ q → A q := fun q h => hA q (Nat.le_trans hS.1 h)
  have hKc := hK.sub (tys' := [(cI, .int)]) [0] rfl
  refine vx_calli (vx_runV (As := [.int p0]) (rest := [.int 0, .ref oo]) ⟨hx, hb, hml, hown, hts⟩ (c_X4_kind l hfl dC dI cI xa p0 s.heap.size) (cwV 1 hts gL_kind_X4_kind rfl rfl rfl (by decide +kernel) ⟨Nat.le_of_ble_eq_true rfl, Nat.le_of_ble_eq_true rfl⟩) ⟨fun a U g mk q => by obtain ⟨q0, q1, qP, qK, qD, qZ⟩ := q; exact ⟨q0, q1, qP, va_K.moved (u := U) (U := U.calling g mk a) (Vm.Alike.refl U.vm) qK, qD, qZ.call⟩, va_recv hKc hPc (ci := 4) (q0 := 0) rfl rfl, fun U hU hW => ⟨rfl, by rw [hU], by rw [hU]; exact hPc, va_K.moved hW.alike hKc, zz_D (hD.sub (ws' := wx cI xa) [0, 1, 2, 3, 4, 5, 6, 7, 8, 9, 10, 11, 12, 13, 14, 15, 16, 17, 18, 19, 20, 21, 22, 23, 24, 25, 26, 27] (by decide) rfl), hZ.go hS hFc hU hW⟩⟩ rfl rfl hl.1 rfl (lv_room (Nat.le_of_ble_eq_true rfl)) dL_kind_4 ⟨(Nat.le_of_ble_eq_true rfl), (Nat.le_of_ble_eq_true rfl)⟩) hS (fun q h1 h2 => absurd h1 (Nat.not_lt.mpr h2)) hFc (fun q h1 h2 => absurd h1 (Nat.not_lt.mpr h2)) (fun E ce q9 u_682 t H1 locs ht hvm hw hB hz1 hk1 hS1 hce hcv hcl => ?_) (fun r_681 u_682 t H1 locs ht hvm hw hB hz1 hk1 hS1 => ?_)
  · skip
    have hP := zz_keep hP hk1
    have hS := hS1
    clear hS1
    generalize H1 = H at hP hS hce ht ⊢
    have hP : va_P (dC, dI) vwCl [(xa 0, .inr (4, [.ref (xa 1), .ref (xa 3), .ref (xa 5), .ref (xa 7), .ref (xa 16), .ref (xa 25), .int 3])), (xa 1, .inr (3, [.ref (xa 2), .int 0])), (xa 2, .inl (cI, 150, .inl (fun _ => 0))), (xa 3, .inr (3, [.ref (xa 4), .int 0])), (xa 4, .inl (cI, 150, .inl (fun _ => 0))), (xa 5, .inr (3, [.ref (xa 6), .int 0])), (xa 6, .inl (cI, 400, .inl (fun _ => 0))), (xa 7, .inr (1, [.ref (xa 8), .ref (xa 10), .ref (xa 12), .ref (xa 14), .int 0, .int 0])), (xa 8, .inr (3, [.ref (xa 9), .int 0])), (xa 9, .inl (cI, 150, .inl (fun _ => 0))), (xa 10, .inr (3, [.ref (xa 11), .int 0])), (xa 11, .inl (cI, 150, .inl (fun _ => 0))), (xa 12, .inr (3, [.ref (xa 13), .int 0])), (xa 13, .inl (cI, 150, .inl (fun _ => 0))), (xa 14, .inr (3, [.ref (xa 15), .int 0])), (xa 15, .inl (cI, 150, .inl (fun _ => 0))), (xa 16, .inr (2, [.ref (xa 17), .ref (xa 18), .ref (xa 19), .ref (xa 20), .ref (xa 21), .ref (xa 22), .ref (xa 23), .ref (xa 24)])), (xa 17, .inl (cI, 151, .inl (fun _ => 0))), (xa 18, .inl (cI, 151, .inl (fun _ => 0))), (xa 19, .inl (cI, 151, .inl (fun _ => 0))), (xa 20, .inl (cI, 151, .inl (fun _ => 0))), (xa 21, .inl (cI, 151, .inl (fun _ => 0))), (xa 22, .inl (cI, 151, .inl (fun _ => 0))), (xa 23, .inl (cI, 151, .inl (fun _ => 0))), (xa 24, .inl (cI, 151, .inl (fun _ => 0))), (xa 25, .inr (0, [.ref (xa 26), .int 0, .int 0, .int 0, .int (-1), .int 0, .int 0, .int 0])), (xa 26, .inr (3, [.ref (xa 27), .int 0])), (xa 27, .inl (cI, 300, .inl (fun _ => 0))), (oo, .inl (cL, 1, .inr (.inl kf)))] H := hP
    obtain rfl := hB
    refine vx_catch hown [] ⟨0, 9, 12, 17⟩ [⟨0, 9, 15, 13⟩] htab (fun z h => nomatch h) (by decide) (by decide) (hts (.classLink RL 17 "java/lang/IllegalStateException") (by decide +kernel)) (hZ.cast 2 rfl) hce hcv hcl ?_
    refine W.widen (k := 1) (n := 6) (by omega) (by omega) ?_
    refine lv_astore_n (lv' := [(3, .ref q9), (0, .ref (xa 0)), (1, .int p0), (2, .ref oo)]) hx hb dL_kind_12 rfl hl (by decide) rfl (fun ls hl => ?_)
    refine lv_iconst (v := 1) hx hb dL_kind_13 (by decide) ?_
    refine vx_ret ?_
    have hP9 := hP.sub (ws' := [(oo, .inl (cL, 1, .inr (.inl kf)))]) [28] rfl
    have hD9 := hD.sub (ws' := [(oo, .inl (cL, 1, .inr (.inl kf)))]) [28] (by decide) rfl
    exact W.iret (v := 1) hx hb hr (fun t ht hW => ⟨⟨1, kf, rfl, ⟨rfl, fun h => absurd h (by decide)⟩, ⟨by rw [ht]; exact hP9, hD9⟩⟩, hS.F ht⟩) hS.2.2 dL_kind_14
  exact (show False from hw).elim
set_option maxHeartbeats 4000000 in
set_option maxRecDepth 100000 in
theorem c_L_length (l : Launch) (hfl : l.stackTraces = false) (dC : Nat → ClassId) (dI : Nat → Nat → Nat) (cI : ClassId) (cL : ClassId) (xa : Nat → Nat) (p0 : Int32) (oo : Nat) (kf : Nat → Int64) (sz : Nat) : vx_Met l yL_length wsL_length ({ frames := 9, cells := 1, slots := 6, locals := 152 }) (va_Pc [.ref (xa 0), .int p0, .ref oo] (fun U => U.heap.size = sz ∧ va_P (dC, dI) vwCl (wx cI xa ++ [(oo, .inl (cL, 1, .inr (.inl kf)))]) U.heap ∧ va_K (dC, dI) vwCl [(cI, .int), (cL, .long)] U ∧ va_D (fun _ => True) (wx cI xa ++ [(oo, .inl (cL, 1, .inr (.inl kf)))]) ∧ zz_X (va_A (wx cI xa ++ [(oo, .inl (cL, 1, .inr (.inl kf)))]) sz) U)) (va_Qi (fun (r : Int32) (kg : Nat → Int64) => r = 1 ∧ (r = 0 → kg 0 = 0)) (fun kg t => va_P (dC, dI) vwCl [(oo, .inl (cL, 1, .inr (.inl kg)))] t.heap ∧ va_D (va_A (wx cI xa ++ [(oo, .inl (cL, 1, .inr (.inl kf)))]) sz) [(oo, .inl (cL, 1, .inr (.inl kg)))]) (va_A (wx cI xa ++ [(oo, .inl (cL, 1, .inr (.inl kf)))]) sz)) (vx_X (fun _ : Unit => True) (fun E _ _ => False) (va_A (wx cI xa ++ [(oo, .inl (cL, 1, .inr (.inl kf)))]) sz)) 1 6 (va_A (wx cI xa ++ [(oo, .inl (cL, 1, .inr (.inl kf)))]) sz) := by
  refine vx_ofWH (cc := cL_length) (maxL := 4) (ret := (some .int)) (by decide) rfl ?_
  intro p e s m args below meth c s₁ B hml hv
  obtain ⟨rfl, hsz, hP, hK, hD0, hZ⟩ := hv
  have hx := B.exec
  have hb := B.bytes
  have hr := B.returns
  have hts := atoms_spec (ws := wsL_length) B.pre
  have hown : s.vm.findClass RL = some m.cls := findClass_of_methodNamed B.named
  have hlocks := B.notSynchronized
  subst hsz
  have hD := hD0.self (sz := s.heap.size)
  generalize hAe : va_A (wx cI xa ++ [(oo, .inl (cL, 1, .inr (.inl kf)))]) s.heap.size = A at hD hZ ⊢
  have hA : ∀ q : Nat, s.heap.size ≤ q → A q := fun q h => by rw [← hAe]; exact Or.inr h
  have hS : va_S A s.heap s.heap [] := va_S.rf
  have htab := vx_table (x := yL_length) B (hts _ (List.mem_cons_self))
  have hP : va_P (dC, dI) vwCl [(xa 0, .inr (4, [.ref (xa 1), .ref (xa 3), .ref (xa 5), .ref (xa 7), .ref (xa 16), .ref (xa 25), .int 3])), (xa 1, .inr (3, [.ref (xa 2), .int 0])), (xa 2, .inl (cI, 150, .inl (fun _ => 0))), (xa 3, .inr (3, [.ref (xa 4), .int 0])), (xa 4, .inl (cI, 150, .inl (fun _ => 0))), (xa 5, .inr (3, [.ref (xa 6), .int 0])), (xa 6, .inl (cI, 400, .inl (fun _ => 0))), (xa 7, .inr (1, [.ref (xa 8), .ref (xa 10), .ref (xa 12), .ref (xa 14), .int 0, .int 0])), (xa 8, .inr (3, [.ref (xa 9), .int 0])), (xa 9, .inl (cI, 150, .inl (fun _ => 0))), (xa 10, .inr (3, [.ref (xa 11), .int 0])), (xa 11, .inl (cI, 150, .inl (fun _ => 0))), (xa 12, .inr (3, [.ref (xa 13), .int 0])), (xa 13, .inl (cI, 150, .inl (fun _ => 0))), (xa 14, .inr (3, [.ref (xa 15), .int 0])), (xa 15, .inl (cI, 150, .inl (fun _ => 0))), (xa 16, .inr (2, [.ref (xa 17), .ref (xa 18), .ref (xa 19), .ref (xa 20), .ref (xa 21), .ref (xa 22), .ref (xa 23), .ref (xa 24)])), (xa 17, .inl (cI, 151, .inl (fun _ => 0))), (xa 18, .inl (cI, 151, .inl (fun _ => 0))), (xa 19, .inl (cI, 151, .inl (fun _ => 0))), (xa 20, .inl (cI, 151, .inl (fun _ => 0))), (xa 21, .inl (cI, 151, .inl (fun _ => 0))), (xa 22, .inl (cI, 151, .inl (fun _ => 0))), (xa 23, .inl (cI, 151, .inl (fun _ => 0))), (xa 24, .inl (cI, 151, .inl (fun _ => 0))), (xa 25, .inr (0, [.ref (xa 26), .int 0, .int 0, .int 0, .int (-1), .int 0, .int 0, .int 0])), (xa 26, .inr (3, [.ref (xa 27), .int 0])), (xa 27, .inl (cI, 300, .inl (fun _ => 0))), (oo, .inl (cL, 1, .inr (.inl kf)))] s.heap := hP
  have hl := lv_entry ([.ref (xa 0), .int p0, .ref oo]) (n := 4) (Nat.le_of_ble_eq_true rfl)
  rw [lg_entry_eq]
  generalize (lg_sl ([.ref (xa 0), .int p0, .ref oo]) ++ List.replicate (4 - (lg_sl ([.ref (xa 0), .int p0, .ref oo])).length) Slot.unset).toArray = ls at hl ⊢
  have hl : lv_has ls 4 [(0, .ref (xa 0)), (1, .int p0), (2, .ref oo)] := hl
  refine lv_aload_n hx hb dL_length_0 rfl (lv_at hl 2 rfl) ?_
  refine lv_iconst (v := 0) hx hb dL_length_1 (by decide) ?_
  refine lv_aload_n hx hb dL_length_2 rfl (lv_at hl 0 rfl) ?_
  refine lv_iload_n hx hb dL_length_3 rfl (lv_at hl 1 rfl) ?_
  have hPc := hP.sub (ws' := wx cI xa) [0, 1, 2, 3, 4, 5, 6, 7, 8, 9, 10, 11, 12, 13, 14, 15, 16, 17, 18, 19, 20, 21, 22, 23, 24, 25, 26, 27] rfl
  have hFc : ∀ q : Nat, s.heap.size ≤ q → A q := fun q h => hA q (Nat.le_trans hS.1 h)
  have hKc := hK.sub (tys' := [(cI, .int)]) [0] rfl
  refine vx_calli (vx_runV (As := [.int p0]) (rest := [.int 0, .ref oo]) ⟨hx, hb, hml, hown, hts⟩ (c_X4_length l hfl dC dI cI xa p0 s.heap.size) (cwV 1 hts gL_length_X4_length rfl rfl rfl (by decide +kernel) ⟨Nat.le_of_ble_eq_true rfl, Nat.le_of_ble_eq_true rfl⟩) ⟨fun a U g mk q => by obtain ⟨q0, q1, qP, qK, qD, qZ⟩ := q; exact ⟨q0, q1, qP, va_K.moved (u := U) (U := U.calling g mk a) (Vm.Alike.refl U.vm) qK, qD, qZ.call⟩, va_recv hKc hPc (ci := 4) (q0 := 0) rfl rfl, fun U hU hW => ⟨rfl, by rw [hU], by rw [hU]; exact hPc, va_K.moved hW.alike hKc, zz_D (hD.sub (ws' := wx cI xa) [0, 1, 2, 3, 4, 5, 6, 7, 8, 9, 10, 11, 12, 13, 14, 15, 16, 17, 18, 19, 20, 21, 22, 23, 24, 25, 26, 27] (by decide) rfl), hZ.go hS hFc hU hW⟩⟩ rfl rfl hl.1 rfl (lv_room (Nat.le_of_ble_eq_true rfl)) dL_length_4 ⟨(Nat.le_of_ble_eq_true rfl), (Nat.le_of_ble_eq_true rfl)⟩) hS (fun q h1 h2 => absurd h1 (Nat.not_lt.mpr h2)) hFc (fun q h1 h2 => absurd h1 (Nat.not_lt.mpr h2)) (fun E ce q9 u_684 t H1 locs ht hvm hw hB hz1 hk1 hS1 hce hcv hcl => ?_) (fun r_683 u_684 t H1 locs ht hvm hw hB hz1 hk1 hS1 => ?_)
  · skip
    have hP := zz_keep hP hk1
    have hS := hS1
    clear hS1
    generalize H1 = H at hP hS hce ht ⊢
    have hP : va_P (dC, dI) vwCl [(xa 0, .inr (4, [.ref (xa 1), .ref (xa 3), .ref (xa 5), .ref (xa 7), .ref (xa 16), .ref (xa 25), .int 3])), (xa 1, .inr (3, [.ref (xa 2), .int 0])), (xa 2, .inl (cI, 150, .inl (fun _ => 0))), (xa 3, .inr (3, [.ref (xa 4), .int 0])), (xa 4, .inl (cI, 150, .inl (fun _ => 0))), (xa 5, .inr (3, [.ref (xa 6), .int 0])), (xa 6, .inl (cI, 400, .inl (fun _ => 0))), (xa 7, .inr (1, [.ref (xa 8), .ref (xa 10), .ref (xa 12), .ref (xa 14), .int 0, .int 0])), (xa 8, .inr (3, [.ref (xa 9), .int 0])), (xa 9, .inl (cI, 150, .inl (fun _ => 0))), (xa 10, .inr (3, [.ref (xa 11), .int 0])), (xa 11, .inl (cI, 150, .inl (fun _ => 0))), (xa 12, .inr (3, [.ref (xa 13), .int 0])), (xa 13, .inl (cI, 150, .inl (fun _ => 0))), (xa 14, .inr (3, [.ref (xa 15), .int 0])), (xa 15, .inl (cI, 150, .inl (fun _ => 0))), (xa 16, .inr (2, [.ref (xa 17), .ref (xa 18), .ref (xa 19), .ref (xa 20), .ref (xa 21), .ref (xa 22), .ref (xa 23), .ref (xa 24)])), (xa 17, .inl (cI, 151, .inl (fun _ => 0))), (xa 18, .inl (cI, 151, .inl (fun _ => 0))), (xa 19, .inl (cI, 151, .inl (fun _ => 0))), (xa 20, .inl (cI, 151, .inl (fun _ => 0))), (xa 21, .inl (cI, 151, .inl (fun _ => 0))), (xa 22, .inl (cI, 151, .inl (fun _ => 0))), (xa 23, .inl (cI, 151, .inl (fun _ => 0))), (xa 24, .inl (cI, 151, .inl (fun _ => 0))), (xa 25, .inr (0, [.ref (xa 26), .int 0, .int 0, .int 0, .int (-1), .int 0, .int 0, .int 0])), (xa 26, .inr (3, [.ref (xa 27), .int 0])), (xa 27, .inl (cI, 300, .inl (fun _ => 0))), (oo, .inl (cL, 1, .inr (.inl kf)))] H := hP
    obtain rfl := hB
    refine vx_catch hown [] ⟨0, 9, 12, 17⟩ [⟨0, 9, 15, 13⟩] htab (fun z h => nomatch h) (by decide) (by decide) (hts (.classLink RL 17 "java/lang/IllegalStateException") (by decide +kernel)) (hZ.cast 2 rfl) hce hcv hcl ?_
    refine W.widen (k := 1) (n := 6) (by omega) (by omega) ?_
    refine lv_astore_n (lv' := [(3, .ref q9), (0, .ref (xa 0)), (1, .int p0), (2, .ref oo)]) hx hb dL_length_12 rfl hl (by decide) rfl (fun ls hl => ?_)
    refine lv_iconst (v := 1) hx hb dL_length_13 (by decide) ?_
    refine vx_ret ?_
    have hP9 := hP.sub (ws' := [(oo, .inl (cL, 1, .inr (.inl kf)))]) [28] rfl
    have hD9 := hD.sub (ws' := [(oo, .inl (cL, 1, .inr (.inl kf)))]) [28] (by decide) rfl
    exact W.iret (v := 1) hx hb hr (fun t ht hW => ⟨⟨1, kf, rfl, ⟨rfl, fun h => absurd h (by decide)⟩, ⟨by rw [ht]; exact hP9, hD9⟩⟩, hS.F ht⟩) hS.2.2 dL_length_14
  exact (show False from hw).elim
set_option maxHeartbeats 4000000 in
set_option maxRecDepth 100000 in
theorem c_L_operand (l : Launch) (hfl : l.stackTraces = false) (dC : Nat → ClassId) (dI : Nat → Nat → Nat) (cI : ClassId) (cL : ClassId) (xa : Nat → Nat) (p0 : Int32) (oo : Nat) (kf : Nat → Int64) (sz : Nat) : vx_Met l yL_operand wsL_operand ({ frames := 9, cells := 1, slots := 6, locals := 152 }) (va_Pc [.ref (xa 0), .int p0, .ref oo] (fun U => U.heap.size = sz ∧ va_P (dC, dI) vwCl (wx cI xa ++ [(oo, .inl (cL, 1, .inr (.inl kf)))]) U.heap ∧ va_K (dC, dI) vwCl [(cI, .int), (cL, .long)] U ∧ va_D (fun _ => True) (wx cI xa ++ [(oo, .inl (cL, 1, .inr (.inl kf)))]) ∧ zz_X (va_A (wx cI xa ++ [(oo, .inl (cL, 1, .inr (.inl kf)))]) sz) U)) (va_Qi (fun (r : Int32) (kg : Nat → Int64) => r = 1 ∧ (r = 0 → kg 0 = 0)) (fun kg t => va_P (dC, dI) vwCl [(oo, .inl (cL, 1, .inr (.inl kg)))] t.heap ∧ va_D (va_A (wx cI xa ++ [(oo, .inl (cL, 1, .inr (.inl kf)))]) sz) [(oo, .inl (cL, 1, .inr (.inl kg)))]) (va_A (wx cI xa ++ [(oo, .inl (cL, 1, .inr (.inl kf)))]) sz)) (vx_X (fun _ : Unit => True) (fun E _ _ => False) (va_A (wx cI xa ++ [(oo, .inl (cL, 1, .inr (.inl kf)))]) sz)) 1 6 (va_A (wx cI xa ++ [(oo, .inl (cL, 1, .inr (.inl kf)))]) sz) := by
  refine vx_ofWH (cc := cL_operand) (maxL := 4) (ret := (some .int)) (by decide) rfl ?_
  intro p e s m args below meth c s₁ B hml hv
  obtain ⟨rfl, hsz, hP, hK, hD0, hZ⟩ := hv
  have hx := B.exec
  have hb := B.bytes
  have hr := B.returns
  have hts := atoms_spec (ws := wsL_operand) B.pre
  have hown : s.vm.findClass RL = some m.cls := findClass_of_methodNamed B.named
  have hlocks := B.notSynchronized
  subst hsz
  have hD := hD0.self (sz := s.heap.size)
  generalize hAe : va_A (wx cI xa ++ [(oo, .inl (cL, 1, .inr (.inl kf)))]) s.heap.size = A at hD hZ ⊢
  have hA : ∀ q : Nat, s.heap.size ≤ q → A q := fun q h => by rw [← hAe]; exact Or.inr h
  have hS : va_S A s.heap s.heap [] := va_S.rf
  have htab := vx_table (x := yL_operand) B (hts _ (List.mem_cons_self))
  have hP : va_P (dC, dI) vwCl [(xa 0, .inr (4, [.ref (xa 1), .ref (xa 3), .ref (xa 5), .ref (xa 7), .ref (xa 16), .ref (xa 25), .int 3])), (xa 1, .inr (3, [.ref (xa 2), .int 0])), (xa 2, .inl (cI, 150, .inl (fun _ => 0))), (xa 3, .inr (3, [.ref (xa 4), .int 0])), (xa 4, .inl (cI, 150, .inl (fun _ => 0))), (xa 5, .inr (3, [.ref (xa 6), .int 0])), (xa 6, .inl (cI, 400, .inl (fun _ => 0))), (xa 7, .inr (1, [.ref (xa 8), .ref (xa 10), .ref (xa 12), .ref (xa 14), .int 0, .int 0])), (xa 8, .inr (3, [.ref (xa 9), .int 0])), (xa 9, .inl (cI, 150, .inl (fun _ => 0))), (xa 10, .inr (3, [.ref (xa 11), .int 0])), (xa 11, .inl (cI, 150, .inl (fun _ => 0))), (xa 12, .inr (3, [.ref (xa 13), .int 0])), (xa 13, .inl (cI, 150, .inl (fun _ => 0))), (xa 14, .inr (3, [.ref (xa 15), .int 0])), (xa 15, .inl (cI, 150, .inl (fun _ => 0))), (xa 16, .inr (2, [.ref (xa 17), .ref (xa 18), .ref (xa 19), .ref (xa 20), .ref (xa 21), .ref (xa 22), .ref (xa 23), .ref (xa 24)])), (xa 17, .inl (cI, 151, .inl (fun _ => 0))), (xa 18, .inl (cI, 151, .inl (fun _ => 0))), (xa 19, .inl (cI, 151, .inl (fun _ => 0))), (xa 20, .inl (cI, 151, .inl (fun _ => 0))), (xa 21, .inl (cI, 151, .inl (fun _ => 0))), (xa 22, .inl (cI, 151, .inl (fun _ => 0))), (xa 23, .inl (cI, 151, .inl (fun _ => 0))), (xa 24, .inl (cI, 151, .inl (fun _ => 0))), (xa 25, .inr (0, [.ref (xa 26), .int 0, .int 0, .int 0, .int (-1), .int 0, .int 0, .int 0])), (xa 26, .inr (3, [.ref (xa 27), .int 0])), (xa 27, .inl (cI, 300, .inl (fun _ => 0))), (oo, .inl (cL, 1, .inr (.inl kf)))] s.heap := hP
  have hl := lv_entry ([.ref (xa 0), .int p0, .ref oo]) (n := 4) (Nat.le_of_ble_eq_true rfl)
  rw [lg_entry_eq]
  generalize (lg_sl ([.ref (xa 0), .int p0, .ref oo]) ++ List.replicate (4 - (lg_sl ([.ref (xa 0), .int p0, .ref oo])).length) Slot.unset).toArray = ls at hl ⊢
  have hl : lv_has ls 4 [(0, .ref (xa 0)), (1, .int p0), (2, .ref oo)] := hl
  refine lv_aload_n hx hb dL_operand_0 rfl (lv_at hl 2 rfl) ?_
  refine lv_iconst (v := 0) hx hb dL_operand_1 (by decide) ?_
  refine lv_aload_n hx hb dL_operand_2 rfl (lv_at hl 0 rfl) ?_
  refine lv_iload_n hx hb dL_operand_3 rfl (lv_at hl 1 rfl) ?_
  have hPc := hP.sub (ws' := wx cI xa) [0, 1, 2, 3, 4, 5, 6, 7, 8, 9, 10, 11, 12, 13, 14, 15, 16, 17, 18, 19, 20, 21, 22, 23, 24, 25, 26, 27] rfl
  have hFc : ∀ q : Nat, s.heap.size ≤ q → A q := fun q h => hA q (Nat.le_trans hS.1 h)
  have hKc := hK.sub (tys' := [(cI, .int)]) [0] rfl
  refine vx_calli (vx_runV (As := [.int p0]) (rest := [.int 0, .ref oo]) ⟨hx, hb, hml, hown, hts⟩ (c_X4_operand l hfl dC dI cI xa p0 s.heap.size) (cwV 1 hts gL_operand_X4_operand rfl rfl rfl (by decide +kernel) ⟨Nat.le_of_ble_eq_true rfl, Nat.le_of_ble_eq_true rfl⟩) ⟨fun a U g mk q => by obtain ⟨q0, q1, qP, qK, qD, qZ⟩ := q; exact ⟨q0, q1, qP, va_K.moved (u := U) (U := U.calling g mk a) (Vm.Alike.refl U.vm) qK, qD, qZ.call⟩, va_recv hKc hPc (ci := 4) (q0 := 0) rfl rfl, fun U hU hW => ⟨rfl, by rw [hU], by rw [hU]; exact hPc, va_K.moved hW.alike hKc, zz_D (hD.sub (ws' := wx cI xa) [0, 1, 2, 3, 4, 5, 6, 7, 8, 9, 10, 11, 12, 13, 14, 15, 16, 17, 18, 19, 20, 21, 22, 23, 24, 25, 26, 27] (by decide) rfl), hZ.go hS hFc hU hW⟩⟩ rfl rfl hl.1 rfl (lv_room (Nat.le_of_ble_eq_true rfl)) dL_operand_4 ⟨(Nat.le_of_ble_eq_true rfl), (Nat.le_of_ble_eq_true rfl)⟩) hS (fun q h1 h2 => absurd h1 (Nat.not_lt.mpr h2)) hFc (fun q h1 h2 => absurd h1 (Nat.not_lt.mpr h2)) (fun E ce q9 u_686 t H1 locs ht hvm hw hB hz1 hk1 hS1 hce hcv hcl => ?_) (fun r_685 u_686 t H1 locs ht hvm hw hB hz1 hk1 hS1 => ?_)
  · skip
    have hP := zz_keep hP hk1
    have hS := hS1
    clear hS1
    generalize H1 = H at hP hS hce ht ⊢
    have hP : va_P (dC, dI) vwCl [(xa 0, .inr (4, [.ref (xa 1), .ref (xa 3), .ref (xa 5), .ref (xa 7), .ref (xa 16), .ref (xa 25), .int 3])), (xa 1, .inr (3, [.ref (xa 2), .int 0])), (xa 2, .inl (cI, 150, .inl (fun _ => 0))), (xa 3, .inr (3, [.ref (xa 4), .int 0])), (xa 4, .inl (cI, 150, .inl (fun _ => 0))), (xa 5, .inr (3, [.ref (xa 6), .int 0])), (xa 6, .inl (cI, 400, .inl (fun _ => 0))), (xa 7, .inr (1, [.ref (xa 8), .ref (xa 10), .ref (xa 12), .ref (xa 14), .int 0, .int 0])), (xa 8, .inr (3, [.ref (xa 9), .int 0])), (xa 9, .inl (cI, 150, .inl (fun _ => 0))), (xa 10, .inr (3, [.ref (xa 11), .int 0])), (xa 11, .inl (cI, 150, .inl (fun _ => 0))), (xa 12, .inr (3, [.ref (xa 13), .int 0])), (xa 13, .inl (cI, 150, .inl (fun _ => 0))), (xa 14, .inr (3, [.ref (xa 15), .int 0])), (xa 15, .inl (cI, 150, .inl (fun _ => 0))), (xa 16, .inr (2, [.ref (xa 17), .ref (xa 18), .ref (xa 19), .ref (xa 20), .ref (xa 21), .ref (xa 22), .ref (xa 23), .ref (xa 24)])), (xa 17, .inl (cI, 151, .inl (fun _ => 0))), (xa 18, .inl (cI, 151, .inl (fun _ => 0))), (xa 19, .inl (cI, 151, .inl (fun _ => 0))), (xa 20, .inl (cI, 151, .inl (fun _ => 0))), (xa 21, .inl (cI, 151, .inl (fun _ => 0))), (xa 22, .inl (cI, 151, .inl (fun _ => 0))), (xa 23, .inl (cI, 151, .inl (fun _ => 0))), (xa 24, .inl (cI, 151, .inl (fun _ => 0))), (xa 25, .inr (0, [.ref (xa 26), .int 0, .int 0, .int 0, .int (-1), .int 0, .int 0, .int 0])), (xa 26, .inr (3, [.ref (xa 27), .int 0])), (xa 27, .inl (cI, 300, .inl (fun _ => 0))), (oo, .inl (cL, 1, .inr (.inl kf)))] H := hP
    obtain rfl := hB
    refine vx_catch hown [] ⟨0, 9, 12, 17⟩ [⟨0, 9, 15, 13⟩] htab (fun z h => nomatch h) (by decide) (by decide) (hts (.classLink RL 17 "java/lang/IllegalStateException") (by decide +kernel)) (hZ.cast 2 rfl) hce hcv hcl ?_
    refine W.widen (k := 1) (n := 6) (by omega) (by omega) ?_
    refine lv_astore_n (lv' := [(3, .ref q9), (0, .ref (xa 0)), (1, .int p0), (2, .ref oo)]) hx hb dL_operand_12 rfl hl (by decide) rfl (fun ls hl => ?_)
    refine lv_iconst (v := 1) hx hb dL_operand_13 (by decide) ?_
    refine vx_ret ?_
    have hP9 := hP.sub (ws' := [(oo, .inl (cL, 1, .inr (.inl kf)))]) [28] rfl
    have hD9 := hD.sub (ws' := [(oo, .inl (cL, 1, .inr (.inl kf)))]) [28] (by decide) rfl
    exact W.iret (v := 1) hx hb hr (fun t ht hW => ⟨⟨1, kf, rfl, ⟨rfl, fun h => absurd h (by decide)⟩, ⟨by rw [ht]; exact hP9, hD9⟩⟩, hS.F ht⟩) hS.2.2 dL_operand_14
  exact (show False from hw).elim
set_option maxHeartbeats 4000000 in
set_option maxRecDepth 100000 in
theorem c_L_start (l : Launch) (hfl : l.stackTraces = false) (dC : Nat → ClassId) (dI : Nat → Nat → Nat) (cI : ClassId) (cL : ClassId) (xa : Nat → Nat) (p0 : Int32) (oo : Nat) (kf : Nat → Int64) (sz : Nat) : vx_Met l yL_start wsL_start ({ frames := 9, cells := 1, slots := 6, locals := 152 }) (va_Pc [.ref (xa 0), .int p0, .ref oo] (fun U => U.heap.size = sz ∧ va_P (dC, dI) vwCl (wx cI xa ++ [(oo, .inl (cL, 1, .inr (.inl kf)))]) U.heap ∧ va_K (dC, dI) vwCl [(cI, .int), (cL, .long)] U ∧ va_D (fun _ => True) (wx cI xa ++ [(oo, .inl (cL, 1, .inr (.inl kf)))]) ∧ zz_X (va_A (wx cI xa ++ [(oo, .inl (cL, 1, .inr (.inl kf)))]) sz) U)) (va_Qi (fun (r : Int32) (kg : Nat → Int64) => r = 1 ∧ (r = 0 → kg 0 = 0)) (fun kg t => va_P (dC, dI) vwCl [(oo, .inl (cL, 1, .inr (.inl kg)))] t.heap ∧ va_D (va_A (wx cI xa ++ [(oo, .inl (cL, 1, .inr (.inl kf)))]) sz) [(oo, .inl (cL, 1, .inr (.inl kg)))]) (va_A (wx cI xa ++ [(oo, .inl (cL, 1, .inr (.inl kf)))]) sz)) (vx_X (fun _ : Unit => True) (fun E _ _ => False) (va_A (wx cI xa ++ [(oo, .inl (cL, 1, .inr (.inl kf)))]) sz)) 1 6 (va_A (wx cI xa ++ [(oo, .inl (cL, 1, .inr (.inl kf)))]) sz) := by
  refine vx_ofWH (cc := cL_start) (maxL := 4) (ret := (some .int)) (by decide) rfl ?_
  intro p e s m args below meth c s₁ B hml hv
  obtain ⟨rfl, hsz, hP, hK, hD0, hZ⟩ := hv
  have hx := B.exec
  have hb := B.bytes
  have hr := B.returns
  have hts := atoms_spec (ws := wsL_start) B.pre
  have hown : s.vm.findClass RL = some m.cls := findClass_of_methodNamed B.named
  have hlocks := B.notSynchronized
  subst hsz
  have hD := hD0.self (sz := s.heap.size)
  generalize hAe : va_A (wx cI xa ++ [(oo, .inl (cL, 1, .inr (.inl kf)))]) s.heap.size = A at hD hZ ⊢
  have hA : ∀ q : Nat, s.heap.size ≤ q → A q := fun q h => by rw [← hAe]; exact Or.inr h
  have hS : va_S A s.heap s.heap [] := va_S.rf
  have htab := vx_table (x := yL_start) B (hts _ (List.mem_cons_self))
  have hP : va_P (dC, dI) vwCl [(xa 0, .inr (4, [.ref (xa 1), .ref (xa 3), .ref (xa 5), .ref (xa 7), .ref (xa 16), .ref (xa 25), .int 3])), (xa 1, .inr (3, [.ref (xa 2), .int 0])), (xa 2, .inl (cI, 150, .inl (fun _ => 0))), (xa 3, .inr (3, [.ref (xa 4), .int 0])), (xa 4, .inl (cI, 150, .inl (fun _ => 0))), (xa 5, .inr (3, [.ref (xa 6), .int 0])), (xa 6, .inl (cI, 400, .inl (fun _ => 0))), (xa 7, .inr (1, [.ref (xa 8), .ref (xa 10), .ref (xa 12), .ref (xa 14), .int 0, .int 0])), (xa 8, .inr (3, [.ref (xa 9), .int 0])), (xa 9, .inl (cI, 150, .inl (fun _ => 0))), (xa 10, .inr (3, [.ref (xa 11), .int 0])), (xa 11, .inl (cI, 150, .inl (fun _ => 0))), (xa 12, .inr (3, [.ref (xa 13), .int 0])), (xa 13, .inl (cI, 150, .inl (fun _ => 0))), (xa 14, .inr (3, [.ref (xa 15), .int 0])), (xa 15, .inl (cI, 150, .inl (fun _ => 0))), (xa 16, .inr (2, [.ref (xa 17), .ref (xa 18), .ref (xa 19), .ref (xa 20), .ref (xa 21), .ref (xa 22), .ref (xa 23), .ref (xa 24)])), (xa 17, .inl (cI, 151, .inl (fun _ => 0))), (xa 18, .inl (cI, 151, .inl (fun _ => 0))), (xa 19, .inl (cI, 151, .inl (fun _ => 0))), (xa 20, .inl (cI, 151, .inl (fun _ => 0))), (xa 21, .inl (cI, 151, .inl (fun _ => 0))), (xa 22, .inl (cI, 151, .inl (fun _ => 0))), (xa 23, .inl (cI, 151, .inl (fun _ => 0))), (xa 24, .inl (cI, 151, .inl (fun _ => 0))), (xa 25, .inr (0, [.ref (xa 26), .int 0, .int 0, .int 0, .int (-1), .int 0, .int 0, .int 0])), (xa 26, .inr (3, [.ref (xa 27), .int 0])), (xa 27, .inl (cI, 300, .inl (fun _ => 0))), (oo, .inl (cL, 1, .inr (.inl kf)))] s.heap := hP
  have hl := lv_entry ([.ref (xa 0), .int p0, .ref oo]) (n := 4) (Nat.le_of_ble_eq_true rfl)
  rw [lg_entry_eq]
  generalize (lg_sl ([.ref (xa 0), .int p0, .ref oo]) ++ List.replicate (4 - (lg_sl ([.ref (xa 0), .int p0, .ref oo])).length) Slot.unset).toArray = ls at hl ⊢
  have hl : lv_has ls 4 [(0, .ref (xa 0)), (1, .int p0), (2, .ref oo)] := hl
  refine lv_aload_n hx hb dL_start_0 rfl (lv_at hl 2 rfl) ?_
  refine lv_iconst (v := 0) hx hb dL_start_1 (by decide) ?_
  refine lv_aload_n hx hb dL_start_2 rfl (lv_at hl 0 rfl) ?_
  refine lv_iload_n hx hb dL_start_3 rfl (lv_at hl 1 rfl) ?_
  have hPc := hP.sub (ws' := wx cI xa) [0, 1, 2, 3, 4, 5, 6, 7, 8, 9, 10, 11, 12, 13, 14, 15, 16, 17, 18, 19, 20, 21, 22, 23, 24, 25, 26, 27] rfl
  have hFc : ∀ q : Nat, s.heap.size ≤ q → A q := fun q h => hA q (Nat.le_trans hS.1 h)
  have hKc := hK.sub (tys' := [(cI, .int)]) [0] rfl
  refine vx_calli (vx_runV (As := [.int p0]) (rest := [.int 0, .ref oo]) ⟨hx, hb, hml, hown, hts⟩ (c_X4_start l hfl dC dI cI xa p0 s.heap.size) (cwV 1 hts gL_start_X4_start rfl rfl rfl (by decide +kernel) ⟨Nat.le_of_ble_eq_true rfl, Nat.le_of_ble_eq_true rfl⟩) ⟨fun a U g mk q => by obtain ⟨q0, q1, qP, qK, qD, qZ⟩ := q; exact ⟨q0, q1, qP, va_K.moved (u := U) (U := U.calling g mk a) (Vm.Alike.refl U.vm) qK, qD, qZ.call⟩, va_recv hKc hPc (ci := 4) (q0 := 0) rfl rfl, fun U hU hW => ⟨rfl, by rw [hU], by rw [hU]; exact hPc, va_K.moved hW.alike hKc, zz_D (hD.sub (ws' := wx cI xa) [0, 1, 2, 3, 4, 5, 6, 7, 8, 9, 10, 11, 12, 13, 14, 15, 16, 17, 18, 19, 20, 21, 22, 23, 24, 25, 26, 27] (by decide) rfl), hZ.go hS hFc hU hW⟩⟩ rfl rfl hl.1 rfl (lv_room (Nat.le_of_ble_eq_true rfl)) dL_start_4 ⟨(Nat.le_of_ble_eq_true rfl), (Nat.le_of_ble_eq_true rfl)⟩) hS (fun q h1 h2 => absurd h1 (Nat.not_lt.mpr h2)) hFc (fun q h1 h2 => absurd h1 (Nat.not_lt.mpr h2)) (fun E ce q9 u_688 t H1 locs ht hvm hw hB hz1 hk1 hS1 hce hcv hcl => ?_) (fun r_687 u_688 t H1 locs ht hvm hw hB hz1 hk1 hS1 => ?_)
  · skip
    have hP := zz_keep hP hk1
    have hS := hS1
    clear hS1
    generalize H1 = H at hP hS hce ht ⊢
    have hP : va_P (dC, dI) vwCl [(xa 0, .inr (4, [.ref (xa 1), .ref (xa 3), .ref (xa 5), .ref (xa 7), .ref (xa 16), .ref (xa 25), .int 3])), (xa 1, .inr (3, [.ref (xa 2), .int 0])), (xa 2, .inl (cI, 150, .inl (fun _ => 0))), (xa 3, .inr (3, [.ref (xa 4), .int 0])), (xa 4, .inl (cI, 150, .inl (fun _ => 0))), (xa 5, .inr (3, [.ref (xa 6), .int 0])), (xa 6, .inl (cI, 400, .inl (fun _ => 0))), (xa 7, .inr (1, [.ref (xa 8), .ref (xa 10), .ref (xa 12), .ref (xa 14), .int 0, .int 0])), (xa 8, .inr (3, [.ref (xa 9), .int 0])), (xa 9, .inl (cI, 150, .inl (fun _ => 0))), (xa 10, .inr (3, [.ref (xa 11), .int 0])), (xa 11, .inl (cI, 150, .inl (fun _ => 0))), (xa 12, .inr (3, [.ref (xa 13), .int 0])), (xa 13, .inl (cI, 150, .inl (fun _ => 0))), (xa 14, .inr (3, [.ref (xa 15), .int 0])), (xa 15, .inl (cI, 150, .inl (fun _ => 0))), (xa 16, .inr (2, [.ref (xa 17), .ref (xa 18), .ref (xa 19), .ref (xa 20), .ref (xa 21), .ref (xa 22), .ref (xa 23), .ref (xa 24)])), (xa 17, .inl (cI, 151, .inl (fun _ => 0))), (xa 18, .inl (cI, 151, .inl (fun _ => 0))), (xa 19, .inl (cI, 151, .inl (fun _ => 0))), (xa 20, .inl (cI, 151, .inl (fun _ => 0))), (xa 21, .inl (cI, 151, .inl (fun _ => 0))), (xa 22, .inl (cI, 151, .inl (fun _ => 0))), (xa 23, .inl (cI, 151, .inl (fun _ => 0))), (xa 24, .inl (cI, 151, .inl (fun _ => 0))), (xa 25, .inr (0, [.ref (xa 26), .int 0, .int 0, .int 0, .int (-1), .int 0, .int 0, .int 0])), (xa 26, .inr (3, [.ref (xa 27), .int 0])), (xa 27, .inl (cI, 300, .inl (fun _ => 0))), (oo, .inl (cL, 1, .inr (.inl kf)))] H := hP
    obtain rfl := hB
    refine vx_catch hown [] ⟨0, 9, 12, 17⟩ [⟨0, 9, 15, 13⟩] htab (fun z h => nomatch h) (by decide) (by decide) (hts (.classLink RL 17 "java/lang/IllegalStateException") (by decide +kernel)) (hZ.cast 2 rfl) hce hcv hcl ?_
    refine W.widen (k := 1) (n := 6) (by omega) (by omega) ?_
    refine lv_astore_n (lv' := [(3, .ref q9), (0, .ref (xa 0)), (1, .int p0), (2, .ref oo)]) hx hb dL_start_12 rfl hl (by decide) rfl (fun ls hl => ?_)
    refine lv_iconst (v := 1) hx hb dL_start_13 (by decide) ?_
    refine vx_ret ?_
    have hP9 := hP.sub (ws' := [(oo, .inl (cL, 1, .inr (.inl kf)))]) [28] rfl
    have hD9 := hD.sub (ws' := [(oo, .inl (cL, 1, .inr (.inl kf)))]) [28] (by decide) rfl
    exact W.iret (v := 1) hx hb hr (fun t ht hW => ⟨⟨1, kf, rfl, ⟨rfl, fun h => absurd h (by decide)⟩, ⟨by rw [ht]; exact hP9, hD9⟩⟩, hS.F ht⟩) hS.2.2 dL_start_14
  exact (show False from hw).elim
set_option maxHeartbeats 4000000 in
set_option maxRecDepth 100000 in
theorem c_L_made (l : Launch) (hfl : l.stackTraces = false) (dC : Nat → ClassId) (dI : Nat → Nat → Nat) (cI : ClassId) (cL : ClassId) (xa : Nat → Nat) (p0 : Int32) (oo : Nat) (kf : Nat → Int64) (sz : Nat) : vx_Met l yL_made wsL_made ({ frames := 8, cells := 1, slots := 6, locals := 133 }) (va_Pc [.ref (xa 0), .int p0, .ref oo] (fun U => U.heap.size = sz ∧ va_P (dC, dI) vwCl (wx cI xa ++ [(oo, .inl (cL, 1, .inr (.inl kf)))]) U.heap ∧ va_K (dC, dI) vwCl [(cI, .int), (cL, .long)] U ∧ va_D (fun _ => True) (wx cI xa ++ [(oo, .inl (cL, 1, .inr (.inl kf)))]) ∧ zz_X (va_A (wx cI xa ++ [(oo, .inl (cL, 1, .inr (.inl kf)))]) sz) U)) (va_Qi (fun (r : Int32) (kg : Nat → Int64) => r = 1 ∧ (r = 0 → kg 0 = 0)) (fun kg t => va_P (dC, dI) vwCl [(oo, .inl (cL, 1, .inr (.inl kg)))] t.heap ∧ va_D (va_A (wx cI xa ++ [(oo, .inl (cL, 1, .inr (.inl kf)))]) sz) [(oo, .inl (cL, 1, .inr (.inl kg)))]) (va_A (wx cI xa ++ [(oo, .inl (cL, 1, .inr (.inl kf)))]) sz)) (vx_X (fun _ : Unit => True) (fun E _ _ => False) (va_A (wx cI xa ++ [(oo, .inl (cL, 1, .inr (.inl kf)))]) sz)) 1 6 (va_A (wx cI xa ++ [(oo, .inl (cL, 1, .inr (.inl kf)))]) sz) := by
  refine vx_ofWH (cc := cL_made) (maxL := 4) (ret := (some .int)) (by decide) rfl ?_
  intro p e s m args below meth c s₁ B hml hv
  obtain ⟨rfl, hsz, hP, hK, hD0, hZ⟩ := hv
  have hx := B.exec
  have hb := B.bytes
  have hr := B.returns
  have hts := atoms_spec (ws := wsL_made) B.pre
  have hown : s.vm.findClass RL = some m.cls := findClass_of_methodNamed B.named
  have hlocks := B.notSynchronized
  subst hsz
  have hD := hD0.self (sz := s.heap.size)
  generalize hAe : va_A (wx cI xa ++ [(oo, .inl (cL, 1, .inr (.inl kf)))]) s.heap.size = A at hD hZ ⊢
  have hA : ∀ q : Nat, s.heap.size ≤ q → A q := fun q h => by rw [← hAe]; exact Or.inr h
  have hS : va_S A s.heap s.heap [] := va_S.rf
  have htab := vx_table (x := yL_made) B (hts _ (List.mem_cons_self))
  have hP : va_P (dC, dI) vwCl [(xa 0, .inr (4, [.ref (xa 1), .ref (xa 3), .ref (xa 5), .ref (xa 7), .ref (xa 16), .ref (xa 25), .int 3])), (xa 1, .inr (3, [.ref (xa 2), .int 0])), (xa 2, .inl (cI, 150, .inl (fun _ => 0))), (xa 3, .inr (3, [.ref (xa 4), .int 0])), (xa 4, .inl (cI, 150, .inl (fun _ => 0))), (xa 5, .inr (3, [.ref (xa 6), .int 0])), (xa 6, .inl (cI, 400, .inl (fun _ => 0))), (xa 7, .inr (1, [.ref (xa 8), .ref (xa 10), .ref (xa 12), .ref (xa 14), .int 0, .int 0])), (xa 8, .inr (3, [.ref (xa 9), .int 0])), (xa 9, .inl (cI, 150, .inl (fun _ => 0))), (xa 10, .inr (3, [.ref (xa 11), .int 0])), (xa 11, .inl (cI, 150, .inl (fun _ => 0))), (xa 12, .inr (3, [.ref (xa 13), .int 0])), (xa 13, .inl (cI, 150, .inl (fun _ => 0))), (xa 14, .inr (3, [.ref (xa 15), .int 0])), (xa 15, .inl (cI, 150, .inl (fun _ => 0))), (xa 16, .inr (2, [.ref (xa 17), .ref (xa 18), .ref (xa 19), .ref (xa 20), .ref (xa 21), .ref (xa 22), .ref (xa 23), .ref (xa 24)])), (xa 17, .inl (cI, 151, .inl (fun _ => 0))), (xa 18, .inl (cI, 151, .inl (fun _ => 0))), (xa 19, .inl (cI, 151, .inl (fun _ => 0))), (xa 20, .inl (cI, 151, .inl (fun _ => 0))), (xa 21, .inl (cI, 151, .inl (fun _ => 0))), (xa 22, .inl (cI, 151, .inl (fun _ => 0))), (xa 23, .inl (cI, 151, .inl (fun _ => 0))), (xa 24, .inl (cI, 151, .inl (fun _ => 0))), (xa 25, .inr (0, [.ref (xa 26), .int 0, .int 0, .int 0, .int (-1), .int 0, .int 0, .int 0])), (xa 26, .inr (3, [.ref (xa 27), .int 0])), (xa 27, .inl (cI, 300, .inl (fun _ => 0))), (oo, .inl (cL, 1, .inr (.inl kf)))] s.heap := hP
  have hl := lv_entry ([.ref (xa 0), .int p0, .ref oo]) (n := 4) (Nat.le_of_ble_eq_true rfl)
  rw [lg_entry_eq]
  generalize (lg_sl ([.ref (xa 0), .int p0, .ref oo]) ++ List.replicate (4 - (lg_sl ([.ref (xa 0), .int p0, .ref oo])).length) Slot.unset).toArray = ls at hl ⊢
  have hl : lv_has ls 4 [(0, .ref (xa 0)), (1, .int p0), (2, .ref oo)] := hl
  refine lv_aload_n hx hb dL_made_0 rfl (lv_at hl 2 rfl) ?_
  refine lv_iconst (v := 0) hx hb dL_made_1 (by decide) ?_
  refine lv_aload_n hx hb dL_made_2 rfl (lv_at hl 0 rfl) ?_
  refine lv_iload_n hx hb dL_made_3 rfl (lv_at hl 1 rfl) ?_
  have hPc := hP.sub (ws' := wx cI xa) [0, 1, 2, 3, 4, 5, 6, 7, 8, 9, 10, 11, 12, 13, 14, 15, 16, 17, 18, 19, 20, 21, 22, 23, 24, 25, 26, 27] rfl
  have hFc : ∀ q : Nat, s.heap.size ≤ q → A q := fun q h => hA q (Nat.le_trans hS.1 h)
  have hKc := hK.sub (tys' := [(cI, .int)]) [0] rfl
  refine vx_calli (vx_runV (As := [.int p0]) (rest := [.int 0, .ref oo]) ⟨hx, hb, hml, hown, hts⟩ (c_X4_made l hfl dC dI cI xa p0 s.heap.size) (cwV 1 hts gL_made_X4_made rfl rfl rfl (by decide +kernel) ⟨Nat.le_of_ble_eq_true rfl, Nat.le_of_ble_eq_true rfl⟩) ⟨fun a U g mk q => by obtain ⟨q0, q1, qP, qK, qD, qZ⟩ := q; exact ⟨q0, q1, qP, va_K.moved (u := U) (U := U.calling g mk a) (Vm.Alike.refl U.vm) qK, qD, qZ.call⟩, va_recv hKc hPc (ci := 4) (q0 := 0) rfl rfl, fun U hU hW => ⟨rfl, by rw [hU], by rw [hU]; exact hPc, va_K.moved hW.alike hKc, zz_D (hD.sub (ws' := wx cI xa) [0, 1, 2, 3, 4, 5, 6, 7, 8, 9, 10, 11, 12, 13, 14, 15, 16, 17, 18, 19, 20, 21, 22, 23, 24, 25, 26, 27] (by decide) rfl), hZ.go hS hFc hU hW⟩⟩ rfl rfl hl.1 rfl (lv_room (Nat.le_of_ble_eq_true rfl)) dL_made_4 ⟨(Nat.le_of_ble_eq_true rfl), (Nat.le_of_ble_eq_true rfl)⟩) hS (fun q h1 h2 => absurd h1 (Nat.not_lt.mpr h2)) hFc (fun q h1 h2 => absurd h1 (Nat.not_lt.mpr h2)) (fun E ce q9 u_690 t H1 locs ht hvm hw hB hz1 hk1 hS1 hce hcv hcl => ?_) (fun r_689 u_690 t H1 locs ht hvm hw hB hz1 hk1 hS1 => ?_)
  · skip
    have hP := zz_keep hP hk1
    have hS := hS1
    clear hS1
    generalize H1 = H at hP hS hce ht ⊢
    have hP : va_P (dC, dI) vwCl [(xa 0, .inr (4, [.ref (xa 1), .ref (xa 3), .ref (xa 5), .ref (xa 7), .ref (xa 16), .ref (xa 25), .int 3])), (xa 1, .inr (3, [.ref (xa 2), .int 0])), (xa 2, .inl (cI, 150, .inl (fun _ => 0))), (xa 3, .inr (3, [.ref (xa 4), .int 0])), (xa 4, .inl (cI, 150, .inl (fun _ => 0))), (xa 5, .inr (3, [.ref (xa 6), .int 0])), (xa 6, .inl (cI, 400, .inl (fun _ => 0))), (xa 7, .inr (1, [.ref (xa 8), .ref (xa 10), .ref (xa 12), .ref (xa 14), .int 0, .int 0])), (xa 8, .inr (3, [.ref (xa 9), .int 0])), (xa 9, .inl (cI, 150, .inl (fun _ => 0))), (xa 10, .inr (3, [.ref (xa 11), .int 0])), (xa 11, .inl (cI, 150, .inl (fun _ => 0))), (xa 12, .inr (3, [.ref (xa 13), .int 0])), (xa 13, .inl (cI, 150, .inl (fun _ => 0))), (xa 14, .inr (3, [.ref (xa 15), .int 0])), (xa 15, .inl (cI, 150, .inl (fun _ => 0))), (xa 16, .inr (2, [.ref (xa 17), .ref (xa 18), .ref (xa 19), .ref (xa 20), .ref (xa 21), .ref (xa 22), .ref (xa 23), .ref (xa 24)])), (xa 17, .inl (cI, 151, .inl (fun _ => 0))), (xa 18, .inl (cI, 151, .inl (fun _ => 0))), (xa 19, .inl (cI, 151, .inl (fun _ => 0))), (xa 20, .inl (cI, 151, .inl (fun _ => 0))), (xa 21, .inl (cI, 151, .inl (fun _ => 0))), (xa 22, .inl (cI, 151, .inl (fun _ => 0))), (xa 23, .inl (cI, 151, .inl (fun _ => 0))), (xa 24, .inl (cI, 151, .inl (fun _ => 0))), (xa 25, .inr (0, [.ref (xa 26), .int 0, .int 0, .int 0, .int (-1), .int 0, .int 0, .int 0])), (xa 26, .inr (3, [.ref (xa 27), .int 0])), (xa 27, .inl (cI, 300, .inl (fun _ => 0))), (oo, .inl (cL, 1, .inr (.inl kf)))] H := hP
    obtain rfl := hB
    refine vx_catch hown [] ⟨0, 9, 12, 17⟩ [⟨0, 9, 15, 13⟩] htab (fun z h => nomatch h) (by decide) (by decide) (hts (.classLink RL 17 "java/lang/IllegalStateException") (by decide +kernel)) (hZ.cast 2 rfl) hce hcv hcl ?_
    refine W.widen (k := 1) (n := 6) (by omega) (by omega) ?_
    refine lv_astore_n (lv' := [(3, .ref q9), (0, .ref (xa 0)), (1, .int p0), (2, .ref oo)]) hx hb dL_made_12 rfl hl (by decide) rfl (fun ls hl => ?_)
    refine lv_iconst (v := 1) hx hb dL_made_13 (by decide) ?_
    refine vx_ret ?_
    have hP9 := hP.sub (ws' := [(oo, .inl (cL, 1, .inr (.inl kf)))]) [28] rfl
    have hD9 := hD.sub (ws' := [(oo, .inl (cL, 1, .inr (.inl kf)))]) [28] (by decide) rfl
    exact W.iret (v := 1) hx hb hr (fun t ht hW => ⟨⟨1, kf, rfl, ⟨rfl, fun h => absurd h (by decide)⟩, ⟨by rw [ht]; exact hP9, hD9⟩⟩, hS.F ht⟩) hS.2.2 dL_made_14
  exact (show False from hw).elim
set_option maxHeartbeats 4000000 in
set_option maxRecDepth 100000 in
theorem c_L_ratio (l : Launch) (hfl : l.stackTraces = false) (dC : Nat → ClassId) (dI : Nat → Nat → Nat) (cI : ClassId) (cD : ClassId) (xa : Nat → Nat) (oo : Nat) (kf : Nat → UInt64) (sz : Nat) : vx_Met l yL_ratio wsL_ratio ({ frames := 8, cells := 1, slots := 6, locals := 131 }) (va_Pc [.ref (xa 0), .ref oo] (fun U => U.heap.size = sz ∧ va_P (dC, dI) vwCl (wx cI xa ++ [(oo, .inl (cD, 1, .inr (.inr (.inr (.inl kf)))))]) U.heap ∧ va_K (dC, dI) vwCl [(cI, .int), (cD, .double)] U ∧ va_D (fun _ => True) (wx cI xa ++ [(oo, .inl (cD, 1, .inr (.inr (.inr (.inl kf)))))]) ∧ zz_X (va_A (wx cI xa ++ [(oo, .inl (cD, 1, .inr (.inr (.inr (.inl kf)))))]) sz) U)) (va_Qi (fun (r : Int32) (kg : Nat → UInt64) => r = 1) (fun kg t => va_P (dC, dI) vwCl [(oo, .inl (cD, 1, .inr (.inr (.inr (.inl kg)))))] t.heap ∧ va_D (va_A (wx cI xa ++ [(oo, .inl (cD, 1, .inr (.inr (.inr (.inl kf)))))]) sz) [(oo, .inl (cD, 1, .inr (.inr (.inr (.inl kg)))))]) (va_A (wx cI xa ++ [(oo, .inl (cD, 1, .inr (.inr (.inr (.inl kf)))))]) sz)) (vx_X (fun _ : Unit => True) (fun E _ _ => False) (va_A (wx cI xa ++ [(oo, .inl (cD, 1, .inr (.inr (.inr (.inl kf)))))]) sz)) 1 6 (va_A (wx cI xa ++ [(oo, .inl (cD, 1, .inr (.inr (.inr (.inl kf)))))]) sz) := by
  refine vx_ofWH (cc := cL_ratio) (maxL := 3) (ret := (some .int)) (by decide) rfl ?_
  intro p e s m args below meth c s₁ B hml hv
  obtain ⟨rfl, hsz, hP, hK, hD0, hZ⟩ := hv
  have hx := B.exec
  have hb := B.bytes
  have hr := B.returns
  have hts := atoms_spec (ws := wsL_ratio) B.pre
  have hown : s.vm.findClass RL = some m.cls := findClass_of_methodNamed B.named
  have hlocks := B.notSynchronized
  subst hsz
  have hD := hD0.self (sz := s.heap.size)
  generalize hAe : va_A (wx cI xa ++ [(oo, .inl (cD, 1, .inr (.inr (.inr (.inl kf)))))]) s.heap.size = A at hD hZ ⊢
  have hA : ∀ q : Nat, s.heap.size ≤ q → A q := fun q h => by rw [← hAe]; exact Or.inr h
  have hS : va_S A s.heap s.heap [] := va_S.rf
  have htab := vx_table (x := yL_ratio) B (hts _ (List.mem_cons_self))
  have hP : va_P (dC, dI) vwCl [(xa 0, .inr (4, [.ref (xa 1), .ref (xa 3), .ref (xa 5), .ref (xa 7), .ref (xa 16), .ref (xa 25), .int 3])), (xa 1, .inr (3, [.ref (xa 2), .int 0])), (xa 2, .inl (cI, 150, .inl (fun _ => 0))), (xa 3, .inr (3, [.ref (xa 4), .int 0])), (xa 4, .inl (cI, 150, .inl (fun _ => 0))), (xa 5, .inr (3, [.ref (xa 6), .int 0])), (xa 6, .inl (cI, 400, .inl (fun _ => 0))), (xa 7, .inr (1, [.ref (xa 8), .ref (xa 10), .ref (xa 12), .ref (xa 14), .int 0, .int 0])), (xa 8, .inr (3, [.ref (xa 9), .int 0])), (xa 9, .inl (cI, 150, .inl (fun _ => 0))), (xa 10, .inr (3, [.ref (xa 11), .int 0])), (xa 11, .inl (cI, 150, .inl (fun _ => 0))), (xa 12, .inr (3, [.ref (xa 13), .int 0])), (xa 13, .inl (cI, 150, .inl (fun _ => 0))), (xa 14, .inr (3, [.ref (xa 15), .int 0])), (xa 15, .inl (cI, 150, .inl (fun _ => 0))), (xa 16, .inr (2, [.ref (xa 17), .ref (xa 18), .ref (xa 19), .ref (xa 20), .ref (xa 21), .ref (xa 22), .ref (xa 23), .ref (xa 24)])), (xa 17, .inl (cI, 151, .inl (fun _ => 0))), (xa 18, .inl (cI, 151, .inl (fun _ => 0))), (xa 19, .inl (cI, 151, .inl (fun _ => 0))), (xa 20, .inl (cI, 151, .inl (fun _ => 0))), (xa 21, .inl (cI, 151, .inl (fun _ => 0))), (xa 22, .inl (cI, 151, .inl (fun _ => 0))), (xa 23, .inl (cI, 151, .inl (fun _ => 0))), (xa 24, .inl (cI, 151, .inl (fun _ => 0))), (xa 25, .inr (0, [.ref (xa 26), .int 0, .int 0, .int 0, .int (-1), .int 0, .int 0, .int 0])), (xa 26, .inr (3, [.ref (xa 27), .int 0])), (xa 27, .inl (cI, 300, .inl (fun _ => 0))), (oo, .inl (cD, 1, .inr (.inr (.inr (.inl kf)))))] s.heap := hP
  have hl := lv_entry ([.ref (xa 0), .ref oo]) (n := 3) (Nat.le_of_ble_eq_true rfl)
  rw [lg_entry_eq]
  generalize (lg_sl ([.ref (xa 0), .ref oo]) ++ List.replicate (3 - (lg_sl ([.ref (xa 0), .ref oo])).length) Slot.unset).toArray = ls at hl ⊢
  have hl : lv_has ls 3 [(0, .ref (xa 0)), (1, .ref oo)] := hl
  refine lv_aload_n hx hb dL_ratio_0 rfl (lv_at hl 1 rfl) ?_
  refine lv_iconst (v := 0) hx hb dL_ratio_1 (by decide) ?_
  refine lv_aload_n hx hb dL_ratio_2 rfl (lv_at hl 0 rfl) ?_
  have hPc := hP.sub (ws' := wx cI xa) [0, 1, 2, 3, 4, 5, 6, 7, 8, 9, 10, 11, 12, 13, 14, 15, 16, 17, 18, 19, 20, 21, 22, 23, 24, 25, 26, 27] rfl
  have hFc : ∀ q : Nat, s.heap.size ≤ q → A q := fun q h => hA q (Nat.le_trans hS.1 h)
  have hKc := hK.sub (tys' := [(cI, .int)]) [0] rfl
  refine vx_calld (vx_runV (As := []) (rest := [.int 0, .ref oo]) ⟨hx, hb, hml, hown, hts⟩ (c_X4_ratio l hfl dC dI cI xa s.heap.size) (cwV 0 hts gL_ratio_X4_ratio rfl rfl rfl (by decide +kernel) ⟨Nat.le_of_ble_eq_true rfl, Nat.le_of_ble_eq_true rfl⟩) ⟨fun a U g mk q => by obtain ⟨q0, q1, qP, qK, qD, qZ⟩ := q; exact ⟨q0, q1, qP, va_K.moved (u := U) (U := U.calling g mk a) (Vm.Alike.refl U.vm) qK, qD, qZ.call⟩, va_recv hKc hPc (ci := 4) (q0 := 0) rfl rfl, fun U hU hW => ⟨rfl, by rw [hU], by rw [hU]; exact hPc, va_K.moved hW.alike hKc, zz_D (hD.sub (ws' := wx cI xa) [0, 1, 2, 3, 4, 5, 6, 7, 8, 9, 10, 11, 12, 13, 14, 15, 16, 17, 18, 19, 20, 21, 22, 23, 24, 25, 26, 27] (by decide) rfl), hZ.go hS hFc hU hW⟩⟩ rfl rfl hl.1 rfl (lv_room (Nat.le_of_ble_eq_true rfl)) dL_ratio_3 ⟨(Nat.le_of_ble_eq_true rfl), (Nat.le_of_ble_eq_true rfl)⟩) hS (fun q h1 h2 => absurd h1 (Nat.not_lt.mpr h2)) hFc (fun q h1 h2 => absurd h1 (Nat.not_lt.mpr h2)) (fun E ce q9 u_692 t H1 locs ht hvm hw hB hz1 hk1 hS1 hce hcv hcl => ?_) (fun r_691 u_692 t H1 locs ht hvm hw hB hz1 hk1 hS1 => ?_)
  · skip
    have hP := zz_keep hP hk1
    have hS := hS1
    clear hS1
    generalize H1 = H at hP hS hce ht ⊢
    have hP : va_P (dC, dI) vwCl [(xa 0, .inr (4, [.ref (xa 1), .ref (xa 3), .ref (xa 5), .ref (xa 7), .ref (xa 16), .ref (xa 25), .int 3])), (xa 1, .inr (3, [.ref (xa 2), .int 0])), (xa 2, .inl (cI, 150, .inl (fun _ => 0))), (xa 3, .inr (3, [.ref (xa 4), .int 0])), (xa 4, .inl (cI, 150, .inl (fun _ => 0))), (xa 5, .inr (3, [.ref (xa 6), .int 0])), (xa 6, .inl (cI, 400, .inl (fun _ => 0))), (xa 7, .inr (1, [.ref (xa 8), .ref (xa 10), .ref (xa 12), .ref (xa 14), .int 0, .int 0])), (xa 8, .inr (3, [.ref (xa 9), .int 0])), (xa 9, .inl (cI, 150, .inl (fun _ => 0))), (xa 10, .inr (3, [.ref (xa 11), .int 0])), (xa 11, .inl (cI, 150, .inl (fun _ => 0))), (xa 12, .inr (3, [.ref (xa 13), .int 0])), (xa 13, .inl (cI, 150, .inl (fun _ => 0))), (xa 14, .inr (3, [.ref (xa 15), .int 0])), (xa 15, .inl (cI, 150, .inl (fun _ => 0))), (xa 16, .inr (2, [.ref (xa 17), .ref (xa 18), .ref (xa 19), .ref (xa 20), .ref (xa 21), .ref (xa 22), .ref (xa 23), .ref (xa 24)])), (xa 17, .inl (cI, 151, .inl (fun _ => 0))), (xa 18, .inl (cI, 151, .inl (fun _ => 0))), (xa 19, .inl (cI, 151, .inl (fun _ => 0))), (xa 20, .inl (cI, 151, .inl (fun _ => 0))), (xa 21, .inl (cI, 151, .inl (fun _ => 0))), (xa 22, .inl (cI, 151, .inl (fun _ => 0))), (xa 23, .inl (cI, 151, .inl (fun _ => 0))), (xa 24, .inl (cI, 151, .inl (fun _ => 0))), (xa 25, .inr (0, [.ref (xa 26), .int 0, .int 0, .int 0, .int (-1), .int 0, .int 0, .int 0])), (xa 26, .inr (3, [.ref (xa 27), .int 0])), (xa 27, .inl (cI, 300, .inl (fun _ => 0))), (oo, .inl (cD, 1, .inr (.inr (.inr (.inl kf)))))] H := hP
    obtain rfl := hB
    refine vx_catch hown [] ⟨0, 7, 10, 17⟩ [] htab (fun z h => nomatch h) (by decide) (by decide) (hts (.classLink RL 17 "java/lang/IllegalStateException") (by decide +kernel)) (hZ.cast 2 rfl) hce hcv hcl ?_
    refine W.widen (k := 1) (n := 6) (by omega) (by omega) ?_
    refine lv_astore_n (lv' := [(2, .ref q9), (0, .ref (xa 0)), (1, .ref oo)]) hx hb dL_ratio_10 rfl hl (by decide) rfl (fun ls hl => ?_)
    refine lv_iconst (v := 1) hx hb dL_ratio_11 (by decide) ?_
    refine vx_ret ?_
    have hP9 := hP.sub (ws' := [(oo, .inl (cD, 1, .inr (.inr (.inr (.inl kf)))))]) [28] rfl
    have hD9 := hD.sub (ws' := [(oo, .inl (cD, 1, .inr (.inr (.inr (.inl kf)))))]) [28] (by decide) rfl
    exact W.iret (v := 1) hx hb hr (fun t ht hW => ⟨⟨1, kf, rfl, rfl, ⟨by rw [ht]; exact hP9, hD9⟩⟩, hS.F ht⟩) hS.2.2 dL_ratio_12
  exact (show False from hw).elim
set_option maxHeartbeats 4000000 in
set_option maxRecDepth 100000 in
theorem c_L_encode (l : Launch) (hfl : l.stackTraces = false) (dC : Nat → ClassId) (dI : Nat → Nat → Nat) (cI : ClassId) (cL : ClassId) (xa : Nat → Nat) (oo : Nat) (kf : Nat → Int64) (sz : Nat) : vx_Met l yL_encode wsL_encode ({ frames := 8, cells := 1, slots := 6, locals := 131 }) (va_Pc [.ref (xa 0), .ref oo] (fun U => U.heap.size = sz ∧ va_P (dC, dI) vwCl (wx cI xa ++ [(oo, .inl (cL, 1, .inr (.inl kf)))]) U.heap ∧ va_K (dC, dI) vwCl [(cI, .int), (cL, .long)] U ∧ va_D (fun _ => True) (wx cI xa ++ [(oo, .inl (cL, 1, .inr (.inl kf)))]) ∧ zz_X (va_A (wx cI xa ++ [(oo, .inl (cL, 1, .inr (.inl kf)))]) sz) U)) (va_Qi (fun (r : Int32) (kg : Nat → Int64) => r = 1 ∧ (r = 0 → kg 0 = 0)) (fun kg t => va_P (dC, dI) vwCl [(oo, .inl (cL, 1, .inr (.inl kg)))] t.heap ∧ va_D (va_A (wx cI xa ++ [(oo, .inl (cL, 1, .inr (.inl kf)))]) sz) [(oo, .inl (cL, 1, .inr (.inl kg)))]) (va_A (wx cI xa ++ [(oo, .inl (cL, 1, .inr (.inl kf)))]) sz)) (vx_X (fun _ : Unit => True) (fun E _ _ => False) (va_A (wx cI xa ++ [(oo, .inl (cL, 1, .inr (.inl kf)))]) sz)) 1 6 (va_A (wx cI xa ++ [(oo, .inl (cL, 1, .inr (.inl kf)))]) sz) := by
  refine vx_ofWH (cc := cL_encode) (maxL := 3) (ret := (some .int)) (by decide) rfl ?_
  intro p e s m args below meth c s₁ B hml hv
  obtain ⟨rfl, hsz, hP, hK, hD0, hZ⟩ := hv
  have hx := B.exec
  have hb := B.bytes
  have hr := B.returns
  have hts := atoms_spec (ws := wsL_encode) B.pre
  have hown : s.vm.findClass RL = some m.cls := findClass_of_methodNamed B.named
  have hlocks := B.notSynchronized
  subst hsz
  have hD := hD0.self (sz := s.heap.size)
  generalize hAe : va_A (wx cI xa ++ [(oo, .inl (cL, 1, .inr (.inl kf)))]) s.heap.size = A at hD hZ ⊢
  have hA : ∀ q : Nat, s.heap.size ≤ q → A q := fun q h => by rw [← hAe]; exact Or.inr h
  have hS : va_S A s.heap s.heap [] := va_S.rf
  have htab := vx_table (x := yL_encode) B (hts _ (List.mem_cons_self))
  have hP : va_P (dC, dI) vwCl [(xa 0, .inr (4, [.ref (xa 1), .ref (xa 3), .ref (xa 5), .ref (xa 7), .ref (xa 16), .ref (xa 25), .int 3])), (xa 1, .inr (3, [.ref (xa 2), .int 0])), (xa 2, .inl (cI, 150, .inl (fun _ => 0))), (xa 3, .inr (3, [.ref (xa 4), .int 0])), (xa 4, .inl (cI, 150, .inl (fun _ => 0))), (xa 5, .inr (3, [.ref (xa 6), .int 0])), (xa 6, .inl (cI, 400, .inl (fun _ => 0))), (xa 7, .inr (1, [.ref (xa 8), .ref (xa 10), .ref (xa 12), .ref (xa 14), .int 0, .int 0])), (xa 8, .inr (3, [.ref (xa 9), .int 0])), (xa 9, .inl (cI, 150, .inl (fun _ => 0))), (xa 10, .inr (3, [.ref (xa 11), .int 0])), (xa 11, .inl (cI, 150, .inl (fun _ => 0))), (xa 12, .inr (3, [.ref (xa 13), .int 0])), (xa 13, .inl (cI, 150, .inl (fun _ => 0))), (xa 14, .inr (3, [.ref (xa 15), .int 0])), (xa 15, .inl (cI, 150, .inl (fun _ => 0))), (xa 16, .inr (2, [.ref (xa 17), .ref (xa 18), .ref (xa 19), .ref (xa 20), .ref (xa 21), .ref (xa 22), .ref (xa 23), .ref (xa 24)])), (xa 17, .inl (cI, 151, .inl (fun _ => 0))), (xa 18, .inl (cI, 151, .inl (fun _ => 0))), (xa 19, .inl (cI, 151, .inl (fun _ => 0))), (xa 20, .inl (cI, 151, .inl (fun _ => 0))), (xa 21, .inl (cI, 151, .inl (fun _ => 0))), (xa 22, .inl (cI, 151, .inl (fun _ => 0))), (xa 23, .inl (cI, 151, .inl (fun _ => 0))), (xa 24, .inl (cI, 151, .inl (fun _ => 0))), (xa 25, .inr (0, [.ref (xa 26), .int 0, .int 0, .int 0, .int (-1), .int 0, .int 0, .int 0])), (xa 26, .inr (3, [.ref (xa 27), .int 0])), (xa 27, .inl (cI, 300, .inl (fun _ => 0))), (oo, .inl (cL, 1, .inr (.inl kf)))] s.heap := hP
  have hl := lv_entry ([.ref (xa 0), .ref oo]) (n := 3) (Nat.le_of_ble_eq_true rfl)
  rw [lg_entry_eq]
  generalize (lg_sl ([.ref (xa 0), .ref oo]) ++ List.replicate (3 - (lg_sl ([.ref (xa 0), .ref oo])).length) Slot.unset).toArray = ls at hl ⊢
  have hl : lv_has ls 3 [(0, .ref (xa 0)), (1, .ref oo)] := hl
  refine lv_aload_n hx hb dL_encode_0 rfl (lv_at hl 1 rfl) ?_
  refine lv_iconst (v := 0) hx hb dL_encode_1 (by decide) ?_
  refine lv_aload_n hx hb dL_encode_2 rfl (lv_at hl 0 rfl) ?_
  have hPc := hP.sub (ws' := wx cI xa) [0, 1, 2, 3, 4, 5, 6, 7, 8, 9, 10, 11, 12, 13, 14, 15, 16, 17, 18, 19, 20, 21, 22, 23, 24, 25, 26, 27] rfl
  have hFc : ∀ q : Nat, s.heap.size ≤ q → A q := fun q h => hA q (Nat.le_trans hS.1 h)
  have hKc := hK.sub (tys' := [(cI, .int)]) [0] rfl
  refine vx_calli (vx_runV (As := []) (rest := [.int 0, .ref oo]) ⟨hx, hb, hml, hown, hts⟩ (c_X4_encode l hfl dC dI cI xa s.heap.size) (cwV 0 hts gL_encode_X4_encode rfl rfl rfl (by decide +kernel) ⟨Nat.le_of_ble_eq_true rfl, Nat.le_of_ble_eq_true rfl⟩) ⟨fun a U g mk q => by obtain ⟨q0, q1, qP, qK, qD, qZ⟩ := q; exact ⟨q0, q1, qP, va_K.moved (u := U) (U := U.calling g mk a) (Vm.Alike.refl U.vm) qK, qD, qZ.call⟩, va_recv hKc hPc (ci := 4) (q0 := 0) rfl rfl, fun U hU hW => ⟨rfl, by rw [hU], by rw [hU]; exact hPc, va_K.moved hW.alike hKc, zz_D (hD.sub (ws' := wx cI xa) [0, 1, 2, 3, 4, 5, 6, 7, 8, 9, 10, 11, 12, 13, 14, 15, 16, 17, 18, 19, 20, 21, 22, 23, 24, 25, 26, 27] (by decide) rfl), hZ.go hS hFc hU hW⟩⟩ rfl rfl hl.1 rfl (lv_room (Nat.le_of_ble_eq_true rfl)) dL_encode_3 ⟨(Nat.le_of_ble_eq_true rfl), (Nat.le_of_ble_eq_true rfl)⟩) hS (fun q h1 h2 => absurd h1 (Nat.not_lt.mpr h2)) hFc (fun q h1 h2 => absurd h1 (Nat.not_lt.mpr h2)) (fun E ce q9 u_694 t H1 locs ht hvm hw hB hz1 hk1 hS1 hce hcv hcl => ?_) (fun r_693 u_694 t H1 locs ht hvm hw hB hz1 hk1 hS1 => ?_)
  · skip
    have hP := zz_keep hP hk1
    have hS := hS1
    clear hS1
    generalize H1 = H at hP hS hce ht ⊢
    have hP : va_P (dC, dI) vwCl [(xa 0, .inr (4, [.ref (xa 1), .ref (xa 3), .ref (xa 5), .ref (xa 7), .ref (xa 16), .ref (xa 25), .int 3])), (xa 1, .inr (3, [.ref (xa 2), .int 0])), (xa 2, .inl (cI, 150, .inl (fun _ => 0))), (xa 3, .inr (3, [.ref (xa 4), .int 0])), (xa 4, .inl (cI, 150, .inl (fun _ => 0))), (xa 5, .inr (3, [.ref (xa 6), .int 0])), (xa 6, .inl (cI, 400, .inl (fun _ => 0))), (xa 7, .inr (1, [.ref (xa 8), .ref (xa 10), .ref (xa 12), .ref (xa 14), .int 0, .int 0])), (xa 8, .inr (3, [.ref (xa 9), .int 0])), (xa 9, .inl (cI, 150, .inl (fun _ => 0))), (xa 10, .inr (3, [.ref (xa 11), .int 0])), (xa 11, .inl (cI, 150, .inl (fun _ => 0))), (xa 12, .inr (3, [.ref (xa 13), .int 0])), (xa 13, .inl (cI, 150, .inl (fun _ => 0))), (xa 14, .inr (3, [.ref (xa 15), .int 0])), (xa 15, .inl (cI, 150, .inl (fun _ => 0))), (xa 16, .inr (2, [.ref (xa 17), .ref (xa 18), .ref (xa 19), .ref (xa 20), .ref (xa 21), .ref (xa 22), .ref (xa 23), .ref (xa 24)])), (xa 17, .inl (cI, 151, .inl (fun _ => 0))), (xa 18, .inl (cI, 151, .inl (fun _ => 0))), (xa 19, .inl (cI, 151, .inl (fun _ => 0))), (xa 20, .inl (cI, 151, .inl (fun _ => 0))), (xa 21, .inl (cI, 151, .inl (fun _ => 0))), (xa 22, .inl (cI, 151, .inl (fun _ => 0))), (xa 23, .inl (cI, 151, .inl (fun _ => 0))), (xa 24, .inl (cI, 151, .inl (fun _ => 0))), (xa 25, .inr (0, [.ref (xa 26), .int 0, .int 0, .int 0, .int (-1), .int 0, .int 0, .int 0])), (xa 26, .inr (3, [.ref (xa 27), .int 0])), (xa 27, .inl (cI, 300, .inl (fun _ => 0))), (oo, .inl (cL, 1, .inr (.inl kf)))] H := hP
    obtain rfl := hB
    refine vx_catch hown [] ⟨0, 8, 11, 17⟩ [] htab (fun z h => nomatch h) (by decide) (by decide) (hts (.classLink RL 17 "java/lang/IllegalStateException") (by decide +kernel)) (hZ.cast 2 rfl) hce hcv hcl ?_
    refine W.widen (k := 1) (n := 6) (by omega) (by omega) ?_
    refine lv_astore_n (lv' := [(2, .ref q9), (0, .ref (xa 0)), (1, .ref oo)]) hx hb dL_encode_11 rfl hl (by decide) rfl (fun ls hl => ?_)
    refine lv_iconst (v := 1) hx hb dL_encode_12 (by decide) ?_
    refine vx_ret ?_
    have hP9 := hP.sub (ws' := [(oo, .inl (cL, 1, .inr (.inl kf)))]) [28] rfl
    have hD9 := hD.sub (ws' := [(oo, .inl (cL, 1, .inr (.inl kf)))]) [28] (by decide) rfl
    exact W.iret (v := 1) hx hb hr (fun t ht hW => ⟨⟨1, kf, rfl, ⟨rfl, fun h => absurd h (by decide)⟩, ⟨by rw [ht]; exact hP9, hD9⟩⟩, hS.F ht⟩) hS.2.2 dL_encode_13
  exact (show False from hw).elim
set_option maxHeartbeats 4000000 in
set_option maxRecDepth 100000 in
theorem c_L_code (l : Launch) (hfl : l.stackTraces = false) (dC : Nat → ClassId) (dI : Nat → Nat → Nat) (cI : ClassId) (cL : ClassId) (xa : Nat → Nat) (p0 : Int32) (oo : Nat) (kf : Nat → Int64) (sz : Nat) : vx_Met l yL_code wsL_code ({ frames := 8, cells := 1, slots := 6, locals := 132 }) (va_Pc [.ref (xa 0), .int p0, .ref oo] (fun U => U.heap.size = sz ∧ va_P (dC, dI) vwCl (wx cI xa ++ [(oo, .inl (cL, 1, .inr (.inl kf)))]) U.heap ∧ va_K (dC, dI) vwCl [(cI, .int), (cL, .long)] U ∧ va_D (fun _ => True) (wx cI xa ++ [(oo, .inl (cL, 1, .inr (.inl kf)))]) ∧ zz_X (va_A (wx cI xa ++ [(oo, .inl (cL, 1, .inr (.inl kf)))]) sz) U)) (va_Qi (fun (r : Int32) (kg : Nat → Int64) => r = 1 ∧ (r = 0 → kg 0 = 0)) (fun kg t => va_P (dC, dI) vwCl [(oo, .inl (cL, 1, .inr (.inl kg)))] t.heap ∧ va_D (va_A (wx cI xa ++ [(oo, .inl (cL, 1, .inr (.inl kf)))]) sz) [(oo, .inl (cL, 1, .inr (.inl kg)))]) (va_A (wx cI xa ++ [(oo, .inl (cL, 1, .inr (.inl kf)))]) sz)) (vx_X (fun _ : Unit => True) (fun E _ _ => False) (va_A (wx cI xa ++ [(oo, .inl (cL, 1, .inr (.inl kf)))]) sz)) 1 6 (va_A (wx cI xa ++ [(oo, .inl (cL, 1, .inr (.inl kf)))]) sz) := by
  refine vx_ofWH (cc := cL_code) (maxL := 4) (ret := (some .int)) (by decide) rfl ?_
  intro p e s m args below meth c s₁ B hml hv
  obtain ⟨rfl, hsz, hP, hK, hD0, hZ⟩ := hv
  have hx := B.exec
  have hb := B.bytes
  have hr := B.returns
  have hts := atoms_spec (ws := wsL_code) B.pre
  have hown : s.vm.findClass RL = some m.cls := findClass_of_methodNamed B.named
  have hlocks := B.notSynchronized
  subst hsz
  have hD := hD0.self (sz := s.heap.size)
  generalize hAe : va_A (wx cI xa ++ [(oo, .inl (cL, 1, .inr (.inl kf)))]) s.heap.size = A at hD hZ ⊢
  have hA : ∀ q : Nat, s.heap.size ≤ q → A q := fun q h => by rw [← hAe]; exact Or.inr h
  have hS : va_S A s.heap s.heap [] := va_S.rf
  have htab := vx_table (x := yL_code) B (hts _ (List.mem_cons_self))
  have hP : va_P (dC, dI) vwCl [(xa 0, .inr (4, [.ref (xa 1), .ref (xa 3), .ref (xa 5), .ref (xa 7), .ref (xa 16), .ref (xa 25), .int 3])), (xa 1, .inr (3, [.ref (xa 2), .int 0])), (xa 2, .inl (cI, 150, .inl (fun _ => 0))), (xa 3, .inr (3, [.ref (xa 4), .int 0])), (xa 4, .inl (cI, 150, .inl (fun _ => 0))), (xa 5, .inr (3, [.ref (xa 6), .int 0])), (xa 6, .inl (cI, 400, .inl (fun _ => 0))), (xa 7, .inr (1, [.ref (xa 8), .ref (xa 10), .ref (xa 12), .ref (xa 14), .int 0, .int 0])), (xa 8, .inr (3, [.ref (xa 9), .int 0])), (xa 9, .inl (cI, 150, .inl (fun _ => 0))), (xa 10, .inr (3, [.ref (xa 11), .int 0])), (xa 11, .inl (cI, 150, .inl (fun _ => 0))), (xa 12, .inr (3, [.ref (xa 13), .int 0])), (xa 13, .inl (cI, 150, .inl (fun _ => 0))), (xa 14, .inr (3, [.ref (xa 15), .int 0])), (xa 15, .inl (cI, 150, .inl (fun _ => 0))), (xa 16, .inr (2, [.ref (xa 17), .ref (xa 18), .ref (xa 19), .ref (xa 20), .ref (xa 21), .ref (xa 22), .ref (xa 23), .ref (xa 24)])), (xa 17, .inl (cI, 151, .inl (fun _ => 0))), (xa 18, .inl (cI, 151, .inl (fun _ => 0))), (xa 19, .inl (cI, 151, .inl (fun _ => 0))), (xa 20, .inl (cI, 151, .inl (fun _ => 0))), (xa 21, .inl (cI, 151, .inl (fun _ => 0))), (xa 22, .inl (cI, 151, .inl (fun _ => 0))), (xa 23, .inl (cI, 151, .inl (fun _ => 0))), (xa 24, .inl (cI, 151, .inl (fun _ => 0))), (xa 25, .inr (0, [.ref (xa 26), .int 0, .int 0, .int 0, .int (-1), .int 0, .int 0, .int 0])), (xa 26, .inr (3, [.ref (xa 27), .int 0])), (xa 27, .inl (cI, 300, .inl (fun _ => 0))), (oo, .inl (cL, 1, .inr (.inl kf)))] s.heap := hP
  have hl := lv_entry ([.ref (xa 0), .int p0, .ref oo]) (n := 4) (Nat.le_of_ble_eq_true rfl)
  rw [lg_entry_eq]
  generalize (lg_sl ([.ref (xa 0), .int p0, .ref oo]) ++ List.replicate (4 - (lg_sl ([.ref (xa 0), .int p0, .ref oo])).length) Slot.unset).toArray = ls at hl ⊢
  have hl : lv_has ls 4 [(0, .ref (xa 0)), (1, .int p0), (2, .ref oo)] := hl
  refine lv_aload_n hx hb dL_code_0 rfl (lv_at hl 2 rfl) ?_
  refine lv_iconst (v := 0) hx hb dL_code_1 (by decide) ?_
  refine lv_aload_n hx hb dL_code_2 rfl (lv_at hl 0 rfl) ?_
  refine lv_iload_n hx hb dL_code_3 rfl (lv_at hl 1 rfl) ?_
  have hPc := hP.sub (ws' := wx cI xa) [0, 1, 2, 3, 4, 5, 6, 7, 8, 9, 10, 11, 12, 13, 14, 15, 16, 17, 18, 19, 20, 21, 22, 23, 24, 25, 26, 27] rfl
  have hFc : ∀ q : Nat, s.heap.size ≤ q → A q := fun q h => hA q (Nat.le_trans hS.1 h)
  have hKc := hK.sub (tys' := [(cI, .int)]) [0] rfl
  refine vx_calli (vx_runV (As := [.int p0]) (rest := [.int 0, .ref oo]) ⟨hx, hb, hml, hown, hts⟩ (c_X4_code l hfl dC dI cI xa p0 s.heap.size) (cwV 1 hts gL_code_X4_code rfl rfl rfl (by decide +kernel) ⟨Nat.le_of_ble_eq_true rfl, Nat.le_of_ble_eq_true rfl⟩) ⟨fun a U g mk q => by obtain ⟨q0, q1, qP, qK, qD, qZ⟩ := q; exact ⟨q0, q1, qP, va_K.moved (u := U) (U := U.calling g mk a) (Vm.Alike.refl U.vm) qK, qD, qZ.call⟩, va_recv hKc hPc (ci := 4) (q0 := 0) rfl rfl, fun U hU hW => ⟨rfl, by rw [hU], by rw [hU]; exact hPc, va_K.moved hW.alike hKc, zz_D (hD.sub (ws' := wx cI xa) [0, 1, 2, 3, 4, 5, 6, 7, 8, 9, 10, 11, 12, 13, 14, 15, 16, 17, 18, 19, 20, 21, 22, 23, 24, 25, 26, 27] (by decide) rfl), hZ.go hS hFc hU hW⟩⟩ rfl rfl hl.1 rfl (lv_room (Nat.le_of_ble_eq_true rfl)) dL_code_4 ⟨(Nat.le_of_ble_eq_true rfl), (Nat.le_of_ble_eq_true rfl)⟩) hS (fun q h1 h2 => absurd h1 (Nat.not_lt.mpr h2)) hFc (fun q h1 h2 => absurd h1 (Nat.not_lt.mpr h2)) (fun E ce q9 u_696 t H1 locs ht hvm hw hB hz1 hk1 hS1 hce hcv hcl => ?_) (fun r_695 u_696 t H1 locs ht hvm hw hB hz1 hk1 hS1 => ?_)
  · skip
    have hP := zz_keep hP hk1
    have hS := hS1
    clear hS1
    generalize H1 = H at hP hS hce ht ⊢
    have hP : va_P (dC, dI) vwCl [(xa 0, .inr (4, [.ref (xa 1), .ref (xa 3), .ref (xa 5), .ref (xa 7), .ref (xa 16), .ref (xa 25), .int 3])), (xa 1, .inr (3, [.ref (xa 2), .int 0])), (xa 2, .inl (cI, 150, .inl (fun _ => 0))), (xa 3, .inr (3, [.ref (xa 4), .int 0])), (xa 4, .inl (cI, 150, .inl (fun _ => 0))), (xa 5, .inr (3, [.ref (xa 6), .int 0])), (xa 6, .inl (cI, 400, .inl (fun _ => 0))), (xa 7, .inr (1, [.ref (xa 8), .ref (xa 10), .ref (xa 12), .ref (xa 14), .int 0, .int 0])), (xa 8, .inr (3, [.ref (xa 9), .int 0])), (xa 9, .inl (cI, 150, .inl (fun _ => 0))), (xa 10, .inr (3, [.ref (xa 11), .int 0])), (xa 11, .inl (cI, 150, .inl (fun _ => 0))), (xa 12, .inr (3, [.ref (xa 13), .int 0])), (xa 13, .inl (cI, 150, .inl (fun _ => 0))), (xa 14, .inr (3, [.ref (xa 15), .int 0])), (xa 15, .inl (cI, 150, .inl (fun _ => 0))), (xa 16, .inr (2, [.ref (xa 17), .ref (xa 18), .ref (xa 19), .ref (xa 20), .ref (xa 21), .ref (xa 22), .ref (xa 23), .ref (xa 24)])), (xa 17, .inl (cI, 151, .inl (fun _ => 0))), (xa 18, .inl (cI, 151, .inl (fun _ => 0))), (xa 19, .inl (cI, 151, .inl (fun _ => 0))), (xa 20, .inl (cI, 151, .inl (fun _ => 0))), (xa 21, .inl (cI, 151, .inl (fun _ => 0))), (xa 22, .inl (cI, 151, .inl (fun _ => 0))), (xa 23, .inl (cI, 151, .inl (fun _ => 0))), (xa 24, .inl (cI, 151, .inl (fun _ => 0))), (xa 25, .inr (0, [.ref (xa 26), .int 0, .int 0, .int 0, .int (-1), .int 0, .int 0, .int 0])), (xa 26, .inr (3, [.ref (xa 27), .int 0])), (xa 27, .inl (cI, 300, .inl (fun _ => 0))), (oo, .inl (cL, 1, .inr (.inl kf)))] H := hP
    obtain rfl := hB
    refine vx_catch hown [] ⟨0, 9, 12, 13⟩ [] htab (fun z h => nomatch h) (by decide) (by decide) (hts (.classLink RL 13 "java/lang/IndexOutOfBoundsException") (by decide +kernel)) (hZ.cast 0 rfl) hce hcv hcl ?_
    refine W.widen (k := 1) (n := 6) (by omega) (by omega) ?_
    refine lv_astore_n (lv' := [(3, .ref q9), (0, .ref (xa 0)), (1, .int p0), (2, .ref oo)]) hx hb dL_code_12 rfl hl (by decide) rfl (fun ls hl => ?_)
    refine lv_iconst (v := 1) hx hb dL_code_13 (by decide) ?_
    refine vx_ret ?_
    have hP9 := hP.sub (ws' := [(oo, .inl (cL, 1, .inr (.inl kf)))]) [28] rfl
    have hD9 := hD.sub (ws' := [(oo, .inl (cL, 1, .inr (.inl kf)))]) [28] (by decide) rfl
    exact W.iret (v := 1) hx hb hr (fun t ht hW => ⟨⟨1, kf, rfl, ⟨rfl, fun h => absurd h (by decide)⟩, ⟨by rw [ht]; exact hP9, hD9⟩⟩, hS.F ht⟩) hS.2.2 dL_code_14
  exact (show False from hw).elim
set_option maxHeartbeats 4000000 in
set_option maxRecDepth 100000 in
theorem c_L_setCode (l : Launch) (hfl : l.stackTraces = false) (dC : Nat → ClassId) (dI : Nat → Nat → Nat) (cI : ClassId) (cL : ClassId) (xa : Nat → Nat) (p0 : Int32) (p1 : Int32) (oo : Nat) (kf : Nat → Int64) (sz : Nat) : vx_Met l yL_setCode wsL_setCode ({ frames := 8, cells := 1, slots := 6, locals := 135 }) (va_Pc [.ref (xa 0), .int p0, .int p1, .ref oo] (fun U => U.heap.size = sz ∧ va_P (dC, dI) vwCl (wx cI xa ++ [(oo, .inl (cL, 1, .inr (.inl kf)))]) U.heap ∧ va_K (dC, dI) vwCl [(cI, .int), (cL, .long)] U ∧ va_D (fun _ => True) (wx cI xa ++ [(oo, .inl (cL, 1, .inr (.inl kf)))]) ∧ zz_X (va_A (wx cI xa ++ [(oo, .inl (cL, 1, .inr (.inl kf)))]) sz) U)) (va_Qi (fun (r : Int32) (kg : Nat → Int64) => r = 1 ∧ (r = 0 → kg 0 = 0)) (fun kg t => va_P (dC, dI) vwCl [(oo, .inl (cL, 1, .inr (.inl kg)))] t.heap ∧ va_D (va_A (wx cI xa ++ [(oo, .inl (cL, 1, .inr (.inl kf)))]) sz) [(oo, .inl (cL, 1, .inr (.inl kg)))]) (va_A (wx cI xa ++ [(oo, .inl (cL, 1, .inr (.inl kf)))]) sz)) (vx_X (fun _ : Unit => True) (fun E _ _ => False) (va_A (wx cI xa ++ [(oo, .inl (cL, 1, .inr (.inl kf)))]) sz)) 1 6 (va_A (wx cI xa ++ [(oo, .inl (cL, 1, .inr (.inl kf)))]) sz) := by
  refine vx_ofWH (cc := cL_setCode) (maxL := 5) (ret := (some .int)) (by decide) rfl ?_
  intro p e s m args below meth c s₁ B hml hv
  obtain ⟨rfl, hsz, hP, hK, hD0, hZ⟩ := hv
  have hx := B.exec
  have hb := B.bytes
  have hr := B.returns
  have hts := atoms_spec (ws := wsL_setCode) B.pre
  have hown : s.vm.findClass RL = some m.cls := findClass_of_methodNamed B.named
  have hlocks := B.notSynchronized
  subst hsz
  have hD := hD0.self (sz := s.heap.size)
  generalize hAe : va_A (wx cI xa ++ [(oo, .inl (cL, 1, .inr (.inl kf)))]) s.heap.size = A at hD hZ ⊢
  have hA : ∀ q : Nat, s.heap.size ≤ q → A q := fun q h => by rw [← hAe]; exact Or.inr h
  have hS : va_S A s.heap s.heap [] := va_S.rf
  have htab := vx_table (x := yL_setCode) B (hts _ (List.mem_cons_self))
  have hP : va_P (dC, dI) vwCl [(xa 0, .inr (4, [.ref (xa 1), .ref (xa 3), .ref (xa 5), .ref (xa 7), .ref (xa 16), .ref (xa 25), .int 3])), (xa 1, .inr (3, [.ref (xa 2), .int 0])), (xa 2, .inl (cI, 150, .inl (fun _ => 0))), (xa 3, .inr (3, [.ref (xa 4), .int 0])), (xa 4, .inl (cI, 150, .inl (fun _ => 0))), (xa 5, .inr (3, [.ref (xa 6), .int 0])), (xa 6, .inl (cI, 400, .inl (fun _ => 0))), (xa 7, .inr (1, [.ref (xa 8), .ref (xa 10), .ref (xa 12), .ref (xa 14), .int 0, .int 0])), (xa 8, .inr (3, [.ref (xa 9), .int 0])), (xa 9, .inl (cI, 150, .inl (fun _ => 0))), (xa 10, .inr (3, [.ref (xa 11), .int 0])), (xa 11, .inl (cI, 150, .inl (fun _ => 0))), (xa 12, .inr (3, [.ref (xa 13), .int 0])), (xa 13, .inl (cI, 150, .inl (fun _ => 0))), (xa 14, .inr (3, [.ref (xa 15), .int 0])), (xa 15, .inl (cI, 150, .inl (fun _ => 0))), (xa 16, .inr (2, [.ref (xa 17), .ref (xa 18), .ref (xa 19), .ref (xa 20), .ref (xa 21), .ref (xa 22), .ref (xa 23), .ref (xa 24)])), (xa 17, .inl (cI, 151, .inl (fun _ => 0))), (xa 18, .inl (cI, 151, .inl (fun _ => 0))), (xa 19, .inl (cI, 151, .inl (fun _ => 0))), (xa 20, .inl (cI, 151, .inl (fun _ => 0))), (xa 21, .inl (cI, 151, .inl (fun _ => 0))), (xa 22, .inl (cI, 151, .inl (fun _ => 0))), (xa 23, .inl (cI, 151, .inl (fun _ => 0))), (xa 24, .inl (cI, 151, .inl (fun _ => 0))), (xa 25, .inr (0, [.ref (xa 26), .int 0, .int 0, .int 0, .int (-1), .int 0, .int 0, .int 0])), (xa 26, .inr (3, [.ref (xa 27), .int 0])), (xa 27, .inl (cI, 300, .inl (fun _ => 0))), (oo, .inl (cL, 1, .inr (.inl kf)))] s.heap := hP
  have hl := lv_entry ([.ref (xa 0), .int p0, .int p1, .ref oo]) (n := 5) (Nat.le_of_ble_eq_true rfl)
  rw [lg_entry_eq]
  generalize (lg_sl ([.ref (xa 0), .int p0, .int p1, .ref oo]) ++ List.replicate (5 - (lg_sl ([.ref (xa 0), .int p0, .int p1, .ref oo])).length) Slot.unset).toArray = ls at hl ⊢
  have hl : lv_has ls 5 [(0, .ref (xa 0)), (1, .int p0), (2, .int p1), (3, .ref oo)] := hl
  refine lv_aload_n hx hb dL_setCode_0 rfl (lv_at hl 3 rfl) ?_
  refine lv_iconst (v := 0) hx hb dL_setCode_1 (by decide) ?_
  refine lv_aload_n hx hb dL_setCode_2 rfl (lv_at hl 0 rfl) ?_
  refine lv_iload_n hx hb dL_setCode_3 rfl (lv_at hl 1 rfl) ?_
  refine lv_iload_n hx hb dL_setCode_4 rfl (lv_at hl 2 rfl) ?_
  have hPc := hP.sub (ws' := wx cI xa) [0, 1, 2, 3, 4, 5, 6, 7, 8, 9, 10, 11, 12, 13, 14, 15, 16, 17, 18, 19, 20, 21, 22, 23, 24, 25, 26, 27] rfl
  have hFc : ∀ q : Nat, s.heap.size ≤ q → A q := fun q h => hA q (Nat.le_trans hS.1 h)
  have hKc := hK.sub (tys' := [(cI, .int)]) [0] rfl
  refine vx_calli (vx_runV (As := [.int p0, .int p1]) (rest := [.int 0, .ref oo]) ⟨hx, hb, hml, hown, hts⟩ (c_X4_setCode l hfl dC dI cI xa p0 p1 s.heap.size) (cwV 2 hts gL_setCode_X4_setCode rfl rfl rfl (by decide +kernel) ⟨Nat.le_of_ble_eq_true rfl, Nat.le_of_ble_eq_true rfl⟩) ⟨fun a U g mk q => by obtain ⟨q0, q1, qP, qK, qD, qZ⟩ := q; exact ⟨q0, q1, qP, va_K.moved (u := U) (U := U.calling g mk a) (Vm.Alike.refl U.vm) qK, qD, qZ.call⟩, va_recv hKc hPc (ci := 4) (q0 := 0) rfl rfl, fun U hU hW => ⟨rfl, by rw [hU], by rw [hU]; exact hPc, va_K.moved hW.alike hKc, zz_D (hD.sub (ws' := wx cI xa) [0, 1, 2, 3, 4, 5, 6, 7, 8, 9, 10, 11, 12, 13, 14, 15, 16, 17, 18, 19, 20, 21, 22, 23, 24, 25, 26, 27] (by decide) rfl), hZ.go hS hFc hU hW⟩⟩ rfl rfl hl.1 rfl (lv_room (Nat.le_of_ble_eq_true rfl)) dL_setCode_5 ⟨(Nat.le_of_ble_eq_true rfl), (Nat.le_of_ble_eq_true rfl)⟩) hS (fun q h1 h2 => absurd h1 (Nat.not_lt.mpr h2)) hFc (fun q h1 h2 => absurd h1 (Nat.not_lt.mpr h2)) (fun E ce q9 u_698 t H1 locs ht hvm hw hB hz1 hk1 hS1 hce hcv hcl => ?_) (fun r_697 u_698 t H1 locs ht hvm hw hB hz1 hk1 hS1 => ?_)
  · skip
    have hP := zz_keep hP hk1
    have hS := hS1
    clear hS1
    generalize H1 = H at hP hS hce ht ⊢
    have hP : va_P (dC, dI) vwCl [(xa 0, .inr (4, [.ref (xa 1), .ref (xa 3), .ref (xa 5), .ref (xa 7), .ref (xa 16), .ref (xa 25), .int 3])), (xa 1, .inr (3, [.ref (xa 2), .int 0])), (xa 2, .inl (cI, 150, .inl (fun _ => 0))), (xa 3, .inr (3, [.ref (xa 4), .int 0])), (xa 4, .inl (cI, 150, .inl (fun _ => 0))), (xa 5, .inr (3, [.ref (xa 6), .int 0])), (xa 6, .inl (cI, 400, .inl (fun _ => 0))), (xa 7, .inr (1, [.ref (xa 8), .ref (xa 10), .ref (xa 12), .ref (xa 14), .int 0, .int 0])), (xa 8, .inr (3, [.ref (xa 9), .int 0])), (xa 9, .inl (cI, 150, .inl (fun _ => 0))), (xa 10, .inr (3, [.ref (xa 11), .int 0])), (xa 11, .inl (cI, 150, .inl (fun _ => 0))), (xa 12, .inr (3, [.ref (xa 13), .int 0])), (xa 13, .inl (cI, 150, .inl (fun _ => 0))), (xa 14, .inr (3, [.ref (xa 15), .int 0])), (xa 15, .inl (cI, 150, .inl (fun _ => 0))), (xa 16, .inr (2, [.ref (xa 17), .ref (xa 18), .ref (xa 19), .ref (xa 20), .ref (xa 21), .ref (xa 22), .ref (xa 23), .ref (xa 24)])), (xa 17, .inl (cI, 151, .inl (fun _ => 0))), (xa 18, .inl (cI, 151, .inl (fun _ => 0))), (xa 19, .inl (cI, 151, .inl (fun _ => 0))), (xa 20, .inl (cI, 151, .inl (fun _ => 0))), (xa 21, .inl (cI, 151, .inl (fun _ => 0))), (xa 22, .inl (cI, 151, .inl (fun _ => 0))), (xa 23, .inl (cI, 151, .inl (fun _ => 0))), (xa 24, .inl (cI, 151, .inl (fun _ => 0))), (xa 25, .inr (0, [.ref (xa 26), .int 0, .int 0, .int 0, .int (-1), .int 0, .int 0, .int 0])), (xa 26, .inr (3, [.ref (xa 27), .int 0])), (xa 27, .inl (cI, 300, .inl (fun _ => 0))), (oo, .inl (cL, 1, .inr (.inl kf)))] H := hP
    obtain rfl := hB
    refine vx_catch hown [] ⟨0, 10, 13, 13⟩ [⟨0, 10, 17, 15⟩] htab (fun z h => nomatch h) (by decide) (by decide) (hts (.classLink RL 13 "java/lang/IndexOutOfBoundsException") (by decide +kernel)) (hZ.cast 0 rfl) hce hcv hcl ?_
    refine W.widen (k := 1) (n := 6) (by omega) (by omega) ?_
    refine lv_astore (lv' := [(4, .ref q9), (0, .ref (xa 0)), (1, .int p0), (2, .int p1), (3, .ref oo)]) hx hb dL_setCode_13 hl (by decide) rfl (fun ls hl => ?_)
    refine lv_iconst (v := 1) hx hb dL_setCode_15 (by decide) ?_
    refine vx_ret ?_
    have hP9 := hP.sub (ws' := [(oo, .inl (cL, 1, .inr (.inl kf)))]) [28] rfl
    have hD9 := hD.sub (ws' := [(oo, .inl (cL, 1, .inr (.inl kf)))]) [28] (by decide) rfl
    exact W.iret (v := 1) hx hb hr (fun t ht hW => ⟨⟨1, kf, rfl, ⟨rfl, fun h => absurd h (by decide)⟩, ⟨by rw [ht]; exact hP9, hD9⟩⟩, hS.F ht⟩) hS.2.2 dL_setCode_16
  exact (show False from hw).elim
set_option maxHeartbeats 4000000 in
set_option maxRecDepth 100000 in
theorem c_L_cutCode (l : Launch) (hfl : l.stackTraces = false) (dC : Nat → ClassId) (dI : Nat → Nat → Nat) (cI : ClassId) (cL : ClassId) (xa : Nat → Nat) (p0 : Int32) (oo : Nat) (kf : Nat → Int64) (sz : Nat) : vx_Met l yL_cutCode wsL_cutCode ({ frames := 8, cells := 1, slots := 6, locals := 133 }) (va_Pc [.ref (xa 0), .int p0, .ref oo] (fun U => U.heap.size = sz ∧ va_P (dC, dI) vwCl (wx cI xa ++ [(oo, .inl (cL, 1, .inr (.inl kf)))]) U.heap ∧ va_K (dC, dI) vwCl [(cI, .int), (cL, .long)] U ∧ va_D (fun _ => True) (wx cI xa ++ [(oo, .inl (cL, 1, .inr (.inl kf)))]) ∧ zz_X (va_A (wx cI xa ++ [(oo, .inl (cL, 1, .inr (.inl kf)))]) sz) U)) (va_Qi (fun (r : Int32) (kg : Nat → Int64) => r = zf_in 0 0 p0 ∧ (r = 0 → kg 0 = 0)) (fun kg t => va_P (dC, dI) vwCl [(oo, .inl (cL, 1, .inr (.inl kg)))] t.heap ∧ va_D (va_A (wx cI xa ++ [(oo, .inl (cL, 1, .inr (.inl kf)))]) sz) [(oo, .inl (cL, 1, .inr (.inl kg)))]) (va_A (wx cI xa ++ [(oo, .inl (cL, 1, .inr (.inl kf)))]) sz)) (vx_X (fun _ : Unit => True) (fun E _ _ => False) (va_A (wx cI xa ++ [(oo, .inl (cL, 1, .inr (.inl kf)))]) sz)) 1 6 (va_A (wx cI xa ++ [(oo, .inl (cL, 1, .inr (.inl kf)))]) sz) := by
  refine vx_ofWH (cc := cL_cutCode) (maxL := 4) (ret := (some .int)) (by decide) rfl ?_
  intro p e s m args below meth c s₁ B hml hv
  obtain ⟨rfl, hsz, hP, hK, hD0, hZ⟩ := hv
  have hx := B.exec
  have hb := B.bytes
  have hr := B.returns
  have hts := atoms_spec (ws := wsL_cutCode) B.pre
  have hown : s.vm.findClass RL = some m.cls := findClass_of_methodNamed B.named
  have hlocks := B.notSynchronized
  subst hsz
  have hD := hD0.self (sz := s.heap.size)
  generalize hAe : va_A (wx cI xa ++ [(oo, .inl (cL, 1, .inr (.inl kf)))]) s.heap.size = A at hD hZ ⊢
  have hA : ∀ q : Nat, s.heap.size ≤ q → A q := fun q h => by rw [← hAe]; exact Or.inr h
  have hS : va_S A s.heap s.heap [] := va_S.rf
  have htab := vx_table (x := yL_cutCode) B (hts _ (List.mem_cons_self))
  have hP : va_P (dC, dI) vwCl [(xa 0, .inr (4, [.ref (xa 1), .ref (xa 3), .ref (xa 5), .ref (xa 7), .ref (xa 16), .ref (xa 25), .int 3])), (xa 1, .inr (3, [.ref (xa 2), .int 0])), (xa 2, .inl (cI, 150, .inl (fun _ => 0))), (xa 3, .inr (3, [.ref (xa 4), .int 0])), (xa 4, .inl (cI, 150, .inl (fun _ => 0))), (xa 5, .inr (3, [.ref (xa 6), .int 0])), (xa 6, .inl (cI, 400, .inl (fun _ => 0))), (xa 7, .inr (1, [.ref (xa 8), .ref (xa 10), .ref (xa 12), .ref (xa 14), .int 0, .int 0])), (xa 8, .inr (3, [.ref (xa 9), .int 0])), (xa 9, .inl (cI, 150, .inl (fun _ => 0))), (xa 10, .inr (3, [.ref (xa 11), .int 0])), (xa 11, .inl (cI, 150, .inl (fun _ => 0))), (xa 12, .inr (3, [.ref (xa 13), .int 0])), (xa 13, .inl (cI, 150, .inl (fun _ => 0))), (xa 14, .inr (3, [.ref (xa 15), .int 0])), (xa 15, .inl (cI, 150, .inl (fun _ => 0))), (xa 16, .inr (2, [.ref (xa 17), .ref (xa 18), .ref (xa 19), .ref (xa 20), .ref (xa 21), .ref (xa 22), .ref (xa 23), .ref (xa 24)])), (xa 17, .inl (cI, 151, .inl (fun _ => 0))), (xa 18, .inl (cI, 151, .inl (fun _ => 0))), (xa 19, .inl (cI, 151, .inl (fun _ => 0))), (xa 20, .inl (cI, 151, .inl (fun _ => 0))), (xa 21, .inl (cI, 151, .inl (fun _ => 0))), (xa 22, .inl (cI, 151, .inl (fun _ => 0))), (xa 23, .inl (cI, 151, .inl (fun _ => 0))), (xa 24, .inl (cI, 151, .inl (fun _ => 0))), (xa 25, .inr (0, [.ref (xa 26), .int 0, .int 0, .int 0, .int (-1), .int 0, .int 0, .int 0])), (xa 26, .inr (3, [.ref (xa 27), .int 0])), (xa 27, .inl (cI, 300, .inl (fun _ => 0))), (oo, .inl (cL, 1, .inr (.inl kf)))] s.heap := hP
  have hl := lv_entry ([.ref (xa 0), .int p0, .ref oo]) (n := 4) (Nat.le_of_ble_eq_true rfl)
  rw [lg_entry_eq]
  generalize (lg_sl ([.ref (xa 0), .int p0, .ref oo]) ++ List.replicate (4 - (lg_sl ([.ref (xa 0), .int p0, .ref oo])).length) Slot.unset).toArray = ls at hl ⊢
  have hl : lv_has ls 4 [(0, .ref (xa 0)), (1, .int p0), (2, .ref oo)] := hl
  refine lv_aload_n hx hb dL_cutCode_0 rfl (lv_at hl 2 rfl) ?_
  refine lv_iconst (v := 0) hx hb dL_cutCode_1 (by decide) ?_
  refine lv_aload_n hx hb dL_cutCode_2 rfl (lv_at hl 0 rfl) ?_
  refine lv_iload_n hx hb dL_cutCode_3 rfl (lv_at hl 1 rfl) ?_
  have hPc := hP.sub (ws' := wx cI xa) [0, 1, 2, 3, 4, 5, 6, 7, 8, 9, 10, 11, 12, 13, 14, 15, 16, 17, 18, 19, 20, 21, 22, 23, 24, 25, 26, 27] rfl
  have hDc := hD.sub (ws' := wx cI xa) [0, 1, 2, 3, 4, 5, 6, 7, 8, 9, 10, 11, 12, 13, 14, 15, 16, 17, 18, 19, 20, 21, 22, 23, 24, 25, 26, 27] (by decide) rfl
  have hFc := va_free (wc := wx cI xa) hD hS hA [0, 1, 2, 3, 4, 5, 6, 7, 8, 9, 10, 11, 12, 13, 14, 15, 16, 17, 18, 19, 20, 21, 22, 23, 24, 25, 26, 27] rfl
  have hKc := hK.sub (tys' := [(cI, .int)]) [0] rfl
  refine vx_calli (vx_runV (As := [.int p0]) (rest := [.int 0, .ref oo]) ⟨hx, hb, hml, hown, hts⟩ (c_X4_cutCode l hfl dC dI cI xa p0 s.heap.size) (cwV 1 hts gL_cutCode_X4_cutCode rfl rfl rfl (by decide +kernel) ⟨Nat.le_of_ble_eq_true rfl, Nat.le_of_ble_eq_true rfl⟩) ⟨fun a U g mk q => by obtain ⟨q0, q1, qP, qK, qD, qZ⟩ := q; exact ⟨q0, q1, qP, va_K.moved (u := U) (U := U.calling g mk a) (Vm.Alike.refl U.vm) qK, qD, qZ.call⟩, va_recv hKc hPc (ci := 4) (q0 := 0) rfl rfl, fun U hU hW => ⟨rfl, by rw [hU], by rw [hU]; exact hPc, va_K.moved hW.alike hKc, zz_D hDc, hZ.go hS hFc hU hW⟩⟩ rfl rfl hl.1 rfl (lv_room (Nat.le_of_ble_eq_true rfl)) dL_cutCode_4 ⟨(Nat.le_of_ble_eq_true rfl), (Nat.le_of_ble_eq_true rfl)⟩) hS (fun q _ h => hFc q h) hFc (fun q _ h => hFc q h) (fun E ce q9 u_700 t H1 locs ht hvm hw hB hz1 hk1 hS1 hce hcv hcl => ?_) (fun r_699 u_700 t H1 locs ht hvm hw hB hz1 hk1 hS1 => ?_)
  · skip
    obtain ⟨hP, hD⟩ := va_join (wr := [(oo, .inl (cL, 1, .inr (.inl kf)))]) (w1 := []) hP hD [0, 1, 2, 3, 4, 5, 6, 7, 8, 9, 10, 11, 12, 13, 14, 15, 16, 17, 18, 19, 20, 21, 22, 23, 24, 25, 26, 27] [28] rfl rfl (by decide) (by decide) hk1 hFc zz_P0 zz_D0
    have hS := hS1
    clear hS1
    generalize H1 = H at hP hS hce ht ⊢
    have hP : va_P (dC, dI) vwCl [(oo, .inl (cL, 1, .inr (.inl kf)))] H := hP
    obtain ⟨rfl, hz⟩ := hB
    refine vx_catch hown [] ⟨0, 9, 12, 15⟩ [] htab (fun z h => nomatch h) (by decide) (by decide) (hts (.classLink RL 15 "java/lang/IllegalArgumentException") (by decide +kernel)) (hZ.cast 1 rfl) hce hcv hcl ?_
    refine W.widen (k := 1) (n := 6) (by omega) (by omega) ?_
    refine lv_astore_n (lv' := [(3, .ref q9), (0, .ref (xa 0)), (1, .int p0), (2, .ref oo)]) hx hb dL_cutCode_12 rfl hl (by decide) rfl (fun ls hl => ?_)
    refine lv_iconst (v := 1) hx hb dL_cutCode_13 (by decide) ?_
    refine vx_ret ?_
    have hP9 := hP.sub (ws' := [(oo, .inl (cL, 1, .inr (.inl kf)))]) [0] rfl
    have hD9 := hD.sub (ws' := [(oo, .inl (cL, 1, .inr (.inl kf)))]) [0] (by decide) rfl
    exact W.iret (v := 1) hx hb hr (fun t ht hW => ⟨⟨1, kf, rfl, ⟨hz.symm, fun h => absurd h (by decide)⟩, ⟨by rw [ht]; exact hP9, hD9⟩⟩, hS.F ht⟩) hS.2.2 dL_cutCode_14
  obtain ⟨hP, hD⟩ := va_join (wr := [(oo, .inl (cL, 1, .inr (.inl kf)))]) (w1 := []) hP hD [0, 1, 2, 3, 4, 5, 6, 7, 8, 9, 10, 11, 12, 13, 14, 15, 16, 17, 18, 19, 20, 21, 22, 23, 24, 25, 26, 27] [28] rfl rfl (by decide) (by decide) hk1 hFc zz_P0 zz_D0
  have hS := hS1
  clear hS1
  generalize H1 = H at hP hS ht ⊢
  have hP : va_P (dC, dI) vwCl [(oo, .inl (cL, 1, .inr (.inl kf)))] H := hP
  have hD : va_D A [(oo, .inl (cL, 1, .inr (.inl kf)))] := hD
  refine W.widen (k := 1) (n := 6) (by omega) (by omega) ?_
  obtain ⟨hrv, hw⟩ := hw
  obtain rfl : 0 = r_699 := hrv.symm
  have w4 := hw
  refine lv_i2l (v := 0) hx hb dL_cutCode_7 (by decide) ?_
  refine va_last hx hb hK hP hD hS 0 1 rfl rfl (by unfold vp_in; decide) dL_cutCode_8 (fun H locs hP hD hS => ?_)
  obtain ⟨f_701, ef_701⟩ : ∃ g, g = vp_updL kf (0 : Int32).toNatClampNeg 0 := ⟨_, rfl⟩
  rw [← ef_701] at hP hD
  have hP : va_P (dC, dI) vwCl [(oo, .inl (cL, 1, .inr (.inl f_701)))] H := hP
  have hD : va_D A [(oo, .inl (cL, 1, .inr (.inl f_701)))] := hD
  refine lv_goto (tgt := 15) hx hb dL_cutCode_9 (by decide) ?_
  refine lv_iconst (v := 0) hx hb dL_cutCode_15 (by decide) ?_
  refine vx_ret ?_
  have hP9 := hP.sub (ws' := [(oo, .inl (cL, 1, .inr (.inl f_701)))]) [0] rfl
  have hD9 := hD.sub (ws' := [(oo, .inl (cL, 1, .inr (.inl f_701)))]) [0] (by decide) rfl
  exact W.iret (v := 0) hx hb hr (fun t ht hW => ⟨⟨0, f_701, rfl, ⟨w4.symm, fun _ => by rw [ef_701]; rfl⟩, ⟨by rw [ht]; exact hP9, hD9⟩⟩, hS.F ht⟩) hS.2.2 dL_cutCode_16
set_option maxHeartbeats 4000000 in
set_option maxRecDepth 100000 in
theorem c_L_appendCode (l : Launch) (hfl : l.stackTraces = false) (dC : Nat → ClassId) (dI : Nat → Nat → Nat) (cI : ClassId) (cL : ClassId) (xa : Nat → Nat) (p0 : Int32) (oo : Nat) (kf : Nat → Int64) (sz : Nat) : vx_Met l yL_appendCode wsL_appendCode ({ frames := 8, cells := 1, slots := 6, locals := 133 }) (va_Pc [.ref (xa 0), .int p0, .ref oo] (fun U => U.heap.size = sz ∧ va_P (dC, dI) vwCl (wx cI xa ++ [(oo, .inl (cL, 1, .inr (.inl kf)))]) U.heap ∧ va_K (dC, dI) vwCl [(cI, .int), (cL, .long)] U ∧ va_D (fun _ => True) (wx cI xa ++ [(oo, .inl (cL, 1, .inr (.inl kf)))]) ∧ zz_X (va_A (wx cI xa ++ [(oo, .inl (cL, 1, .inr (.inl kf)))]) sz) U)) (va_Qi (fun (r : Int32) (kg : Nat → Int64) => r = zf_in 0 255 p0 ∧ (r = 0 → kg 0 = 1)) (fun kg t => va_P (dC, dI) vwCl [(oo, .inl (cL, 1, .inr (.inl kg)))] t.heap ∧ va_D (va_A (wx cI xa ++ [(oo, .inl (cL, 1, .inr (.inl kf)))]) sz) [(oo, .inl (cL, 1, .inr (.inl kg)))]) (va_A (wx cI xa ++ [(oo, .inl (cL, 1, .inr (.inl kf)))]) sz)) (vx_X (fun _ : Unit => True) (fun E _ _ => False) (va_A (wx cI xa ++ [(oo, .inl (cL, 1, .inr (.inl kf)))]) sz)) 1 6 (va_A (wx cI xa ++ [(oo, .inl (cL, 1, .inr (.inl kf)))]) sz) := by
  refine vx_ofWH (cc := cL_appendCode) (maxL := 4) (ret := (some .int)) (by decide) rfl ?_
  intro p e s m args below meth c s₁ B hml hv
  obtain ⟨rfl, hsz, hP, hK, hD0, hZ⟩ := hv
  have hx := B.exec
  have hb := B.bytes
  have hr := B.returns
  have hts := atoms_spec (ws := wsL_appendCode) B.pre
  have hown : s.vm.findClass RL = some m.cls := findClass_of_methodNamed B.named
  have hlocks := B.notSynchronized
  subst hsz
  have hD := hD0.self (sz := s.heap.size)
  generalize hAe : va_A (wx cI xa ++ [(oo, .inl (cL, 1, .inr (.inl kf)))]) s.heap.size = A at hD hZ ⊢
  have hA : ∀ q : Nat, s.heap.size ≤ q → A q := fun q h => by rw [← hAe]; exact Or.inr h
  have hS : va_S A s.heap s.heap [] := va_S.rf
  have htab := vx_table (x := yL_appendCode) B (hts _ (List.mem_cons_self))
  have hP : va_P (dC, dI) vwCl [(xa 0, .inr (4, [.ref (xa 1), .ref (xa 3), .ref (xa 5), .ref (xa 7), .ref (xa 16), .ref (xa 25), .int 3])), (xa 1, .inr (3, [.ref (xa 2), .int 0])), (xa 2, .inl (cI, 150, .inl (fun _ => 0))), (xa 3, .inr (3, [.ref (xa 4), .int 0])), (xa 4, .inl (cI, 150, .inl (fun _ => 0))), (xa 5, .inr (3, [.ref (xa 6), .int 0])), (xa 6, .inl (cI, 400, .inl (fun _ => 0))), (xa 7, .inr (1, [.ref (xa 8), .ref (xa 10), .ref (xa 12), .ref (xa 14), .int 0, .int 0])), (xa 8, .inr (3, [.ref (xa 9), .int 0])), (xa 9, .inl (cI, 150, .inl (fun _ => 0))), (xa 10, .inr (3, [.ref (xa 11), .int 0])), (xa 11, .inl (cI, 150, .inl (fun _ => 0))), (xa 12, .inr (3, [.ref (xa 13), .int 0])), (xa 13, .inl (cI, 150, .inl (fun _ => 0))), (xa 14, .inr (3, [.ref (xa 15), .int 0])), (xa 15, .inl (cI, 150, .inl (fun _ => 0))), (xa 16, .inr (2, [.ref (xa 17), .ref (xa 18), .ref (xa 19), .ref (xa 20), .ref (xa 21), .ref (xa 22), .ref (xa 23), .ref (xa 24)])), (xa 17, .inl (cI, 151, .inl (fun _ => 0))), (xa 18, .inl (cI, 151, .inl (fun _ => 0))), (xa 19, .inl (cI, 151, .inl (fun _ => 0))), (xa 20, .inl (cI, 151, .inl (fun _ => 0))), (xa 21, .inl (cI, 151, .inl (fun _ => 0))), (xa 22, .inl (cI, 151, .inl (fun _ => 0))), (xa 23, .inl (cI, 151, .inl (fun _ => 0))), (xa 24, .inl (cI, 151, .inl (fun _ => 0))), (xa 25, .inr (0, [.ref (xa 26), .int 0, .int 0, .int 0, .int (-1), .int 0, .int 0, .int 0])), (xa 26, .inr (3, [.ref (xa 27), .int 0])), (xa 27, .inl (cI, 300, .inl (fun _ => 0))), (oo, .inl (cL, 1, .inr (.inl kf)))] s.heap := hP
  have hl := lv_entry ([.ref (xa 0), .int p0, .ref oo]) (n := 4) (Nat.le_of_ble_eq_true rfl)
  rw [lg_entry_eq]
  generalize (lg_sl ([.ref (xa 0), .int p0, .ref oo]) ++ List.replicate (4 - (lg_sl ([.ref (xa 0), .int p0, .ref oo])).length) Slot.unset).toArray = ls at hl ⊢
  have hl : lv_has ls 4 [(0, .ref (xa 0)), (1, .int p0), (2, .ref oo)] := hl
  refine lv_aload_n hx hb dL_appendCode_0 rfl (lv_at hl 2 rfl) ?_
  refine lv_iconst (v := 0) hx hb dL_appendCode_1 (by decide) ?_
  refine lv_aload_n hx hb dL_appendCode_2 rfl (lv_at hl 0 rfl) ?_
  refine lv_iload_n hx hb dL_appendCode_3 rfl (lv_at hl 1 rfl) ?_
  have hPc := hP.sub (ws' := wx cI xa) [0, 1, 2, 3, 4, 5, 6, 7, 8, 9, 10, 11, 12, 13, 14, 15, 16, 17, 18, 19, 20, 21, 22, 23, 24, 25, 26, 27] rfl
  have hDc := hD.sub (ws' := wx cI xa) [0, 1, 2, 3, 4, 5, 6, 7, 8, 9, 10, 11, 12, 13, 14, 15, 16, 17, 18, 19, 20, 21, 22, 23, 24, 25, 26, 27] (by decide) rfl
  have hFc := va_free (wc := wx cI xa) hD hS hA [0, 1, 2, 3, 4, 5, 6, 7, 8, 9, 10, 11, 12, 13, 14, 15, 16, 17, 18, 19, 20, 21, 22, 23, 24, 25, 26, 27] rfl
  have hKc := hK.sub (tys' := [(cI, .int)]) [0] rfl
  refine vx_calli (vx_runV (As := [.int p0]) (rest := [.int 0, .ref oo]) ⟨hx, hb, hml, hown, hts⟩ (c_X4_appendCode l hfl dC dI cI xa p0 s.heap.size) (cwV 1 hts gL_appendCode_X4_appendCode rfl rfl rfl (by decide +kernel) ⟨Nat.le_of_ble_eq_true rfl, Nat.le_of_ble_eq_true rfl⟩) ⟨fun a U g mk q => by obtain ⟨q0, q1, qP, qK, qD, qZ⟩ := q; exact ⟨q0, q1, qP, va_K.moved (u := U) (U := U.calling g mk a) (Vm.Alike.refl U.vm) qK, qD, qZ.call⟩, va_recv hKc hPc (ci := 4) (q0 := 0) rfl rfl, fun U hU hW => ⟨rfl, by rw [hU], by rw [hU]; exact hPc, va_K.moved hW.alike hKc, zz_D hDc, hZ.go hS hFc hU hW⟩⟩ rfl rfl hl.1 rfl (lv_room (Nat.le_of_ble_eq_true rfl)) dL_appendCode_4 ⟨(Nat.le_of_ble_eq_true rfl), (Nat.le_of_ble_eq_true rfl)⟩) hS (fun q _ h => hFc q h) hFc (fun q _ h => hFc q h) (fun E ce q9 u_703 t H1 locs ht hvm hw hB hz1 hk1 hS1 hce hcv hcl => ?_) (fun r_702 u_703 t H1 locs ht hvm hw hB hz1 hk1 hS1 => ?_)
  · skip
    obtain ⟨hP, hD⟩ := va_join (wr := [(oo, .inl (cL, 1, .inr (.inl kf)))]) (w1 := []) hP hD [0, 1, 2, 3, 4, 5, 6, 7, 8, 9, 10, 11, 12, 13, 14, 15, 16, 17, 18, 19, 20, 21, 22, 23, 24, 25, 26, 27] [28] rfl rfl (by decide) (by decide) hk1 hFc zz_P0 zz_D0
    have hS := hS1
    clear hS1
    generalize H1 = H at hP hS hce ht ⊢
    have hP : va_P (dC, dI) vwCl [(oo, .inl (cL, 1, .inr (.inl kf)))] H := hP
    obtain ⟨rfl, hz⟩ := hB
    refine vx_catch hown [] ⟨0, 9, 12, 15⟩ [⟨0, 9, 15, 17⟩] htab (fun z h => nomatch h) (by decide) (by decide) (hts (.classLink RL 15 "java/lang/IllegalArgumentException") (by decide +kernel)) (hZ.cast 1 rfl) hce hcv hcl ?_
    refine W.widen (k := 1) (n := 6) (by omega) (by omega) ?_
    refine lv_astore_n (lv' := [(3, .ref q9), (0, .ref (xa 0)), (1, .int p0), (2, .ref oo)]) hx hb dL_appendCode_12 rfl hl (by decide) rfl (fun ls hl => ?_)
    refine lv_iconst (v := 1) hx hb dL_appendCode_13 (by decide) ?_
    refine vx_ret ?_
    have hP9 := hP.sub (ws' := [(oo, .inl (cL, 1, .inr (.inl kf)))]) [0] rfl
    have hD9 := hD.sub (ws' := [(oo, .inl (cL, 1, .inr (.inl kf)))]) [0] (by decide) rfl
    exact W.iret (v := 1) hx hb hr (fun t ht hW => ⟨⟨1, kf, rfl, ⟨hz.symm, fun h => absurd h (by decide)⟩, ⟨by rw [ht]; exact hP9, hD9⟩⟩, hS.F ht⟩) hS.2.2 dL_appendCode_14
  obtain ⟨hP, hD⟩ := va_join (wr := [(oo, .inl (cL, 1, .inr (.inl kf)))]) (w1 := []) hP hD [0, 1, 2, 3, 4, 5, 6, 7, 8, 9, 10, 11, 12, 13, 14, 15, 16, 17, 18, 19, 20, 21, 22, 23, 24, 25, 26, 27] [28] rfl rfl (by decide) (by decide) hk1 hFc zz_P0 zz_D0
  have hS := hS1
  clear hS1
  generalize H1 = H at hP hS ht ⊢
  have hP : va_P (dC, dI) vwCl [(oo, .inl (cL, 1, .inr (.inl kf)))] H := hP
  have hD : va_D A [(oo, .inl (cL, 1, .inr (.inl kf)))] := hD
  refine W.widen (k := 1) (n := 6) (by omega) (by omega) ?_
  obtain ⟨hrv, hw⟩ := hw
  obtain rfl : 1 = r_702 := hrv.symm
  have w4 := hw
  refine lv_i2l (v := 1) hx hb dL_appendCode_7 (by decide) ?_
  refine va_last hx hb hK hP hD hS 0 1 rfl rfl (by unfold vp_in; decide) dL_appendCode_8 (fun H locs hP hD hS => ?_)
  obtain ⟨f_704, ef_704⟩ : ∃ g, g = vp_updL kf (0 : Int32).toNatClampNeg 1 := ⟨_, rfl⟩
  rw [← ef_704] at hP hD
  have hP : va_P (dC, dI) vwCl [(oo, .inl (cL, 1, .inr (.inl f_704)))] H := hP
  have hD : va_D A [(oo, .inl (cL, 1, .inr (.inl f_704)))] := hD
  refine lv_goto (tgt := 18) hx hb dL_appendCode_9 (by decide) ?_
  refine lv_iconst (v := 0) hx hb dL_appendCode_18 (by decide) ?_
  refine vx_ret ?_
  have hP9 := hP.sub (ws' := [(oo, .inl (cL, 1, .inr (.inl f_704)))]) [0] rfl
  have hD9 := hD.sub (ws' := [(oo, .inl (cL, 1, .inr (.inl f_704)))]) [0] (by decide) rfl
  exact W.iret (v := 0) hx hb hr (fun t ht hW => ⟨⟨0, f_704, rfl, ⟨w4.symm, fun _ => by rw [ef_704]; rfl⟩, ⟨by rw [ht]; exact hP9, hD9⟩⟩, hS.F ht⟩) hS.2.2 dL_appendCode_19
set_option maxHeartbeats 4000000 in
set_option maxRecDepth 100000 in
theorem c_L_output (l : Launch) (hfl : l.stackTraces = false) (dC : Nat → ClassId) (dI : Nat → Nat → Nat) (cI : ClassId) (cL : ClassId) (xa : Nat → Nat) (p0 : Int32) (oo : Nat) (kf : Nat → Int64) (sz : Nat) : vx_Met l yL_output wsL_output ({ frames := 8, cells := 1, slots := 6, locals := 132 }) (va_Pc [.ref (xa 0), .int p0, .ref oo] (fun U => U.heap.size = sz ∧ va_P (dC, dI) vwCl (wx cI xa ++ [(oo, .inl (cL, 1, .inr (.inl kf)))]) U.heap ∧ va_K (dC, dI) vwCl [(cI, .int), (cL, .long)] U ∧ va_D (fun _ => True) (wx cI xa ++ [(oo, .inl (cL, 1, .inr (.inl kf)))]) ∧ zz_X (va_A (wx cI xa ++ [(oo, .inl (cL, 1, .inr (.inl kf)))]) sz) U)) (va_Qi (fun (r : Int32) (kg : Nat → Int64) => r = 1 ∧ (r = 0 → kg 0 = 0)) (fun kg t => va_P (dC, dI) vwCl [(oo, .inl (cL, 1, .inr (.inl kg)))] t.heap ∧ va_D (va_A (wx cI xa ++ [(oo, .inl (cL, 1, .inr (.inl kf)))]) sz) [(oo, .inl (cL, 1, .inr (.inl kg)))]) (va_A (wx cI xa ++ [(oo, .inl (cL, 1, .inr (.inl kf)))]) sz)) (vx_X (fun _ : Unit => True) (fun E _ _ => False) (va_A (wx cI xa ++ [(oo, .inl (cL, 1, .inr (.inl kf)))]) sz)) 1 6 (va_A (wx cI xa ++ [(oo, .inl (cL, 1, .inr (.inl kf)))]) sz) := by
  refine vx_ofWH (cc := cL_output) (maxL := 4) (ret := (some .int)) (by decide) rfl ?_
  intro p e s m args below meth c s₁ B hml hv
  obtain ⟨rfl, hsz, hP, hK, hD0, hZ⟩ := hv
  have hx := B.exec
  have hb := B.bytes
  have hr := B.returns
  have hts := atoms_spec (ws := wsL_output) B.pre
  have hown : s.vm.findClass RL = some m.cls := findClass_of_methodNamed B.named
  have hlocks := B.notSynchronized
  subst hsz
  have hD := hD0.self (sz := s.heap.size)
  generalize hAe : va_A (wx cI xa ++ [(oo, .inl (cL, 1, .inr (.inl kf)))]) s.heap.size = A at hD hZ ⊢
  have hA : ∀ q : Nat, s.heap.size ≤ q → A q := fun q h => by rw [← hAe]; exact Or.inr h
  have hS : va_S A s.heap s.heap [] := va_S.rf
  have htab := vx_table (x := yL_output) B (hts _ (List.mem_cons_self))
  have hP : va_P (dC, dI) vwCl [(xa 0, .inr (4, [.ref (xa 1), .ref (xa 3), .ref (xa 5), .ref (xa 7), .ref (xa 16), .ref (xa 25), .int 3])), (xa 1, .inr (3, [.ref (xa 2), .int 0])), (xa 2, .inl (cI, 150, .inl (fun _ => 0))), (xa 3, .inr (3, [.ref (xa 4), .int 0])), (xa 4, .inl (cI, 150, .inl (fun _ => 0))), (xa 5, .inr (3, [.ref (xa 6), .int 0])), (xa 6, .inl (cI, 400, .inl (fun _ => 0))), (xa 7, .inr (1, [.ref (xa 8), .ref (xa 10), .ref (xa 12), .ref (xa 14), .int 0, .int 0])), (xa 8, .inr (3, [.ref (xa 9), .int 0])), (xa 9, .inl (cI, 150, .inl (fun _ => 0))), (xa 10, .inr (3, [.ref (xa 11), .int 0])), (xa 11, .inl (cI, 150, .inl (fun _ => 0))), (xa 12, .inr (3, [.ref (xa 13), .int 0])), (xa 13, .inl (cI, 150, .inl (fun _ => 0))), (xa 14, .inr (3, [.ref (xa 15), .int 0])), (xa 15, .inl (cI, 150, .inl (fun _ => 0))), (xa 16, .inr (2, [.ref (xa 17), .ref (xa 18), .ref (xa 19), .ref (xa 20), .ref (xa 21), .ref (xa 22), .ref (xa 23), .ref (xa 24)])), (xa 17, .inl (cI, 151, .inl (fun _ => 0))), (xa 18, .inl (cI, 151, .inl (fun _ => 0))), (xa 19, .inl (cI, 151, .inl (fun _ => 0))), (xa 20, .inl (cI, 151, .inl (fun _ => 0))), (xa 21, .inl (cI, 151, .inl (fun _ => 0))), (xa 22, .inl (cI, 151, .inl (fun _ => 0))), (xa 23, .inl (cI, 151, .inl (fun _ => 0))), (xa 24, .inl (cI, 151, .inl (fun _ => 0))), (xa 25, .inr (0, [.ref (xa 26), .int 0, .int 0, .int 0, .int (-1), .int 0, .int 0, .int 0])), (xa 26, .inr (3, [.ref (xa 27), .int 0])), (xa 27, .inl (cI, 300, .inl (fun _ => 0))), (oo, .inl (cL, 1, .inr (.inl kf)))] s.heap := hP
  have hl := lv_entry ([.ref (xa 0), .int p0, .ref oo]) (n := 4) (Nat.le_of_ble_eq_true rfl)
  rw [lg_entry_eq]
  generalize (lg_sl ([.ref (xa 0), .int p0, .ref oo]) ++ List.replicate (4 - (lg_sl ([.ref (xa 0), .int p0, .ref oo])).length) Slot.unset).toArray = ls at hl ⊢
  have hl : lv_has ls 4 [(0, .ref (xa 0)), (1, .int p0), (2, .ref oo)] := hl
  refine lv_aload_n hx hb dL_output_0 rfl (lv_at hl 2 rfl) ?_
  refine lv_iconst (v := 0) hx hb dL_output_1 (by decide) ?_
  refine lv_aload_n hx hb dL_output_2 rfl (lv_at hl 0 rfl) ?_
  refine lv_iload_n hx hb dL_output_3 rfl (lv_at hl 1 rfl) ?_
  have hPc := hP.sub (ws' := wx cI xa) [0, 1, 2, 3, 4, 5, 6, 7, 8, 9, 10, 11, 12, 13, 14, 15, 16, 17, 18, 19, 20, 21, 22, 23, 24, 25, 26, 27] rfl
  have hFc : ∀ q : Nat, s.heap.size ≤ q → A q := fun q h => hA q (Nat.le_trans hS.1 h)
  have hKc := hK.sub (tys' := [(cI, .int)]) [0] rfl
  refine vx_calli (vx_runV (As := [.int p0]) (rest := [.int 0, .ref oo]) ⟨hx, hb, hml, hown, hts⟩ (c_X4_output l hfl dC dI cI xa p0 s.heap.size) (cwV 1 hts gL_output_X4_output rfl rfl rfl (by decide +kernel) ⟨Nat.le_of_ble_eq_true rfl, Nat.le_of_ble_eq_true rfl⟩) ⟨fun a U g mk q => by obtain ⟨q0, q1, qP, qK, qD, qZ⟩ := q; exact ⟨q0, q1, qP, va_K.moved (u := U) (U := U.calling g mk a) (Vm.Alike.refl U.vm) qK, qD, qZ.call⟩, va_recv hKc hPc (ci := 4) (q0 := 0) rfl rfl, fun U hU hW => ⟨rfl, by rw [hU], by rw [hU]; exact hPc, va_K.moved hW.alike hKc, zz_D (hD.sub (ws' := wx cI xa) [0, 1, 2, 3, 4, 5, 6, 7, 8, 9, 10, 11, 12, 13, 14, 15, 16, 17, 18, 19, 20, 21, 22, 23, 24, 25, 26, 27] (by decide) rfl), hZ.go hS hFc hU hW⟩⟩ rfl rfl hl.1 rfl (lv_room (Nat.le_of_ble_eq_true rfl)) dL_output_4 ⟨(Nat.le_of_ble_eq_true rfl), (Nat.le_of_ble_eq_true rfl)⟩) hS (fun q h1 h2 => absurd h1 (Nat.not_lt.mpr h2)) hFc (fun q h1 h2 => absurd h1 (Nat.not_lt.mpr h2)) (fun E ce q9 u_706 t H1 locs ht hvm hw hB hz1 hk1 hS1 hce hcv hcl => ?_) (fun r_705 u_706 t H1 locs ht hvm hw hB hz1 hk1 hS1 => ?_)
  · skip
    have hP := zz_keep hP hk1
    have hS := hS1
    clear hS1
    generalize H1 = H at hP hS hce ht ⊢
    have hP : va_P (dC, dI) vwCl [(xa 0, .inr (4, [.ref (xa 1), .ref (xa 3), .ref (xa 5), .ref (xa 7), .ref (xa 16), .ref (xa 25), .int 3])), (xa 1, .inr (3, [.ref (xa 2), .int 0])), (xa 2, .inl (cI, 150, .inl (fun _ => 0))), (xa 3, .inr (3, [.ref (xa 4), .int 0])), (xa 4, .inl (cI, 150, .inl (fun _ => 0))), (xa 5, .inr (3, [.ref (xa 6), .int 0])), (xa 6, .inl (cI, 400, .inl (fun _ => 0))), (xa 7, .inr (1, [.ref (xa 8), .ref (xa 10), .ref (xa 12), .ref (xa 14), .int 0, .int 0])), (xa 8, .inr (3, [.ref (xa 9), .int 0])), (xa 9, .inl (cI, 150, .inl (fun _ => 0))), (xa 10, .inr (3, [.ref (xa 11), .int 0])), (xa 11, .inl (cI, 150, .inl (fun _ => 0))), (xa 12, .inr (3, [.ref (xa 13), .int 0])), (xa 13, .inl (cI, 150, .inl (fun _ => 0))), (xa 14, .inr (3, [.ref (xa 15), .int 0])), (xa 15, .inl (cI, 150, .inl (fun _ => 0))), (xa 16, .inr (2, [.ref (xa 17), .ref (xa 18), .ref (xa 19), .ref (xa 20), .ref (xa 21), .ref (xa 22), .ref (xa 23), .ref (xa 24)])), (xa 17, .inl (cI, 151, .inl (fun _ => 0))), (xa 18, .inl (cI, 151, .inl (fun _ => 0))), (xa 19, .inl (cI, 151, .inl (fun _ => 0))), (xa 20, .inl (cI, 151, .inl (fun _ => 0))), (xa 21, .inl (cI, 151, .inl (fun _ => 0))), (xa 22, .inl (cI, 151, .inl (fun _ => 0))), (xa 23, .inl (cI, 151, .inl (fun _ => 0))), (xa 24, .inl (cI, 151, .inl (fun _ => 0))), (xa 25, .inr (0, [.ref (xa 26), .int 0, .int 0, .int 0, .int (-1), .int 0, .int 0, .int 0])), (xa 26, .inr (3, [.ref (xa 27), .int 0])), (xa 27, .inl (cI, 300, .inl (fun _ => 0))), (oo, .inl (cL, 1, .inr (.inl kf)))] H := hP
    obtain rfl := hB
    refine vx_catch hown [] ⟨0, 9, 12, 13⟩ [] htab (fun z h => nomatch h) (by decide) (by decide) (hts (.classLink RL 13 "java/lang/IndexOutOfBoundsException") (by decide +kernel)) (hZ.cast 0 rfl) hce hcv hcl ?_
    refine W.widen (k := 1) (n := 6) (by omega) (by omega) ?_
    refine lv_astore_n (lv' := [(3, .ref q9), (0, .ref (xa 0)), (1, .int p0), (2, .ref oo)]) hx hb dL_output_12 rfl hl (by decide) rfl (fun ls hl => ?_)
    refine lv_iconst (v := 1) hx hb dL_output_13 (by decide) ?_
    refine vx_ret ?_
    have hP9 := hP.sub (ws' := [(oo, .inl (cL, 1, .inr (.inl kf)))]) [28] rfl
    have hD9 := hD.sub (ws' := [(oo, .inl (cL, 1, .inr (.inl kf)))]) [28] (by decide) rfl
    exact W.iret (v := 1) hx hb hr (fun t ht hW => ⟨⟨1, kf, rfl, ⟨rfl, fun h => absurd h (by decide)⟩, ⟨by rw [ht]; exact hP9, hD9⟩⟩, hS.F ht⟩) hS.2.2 dL_output_14
  exact (show False from hw).elim
