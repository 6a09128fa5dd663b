/-- all that the law has made -/
abbrev wl (cI cL cD : ClassId) (xa ma : Nat → Nat) (oo od : Nat) : va_W := [(xa 0, .inr (4, [.ref (xa 1), .ref (xa 3), .ref (xa 5), .ref (xa 7), .ref (xa 16), .ref (xa 25), .int 3])), (xa 1, .inr (3, [.ref (xa 2), .int 0])), (xa 2, .inl (cI, 150, .inl (fun _ => 0))), (xa 3, .inr (3, [.ref (xa 4), .int 0])), (xa 4, .inl (cI, 150, .inl (fun _ => 0))), (xa 5, .inr (3, [.ref (xa 6), .int 0])), (xa 6, .inl (cI, 400, .inl (fun _ => 0))), (xa 7, .inr (1, [.ref (xa 8), .ref (xa 10), .ref (xa 12), .ref (xa 14), .int 0, .int 0])), (xa 8, .inr (3, [.ref (xa 9), .int 0])), (xa 9, .inl (cI, 150, .inl (fun _ => 0))), (xa 10, .inr (3, [.ref (xa 11), .int 0])), (xa 11, .inl (cI, 150, .inl (fun _ => 0))), (xa 12, .inr (3, [.ref (xa 13), .int 0])), (xa 13, .inl (cI, 150, .inl (fun _ => 0))), (xa 14, .inr (3, [.ref (xa 15), .int 0])), (xa 15, .inl (cI, 150, .inl (fun _ => 0))), (xa 16, .inr (2, [.ref (xa 17), .ref (xa 18), .ref (xa 19), .ref (xa 20), .ref (xa 21), .ref (xa 22), .ref (xa 23), .ref (xa 24)])), (xa 17, .inl (cI, 151, .inl (fun _ => 0))), (xa 18, .inl (cI, 151, .inl (fun _ => 0))), (xa 19, .inl (cI, 151, .inl (fun _ => 0))), (xa 20, .inl (cI, 151, .inl (fun _ => 0))), (xa 21, .inl (cI, 151, .inl (fun _ => 0))), (xa 22, .inl (cI, 151, .inl (fun _ => 0))), (xa 23, .inl (cI, 151, .inl (fun _ => 0))), (xa 24, .inl (cI, 151, .inl (fun _ => 0))), (xa 25, .inr (0, [.ref (xa 26), .int 0, .int 0, .int 0, .int (-1), .int 0, .int 0, .int 0])), (xa 26, .inr (3, [.ref (xa 27), .int 0])), (xa 27, .inl (cI, 300, .inl (fun _ => 0))), (ma 0, .inr (5, [.int 0, .ref (ma 1), .int 0, .ref (ma 2), .int 0, .int 3, .int 0, .int 0, .ref (ma 3), .ref (ma 4), .ref (ma 5), .ref (ma 6), .int 0, .int 0, .ref (ma 7), .int 0, .ref (ma 8), .int (-1), .ref (ma 9), .ref (ma 10), .ref (ma 11), .ref (ma 12), .ref (ma 13), .int 0, .int 0])), (ma 1, .inl (cI, 150, .inl (fun _ => 0))), (ma 2, .inl (cI, 150, .inl (fun _ => 0))), (ma 3, .inl (cI, 150, .inl (fun _ => 0))), (ma 4, .inl (cI, 150, .inl (fun _ => 0))), (ma 5, .inl (cI, 150, .inl (fun _ => 0))), (ma 6, .inl (cI, 150, .inl (fun _ => 0))), (ma 7, .inl (cI, 400, .inl (fun _ => 0))), (ma 8, .inl (cI, 300, .inl (fun _ => 0))), (ma 9, .inl (cI, 151, .inl (fun _ => 0))), (ma 10, .inl (cI, 151, .inl (fun _ => 0))), (ma 11, .inl (cI, 151, .inl (fun _ => 0))), (ma 12, .inl (cI, 151, .inl (fun _ => 0))), (ma 13, .inl (cI, 151, .inl (fun _ => 0))), (oo, .inl (cL, 1, .inr (.inl (fun _ => 0)))), (od, .inl (cD, 1, .inr (.inr (.inr (.inl (fun _ => 0))))))]
set_option maxHeartbeats 4000000 in
set_option maxRecDepth 100000 in
theorem ca_0 {p : Program} {l : Launch} {e : Env} {s : State} {m : MethodId} {below : List Frame} {meth : Method} {c : Code} {b : Nat} {xs : Nat → Int32} {A : Nat → Prop} {Q : State → Prop} (hfl : l.stackTraces = false) (dC : Nat → ClassId) (dI : Nat → Nat → Nat) (cI cL cD : ClassId) (xa ma : Nat → Nat) (oo od : Nat) (hx : p.tables.exec = Jvm.exec) (hb : c.code = cL_law) (hml : c.maxLocals = 9) (hown : s.vm.findClass RL = some m.cls) (hts : ∀ w ∈ wsL_law, w.before #[Value.ref b] s = true) (hA : ∀ q : Nat, s.heap.size ≤ q → A q) (hK : va_K (dC, dI) vwCl [(cI, .int), (cL, .long), (cD, .double)] s) (hZ : zz_X A s) (hX : va_X b 5 xs s s.heap) (hbl : b < s.heap.size) (hbA : ¬ A b)
    (kk : ∀ (H : Heap) (locs : List Loc) (ls : Array Slot), va_S A s.heap H locs → lv_has ls 9 [(5, .int 0), (0, .ref b)] → W p l e room_1 s m #[Value.ref b] below meth c H locs 60 6000 Q (F0 m 1844 ls []))
    (H : Heap) (locs : List Loc) (ls : Array Slot) (hP : va_P (dC, dI) vwCl (wl cI cL cD xa ma oo od) H) (hD : va_D A (wl cI cL cD xa ma oo od)) (hS : va_S A s.heap H locs) (hl : lv_has ls 9 [(5, .int 0), (4, .ref od), (3, .ref oo), (2, .ref (ma 0)), (1, .ref (xa 0)), (0, .ref b)]) : W p l e room_1 s m #[Value.ref b] below meth c H locs 44 5235 Q (F0 m 196 ls []) := by
  have hP := hP.sub (ws' := [(xa 0, .inr (4, [.ref (xa 1), .ref (xa 3), .ref (xa 5), .ref (xa 7), .ref (xa 16), .ref (xa 25), .int 3])), (xa 1, .inr (3, [.ref (xa 2), .int 0])), (xa 2, .inl (cI, 150, .inl (fun _ => 0))), (xa 3, .inr (3, [.ref (xa 4), .int 0])), (xa 4, .inl (cI, 150, .inl (fun _ => 0))), (xa 5, .inr (3, [.ref (xa 6), .int 0])), (xa 6, .inl (cI, 400, .inl (fun _ => 0))), (xa 7, .inr (1, [.ref (xa 8), .ref (xa 10), .ref (xa 12), .ref (xa 14), .int 0, .int 0])), (xa 8, .inr (3, [.ref (xa 9), .int 0])), (xa 9, .inl (cI, 150, .inl (fun _ => 0))), (xa 10, .inr (3, [.ref (xa 11), .int 0])), (xa 11, .inl (cI, 150, .inl (fun _ => 0))), (xa 12, .inr (3, [.ref (xa 13), .int 0])), (xa 13, .inl (cI, 150, .inl (fun _ => 0))), (xa 14, .inr (3, [.ref (xa 15), .int 0])), (xa 15, .inl (cI, 150, .inl (fun _ => 0))), (xa 16, .inr (2, [.ref (xa 17), .ref (xa 18), .ref (xa 19), .ref (xa 20), .ref (xa 21), .ref (xa 22), .ref (xa 23), .ref (xa 24)])), (xa 17, .inl (cI, 151, .inl (fun _ => 0))), (xa 18, .inl (cI, 151, .inl (fun _ => 0))), (xa 19, .inl (cI, 151, .inl (fun _ => 0))), (xa 20, .inl (cI, 151, .inl (fun _ => 0))), (xa 21, .inl (cI, 151, .inl (fun _ => 0))), (xa 22, .inl (cI, 151, .inl (fun _ => 0))), (xa 23, .inl (cI, 151, .inl (fun _ => 0))), (xa 24, .inl (cI, 151, .inl (fun _ => 0))), (xa 25, .inr (0, [.ref (xa 26), .int 0, .int 0, .int 0, .int (-1), .int 0, .int 0, .int 0])), (xa 26, .inr (3, [.ref (xa 27), .int 0])), (xa 27, .inl (cI, 300, .inl (fun _ => 0))), (ma 0, .inr (5, [.int 0, .ref (ma 1), .int 0, .ref (ma 2), .int 0, .int 3, .int 0, .int 0, .ref (ma 3), .ref (ma 4), .ref (ma 5), .ref (ma 6), .int 0, .int 0, .ref (ma 7), .int 0, .ref (ma 8), .int (-1), .ref (ma 9), .ref (ma 10), .ref (ma 11), .ref (ma 12), .ref (ma 13), .int 0, .int 0])), (ma 1, .inl (cI, 150, .inl (fun _ => 0))), (ma 2, .inl (cI, 150, .inl (fun _ => 0))), (ma 3, .inl (cI, 150, .inl (fun _ => 0))), (ma 4, .inl (cI, 150, .inl (fun _ => 0))), (ma 5, .inl (cI, 150, .inl (fun _ => 0))), (ma 6, .inl (cI, 150, .inl (fun _ => 0))), (ma 7, .inl (cI, 400, .inl (fun _ => 0))), (ma 8, .inl (cI, 300, .inl (fun _ => 0))), (ma 9, .inl (cI, 151, .inl (fun _ => 0))), (ma 10, .inl (cI, 151, .inl (fun _ => 0))), (ma 11, .inl (cI, 151, .inl (fun _ => 0))), (ma 12, .inl (cI, 151, .inl (fun _ => 0))), (ma 13, .inl (cI, 151, .inl (fun _ => 0))), (oo, .inl (cL, 1, .inr (.inl (fun _ => 0))))]) [0, 1, 2, 3, 4, 5, 6, 7, 8, 9, 10, 11, 12, 13, 14, 15, 16, 17, 18, 19, 20, 21, 22, 23, 24, 25, 26, 27, 28, 29, 30, 31, 32, 33, 34, 35, 36, 37, 38, 39, 40, 41, 42] rfl
  have hD := hD.sub (ws' := [(xa 0, .inr (4, [.ref (xa 1), .ref (xa 3), .ref (xa 5), .ref (xa 7), .ref (xa 16), .ref (xa 25), .int 3])), (xa 1, .inr (3, [.ref (xa 2), .int 0])), (xa 2, .inl (cI, 150, .inl (fun _ => 0))), (xa 3, .inr (3, [.ref (xa 4), .int 0])), (xa 4, .inl (cI, 150, .inl (fun _ => 0))), (xa 5, .inr (3, [.ref (xa 6), .int 0])), (xa 6, .inl (cI, 400, .inl (fun _ => 0))), (xa 7, .inr (1, [.ref (xa 8), .ref (xa 10), .ref (xa 12), .ref (xa 14), .int 0, .int 0])), (xa 8, .inr (3, [.ref (xa 9), .int 0])), (xa 9, .inl (cI, 150, .inl (fun _ => 0))), (xa 10, .inr (3, [.ref (xa 11), .int 0])), (xa 11, .inl (cI, 150, .inl (fun _ => 0))), (xa 12, .inr (3, [.ref (xa 13), .int 0])), (xa 13, .inl (cI, 150, .inl (fun _ => 0))), (xa 14, .inr (3, [.ref (xa 15), .int 0])), (xa 15, .inl (cI, 150, .inl (fun _ => 0))), (xa 16, .inr (2, [.ref (xa 17), .ref (xa 18), .ref (xa 19), .ref (xa 20), .ref (xa 21), .ref (xa 22), .ref (xa 23), .ref (xa 24)])), (xa 17, .inl (cI, 151, .inl (fun _ => 0))), (xa 18, .inl (cI, 151, .inl (fun _ => 0))), (xa 19, .inl (cI, 151, .inl (fun _ => 0))), (xa 20, .inl (cI, 151, .inl (fun _ => 0))), (xa 21, .inl (cI, 151, .inl (fun _ => 0))), (xa 22, .inl (cI, 151, .inl (fun _ => 0))), (xa 23, .inl (cI, 151, .inl (fun _ => 0))), (xa 24, .inl (cI, 151, .inl (fun _ => 0))), (xa 25, .inr (0, [.ref (xa 26), .int 0, .int 0, .int 0, .int (-1), .int 0, .int 0, .int 0])), (xa 26, .inr (3, [.ref (xa 27), .int 0])), (xa 27, .inl (cI, 300, .inl (fun _ => 0))), (ma 0, .inr (5, [.int 0, .ref (ma 1), .int 0, .ref (ma 2), .int 0, .int 3, .int 0, .int 0, .ref (ma 3), .ref (ma 4), .ref (ma 5), .ref (ma 6), .int 0, .int 0, .ref (ma 7), .int 0, .ref (ma 8), .int (-1), .ref (ma 9), .ref (ma 10), .ref (ma 11), .ref (ma 12), .ref (ma 13), .int 0, .int 0])), (ma 1, .inl (cI, 150, .inl (fun _ => 0))), (ma 2, .inl (cI, 150, .inl (fun _ => 0))), (ma 3, .inl (cI, 150, .inl (fun _ => 0))), (ma 4, .inl (cI, 150, .inl (fun _ => 0))), (ma 5, .inl (cI, 150, .inl (fun _ => 0))), (ma 6, .inl (cI, 150, .inl (fun _ => 0))), (ma 7, .inl (cI, 400, .inl (fun _ => 0))), (ma 8, .inl (cI, 300, .inl (fun _ => 0))), (ma 9, .inl (cI, 151, .inl (fun _ => 0))), (ma 10, .inl (cI, 151, .inl (fun _ => 0))), (ma 11, .inl (cI, 151, .inl (fun _ => 0))), (ma 12, .inl (cI, 151, .inl (fun _ => 0))), (ma 13, .inl (cI, 151, .inl (fun _ => 0))), (oo, .inl (cL, 1, .inr (.inl (fun _ => 0))))]) [0, 1, 2, 3, 4, 5, 6, 7, 8, 9, 10, 11, 12, 13, 14, 15, 16, 17, 18, 19, 20, 21, 22, 23, 24, 25, 26, 27, 28, 29, 30, 31, 32, 33, 34, 35, 36, 37, 38, 39, 40, 41, 42] (by decide) rfl
  refine lv_aload_n hx hb dL_law_196 rfl (lv_at hl 4 rfl) ?_
  refine lv_aload_n hx hb dL_law_197 rfl (lv_at hl 5 rfl) ?_
  refine lv_iload hx hb dL_law_198 (lv_at hl 0 rfl) ?_
  refine lv_iconst (v := 1) hx hb dL_law_200 (by decide) ?_
  refine lv_iadd hx hb dL_law_201 ?_
  refine lv_topi (fun x_707 ex_707 => ?_)
  obtain rfl : 1 = x_707 := (ex_707.trans (by decide)).symm
  refine va_sld hx hb hX hbl hbA hS (by unfold vp_in; decide) dL_law_202 ?_
  refine lv_topi (fun x_708 ex_708 => ?_)
  obtain rfl : xs 1 = x_708 := ex_708.symm
  refine lv_aload_n hx hb dL_law_203 rfl (lv_at hl 5 rfl) ?_
  refine lv_iload hx hb dL_law_204 (lv_at hl 0 rfl) ?_
  refine lv_iconst (v := 2) hx hb dL_law_206 (by decide) ?_
  refine lv_iadd hx hb dL_law_207 ?_
  refine lv_topi (fun x_709 ex_709 => ?_)
  obtain rfl : 2 = x_709 := (ex_709.trans (by decide)).symm
  refine va_sld hx hb hX hbl hbA hS (by unfold vp_in; decide) dL_law_208 ?_
  refine lv_topi (fun x_710 ex_710 => ?_)
  obtain rfl : xs 2 = x_710 := ex_710.symm
  refine lv_i2l (v := (xs 2).toInt64) hx hb dL_law_209 rfl ?_
  refine lv_bipush (v := 32) hx hb dL_law_210 (by decide) ?_
  refine lv_lshl hx hb dL_law_212 rfl ?_
  refine lv_topl (fun x_711 ex_711 => ?_)
  refine lv_aload_n hx hb dL_law_213 rfl (lv_at hl 5 rfl) ?_
  refine lv_iload hx hb dL_law_214 (lv_at hl 0 rfl) ?_
  refine lv_iconst (v := 3) hx hb dL_law_216 (by decide) ?_
  refine lv_iadd hx hb dL_law_217 ?_
  refine lv_topi (fun x_712 ex_712 => ?_)
  obtain rfl : 3 = x_712 := (ex_712.trans (by decide)).symm
  refine va_sld hx hb hX hbl hbA hS (by unfold vp_in; decide) dL_law_218 ?_
  refine lv_topi (fun x_713 ex_713 => ?_)
  obtain rfl : xs 3 = x_713 := ex_713.symm
  refine lv_i2l (v := (xs 3).toInt64) hx hb dL_law_219 rfl ?_
  refine lv_ldc2 (v := 4294967295) hx hb hown (hts (.constantLong RL 97 (4294967295)) (by decide +kernel)) dL_law_220 ?_
  refine lv_land hx hb dL_law_223 ?_
  refine lv_topl (fun x_714 ex_714 => ?_)
  refine lv_lor hx hb dL_law_224 ?_
  refine lv_topl (fun x_715 ex_715 => ?_)
  refine lv_aload_n hx hb dL_law_225 rfl (lv_at hl 5 rfl) ?_
  refine lv_iload hx hb dL_law_226 (lv_at hl 0 rfl) ?_
  refine lv_iconst (v := 4) hx hb dL_law_228 (by decide) ?_
  refine lv_iadd hx hb dL_law_229 ?_
  refine lv_topi (fun x_716 ex_716 => ?_)
  obtain rfl : 4 = x_716 := (ex_716.trans (by decide)).symm
  refine va_sld hx hb hX hbl hbA hS (by unfold vp_in; decide) dL_law_230 ?_
  refine lv_topi (fun x_717 ex_717 => ?_)
  obtain rfl : xs 4 = x_717 := ex_717.symm
  refine lv_aload_n hx hb dL_law_231 rfl (lv_at hl 2 rfl) ?_
  have hPc := hP.sub (ws' := wx cI xa ++ [(oo, .inl (cL, 1, .inr (.inl (fun _ => 0))))]) [0, 1, 2, 3, 4, 5, 6, 7, 8, 9, 10, 11, 12, 13, 14, 15, 16, 17, 18, 19, 20, 21, 22, 23, 24, 25, 26, 27, 42] rfl
  have hDc := hD.sub (ws' := wx cI xa ++ [(oo, .inl (cL, 1, .inr (.inl (fun _ => 0))))]) [0, 1, 2, 3, 4, 5, 6, 7, 8, 9, 10, 11, 12, 13, 14, 15, 16, 17, 18, 19, 20, 21, 22, 23, 24, 25, 26, 27, 42] (by decide) rfl
  have hFc := va_free (wc := wx cI xa ++ [(oo, .inl (cL, 1, .inr (.inl (fun _ => 0))))]) hD hS hA [0, 1, 2, 3, 4, 5, 6, 7, 8, 9, 10, 11, 12, 13, 14, 15, 16, 17, 18, 19, 20, 21, 22, 23, 24, 25, 26, 27, 42] rfl
  have hKc := hK.sub (tys' := [(cI, .int), (cL, .long)]) [0, 1] rfl
  refine vx_calli (vx_runSX (As := [.ref (xa 0), .int (xs 1), .long x_715, .int (xs 4), .ref oo]) (rest := []) ⟨hx, hb, hml, hown, hts⟩ (c_L_feed l hfl dC dI cI cL xa (xs 1) x_715 (xs 4) oo (fun _ => 0) H.size) (vx_cwSW 5 hts gL_law_L_feed rfl rfl rfl (by decide +kernel) ⟨Nat.le_of_ble_eq_true rfl, Nat.le_of_ble_eq_true rfl⟩) ⟨fun a U g mk q => by obtain ⟨q0, q1, qP, qK, qD, qZ⟩ := q; exact ⟨q0, q1, qP, va_K.moved (u := U) (U := U.calling g mk a) (Vm.Alike.refl U.vm) qK, qD, qZ.call⟩, fun U hU hW => ⟨rfl, by rw [hU], by rw [hU]; exact hPc, va_K.moved hW.alike hKc, zz_D hDc, hZ.go hS hFc hU hW⟩⟩ rfl rfl hl.1 rfl (lv_room (Nat.le_of_ble_eq_true rfl)) dL_law_232 ⟨(Nat.le_of_ble_eq_true rfl), (Nat.le_of_ble_eq_true rfl)⟩) hS (fun q _ h => hFc q h) hFc (fun q _ h => hFc q h) (fun E ce q9 u_719 t H1 locs ht hvm hw hB hz1 hk1 hS1 hce hcv hcl => ?_) (fun r_718 u_719 t H1 locs ht hvm hw hB hz1 hk1 hS1 => ?_)
  · skip
    exact (show False from hB).elim
  obtain ⟨hP1, hD1⟩ := hB
  rw [ht] at hP1
  obtain ⟨hP, hD⟩ := va_join (wr := [(ma 0, .inr (5, [.int 0, .ref (ma 1), .int 0, .ref (ma 2), .int 0, .int 3, .int 0, .int 0, .ref (ma 3), .ref (ma 4), .ref (ma 5), .ref (ma 6), .int 0, .int 0, .ref (ma 7), .int 0, .ref (ma 8), .int (-1), .ref (ma 9), .ref (ma 10), .ref (ma 11), .ref (ma 12), .ref (ma 13), .int 0, .int 0])), (ma 1, .inl (cI, 150, .inl (fun _ => 0))), (ma 2, .inl (cI, 150, .inl (fun _ => 0))), (ma 3, .inl (cI, 150, .inl (fun _ => 0))), (ma 4, .inl (cI, 150, .inl (fun _ => 0))), (ma 5, .inl (cI, 150, .inl (fun _ => 0))), (ma 6, .inl (cI, 150, .inl (fun _ => 0))), (ma 7, .inl (cI, 400, .inl (fun _ => 0))), (ma 8, .inl (cI, 300, .inl (fun _ => 0))), (ma 9, .inl (cI, 151, .inl (fun _ => 0))), (ma 10, .inl (cI, 151, .inl (fun _ => 0))), (ma 11, .inl (cI, 151, .inl (fun _ => 0))), (ma 12, .inl (cI, 151, .inl (fun _ => 0))), (ma 13, .inl (cI, 151, .inl (fun _ => 0)))]) (w1 := [(oo, .inl (cL, 1, .inr (.inl u_719)))]) hP hD [0, 1, 2, 3, 4, 5, 6, 7, 8, 9, 10, 11, 12, 13, 14, 15, 16, 17, 18, 19, 20, 21, 22, 23, 24, 25, 26, 27, 42] [28, 29, 30, 31, 32, 33, 34, 35, 36, 37, 38, 39, 40, 41] rfl rfl (by decide) (by decide) hk1 hFc hP1 hD1
  have hS := hS1
  clear hS1
  generalize H1 = H at hP hS ht ⊢
  have hP : va_P (dC, dI) vwCl [(ma 0, .inr (5, [.int 0, .ref (ma 1), .int 0, .ref (ma 2), .int 0, .int 3, .int 0, .int 0, .ref (ma 3), .ref (ma 4), .ref (ma 5), .ref (ma 6), .int 0, .int 0, .ref (ma 7), .int 0, .ref (ma 8), .int (-1), .ref (ma 9), .ref (ma 10), .ref (ma 11), .ref (ma 12), .ref (ma 13), .int 0, .int 0])), (ma 1, .inl (cI, 150, .inl (fun _ => 0))), (ma 2, .inl (cI, 150, .inl (fun _ => 0))), (ma 3, .inl (cI, 150, .inl (fun _ => 0))), (ma 4, .inl (cI, 150, .inl (fun _ => 0))), (ma 5, .inl (cI, 150, .inl (fun _ => 0))), (ma 6, .inl (cI, 150, .inl (fun _ => 0))), (ma 7, .inl (cI, 400, .inl (fun _ => 0))), (ma 8, .inl (cI, 300, .inl (fun _ => 0))), (ma 9, .inl (cI, 151, .inl (fun _ => 0))), (ma 10, .inl (cI, 151, .inl (fun _ => 0))), (ma 11, .inl (cI, 151, .inl (fun _ => 0))), (ma 12, .inl (cI, 151, .inl (fun _ => 0))), (ma 13, .inl (cI, 151, .inl (fun _ => 0))), (oo, .inl (cL, 1, .inr (.inl u_719)))] H := hP
  have hD : va_D A [(ma 0, .inr (5, [.int 0, .ref (ma 1), .int 0, .ref (ma 2), .int 0, .int 3, .int 0, .int 0, .ref (ma 3), .ref (ma 4), .ref (ma 5), .ref (ma 6), .int 0, .int 0, .ref (ma 7), .int 0, .ref (ma 8), .int (-1), .ref (ma 9), .ref (ma 10), .ref (ma 11), .ref (ma 12), .ref (ma 13), .int 0, .int 0])), (ma 1, .inl (cI, 150, .inl (fun _ => 0))), (ma 2, .inl (cI, 150, .inl (fun _ => 0))), (ma 3, .inl (cI, 150, .inl (fun _ => 0))), (ma 4, .inl (cI, 150, .inl (fun _ => 0))), (ma 5, .inl (cI, 150, .inl (fun _ => 0))), (ma 6, .inl (cI, 150, .inl (fun _ => 0))), (ma 7, .inl (cI, 400, .inl (fun _ => 0))), (ma 8, .inl (cI, 300, .inl (fun _ => 0))), (ma 9, .inl (cI, 151, .inl (fun _ => 0))), (ma 10, .inl (cI, 151, .inl (fun _ => 0))), (ma 11, .inl (cI, 151, .inl (fun _ => 0))), (ma 12, .inl (cI, 151, .inl (fun _ => 0))), (ma 13, .inl (cI, 151, .inl (fun _ => 0))), (oo, .inl (cL, 1, .inr (.inl u_719)))] := hD
  refine W.widen (k := 46) (n := 5247) (by omega) (by omega) ?_
  have w232 := hw
  refine lv_istore (lv' := [(6, .int r_718), (5, .int 0), (4, .ref od), (3, .ref oo), (2, .ref (ma 0)), (1, .ref (xa 0)), (0, .ref b)]) hx hb dL_law_235 hl (by decide) rfl (fun ls hl => ?_)
  refine lv_aload_n hx hb dL_law_237 rfl (lv_at hl 4 rfl) ?_
  refine lv_aload_n hx hb dL_law_238 rfl (lv_at hl 6 rfl) ?_
  refine lv_iload hx hb dL_law_239 (lv_at hl 1 rfl) ?_
  refine lv_iconst (v := 1) hx hb dL_law_241 (by decide) ?_
  refine lv_iadd hx hb dL_law_242 ?_
  refine lv_topi (fun x_720 ex_720 => ?_)
  obtain rfl : 1 = x_720 := (ex_720.trans (by decide)).symm
  refine va_sld hx hb hX hbl hbA hS (by unfold vp_in; decide) dL_law_243 ?_
  refine lv_topi (fun x_721 ex_721 => ?_)
  obtain rfl : xs 1 = x_721 := ex_721.symm
  refine lv_aload_n hx hb dL_law_244 rfl (lv_at hl 6 rfl) ?_
  refine lv_iload hx hb dL_law_245 (lv_at hl 1 rfl) ?_
  refine lv_iconst (v := 2) hx hb dL_law_247 (by decide) ?_
  refine lv_iadd hx hb dL_law_248 ?_
  refine lv_topi (fun x_722 ex_722 => ?_)
  obtain rfl : 2 = x_722 := (ex_722.trans (by decide)).symm
  refine va_sld hx hb hX hbl hbA hS (by unfold vp_in; decide) dL_law_249 ?_
  refine lv_topi (fun x_723 ex_723 => ?_)
  obtain rfl : xs 2 = x_723 := ex_723.symm
  refine lv_i2l (v := (xs 2).toInt64) hx hb dL_law_250 rfl ?_
  refine lv_bipush (v := 32) hx hb dL_law_251 (by decide) ?_
  refine lv_lshl hx hb dL_law_253 rfl ?_
  refine lv_topl (fun x_724 ex_724 => ?_)
  refine lv_aload_n hx hb dL_law_254 rfl (lv_at hl 6 rfl) ?_
  refine lv_iload hx hb dL_law_255 (lv_at hl 1 rfl) ?_
  refine lv_iconst (v := 3) hx hb dL_law_257 (by decide) ?_
  refine lv_iadd hx hb dL_law_258 ?_
  refine lv_topi (fun x_725 ex_725 => ?_)
  obtain rfl : 3 = x_725 := (ex_725.trans (by decide)).symm
  refine va_sld hx hb hX hbl hbA hS (by unfold vp_in; decide) dL_law_259 ?_
  refine lv_topi (fun x_726 ex_726 => ?_)
  obtain rfl : xs 3 = x_726 := ex_726.symm
  refine lv_i2l (v := (xs 3).toInt64) hx hb dL_law_260 rfl ?_
  refine lv_ldc2 (v := 4294967295) hx hb hown (hts (.constantLong RL 97 (4294967295)) (by decide +kernel)) dL_law_261 ?_
  refine lv_land hx hb dL_law_264 ?_
  refine lv_topl (fun x_727 ex_727 => ?_)
  refine lv_lor hx hb dL_law_265 ?_
  refine lv_topl (fun x_728 ex_728 => ?_)
  refine lv_aload_n hx hb dL_law_266 rfl (lv_at hl 6 rfl) ?_
  refine lv_iload hx hb dL_law_267 (lv_at hl 1 rfl) ?_
  refine lv_iconst (v := 4) hx hb dL_law_269 (by decide) ?_
  refine lv_iadd hx hb dL_law_270 ?_
  refine lv_topi (fun x_729 ex_729 => ?_)
  obtain rfl : 4 = x_729 := (ex_729.trans (by decide)).symm
  refine va_sld hx hb hX hbl hbA hS (by unfold vp_in; decide) dL_law_271 ?_
  refine lv_topi (fun x_730 ex_730 => ?_)
  obtain rfl : xs 4 = x_730 := ex_730.symm
  have hPc := hP.sub (ws' := wm cI ma) [0, 1, 2, 3, 4, 5, 6, 7, 8, 9, 10, 11, 12, 13] rfl
  have hDc := hD.sub (ws' := wm cI ma) [0, 1, 2, 3, 4, 5, 6, 7, 8, 9, 10, 11, 12, 13] (by decide) rfl
  have hFc := va_free (wc := wm cI ma) hD hS hA [0, 1, 2, 3, 4, 5, 6, 7, 8, 9, 10, 11, 12, 13] rfl
  have hKc := hK.sub (tys' := [(cI, .int)]) [0] rfl
  refine va_calli (va_runV (As := [.int (xs 1), .long x_728, .int (xs 4)]) (rest := []) ⟨hx, hb, hml, hown, hts⟩ (c_X5_feed l dC dI cI ma (xs 1) x_728 (xs 4) H.size) (cwV 3 hts gL_law_X5_feed rfl rfl rfl (by decide +kernel) ⟨Nat.le_of_ble_eq_true rfl, Nat.le_of_ble_eq_true rfl⟩) ⟨fun a U g mk q => by obtain ⟨q0, q1, qP, qK, qD⟩ := q; exact ⟨q0, q1, qP, va_K.moved (u := U) (U := U.calling g mk a) (Vm.Alike.refl U.vm) qK, qD⟩, va_recv hKc hPc (ci := 5) (q0 := 0) rfl rfl, fun U hU hW => ⟨rfl, by rw [hU], by rw [hU]; exact hPc, va_K.moved hW.alike hKc, zz_D hDc⟩⟩ rfl rfl hl.1 rfl (lv_room (Nat.le_of_ble_eq_true rfl)) dL_law_272 ⟨(Nat.le_of_ble_eq_true rfl), (Nat.le_of_ble_eq_true rfl)⟩) hS (fun q _ h => hFc q h) hFc (fun r_731 u_732 t H1 locs ht hvm hw hB hz1 hk1 hS1 => ?_)
  obtain ⟨hP1, hD1⟩ := hB
  rw [ht] at hP1
  obtain ⟨hP, hD⟩ := va_join (wr := [(oo, .inl (cL, 1, .inr (.inl u_719)))]) (w1 := [(ma 0, .inr (5, .int u_732.1 :: u_732.2))]) hP hD [0, 1, 2, 3, 4, 5, 6, 7, 8, 9, 10, 11, 12, 13] [14] rfl rfl (by decide) (by decide) hk1 hFc hP1 hD1
  have hS := hS1
  clear hS1
  generalize H1 = H at hP hS ht ⊢
  have hP : va_P (dC, dI) vwCl [(oo, .inl (cL, 1, .inr (.inl u_719))), (ma 0, .inr (5, .int u_732.1 :: u_732.2))] H := hP
  have hD : va_D A [(oo, .inl (cL, 1, .inr (.inl u_719))), (ma 0, .inr (5, .int u_732.1 :: u_732.2))] := hD
  have w272 := hw
  refine lv_istore (lv' := [(7, .int r_731), (6, .int r_718), (5, .int 0), (4, .ref od), (3, .ref oo), (2, .ref (ma 0)), (1, .ref (xa 0)), (0, .ref b)]) hx hb dL_law_275 hl (by decide) rfl (fun ls hl => ?_)
  refine lv_aload_n hx hb dL_law_277 rfl (lv_at hl 5 rfl) ?_
  have hPc := hP.sub (ws' := [(ma 0, .inr (5, .int u_732.1 :: u_732.2))]) [1] rfl
  have hFc : ∀ q : Nat, H.size ≤ q → A q := fun q h => hA q (Nat.le_trans hS.1 h)
  have hKc := hK.sub (tys' := []) [] rfl
  refine va_calli (va_runV (As := []) (rest := []) ⟨hx, hb, hml, hown, hts⟩ (c_X5_thrown l dC dI (ma 0) u_732.1 u_732.2 H.size) (cwV 0 hts gL_law_X5_thrown rfl rfl rfl (by decide +kernel) ⟨Nat.le_of_ble_eq_true rfl, Nat.le_of_ble_eq_true rfl⟩) ⟨fun a U g mk q => by obtain ⟨q0, q1, qP, qK, qD⟩ := q; exact ⟨q0, q1, qP, va_K.moved (u := U) (U := U.calling g mk a) (Vm.Alike.refl U.vm) qK, qD⟩, va_recv hKc hPc (ci := 5) (q0 := 0) rfl rfl, fun U hU hW => ⟨rfl, by rw [hU], by rw [hU]; exact hPc, va_K.moved hW.alike hKc, zz_D (hD.sub (ws' := [(ma 0, .inr (5, .int u_732.1 :: u_732.2))]) [1] (by decide) rfl)⟩⟩ rfl rfl hl.1 rfl (lv_room (Nat.le_of_ble_eq_true rfl)) dL_law_278 ⟨(Nat.le_of_ble_eq_true rfl), (Nat.le_of_ble_eq_true rfl)⟩) hS (fun q h1 h2 => absurd h1 (Nat.not_lt.mpr h2)) hFc (fun r_733 u_734 t H1 locs ht hvm hw hB hz1 hk1 hS1 => ?_)
  have hP := zz_keep hP hk1
  have hS := hS1
  clear hS1
  generalize H1 = H at hP hS ht ⊢
  have hP : va_P (dC, dI) vwCl [(oo, .inl (cL, 1, .inr (.inl u_719))), (ma 0, .inr (5, .int u_732.1 :: u_732.2))] H := hP
  obtain rfl : u_732.1 = r_733 := (show r_733 = u_732.1 from hw).symm
  refine lv_iload hx hb dL_law_281 (lv_at hl 1 rfl) ?_
  refine lv_icmp_eq (tgt := 288) hx hb dL_law_283 (by decide) (fun c283 => ?_) (fun h => absurd (w272.1.trans w232.1.symm) h)
  refine lv_iload hx hb dL_law_288 (lv_at hl 1 rfl) ?_
  refine lv_if_ne (tgt := 305) hx hb dL_law_290 (by decide) (fun c290 => ?_) (fun c290 => ?_)
  · skip
    refine lv_goto (tgt := 1844) hx hb dL_law_305 (by decide) ?_
    refine W.widen (k := 60) (n := 6000) (by omega) (by omega) ?_
    exact kk H locs ls hS (lv_sub hl [2, 7] rfl)
  · skip
    refine lv_aload_n hx hb dL_law_293 rfl (lv_at hl 4 rfl) ?_
    refine lv_iconst (v := 0) hx hb dL_law_294 (by decide) ?_
    refine va_lald hx hb hK hP 0 1 rfl rfl (by unfold vp_in; decide) dL_law_295 ?_
    refine lv_topl (fun xo exo => ?_)
    refine lv_iload hx hb dL_law_296 (lv_at hl 0 rfl) ?_
    refine lv_i2l (v := r_731.toInt64) hx hb dL_law_298 rfl ?_
    refine W.lcmp hx hb dL_law_299 ?_
    refine lv_if_eq (tgt := 305) hx hb dL_law_300 (by decide) (fun c300 => ?_) (fun h => absurd ((lg_cmp_eq _ _).mpr (exo.trans (Eq.trans (w232.2 c290) (by rw [w272.2 (w272.1.trans (w232.1.symm.trans c290))]; first | done | rfl | decide)))) h)
    refine lv_goto (tgt := 1844) hx hb dL_law_305 (by decide) ?_
    refine W.widen (k := 60) (n := 6000) (by omega) (by omega) ?_
    exact kk H locs ls hS (lv_sub hl [2, 7] rfl)
