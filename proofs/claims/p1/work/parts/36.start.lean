set_option maxHeartbeats 8000000 in
set_option maxRecDepth 100000 in
/-- THE LAW, from its entry -/
theorem whole_start {p : Program} {e : Env} {s : State} {m : MethodId} {below : List Frame} {meth : Method} {c : Code} (l : Launch) (hflags : l.flags = flags0) {b L : Nat} {xs : Nat → Int32} (hL : L ≤ 5) (C0 : lw_At p s m meth c b L xs) : W p l e room_1 s m #[Value.ref b] below meth c s.heap [] 0 0 (lw_Z below #[Value.ref b] s) (entryFrame m ([Value.ref b] : List Value).toArray 9) := by
  obtain ⟨hx, hb, hr, hml, hown, hts0, hX, hbl, hlocks, hgv⟩ := id C0
  have hfl : l.stackTraces = false := by unfold Launch.stackTraces; rw [hflags]; decide
  have hb : c.code = cL_law := hb
  have hown : s.vm.findClass RL = some m.cls := hown
  have hts : ∀ w ∈ wsL_law, w.before #[Value.ref b] s = true := fun w h => hts0 w (wsL_law_in w h)
  obtain ⟨c0, iS0, hKn0⟩ := u_known (C := RX0) (T := TX0) (N := 8) (n := 8) hts inlX0 (hts (.instantiable RX0 8) (by decide +kernel))
  obtain ⟨c1, iS1, hKn1⟩ := u_known (C := RX1) (T := TX1) (N := 6) (n := 6) hts inlX1 (hts (.instantiable RX1 6) (by decide +kernel))
  obtain ⟨c2, iS2, hKn2⟩ := u_known (C := RX2) (T := TX2) (N := 8) (n := 8) hts inlX2 (hts (.instantiable RX2 8) (by decide +kernel))
  obtain ⟨c3, iS3, hKn3⟩ := u_known (C := RX3) (T := TX3) (N := 2) (n := 2) hts inlX3 (hts (.instantiable RX3 2) (by decide +kernel))
  obtain ⟨c4, iS4, hKn4⟩ := u_known (C := RX4) (T := TX4) (N := 7) (n := 7) hts inlX4 (hts (.instantiable RX4 7) (by decide +kernel))
  obtain ⟨c5, iS5, hKn5⟩ := u_known (C := RX5) (T := TX5) (N := 25) (n := 25) hts inlX5 (hts (.instantiable RX5 25) (by decide +kernel))
  obtain ⟨dC, dI, hKc⟩ : ∃ (dC : Nat → ClassId) (dI : Nat → Nat → Nat), ∀ (k : Nat) (q : vw_C), vwCl[k]? = some q → u_Kn s q.1 q.2.1 q.2.2 (dC k) (dI k) := by
    refine ⟨fun k => match k with | 0 => c0 | 1 => c1 | 2 => c2 | 3 => c3 | 4 => c4 | _ => c5, fun k => match k with | 0 => iS0 | 1 => iS1 | 2 => iS2 | 3 => iS3 | 4 => iS4 | _ => iS5, ?_⟩
    intro k q hq
    match k, hq with
    | 0, hq => cases hq; exact hKn0
    | 1, hq => cases hq; exact hKn1
    | 2, hq => cases hq; exact hKn2
    | 3, hq => cases hq; exact hKn3
    | 4, hq => cases hq; exact hKn4
    | 5, hq => cases hq; exact hKn5
    | k + 6, hq => simp [vwCl] at hq
  obtain ⟨cI, hcI⟩ := zz_arr (hts (.arrayClass .int) (by decide +kernel))
  obtain ⟨cL, hcL⟩ := zz_arr (hts (.arrayClass .long) (by decide +kernel))
  obtain ⟨cD, hcD⟩ := zz_arr (hts (.arrayClass .double) (by decide +kernel))
  have hK : va_K (dC, dI) vwCl [(cI, .int), (cL, .long), (cD, .double)] s := zz_K hKc hcI hcL hcD
  obtain ⟨A, hAe⟩ : ∃ A : Nat → Prop, A = fun q : Nat => s.heap.size ≤ q := ⟨_, rfl⟩
  have hA : ∀ q : Nat, s.heap.size ≤ q → A q := fun q h => by rw [hAe]; exact h
  have hbA : ¬ A b := by rw [hAe]; exact Nat.not_le.mpr hbl
  have hZ : zz_X A s := zz_X0 hts0 hgv (fun a h => by rw [hAe]; exact Nat.not_le.mpr h)
  have hS : va_S A s.heap s.heap [] := va_S.rf
  have hP : va_P (dC, dI) vwCl [] s.heap := zz_P0
  have hD : va_D A [] := zz_D0
  have hl := lv_entry ([.ref b]) (n := 9) (Nat.le_of_ble_eq_true rfl)
  rw [lg_entry_eq]
  generalize (lg_sl ([.ref b]) ++ List.replicate (9 - (lg_sl ([.ref b])).length) Slot.unset).toArray = ls at hl ⊢
  have hl : lv_has ls 9 [(0, .ref b)] := hl
  refine va_new (ci := 4) (fs := [.null, .null, .null, .null, .null, .null, .int 0]) (C := RX4) (T := TX4) (N := 7) hx hb hts (by decide +kernel) tyX4 tyX4_ok hown (hts (.classLink RL 8 RX4) (by decide +kernel)) (hts (.instantiable RX4 7) (by decide +kernel)) (hts (.initialized RX4) (by decide +kernel)) hK hP hD hS hA rfl (fun j hj => by rcases (show j = 0 ∨ j = 1 ∨ j = 2 ∨ j = 3 ∨ j = 4 ∨ j = 5 ∨ j = 6 by omega) with rfl | rfl | rfl | rfl | rfl | rfl | rfl <;> rfl) (Nat.le_of_ble_eq_true rfl) (Nat.le_of_ble_eq_true rfl) dL_law_0 (fun q_1038 H hP hD hS => ?_)
  have hP : va_P (dC, dI) vwCl [(q_1038, .inr (4, [.null, .null, .null, .null, .null, .null, .int 0]))] H := hP
  have hD : va_D A [(q_1038, .inr (4, [.null, .null, .null, .null, .null, .null, .int 0]))] := hD
  refine W.widen (k := 1) (n := 7) (by omega) (by omega) ?_
  refine lv_dup hx hb dL_law_3 rfl ?_
  have hPc := hP.sub (ws' := [(q_1038, .inr (4, [.null, .null, .null, .null, .null, .null, .int 0]))]) [0] rfl
  have hDc := hD.sub (ws' := [(q_1038, .inr (4, [.null, .null, .null, .null, .null, .null, .int 0]))]) [0] (by decide) rfl
  have hFc := va_free (wc := [(q_1038, .inr (4, [.null, .null, .null, .null, .null, .null, .int 0]))]) hD hS hA [0] rfl
  have hKc := hK.sub (tys' := [(cI, .int)]) [0] rfl
  refine va_callv (va_runI (As := []) (rest := [.ref q_1038]) ⟨hx, hb, hml, hown, hts⟩ (c_X4_init l dC dI cI q_1038 H.size) (cwI 0 hts gL_law_X4_init rfl rfl rfl (hts (.initialized RX4) (by decide +kernel)) (hts (.methodLink RL 93 yX4_init) (by decide +kernel)) (hts (.instanceMethod yX4_init) (by decide +kernel)) rfl (by decide +kernel) ⟨Nat.le_of_ble_eq_true rfl, Nat.le_of_ble_eq_true rfl⟩) ⟨fun a U g mk q => by obtain ⟨q0, q1, qP, qK, qD⟩ := q; exact ⟨q0, q1, qP, va_K.moved (u := U) (U := U.calling g mk a) (Vm.Alike.refl U.vm) qK, qD⟩, fun U hU hW => ⟨rfl, by rw [hU], by rw [hU]; exact hPc, va_K.moved hW.alike hKc, zz_D hDc⟩⟩ rfl rfl hl.1 rfl (lv_room (Nat.le_of_ble_eq_true rfl)) dL_law_4 ⟨(Nat.le_of_ble_eq_true rfl), (Nat.le_of_ble_eq_true rfl)⟩) hS (fun q _ h => hFc q h) hFc (fun xa t H1 locs ht hvm hw hB hz1 hk1 hS1 => ?_)
  obtain ⟨hP1, hD1⟩ := hB
  rw [ht] at hP1
  obtain ⟨hP, hD⟩ := va_join (wr := []) (w1 := [(xa 0, .inr (4, [.ref (xa 1), .ref (xa 3), .ref (xa 5), .ref (xa 7), .ref (xa 16), .ref (xa 25), .int 3])), (xa 1, .inr (3, [.ref (xa 2), .int 0])), (xa 2, .inl (cI, 150, .inl (fun _ => 0))), (xa 3, .inr (3, [.ref (xa 4), .int 0])), (xa 4, .inl (cI, 150, .inl (fun _ => 0))), (xa 5, .inr (3, [.ref (xa 6), .int 0])), (xa 6, .inl (cI, 400, .inl (fun _ => 0))), (xa 7, .inr (1, [.ref (xa 8), .ref (xa 10), .ref (xa 12), .ref (xa 14), .int 0, .int 0])), (xa 8, .inr (3, [.ref (xa 9), .int 0])), (xa 9, .inl (cI, 150, .inl (fun _ => 0))), (xa 10, .inr (3, [.ref (xa 11), .int 0])), (xa 11, .inl (cI, 150, .inl (fun _ => 0))), (xa 12, .inr (3, [.ref (xa 13), .int 0])), (xa 13, .inl (cI, 150, .inl (fun _ => 0))), (xa 14, .inr (3, [.ref (xa 15), .int 0])), (xa 15, .inl (cI, 150, .inl (fun _ => 0))), (xa 16, .inr (2, [.ref (xa 17), .ref (xa 18), .ref (xa 19), .ref (xa 20), .ref (xa 21), .ref (xa 22), .ref (xa 23), .ref (xa 24)])), (xa 17, .inl (cI, 151, .inl (fun _ => 0))), (xa 18, .inl (cI, 151, .inl (fun _ => 0))), (xa 19, .inl (cI, 151, .inl (fun _ => 0))), (xa 20, .inl (cI, 151, .inl (fun _ => 0))), (xa 21, .inl (cI, 151, .inl (fun _ => 0))), (xa 22, .inl (cI, 151, .inl (fun _ => 0))), (xa 23, .inl (cI, 151, .inl (fun _ => 0))), (xa 24, .inl (cI, 151, .inl (fun _ => 0))), (xa 25, .inr (0, [.ref (xa 26), .int 0, .int 0, .int 0, .int (-1), .int 0, .int 0, .int 0])), (xa 26, .inr (3, [.ref (xa 27), .int 0])), (xa 27, .inl (cI, 300, .inl (fun _ => 0)))]) hP hD [0] [] rfl rfl (by decide) (by decide) hk1 hFc hP1 hD1
  have hS := hS1
  clear hS1
  generalize H1 = H at hP hS ht ⊢
  have hP : va_P (dC, dI) vwCl [(xa 0, .inr (4, [.ref (xa 1), .ref (xa 3), .ref (xa 5), .ref (xa 7), .ref (xa 16), .ref (xa 25), .int 3])), (xa 1, .inr (3, [.ref (xa 2), .int 0])), (xa 2, .inl (cI, 150, .inl (fun _ => 0))), (xa 3, .inr (3, [.ref (xa 4), .int 0])), (xa 4, .inl (cI, 150, .inl (fun _ => 0))), (xa 5, .inr (3, [.ref (xa 6), .int 0])), (xa 6, .inl (cI, 400, .inl (fun _ => 0))), (xa 7, .inr (1, [.ref (xa 8), .ref (xa 10), .ref (xa 12), .ref (xa 14), .int 0, .int 0])), (xa 8, .inr (3, [.ref (xa 9), .int 0])), (xa 9, .inl (cI, 150, .inl (fun _ => 0))), (xa 10, .inr (3, [.ref (xa 11), .int 0])), (xa 11, .inl (cI, 150, .inl (fun _ => 0))), (xa 12, .inr (3, [.ref (xa 13), .int 0])), (xa 13, .inl (cI, 150, .inl (fun _ => 0))), (xa 14, .inr (3, [.ref (xa 15), .int 0])), (xa 15, .inl (cI, 150, .inl (fun _ => 0))), (xa 16, .inr (2, [.ref (xa 17), .ref (xa 18), .ref (xa 19), .ref (xa 20), .ref (xa 21), .ref (xa 22), .ref (xa 23), .ref (xa 24)])), (xa 17, .inl (cI, 151, .inl (fun _ => 0))), (xa 18, .inl (cI, 151, .inl (fun _ => 0))), (xa 19, .inl (cI, 151, .inl (fun _ => 0))), (xa 20, .inl (cI, 151, .inl (fun _ => 0))), (xa 21, .inl (cI, 151, .inl (fun _ => 0))), (xa 22, .inl (cI, 151, .inl (fun _ => 0))), (xa 23, .inl (cI, 151, .inl (fun _ => 0))), (xa 24, .inl (cI, 151, .inl (fun _ => 0))), (xa 25, .inr (0, [.ref (xa 26), .int 0, .int 0, .int 0, .int (-1), .int 0, .int 0, .int 0])), (xa 26, .inr (3, [.ref (xa 27), .int 0])), (xa 27, .inl (cI, 300, .inl (fun _ => 0)))] H := hP
  have hD : va_D A [(xa 0, .inr (4, [.ref (xa 1), .ref (xa 3), .ref (xa 5), .ref (xa 7), .ref (xa 16), .ref (xa 25), .int 3])), (xa 1, .inr (3, [.ref (xa 2), .int 0])), (xa 2, .inl (cI, 150, .inl (fun _ => 0))), (xa 3, .inr (3, [.ref (xa 4), .int 0])), (xa 4, .inl (cI, 150, .inl (fun _ => 0))), (xa 5, .inr (3, [.ref (xa 6), .int 0])), (xa 6, .inl (cI, 400, .inl (fun _ => 0))), (xa 7, .inr (1, [.ref (xa 8), .ref (xa 10), .ref (xa 12), .ref (xa 14), .int 0, .int 0])), (xa 8, .inr (3, [.ref (xa 9), .int 0])), (xa 9, .inl (cI, 150, .inl (fun _ => 0))), (xa 10, .inr (3, [.ref (xa 11), .int 0])), (xa 11, .inl (cI, 150, .inl (fun _ => 0))), (xa 12, .inr (3, [.ref (xa 13), .int 0])), (xa 13, .inl (cI, 150, .inl (fun _ => 0))), (xa 14, .inr (3, [.ref (xa 15), .int 0])), (xa 15, .inl (cI, 150, .inl (fun _ => 0))), (xa 16, .inr (2, [.ref (xa 17), .ref (xa 18), .ref (xa 19), .ref (xa 20), .ref (xa 21), .ref (xa 22), .ref (xa 23), .ref (xa 24)])), (xa 17, .inl (cI, 151, .inl (fun _ => 0))), (xa 18, .inl (cI, 151, .inl (fun _ => 0))), (xa 19, .inl (cI, 151, .inl (fun _ => 0))), (xa 20, .inl (cI, 151, .inl (fun _ => 0))), (xa 21, .inl (cI, 151, .inl (fun _ => 0))), (xa 22, .inl (cI, 151, .inl (fun _ => 0))), (xa 23, .inl (cI, 151, .inl (fun _ => 0))), (xa 24, .inl (cI, 151, .inl (fun _ => 0))), (xa 25, .inr (0, [.ref (xa 26), .int 0, .int 0, .int 0, .int (-1), .int 0, .int 0, .int 0])), (xa 26, .inr (3, [.ref (xa 27), .int 0])), (xa 27, .inl (cI, 300, .inl (fun _ => 0)))] := hD
  refine W.widen (k := 28) (n := 2853) (by omega) (by omega) ?_
  have w4 := hw
  have w9 : xa 0 = q_1038 := w4
  rw [← w9]
  have hP : va_P (dC, dI) vwCl [(xa 0, .inr (4, [.ref (xa 1), .ref (xa 3), .ref (xa 5), .ref (xa 7), .ref (xa 16), .ref (xa 25), .int 3])), (xa 1, .inr (3, [.ref (xa 2), .int 0])), (xa 2, .inl (cI, 150, .inl (fun _ => 0))), (xa 3, .inr (3, [.ref (xa 4), .int 0])), (xa 4, .inl (cI, 150, .inl (fun _ => 0))), (xa 5, .inr (3, [.ref (xa 6), .int 0])), (xa 6, .inl (cI, 400, .inl (fun _ => 0))), (xa 7, .inr (1, [.ref (xa 8), .ref (xa 10), .ref (xa 12), .ref (xa 14), .int 0, .int 0])), (xa 8, .inr (3, [.ref (xa 9), .int 0])), (xa 9, .inl (cI, 150, .inl (fun _ => 0))), (xa 10, .inr (3, [.ref (xa 11), .int 0])), (xa 11, .inl (cI, 150, .inl (fun _ => 0))), (xa 12, .inr (3, [.ref (xa 13), .int 0])), (xa 13, .inl (cI, 150, .inl (fun _ => 0))), (xa 14, .inr (3, [.ref (xa 15), .int 0])), (xa 15, .inl (cI, 150, .inl (fun _ => 0))), (xa 16, .inr (2, [.ref (xa 17), .ref (xa 18), .ref (xa 19), .ref (xa 20), .ref (xa 21), .ref (xa 22), .ref (xa 23), .ref (xa 24)])), (xa 17, .inl (cI, 151, .inl (fun _ => 0))), (xa 18, .inl (cI, 151, .inl (fun _ => 0))), (xa 19, .inl (cI, 151, .inl (fun _ => 0))), (xa 20, .inl (cI, 151, .inl (fun _ => 0))), (xa 21, .inl (cI, 151, .inl (fun _ => 0))), (xa 22, .inl (cI, 151, .inl (fun _ => 0))), (xa 23, .inl (cI, 151, .inl (fun _ => 0))), (xa 24, .inl (cI, 151, .inl (fun _ => 0))), (xa 25, .inr (0, [.ref (xa 26), .int 0, .int 0, .int 0, .int (-1), .int 0, .int 0, .int 0])), (xa 26, .inr (3, [.ref (xa 27), .int 0])), (xa 27, .inl (cI, 300, .inl (fun _ => 0)))] H := hP
  refine lv_astore_n (lv' := [(1, .ref (xa 0)), (0, .ref b)]) hx hb dL_law_7 rfl hl (by decide) rfl (fun ls hl => ?_)
  refine va_new (ci := 5) (fs := [.int 0, .null, .int 0, .null, .int 0, .int 0, .int 0, .int 0, .null, .null, .null, .null, .int 0, .int 0, .null, .int 0, .null, .int 0, .null, .null, .null, .null, .null, .int 0, .int 0]) (C := RX5) (T := TX5) (N := 25) hx hb hts (by decide +kernel) tyX5 tyX5_ok hown (hts (.classLink RL 94 RX5) (by decide +kernel)) (hts (.instantiable RX5 25) (by decide +kernel)) (hts (.initialized RX5) (by decide +kernel)) hK hP hD hS hA rfl (fun j hj => by rcases (show j = 0 ∨ j = 1 ∨ j = 2 ∨ j = 3 ∨ j = 4 ∨ j = 5 ∨ j = 6 ∨ j = 7 ∨ j = 8 ∨ j = 9 ∨ j = 10 ∨ j = 11 ∨ j = 12 ∨ j = 13 ∨ j = 14 ∨ j = 15 ∨ j = 16 ∨ j = 17 ∨ j = 18 ∨ j = 19 ∨ j = 20 ∨ j = 21 ∨ j = 22 ∨ j = 23 ∨ j = 24 by omega) with rfl | rfl | rfl | rfl | rfl | rfl | rfl | rfl | rfl | rfl | rfl | rfl | rfl | rfl | rfl | rfl | rfl | rfl | rfl | rfl | rfl | rfl | rfl | rfl | rfl <;> rfl) (Nat.le_of_ble_eq_true rfl) (Nat.le_of_ble_eq_true rfl) dL_law_8 (fun q_1040 H hP hD hS => ?_)
  have hP : va_P (dC, dI) vwCl [(xa 0, .inr (4, [.ref (xa 1), .ref (xa 3), .ref (xa 5), .ref (xa 7), .ref (xa 16), .ref (xa 25), .int 3])), (xa 1, .inr (3, [.ref (xa 2), .int 0])), (xa 2, .inl (cI, 150, .inl (fun _ => 0))), (xa 3, .inr (3, [.ref (xa 4), .int 0])), (xa 4, .inl (cI, 150, .inl (fun _ => 0))), (xa 5, .inr (3, [.ref (xa 6), .int 0])), (xa 6, .inl (cI, 400, .inl (fun _ => 0))), (xa 7, .inr (1, [.ref (xa 8), .ref (xa 10), .ref (xa 12), .ref (xa 14), .int 0, .int 0])), (xa 8, .inr (3, [.ref (xa 9), .int 0])), (xa 9, .inl (cI, 150, .inl (fun _ => 0))), (xa 10, .inr (3, [.ref (xa 11), .int 0])), (xa 11, .inl (cI, 150, .inl (fun _ => 0))), (xa 12, .inr (3, [.ref (xa 13), .int 0])), (xa 13, .inl (cI, 150, .inl (fun _ => 0))), (xa 14, .inr (3, [.ref (xa 15), .int 0])), (xa 15, .inl (cI, 150, .inl (fun _ => 0))), (xa 16, .inr (2, [.ref (xa 17), .ref (xa 18), .ref (xa 19), .ref (xa 20), .ref (xa 21), .ref (xa 22), .ref (xa 23), .ref (xa 24)])), (xa 17, .inl (cI, 151, .inl (fun _ => 0))), (xa 18, .inl (cI, 151, .inl (fun _ => 0))), (xa 19, .inl (cI, 151, .inl (fun _ => 0))), (xa 20, .inl (cI, 151, .inl (fun _ => 0))), (xa 21, .inl (cI, 151, .inl (fun _ => 0))), (xa 22, .inl (cI, 151, .inl (fun _ => 0))), (xa 23, .inl (cI, 151, .inl (fun _ => 0))), (xa 24, .inl (cI, 151, .inl (fun _ => 0))), (xa 25, .inr (0, [.ref (xa 26), .int 0, .int 0, .int 0, .int (-1), .int 0, .int 0, .int 0])), (xa 26, .inr (3, [.ref (xa 27), .int 0])), (xa 27, .inl (cI, 300, .inl (fun _ => 0))), (q_1040, .inr (5, [.int 0, .null, .int 0, .null, .int 0, .int 0, .int 0, .int 0, .null, .null, .null, .null, .int 0, .int 0, .null, .int 0, .null, .int 0, .null, .null, .null, .null, .null, .int 0, .int 0]))] H := hP
  have hD : va_D A [(xa 0, .inr (4, [.ref (xa 1), .ref (xa 3), .ref (xa 5), .ref (xa 7), .ref (xa 16), .ref (xa 25), .int 3])), (xa 1, .inr (3, [.ref (xa 2), .int 0])), (xa 2, .inl (cI, 150, .inl (fun _ => 0))), (xa 3, .inr (3, [.ref (xa 4), .int 0])), (xa 4, .inl (cI, 150, .inl (fun _ => 0))), (xa 5, .inr (3, [.ref (xa 6), .int 0])), (xa 6, .inl (cI, 400, .inl (fun _ => 0))), (xa 7, .inr (1, [.ref (xa 8), .ref (xa 10), .ref (xa 12), .ref (xa 14), .int 0, .int 0])), (xa 8, .inr (3, [.ref (xa 9), .int 0])), (xa 9, .inl (cI, 150, .inl (fun _ => 0))), (xa 10, .inr (3, [.ref (xa 11), .int 0])), (xa 11, .inl (cI, 150, .inl (fun _ => 0))), (xa 12, .inr (3, [.ref (xa 13), .int 0])), (xa 13, .inl (cI, 150, .inl (fun _ => 0))), (xa 14, .inr (3, [.ref (xa 15), .int 0])), (xa 15, .inl (cI, 150, .inl (fun _ => 0))), (xa 16, .inr (2, [.ref (xa 17), .ref (xa 18), .ref (xa 19), .ref (xa 20), .ref (xa 21), .ref (xa 22), .ref (xa 23), .ref (xa 24)])), (xa 17, .inl (cI, 151, .inl (fun _ => 0))), (xa 18, .inl (cI, 151, .inl (fun _ => 0))), (xa 19, .inl (cI, 151, .inl (fun _ => 0))), (xa 20, .inl (cI, 151, .inl (fun _ => 0))), (xa 21, .inl (cI, 151, .inl (fun _ => 0))), (xa 22, .inl (cI, 151, .inl (fun _ => 0))), (xa 23, .inl (cI, 151, .inl (fun _ => 0))), (xa 24, .inl (cI, 151, .inl (fun _ => 0))), (xa 25, .inr (0, [.ref (xa 26), .int 0, .int 0, .int 0, .int (-1), .int 0, .int 0, .int 0])), (xa 26, .inr (3, [.ref (xa 27), .int 0])), (xa 27, .inl (cI, 300, .inl (fun _ => 0))), (q_1040, .inr (5, [.int 0, .null, .int 0, .null, .int 0, .int 0, .int 0, .int 0, .null, .null, .null, .null, .int 0, .int 0, .null, .int 0, .null, .int 0, .null, .null, .null, .null, .null, .int 0, .int 0]))] := hD
  refine W.widen (k := 29) (n := 2878) (by omega) (by omega) ?_
  refine lv_dup hx hb dL_law_11 rfl ?_
  have hPc := hP.sub (ws' := [(q_1040, .inr (5, [.int 0, .null, .int 0, .null, .int 0, .int 0, .int 0, .int 0, .null, .null, .null, .null, .int 0, .int 0, .null, .int 0, .null, .int 0, .null, .null, .null, .null, .null, .int 0, .int 0]))]) [28] rfl
  have hDc := hD.sub (ws' := [(q_1040, .inr (5, [.int 0, .null, .int 0, .null, .int 0, .int 0, .int 0, .int 0, .null, .null, .null, .null, .int 0, .int 0, .null, .int 0, .null, .int 0, .null, .null, .null, .null, .null, .int 0, .int 0]))]) [28] (by decide) rfl
  have hFc := va_free (wc := [(q_1040, .inr (5, [.int 0, .null, .int 0, .null, .int 0, .int 0, .int 0, .int 0, .null, .null, .null, .null, .int 0, .int 0, .null, .int 0, .null, .int 0, .null, .null, .null, .null, .null, .int 0, .int 0]))]) hD hS hA [28] rfl
  have hKc := hK.sub (tys' := [(cI, .int)]) [0] rfl
  refine va_callv (va_runI (As := []) (rest := [.ref q_1040]) ⟨hx, hb, hml, hown, hts⟩ (c_X5_init l dC dI cI q_1040 H.size) (cwI 0 hts gL_law_X5_init rfl rfl rfl (hts (.initialized RX5) (by decide +kernel)) (hts (.methodLink RL 96 yX5_init) (by decide +kernel)) (hts (.instanceMethod yX5_init) (by decide +kernel)) rfl (by decide +kernel) ⟨Nat.le_of_ble_eq_true rfl, Nat.le_of_ble_eq_true rfl⟩) ⟨fun a U g mk q => by obtain ⟨q0, q1, qP, qK, qD⟩ := q; exact ⟨q0, q1, qP, va_K.moved (u := U) (U := U.calling g mk a) (Vm.Alike.refl U.vm) qK, qD⟩, fun U hU hW => ⟨rfl, by rw [hU], by rw [hU]; exact hPc, va_K.moved hW.alike hKc, zz_D hDc⟩⟩ rfl rfl hl.1 rfl (lv_room (Nat.le_of_ble_eq_true rfl)) dL_law_12 ⟨(Nat.le_of_ble_eq_true rfl), (Nat.le_of_ble_eq_true rfl)⟩) hS (fun q _ h => hFc q h) hFc (fun ma t H1 locs ht hvm hw hB hz1 hk1 hS1 => ?_)
  obtain ⟨hP1, hD1⟩ := hB
  rw [ht] at hP1
  obtain ⟨hP, hD⟩ := va_join (wr := [(xa 0, .inr (4, [.ref (xa 1), .ref (xa 3), .ref (xa 5), .ref (xa 7), .ref (xa 16), .ref (xa 25), .int 3])), (xa 1, .inr (3, [.ref (xa 2), .int 0])), (xa 2, .inl (cI, 150, .inl (fun _ => 0))), (xa 3, .inr (3, [.ref (xa 4), .int 0])), (xa 4, .inl (cI, 150, .inl (fun _ => 0))), (xa 5, .inr (3, [.ref (xa 6), .int 0])), (xa 6, .inl (cI, 400, .inl (fun _ => 0))), (xa 7, .inr (1, [.ref (xa 8), .ref (xa 10), .ref (xa 12), .ref (xa 14), .int 0, .int 0])), (xa 8, .inr (3, [.ref (xa 9), .int 0])), (xa 9, .inl (cI, 150, .inl (fun _ => 0))), (xa 10, .inr (3, [.ref (xa 11), .int 0])), (xa 11, .inl (cI, 150, .inl (fun _ => 0))), (xa 12, .inr (3, [.ref (xa 13), .int 0])), (xa 13, .inl (cI, 150, .inl (fun _ => 0))), (xa 14, .inr (3, [.ref (xa 15), .int 0])), (xa 15, .inl (cI, 150, .inl (fun _ => 0))), (xa 16, .inr (2, [.ref (xa 17), .ref (xa 18), .ref (xa 19), .ref (xa 20), .ref (xa 21), .ref (xa 22), .ref (xa 23), .ref (xa 24)])), (xa 17, .inl (cI, 151, .inl (fun _ => 0))), (xa 18, .inl (cI, 151, .inl (fun _ => 0))), (xa 19, .inl (cI, 151, .inl (fun _ => 0))), (xa 20, .inl (cI, 151, .inl (fun _ => 0))), (xa 21, .inl (cI, 151, .inl (fun _ => 0))), (xa 22, .inl (cI, 151, .inl (fun _ => 0))), (xa 23, .inl (cI, 151, .inl (fun _ => 0))), (xa 24, .inl (cI, 151, .inl (fun _ => 0))), (xa 25, .inr (0, [.ref (xa 26), .int 0, .int 0, .int 0, .int (-1), .int 0, .int 0, .int 0])), (xa 26, .inr (3, [.ref (xa 27), .int 0])), (xa 27, .inl (cI, 300, .inl (fun _ => 0)))]) (w1 := [(ma 0, .inr (5, [.int 0, .ref (ma 1), .int 0, .ref (ma 2), .int 0, .int 3, .int 0, .int 0, .ref (ma 3), .ref (ma 4), .ref (ma 5), .ref (ma 6), .int 0, .int 0, .ref (ma 7), .int 0, .ref (ma 8), .int (-1), .ref (ma 9), .ref (ma 10), .ref (ma 11), .ref (ma 12), .ref (ma 13), .int 0, .int 0])), (ma 1, .inl (cI, 150, .inl (fun _ => 0))), (ma 2, .inl (cI, 150, .inl (fun _ => 0))), (ma 3, .inl (cI, 150, .inl (fun _ => 0))), (ma 4, .inl (cI, 150, .inl (fun _ => 0))), (ma 5, .inl (cI, 150, .inl (fun _ => 0))), (ma 6, .inl (cI, 150, .inl (fun _ => 0))), (ma 7, .inl (cI, 400, .inl (fun _ => 0))), (ma 8, .inl (cI, 300, .inl (fun _ => 0))), (ma 9, .inl (cI, 151, .inl (fun _ => 0))), (ma 10, .inl (cI, 151, .inl (fun _ => 0))), (ma 11, .inl (cI, 151, .inl (fun _ => 0))), (ma 12, .inl (cI, 151, .inl (fun _ => 0))), (ma 13, .inl (cI, 151, .inl (fun _ => 0)))]) hP hD [28] [0, 1, 2, 3, 4, 5, 6, 7, 8, 9, 10, 11, 12, 13, 14, 15, 16, 17, 18, 19, 20, 21, 22, 23, 24, 25, 26, 27] rfl rfl (by decide) (by decide) hk1 hFc hP1 hD1
  have hS := hS1
  clear hS1
  generalize H1 = H at hP hS ht ⊢
  have hP : va_P (dC, dI) vwCl [(xa 0, .inr (4, [.ref (xa 1), .ref (xa 3), .ref (xa 5), .ref (xa 7), .ref (xa 16), .ref (xa 25), .int 3])), (xa 1, .inr (3, [.ref (xa 2), .int 0])), (xa 2, .inl (cI, 150, .inl (fun _ => 0))), (xa 3, .inr (3, [.ref (xa 4), .int 0])), (xa 4, .inl (cI, 150, .inl (fun _ => 0))), (xa 5, .inr (3, [.ref (xa 6), .int 0])), (xa 6, .inl (cI, 400, .inl (fun _ => 0))), (xa 7, .inr (1, [.ref (xa 8), .ref (xa 10), .ref (xa 12), .ref (xa 14), .int 0, .int 0])), (xa 8, .inr (3, [.ref (xa 9), .int 0])), (xa 9, .inl (cI, 150, .inl (fun _ => 0))), (xa 10, .inr (3, [.ref (xa 11), .int 0])), (xa 11, .inl (cI, 150, .inl (fun _ => 0))), (xa 12, .inr (3, [.ref (xa 13), .int 0])), (xa 13, .inl (cI, 150, .inl (fun _ => 0))), (xa 14, .inr (3, [.ref (xa 15), .int 0])), (xa 15, .inl (cI, 150, .inl (fun _ => 0))), (xa 16, .inr (2, [.ref (xa 17), .ref (xa 18), .ref (xa 19), .ref (xa 20), .ref (xa 21), .ref (xa 22), .ref (xa 23), .ref (xa 24)])), (xa 17, .inl (cI, 151, .inl (fun _ => 0))), (xa 18, .inl (cI, 151, .inl (fun _ => 0))), (xa 19, .inl (cI, 151, .inl (fun _ => 0))), (xa 20, .inl (cI, 151, .inl (fun _ => 0))), (xa 21, .inl (cI, 151, .inl (fun _ => 0))), (xa 22, .inl (cI, 151, .inl (fun _ => 0))), (xa 23, .inl (cI, 151, .inl (fun _ => 0))), (xa 24, .inl (cI, 151, .inl (fun _ => 0))), (xa 25, .inr (0, [.ref (xa 26), .int 0, .int 0, .int 0, .int (-1), .int 0, .int 0, .int 0])), (xa 26, .inr (3, [.ref (xa 27), .int 0])), (xa 27, .inl (cI, 300, .inl (fun _ => 0))), (ma 0, .inr (5, [.int 0, .ref (ma 1), .int 0, .ref (ma 2), .int 0, .int 3, .int 0, .int 0, .ref (ma 3), .ref (ma 4), .ref (ma 5), .ref (ma 6), .int 0, .int 0, .ref (ma 7), .int 0, .ref (ma 8), .int (-1), .ref (ma 9), .ref (ma 10), .ref (ma 11), .ref (ma 12), .ref (ma 13), .int 0, .int 0])), (ma 1, .inl (cI, 150, .inl (fun _ => 0))), (ma 2, .inl (cI, 150, .inl (fun _ => 0))), (ma 3, .inl (cI, 150, .inl (fun _ => 0))), (ma 4, .inl (cI, 150, .inl (fun _ => 0))), (ma 5, .inl (cI, 150, .inl (fun _ => 0))), (ma 6, .inl (cI, 150, .inl (fun _ => 0))), (ma 7, .inl (cI, 400, .inl (fun _ => 0))), (ma 8, .inl (cI, 300, .inl (fun _ => 0))), (ma 9, .inl (cI, 151, .inl (fun _ => 0))), (ma 10, .inl (cI, 151, .inl (fun _ => 0))), (ma 11, .inl (cI, 151, .inl (fun _ => 0))), (ma 12, .inl (cI, 151, .inl (fun _ => 0))), (ma 13, .inl (cI, 151, .inl (fun _ => 0)))] H := hP
  have hD : va_D A [(xa 0, .inr (4, [.ref (xa 1), .ref (xa 3), .ref (xa 5), .ref (xa 7), .ref (xa 16), .ref (xa 25), .int 3])), (xa 1, .inr (3, [.ref (xa 2), .int 0])), (xa 2, .inl (cI, 150, .inl (fun _ => 0))), (xa 3, .inr (3, [.ref (xa 4), .int 0])), (xa 4, .inl (cI, 150, .inl (fun _ => 0))), (xa 5, .inr (3, [.ref (xa 6), .int 0])), (xa 6, .inl (cI, 400, .inl (fun _ => 0))), (xa 7, .inr (1, [.ref (xa 8), .ref (xa 10), .ref (xa 12), .ref (xa 14), .int 0, .int 0])), (xa 8, .inr (3, [.ref (xa 9), .int 0])), (xa 9, .inl (cI, 150, .inl (fun _ => 0))), (xa 10, .inr (3, [.ref (xa 11), .int 0])), (xa 11, .inl (cI, 150, .inl (fun _ => 0))), (xa 12, .inr (3, [.ref (xa 13), .int 0])), (xa 13, .inl (cI, 150, .inl (fun _ => 0))), (xa 14, .inr (3, [.ref (xa 15), .int 0])), (xa 15, .inl (cI, 150, .inl (fun _ => 0))), (xa 16, .inr (2, [.ref (xa 17), .ref (xa 18), .ref (xa 19), .ref (xa 20), .ref (xa 21), .ref (xa 22), .ref (xa 23), .ref (xa 24)])), (xa 17, .inl (cI, 151, .inl (fun _ => 0))), (xa 18, .inl (cI, 151, .inl (fun _ => 0))), (xa 19, .inl (cI, 151, .inl (fun _ => 0))), (xa 20, .inl (cI, 151, .inl (fun _ => 0))), (xa 21, .inl (cI, 151, .inl (fun _ => 0))), (xa 22, .inl (cI, 151, .inl (fun _ => 0))), (xa 23, .inl (cI, 151, .inl (fun _ => 0))), (xa 24, .inl (cI, 151, .inl (fun _ => 0))), (xa 25, .inr (0, [.ref (xa 26), .int 0, .int 0, .int 0, .int (-1), .int 0, .int 0, .int 0])), (xa 26, .inr (3, [.ref (xa 27), .int 0])), (xa 27, .inl (cI, 300, .inl (fun _ => 0))), (ma 0, .inr (5, [.int 0, .ref (ma 1), .int 0, .ref (ma 2), .int 0, .int 3, .int 0, .int 0, .ref (ma 3), .ref (ma 4), .ref (ma 5), .ref (ma 6), .int 0, .int 0, .ref (ma 7), .int 0, .ref (ma 8), .int (-1), .ref (ma 9), .ref (ma 10), .ref (ma 11), .ref (ma 12), .ref (ma 13), .int 0, .int 0])), (ma 1, .inl (cI, 150, .inl (fun _ => 0))), (ma 2, .inl (cI, 150, .inl (fun _ => 0))), (ma 3, .inl (cI, 150, .inl (fun _ => 0))), (ma 4, .inl (cI, 150, .inl (fun _ => 0))), (ma 5, .inl (cI, 150, .inl (fun _ => 0))), (ma 6, .inl (cI, 150, .inl (fun _ => 0))), (ma 7, .inl (cI, 400, .inl (fun _ => 0))), (ma 8, .inl (cI, 300, .inl (fun _ => 0))), (ma 9, .inl (cI, 151, .inl (fun _ => 0))), (ma 10, .inl (cI, 151, .inl (fun _ => 0))), (ma 11, .inl (cI, 151, .inl (fun _ => 0))), (ma 12, .inl (cI, 151, .inl (fun _ => 0))), (ma 13, .inl (cI, 151, .inl (fun _ => 0)))] := hD
  refine W.widen (k := 42) (n := 5233) (by omega) (by omega) ?_
  have w12 := hw
  have w9 : ma 0 = q_1040 := w12
  rw [← w9]
  have hP : va_P (dC, dI) vwCl [(xa 0, .inr (4, [.ref (xa 1), .ref (xa 3), .ref (xa 5), .ref (xa 7), .ref (xa 16), .ref (xa 25), .int 3])), (xa 1, .inr (3, [.ref (xa 2), .int 0])), (xa 2, .inl (cI, 150, .inl (fun _ => 0))), (xa 3, .inr (3, [.ref (xa 4), .int 0])), (xa 4, .inl (cI, 150, .inl (fun _ => 0))), (xa 5, .inr (3, [.ref (xa 6), .int 0])), (xa 6, .inl (cI, 400, .inl (fun _ => 0))), (xa 7, .inr (1, [.ref (xa 8), .ref (xa 10), .ref (xa 12), .ref (xa 14), .int 0, .int 0])), (xa 8, .inr (3, [.ref (xa 9), .int 0])), (xa 9, .inl (cI, 150, .inl (fun _ => 0))), (xa 10, .inr (3, [.ref (xa 11), .int 0])), (xa 11, .inl (cI, 150, .inl (fun _ => 0))), (xa 12, .inr (3, [.ref (xa 13), .int 0])), (xa 13, .inl (cI, 150, .inl (fun _ => 0))), (xa 14, .inr (3, [.ref (xa 15), .int 0])), (xa 15, .inl (cI, 150, .inl (fun _ => 0))), (xa 16, .inr (2, [.ref (xa 17), .ref (xa 18), .ref (xa 19), .ref (xa 20), .ref (xa 21), .ref (xa 22), .ref (xa 23), .ref (xa 24)])), (xa 17, .inl (cI, 151, .inl (fun _ => 0))), (xa 18, .inl (cI, 151, .inl (fun _ => 0))), (xa 19, .inl (cI, 151, .inl (fun _ => 0))), (xa 20, .inl (cI, 151, .inl (fun _ => 0))), (xa 21, .inl (cI, 151, .inl (fun _ => 0))), (xa 22, .inl (cI, 151, .inl (fun _ => 0))), (xa 23, .inl (cI, 151, .inl (fun _ => 0))), (xa 24, .inl (cI, 151, .inl (fun _ => 0))), (xa 25, .inr (0, [.ref (xa 26), .int 0, .int 0, .int 0, .int (-1), .int 0, .int 0, .int 0])), (xa 26, .inr (3, [.ref (xa 27), .int 0])), (xa 27, .inl (cI, 300, .inl (fun _ => 0))), (ma 0, .inr (5, [.int 0, .ref (ma 1), .int 0, .ref (ma 2), .int 0, .int 3, .int 0, .int 0, .ref (ma 3), .ref (ma 4), .ref (ma 5), .ref (ma 6), .int 0, .int 0, .ref (ma 7), .int 0, .ref (ma 8), .int (-1), .ref (ma 9), .ref (ma 10), .ref (ma 11), .ref (ma 12), .ref (ma 13), .int 0, .int 0])), (ma 1, .inl (cI, 150, .inl (fun _ => 0))), (ma 2, .inl (cI, 150, .inl (fun _ => 0))), (ma 3, .inl (cI, 150, .inl (fun _ => 0))), (ma 4, .inl (cI, 150, .inl (fun _ => 0))), (ma 5, .inl (cI, 150, .inl (fun _ => 0))), (ma 6, .inl (cI, 150, .inl (fun _ => 0))), (ma 7, .inl (cI, 400, .inl (fun _ => 0))), (ma 8, .inl (cI, 300, .inl (fun _ => 0))), (ma 9, .inl (cI, 151, .inl (fun _ => 0))), (ma 10, .inl (cI, 151, .inl (fun _ => 0))), (ma 11, .inl (cI, 151, .inl (fun _ => 0))), (ma 12, .inl (cI, 151, .inl (fun _ => 0))), (ma 13, .inl (cI, 151, .inl (fun _ => 0)))] H := hP
  refine lv_astore_n (lv' := [(2, .ref (ma 0)), (1, .ref (xa 0)), (0, .ref b)]) hx hb dL_law_15 rfl hl (by decide) rfl (fun ls hl => ?_)
  refine lv_iconst (v := 1) hx hb dL_law_16 (by decide) ?_
  refine va_newa (atype := .long) (ty := .long) (N' := 1) (a0 := (1, .inr (.inl (fun _ => 0)))) hx hb (hts (.arrayClass .long) (by decide +kernel)) rfl hK hP hD hS hA (fun _ => rfl) (by decide) (by decide) (by decide) (Nat.le_of_ble_eq_true rfl) (Nat.le_of_ble_eq_true rfl) dL_law_17 (fun q_1042 cA H hK hP hD hS => ?_)
  obtain rfl : cL = cA := (zz_sameL hK 1 3 rfl rfl).symm
  have hK := hK.sub (tys' := [(cI, .int), (cL, .long), (cD, .double)]) [0, 1, 2] rfl
  have hP : va_P (dC, dI) vwCl [(xa 0, .inr (4, [.ref (xa 1), .ref (xa 3), .ref (xa 5), .ref (xa 7), .ref (xa 16), .ref (xa 25), .int 3])), (xa 1, .inr (3, [.ref (xa 2), .int 0])), (xa 2, .inl (cI, 150, .inl (fun _ => 0))), (xa 3, .inr (3, [.ref (xa 4), .int 0])), (xa 4, .inl (cI, 150, .inl (fun _ => 0))), (xa 5, .inr (3, [.ref (xa 6), .int 0])), (xa 6, .inl (cI, 400, .inl (fun _ => 0))), (xa 7, .inr (1, [.ref (xa 8), .ref (xa 10), .ref (xa 12), .ref (xa 14), .int 0, .int 0])), (xa 8, .inr (3, [.ref (xa 9), .int 0])), (xa 9, .inl (cI, 150, .inl (fun _ => 0))), (xa 10, .inr (3, [.ref (xa 11), .int 0])), (xa 11, .inl (cI, 150, .inl (fun _ => 0))), (xa 12, .inr (3, [.ref (xa 13), .int 0])), (xa 13, .inl (cI, 150, .inl (fun _ => 0))), (xa 14, .inr (3, [.ref (xa 15), .int 0])), (xa 15, .inl (cI, 150, .inl (fun _ => 0))), (xa 16, .inr (2, [.ref (xa 17), .ref (xa 18), .ref (xa 19), .ref (xa 20), .ref (xa 21), .ref (xa 22), .ref (xa 23), .ref (xa 24)])), (xa 17, .inl (cI, 151, .inl (fun _ => 0))), (xa 18, .inl (cI, 151, .inl (fun _ => 0))), (xa 19, .inl (cI, 151, .inl (fun _ => 0))), (xa 20, .inl (cI, 151, .inl (fun _ => 0))), (xa 21, .inl (cI, 151, .inl (fun _ => 0))), (xa 22, .inl (cI, 151, .inl (fun _ => 0))), (xa 23, .inl (cI, 151, .inl (fun _ => 0))), (xa 24, .inl (cI, 151, .inl (fun _ => 0))), (xa 25, .inr (0, [.ref (xa 26), .int 0, .int 0, .int 0, .int (-1), .int 0, .int 0, .int 0])), (xa 26, .inr (3, [.ref (xa 27), .int 0])), (xa 27, .inl (cI, 300, .inl (fun _ => 0))), (ma 0, .inr (5, [.int 0, .ref (ma 1), .int 0, .ref (ma 2), .int 0, .int 3, .int 0, .int 0, .ref (ma 3), .ref (ma 4), .ref (ma 5), .ref (ma 6), .int 0, .int 0, .ref (ma 7), .int 0, .ref (ma 8), .int (-1), .ref (ma 9), .ref (ma 10), .ref (ma 11), .ref (ma 12), .ref (ma 13), .int 0, .int 0])), (ma 1, .inl (cI, 150, .inl (fun _ => 0))), (ma 2, .inl (cI, 150, .inl (fun _ => 0))), (ma 3, .inl (cI, 150, .inl (fun _ => 0))), (ma 4, .inl (cI, 150, .inl (fun _ => 0))), (ma 5, .inl (cI, 150, .inl (fun _ => 0))), (ma 6, .inl (cI, 150, .inl (fun _ => 0))), (ma 7, .inl (cI, 400, .inl (fun _ => 0))), (ma 8, .inl (cI, 300, .inl (fun _ => 0))), (ma 9, .inl (cI, 151, .inl (fun _ => 0))), (ma 10, .inl (cI, 151, .inl (fun _ => 0))), (ma 11, .inl (cI, 151, .inl (fun _ => 0))), (ma 12, .inl (cI, 151, .inl (fun _ => 0))), (ma 13, .inl (cI, 151, .inl (fun _ => 0))), (q_1042, .inl (cL, 1, .inr (.inl (fun _ => 0))))] H := hP
  have hD : va_D A [(xa 0, .inr (4, [.ref (xa 1), .ref (xa 3), .ref (xa 5), .ref (xa 7), .ref (xa 16), .ref (xa 25), .int 3])), (xa 1, .inr (3, [.ref (xa 2), .int 0])), (xa 2, .inl (cI, 150, .inl (fun _ => 0))), (xa 3, .inr (3, [.ref (xa 4), .int 0])), (xa 4, .inl (cI, 150, .inl (fun _ => 0))), (xa 5, .inr (3, [.ref (xa 6), .int 0])), (xa 6, .inl (cI, 400, .inl (fun _ => 0))), (xa 7, .inr (1, [.ref (xa 8), .ref (xa 10), .ref (xa 12), .ref (xa 14), .int 0, .int 0])), (xa 8, .inr (3, [.ref (xa 9), .int 0])), (xa 9, .inl (cI, 150, .inl (fun _ => 0))), (xa 10, .inr (3, [.ref (xa 11), .int 0])), (xa 11, .inl (cI, 150, .inl (fun _ => 0))), (xa 12, .inr (3, [.ref (xa 13), .int 0])), (xa 13, .inl (cI, 150, .inl (fun _ => 0))), (xa 14, .inr (3, [.ref (xa 15), .int 0])), (xa 15, .inl (cI, 150, .inl (fun _ => 0))), (xa 16, .inr (2, [.ref (xa 17), .ref (xa 18), .ref (xa 19), .ref (xa 20), .ref (xa 21), .ref (xa 22), .ref (xa 23), .ref (xa 24)])), (xa 17, .inl (cI, 151, .inl (fun _ => 0))), (xa 18, .inl (cI, 151, .inl (fun _ => 0))), (xa 19, .inl (cI, 151, .inl (fun _ => 0))), (xa 20, .inl (cI, 151, .inl (fun _ => 0))), (xa 21, .inl (cI, 151, .inl (fun _ => 0))), (xa 22, .inl (cI, 151, .inl (fun _ => 0))), (xa 23, .inl (cI, 151, .inl (fun _ => 0))), (xa 24, .inl (cI, 151, .inl (fun _ => 0))), (xa 25, .inr (0, [.ref (xa 26), .int 0, .int 0, .int 0, .int (-1), .int 0, .int 0, .int 0])), (xa 26, .inr (3, [.ref (xa 27), .int 0])), (xa 27, .inl (cI, 300, .inl (fun _ => 0))), (ma 0, .inr (5, [.int 0, .ref (ma 1), .int 0, .ref (ma 2), .int 0, .int 3, .int 0, .int 0, .ref (ma 3), .ref (ma 4), .ref (ma 5), .ref (ma 6), .int 0, .int 0, .ref (ma 7), .int 0, .ref (ma 8), .int (-1), .ref (ma 9), .ref (ma 10), .ref (ma 11), .ref (ma 12), .ref (ma 13), .int 0, .int 0])), (ma 1, .inl (cI, 150, .inl (fun _ => 0))), (ma 2, .inl (cI, 150, .inl (fun _ => 0))), (ma 3, .inl (cI, 150, .inl (fun _ => 0))), (ma 4, .inl (cI, 150, .inl (fun _ => 0))), (ma 5, .inl (cI, 150, .inl (fun _ => 0))), (ma 6, .inl (cI, 150, .inl (fun _ => 0))), (ma 7, .inl (cI, 400, .inl (fun _ => 0))), (ma 8, .inl (cI, 300, .inl (fun _ => 0))), (ma 9, .inl (cI, 151, .inl (fun _ => 0))), (ma 10, .inl (cI, 151, .inl (fun _ => 0))), (ma 11, .inl (cI, 151, .inl (fun _ => 0))), (ma 12, .inl (cI, 151, .inl (fun _ => 0))), (ma 13, .inl (cI, 151, .inl (fun _ => 0))), (q_1042, .inl (cL, 1, .inr (.inl (fun _ => 0))))] := hD
  refine W.widen (k := 43) (n := 5234) (by omega) (by omega) ?_
  refine lv_astore_n (lv' := [(3, .ref q_1042), (2, .ref (ma 0)), (1, .ref (xa 0)), (0, .ref b)]) hx hb dL_law_19 rfl hl (by decide) rfl (fun ls hl => ?_)
  refine lv_iconst (v := 1) hx hb dL_law_20 (by decide) ?_
  refine va_newa (atype := .double) (ty := .double) (N' := 1) (a0 := (1, .inr (.inr (.inr (.inl (fun _ => 0)))))) hx hb (hts (.arrayClass .double) (by decide +kernel)) rfl hK hP hD hS hA (fun _ => rfl) (by decide) (by decide) (by decide) (Nat.le_of_ble_eq_true rfl) (Nat.le_of_ble_eq_true rfl) dL_law_21 (fun q_1043 cA H hK hP hD hS => ?_)
  obtain rfl : cD = cA := (zz_sameD hK 2 3 rfl rfl).symm
  have hK := hK.sub (tys' := [(cI, .int), (cL, .long), (cD, .double)]) [0, 1, 2] rfl
  have hP : va_P (dC, dI) vwCl [(xa 0, .inr (4, [.ref (xa 1), .ref (xa 3), .ref (xa 5), .ref (xa 7), .ref (xa 16), .ref (xa 25), .int 3])), (xa 1, .inr (3, [.ref (xa 2), .int 0])), (xa 2, .inl (cI, 150, .inl (fun _ => 0))), (xa 3, .inr (3, [.ref (xa 4), .int 0])), (xa 4, .inl (cI, 150, .inl (fun _ => 0))), (xa 5, .inr (3, [.ref (xa 6), .int 0])), (xa 6, .inl (cI, 400, .inl (fun _ => 0))), (xa 7, .inr (1, [.ref (xa 8), .ref (xa 10), .ref (xa 12), .ref (xa 14), .int 0, .int 0])), (xa 8, .inr (3, [.ref (xa 9), .int 0])), (xa 9, .inl (cI, 150, .inl (fun _ => 0))), (xa 10, .inr (3, [.ref (xa 11), .int 0])), (xa 11, .inl (cI, 150, .inl (fun _ => 0))), (xa 12, .inr (3, [.ref (xa 13), .int 0])), (xa 13, .inl (cI, 150, .inl (fun _ => 0))), (xa 14, .inr (3, [.ref (xa 15), .int 0])), (xa 15, .inl (cI, 150, .inl (fun _ => 0))), (xa 16, .inr (2, [.ref (xa 17), .ref (xa 18), .ref (xa 19), .ref (xa 20), .ref (xa 21), .ref (xa 22), .ref (xa 23), .ref (xa 24)])), (xa 17, .inl (cI, 151, .inl (fun _ => 0))), (xa 18, .inl (cI, 151, .inl (fun _ => 0))), (xa 19, .inl (cI, 151, .inl (fun _ => 0))), (xa 20, .inl (cI, 151, .inl (fun _ => 0))), (xa 21, .inl (cI, 151, .inl (fun _ => 0))), (xa 22, .inl (cI, 151, .inl (fun _ => 0))), (xa 23, .inl (cI, 151, .inl (fun _ => 0))), (xa 24, .inl (cI, 151, .inl (fun _ => 0))), (xa 25, .inr (0, [.ref (xa 26), .int 0, .int 0, .int 0, .int (-1), .int 0, .int 0, .int 0])), (xa 26, .inr (3, [.ref (xa 27), .int 0])), (xa 27, .inl (cI, 300, .inl (fun _ => 0))), (ma 0, .inr (5, [.int 0, .ref (ma 1), .int 0, .ref (ma 2), .int 0, .int 3, .int 0, .int 0, .ref (ma 3), .ref (ma 4), .ref (ma 5), .ref (ma 6), .int 0, .int 0, .ref (ma 7), .int 0, .ref (ma 8), .int (-1), .ref (ma 9), .ref (ma 10), .ref (ma 11), .ref (ma 12), .ref (ma 13), .int 0, .int 0])), (ma 1, .inl (cI, 150, .inl (fun _ => 0))), (ma 2, .inl (cI, 150, .inl (fun _ => 0))), (ma 3, .inl (cI, 150, .inl (fun _ => 0))), (ma 4, .inl (cI, 150, .inl (fun _ => 0))), (ma 5, .inl (cI, 150, .inl (fun _ => 0))), (ma 6, .inl (cI, 150, .inl (fun _ => 0))), (ma 7, .inl (cI, 400, .inl (fun _ => 0))), (ma 8, .inl (cI, 300, .inl (fun _ => 0))), (ma 9, .inl (cI, 151, .inl (fun _ => 0))), (ma 10, .inl (cI, 151, .inl (fun _ => 0))), (ma 11, .inl (cI, 151, .inl (fun _ => 0))), (ma 12, .inl (cI, 151, .inl (fun _ => 0))), (ma 13, .inl (cI, 151, .inl (fun _ => 0))), (q_1042, .inl (cL, 1, .inr (.inl (fun _ => 0)))), (q_1043, .inl (cD, 1, .inr (.inr (.inr (.inl (fun _ => 0))))))] H := hP
  have hD : va_D A [(xa 0, .inr (4, [.ref (xa 1), .ref (xa 3), .ref (xa 5), .ref (xa 7), .ref (xa 16), .ref (xa 25), .int 3])), (xa 1, .inr (3, [.ref (xa 2), .int 0])), (xa 2, .inl (cI, 150, .inl (fun _ => 0))), (xa 3, .inr (3, [.ref (xa 4), .int 0])), (xa 4, .inl (cI, 150, .inl (fun _ => 0))), (xa 5, .inr (3, [.ref (xa 6), .int 0])), (xa 6, .inl (cI, 400, .inl (fun _ => 0))), (xa 7, .inr (1, [.ref (xa 8), .ref (xa 10), .ref (xa 12), .ref (xa 14), .int 0, .int 0])), (xa 8, .inr (3, [.ref (xa 9), .int 0])), (xa 9, .inl (cI, 150, .inl (fun _ => 0))), (xa 10, .inr (3, [.ref (xa 11), .int 0])), (xa 11, .inl (cI, 150, .inl (fun _ => 0))), (xa 12, .inr (3, [.ref (xa 13), .int 0])), (xa 13, .inl (cI, 150, .inl (fun _ => 0))), (xa 14, .inr (3, [.ref (xa 15), .int 0])), (xa 15, .inl (cI, 150, .inl (fun _ => 0))), (xa 16, .inr (2, [.ref (xa 17), .ref (xa 18), .ref (xa 19), .ref (xa 20), .ref (xa 21), .ref (xa 22), .ref (xa 23), .ref (xa 24)])), (xa 17, .inl (cI, 151, .inl (fun _ => 0))), (xa 18, .inl (cI, 151, .inl (fun _ => 0))), (xa 19, .inl (cI, 151, .inl (fun _ => 0))), (xa 20, .inl (cI, 151, .inl (fun _ => 0))), (xa 21, .inl (cI, 151, .inl (fun _ => 0))), (xa 22, .inl (cI, 151, .inl (fun _ => 0))), (xa 23, .inl (cI, 151, .inl (fun _ => 0))), (xa 24, .inl (cI, 151, .inl (fun _ => 0))), (xa 25, .inr (0, [.ref (xa 26), .int 0, .int 0, .int 0, .int (-1), .int 0, .int 0, .int 0])), (xa 26, .inr (3, [.ref (xa 27), .int 0])), (xa 27, .inl (cI, 300, .inl (fun _ => 0))), (ma 0, .inr (5, [.int 0, .ref (ma 1), .int 0, .ref (ma 2), .int 0, .int 3, .int 0, .int 0, .ref (ma 3), .ref (ma 4), .ref (ma 5), .ref (ma 6), .int 0, .int 0, .ref (ma 7), .int 0, .ref (ma 8), .int (-1), .ref (ma 9), .ref (ma 10), .ref (ma 11), .ref (ma 12), .ref (ma 13), .int 0, .int 0])), (ma 1, .inl (cI, 150, .inl (fun _ => 0))), (ma 2, .inl (cI, 150, .inl (fun _ => 0))), (ma 3, .inl (cI, 150, .inl (fun _ => 0))), (ma 4, .inl (cI, 150, .inl (fun _ => 0))), (ma 5, .inl (cI, 150, .inl (fun _ => 0))), (ma 6, .inl (cI, 150, .inl (fun _ => 0))), (ma 7, .inl (cI, 400, .inl (fun _ => 0))), (ma 8, .inl (cI, 300, .inl (fun _ => 0))), (ma 9, .inl (cI, 151, .inl (fun _ => 0))), (ma 10, .inl (cI, 151, .inl (fun _ => 0))), (ma 11, .inl (cI, 151, .inl (fun _ => 0))), (ma 12, .inl (cI, 151, .inl (fun _ => 0))), (ma 13, .inl (cI, 151, .inl (fun _ => 0))), (q_1042, .inl (cL, 1, .inr (.inl (fun _ => 0)))), (q_1043, .inl (cD, 1, .inr (.inr (.inr (.inl (fun _ => 0))))))] := hD
  refine W.widen (k := 44) (n := 5235) (by omega) (by omega) ?_
  refine lv_astore (lv' := [(4, .ref q_1043), (3, .ref q_1042), (2, .ref (ma 0)), (1, .ref (xa 0)), (0, .ref b)]) hx hb dL_law_23 hl (by decide) rfl (fun ls hl => ?_)
  refine lv_iconst (v := 0) hx hb dL_law_25 (by decide) ?_
  refine lv_istore (lv' := [(5, .int 0), (4, .ref q_1043), (3, .ref q_1042), (2, .ref (ma 0)), (1, .ref (xa 0)), (0, .ref b)]) hx hb dL_law_26 hl (by decide) rfl (fun ls hl => ?_)
  by_cases hL5 : L = 5
  · skip
    subst hL5
    refine lv_iload hx hb dL_law_28 (lv_at hl 0 rfl) ?_
    refine lv_aload_n hx hb dL_law_30 rfl (lv_at hl 5 rfl) ?_
    refine va_slen hx hb hX hbl hbA hS dL_law_31 ?_
    refine lv_topi (fun x_1044 ex_1044 => ?_)
    obtain rfl : 5 = x_1044 := (ex_1044.trans (by decide)).symm
    refine lv_iconst (v := 5) hx hb dL_law_32 (by decide) ?_
    refine lv_isub hx hb dL_law_33 ?_
    refine lv_topi (fun x_1045 ex_1045 => ?_)
    obtain rfl : 0 = x_1045 := (ex_1045.trans (by decide)).symm
    refine lv_icmp_gt (tgt := 1850) hx hb dL_law_34 (by decide) (fun h => absurd h (by decide)) (fun c34 => ?_)
    refine lv_aload_n hx hb dL_law_37 rfl (lv_at hl 5 rfl) ?_
    refine lv_iload hx hb dL_law_38 (lv_at hl 0 rfl) ?_
    refine va_sld hx hb hX hbl hbA hS (by unfold vp_in; decide) dL_law_40 ?_
    refine lv_topi (fun x_1046 ex_1046 => ?_)
    obtain rfl : xs 0 = x_1046 := ex_1046.symm
    refine lv_bipush (v := 63) hx hb dL_law_41 (by decide) ?_
    refine lv_iand hx hb dL_law_43 ?_
    refine lv_topi (fun x_1047 ex_1047 => ?_)
    have hP9 := hP.sub (ws' := wl cI cL cD xa ma q_1042 q_1043) [0, 1, 2, 3, 4, 5, 6, 7, 8, 9, 10, 11, 12, 13, 14, 15, 16, 17, 18, 19, 20, 21, 22, 23, 24, 25, 26, 27, 28, 29, 30, 31, 32, 33, 34, 35, 36, 37, 38, 39, 40, 41, 42, 43] rfl
    have hD9 := hD.sub (ws' := wl cI cL cD xa ma q_1042 q_1043) [0, 1, 2, 3, 4, 5, 6, 7, 8, 9, 10, 11, 12, 13, 14, 15, 16, 17, 18, 19, 20, 21, 22, 23, 24, 25, 26, 27, 28, 29, 30, 31, 32, 33, 34, 35, 36, 37, 38, 39, 40, 41, 42, 43] (by decide) rfl
    have hl9 := lv_sub hl [0, 1, 2, 3, 4, 5] (l' := [(5, .int 0), (4, .ref q_1043), (3, .ref q_1042), (2, .ref (ma 0)), (1, .ref (xa 0)), (0, .ref b)]) rfl
    have kk9 : ∀ (H : Heap) (locs : List Loc) (ls : Array Slot), va_S A s.heap H locs → lv_has ls 9 [(5, .int 0), (0, .ref b)] → W p l e room_1 s m #[Value.ref b] below meth c H locs 60 6000 (lw_Z below #[Value.ref b] s) (F0 m 1844 ls []) := fun H locs ls hS hl => la_tail hx hb hr hlocks hX hbl H locs ls (hAe ▸ hS) hl
    obtain ⟨n, hn, hv⟩ := pk_andE (xs 0) (m := 63) 6 (by decide)
    obtain rfl : nI n = x_1047 := (ex_1047.trans hv).symm
    by_cases h0 : n = 0
    · subst h0
      refine lv_tableIn (x := nI 0) (off := 152) (tgt := 196) hx hb dL_law_44 (by decide) (by decide) (by decide) (by decide) ?_
      exact ca_0 hfl dC dI cI cL cD xa ma q_1042 q_1043 hx hb hml hown hts hA hK hZ hX hbl hbA kk9 _ _ ls hP9 hD9 hS hl9
    by_cases h1 : n = 1
    · subst h1
      refine lv_tableIn (x := nI 1) (off := 264) (tgt := 308) hx hb dL_law_44 (by decide) (by decide) (by decide) (by decide) ?_
      exact ca_1 hfl dC dI cI cL cD xa ma q_1042 q_1043 hx hb hml hown hts hA hK hZ hX hbl hbA kk9 _ _ ls hP9 hD9 hS hl9
    by_cases h2 : n = 2
    · subst h2
      refine lv_tableIn (x := nI 2) (off := 344) (tgt := 388) hx hb dL_law_44 (by decide) (by decide) (by decide) (by decide) ?_
      exact ca_2 hfl dC dI cI cL cD xa ma q_1042 q_1043 hx hb hml hown hts hA hK hZ hX hbl hbA kk9 _ _ ls hP9 hD9 hS hl9
    by_cases h3 : n = 3
    · subst h3
      refine lv_tableIn (x := nI 3) (off := 412) (tgt := 456) hx hb dL_law_44 (by decide) (by decide) (by decide) (by decide) ?_
      exact ca_3 hfl dC dI cI cL cD xa ma q_1042 q_1043 hx hb hml hown hts hA hK hZ hX hbl hbA kk9 _ _ ls hP9 hD9 hS hl9
    by_cases h4 : n = 4
    · subst h4
      refine lv_tableIn (x := nI 4) (off := 492) (tgt := 536) hx hb dL_law_44 (by decide) (by decide) (by decide) (by decide) ?_
      exact ca_4 hfl dC dI cI cL cD xa ma q_1042 q_1043 hx hb hml hown hts hA hK hZ hX hbl hbA kk9 _ _ ls hP9 hD9 hS hl9
    by_cases h5 : n = 5
    · subst h5
      refine lv_tableIn (x := nI 5) (off := 548) (tgt := 592) hx hb dL_law_44 (by decide) (by decide) (by decide) (by decide) ?_
      exact ca_5 hfl dC dI cI cL cD xa ma q_1042 q_1043 hx hb hml hown hts hA hK hZ hX hbl hbA kk9 _ _ ls hP9 hD9 hS hl9
    by_cases h6 : n = 6
    · subst h6
      refine lv_tableIn (x := nI 6) (off := 616) (tgt := 660) hx hb dL_law_44 (by decide) (by decide) (by decide) (by decide) ?_
      exact ca_6 hfl dC dI cI cL cD xa ma q_1042 q_1043 hx hb hml hown hts hA hK hZ hX hbl hbA kk9 _ _ ls hP9 hD9 hS hl9
    by_cases h7 : n = 7
    · subst h7
      refine lv_tableIn (x := nI 7) (off := 629) (tgt := 673) hx hb dL_law_44 (by decide) (by decide) (by decide) (by decide) ?_
      exact ca_7 hfl dC dI cI cL cD xa ma q_1042 q_1043 hx hb hml hown hts hA hK hZ hX hbl hbA kk9 _ _ ls hP9 hD9 hS hl9
    by_cases h8 : n = 8
    · subst h8
      refine lv_tableIn (x := nI 8) (off := 642) (tgt := 686) hx hb dL_law_44 (by decide) (by decide) (by decide) (by decide) ?_
      exact ca_8 hfl dC dI cI cL cD xa ma q_1042 q_1043 hx hb hml hown hts hA hK hZ hX hbl hbA kk9 _ _ ls hP9 hD9 hS hl9
    by_cases h9 : n = 9
    · subst h9
      refine lv_tableIn (x := nI 9) (off := 722) (tgt := 766) hx hb dL_law_44 (by decide) (by decide) (by decide) (by decide) ?_
      exact ca_9 hfl dC dI cI cL cD xa ma q_1042 q_1043 hx hb hml hown hts hA hK hZ hX hbl hbA kk9 _ _ ls hP9 hD9 hS hl9
    by_cases h10 : n = 10
    · subst h10
      refine lv_tableIn (x := nI 10) (off := 790) (tgt := 834) hx hb dL_law_44 (by decide) (by decide) (by decide) (by decide) ?_
      exact ca_10 hfl dC dI cI cL cD xa ma q_1042 q_1043 hx hb hml hown hts hA hK hZ hX hbl hbA kk9 _ _ ls hP9 hD9 hS hl9
    by_cases h11 : n = 11
    · subst h11
      refine lv_tableIn (x := nI 11) (off := 858) (tgt := 902) hx hb dL_law_44 (by decide) (by decide) (by decide) (by decide) ?_
      exact ca_11 hfl dC dI cI cL cD xa ma q_1042 q_1043 hx hb hml hown hts hA hK hZ hX hbl hbA kk9 _ _ ls hP9 hD9 hS hl9
    by_cases h12 : n = 12
    · subst h12
      refine lv_tableIn (x := nI 12) (off := 914) (tgt := 958) hx hb dL_law_44 (by decide) (by decide) (by decide) (by decide) ?_
      exact ca_12 hfl dC dI cI cL cD xa ma q_1042 q_1043 hx hb hml hown hts hA hK hZ hX hbl hbA kk9 _ _ ls hP9 hD9 hS hl9
    by_cases h13 : n = 13
    · subst h13
      refine lv_tableIn (x := nI 13) (off := 970) (tgt := 1014) hx hb dL_law_44 (by decide) (by decide) (by decide) (by decide) ?_
      exact ca_13 hfl dC dI cI cL cD xa ma q_1042 q_1043 hx hb hml hown hts hA hK hZ hX hbl hbA kk9 _ _ ls hP9 hD9 hS hl9
    by_cases h14 : n = 14
    · subst h14
      refine lv_tableIn (x := nI 14) (off := 983) (tgt := 1027) hx hb dL_law_44 (by decide) (by decide) (by decide) (by decide) ?_
      exact ca_14 hfl dC dI cI cL cD xa ma q_1042 q_1043 hx hb hml hown hts hA hK hZ hX hbl hbA kk9 _ _ ls hP9 hD9 hS hl9
    by_cases h15 : n = 15
    · subst h15
      refine lv_tableIn (x := nI 15) (off := 996) (tgt := 1040) hx hb dL_law_44 (by decide) (by decide) (by decide) (by decide) ?_
      exact ca_15 hfl dC dI cI cL cD xa ma q_1042 q_1043 hx hb hml hown hts hA hK hZ hX hbl hbA kk9 _ _ ls hP9 hD9 hS hl9
    by_cases h16 : n = 16
    · subst h16
      refine lv_tableIn (x := nI 16) (off := 1040) (tgt := 1084) hx hb dL_law_44 (by decide) (by decide) (by decide) (by decide) ?_
      exact ca_16 hfl dC dI cI cL cD xa ma q_1042 q_1043 hx hb hml hown hts hA hK hZ hX hbl hbA kk9 _ _ ls hP9 hD9 hS hl9
    by_cases h17 : n = 17
    · subst h17
      refine lv_tableIn (x := nI 17) (off := 1096) (tgt := 1140) hx hb dL_law_44 (by decide) (by decide) (by decide) (by decide) ?_
      exact ca_17 hfl dC dI cI cL cD xa ma q_1042 q_1043 hx hb hml hown hts hA hK hZ hX hbl hbA kk9 _ _ ls hP9 hD9 hS hl9
    by_cases h18 : n = 18
    · subst h18
      refine lv_tableIn (x := nI 18) (off := 1152) (tgt := 1196) hx hb dL_law_44 (by decide) (by decide) (by decide) (by decide) ?_
      exact ca_18 hfl dC dI cI cL cD xa ma q_1042 q_1043 hx hb hml hown hts hA hK hZ hX hbl hbA kk9 _ _ ls hP9 hD9 hS hl9
    by_cases h19 : n = 19
    · subst h19
      refine lv_tableIn (x := nI 19) (off := 1208) (tgt := 1252) hx hb dL_law_44 (by decide) (by decide) (by decide) (by decide) ?_
      exact ca_19 hfl dC dI cI cL cD xa ma q_1042 q_1043 hx hb hml hown hts hA hK hZ hX hbl hbA kk9 _ _ ls hP9 hD9 hS hl9
    by_cases h20 : n = 20
    · subst h20
      refine lv_tableIn (x := nI 20) (off := 1264) (tgt := 1308) hx hb dL_law_44 (by decide) (by decide) (by decide) (by decide) ?_
      exact ca_20 hfl dC dI cI cL cD xa ma q_1042 q_1043 hx hb hml hown hts hA hK hZ hX hbl hbA kk9 _ _ ls hP9 hD9 hS hl9
    by_cases h21 : n = 21
    · subst h21
      refine lv_tableIn (x := nI 21) (off := 1320) (tgt := 1364) hx hb dL_law_44 (by decide) (by decide) (by decide) (by decide) ?_
      exact ca_21 hfl dC dI cI cL cD xa ma q_1042 q_1043 hx hb hml hown hts hA hK hZ hX hbl hbA kk9 _ _ ls hP9 hD9 hS hl9
    by_cases h22 : n = 22
    · subst h22
      refine lv_tableIn (x := nI 22) (off := 1385) (tgt := 1429) hx hb dL_law_44 (by decide) (by decide) (by decide) (by decide) ?_
      exact ca_22 hfl dC dI cI cL cD xa ma q_1042 q_1043 hx hb hml hown hts hA hK hZ hX hbl hbA kk9 _ _ ls hP9 hD9 hS hl9
    by_cases h23 : n = 23
    · subst h23
      refine lv_tableIn (x := nI 23) (off := 1429) (tgt := 1473) hx hb dL_law_44 (by decide) (by decide) (by decide) (by decide) ?_
      exact ca_23 hfl dC dI cI cL cD xa ma q_1042 q_1043 hx hb hml hown hts hA hK hZ hX hbl hbA kk9 _ _ ls hP9 hD9 hS hl9
    by_cases h24 : n = 24
    · subst h24
      refine lv_tableIn (x := nI 24) (off := 1442) (tgt := 1486) hx hb dL_law_44 (by decide) (by decide) (by decide) (by decide) ?_
      exact ca_24 hfl dC dI cI cL cD xa ma q_1042 q_1043 hx hb hml hown hts hA hK hZ hX hbl hbA kk9 _ _ ls hP9 hD9 hS hl9
    by_cases h25 : n = 25
    · subst h25
      refine lv_tableIn (x := nI 25) (off := 1498) (tgt := 1542) hx hb dL_law_44 (by decide) (by decide) (by decide) (by decide) ?_
      exact ca_25 hfl dC dI cI cL cD xa ma q_1042 q_1043 hx hb hml hown hts hA hK hZ hX hbl hbA kk9 _ _ ls hP9 hD9 hS hl9
    by_cases h26 : n = 26
    · subst h26
      refine lv_tableIn (x := nI 26) (off := 1566) (tgt := 1610) hx hb dL_law_44 (by decide) (by decide) (by decide) (by decide) ?_
      exact ca_26 hfl dC dI cI cL cD xa ma q_1042 q_1043 hx hb hml hown hts hA hK hZ hX hbl hbA kk9 _ _ ls hP9 hD9 hS hl9
    by_cases h27 : n = 27
    · subst h27
      refine lv_tableIn (x := nI 27) (off := 1622) (tgt := 1666) hx hb dL_law_44 (by decide) (by decide) (by decide) (by decide) ?_
      exact ca_27 hfl dC dI cI cL cD xa ma q_1042 q_1043 hx hb hml hown hts hA hK hZ hX hbl hbA kk9 _ _ ls hP9 hD9 hS hl9
    by_cases h28 : n = 28
    · subst h28
      refine lv_tableIn (x := nI 28) (off := 1678) (tgt := 1722) hx hb dL_law_44 (by decide) (by decide) (by decide) (by decide) ?_
      exact ca_28 hfl dC dI cI cL cD xa ma q_1042 q_1043 hx hb hml hown hts hA hK hZ hX hbl hbA kk9 _ _ ls hP9 hD9 hS hl9
    by_cases h29 : n = 29
    · subst h29
      refine lv_tableIn (x := nI 29) (off := 1691) (tgt := 1735) hx hb dL_law_44 (by decide) (by decide) (by decide) (by decide) ?_
      exact ca_29 hfl dC dI cI cL cD xa ma q_1042 q_1043 hx hb hml hown hts hA hK hZ hX hbl hbA kk9 _ _ ls hP9 hD9 hS hl9
    by_cases h30 : n = 30
    · subst h30
      refine lv_tableIn (x := nI 30) (off := 1704) (tgt := 1748) hx hb dL_law_44 (by decide) (by decide) (by decide) (by decide) ?_
      exact ca_30 hfl dC dI cI cL cD xa ma q_1042 q_1043 hx hb hml hown hts hA hK hZ hX hbl hbA kk9 _ _ ls hP9 hD9 hS hl9
    by_cases h31 : n = 31
    · subst h31
      refine lv_tableIn (x := nI 31) (off := 1717) (tgt := 1761) hx hb dL_law_44 (by decide) (by decide) (by decide) (by decide) ?_
      exact ca_31 hfl dC dI cI cL cD xa ma q_1042 q_1043 hx hb hml hown hts hA hK hZ hX hbl hbA kk9 _ _ ls hP9 hD9 hS hl9
    by_cases h32 : n = 32
    · subst h32
      refine lv_tableIn (x := nI 32) (off := 1773) (tgt := 1817) hx hb dL_law_44 (by decide) (by decide) (by decide) (by decide) ?_
      exact ca_32 hfl dC dI cI cL cD xa ma q_1042 q_1043 hx hb hml hown hts hA hK hZ hX hbl hbA kk9 _ _ ls hP9 hD9 hS hl9
    by_cases h33 : n = 33
    · subst h33
      refine lv_tableIn (x := nI 33) (off := 1786) (tgt := 1830) hx hb dL_law_44 (by decide) (by decide) (by decide) (by decide) ?_
      exact ca_33 hfl dC dI cI cL cD xa ma q_1042 q_1043 hx hb hml hown hts hA hK hZ hX hbl hbA kk9 _ _ ls hP9 hD9 hS hl9
    refine lv_tableOut (tgt := 1844) hx hb dL_law_44 (Or.inr (by rw [nI_toInt (by omega)]; omega)) (by decide) ?_
    refine W.widen (k := 60) (n := 6000) (by omega) (by omega) ?_
    exact kk9 _ _ ls hS (lv_sub hl9 [0, 5] rfl)
  · skip
    refine lv_iload hx hb dL_law_28 (lv_at hl 0 rfl) ?_
    refine lv_aload_n hx hb dL_law_30 rfl (lv_at hl 5 rfl) ?_
    refine va_slen hx hb hX hbl hbA hS dL_law_31 ?_
    refine lv_iconst (v := 5) hx hb dL_law_32 (by decide) ?_
    refine lv_isub hx hb dL_law_33 ?_
    refine lv_icmp_gt (tgt := 1850) hx hb dL_law_34 (by decide) (fun _ => ?_) (fun h => absurd (zz_L hL hL5) h)
    refine lv_iconst (v := 1) hx hb dL_law_1850 (by decide) ?_
    refine va_forget (fun q hq => by have h9 := hS.2.2 q hq; rw [hAe] at h9; exact h9) ?_
    refine W.widen (k := 600002) (n := 7302231) (by omega) (by omega) ?_
    exact lw_ret (d0 := s.drawn) (Drawn.sameBut.refl s.drawn lw_cs) hx hb hr hlocks dL_law_1851
