set_option maxHeartbeats 4000000 in
set_option maxRecDepth 100000 in
theorem lo_lkA {p : Program} {l : Launch} {e : Env} {s : State} {m : MethodId} {args : Array Value} {below : List Frame} {meth : Method} {c : Code} {Q : State → Prop} {A : Nat → Prop} (dC : Nat → ClassId) (dI : Nat → Nat → Nat) (cI : ClassId) (ma : Nat → Nat) (kt : Nat → Int32) (ka : Nat) (ki : Int32) (kc : Int32) (f9 : Nat → Int32) (f10 : Nat → Int32) (f11 : Nat → Int32) (f12 : Nat → Int32) (f13 : Nat → Int32) (h2 : ka < 150) (hx : p.tables.exec = Jvm.exec) (hb : c.code = cX5_look) (hml : c.maxLocals = 5) (hown : s.vm.findClass RX5 = some m.cls) (hts : ∀ w ∈ wsX5_look, w.before args s = true) (hA : ∀ q : Nat, s.heap.size ≤ q → A q) (hK : va_K (dC, dI) vwCl [(cI, .int)] s)
    (kk : ∀ (tn : Nat) (x : Int32) (g9 : Nat → Int32) (g10 : Nat → Int32) (g11 : Nat → Int32) (g12 : Nat → Int32) (g13 : Nat → Int32) (H : Heap) (locs : List Loc) (ls : Array Slot), zz_V g12 ka → zz_E g12 f12 ka → va_P (dC, dI) vwCl [(ma 0, .inr (5, [.int 0, .ref (ma 1), .int 0, .ref (ma 2), .int 150, .int 3, .int 0, .int ki, .ref (ma 3), .ref (ma 4), .ref (ma 5), .ref (ma 6), .int kc, .int 0, .ref (ma 7), .int 0, .ref (ma 8), .int (-1), .ref (ma 9), .ref (ma 10), .ref (ma 11), .ref (ma 12), .ref (ma 13), .int 0, .int 0])), (ma 2, .inl (cI, 150, .inl kt)), (ma 9, .inl (cI, 151, .inl g9)), (ma 10, .inl (cI, 151, .inl g10)), (ma 11, .inl (cI, 151, .inl g11)), (ma 12, .inl (cI, 151, .inl g12)), (ma 13, .inl (cI, 151, .inl g13))] H → va_D A [(ma 0, .inr (5, [.int 0, .ref (ma 1), .int 0, .ref (ma 2), .int 150, .int 3, .int 0, .int ki, .ref (ma 3), .ref (ma 4), .ref (ma 5), .ref (ma 6), .int kc, .int 0, .ref (ma 7), .int 0, .ref (ma 8), .int (-1), .ref (ma 9), .ref (ma 10), .ref (ma 11), .ref (ma 12), .ref (ma 13), .int 0, .int 0])), (ma 2, .inl (cI, 150, .inl kt)), (ma 9, .inl (cI, 151, .inl g9)), (ma 10, .inl (cI, 151, .inl g10)), (ma 11, .inl (cI, 151, .inl g11)), (ma 12, .inl (cI, 151, .inl g12)), (ma 13, .inl (cI, 151, .inl g13))] → va_S A s.heap H locs → lv_has ls 5 [(2, .int x), (1, .int (nI ka)), (0, .ref (ma 0))] → W p l e (headSpec wsX5_look ({ frames := 2, cells := 2, slots := 302, locals := 50 })).room s m args below meth c H locs 0 0 Q (F0 m 44 ls []))
    : ∀ (j : Nat) (tn : Nat) (x : Int32) (g9 : Nat → Int32) (g10 : Nat → Int32) (g11 : Nat → Int32) (g12 : Nat → Int32) (g13 : Nat → Int32) (H : Heap) (locs : List Loc) (ls : Array Slot), tn < j → (x = nI tn) → (ka + tn ≤ 150) → ((ka + tn = 150 ∧ g9 ka = -1) ∨ zz_V g12 ka) → (zz_E g12 f12 ka) → va_P (dC, dI) vwCl [(ma 0, .inr (5, [.int 0, .ref (ma 1), .int 0, .ref (ma 2), .int 150, .int 3, .int 0, .int ki, .ref (ma 3), .ref (ma 4), .ref (ma 5), .ref (ma 6), .int kc, .int 0, .ref (ma 7), .int 0, .ref (ma 8), .int (-1), .ref (ma 9), .ref (ma 10), .ref (ma 11), .ref (ma 12), .ref (ma 13), .int 0, .int 0])), (ma 2, .inl (cI, 150, .inl kt)), (ma 9, .inl (cI, 151, .inl g9)), (ma 10, .inl (cI, 151, .inl g10)), (ma 11, .inl (cI, 151, .inl g11)), (ma 12, .inl (cI, 151, .inl g12)), (ma 13, .inl (cI, 151, .inl g13))] H → va_D A [(ma 0, .inr (5, [.int 0, .ref (ma 1), .int 0, .ref (ma 2), .int 150, .int 3, .int 0, .int ki, .ref (ma 3), .ref (ma 4), .ref (ma 5), .ref (ma 6), .int kc, .int 0, .ref (ma 7), .int 0, .ref (ma 8), .int (-1), .ref (ma 9), .ref (ma 10), .ref (ma 11), .ref (ma 12), .ref (ma 13), .int 0, .int 0])), (ma 2, .inl (cI, 150, .inl kt)), (ma 9, .inl (cI, 151, .inl g9)), (ma 10, .inl (cI, 151, .inl g10)), (ma 11, .inl (cI, 151, .inl g11)), (ma 12, .inl (cI, 151, .inl g12)), (ma 13, .inl (cI, 151, .inl g13))] → va_S A s.heap H locs → lv_has ls 5 [(2, .int x), (1, .int (nI ka)), (0, .ref (ma 0))] → W p l e (headSpec wsX5_look ({ frames := 2, cells := 2, slots := 302, locals := 50 })).room s m args below meth c H locs 0 0 Q (F0 m 14 ls []) := by
  intro j
  induction j with
  | zero => intro tn x g9 g10 g11 g12 g13 H locs ls hj; omega
  | succ j ih =>
    intro tn x g9 g10 g11 g12 g13 H locs ls hj hx1 hbt hV hE hP hD hS hl
    refine lv_iload_n hx hb dX5_look_14 rfl (lv_at hl 0 rfl) ?_
    refine lv_iconst (v := 1) hx hb dX5_look_15 (by decide) ?_
    refine lv_icmp_lt (tgt := 44) hx hb dX5_look_16 (by decide) (fun c16 => ?_) (fun c16 => ?_)
    · skip
      exact kk tn x g9 g10 g11 g12 g13 H locs ls (hV.elim (fun h => by have h9 := h.1; exact absurd c16 (by rw [hx1]; show ¬ nI tn < nI 1; exact nI_nlt (by omega) (by omega))) id) hE (hP.sub [0, 1, 2, 3, 4, 5, 6] rfl) (hD.sub [0, 1, 2, 3, 4, 5, 6] (by decide) rfl) hS (lv_sub hl [0, 1, 2] rfl)
    · skip
      have hlt : 1 ≤ tn := Nat.le_of_not_lt (fun q => c16 (by rw [hx1]; show nI tn < nI 1; exact nI_lt q (by omega)))
      obtain ⟨t1, rfl⟩ : ∃ t1, tn = t1 + 1 := ⟨tn - 1, by omega⟩
      subst hx1
      have hx1 : nI (t1 + 1) = nI (t1 + 1) := rfl
      refine lv_aload_n hx hb dX5_look_19 rfl (lv_at hl 2 rfl) ?_
      refine lv_iload_n hx hb dX5_look_20 rfl (lv_at hl 1 rfl) ?_
      refine lv_iconst (v := 0) hx hb dX5_look_21 (by decide) ?_
      refine lv_iload_n hx hb dX5_look_22 rfl (lv_at hl 0 rfl) ?_
      refine lv_aload_n hx hb dX5_look_23 rfl (lv_at hl 2 rfl) ?_
      refine va_get (D := (dC, dI)) (ci := 5) (v := .ref (ma 2)) (C := RX5) (T := TX5) (N := 25) hx hb hts (by decide +kernel) hown hK hP 0 rfl rfl 3 (by decide) (hts (.fieldLink RX5 13 "DeltaCodecModel" "target" "[I") (by decide +kernel)) (fun _ h9 => h9) rfl dX5_look_24 ?_
      refine lv_iload_n hx hb dX5_look_27 rfl (lv_at hl 1 rfl) ?_
      refine va_iald hx hb hK hP 1 0 rfl rfl (vp_in_nI (by omega) (by omega)) dX5_look_28 ?_
      refine lv_topi (fun x_1087 ex_1087 => ?_)
      refine lv_iload_n hx hb dX5_look_29 rfl (lv_at hl 0 rfl) ?_
      have hPc := hP.sub (ws' := []) [] rfl
      have hFc : ∀ q : Nat, H.size ≤ q → A q := fun q h => hA q (Nat.le_trans hS.1 h)
      have hKc := hK.sub (tys' := []) [] rfl
      refine va_calli (va_runS (As := [.int (nI (t1 + 1))]) (rest := [.int x_1087, .int (nI (t1 + 1)), .int 0, .int (nI ka), .ref (ma 0)]) ⟨hx, hb, hml, hown, hts⟩ (k_headSize l dC dI (nI (t1 + 1)) H.size) (va_cwS 1 hts gX5_look_X5_headSize rfl rfl rfl (by decide +kernel) ⟨Nat.le_of_ble_eq_true rfl, Nat.le_of_ble_eq_true rfl⟩) ⟨fun a U g mk q => by obtain ⟨q0, q1, qP, qK, qD⟩ := q; exact ⟨q0, q1, qP, va_K.moved (u := U) (U := U.calling g mk a) (Vm.Alike.refl U.vm) qK, qD⟩, fun U hU hW => ⟨rfl, by rw [hU], by rw [hU]; exact hPc, va_K.moved hW.alike hKc, zz_D (hD.sub (ws' := []) [] (by decide) rfl)⟩⟩ rfl rfl hl.1 rfl (lv_room (Nat.le_of_ble_eq_true rfl)) dX5_look_30 ⟨(Nat.le_of_ble_eq_true rfl), (Nat.le_of_ble_eq_true rfl)⟩) hS (fun q h1 h2 => absurd h1 (Nat.not_lt.mpr h2)) hFc (fun r_1088 u_1089 t H1 locs ht hvm hw hB hz1 hk1 hS1 => ?_)
      have hP := zz_keep hP hk1
      have hS := hS1
      clear hS1
      generalize H1 = H at hP hS ht ⊢
      have hP : va_P (dC, dI) vwCl [(ma 0, .inr (5, [.int 0, .ref (ma 1), .int 0, .ref (ma 2), .int 150, .int 3, .int 0, .int ki, .ref (ma 3), .ref (ma 4), .ref (ma 5), .ref (ma 6), .int kc, .int 0, .ref (ma 7), .int 0, .ref (ma 8), .int (-1), .ref (ma 9), .ref (ma 10), .ref (ma 11), .ref (ma 12), .ref (ma 13), .int 0, .int 0])), (ma 2, .inl (cI, 150, .inl kt)), (ma 9, .inl (cI, 151, .inl g9)), (ma 10, .inl (cI, 151, .inl g10)), (ma 11, .inl (cI, 151, .inl g11)), (ma 12, .inl (cI, 151, .inl g12)), (ma 13, .inl (cI, 151, .inl g13))] H := hP
      have w30 := hw
      refine lv_iload_n hx hb dX5_look_33 rfl (lv_at hl 0 rfl) ?_
      refine lv_iadd hx hb dX5_look_34 ?_
      refine lv_topi (fun x_1090 ex_1090 => ?_)
      have hPc := hP.sub (ws' := [(ma 0, .inr (5, [.int 0, .ref (ma 1), .int 0, .ref (ma 2), .int 150, .int 3, .int 0, .int ki, .ref (ma 3), .ref (ma 4), .ref (ma 5), .ref (ma 6), .int kc, .int 0, .ref (ma 7), .int 0, .ref (ma 8), .int (-1), .ref (ma 9), .ref (ma 10), .ref (ma 11), .ref (ma 12), .ref (ma 13), .int 0, .int 0])), (ma 9, .inl (cI, 151, .inl g9)), (ma 10, .inl (cI, 151, .inl g10)), (ma 11, .inl (cI, 151, .inl g11)), (ma 12, .inl (cI, 151, .inl g12)), (ma 13, .inl (cI, 151, .inl g13))]) [0, 2, 3, 4, 5, 6] rfl
      have hDc := hD.sub (ws' := [(ma 0, .inr (5, [.int 0, .ref (ma 1), .int 0, .ref (ma 2), .int 150, .int 3, .int 0, .int ki, .ref (ma 3), .ref (ma 4), .ref (ma 5), .ref (ma 6), .int kc, .int 0, .ref (ma 7), .int 0, .ref (ma 8), .int (-1), .ref (ma 9), .ref (ma 10), .ref (ma 11), .ref (ma 12), .ref (ma 13), .int 0, .int 0])), (ma 9, .inl (cI, 151, .inl g9)), (ma 10, .inl (cI, 151, .inl g10)), (ma 11, .inl (cI, 151, .inl g11)), (ma 12, .inl (cI, 151, .inl g12)), (ma 13, .inl (cI, 151, .inl g13))]) [0, 2, 3, 4, 5, 6] (by decide) rfl
      have hFc := va_free (wc := [(ma 0, .inr (5, [.int 0, .ref (ma 1), .int 0, .ref (ma 2), .int 150, .int 3, .int 0, .int ki, .ref (ma 3), .ref (ma 4), .ref (ma 5), .ref (ma 6), .int kc, .int 0, .ref (ma 7), .int 0, .ref (ma 8), .int (-1), .ref (ma 9), .ref (ma 10), .ref (ma 11), .ref (ma 12), .ref (ma 13), .int 0, .int 0])), (ma 9, .inl (cI, 151, .inl g9)), (ma 10, .inl (cI, 151, .inl g10)), (ma 11, .inl (cI, 151, .inl g11)), (ma 12, .inl (cI, 151, .inl g12)), (ma 13, .inl (cI, 151, .inl g13))]) hD hS hA [0, 2, 3, 4, 5, 6] rfl
      have hKc := hK.sub (tys' := [(cI, .int)]) [0] rfl
      refine va_callv (va_runV (As := [.int (nI ka), .int 0, .int (nI (t1 + 1)), .int x_1087, .int x_1090]) (rest := []) ⟨hx, hb, hml, hown, hts⟩ (k_offer l dC dI cI ma ki kc g9 g10 g11 g12 g13 ka 0 (t1 + 1) x_1087 x_1090 H.size (by omega) hbt) (cwV 5 hts gX5_look_X5_offer rfl rfl rfl (by decide +kernel) ⟨Nat.le_of_ble_eq_true rfl, Nat.le_of_ble_eq_true rfl⟩) ⟨fun a U g mk q => by obtain ⟨q0, q1, qP, qK, qD⟩ := q; exact ⟨q0, q1, qP, va_K.moved (u := U) (U := U.calling g mk a) (Vm.Alike.refl U.vm) qK, qD⟩, va_recv hKc hPc (ci := 5) (q0 := 0) rfl rfl, fun U hU hW => ⟨rfl, by rw [hU], by rw [hU]; exact hPc, va_K.moved hW.alike hKc, zz_D hDc⟩⟩ rfl rfl hl.1 rfl (lv_room (Nat.le_of_ble_eq_true rfl)) dX5_look_35 ⟨(Nat.le_of_ble_eq_true rfl), (Nat.le_of_ble_eq_true rfl)⟩) hS (fun q _ h => hFc q h) hFc (fun u_1092 t H1 locs ht hvm hw hB hz1 hk1 hS1 => ?_)
      obtain ⟨hP1, hD1⟩ := hB
      rw [ht] at hP1
      obtain ⟨hP, hD⟩ := va_join (wr := [(ma 2, .inl (cI, 150, .inl kt))]) (w1 := [(ma 0, .inr (5, [.int 0, .ref (ma 1), .int 0, .ref (ma 2), .int 150, .int 3, .int 0, .int ki, .ref (ma 3), .ref (ma 4), .ref (ma 5), .ref (ma 6), .int kc, .int 0, .ref (ma 7), .int 0, .ref (ma 8), .int (-1), .ref (ma 9), .ref (ma 10), .ref (ma 11), .ref (ma 12), .ref (ma 13), .int 0, .int 0])), (ma 9, .inl (cI, 151, .inl u_1092.1)), (ma 10, .inl (cI, 151, .inl u_1092.2.1)), (ma 11, .inl (cI, 151, .inl u_1092.2.2.1)), (ma 12, .inl (cI, 151, .inl u_1092.2.2.2.1)), (ma 13, .inl (cI, 151, .inl u_1092.2.2.2.2))]) hP hD [0, 2, 3, 4, 5, 6] [1] rfl rfl (by decide) (by decide) hk1 hFc hP1 hD1
      have hS := hS1
      clear hS1
      generalize H1 = H at hP hS ht ⊢
      have hP : va_P (dC, dI) vwCl [(ma 2, .inl (cI, 150, .inl kt)), (ma 0, .inr (5, [.int 0, .ref (ma 1), .int 0, .ref (ma 2), .int 150, .int 3, .int 0, .int ki, .ref (ma 3), .ref (ma 4), .ref (ma 5), .ref (ma 6), .int kc, .int 0, .ref (ma 7), .int 0, .ref (ma 8), .int (-1), .ref (ma 9), .ref (ma 10), .ref (ma 11), .ref (ma 12), .ref (ma 13), .int 0, .int 0])), (ma 9, .inl (cI, 151, .inl u_1092.1)), (ma 10, .inl (cI, 151, .inl u_1092.2.1)), (ma 11, .inl (cI, 151, .inl u_1092.2.2.1)), (ma 12, .inl (cI, 151, .inl u_1092.2.2.2.1)), (ma 13, .inl (cI, 151, .inl u_1092.2.2.2.2))] H := hP
      have hD : va_D A [(ma 2, .inl (cI, 150, .inl kt)), (ma 0, .inr (5, [.int 0, .ref (ma 1), .int 0, .ref (ma 2), .int 150, .int 3, .int 0, .int ki, .ref (ma 3), .ref (ma 4), .ref (ma 5), .ref (ma 6), .int kc, .int 0, .ref (ma 7), .int 0, .ref (ma 8), .int (-1), .ref (ma 9), .ref (ma 10), .ref (ma 11), .ref (ma 12), .ref (ma 13), .int 0, .int 0])), (ma 9, .inl (cI, 151, .inl u_1092.1)), (ma 10, .inl (cI, 151, .inl u_1092.2.1)), (ma 11, .inl (cI, 151, .inl u_1092.2.2.1)), (ma 12, .inl (cI, 151, .inl u_1092.2.2.2.1)), (ma 13, .inl (cI, 151, .inl u_1092.2.2.2.2))] := hD
      have w35 := hw
      obtain ⟨x_1093, ex_1093⟩ : ∃ y : Int32, y = nI (t1 + 1) + (-1) := ⟨_, rfl⟩
      refine lv_iinc (v := x_1093) (lv' := [(2, .int x_1093), (1, .int (nI ka)), (0, .ref (ma 0))]) hx hb dX5_look_38 hl (k := 0) rfl (by rw [ex_1093]; rfl) (by decide) rfl (fun ls hl => ?_)
      refine lv_goto (tgt := 14) hx hb dX5_look_41 (by decide) ?_
      exact ih t1 x_1093 u_1092.1 u_1092.2.1 u_1092.2.2.1 u_1092.2.2.2.1 u_1092.2.2.2.2 H locs ls (by omega) (by rw [ex_1093, ← Int32.sub_eq_add_neg]; exact nI_pred t1) (by omega) (Or.inr (zz_sA w35 (by omega) hbt hV)) (zz_sE w35 hE) (hP.sub [1, 0, 2, 3, 4, 5, 6] rfl) (hD.sub [1, 0, 2, 3, 4, 5, 6] (by decide) rfl) hS (lv_sub hl [0, 1, 2] rfl)
set_option maxHeartbeats 4000000 in
set_option maxRecDepth 100000 in
theorem lo_lkC0 {p : Program} {l : Launch} {e : Env} {s : State} {m : MethodId} {args : Array Value} {below : List Frame} {meth : Method} {c : Code} {Q : State → Prop} {A : Nat → Prop} (dC : Nat → ClassId) (dI : Nat → Nat → Nat) (cI : ClassId) (ma : Nat → Nat) (kt : Nat → Int32) (ka : Nat) (ki : Int32) (kc : Int32) (f9 : Nat → Int32) (f10 : Nat → Int32) (f11 : Nat → Int32) (f12 : Nat → Int32) (f13 : Nat → Int32) (qa : Nat) (kq : Nat → Int32) (hx : p.tables.exec = Jvm.exec) (hb : c.code = cX5_look) (hml : c.maxLocals = 5) (hown : s.vm.findClass RX5 = some m.cls) (hts : ∀ w ∈ wsX5_look, w.before args s = true) (hA : ∀ q : Nat, s.heap.size ≤ q → A q) (hK : va_K (dC, dI) vwCl [(cI, .int)] s)
    (kk : ∀ (tn : Nat) (x : Int32) (g9 : Nat → Int32) (g10 : Nat → Int32) (g11 : Nat → Int32) (g12 : Nat → Int32) (g13 : Nat → Int32) (H : Heap) (locs : List Loc) (ls : Array Slot), zz_V g12 ka → zz_E g12 f12 ka → va_P (dC, dI) vwCl [(ma 0, .inr (5, [.int 0, .ref (ma 1), .int 0, .ref (ma 2), .int 150, .int 3, .int 0, .int ki, .ref (ma 3), .ref (ma 4), .ref (ma 5), .ref (ma 6), .int kc, .int 0, .ref (ma 7), .int 0, .ref (ma 8), .int (-1), .ref (ma 9), .ref (ma 10), .ref (ma 11), .ref (ma 12), .ref (ma 13), .int 0, .int 0])), (ma 2, .inl (cI, 150, .inl kt)), (ma 9, .inl (cI, 151, .inl g9)), (ma 10, .inl (cI, 151, .inl g10)), (ma 11, .inl (cI, 151, .inl g11)), (ma 12, .inl (cI, 151, .inl g12)), (ma 13, .inl (cI, 151, .inl g13)), (qa, .inl (cI, 151, .inl kq))] H → va_D A [(ma 0, .inr (5, [.int 0, .ref (ma 1), .int 0, .ref (ma 2), .int 150, .int 3, .int 0, .int ki, .ref (ma 3), .ref (ma 4), .ref (ma 5), .ref (ma 6), .int kc, .int 0, .ref (ma 7), .int 0, .ref (ma 8), .int (-1), .ref (ma 9), .ref (ma 10), .ref (ma 11), .ref (ma 12), .ref (ma 13), .int 0, .int 0])), (ma 2, .inl (cI, 150, .inl kt)), (ma 9, .inl (cI, 151, .inl g9)), (ma 10, .inl (cI, 151, .inl g10)), (ma 11, .inl (cI, 151, .inl g11)), (ma 12, .inl (cI, 151, .inl g12)), (ma 13, .inl (cI, 151, .inl g13)), (qa, .inl (cI, 151, .inl kq))] → va_S A s.heap H locs → lv_has ls 5 [(4, .int x), (3, .ref qa), (2, .int 0), (1, .int (nI ka)), (0, .ref (ma 0))] → W p l e (headSpec wsX5_look ({ frames := 2, cells := 2, slots := 302, locals := 50 })).room s m args below meth c H locs 1 151 Q (F0 m 122 ls []))
    : ∀ (j : Nat) (tn : Nat) (x : Int32) (g9 : Nat → Int32) (g10 : Nat → Int32) (g11 : Nat → Int32) (g12 : Nat → Int32) (g13 : Nat → Int32) (H : Heap) (locs : List Loc) (ls : Array Slot), tn < j → (x = nI tn) → (ka + tn ≤ 150) → (zz_V g12 ka) → (zz_E g12 f12 ka) → va_P (dC, dI) vwCl [(ma 0, .inr (5, [.int 0, .ref (ma 1), .int 0, .ref (ma 2), .int 150, .int 3, .int 0, .int ki, .ref (ma 3), .ref (ma 4), .ref (ma 5), .ref (ma 6), .int kc, .int 0, .ref (ma 7), .int 0, .ref (ma 8), .int (-1), .ref (ma 9), .ref (ma 10), .ref (ma 11), .ref (ma 12), .ref (ma 13), .int 0, .int 0])), (ma 2, .inl (cI, 150, .inl kt)), (ma 9, .inl (cI, 151, .inl g9)), (ma 10, .inl (cI, 151, .inl g10)), (ma 11, .inl (cI, 151, .inl g11)), (ma 12, .inl (cI, 151, .inl g12)), (ma 13, .inl (cI, 151, .inl g13)), (qa, .inl (cI, 151, .inl kq))] H → va_D A [(ma 0, .inr (5, [.int 0, .ref (ma 1), .int 0, .ref (ma 2), .int 150, .int 3, .int 0, .int ki, .ref (ma 3), .ref (ma 4), .ref (ma 5), .ref (ma 6), .int kc, .int 0, .ref (ma 7), .int 0, .ref (ma 8), .int (-1), .ref (ma 9), .ref (ma 10), .ref (ma 11), .ref (ma 12), .ref (ma 13), .int 0, .int 0])), (ma 2, .inl (cI, 150, .inl kt)), (ma 9, .inl (cI, 151, .inl g9)), (ma 10, .inl (cI, 151, .inl g10)), (ma 11, .inl (cI, 151, .inl g11)), (ma 12, .inl (cI, 151, .inl g12)), (ma 13, .inl (cI, 151, .inl g13)), (qa, .inl (cI, 151, .inl kq))] → va_S A s.heap H locs → lv_has ls 5 [(4, .int x), (3, .ref qa), (2, .int 0), (1, .int (nI ka)), (0, .ref (ma 0))] → W p l e (headSpec wsX5_look ({ frames := 2, cells := 2, slots := 302, locals := 50 })).room s m args below meth c H locs 1 151 Q (F0 m 66 ls []) := by
  intro j
  induction j with
  | zero => intro tn x g9 g10 g11 g12 g13 H locs ls hj; omega
  | succ j ih =>
    intro tn x g9 g10 g11 g12 g13 H locs ls hj hx1 hbt hV hE hP hD hS hl
    refine lv_iload hx hb dX5_look_66 (lv_at hl 0 rfl) ?_
    refine lv_aload_n hx hb dX5_look_68 rfl (lv_at hl 4 rfl) ?_
    refine va_get (D := (dC, dI)) (ci := 5) (v := .int 3) (C := RX5) (T := TX5) (N := 25) hx hb hts (by decide +kernel) hown hK hP 0 rfl rfl 5 (by decide) (hts (.fieldLink RX5 16 "DeltaCodecModel" "least" "I") (by decide +kernel)) (fun _ h9 => h9) rfl dX5_look_69 ?_
    refine lv_icmp_lt (tgt := 122) hx hb dX5_look_72 (by decide) (fun c72 => ?_) (fun c72 => ?_)
    · skip
      exact kk tn x g9 g10 g11 g12 g13 H locs ls hV hE (hP.sub [0, 1, 2, 3, 4, 5, 6, 7] rfl) (hD.sub [0, 1, 2, 3, 4, 5, 6, 7] (by decide) rfl) hS (lv_sub hl [0, 1, 2, 3, 4] rfl)
    · skip
      have hlt : 3 ≤ tn := Nat.le_of_not_lt (fun q => c72 (by rw [hx1]; show nI tn < nI 3; exact nI_lt q (by omega)))
      obtain ⟨t1, rfl⟩ : ∃ t1, tn = t1 + 1 := ⟨tn - 1, by omega⟩
      subst hx1
      have hx1 : nI (t1 + 1) = nI (t1 + 1) := rfl
      refine lv_aload_n hx hb dX5_look_75 rfl (lv_at hl 1 rfl) ?_
      refine lv_iload hx hb dX5_look_76 (lv_at hl 0 rfl) ?_
      refine va_iald hx hb hK hP 7 0 rfl rfl (vp_in_nI (by omega) (by omega)) dX5_look_78 ?_
      refine lv_topi (fun x_1094 ex_1094 => ?_)
      refine lv_iconst (v := (-1)) hx hb dX5_look_79 (by decide) ?_
      refine lv_icmp_eq (tgt := 116) hx hb dX5_look_80 (by decide) (fun c80 => ?_) (fun c80 => ?_)
      · skip
        obtain ⟨x_1095, ex_1095⟩ : ∃ y : Int32, y = nI (t1 + 1) + (-1) := ⟨_, rfl⟩
        refine lv_iinc (v := x_1095) (lv' := [(4, .int x_1095), (3, .ref qa), (2, .int 0), (1, .int (nI ka)), (0, .ref (ma 0))]) hx hb dX5_look_116 hl (k := 0) rfl (by rw [ex_1095]; rfl) (by decide) rfl (fun ls hl => ?_)
        refine lv_goto (tgt := 66) hx hb dX5_look_119 (by decide) ?_
        exact ih t1 x_1095 g9 g10 g11 g12 g13 H locs ls (by omega) (by rw [ex_1095, ← Int32.sub_eq_add_neg]; exact nI_pred t1) (by omega) hV hE (hP.sub [0, 1, 2, 3, 4, 5, 6, 7] rfl) (hD.sub [0, 1, 2, 3, 4, 5, 6, 7] (by decide) rfl) hS (lv_sub hl [0, 1, 2, 3, 4] rfl)
      · skip
        refine lv_aload_n hx hb dX5_look_83 rfl (lv_at hl 4 rfl) ?_
        refine lv_iload_n hx hb dX5_look_84 rfl (lv_at hl 3 rfl) ?_
        refine lv_iload_n hx hb dX5_look_85 rfl (lv_at hl 2 rfl) ?_
        refine lv_if_ne (tgt := 93) hx hb dX5_look_86 (by decide) (fun h => absurd h (by decide)) (fun c86 => ?_)
        refine lv_iconst (v := 1) hx hb dX5_look_89 (by decide) ?_
        refine lv_goto (tgt := 94) hx hb dX5_look_90 (by decide) ?_
        refine lv_iload hx hb dX5_look_94 (lv_at hl 0 rfl) ?_
        refine lv_aload_n hx hb dX5_look_96 rfl (lv_at hl 1 rfl) ?_
        refine lv_iload hx hb dX5_look_97 (lv_at hl 0 rfl) ?_
        refine va_iald hx hb hK hP 7 0 rfl rfl (vp_in_nI (by omega) (by omega)) dX5_look_99 ?_
        refine lv_topi (fun x_1096 ex_1096 => ?_)
        refine lv_iload hx hb dX5_look_100 (lv_at hl 0 rfl) ?_
        have hPc := hP.sub (ws' := []) [] rfl
        have hFc : ∀ q : Nat, H.size ≤ q → A q := fun q h => hA q (Nat.le_trans hS.1 h)
        have hKc := hK.sub (tys' := []) [] rfl
        refine va_calli (va_runS (As := [.int (nI (t1 + 1))]) (rest := [.int x_1096, .int (nI (t1 + 1)), .int 1, .int (nI ka), .ref (ma 0)]) ⟨hx, hb, hml, hown, hts⟩ (k_headSize l dC dI (nI (t1 + 1)) H.size) (va_cwS 1 hts gX5_look_X5_headSize rfl rfl rfl (by decide +kernel) ⟨Nat.le_of_ble_eq_true rfl, Nat.le_of_ble_eq_true rfl⟩) ⟨fun a U g mk q => by obtain ⟨q0, q1, qP, qK, qD⟩ := q; exact ⟨q0, q1, qP, va_K.moved (u := U) (U := U.calling g mk a) (Vm.Alike.refl U.vm) qK, qD⟩, fun U hU hW => ⟨rfl, by rw [hU], by rw [hU]; exact hPc, va_K.moved hW.alike hKc, zz_D (hD.sub (ws' := []) [] (by decide) rfl)⟩⟩ rfl rfl hl.1 rfl (lv_room (Nat.le_of_ble_eq_true rfl)) dX5_look_102 ⟨(Nat.le_of_ble_eq_true rfl), (Nat.le_of_ble_eq_true rfl)⟩) hS (fun q h1 h2 => absurd h1 (Nat.not_lt.mpr h2)) hFc (fun r_1097 u_1098 t H1 locs ht hvm hw hB hz1 hk1 hS1 => ?_)
        have hP := zz_keep hP hk1
        have hS := hS1
        clear hS1
        generalize H1 = H at hP hS ht ⊢
        have hP : va_P (dC, dI) vwCl [(ma 0, .inr (5, [.int 0, .ref (ma 1), .int 0, .ref (ma 2), .int 150, .int 3, .int 0, .int ki, .ref (ma 3), .ref (ma 4), .ref (ma 5), .ref (ma 6), .int kc, .int 0, .ref (ma 7), .int 0, .ref (ma 8), .int (-1), .ref (ma 9), .ref (ma 10), .ref (ma 11), .ref (ma 12), .ref (ma 13), .int 0, .int 0])), (ma 2, .inl (cI, 150, .inl kt)), (ma 9, .inl (cI, 151, .inl g9)), (ma 10, .inl (cI, 151, .inl g10)), (ma 11, .inl (cI, 151, .inl g11)), (ma 12, .inl (cI, 151, .inl g12)), (ma 13, .inl (cI, 151, .inl g13)), (qa, .inl (cI, 151, .inl kq))] H := hP
        have w102 := hw
        refine lv_aload_n hx hb dX5_look_105 rfl (lv_at hl 1 rfl) ?_
        refine lv_iload hx hb dX5_look_106 (lv_at hl 0 rfl) ?_
        refine va_iald hx hb hK hP 7 0 rfl rfl (vp_in_nI (by omega) (by omega)) dX5_look_108 ?_
        refine lv_topi (fun x_1099 ex_1099 => ?_)
        have hPc := hP.sub (ws' := []) [] rfl
        have hFc : ∀ q : Nat, H.size ≤ q → A q := fun q h => hA q (Nat.le_trans hS.1 h)
        have hKc := hK.sub (tys' := []) [] rfl
        refine va_calli (va_runS (As := [.int x_1099]) (rest := [.int r_1097, .int x_1096, .int (nI (t1 + 1)), .int 1, .int (nI ka), .ref (ma 0)]) ⟨hx, hb, hml, hown, hts⟩ (k_numberSize l dC dI x_1099 H.size) (va_cwS 1 hts gX5_look_X5_numberSize rfl rfl rfl (by decide +kernel) ⟨Nat.le_of_ble_eq_true rfl, Nat.le_of_ble_eq_true rfl⟩) ⟨fun a U g mk q => by obtain ⟨q0, q1, qP, qK, qD⟩ := q; exact ⟨q0, q1, qP, va_K.moved (u := U) (U := U.calling g mk a) (Vm.Alike.refl U.vm) qK, qD⟩, fun U hU hW => ⟨rfl, by rw [hU], by rw [hU]; exact hPc, va_K.moved hW.alike hKc, zz_D (hD.sub (ws' := []) [] (by decide) rfl)⟩⟩ rfl rfl hl.1 rfl (lv_room (Nat.le_of_ble_eq_true rfl)) dX5_look_109 ⟨(Nat.le_of_ble_eq_true rfl), (Nat.le_of_ble_eq_true rfl)⟩) hS (fun q h1 h2 => absurd h1 (Nat.not_lt.mpr h2)) hFc (fun r_1100 u_1101 t H1 locs ht hvm hw hB hz1 hk1 hS1 => ?_)
        have hP := zz_keep hP hk1
        have hS := hS1
        clear hS1
        generalize H1 = H at hP hS ht ⊢
        have hP : va_P (dC, dI) vwCl [(ma 0, .inr (5, [.int 0, .ref (ma 1), .int 0, .ref (ma 2), .int 150, .int 3, .int 0, .int ki, .ref (ma 3), .ref (ma 4), .ref (ma 5), .ref (ma 6), .int kc, .int 0, .ref (ma 7), .int 0, .ref (ma 8), .int (-1), .ref (ma 9), .ref (ma 10), .ref (ma 11), .ref (ma 12), .ref (ma 13), .int 0, .int 0])), (ma 2, .inl (cI, 150, .inl kt)), (ma 9, .inl (cI, 151, .inl g9)), (ma 10, .inl (cI, 151, .inl g10)), (ma 11, .inl (cI, 151, .inl g11)), (ma 12, .inl (cI, 151, .inl g12)), (ma 13, .inl (cI, 151, .inl g13)), (qa, .inl (cI, 151, .inl kq))] H := hP
        have w109 := hw
        refine lv_iadd hx hb dX5_look_112 ?_
        refine lv_topi (fun x_1102 ex_1102 => ?_)
        have hPc := hP.sub (ws' := [(ma 0, .inr (5, [.int 0, .ref (ma 1), .int 0, .ref (ma 2), .int 150, .int 3, .int 0, .int ki, .ref (ma 3), .ref (ma 4), .ref (ma 5), .ref (ma 6), .int kc, .int 0, .ref (ma 7), .int 0, .ref (ma 8), .int (-1), .ref (ma 9), .ref (ma 10), .ref (ma 11), .ref (ma 12), .ref (ma 13), .int 0, .int 0])), (ma 9, .inl (cI, 151, .inl g9)), (ma 10, .inl (cI, 151, .inl g10)), (ma 11, .inl (cI, 151, .inl g11)), (ma 12, .inl (cI, 151, .inl g12)), (ma 13, .inl (cI, 151, .inl g13))]) [0, 2, 3, 4, 5, 6] rfl
        have hDc := hD.sub (ws' := [(ma 0, .inr (5, [.int 0, .ref (ma 1), .int 0, .ref (ma 2), .int 150, .int 3, .int 0, .int ki, .ref (ma 3), .ref (ma 4), .ref (ma 5), .ref (ma 6), .int kc, .int 0, .ref (ma 7), .int 0, .ref (ma 8), .int (-1), .ref (ma 9), .ref (ma 10), .ref (ma 11), .ref (ma 12), .ref (ma 13), .int 0, .int 0])), (ma 9, .inl (cI, 151, .inl g9)), (ma 10, .inl (cI, 151, .inl g10)), (ma 11, .inl (cI, 151, .inl g11)), (ma 12, .inl (cI, 151, .inl g12)), (ma 13, .inl (cI, 151, .inl g13))]) [0, 2, 3, 4, 5, 6] (by decide) rfl
        have hFc := va_free (wc := [(ma 0, .inr (5, [.int 0, .ref (ma 1), .int 0, .ref (ma 2), .int 150, .int 3, .int 0, .int ki, .ref (ma 3), .ref (ma 4), .ref (ma 5), .ref (ma 6), .int kc, .int 0, .ref (ma 7), .int 0, .ref (ma 8), .int (-1), .ref (ma 9), .ref (ma 10), .ref (ma 11), .ref (ma 12), .ref (ma 13), .int 0, .int 0])), (ma 9, .inl (cI, 151, .inl g9)), (ma 10, .inl (cI, 151, .inl g10)), (ma 11, .inl (cI, 151, .inl g11)), (ma 12, .inl (cI, 151, .inl g12)), (ma 13, .inl (cI, 151, .inl g13))]) hD hS hA [0, 2, 3, 4, 5, 6] rfl
        have hKc := hK.sub (tys' := [(cI, .int)]) [0] rfl
        refine va_callv (va_runV (As := [.int (nI ka), .int 1, .int (nI (t1 + 1)), .int x_1096, .int x_1102]) (rest := []) ⟨hx, hb, hml, hown, hts⟩ (k_offer l dC dI cI ma ki kc g9 g10 g11 g12 g13 ka 1 (t1 + 1) x_1096 x_1102 H.size (by omega) hbt) (cwV 5 hts gX5_look_X5_offer rfl rfl rfl (by decide +kernel) ⟨Nat.le_of_ble_eq_true rfl, Nat.le_of_ble_eq_true rfl⟩) ⟨fun a U g mk q => by obtain ⟨q0, q1, qP, qK, qD⟩ := q; exact ⟨q0, q1, qP, va_K.moved (u := U) (U := U.calling g mk a) (Vm.Alike.refl U.vm) qK, qD⟩, va_recv hKc hPc (ci := 5) (q0 := 0) rfl rfl, fun U hU hW => ⟨rfl, by rw [hU], by rw [hU]; exact hPc, va_K.moved hW.alike hKc, zz_D hDc⟩⟩ rfl rfl hl.1 rfl (lv_room (Nat.le_of_ble_eq_true rfl)) dX5_look_113 ⟨(Nat.le_of_ble_eq_true rfl), (Nat.le_of_ble_eq_true rfl)⟩) hS (fun q _ h => hFc q h) hFc (fun u_1104 t H1 locs ht hvm hw hB hz1 hk1 hS1 => ?_)
        obtain ⟨hP1, hD1⟩ := hB
        rw [ht] at hP1
        obtain ⟨hP, hD⟩ := va_join (wr := [(ma 2, .inl (cI, 150, .inl kt)), (qa, .inl (cI, 151, .inl kq))]) (w1 := [(ma 0, .inr (5, [.int 0, .ref (ma 1), .int 0, .ref (ma 2), .int 150, .int 3, .int 0, .int ki, .ref (ma 3), .ref (ma 4), .ref (ma 5), .ref (ma 6), .int kc, .int 0, .ref (ma 7), .int 0, .ref (ma 8), .int (-1), .ref (ma 9), .ref (ma 10), .ref (ma 11), .ref (ma 12), .ref (ma 13), .int 0, .int 0])), (ma 9, .inl (cI, 151, .inl u_1104.1)), (ma 10, .inl (cI, 151, .inl u_1104.2.1)), (ma 11, .inl (cI, 151, .inl u_1104.2.2.1)), (ma 12, .inl (cI, 151, .inl u_1104.2.2.2.1)), (ma 13, .inl (cI, 151, .inl u_1104.2.2.2.2))]) hP hD [0, 2, 3, 4, 5, 6] [1, 7] rfl rfl (by decide) (by decide) hk1 hFc hP1 hD1
        have hS := hS1
        clear hS1
        generalize H1 = H at hP hS ht ⊢
        have hP : va_P (dC, dI) vwCl [(ma 2, .inl (cI, 150, .inl kt)), (qa, .inl (cI, 151, .inl kq)), (ma 0, .inr (5, [.int 0, .ref (ma 1), .int 0, .ref (ma 2), .int 150, .int 3, .int 0, .int ki, .ref (ma 3), .ref (ma 4), .ref (ma 5), .ref (ma 6), .int kc, .int 0, .ref (ma 7), .int 0, .ref (ma 8), .int (-1), .ref (ma 9), .ref (ma 10), .ref (ma 11), .ref (ma 12), .ref (ma 13), .int 0, .int 0])), (ma 9, .inl (cI, 151, .inl u_1104.1)), (ma 10, .inl (cI, 151, .inl u_1104.2.1)), (ma 11, .inl (cI, 151, .inl u_1104.2.2.1)), (ma 12, .inl (cI, 151, .inl u_1104.2.2.2.1)), (ma 13, .inl (cI, 151, .inl u_1104.2.2.2.2))] H := hP
        have hD : va_D A [(ma 2, .inl (cI, 150, .inl kt)), (qa, .inl (cI, 151, .inl kq)), (ma 0, .inr (5, [.int 0, .ref (ma 1), .int 0, .ref (ma 2), .int 150, .int 3, .int 0, .int ki, .ref (ma 3), .ref (ma 4), .ref (ma 5), .ref (ma 6), .int kc, .int 0, .ref (ma 7), .int 0, .ref (ma 8), .int (-1), .ref (ma 9), .ref (ma 10), .ref (ma 11), .ref (ma 12), .ref (ma 13), .int 0, .int 0])), (ma 9, .inl (cI, 151, .inl u_1104.1)), (ma 10, .inl (cI, 151, .inl u_1104.2.1)), (ma 11, .inl (cI, 151, .inl u_1104.2.2.1)), (ma 12, .inl (cI, 151, .inl u_1104.2.2.2.1)), (ma 13, .inl (cI, 151, .inl u_1104.2.2.2.2))] := hD
        have w113 := hw
        obtain ⟨x_1105, ex_1105⟩ : ∃ y : Int32, y = nI (t1 + 1) + (-1) := ⟨_, rfl⟩
        refine lv_iinc (v := x_1105) (lv' := [(4, .int x_1105), (3, .ref qa), (2, .int 0), (1, .int (nI ka)), (0, .ref (ma 0))]) hx hb dX5_look_116 hl (k := 0) rfl (by rw [ex_1105]; rfl) (by decide) rfl (fun ls hl => ?_)
        refine lv_goto (tgt := 66) hx hb dX5_look_119 (by decide) ?_
        exact ih t1 x_1105 u_1104.1 u_1104.2.1 u_1104.2.2.1 u_1104.2.2.2.1 u_1104.2.2.2.2 H locs ls (by omega) (by rw [ex_1105, ← Int32.sub_eq_add_neg]; exact nI_pred t1) (by omega) (zz_sV w113 (by omega) hbt hV) (zz_sE w113 hE) (hP.sub [2, 0, 3, 4, 5, 6, 7, 1] rfl) (hD.sub [2, 0, 3, 4, 5, 6, 7, 1] (by decide) rfl) hS (lv_sub hl [0, 1, 2, 3, 4] rfl)
set_option maxHeartbeats 4000000 in
set_option maxRecDepth 100000 in
theorem lo_lkC1 {p : Program} {l : Launch} {e : Env} {s : State} {m : MethodId} {args : Array Value} {below : List Frame} {meth : Method} {c : Code} {Q : State → Prop} {A : Nat → Prop} (dC : Nat → ClassId) (dI : Nat → Nat → Nat) (cI : ClassId) (ma : Nat → Nat) (kt : Nat → Int32) (ka : Nat) (ki : Int32) (kc : Int32) (f9 : Nat → Int32) (f10 : Nat → Int32) (f11 : Nat → Int32) (f12 : Nat → Int32) (f13 : Nat → Int32) (qa : Nat) (kq : Nat → Int32) (qb : Nat) (kw : Nat → Int32) (hx : p.tables.exec = Jvm.exec) (hb : c.code = cX5_look) (hml : c.maxLocals = 5) (hown : s.vm.findClass RX5 = some m.cls) (hts : ∀ w ∈ wsX5_look, w.before args s = true) (hA : ∀ q : Nat, s.heap.size ≤ q → A q) (hK : va_K (dC, dI) vwCl [(cI, .int)] s)
    (kk : ∀ (tn : Nat) (x : Int32) (g9 : Nat → Int32) (g10 : Nat → Int32) (g11 : Nat → Int32) (g12 : Nat → Int32) (g13 : Nat → Int32) (H : Heap) (locs : List Loc) (ls : Array Slot), zz_V g12 ka → zz_E g12 f12 ka → va_P (dC, dI) vwCl [(ma 0, .inr (5, [.int 0, .ref (ma 1), .int 0, .ref (ma 2), .int 150, .int 3, .int 0, .int ki, .ref (ma 3), .ref (ma 4), .ref (ma 5), .ref (ma 6), .int kc, .int 0, .ref (ma 7), .int 0, .ref (ma 8), .int (-1), .ref (ma 9), .ref (ma 10), .ref (ma 11), .ref (ma 12), .ref (ma 13), .int 0, .int 0])), (ma 2, .inl (cI, 150, .inl kt)), (ma 9, .inl (cI, 151, .inl g9)), (ma 10, .inl (cI, 151, .inl g10)), (ma 11, .inl (cI, 151, .inl g11)), (ma 12, .inl (cI, 151, .inl g12)), (ma 13, .inl (cI, 151, .inl g13)), (qb, .inl (cI, 151, .inl kw)), (qa, .inl (cI, 151, .inl kq))] H → va_D A [(ma 0, .inr (5, [.int 0, .ref (ma 1), .int 0, .ref (ma 2), .int 150, .int 3, .int 0, .int ki, .ref (ma 3), .ref (ma 4), .ref (ma 5), .ref (ma 6), .int kc, .int 0, .ref (ma 7), .int 0, .ref (ma 8), .int (-1), .ref (ma 9), .ref (ma 10), .ref (ma 11), .ref (ma 12), .ref (ma 13), .int 0, .int 0])), (ma 2, .inl (cI, 150, .inl kt)), (ma 9, .inl (cI, 151, .inl g9)), (ma 10, .inl (cI, 151, .inl g10)), (ma 11, .inl (cI, 151, .inl g11)), (ma 12, .inl (cI, 151, .inl g12)), (ma 13, .inl (cI, 151, .inl g13)), (qb, .inl (cI, 151, .inl kw)), (qa, .inl (cI, 151, .inl kq))] → va_S A s.heap H locs → lv_has ls 5 [(4, .int x), (3, .ref qa), (2, .int 1), (1, .int (nI ka)), (0, .ref (ma 0))] → W p l e (headSpec wsX5_look ({ frames := 2, cells := 2, slots := 302, locals := 50 })).room s m args below meth c H locs 2 302 Q (F0 m 122 ls []))
    : ∀ (j : Nat) (tn : Nat) (x : Int32) (g9 : Nat → Int32) (g10 : Nat → Int32) (g11 : Nat → Int32) (g12 : Nat → Int32) (g13 : Nat → Int32) (H : Heap) (locs : List Loc) (ls : Array Slot), tn < j → (x = nI tn) → (ka + tn ≤ 150) → (zz_V g12 ka) → (zz_E g12 f12 ka) → va_P (dC, dI) vwCl [(ma 0, .inr (5, [.int 0, .ref (ma 1), .int 0, .ref (ma 2), .int 150, .int 3, .int 0, .int ki, .ref (ma 3), .ref (ma 4), .ref (ma 5), .ref (ma 6), .int kc, .int 0, .ref (ma 7), .int 0, .ref (ma 8), .int (-1), .ref (ma 9), .ref (ma 10), .ref (ma 11), .ref (ma 12), .ref (ma 13), .int 0, .int 0])), (ma 2, .inl (cI, 150, .inl kt)), (ma 9, .inl (cI, 151, .inl g9)), (ma 10, .inl (cI, 151, .inl g10)), (ma 11, .inl (cI, 151, .inl g11)), (ma 12, .inl (cI, 151, .inl g12)), (ma 13, .inl (cI, 151, .inl g13)), (qb, .inl (cI, 151, .inl kw)), (qa, .inl (cI, 151, .inl kq))] H → va_D A [(ma 0, .inr (5, [.int 0, .ref (ma 1), .int 0, .ref (ma 2), .int 150, .int 3, .int 0, .int ki, .ref (ma 3), .ref (ma 4), .ref (ma 5), .ref (ma 6), .int kc, .int 0, .ref (ma 7), .int 0, .ref (ma 8), .int (-1), .ref (ma 9), .ref (ma 10), .ref (ma 11), .ref (ma 12), .ref (ma 13), .int 0, .int 0])), (ma 2, .inl (cI, 150, .inl kt)), (ma 9, .inl (cI, 151, .inl g9)), (ma 10, .inl (cI, 151, .inl g10)), (ma 11, .inl (cI, 151, .inl g11)), (ma 12, .inl (cI, 151, .inl g12)), (ma 13, .inl (cI, 151, .inl g13)), (qb, .inl (cI, 151, .inl kw)), (qa, .inl (cI, 151, .inl kq))] → va_S A s.heap H locs → lv_has ls 5 [(4, .int x), (3, .ref qa), (2, .int 1), (1, .int (nI ka)), (0, .ref (ma 0))] → W p l e (headSpec wsX5_look ({ frames := 2, cells := 2, slots := 302, locals := 50 })).room s m args below meth c H locs 2 302 Q (F0 m 66 ls []) := by
  intro j
  induction j with
  | zero => intro tn x g9 g10 g11 g12 g13 H locs ls hj; omega
  | succ j ih =>
    intro tn x g9 g10 g11 g12 g13 H locs ls hj hx1 hbt hV hE hP hD hS hl
    refine lv_iload hx hb dX5_look_66 (lv_at hl 0 rfl) ?_
    refine lv_aload_n hx hb dX5_look_68 rfl (lv_at hl 4 rfl) ?_
    refine va_get (D := (dC, dI)) (ci := 5) (v := .int 3) (C := RX5) (T := TX5) (N := 25) hx hb hts (by decide +kernel) hown hK hP 0 rfl rfl 5 (by decide) (hts (.fieldLink RX5 16 "DeltaCodecModel" "least" "I") (by decide +kernel)) (fun _ h9 => h9) rfl dX5_look_69 ?_
    refine lv_icmp_lt (tgt := 122) hx hb dX5_look_72 (by decide) (fun c72 => ?_) (fun c72 => ?_)
    · skip
      exact kk tn x g9 g10 g11 g12 g13 H locs ls hV hE (hP.sub [0, 1, 2, 3, 4, 5, 6, 7, 8] rfl) (hD.sub [0, 1, 2, 3, 4, 5, 6, 7, 8] (by decide) rfl) hS (lv_sub hl [0, 1, 2, 3, 4] rfl)
    · skip
      have hlt : 3 ≤ tn := Nat.le_of_not_lt (fun q => c72 (by rw [hx1]; show nI tn < nI 3; exact nI_lt q (by omega)))
      obtain ⟨t1, rfl⟩ : ∃ t1, tn = t1 + 1 := ⟨tn - 1, by omega⟩
      subst hx1
      have hx1 : nI (t1 + 1) = nI (t1 + 1) := rfl
      refine lv_aload_n hx hb dX5_look_75 rfl (lv_at hl 1 rfl) ?_
      refine lv_iload hx hb dX5_look_76 (lv_at hl 0 rfl) ?_
      refine va_iald hx hb hK hP 8 0 rfl rfl (vp_in_nI (by omega) (by omega)) dX5_look_78 ?_
      refine lv_topi (fun x_1106 ex_1106 => ?_)
      refine lv_iconst (v := (-1)) hx hb dX5_look_79 (by decide) ?_
      refine lv_icmp_eq (tgt := 116) hx hb dX5_look_80 (by decide) (fun c80 => ?_) (fun c80 => ?_)
      · skip
        obtain ⟨x_1107, ex_1107⟩ : ∃ y : Int32, y = nI (t1 + 1) + (-1) := ⟨_, rfl⟩
        refine lv_iinc (v := x_1107) (lv' := [(4, .int x_1107), (3, .ref qa), (2, .int 1), (1, .int (nI ka)), (0, .ref (ma 0))]) hx hb dX5_look_116 hl (k := 0) rfl (by rw [ex_1107]; rfl) (by decide) rfl (fun ls hl => ?_)
        refine lv_goto (tgt := 66) hx hb dX5_look_119 (by decide) ?_
        exact ih t1 x_1107 g9 g10 g11 g12 g13 H locs ls (by omega) (by rw [ex_1107, ← Int32.sub_eq_add_neg]; exact nI_pred t1) (by omega) hV hE (hP.sub [0, 1, 2, 3, 4, 5, 6, 7, 8] rfl) (hD.sub [0, 1, 2, 3, 4, 5, 6, 7, 8] (by decide) rfl) hS (lv_sub hl [0, 1, 2, 3, 4] rfl)
      · skip
        refine lv_aload_n hx hb dX5_look_83 rfl (lv_at hl 4 rfl) ?_
        refine lv_iload_n hx hb dX5_look_84 rfl (lv_at hl 3 rfl) ?_
        refine lv_iload_n hx hb dX5_look_85 rfl (lv_at hl 2 rfl) ?_
        refine lv_if_ne (tgt := 93) hx hb dX5_look_86 (by decide) (fun c86 => ?_) (fun h => absurd h (by decide))
        refine lv_iconst (v := 2) hx hb dX5_look_93 (by decide) ?_
        refine lv_iload hx hb dX5_look_94 (lv_at hl 0 rfl) ?_
        refine lv_aload_n hx hb dX5_look_96 rfl (lv_at hl 1 rfl) ?_
        refine lv_iload hx hb dX5_look_97 (lv_at hl 0 rfl) ?_
        refine va_iald hx hb hK hP 8 0 rfl rfl (vp_in_nI (by omega) (by omega)) dX5_look_99 ?_
        refine lv_topi (fun x_1108 ex_1108 => ?_)
        refine lv_iload hx hb dX5_look_100 (lv_at hl 0 rfl) ?_
        have hPc := hP.sub (ws' := []) [] rfl
        have hFc : ∀ q : Nat, H.size ≤ q → A q := fun q h => hA q (Nat.le_trans hS.1 h)
        have hKc := hK.sub (tys' := []) [] rfl
        refine va_calli (va_runS (As := [.int (nI (t1 + 1))]) (rest := [.int x_1108, .int (nI (t1 + 1)), .int 2, .int (nI ka), .ref (ma 0)]) ⟨hx, hb, hml, hown, hts⟩ (k_headSize l dC dI (nI (t1 + 1)) H.size) (va_cwS 1 hts gX5_look_X5_headSize rfl rfl rfl (by decide +kernel) ⟨Nat.le_of_ble_eq_true rfl, Nat.le_of_ble_eq_true rfl⟩) ⟨fun a U g mk q => by obtain ⟨q0, q1, qP, qK, qD⟩ := q; exact ⟨q0, q1, qP, va_K.moved (u := U) (U := U.calling g mk a) (Vm.Alike.refl U.vm) qK, qD⟩, fun U hU hW => ⟨rfl, by rw [hU], by rw [hU]; exact hPc, va_K.moved hW.alike hKc, zz_D (hD.sub (ws' := []) [] (by decide) rfl)⟩⟩ rfl rfl hl.1 rfl (lv_room (Nat.le_of_ble_eq_true rfl)) dX5_look_102 ⟨(Nat.le_of_ble_eq_true rfl), (Nat.le_of_ble_eq_true rfl)⟩) hS (fun q h1 h2 => absurd h1 (Nat.not_lt.mpr h2)) hFc (fun r_1109 u_1110 t H1 locs ht hvm hw hB hz1 hk1 hS1 => ?_)
        have hP := zz_keep hP hk1
        have hS := hS1
        clear hS1
        generalize H1 = H at hP hS ht ⊢
        have hP : va_P (dC, dI) vwCl [(ma 0, .inr (5, [.int 0, .ref (ma 1), .int 0, .ref (ma 2), .int 150, .int 3, .int 0, .int ki, .ref (ma 3), .ref (ma 4), .ref (ma 5), .ref (ma 6), .int kc, .int 0, .ref (ma 7), .int 0, .ref (ma 8), .int (-1), .ref (ma 9), .ref (ma 10), .ref (ma 11), .ref (ma 12), .ref (ma 13), .int 0, .int 0])), (ma 2, .inl (cI, 150, .inl kt)), (ma 9, .inl (cI, 151, .inl g9)), (ma 10, .inl (cI, 151, .inl g10)), (ma 11, .inl (cI, 151, .inl g11)), (ma 12, .inl (cI, 151, .inl g12)), (ma 13, .inl (cI, 151, .inl g13)), (qb, .inl (cI, 151, .inl kw)), (qa, .inl (cI, 151, .inl kq))] H := hP
        have w102 := hw
        refine lv_aload_n hx hb dX5_look_105 rfl (lv_at hl 1 rfl) ?_
        refine lv_iload hx hb dX5_look_106 (lv_at hl 0 rfl) ?_
        refine va_iald hx hb hK hP 8 0 rfl rfl (vp_in_nI (by omega) (by omega)) dX5_look_108 ?_
        refine lv_topi (fun x_1111 ex_1111 => ?_)
        have hPc := hP.sub (ws' := []) [] rfl
        have hFc : ∀ q : Nat, H.size ≤ q → A q := fun q h => hA q (Nat.le_trans hS.1 h)
        have hKc := hK.sub (tys' := []) [] rfl
        refine va_calli (va_runS (As := [.int x_1111]) (rest := [.int r_1109, .int x_1108, .int (nI (t1 + 1)), .int 2, .int (nI ka), .ref (ma 0)]) ⟨hx, hb, hml, hown, hts⟩ (k_numberSize l dC dI x_1111 H.size) (va_cwS 1 hts gX5_look_X5_numberSize rfl rfl rfl (by decide +kernel) ⟨Nat.le_of_ble_eq_true rfl, Nat.le_of_ble_eq_true rfl⟩) ⟨fun a U g mk q => by obtain ⟨q0, q1, qP, qK, qD⟩ := q; exact ⟨q0, q1, qP, va_K.moved (u := U) (U := U.calling g mk a) (Vm.Alike.refl U.vm) qK, qD⟩, fun U hU hW => ⟨rfl, by rw [hU], by rw [hU]; exact hPc, va_K.moved hW.alike hKc, zz_D (hD.sub (ws' := []) [] (by decide) rfl)⟩⟩ rfl rfl hl.1 rfl (lv_room (Nat.le_of_ble_eq_true rfl)) dX5_look_109 ⟨(Nat.le_of_ble_eq_true rfl), (Nat.le_of_ble_eq_true rfl)⟩) hS (fun q h1 h2 => absurd h1 (Nat.not_lt.mpr h2)) hFc (fun r_1112 u_1113 t H1 locs ht hvm hw hB hz1 hk1 hS1 => ?_)
        have hP := zz_keep hP hk1
        have hS := hS1
        clear hS1
        generalize H1 = H at hP hS ht ⊢
        have hP : va_P (dC, dI) vwCl [(ma 0, .inr (5, [.int 0, .ref (ma 1), .int 0, .ref (ma 2), .int 150, .int 3, .int 0, .int ki, .ref (ma 3), .ref (ma 4), .ref (ma 5), .ref (ma 6), .int kc, .int 0, .ref (ma 7), .int 0, .ref (ma 8), .int (-1), .ref (ma 9), .ref (ma 10), .ref (ma 11), .ref (ma 12), .ref (ma 13), .int 0, .int 0])), (ma 2, .inl (cI, 150, .inl kt)), (ma 9, .inl (cI, 151, .inl g9)), (ma 10, .inl (cI, 151, .inl g10)), (ma 11, .inl (cI, 151, .inl g11)), (ma 12, .inl (cI, 151, .inl g12)), (ma 13, .inl (cI, 151, .inl g13)), (qb, .inl (cI, 151, .inl kw)), (qa, .inl (cI, 151, .inl kq))] H := hP
        have w109 := hw
        refine lv_iadd hx hb dX5_look_112 ?_
        refine lv_topi (fun x_1114 ex_1114 => ?_)
        have hPc := hP.sub (ws' := [(ma 0, .inr (5, [.int 0, .ref (ma 1), .int 0, .ref (ma 2), .int 150, .int 3, .int 0, .int ki, .ref (ma 3), .ref (ma 4), .ref (ma 5), .ref (ma 6), .int kc, .int 0, .ref (ma 7), .int 0, .ref (ma 8), .int (-1), .ref (ma 9), .ref (ma 10), .ref (ma 11), .ref (ma 12), .ref (ma 13), .int 0, .int 0])), (ma 9, .inl (cI, 151, .inl g9)), (ma 10, .inl (cI, 151, .inl g10)), (ma 11, .inl (cI, 151, .inl g11)), (ma 12, .inl (cI, 151, .inl g12)), (ma 13, .inl (cI, 151, .inl g13))]) [0, 2, 3, 4, 5, 6] rfl
        have hDc := hD.sub (ws' := [(ma 0, .inr (5, [.int 0, .ref (ma 1), .int 0, .ref (ma 2), .int 150, .int 3, .int 0, .int ki, .ref (ma 3), .ref (ma 4), .ref (ma 5), .ref (ma 6), .int kc, .int 0, .ref (ma 7), .int 0, .ref (ma 8), .int (-1), .ref (ma 9), .ref (ma 10), .ref (ma 11), .ref (ma 12), .ref (ma 13), .int 0, .int 0])), (ma 9, .inl (cI, 151, .inl g9)), (ma 10, .inl (cI, 151, .inl g10)), (ma 11, .inl (cI, 151, .inl g11)), (ma 12, .inl (cI, 151, .inl g12)), (ma 13, .inl (cI, 151, .inl g13))]) [0, 2, 3, 4, 5, 6] (by decide) rfl
        have hFc := va_free (wc := [(ma 0, .inr (5, [.int 0, .ref (ma 1), .int 0, .ref (ma 2), .int 150, .int 3, .int 0, .int ki, .ref (ma 3), .ref (ma 4), .ref (ma 5), .ref (ma 6), .int kc, .int 0, .ref (ma 7), .int 0, .ref (ma 8), .int (-1), .ref (ma 9), .ref (ma 10), .ref (ma 11), .ref (ma 12), .ref (ma 13), .int 0, .int 0])), (ma 9, .inl (cI, 151, .inl g9)), (ma 10, .inl (cI, 151, .inl g10)), (ma 11, .inl (cI, 151, .inl g11)), (ma 12, .inl (cI, 151, .inl g12)), (ma 13, .inl (cI, 151, .inl g13))]) hD hS hA [0, 2, 3, 4, 5, 6] rfl
        have hKc := hK.sub (tys' := [(cI, .int)]) [0] rfl
        refine va_callv (va_runV (As := [.int (nI ka), .int 2, .int (nI (t1 + 1)), .int x_1108, .int x_1114]) (rest := []) ⟨hx, hb, hml, hown, hts⟩ (k_offer l dC dI cI ma ki kc g9 g10 g11 g12 g13 ka 2 (t1 + 1) x_1108 x_1114 H.size (by omega) hbt) (cwV 5 hts gX5_look_X5_offer rfl rfl rfl (by decide +kernel) ⟨Nat.le_of_ble_eq_true rfl, Nat.le_of_ble_eq_true rfl⟩) ⟨fun a U g mk q => by obtain ⟨q0, q1, qP, qK, qD⟩ := q; exact ⟨q0, q1, qP, va_K.moved (u := U) (U := U.calling g mk a) (Vm.Alike.refl U.vm) qK, qD⟩, va_recv hKc hPc (ci := 5) (q0 := 0) rfl rfl, fun U hU hW => ⟨rfl, by rw [hU], by rw [hU]; exact hPc, va_K.moved hW.alike hKc, zz_D hDc⟩⟩ rfl rfl hl.1 rfl (lv_room (Nat.le_of_ble_eq_true rfl)) dX5_look_113 ⟨(Nat.le_of_ble_eq_true rfl), (Nat.le_of_ble_eq_true rfl)⟩) hS (fun q _ h => hFc q h) hFc (fun u_1116 t H1 locs ht hvm hw hB hz1 hk1 hS1 => ?_)
        obtain ⟨hP1, hD1⟩ := hB
        rw [ht] at hP1
        obtain ⟨hP, hD⟩ := va_join (wr := [(ma 2, .inl (cI, 150, .inl kt)), (qb, .inl (cI, 151, .inl kw)), (qa, .inl (cI, 151, .inl kq))]) (w1 := [(ma 0, .inr (5, [.int 0, .ref (ma 1), .int 0, .ref (ma 2), .int 150, .int 3, .int 0, .int ki, .ref (ma 3), .ref (ma 4), .ref (ma 5), .ref (ma 6), .int kc, .int 0, .ref (ma 7), .int 0, .ref (ma 8), .int (-1), .ref (ma 9), .ref (ma 10), .ref (ma 11), .ref (ma 12), .ref (ma 13), .int 0, .int 0])), (ma 9, .inl (cI, 151, .inl u_1116.1)), (ma 10, .inl (cI, 151, .inl u_1116.2.1)), (ma 11, .inl (cI, 151, .inl u_1116.2.2.1)), (ma 12, .inl (cI, 151, .inl u_1116.2.2.2.1)), (ma 13, .inl (cI, 151, .inl u_1116.2.2.2.2))]) hP hD [0, 2, 3, 4, 5, 6] [1, 7, 8] rfl rfl (by decide) (by decide) hk1 hFc hP1 hD1
        have hS := hS1
        clear hS1
        generalize H1 = H at hP hS ht ⊢
        have hP : va_P (dC, dI) vwCl [(ma 2, .inl (cI, 150, .inl kt)), (qb, .inl (cI, 151, .inl kw)), (qa, .inl (cI, 151, .inl kq)), (ma 0, .inr (5, [.int 0, .ref (ma 1), .int 0, .ref (ma 2), .int 150, .int 3, .int 0, .int ki, .ref (ma 3), .ref (ma 4), .ref (ma 5), .ref (ma 6), .int kc, .int 0, .ref (ma 7), .int 0, .ref (ma 8), .int (-1), .ref (ma 9), .ref (ma 10), .ref (ma 11), .ref (ma 12), .ref (ma 13), .int 0, .int 0])), (ma 9, .inl (cI, 151, .inl u_1116.1)), (ma 10, .inl (cI, 151, .inl u_1116.2.1)), (ma 11, .inl (cI, 151, .inl u_1116.2.2.1)), (ma 12, .inl (cI, 151, .inl u_1116.2.2.2.1)), (ma 13, .inl (cI, 151, .inl u_1116.2.2.2.2))] H := hP
        have hD : va_D A [(ma 2, .inl (cI, 150, .inl kt)), (qb, .inl (cI, 151, .inl kw)), (qa, .inl (cI, 151, .inl kq)), (ma 0, .inr (5, [.int 0, .ref (ma 1), .int 0, .ref (ma 2), .int 150, .int 3, .int 0, .int ki, .ref (ma 3), .ref (ma 4), .ref (ma 5), .ref (ma 6), .int kc, .int 0, .ref (ma 7), .int 0, .ref (ma 8), .int (-1), .ref (ma 9), .ref (ma 10), .ref (ma 11), .ref (ma 12), .ref (ma 13), .int 0, .int 0])), (ma 9, .inl (cI, 151, .inl u_1116.1)), (ma 10, .inl (cI, 151, .inl u_1116.2.1)), (ma 11, .inl (cI, 151, .inl u_1116.2.2.1)), (ma 12, .inl (cI, 151, .inl u_1116.2.2.2.1)), (ma 13, .inl (cI, 151, .inl u_1116.2.2.2.2))] := hD
        have w113 := hw
        obtain ⟨x_1117, ex_1117⟩ : ∃ y : Int32, y = nI (t1 + 1) + (-1) := ⟨_, rfl⟩
        refine lv_iinc (v := x_1117) (lv' := [(4, .int x_1117), (3, .ref qa), (2, .int 1), (1, .int (nI ka)), (0, .ref (ma 0))]) hx hb dX5_look_116 hl (k := 0) rfl (by rw [ex_1117]; rfl) (by decide) rfl (fun ls hl => ?_)
        refine lv_goto (tgt := 66) hx hb dX5_look_119 (by decide) ?_
        exact ih t1 x_1117 u_1116.1 u_1116.2.1 u_1116.2.2.1 u_1116.2.2.2.1 u_1116.2.2.2.2 H locs ls (by omega) (by rw [ex_1117, ← Int32.sub_eq_add_neg]; exact nI_pred t1) (by omega) (zz_sV w113 (by omega) hbt hV) (zz_sE w113 hE) (hP.sub [3, 0, 4, 5, 6, 7, 8, 1, 2] rfl) (hD.sub [3, 0, 4, 5, 6, 7, 8, 1, 2] (by decide) rfl) hS (lv_sub hl [0, 1, 2, 3, 4] rfl)
set_option maxHeartbeats 4000000 in
set_option maxRecDepth 100000 in
theorem lo_lkD {p : Program} {l : Launch} {e : Env} {s : State} {m : MethodId} {args : Array Value} {below : List Frame} {meth : Method} {c : Code} {Q : State → Prop} {A : Nat → Prop} (dC : Nat → ClassId) (dI : Nat → Nat → Nat) (cI : ClassId) (ma : Nat → Nat) (kt : Nat → Int32) (ka : Nat) (ki : Int32) (kc : Int32) (f9 : Nat → Int32) (f10 : Nat → Int32) (f11 : Nat → Int32) (f12 : Nat → Int32) (f13 : Nat → Int32) (qa : Nat) (kq : Nat → Int32) (qb : Nat) (kw : Nat → Int32) (g9 : Nat → Int32) (g10 : Nat → Int32) (g11 : Nat → Int32) (g12 : Nat → Int32) (g13 : Nat → Int32) (hx : p.tables.exec = Jvm.exec) (hb : c.code = cX5_look) (hml : c.maxLocals = 5) (hown : s.vm.findClass RX5 = some m.cls) (hts : ∀ w ∈ wsX5_look, w.before args s = true) (hA : ∀ q : Nat, s.heap.size ≤ q → A q) (hK : va_K (dC, dI) vwCl [(cI, .int)] s)
    (kk : ∀ (tn : Nat) (x : Int32) (H : Heap) (locs : List Loc) (ls : Array Slot), x = nI tn → 1 ≤ tn → ka + tn ≤ 150 → va_P (dC, dI) vwCl [(ma 0, .inr (5, [.int 0, .ref (ma 1), .int 0, .ref (ma 2), .int 150, .int 3, .int 0, .int ki, .ref (ma 3), .ref (ma 4), .ref (ma 5), .ref (ma 6), .int kc, .int 0, .ref (ma 7), .int 0, .ref (ma 8), .int (-1), .ref (ma 9), .ref (ma 10), .ref (ma 11), .ref (ma 12), .ref (ma 13), .int 0, .int 0])), (ma 2, .inl (cI, 150, .inl kt)), (ma 9, .inl (cI, 151, .inl g9)), (ma 10, .inl (cI, 151, .inl g10)), (ma 11, .inl (cI, 151, .inl g11)), (ma 12, .inl (cI, 151, .inl g12)), (ma 13, .inl (cI, 151, .inl g13)), (qb, .inl (cI, 151, .inl kw)), (qa, .inl (cI, 151, .inl kq))] H → va_D A [(ma 0, .inr (5, [.int 0, .ref (ma 1), .int 0, .ref (ma 2), .int 150, .int 3, .int 0, .int ki, .ref (ma 3), .ref (ma 4), .ref (ma 5), .ref (ma 6), .int kc, .int 0, .ref (ma 7), .int 0, .ref (ma 8), .int (-1), .ref (ma 9), .ref (ma 10), .ref (ma 11), .ref (ma 12), .ref (ma 13), .int 0, .int 0])), (ma 2, .inl (cI, 150, .inl kt)), (ma 9, .inl (cI, 151, .inl g9)), (ma 10, .inl (cI, 151, .inl g10)), (ma 11, .inl (cI, 151, .inl g11)), (ma 12, .inl (cI, 151, .inl g12)), (ma 13, .inl (cI, 151, .inl g13)), (qb, .inl (cI, 151, .inl kw)), (qa, .inl (cI, 151, .inl kq))] → va_S A s.heap H locs → lv_has ls 5 [(2, .int x), (1, .int (nI ka)), (0, .ref (ma 0))] → W p l e (headSpec wsX5_look ({ frames := 2, cells := 2, slots := 302, locals := 50 })).room s m args below meth c H locs 2 302 Q (F0 m 163 ls []))
    : ∀ (j : Nat) (tn : Nat) (x : Int32) (H : Heap) (locs : List Loc) (ls : Array Slot), 150 - (ka + tn) < j → (x = nI tn) → (1 ≤ tn) → (ka + tn ≤ 150) → va_P (dC, dI) vwCl [(ma 0, .inr (5, [.int 0, .ref (ma 1), .int 0, .ref (ma 2), .int 150, .int 3, .int 0, .int ki, .ref (ma 3), .ref (ma 4), .ref (ma 5), .ref (ma 6), .int kc, .int 0, .ref (ma 7), .int 0, .ref (ma 8), .int (-1), .ref (ma 9), .ref (ma 10), .ref (ma 11), .ref (ma 12), .ref (ma 13), .int 0, .int 0])), (ma 2, .inl (cI, 150, .inl kt)), (ma 9, .inl (cI, 151, .inl g9)), (ma 10, .inl (cI, 151, .inl g10)), (ma 11, .inl (cI, 151, .inl g11)), (ma 12, .inl (cI, 151, .inl g12)), (ma 13, .inl (cI, 151, .inl g13)), (qb, .inl (cI, 151, .inl kw)), (qa, .inl (cI, 151, .inl kq))] H → va_D A [(ma 0, .inr (5, [.int 0, .ref (ma 1), .int 0, .ref (ma 2), .int 150, .int 3, .int 0, .int ki, .ref (ma 3), .ref (ma 4), .ref (ma 5), .ref (ma 6), .int kc, .int 0, .ref (ma 7), .int 0, .ref (ma 8), .int (-1), .ref (ma 9), .ref (ma 10), .ref (ma 11), .ref (ma 12), .ref (ma 13), .int 0, .int 0])), (ma 2, .inl (cI, 150, .inl kt)), (ma 9, .inl (cI, 151, .inl g9)), (ma 10, .inl (cI, 151, .inl g10)), (ma 11, .inl (cI, 151, .inl g11)), (ma 12, .inl (cI, 151, .inl g12)), (ma 13, .inl (cI, 151, .inl g13)), (qb, .inl (cI, 151, .inl kw)), (qa, .inl (cI, 151, .inl kq))] → va_S A s.heap H locs → lv_has ls 5 [(2, .int x), (1, .int (nI ka)), (0, .ref (ma 0))] → W p l e (headSpec wsX5_look ({ frames := 2, cells := 2, slots := 302, locals := 50 })).room s m args below meth c H locs 2 302 Q (F0 m 130 ls []) := by
  intro j
  induction j with
  | zero => intro tn x H locs ls hj; omega
  | succ j ih =>
    intro tn x H locs ls hj hx1 h1t hbt hP hD hS hl
    refine lv_iload_n hx hb dX5_look_130 rfl (lv_at hl 1 rfl) ?_
    refine lv_iload_n hx hb dX5_look_131 rfl (lv_at hl 0 rfl) ?_
    refine lv_iadd hx hb dX5_look_132 ?_
    refine lv_topi (fun x_1118 ex_1118 => ?_)
    obtain rfl : nI ka + x = x_1118 := ex_1118.symm
    refine lv_aload_n hx hb dX5_look_133 rfl (lv_at hl 2 rfl) ?_
    refine va_get (D := (dC, dI)) (ci := 5) (v := .int 150) (C := RX5) (T := TX5) (N := 25) hx hb hts (by decide +kernel) hown hK hP 0 rfl rfl 4 (by decide) (hts (.fieldLink RX5 62 "DeltaCodecModel" "size" "I") (by decide +kernel)) (fun _ h9 => h9) rfl dX5_look_134 ?_
    refine lv_icmp_ge (tgt := 163) hx hb dX5_look_137 (by decide) (fun c137 => ?_) (fun c137 => ?_)
    · skip
      exact kk tn x H locs ls hx1 h1t hbt (hP.sub [0, 1, 2, 3, 4, 5, 6, 7, 8] rfl) (hD.sub [0, 1, 2, 3, 4, 5, 6, 7, 8] (by decide) rfl) hS (lv_sub hl [0, 1, 2] rfl)
    · skip
      have hlt : ka + tn < 150 := Nat.lt_of_not_le (fun q => c137 (by rw [hx1, nI_add]; show nI 150 ≤ nI (ka + tn); exact nI_le q (by omega)))
      refine lv_aload_n hx hb dX5_look_140 rfl (lv_at hl 2 rfl) ?_
      refine va_get (D := (dC, dI)) (ci := 5) (v := .ref (ma 2)) (C := RX5) (T := TX5) (N := 25) hx hb hts (by decide +kernel) hown hK hP 0 rfl rfl 3 (by decide) (hts (.fieldLink RX5 13 "DeltaCodecModel" "target" "[I") (by decide +kernel)) (fun _ h9 => h9) rfl dX5_look_141 ?_
      refine lv_iload_n hx hb dX5_look_144 rfl (lv_at hl 1 rfl) ?_
      refine lv_iload_n hx hb dX5_look_145 rfl (lv_at hl 0 rfl) ?_
      refine lv_iadd hx hb dX5_look_146 ?_
      refine lv_topi (fun x_1119 ex_1119 => ?_)
      obtain rfl : nI ka + x = x_1119 := ex_1119.symm
      refine va_iald hx hb hK hP 1 0 rfl rfl (by rw [hx1, nI_add]; exact vp_in_nI (by omega) (by omega)) dX5_look_147 ?_
      refine lv_topi (fun x_1120 ex_1120 => ?_)
      refine lv_aload_n hx hb dX5_look_148 rfl (lv_at hl 2 rfl) ?_
      refine va_get (D := (dC, dI)) (ci := 5) (v := .ref (ma 2)) (C := RX5) (T := TX5) (N := 25) hx hb hts (by decide +kernel) hown hK hP 0 rfl rfl 3 (by decide) (hts (.fieldLink RX5 13 "DeltaCodecModel" "target" "[I") (by decide +kernel)) (fun _ h9 => h9) rfl dX5_look_149 ?_
      refine lv_iload_n hx hb dX5_look_152 rfl (lv_at hl 1 rfl) ?_
      refine va_iald hx hb hK hP 1 0 rfl rfl (vp_in_nI (by omega) (by omega)) dX5_look_153 ?_
      refine lv_topi (fun x_1121 ex_1121 => ?_)
      refine lv_icmp_ne (tgt := 163) hx hb dX5_look_154 (by decide) (fun c154 => ?_) (fun c154 => ?_)
      · skip
        exact kk tn x H locs ls hx1 h1t hbt (hP.sub [0, 1, 2, 3, 4, 5, 6, 7, 8] rfl) (hD.sub [0, 1, 2, 3, 4, 5, 6, 7, 8] (by decide) rfl) hS (lv_sub hl [0, 1, 2] rfl)
      · skip
        obtain ⟨x_1122, ex_1122⟩ : ∃ y : Int32, y = x + 1 := ⟨_, rfl⟩
        refine lv_iinc (v := x_1122) (lv' := [(2, .int x_1122), (1, .int (nI ka)), (0, .ref (ma 0))]) hx hb dX5_look_157 hl (k := 0) rfl (by rw [ex_1122]; rfl) (by decide) rfl (fun ls hl => ?_)
        refine lv_goto (tgt := 130) hx hb dX5_look_160 (by decide) ?_
        exact ih (tn + 1) x_1122 H locs ls (by omega) (by rw [ex_1122, hx1]; exact nI_1 tn) (by omega) (by omega) (hP.sub [0, 1, 2, 3, 4, 5, 6, 7, 8] rfl) (hD.sub [0, 1, 2, 3, 4, 5, 6, 7, 8] (by decide) rfl) hS (lv_sub hl [0, 1, 2] rfl)
set_option maxHeartbeats 4000000 in
set_option maxRecDepth 100000 in
theorem lo_lkE {p : Program} {l : Launch} {e : Env} {s : State} {m : MethodId} {args : Array Value} {below : List Frame} {meth : Method} {c : Code} {Q : State → Prop} {A : Nat → Prop} (dC : Nat → ClassId) (dI : Nat → Nat → Nat) (cI : ClassId) (ma : Nat → Nat) (kt : Nat → Int32) (ka : Nat) (ki : Int32) (kc : Int32) (f9 : Nat → Int32) (f10 : Nat → Int32) (f11 : Nat → Int32) (f12 : Nat → Int32) (f13 : Nat → Int32) (qa : Nat) (kq : Nat → Int32) (qb : Nat) (kw : Nat → Int32) (hx : p.tables.exec = Jvm.exec) (hb : c.code = cX5_look) (hml : c.maxLocals = 5) (hown : s.vm.findClass RX5 = some m.cls) (hts : ∀ w ∈ wsX5_look, w.before args s = true) (hA : ∀ q : Nat, s.heap.size ≤ q → A q) (hK : va_K (dC, dI) vwCl [(cI, .int)] s)
    (kk : ∀ (tn : Nat) (x : Int32) (g9 : Nat → Int32) (g10 : Nat → Int32) (g11 : Nat → Int32) (g12 : Nat → Int32) (g13 : Nat → Int32) (H : Heap) (locs : List Loc) (ls : Array Slot), zz_V g12 ka → zz_E g12 f12 ka → va_P (dC, dI) vwCl [(ma 0, .inr (5, [.int 0, .ref (ma 1), .int 0, .ref (ma 2), .int 150, .int 3, .int 0, .int ki, .ref (ma 3), .ref (ma 4), .ref (ma 5), .ref (ma 6), .int kc, .int 0, .ref (ma 7), .int 0, .ref (ma 8), .int (-1), .ref (ma 9), .ref (ma 10), .ref (ma 11), .ref (ma 12), .ref (ma 13), .int 0, .int 0])), (ma 2, .inl (cI, 150, .inl kt)), (ma 9, .inl (cI, 151, .inl g9)), (ma 10, .inl (cI, 151, .inl g10)), (ma 11, .inl (cI, 151, .inl g11)), (ma 12, .inl (cI, 151, .inl g12)), (ma 13, .inl (cI, 151, .inl g13)), (qb, .inl (cI, 151, .inl kw)), (qa, .inl (cI, 151, .inl kq))] H → va_D A [(ma 0, .inr (5, [.int 0, .ref (ma 1), .int 0, .ref (ma 2), .int 150, .int 3, .int 0, .int ki, .ref (ma 3), .ref (ma 4), .ref (ma 5), .ref (ma 6), .int kc, .int 0, .ref (ma 7), .int 0, .ref (ma 8), .int (-1), .ref (ma 9), .ref (ma 10), .ref (ma 11), .ref (ma 12), .ref (ma 13), .int 0, .int 0])), (ma 2, .inl (cI, 150, .inl kt)), (ma 9, .inl (cI, 151, .inl g9)), (ma 10, .inl (cI, 151, .inl g10)), (ma 11, .inl (cI, 151, .inl g11)), (ma 12, .inl (cI, 151, .inl g12)), (ma 13, .inl (cI, 151, .inl g13)), (qb, .inl (cI, 151, .inl kw)), (qa, .inl (cI, 151, .inl kq))] → va_S A s.heap H locs → lv_has ls 5 [(3, .int x), (1, .int (nI ka)), (0, .ref (ma 0))] → W p l e (headSpec wsX5_look ({ frames := 2, cells := 2, slots := 302, locals := 50 })).room s m args below meth c H locs 2 302 Q (F0 m 195 ls []))
    : ∀ (j : Nat) (tn : Nat) (x : Int32) (g9 : Nat → Int32) (g10 : Nat → Int32) (g11 : Nat → Int32) (g12 : Nat → Int32) (g13 : Nat → Int32) (H : Heap) (locs : List Loc) (ls : Array Slot), tn < j → (x = nI tn) → (ka + tn ≤ 150) → (zz_V g12 ka) → (zz_E g12 f12 ka) → va_P (dC, dI) vwCl [(ma 0, .inr (5, [.int 0, .ref (ma 1), .int 0, .ref (ma 2), .int 150, .int 3, .int 0, .int ki, .ref (ma 3), .ref (ma 4), .ref (ma 5), .ref (ma 6), .int kc, .int 0, .ref (ma 7), .int 0, .ref (ma 8), .int (-1), .ref (ma 9), .ref (ma 10), .ref (ma 11), .ref (ma 12), .ref (ma 13), .int 0, .int 0])), (ma 2, .inl (cI, 150, .inl kt)), (ma 9, .inl (cI, 151, .inl g9)), (ma 10, .inl (cI, 151, .inl g10)), (ma 11, .inl (cI, 151, .inl g11)), (ma 12, .inl (cI, 151, .inl g12)), (ma 13, .inl (cI, 151, .inl g13)), (qb, .inl (cI, 151, .inl kw)), (qa, .inl (cI, 151, .inl kq))] H → va_D A [(ma 0, .inr (5, [.int 0, .ref (ma 1), .int 0, .ref (ma 2), .int 150, .int 3, .int 0, .int ki, .ref (ma 3), .ref (ma 4), .ref (ma 5), .ref (ma 6), .int kc, .int 0, .ref (ma 7), .int 0, .ref (ma 8), .int (-1), .ref (ma 9), .ref (ma 10), .ref (ma 11), .ref (ma 12), .ref (ma 13), .int 0, .int 0])), (ma 2, .inl (cI, 150, .inl kt)), (ma 9, .inl (cI, 151, .inl g9)), (ma 10, .inl (cI, 151, .inl g10)), (ma 11, .inl (cI, 151, .inl g11)), (ma 12, .inl (cI, 151, .inl g12)), (ma 13, .inl (cI, 151, .inl g13)), (qb, .inl (cI, 151, .inl kw)), (qa, .inl (cI, 151, .inl kq))] → va_S A s.heap H locs → lv_has ls 5 [(3, .int x), (1, .int (nI ka)), (0, .ref (ma 0))] → W p l e (headSpec wsX5_look ({ frames := 2, cells := 2, slots := 302, locals := 50 })).room s m args below meth c H locs 2 302 Q (F0 m 165 ls []) := by
  intro j
  induction j with
  | zero => intro tn x g9 g10 g11 g12 g13 H locs ls hj; omega
  | succ j ih =>
    intro tn x g9 g10 g11 g12 g13 H locs ls hj hx1 hbt hV hE hP hD hS hl
    refine lv_iload_n hx hb dX5_look_165 rfl (lv_at hl 0 rfl) ?_
    refine lv_iconst (v := 1) hx hb dX5_look_166 (by decide) ?_
    refine lv_icmp_lt (tgt := 195) hx hb dX5_look_167 (by decide) (fun c167 => ?_) (fun c167 => ?_)
    · skip
      exact kk tn x g9 g10 g11 g12 g13 H locs ls hV hE (hP.sub [0, 1, 2, 3, 4, 5, 6, 7, 8] rfl) (hD.sub [0, 1, 2, 3, 4, 5, 6, 7, 8] (by decide) rfl) hS (lv_sub hl [0, 1, 2] rfl)
    · skip
      have hlt : 1 ≤ tn := Nat.le_of_not_lt (fun q => c167 (by rw [hx1]; show nI tn < nI 1; exact nI_lt q (by omega)))
      obtain ⟨t1, rfl⟩ : ∃ t1, tn = t1 + 1 := ⟨tn - 1, by omega⟩
      subst hx1
      have hx1 : nI (t1 + 1) = nI (t1 + 1) := rfl
      refine lv_aload_n hx hb dX5_look_170 rfl (lv_at hl 2 rfl) ?_
      refine lv_iload_n hx hb dX5_look_171 rfl (lv_at hl 1 rfl) ?_
      refine lv_iconst (v := 3) hx hb dX5_look_172 (by decide) ?_
      refine lv_iload_n hx hb dX5_look_173 rfl (lv_at hl 0 rfl) ?_
      refine lv_aload_n hx hb dX5_look_174 rfl (lv_at hl 2 rfl) ?_
      refine va_get (D := (dC, dI)) (ci := 5) (v := .ref (ma 2)) (C := RX5) (T := TX5) (N := 25) hx hb hts (by decide +kernel) hown hK hP 0 rfl rfl 3 (by decide) (hts (.fieldLink RX5 13 "DeltaCodecModel" "target" "[I") (by decide +kernel)) (fun _ h9 => h9) rfl dX5_look_175 ?_
      refine lv_iload_n hx hb dX5_look_178 rfl (lv_at hl 1 rfl) ?_
      refine va_iald hx hb hK hP 1 0 rfl rfl (vp_in_nI (by omega) (by omega)) dX5_look_179 ?_
      refine lv_topi (fun x_1123 ex_1123 => ?_)
      refine lv_iload_n hx hb dX5_look_180 rfl (lv_at hl 0 rfl) ?_
      have hPc := hP.sub (ws' := []) [] rfl
      have hFc : ∀ q : Nat, H.size ≤ q → A q := fun q h => hA q (Nat.le_trans hS.1 h)
      have hKc := hK.sub (tys' := []) [] rfl
      refine va_calli (va_runS (As := [.int (nI (t1 + 1))]) (rest := [.int x_1123, .int (nI (t1 + 1)), .int 3, .int (nI ka), .ref (ma 0)]) ⟨hx, hb, hml, hown, hts⟩ (k_headSize l dC dI (nI (t1 + 1)) H.size) (va_cwS 1 hts gX5_look_X5_headSize rfl rfl rfl (by decide +kernel) ⟨Nat.le_of_ble_eq_true rfl, Nat.le_of_ble_eq_true rfl⟩) ⟨fun a U g mk q => by obtain ⟨q0, q1, qP, qK, qD⟩ := q; exact ⟨q0, q1, qP, va_K.moved (u := U) (U := U.calling g mk a) (Vm.Alike.refl U.vm) qK, qD⟩, fun U hU hW => ⟨rfl, by rw [hU], by rw [hU]; exact hPc, va_K.moved hW.alike hKc, zz_D (hD.sub (ws' := []) [] (by decide) rfl)⟩⟩ rfl rfl hl.1 rfl (lv_room (Nat.le_of_ble_eq_true rfl)) dX5_look_181 ⟨(Nat.le_of_ble_eq_true rfl), (Nat.le_of_ble_eq_true rfl)⟩) hS (fun q h1 h2 => absurd h1 (Nat.not_lt.mpr h2)) hFc (fun r_1124 u_1125 t H1 locs ht hvm hw hB hz1 hk1 hS1 => ?_)
      have hP := zz_keep hP hk1
      have hS := hS1
      clear hS1
      generalize H1 = H at hP hS ht ⊢
      have hP : va_P (dC, dI) vwCl [(ma 0, .inr (5, [.int 0, .ref (ma 1), .int 0, .ref (ma 2), .int 150, .int 3, .int 0, .int ki, .ref (ma 3), .ref (ma 4), .ref (ma 5), .ref (ma 6), .int kc, .int 0, .ref (ma 7), .int 0, .ref (ma 8), .int (-1), .ref (ma 9), .ref (ma 10), .ref (ma 11), .ref (ma 12), .ref (ma 13), .int 0, .int 0])), (ma 2, .inl (cI, 150, .inl kt)), (ma 9, .inl (cI, 151, .inl g9)), (ma 10, .inl (cI, 151, .inl g10)), (ma 11, .inl (cI, 151, .inl g11)), (ma 12, .inl (cI, 151, .inl g12)), (ma 13, .inl (cI, 151, .inl g13)), (qb, .inl (cI, 151, .inl kw)), (qa, .inl (cI, 151, .inl kq))] H := hP
      have w181 := hw
      refine lv_iconst (v := 1) hx hb dX5_look_184 (by decide) ?_
      refine lv_iadd hx hb dX5_look_185 ?_
      refine lv_topi (fun x_1126 ex_1126 => ?_)
      have hPc := hP.sub (ws' := [(ma 0, .inr (5, [.int 0, .ref (ma 1), .int 0, .ref (ma 2), .int 150, .int 3, .int 0, .int ki, .ref (ma 3), .ref (ma 4), .ref (ma 5), .ref (ma 6), .int kc, .int 0, .ref (ma 7), .int 0, .ref (ma 8), .int (-1), .ref (ma 9), .ref (ma 10), .ref (ma 11), .ref (ma 12), .ref (ma 13), .int 0, .int 0])), (ma 9, .inl (cI, 151, .inl g9)), (ma 10, .inl (cI, 151, .inl g10)), (ma 11, .inl (cI, 151, .inl g11)), (ma 12, .inl (cI, 151, .inl g12)), (ma 13, .inl (cI, 151, .inl g13))]) [0, 2, 3, 4, 5, 6] rfl
      have hDc := hD.sub (ws' := [(ma 0, .inr (5, [.int 0, .ref (ma 1), .int 0, .ref (ma 2), .int 150, .int 3, .int 0, .int ki, .ref (ma 3), .ref (ma 4), .ref (ma 5), .ref (ma 6), .int kc, .int 0, .ref (ma 7), .int 0, .ref (ma 8), .int (-1), .ref (ma 9), .ref (ma 10), .ref (ma 11), .ref (ma 12), .ref (ma 13), .int 0, .int 0])), (ma 9, .inl (cI, 151, .inl g9)), (ma 10, .inl (cI, 151, .inl g10)), (ma 11, .inl (cI, 151, .inl g11)), (ma 12, .inl (cI, 151, .inl g12)), (ma 13, .inl (cI, 151, .inl g13))]) [0, 2, 3, 4, 5, 6] (by decide) rfl
      have hFc := va_free (wc := [(ma 0, .inr (5, [.int 0, .ref (ma 1), .int 0, .ref (ma 2), .int 150, .int 3, .int 0, .int ki, .ref (ma 3), .ref (ma 4), .ref (ma 5), .ref (ma 6), .int kc, .int 0, .ref (ma 7), .int 0, .ref (ma 8), .int (-1), .ref (ma 9), .ref (ma 10), .ref (ma 11), .ref (ma 12), .ref (ma 13), .int 0, .int 0])), (ma 9, .inl (cI, 151, .inl g9)), (ma 10, .inl (cI, 151, .inl g10)), (ma 11, .inl (cI, 151, .inl g11)), (ma 12, .inl (cI, 151, .inl g12)), (ma 13, .inl (cI, 151, .inl g13))]) hD hS hA [0, 2, 3, 4, 5, 6] rfl
      have hKc := hK.sub (tys' := [(cI, .int)]) [0] rfl
      refine va_callv (va_runV (As := [.int (nI ka), .int 3, .int (nI (t1 + 1)), .int x_1123, .int x_1126]) (rest := []) ⟨hx, hb, hml, hown, hts⟩ (k_offer l dC dI cI ma ki kc g9 g10 g11 g12 g13 ka 3 (t1 + 1) x_1123 x_1126 H.size (by omega) hbt) (cwV 5 hts gX5_look_X5_offer rfl rfl rfl (by decide +kernel) ⟨Nat.le_of_ble_eq_true rfl, Nat.le_of_ble_eq_true rfl⟩) ⟨fun a U g mk q => by obtain ⟨q0, q1, qP, qK, qD⟩ := q; exact ⟨q0, q1, qP, va_K.moved (u := U) (U := U.calling g mk a) (Vm.Alike.refl U.vm) qK, qD⟩, va_recv hKc hPc (ci := 5) (q0 := 0) rfl rfl, fun U hU hW => ⟨rfl, by rw [hU], by rw [hU]; exact hPc, va_K.moved hW.alike hKc, zz_D hDc⟩⟩ rfl rfl hl.1 rfl (lv_room (Nat.le_of_ble_eq_true rfl)) dX5_look_186 ⟨(Nat.le_of_ble_eq_true rfl), (Nat.le_of_ble_eq_true rfl)⟩) hS (fun q _ h => hFc q h) hFc (fun u_1128 t H1 locs ht hvm hw hB hz1 hk1 hS1 => ?_)
      obtain ⟨hP1, hD1⟩ := hB
      rw [ht] at hP1
      obtain ⟨hP, hD⟩ := va_join (wr := [(ma 2, .inl (cI, 150, .inl kt)), (qb, .inl (cI, 151, .inl kw)), (qa, .inl (cI, 151, .inl kq))]) (w1 := [(ma 0, .inr (5, [.int 0, .ref (ma 1), .int 0, .ref (ma 2), .int 150, .int 3, .int 0, .int ki, .ref (ma 3), .ref (ma 4), .ref (ma 5), .ref (ma 6), .int kc, .int 0, .ref (ma 7), .int 0, .ref (ma 8), .int (-1), .ref (ma 9), .ref (ma 10), .ref (ma 11), .ref (ma 12), .ref (ma 13), .int 0, .int 0])), (ma 9, .inl (cI, 151, .inl u_1128.1)), (ma 10, .inl (cI, 151, .inl u_1128.2.1)), (ma 11, .inl (cI, 151, .inl u_1128.2.2.1)), (ma 12, .inl (cI, 151, .inl u_1128.2.2.2.1)), (ma 13, .inl (cI, 151, .inl u_1128.2.2.2.2))]) hP hD [0, 2, 3, 4, 5, 6] [1, 7, 8] rfl rfl (by decide) (by decide) hk1 hFc hP1 hD1
      have hS := hS1
      clear hS1
      generalize H1 = H at hP hS ht ⊢
      have hP : va_P (dC, dI) vwCl [(ma 2, .inl (cI, 150, .inl kt)), (qb, .inl (cI, 151, .inl kw)), (qa, .inl (cI, 151, .inl kq)), (ma 0, .inr (5, [.int 0, .ref (ma 1), .int 0, .ref (ma 2), .int 150, .int 3, .int 0, .int ki, .ref (ma 3), .ref (ma 4), .ref (ma 5), .ref (ma 6), .int kc, .int 0, .ref (ma 7), .int 0, .ref (ma 8), .int (-1), .ref (ma 9), .ref (ma 10), .ref (ma 11), .ref (ma 12), .ref (ma 13), .int 0, .int 0])), (ma 9, .inl (cI, 151, .inl u_1128.1)), (ma 10, .inl (cI, 151, .inl u_1128.2.1)), (ma 11, .inl (cI, 151, .inl u_1128.2.2.1)), (ma 12, .inl (cI, 151, .inl u_1128.2.2.2.1)), (ma 13, .inl (cI, 151, .inl u_1128.2.2.2.2))] H := hP
      have hD : va_D A [(ma 2, .inl (cI, 150, .inl kt)), (qb, .inl (cI, 151, .inl kw)), (qa, .inl (cI, 151, .inl kq)), (ma 0, .inr (5, [.int 0, .ref (ma 1), .int 0, .ref (ma 2), .int 150, .int 3, .int 0, .int ki, .ref (ma 3), .ref (ma 4), .ref (ma 5), .ref (ma 6), .int kc, .int 0, .ref (ma 7), .int 0, .ref (ma 8), .int (-1), .ref (ma 9), .ref (ma 10), .ref (ma 11), .ref (ma 12), .ref (ma 13), .int 0, .int 0])), (ma 9, .inl (cI, 151, .inl u_1128.1)), (ma 10, .inl (cI, 151, .inl u_1128.2.1)), (ma 11, .inl (cI, 151, .inl u_1128.2.2.1)), (ma 12, .inl (cI, 151, .inl u_1128.2.2.2.1)), (ma 13, .inl (cI, 151, .inl u_1128.2.2.2.2))] := hD
      have w186 := hw
      obtain ⟨x_1129, ex_1129⟩ : ∃ y : Int32, y = nI (t1 + 1) + (-1) := ⟨_, rfl⟩
      refine lv_iinc (v := x_1129) (lv' := [(3, .int x_1129), (1, .int (nI ka)), (0, .ref (ma 0))]) hx hb dX5_look_189 hl (k := 0) rfl (by rw [ex_1129]; rfl) (by decide) rfl (fun ls hl => ?_)
      refine lv_goto (tgt := 165) hx hb dX5_look_192 (by decide) ?_
      exact ih t1 x_1129 u_1128.1 u_1128.2.1 u_1128.2.2.1 u_1128.2.2.2.1 u_1128.2.2.2.2 H locs ls (by omega) (by rw [ex_1129, ← Int32.sub_eq_add_neg]; exact nI_pred t1) (by omega) (zz_sV w186 (by omega) hbt hV) (zz_sE w186 hE) (hP.sub [3, 0, 4, 5, 6, 7, 8, 1, 2] rfl) (hD.sub [3, 0, 4, 5, 6, 7, 8, 1, 2] (by decide) rfl) hS (lv_sub hl [0, 1, 2] rfl)
