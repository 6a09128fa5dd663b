set_option maxHeartbeats 4000000 in
set_option maxRecDepth 100000 in
theorem lo_lkA {p : Program} {l : Launch} {e : Env} {s : State} {m : MethodId} {args : Array Value} {below : List Frame} {meth : Method} {c : Code} {Q : State → Prop} {A : Nat → Prop} (dC : Nat → ClassId) (dI : Nat → Nat → Nat) (cI : ClassId) (ma : Nat → Nat) (kt : Nat → Int32) (ka : Nat) (ki : Int32) (kc : Int32) (f9 : Nat → Int32) (f10 : Nat → Int32) (f11 : Nat → Int32) (f12 : Nat → Int32) (f13 : Nat → Int32) (h2 : ka < 150) (hx : p.tables.exec = Jvm.exec) (hb : c.code = cX5_look) (hml : c.maxLocals = 5) (hown : s.vm.findClass RX5 = some m.cls) (hts : ∀ w ∈ wsX5_look, w.before args s = true) (hA : ∀ q : Nat, s.heap.size ≤ q → A q) (hK : va_K (dC, dI) vwCl [(cI, .int)] s)
    (kk : ∀ (tn : Nat) (x : Int32) (g9 : Nat → Int32) (g10 : Nat → Int32) (g11 : Nat → Int32) (g12 : Nat → Int32) (g13 : Nat → Int32) (H : Heap) (locs : List Loc) (ls : Array Slot), zz_V g12 ka → zz_E g12 f12 ka → va_P (dC, dI) vwCl [(ma 0, .inr (5, [.int 0, .ref (ma 1), .int 0, .ref (ma 2), .int 150, .int 3, .int 0, .int ki, .ref (ma 3), .ref (ma 4), .ref (ma 5), .ref (ma 6), .int kc, .int 0, .ref (ma 7), .int 0, .ref (ma 8), .int (-1), .ref (ma 9), .ref (ma 10), .ref (ma 11), .ref (ma 12), .ref (ma 13), .int 0, .int 0])), (ma 2, .inl (cI, 150, .inl kt)), (ma 9, .inl (cI, 151, .inl g9)), (ma 10, .inl (cI, 151, .inl g10)), (ma 11, .inl (cI, 151, .inl g11)), (ma 12, .inl (cI, 151, .inl g12)), (ma 13, .inl (cI, 151, .inl g13))] H → va_D A [(ma 0, .inr (5, [.int 0, .ref (ma 1), .int 0, .ref (ma 2), .int 150, .int 3, .int 0, .int ki, .ref (ma 3), .ref (ma 4), .ref (ma 5), .ref (ma 6), .int kc, .int 0, .ref (ma 7), .int 0, .ref (ma 8), .int (-1), .ref (ma 9), .ref (ma 10), .ref (ma 11), .ref (ma 12), .ref (ma 13), .int 0, .int 0])), (ma 2, .inl (cI, 150, .inl kt)), (ma 9, .inl (cI, 151, .inl g9)), (ma 10, .inl (cI, 151, .inl g10)), (ma 11, .inl (cI, 151, .inl g11)), (ma 12, .inl (cI, 151, .inl g12)), (ma 13, .inl (cI, 151, .inl g13))] → va_S A s.heap H locs → lv_has ls 5 [(2, .int x), (1, .int (nI ka)), (0, .ref (ma 0))] → W p l e (headSpec wsX5_look ({ frames := 2, cells := 2, slots := 302, locals := 50 })).room s m args below meth c H locs 0 0 Q (F0 m 44 ls []))
    : ∀ (j : Nat) (tn : Nat) (x : Int32) (g9 : Nat → Int32) (g10 : Nat → Int32) (g11 : Nat → Int32) (g12 : Nat → Int32) (g13 : Nat → Int32) (H : Heap) (locs : List Loc) (ls : Array Slot), tn < j → (x = nI tn) → (ka + tn ≤ 150) → ((ka + tn = 150 ∧ g9 ka = -1) ∨ zz_V g12 ka) → (zz_E g12 f12 ka) → va_P (dC, dI) vwCl [(ma 0, .inr (5, [.int 0, .ref (ma 1), .int 0, .ref (ma 2), .int 150, .int 3, .int 0, .int ki, .ref (ma 3), .ref (ma 4), .ref (ma 5), .ref (ma 6), .int kc, .int 0, .ref (ma 7), .int 0, .ref (ma 8), .int (-1), .ref (ma 9), .ref (ma 10), .ref (ma 11), .ref (ma 12), .ref (ma 13), .int 0, .int 0])), (ma 2, .inl (cI, 150, .inl kt)), (ma 9, .inl (cI, 151, .inl g9)), (ma 10, .inl (cI, 151, .inl g10)), (ma 11, .inl (cI, 151, .inl g11)), (ma 12, .inl (cI, 151, .inl g12)), (ma 13, .inl (cI, 151, .inl g13))] H → va_D A [(ma 0, .inr (5, [.int 0, .ref (ma 1), .int 0, .ref (ma 2), .int 150, .int 3, .int 0, .int ki, .ref (ma 3), .ref (ma 4), .ref (ma 5), .ref (ma 6), .int kc, .int 0, .ref (ma 7), .int 0, .ref (ma 8), .int (-1), .ref (ma 9), .ref (ma 10), .ref (ma 11), .ref (ma 12), .ref (ma 13), .int 0, .int 0])), (ma 2, .inl (cI, 150, .inl kt)), (ma 9, .inl (cI, 151, .inl g9)), (ma 10, .inl (cI, 151, .inl g10)), (ma 11, .inl (cI, 151, .inl g11)), (ma 12, .inl (cI, 151, .inl g12)), (ma 13, .inl (cI, 151, .inl g13))] → va_S A s.heap H locs → lv_has ls 5 [(2, .int x), (1, .int (nI ka)), (0, .ref (ma 0))] → W p l e (headSpec wsX5_look ({ frames := 2, cells := 2, slots := 302, locals := 50 })).room s m args below meth c H locs 0 0 Q (F0 m 14 ls []) := by
  intro j
  induction j with
  | zero => intro tn x g9 g10 g11 g12 g13 H locs ls hj; omega
  | succ j ih =>
    intro tn x g9 g10 g11 g12 g13 H locs ls hj hx1 hbt hV hE hP hD hS hl
    refine lv_iload_n hx hb dX5_look_14 rfl (lv_at hl 0 rfl) ?_
    refine lv_iconst (v := 1) hx hb dX5_look_15 (by decide) ?_
    refine lv_icmp_lt (tgt := 44) hx hb dX5_look_16 (by decide) (fun c16 => ?_) (fun c16 => ?_)
    · skip
      exact kk tn x g9 g10 g11 g12 g13 H locs ls (hV.elim (fun h => by have h9 := h.1; exact absurd c16 (by rw [hx1]; show ¬ nI tn < nI 1; exact nI_nlt (by omega) (by omega))) id) hE (hP.sub [0, 1, 2, 3, 4, 5, 6] rfl) (hD.sub [0, 1, 2, 3, 4, 5, 6] (by decide) rfl) hS (lv_sub hl [0, 1, 2] rfl)
    · skip
      have hlt : 1 ≤ tn := Nat.le_of_not_lt (fun q => c16 (by rw [hx1]; show nI tn < nI 1; exact nI_lt q (by omega)))
      obtain ⟨t1, rfl⟩ : ∃ t1, tn = t1 + 1 := ⟨tn - 1, by omega⟩
      subst hx1
      have hx1 : nI (t1 + 1) = nI (t1 + 1) := rfl
      refine lv_aload_n hx hb dX5_look_19 rfl (lv_at hl 2 rfl) ?_
      refine lv_iload_n hx hb dX5_look_20 rfl (lv_at hl 1 rfl) ?_
      refine lv_iconst (v := 0) hx hb dX5_look_21 (by decide) ?_
      refine lv_iload_n hx hb dX5_look_22 rfl (lv_at hl 0 rfl) ?_
      refine lv_aload_n hx hb dX5_look_23 rfl (lv_at hl 2 rfl) ?_
      refine va_get (D := (dC, dI)) (ci := 5) (v := .ref (ma 2)) (C := RX5) (T := TX5) (N := 25) hx hb hts (by decide +kernel) hown hK hP 0 rfl rfl 3 (by decide) (hts (.fieldLink RX5 13 "DeltaCodecModel" "target" "[I") (by decide +kernel)) (fun _ h9 => h9) rfl dX5_look_24 ?_
      refine lv_iload_n hx hb dX5_look_27 rfl (lv_at hl 1 rfl) ?_
      refine va_iald hx hb hK hP 1 0 rfl rfl (vp_in_nI (by omega) (by omega)) dX5_look_28 ?_
      refine lv_topi (fun x_756 ex_756 => ?_)
      refine lv_iload_n hx hb dX5_look_29 rfl (lv_at hl 0 rfl) ?_
      have hPc := hP.sub (ws' := []) [] rfl
      have hFc : ∀ q : Nat, H.size ≤ q → A q := fun q h => hA q (Nat.le_trans hS.1 h)
      have hKc := hK.sub (tys' := []) [] rfl
      refine va_calli (va_runS (As := [.int (nI (t1 + 1))]) (rest := [.int x_756, .int (nI (t1 + 1)), .int 0, .int (nI ka), .ref (ma 0)]) ⟨hx, hb, hml, hown, hts⟩ (k_headSize l dC dI (nI (t1 + 1)) H.size) (va_cwS 1 hts gX5_look_X5_headSize rfl rfl rfl (by decide +kernel) ⟨Nat.le_of_ble_eq_true rfl, Nat.le_of_ble_eq_true rfl⟩) ⟨fun a U g mk q => by obtain ⟨q0, q1, qP, qK, qD⟩ := q; exact ⟨q0, q1, qP, va_K.moved (u := U) (U := U.calling g mk a) (Vm.Alike.refl U.vm) qK, qD⟩, fun U hU hW => ⟨rfl, by rw [hU], by rw [hU]; exact hPc, va_K.moved hW.alike hKc, zz_D (hD.sub (ws' := []) [] (by decide) rfl)⟩⟩ rfl rfl hl.1 rfl (lv_room (Nat.le_of_ble_eq_true rfl)) dX5_look_30 ⟨(Nat.le_of_ble_eq_true rfl), (Nat.le_of_ble_eq_true rfl)⟩) hS (fun q h1 h2 => absurd h1 (Nat.not_lt.mpr h2)) hFc (fun r_757 u_758 t H1 locs ht hvm hw hB hz1 hk1 hS1 => ?_)
      have hP := zz_keep hP hk1
      have hS := hS1
      clear hS1
      generalize H1 = H at hP hS ht ⊢
      have hP : va_P (dC, dI) vwCl [(ma 0, .inr (5, [.int 0, .ref (ma 1), .int 0, .ref (ma 2), .int 150, .int 3, .int 0, .int ki, .ref (ma 3), .ref (ma 4), .ref (ma 5), .ref (ma 6), .int kc, .int 0, .ref (ma 7), .int 0, .ref (ma 8), .int (-1), .ref (ma 9), .ref (ma 10), .ref (ma 11), .ref (ma 12), .ref (ma 13), .int 0, .int 0])), (ma 2, .inl (cI, 150, .inl kt)), (ma 9, .inl (cI, 151, .inl g9)), (ma 10, .inl (cI, 151, .inl g10)), (ma 11, .inl (cI, 151, .inl g11)), (ma 12, .inl (cI, 151, .inl g12)), (ma 13, .inl (cI, 151, .inl g13))] H := hP
      have w30 := hw
      refine lv_iload_n hx hb dX5_look_33 rfl (lv_at hl 0 rfl) ?_
      refine lv_iadd hx hb dX5_look_34 ?_
      refine lv_topi (fun x_759 ex_759 => ?_)
      have hPc := hP.sub (ws' := [(ma 0, .inr (5, [.int 0, .ref (ma 1), .int 0, .ref (ma 2), .int 150, .int 3, .int 0, .int ki, .ref (ma 3), .ref (ma 4), .ref (ma 5), .ref (ma 6), .int kc, .int 0, .ref (ma 7), .int 0, .ref (ma 8), .int (-1), .ref (ma 9), .ref (ma 10), .ref (ma 11), .ref (ma 12), .ref (ma 13), .int 0, .int 0])), (ma 9, .inl (cI, 151, .inl g9)), (ma 10, .inl (cI, 151, .inl g10)), (ma 11, .inl (cI, 151, .inl g11)), (ma 12, .inl (cI, 151, .inl g12)), (ma 13, .inl (cI, 151, .inl g13))]) [0, 2, 3, 4, 5, 6] rfl
      have hDc := hD.sub (ws' := [(ma 0, .inr (5, [.int 0, .ref (ma 1), .int 0, .ref (ma 2), .int 150, .int 3, .int 0, .int ki, .ref (ma 3), .ref (ma 4), .ref (ma 5), .ref (ma 6), .int kc, .int 0, .ref (ma 7), .int 0, .ref (ma 8), .int (-1), .ref (ma 9), .ref (ma 10), .ref (ma 11), .ref (ma 12), .ref (ma 13), .int 0, .int 0])), (ma 9, .inl (cI, 151, .inl g9)), (ma 10, .inl (cI, 151, .inl g10)), (ma 11, .inl (cI, 151, .inl g11)), (ma 12, .inl (cI, 151, .inl g12)), (ma 13, .inl (cI, 151, .inl g13))]) [0, 2, 3, 4, 5, 6] (by decide) rfl
      have hFc := va_free (wc := [(ma 0, .inr (5, [.int 0, .ref (ma 1), .int 0, .ref (ma 2), .int 150, .int 3, .int 0, .int ki, .ref (ma 3), .ref (ma 4), .ref (ma 5), .ref (ma 6), .int kc, .int 0, .ref (ma 7), .int 0, .ref (ma 8), .int (-1), .ref (ma 9), .ref (ma 10), .ref (ma 11), .ref (ma 12), .ref (ma 13), .int 0, .int 0])), (ma 9, .inl (cI, 151, .inl g9)), (ma 10, .inl (cI, 151, .inl g10)), (ma 11, .inl (cI, 151, .inl g11)), (ma 12, .inl (cI, 151, .inl g12)), (ma 13, .inl (cI, 151, .inl g13))]) hD hS hA [0, 2, 3, 4, 5, 6] rfl
      have hKc := hK.sub (tys' := [(cI, .int)]) [0] rfl
      refine va_callv (va_runV (As := [.int (nI ka), .int 0, .int (nI (t1 + 1)), .int x_756, .int x_759]) (rest := []) ⟨hx, hb, hml, hown, hts⟩ (k_offer l dC dI cI ma ki kc g9 g10 g11 g12 g13 ka 0 (t1 + 1) x_756 x_759 H.size (by omega) hbt) (cwV 5 hts gX5_look_X5_offer rfl rfl rfl (by decide +kernel) ⟨Nat.le_of_ble_eq_true rfl, Nat.le_of_ble_eq_true rfl⟩) ⟨fun a U g mk q => by obtain ⟨q0, q1, qP, qK, qD⟩ := q; exact ⟨q0, q1, qP, va_K.moved (u := U) (U := U.calling g mk a) (Vm.Alike.refl U.vm) qK, qD⟩, va_recv hKc hPc (ci := 5) (q0 := 0) rfl rfl, fun U hU hW => ⟨rfl, by rw [hU], by rw [hU]; exact hPc, va_K.moved hW.alike hKc, zz_D hDc⟩⟩ rfl rfl hl.1 rfl (lv_room (Nat.le_of_ble_eq_true rfl)) dX5_look_35 ⟨(Nat.le_of_ble_eq_true rfl), (Nat.le_of_ble_eq_true rfl)⟩) hS (fun q _ h => hFc q h) hFc (fun u_761 t H1 locs ht hvm hw hB hz1 hk1 hS1 => ?_)
      obtain ⟨hP1, hD1⟩ := hB
      rw [ht] at hP1
      obtain ⟨hP, hD⟩ := va_join (wr := [(ma 2, .inl (cI, 150, .inl kt))]) (w1 := [(ma 0, .inr (5, [.int 0, .ref (ma 1), .int 0, .ref (ma 2), .int 150, .int 3, .int 0, .int ki, .ref (ma 3), .ref (ma 4), .ref (ma 5), .ref (ma 6), .int kc, .int 0, .ref (ma 7), .int 0, .ref (ma 8), .int (-1), .ref (ma 9), .ref (ma 10), .ref (ma 11), .ref (ma 12), .ref (ma 13), .int 0, .int 0])), (ma 9, .inl (cI, 151, .inl u_761.1)), (ma 10, .inl (cI, 151, .inl u_761.2.1)), (ma 11, .inl (cI, 151, .inl u_761.2.2.1)), (ma 12, .inl (cI, 151, .inl u_761.2.2.2.1)), (ma 13, .inl (cI, 151, .inl u_761.2.2.2.2))]) hP hD [0, 2, 3, 4, 5, 6] [1] rfl rfl (by decide) (by decide) hk1 hFc hP1 hD1
      have hS := hS1
      clear hS1
      generalize H1 = H at hP hS ht ⊢
      have hP : va_P (dC, dI) vwCl [(ma 2, .inl (cI, 150, .inl kt)), (ma 0, .inr (5, [.int 0, .ref (ma 1), .int 0, .ref (ma 2), .int 150, .int 3, .int 0, .int ki, .ref (ma 3), .ref (ma 4), .ref (ma 5), .ref (ma 6), .int kc, .int 0, .ref (ma 7), .int 0, .ref (ma 8), .int (-1), .ref (ma 9), .ref (ma 10), .ref (ma 11), .ref (ma 12), .ref (ma 13), .int 0, .int 0])), (ma 9, .inl (cI, 151, .inl u_761.1)), (ma 10, .inl (cI, 151, .inl u_761.2.1)), (ma 11, .inl (cI, 151, .inl u_761.2.2.1)), (ma 12, .inl (cI, 151, .inl u_761.2.2.2.1)), (ma 13, .inl (cI, 151, .inl u_761.2.2.2.2))] H := hP
      have hD : va_D A [(ma 2, .inl (cI, 150, .inl kt)), (ma 0, .inr (5, [.int 0, .ref (ma 1), .int 0, .ref (ma 2), .int 150, .int 3, .int 0, .int ki, .ref (ma 3), .ref (ma 4), .ref (ma 5), .ref (ma 6), .int kc, .int 0, .ref (ma 7), .int 0, .ref (ma 8), .int (-1), .ref (ma 9), .ref (ma 10), .ref (ma 11), .ref (ma 12), .ref (ma 13), .int 0, .int 0])), (ma 9, .inl (cI, 151, .inl u_761.1)), (ma 10, .inl (cI, 151, .inl u_761.2.1)), (ma 11, .inl (cI, 151, .inl u_761.2.2.1)), (ma 12, .inl (cI, 151, .inl u_761.2.2.2.1)), (ma 13, .inl (cI, 151, .inl u_761.2.2.2.2))] := hD
      have w35 := hw
      obtain ⟨x_762, ex_762⟩ : ∃ y : Int32, y = nI (t1 + 1) + (-1) := ⟨_, rfl⟩
      refine lv_iinc (v := x_762) (lv' := [(2, .int x_762), (1, .int (nI ka)), (0, .ref (ma 0))]) hx hb dX5_look_38 hl (k := 0) rfl (by rw [ex_762]; rfl) (by decide) rfl (fun ls hl => ?_)
      refine lv_goto (tgt := 14) hx hb dX5_look_41 (by decide) ?_
      exact ih t1 x_762 u_761.1 u_761.2.1 u_761.2.2.1 u_761.2.2.2.1 u_761.2.2.2.2 H locs ls (by omega) (by rw [ex_762, ← Int32.sub_eq_add_neg]; exact nI_pred t1) (by omega) (Or.inr (zz_sA w35 (by omega) hbt hV)) (zz_sE w35 hE) (hP.sub [1, 0, 2, 3, 4, 5, 6] rfl) (hD.sub [1, 0, 2, 3, 4, 5, 6] (by decide) rfl) hS (lv_sub hl [0, 1, 2] rfl)
set_option maxHeartbeats 4000000 in
set_option maxRecDepth 100000 in
theorem lo_lkC0 {p : Program} {l : Launch} {e : Env} {s : State} {m : MethodId} {args : Array Value} {below : List Frame} {meth : Method} {c : Code} {Q : State → Prop} {A : Nat → Prop} (dC : Nat → ClassId) (dI : Nat → Nat → Nat) (cI : ClassId) (ma : Nat → Nat) (kt : Nat → Int32) (ka : Nat) (ki : Int32) (kc : Int32) (f9 : Nat → Int32) (f10 : Nat → Int32) (f11 : Nat → Int32) (f12 : Nat → Int32) (f13 : Nat → Int32) (qa : Nat) (kq : Nat → Int32) (hx : p.tables.exec = Jvm.exec) (hb : c.code = cX5_look) (hml : c.maxLocals = 5) (hown : s.vm.findClass RX5 = some m.cls) (hts : ∀ w ∈ wsX5_look, w.before args s = true) (hA : ∀ q : Nat, s.heap.size ≤ q → A q) (hK : va_K (dC, dI) vwCl [(cI, .int)] s)
    (kk : ∀ (tn : Nat) (x : Int32) (g9 : Nat → Int32) (g10 : Nat → Int32) (g11 : Nat → Int32) (g12 : Nat → Int32) (g13 : Nat → Int32) (H : Heap) (locs : List Loc) (ls : Array Slot), zz_V g12 ka → zz_E g12 f12 ka → va_P (dC, dI) vwCl [(ma 0, .inr (5, [.int 0, .ref (ma 1), .int 0, .ref (ma 2), .int 150, .int 3, .int 0, .int ki, .ref (ma 3), .ref (ma 4), .ref (ma 5), .ref (ma 6), .int kc, .int 0, .ref (ma 7), .int 0, .ref (ma 8), .int (-1), .ref (ma 9), .ref (ma 10), .ref (ma 11), .ref (ma 12), .ref (ma 13), .int 0, .int 0])), (ma 2, .inl (cI, 150, .inl kt)), (ma 9, .inl (cI, 151, .inl g9)), (ma 10, .inl (cI, 151, .inl g10)), (ma 11, .inl (cI, 151, .inl g11)), (ma 12, .inl (cI, 151, .inl g12)), (ma 13, .inl (cI, 151, .inl g13)), (qa, .inl (cI, 151, .inl kq))] H → va_D A [(ma 0, .inr (5, [.int 0, .ref (ma 1), .int 0, .ref (ma 2), .int 150, .int 3, .int 0, .int ki, .ref (ma 3), .ref (ma 4), .ref (ma 5), .ref (ma 6), .int kc, .int 0, .ref (ma 7), .int 0, .ref (ma 8), .int (-1), .ref (ma 9), .ref (ma 10), .ref (ma 11), .ref (ma 12), .ref (ma 13), .int 0, .int 0])), (ma 2, .inl (cI, 150, .inl kt)), (ma 9, .inl (cI, 151, .inl g9)), (ma 10, .inl (cI, 151, .inl g10)), (ma 11, .inl (cI, 151, .inl g11)), (ma 12, .inl (cI, 151, .inl g12)), (ma 13, .inl (cI, 151, .inl g13)), (qa, .inl (cI, 151, .inl kq))] → va_S A s.heap H locs → lv_has ls 5 [(4, .int x), (3, .ref qa), (2, .int 0), (1, .int (nI ka)), (0, .ref (ma 0))] → W p l e (headSpec wsX5_look ({ frames := 2, cells := 2, slots := 302, locals := 50 })).room s m args below meth c H locs 1 151 Q (F0 m 122 ls []))
    : ∀ (j : Nat) (tn : Nat) (x : Int32) (g9 : Nat → Int32) (g10 : Nat → Int32) (g11 : Nat → Int32) (g12 : Nat → Int32) (g13 : Nat → Int32) (H : Heap) (locs : List Loc) (ls : Array Slot), tn < j → (x = nI tn) → (ka + tn ≤ 150) → (zz_V g12 ka) → (zz_E g12 f12 ka) → va_P (dC, dI) vwCl [(ma 0, .inr (5, [.int 0, .ref (ma 1), .int 0, .ref (ma 2), .int 150, .int 3, .int 0, .int ki, .ref (ma 3), .ref (ma 4), .ref (ma 5), .ref (ma 6), .int kc, .int 0, .ref (ma 7), .int 0, .ref (ma 8), .int (-1), .ref (ma 9), .ref (ma 10), .ref (ma 11), .ref (ma 12), .ref (ma 13), .int 0, .int 0])), (ma 2, .inl (cI, 150, .inl kt)), (ma 9, .inl (cI, 151, .inl g9)), (ma 10, .inl (cI, 151, .inl g10)), (ma 11, .inl (cI, 151, .inl g11)), (ma 12, .inl (cI, 151, .inl g12)), (ma 13, .inl (cI, 151, .inl g13)), (qa, .inl (cI, 151, .inl kq))] H → va_D A [(ma 0, .inr (5, [.int 0, .ref (ma 1), .int 0, .ref (ma 2), .int 150, .int 3, .int 0, .int ki, .ref (ma 3), .ref (ma 4), .ref (ma 5), .ref (ma 6), .int kc, .int 0, .ref (ma 7), .int 0, .ref (ma 8), .int (-1), .ref (ma 9), .ref (ma 10), .ref (ma 11), .ref (ma 12), .ref (ma 13), .int 0, .int 0])), (ma 2, .inl (cI, 150, .inl kt)), (ma 9, .inl (cI, 151, .inl g9)), (ma 10, .inl (cI, 151, .inl g10)), (ma 11, .inl (cI, 151, .inl g11)), (ma 12, .inl (cI, 151, .inl g12)), (ma 13, .inl (cI, 151, .inl g13)), (qa, .inl (cI, 151, .inl kq))] → va_S A s.heap H locs → lv_has ls 5 [(4, .int x), (3, .ref qa), (2, .int 0), (1, .int (nI ka)), (0, .ref (ma 0))] → W p l e (headSpec wsX5_look ({ frames := 2, cells := 2, slots := 302, locals := 50 })).room s m args below meth c H locs 1 151 Q (F0 m 66 ls []) := by
  intro j
  induction j with
  | zero => intro tn x g9 g10 g11 g12 g13 H locs ls hj; omega
  | succ j ih =>
    intro tn x g9 g10 g11 g12 g13 H locs ls hj hx1 hbt hV hE hP hD hS hl
    refine lv_iload hx hb dX5_look_66 (lv_at hl 0 rfl) ?_
    refine lv_aload_n hx hb dX5_look_68 rfl (lv_at hl 4 rfl) ?_
    refine va_get (D := (dC, dI)) (ci := 5) (v := .int 3) (C := RX5) (T := TX5) (N := 25) hx hb hts (by decide +kernel) hown hK hP 0 rfl rfl 5 (by decide) (hts (.fieldLink RX5 16 "DeltaCodecModel" "least" "I") (by decide +kernel)) (fun _ h9 => h9) rfl dX5_look_69 ?_
    refine lv_icmp_lt (tgt := 122) hx hb dX5_look_72 (by decide) (fun c72 => ?_) (fun c72 => ?_)
    · skip
      exact kk tn x g9 g10 g11 g12 g13 H locs ls hV hE (hP.sub [0, 1, 2, 3, 4, 5, 6, 7] rfl) (hD.sub [0, 1, 2, 3, 4, 5, 6, 7] (by decide) rfl) hS (lv_sub hl [0, 1, 2, 3, 4] rfl)
    · skip
      have hlt : 3 ≤ tn := Nat.le_of_not_lt (fun q => c72 (by rw [hx1]; show nI tn < nI 3; exact nI_lt q (by omega)))
      obtain ⟨t1, rfl⟩ : ∃ t1, tn = t1 + 1 := ⟨tn - 1, by omega⟩
      subst hx1
      have hx1 : nI (t1 + 1) = nI (t1 + 1) := rfl
      refine lv_aload_n hx hb dX5_look_75 rfl (lv_at hl 1 rfl) ?_
      refine lv_iload hx hb dX5_look_76 (lv_at hl 0 rfl) ?_
      refine va_iald hx hb hK hP 7 0 rfl rfl (vp_in_nI (by omega) (by omega)) dX5_look_78 ?_
      refine lv_topi (fun x_763 ex_763 => ?_)
      refine lv_iconst (v := (-1)) hx hb dX5_look_79 (by decide) ?_
      refine lv_icmp_eq (tgt := 116) hx hb dX5_look_80 (by decide) (fun c80 => ?_) (fun c80 => ?_)
      · skip
        obtain ⟨x_764, ex_764⟩ : ∃ y : Int32, y = nI (t1 + 1) + (-1) := ⟨_, rfl⟩
        refine lv_iinc (v := x_764) (lv' := [(4, .int x_764), (3, .ref qa), (2, .int 0), (1, .int (nI ka)), (0, .ref (ma 0))]) hx hb dX5_look_116 hl (k := 0) rfl (by rw [ex_764]; rfl) (by decide) rfl (fun ls hl => ?_)
        refine lv_goto (tgt := 66) hx hb dX5_look_119 (by decide) ?_
        exact ih t1 x_764 g9 g10 g11 g12 g13 H locs ls (by omega) (by rw [ex_764, ← Int32.sub_eq_add_neg]; exact nI_pred t1) (by omega) hV hE (hP.sub [0, 1, 2, 3, 4, 5, 6, 7] rfl) (hD.sub [0, 1, 2, 3, 4, 5, 6, 7] (by decide) rfl) hS (lv_sub hl [0, 1, 2, 3, 4] rfl)
      · skip
        refine lv_aload_n hx hb dX5_look_83 rfl (lv_at hl 4 rfl) ?_
        refine lv_iload_n hx hb dX5_look_84 rfl (lv_at hl 3 rfl) ?_
        refine lv_iload_n hx hb dX5_look_85 rfl (lv_at hl 2 rfl) ?_
        refine lv_if_ne (tgt := 93) hx hb dX5_look_86 (by decide) (fun h => absurd h (by decide)) (fun c86 => ?_)
        refine lv_iconst (v := 1) hx hb dX5_look_89 (by decide) ?_
        refine lv_goto (tgt := 94) hx hb dX5_look_90 (by decide) ?_
        refine lv_iload hx hb dX5_look_94 (lv_at hl 0 rfl) ?_
        refine lv_aload_n hx hb dX5_look_96 rfl (lv_at hl 1 rfl) ?_
        refine lv_iload hx hb dX5_look_97 (lv_at hl 0 rfl) ?_
        refine va_iald hx hb hK hP 7 0 rfl rfl (vp_in_nI (by omega) (by omega)) dX5_look_99 ?_
        refine lv_topi (fun x_765 ex_765 => ?_)
        refine lv_iload hx hb dX5_look_100 (lv_at hl 0 rfl) ?_
        have hPc := hP.sub (ws' := []) [] rfl
        have hFc : ∀ q : Nat, H.size ≤ q → A q := fun q h => hA q (Nat.le_trans hS.1 h)
        have hKc := hK.sub (tys' := []) [] rfl
        refine va_calli (va_runS (As := [.int (nI (t1 + 1))]) (rest := [.int x_765, .int (nI (t1 + 1)), .int 1, .int (nI ka), .ref (ma 0)]) ⟨hx, hb, hml, hown, hts⟩ (k_headSize l dC dI (nI (t1 + 1)) H.size) (va_cwS 1 hts gX5_look_X5_headSize rfl rfl rfl (by decide +kernel) ⟨Nat.le_of_ble_eq_true rfl, Nat.le_of_ble_eq_true rfl⟩) ⟨fun a U g mk q => by obtain ⟨q0, q1, qP, qK, qD⟩ := q; exact ⟨q0, q1, qP, va_K.moved (u := U) (U := U.calling g mk a) (Vm.Alike.refl U.vm) qK, qD⟩, fun U hU hW => ⟨rfl, by rw [hU], by rw [hU]; exact hPc, va_K.moved hW.alike hKc, zz_D (hD.sub (ws' := []) [] (by decide) rfl)⟩⟩ rfl rfl hl.1 rfl (lv_room (Nat.le_of_ble_eq_true rfl)) dX5_look_102 ⟨(Nat.le_of_ble_eq_true rfl), (Nat.le_of_ble_eq_true rfl)⟩) hS (fun q h1 h2 => absurd h1 (Nat.not_lt.mpr h2)) hFc (fun r_766 u_767 t H1 locs ht hvm hw hB hz1 hk1 hS1 => ?_)
        have hP := zz_keep hP hk1
        have hS := hS1
        clear hS1
        generalize H1 = H at hP hS ht ⊢
        have hP : va_P (dC, dI) vwCl [(ma 0, .inr (5, [.int 0, .ref (ma 1), .int 0, .ref (ma 2), .int 150, .int 3, .int 0, .int ki, .ref (ma 3), .ref (ma 4), .ref (ma 5), .ref (ma 6), .int kc, .int 0, .ref (ma 7), .int 0, .ref (ma 8), .int (-1), .ref (ma 9), .ref (ma 10), .ref (ma 11), .ref (ma 12), .ref (ma 13), .int 0, .int 0])), (ma 2, .inl (cI, 150, .inl kt)), (ma 9, .inl (cI, 151, .inl g9)), (ma 10, .inl (cI, 151, .inl g10)), (ma 11, .inl (cI, 151, .inl g11)), (ma 12, .inl (cI, 151, .inl g12)), (ma 13, .inl (cI, 151, .inl g13)), (qa, .inl (cI, 151, .inl kq))] H := hP
        have w102 := hw
        refine lv_aload_n hx hb dX5_look_105 rfl (lv_at hl 1 rfl) ?_
        refine lv_iload hx hb dX5_look_106 (lv_at hl 0 rfl) ?_
        refine va_iald hx hb hK hP 7 0 rfl rfl (vp_in_nI (by omega) (by omega)) dX5_look_108 ?_
        refine lv_topi (fun x_768 ex_768 => ?_)
        have hPc := hP.sub (ws' := []) [] rfl
        have hFc : ∀ q : Nat, H.size ≤ q → A q := fun q h => hA q (Nat.le_trans hS.1 h)
        have hKc := hK.sub (tys' := []) [] rfl
        refine va_calli (va_runS (As := [.int x_768]) (rest := [.int r_766, .int x_765, .int (nI (t1 + 1)), .int 1, .int (nI ka), .ref (ma 0)]) ⟨hx, hb, hml, hown, hts⟩ (k_numberSize l dC dI x_768 H.size) (va_cwS 1 hts gX5_look_X5_numberSize rfl rfl rfl (by decide +kernel) ⟨Nat.le_of_ble_eq_true rfl, Nat.le_of_ble_eq_true rfl⟩) ⟨fun a U g mk q => by obtain ⟨q0, q1, qP, qK, qD⟩ := q; exact ⟨q0, q1, qP, va_K.moved (u := U) (U := U.calling g mk a) (Vm.Alike.refl U.vm) qK, qD⟩, fun U hU hW => ⟨rfl, by rw [hU], by rw [hU]; exact hPc, va_K.moved hW.alike hKc, zz_D (hD.sub (ws' := []) [] (by decide) rfl)⟩⟩ rfl rfl hl.1 rfl (lv_room (Nat.le_of_ble_eq_true rfl)) dX5_look_109 ⟨(Nat.le_of_ble_eq_true rfl), (Nat.le_of_ble_eq_true rfl)⟩) hS (fun q h1 h2 => absurd h1 (Nat.not_lt.mpr h2)) hFc (fun r_769 u_770 t H1 locs ht hvm hw hB hz1 hk1 hS1 => ?_)
        have hP := zz_keep hP hk1
        have hS := hS1
        clear hS1
        generalize H1 = H at hP hS ht ⊢
        have hP : va_P (dC, dI) vwCl [(ma 0, .inr (5, [.int 0, .ref (ma 1), .int 0, .ref (ma 2), .int 150, .int 3, .int 0, .int ki, .ref (ma 3), .ref (ma 4), .ref (ma 5), .ref (ma 6), .int kc, .int 0, .ref (ma 7), .int 0, .ref (ma 8), .int (-1), .ref (ma 9), .ref (ma 10), .ref (ma 11), .ref (ma 12), .ref (ma 13), .int 0, .int 0])), (ma 2, .inl (cI, 150, .inl kt)), (ma 9, .inl (cI, 151, .inl g9)), (ma 10, .inl (cI, 151, .inl g10)), (ma 11, .inl (cI, 151, .inl g11)), (ma 12, .inl (cI, 151, .inl g12)), (ma 13, .inl (cI, 151, .inl g13)), (qa, .inl (cI, 151, .inl kq))] H := hP
        have w109 := hw
        refine lv_iadd hx hb dX5_look_112 ?_
        refine lv_topi (fun x_771 ex_771 => ?_)
        have hPc := hP.sub (ws' := [(ma 0, .inr (5, [.int 0, .ref (ma 1), .int 0, .ref (ma 2), .int 150, .int 3, .int 0, .int ki, .ref (ma 3), .ref (ma 4), .ref (ma 5), .ref (ma 6), .int kc, .int 0, .ref (ma 7), .int 0, .ref (ma 8), .int (-1), .ref (ma 9), .ref (ma 10), .ref (ma 11), .ref (ma 12), .ref (ma 13), .int 0, .int 0])), (ma 9, .inl (cI, 151, .inl g9)), (ma 10, .inl (cI, 151, .inl g10)), (ma 11, .inl (cI, 151, .inl g11)), (ma 12, .inl (cI, 151, .inl g12)), (ma 13, .inl (cI, 151, .inl g13))]) [0, 2, 3, 4, 5, 6] rfl
        have hDc := hD.sub (ws' := [(ma 0, .inr (5, [.int 0, .ref (ma 1), .int 0, .ref (ma 2), .int 150, .int 3, .int 0, .int ki, .ref (ma 3), .ref (ma 4), .ref (ma 5), .ref (ma 6), .int kc, .int 0, .ref (ma 7), .int 0, .ref (ma 8), .int (-1), .ref (ma 9), .ref (ma 10), .ref (ma 11), .ref (ma 12), .ref (ma 13), .int 0, .int 0])), (ma 9, .inl (cI, 151, .inl g9)), (ma 10, .inl (cI, 151, .inl g10)), (ma 11, .inl (cI, 151, .inl g11)), (ma 12, .inl (cI, 151, .inl g12)), (ma 13, .inl (cI, 151, .inl g13))]) [0, 2, 3, 4, 5, 6] (by decide) rfl
        have hFc := va_free (wc := [(ma 0, .inr (5, [.int 0, .ref (ma 1), .int 0, .ref (ma 2), .int 150, .int 3, .int 0, .int ki, .ref (ma 3), .ref (ma 4), .ref (ma 5), .ref (ma 6), .int kc, .int 0, .ref (ma 7), .int 0, .ref (ma 8), .int (-1), .ref (ma 9), .ref (ma 10), .ref (ma 11), .ref (ma 12), .ref (ma 13), .int 0, .int 0])), (ma 9, .inl (cI, 151, .inl g9)), (ma 10, .inl (cI, 151, .inl g10)), (ma 11, .inl (cI, 151, .inl g11)), (ma 12, .inl (cI, 151, .inl g12)), (ma 13, .inl (cI, 151, .inl g13))]) hD hS hA [0, 2, 3, 4, 5, 6] rfl
        have hKc := hK.sub (tys' := [(cI, .int)]) [0] rfl
        refine va_callv (va_runV (As := [.int (nI ka), .int 1, .int (nI (t1 + 1)), .int x_765, .int x_771]) (rest := []) ⟨hx, hb, hml, hown, hts⟩ (k_offer l dC dI cI ma ki kc g9 g10 g11 g12 g13 ka 1 (t1 + 1) x_765 x_771 H.size (by omega) hbt) (cwV 5 hts gX5_look_X5_offer rfl rfl rfl (by decide +kernel) ⟨Nat.le_of_ble_eq_true rfl, Nat.le_of_ble_eq_true rfl⟩) ⟨fun a U g mk q => by obtain ⟨q0, q1, qP, qK, qD⟩ := q; exact ⟨q0, q1, qP, va_K.moved (u := U) (U := U.calling g mk a) (Vm.Alike.refl U.vm) qK, qD⟩, va_recv hKc hPc (ci := 5) (q0 := 0) rfl rfl, fun U hU hW => ⟨rfl, by rw [hU], by rw [hU]; exact hPc, va_K.moved hW.alike hKc, zz_D hDc⟩⟩ rfl rfl hl.1 rfl (lv_room (Nat.le_of_ble_eq_true rfl)) dX5_look_113 ⟨(Nat.le_of_ble_eq_true rfl), (Nat.le_of_ble_eq_true rfl)⟩) hS (fun q _ h => hFc q h) hFc (fun u_773 t H1 locs ht hvm hw hB hz1 hk1 hS1 => ?_)
        obtain ⟨hP1, hD1⟩ := hB
        rw [ht] at hP1
        obtain ⟨hP, hD⟩ := va_join (wr := [(ma 2, .inl (cI, 150, .inl kt)), (qa, .inl (cI, 151, .inl kq))]) (w1 := [(ma 0, .inr (5, [.int 0, .ref (ma 1), .int 0, .ref (ma 2), .int 150, .int 3, .int 0, .int ki, .ref (ma 3), .ref (ma 4), .ref (ma 5), .ref (ma 6), .int kc, .int 0, .ref (ma 7), .int 0, .ref (ma 8), .int (-1), .ref (ma 9), .ref (ma 10), .ref (ma 11), .ref (ma 12), .ref (ma 13), .int 0, .int 0])), (ma 9, .inl (cI, 151, .inl u_773.1)), (ma 10, .inl (cI, 151, .inl u_773.2.1)), (ma 11, .inl (cI, 151, .inl u_773.2.2.1)), (ma 12, .inl (cI, 151, .inl u_773.2.2.2.1)), (ma 13, .inl (cI, 151, .inl u_773.2.2.2.2))]) hP hD [0, 2, 3, 4, 5, 6] [1, 7] rfl rfl (by decide) (by decide) hk1 hFc hP1 hD1
        have hS := hS1
        clear hS1
        generalize H1 = H at hP hS ht ⊢
        have hP : va_P (dC, dI) vwCl [(ma 2, .inl (cI, 150, .inl kt)), (qa, .inl (cI, 151, .inl kq)), (ma 0, .inr (5, [.int 0, .ref (ma 1), .int 0, .ref (ma 2), .int 150, .int 3, .int 0, .int ki, .ref (ma 3), .ref (ma 4), .ref (ma 5), .ref (ma 6), .int kc, .int 0, .ref (ma 7), .int 0, .ref (ma 8), .int (-1), .ref (ma 9), .ref (ma 10), .ref (ma 11), .ref (ma 12), .ref (ma 13), .int 0, .int 0])), (ma 9, .inl (cI, 151, .inl u_773.1)), (ma 10, .inl (cI, 151, .inl u_773.2.1)), (ma 11, .inl (cI, 151, .inl u_773.2.2.1)), (ma 12, .inl (cI, 151, .inl u_773.2.2.2.1)), (ma 13, .inl (cI, 151, .inl u_773.2.2.2.2))] H := hP
        have hD : va_D A [(ma 2, .inl (cI, 150, .inl kt)), (qa, .inl (cI, 151, .inl kq)), (ma 0, .inr (5, [.int 0, .ref (ma 1), .int 0, .ref (ma 2), .int 150, .int 3, .int 0, .int ki, .ref (ma 3), .ref (ma 4), .ref (ma 5), .ref (ma 6), .int kc, .int 0, .ref (ma 7), .int 0, .ref (ma 8), .int (-1), .ref (ma 9), .ref (ma 10), .ref (ma 11), .ref (ma 12), .ref (ma 13), .int 0, .int 0])), (ma 9, .inl (cI, 151, .inl u_773.1)), (ma 10, .inl (cI, 151, .inl u_773.2.1)), (ma 11, .inl (cI, 151, .inl u_773.2.2.1)), (ma 12, .inl (cI, 151, .inl u_773.2.2.2.1)), (ma 13, .inl (cI, 151, .inl u_773.2.2.2.2))] := hD
        have w113 := hw
        obtain ⟨x_774, ex_774⟩ : ∃ y : Int32, y = nI (t1 + 1) + (-1) := ⟨_, rfl⟩
        refine lv_iinc (v := x_774) (lv' := [(4, .int x_774), (3, .ref qa), (2, .int 0), (1, .int (nI ka)), (0, .ref (ma 0))]) hx hb dX5_look_116 hl (k := 0) rfl (by rw [ex_774]; rfl) (by decide) rfl (fun ls hl => ?_)
        refine lv_goto (tgt := 66) hx hb dX5_look_119 (by decide) ?_
        exact ih t1 x_774 u_773.1 u_773.2.1 u_773.2.2.1 u_773.2.2.2.1 u_773.2.2.2.2 H locs ls (by omega) (by rw [ex_774, ← Int32.sub_eq_add_neg]; exact nI_pred t1) (by omega) (zz_sV w113 (by omega) hbt hV) (zz_sE w113 hE) (hP.sub [2, 0, 3, 4, 5, 6, 7, 1] rfl) (hD.sub [2, 0, 3, 4, 5, 6, 7, 1] (by decide) rfl) hS (lv_sub hl [0, 1, 2, 3, 4] rfl)
set_option maxHeartbeats 4000000 in
set_option maxRecDepth 100000 in
theorem lo_lkC1 {p : Program} {l : Launch} {e : Env} {s : State} {m : MethodId} {args : Array Value} {below : List Frame} {meth : Method} {c : Code} {Q : State → Prop} {A : Nat → Prop} (dC : Nat → ClassId) (dI : Nat → Nat → Nat) (cI : ClassId) (ma : Nat → Nat) (kt : Nat → Int32) (ka : Nat) (ki : Int32) (kc : Int32) (f9 : Nat → Int32) (f10 : Nat → Int32) (f11 : Nat → Int32) (f12 : Nat → Int32) (f13 : Nat → Int32) (qa : Nat) (kq : Nat → Int32) (qb : Nat) (kw : Nat → Int32) (hx : p.tables.exec = Jvm.exec) (hb : c.code = cX5_look) (hml : c.maxLocals = 5) (hown : s.vm.findClass RX5 = some m.cls) (hts : ∀ w ∈ wsX5_look, w.before args s = true) (hA : ∀ q : Nat, s.heap.size ≤ q → A q) (hK : va_K (dC, dI) vwCl [(cI, .int)] s)
    (kk : ∀ (tn : Nat) (x : Int32) (g9 : Nat → Int32) (g10 : Nat → Int32) (g11 : Nat → Int32) (g12 : Nat → Int32) (g13 : Nat → Int32) (H : Heap) (locs : List Loc) (ls : Array Slot), zz_V g12 ka → zz_E g12 f12 ka → va_P (dC, dI) vwCl [(ma 0, .inr (5, [.int 0, .ref (ma 1), .int 0, .ref (ma 2), .int 150, .int 3, .int 0, .int ki, .ref (ma 3), .ref (ma 4), .ref (ma 5), .ref (ma 6), .int kc, .int 0, .ref (ma 7), .int 0, .ref (ma 8), .int (-1), .ref (ma 9), .ref (ma 10), .ref (ma 11), .ref (ma 12), .ref (ma 13), .int 0, .int 0])), (ma 2, .inl (cI, 150, .inl kt)), (ma 9, .inl (cI, 151, .inl g9)), (ma 10, .inl (cI, 151, .inl g10)), (ma 11, .inl (cI, 151, .inl g11)), (ma 12, .inl (cI, 151, .inl g12)), (ma 13, .inl (cI, 151, .inl g13)), (qb, .inl (cI, 151, .inl kw)), (qa, .inl (cI, 151, .inl kq))] H → va_D A [(ma 0, .inr (5, [.int 0, .ref (ma 1), .int 0, .ref (ma 2), .int 150, .int 3, .int 0, .int ki, .ref (ma 3), .ref (ma 4), .ref (ma 5), .ref (ma 6), .int kc, .int 0, .ref (ma 7), .int 0, .ref (ma 8), .int (-1), .ref (ma 9), .ref (ma 10), .ref (ma 11), .ref (ma 12), .ref (ma 13), .int 0, .int 0])), (ma 2, .inl (cI, 150, .inl kt)), (ma 9, .inl (cI, 151, .inl g9)), (ma 10, .inl (cI, 151, .inl g10)), (ma 11, .inl (cI, 151, .inl g11)), (ma 12, .inl (cI, 151, .inl g12)), (ma 13, .inl (cI, 151, .inl g13)), (qb, .inl (cI, 151, .inl kw)), (qa, .inl (cI, 151, .inl kq))] → va_S A s.heap H locs → lv_has ls 5 [(4, .int x), (3, .ref qa), (2, .int 1), (1, .int (nI ka)), (0, .ref (ma 0))] → W p l e (headSpec wsX5_look ({ frames := 2, cells := 2, slots := 302, locals := 50 })).room s m args below meth c H locs 2 302 Q (F0 m 122 ls []))
    : ∀ (j : Nat) (tn : Nat) (x : Int32) (g9 : Nat → Int32) (g10 : Nat → Int32) (g11 : Nat → Int32) (g12 : Nat → Int32) (g13 : Nat → Int32) (H : Heap) (locs : List Loc) (ls : Array Slot), tn < j → (x = nI tn) → (ka + tn ≤ 150) → (zz_V g12 ka) → (zz_E g12 f12 ka) → va_P (dC, dI) vwCl [(ma 0, .inr (5, [.int 0, .ref (ma 1), .int 0, .ref (ma 2), .int 150, .int 3, .int 0, .int ki, .ref (ma 3), .ref (ma 4), .ref (ma 5), .ref (ma 6), .int kc, .int 0, .ref (ma 7), .int 0, .ref (ma 8), .int (-1), .ref (ma 9), .ref (ma 10), .ref (ma 11), .ref (ma 12), .ref (ma 13), .int 0, .int 0])), (ma 2, .inl (cI, 150, .inl kt)), (ma 9, .inl (cI, 151, .inl g9)), (ma 10, .inl (cI, 151, .inl g10)), (ma 11, .inl (cI, 151, .inl g11)), (ma 12, .inl (cI, 151, .inl g12)), (ma 13, .inl (cI, 151, .inl g13)), (qb, .inl (cI, 151, .inl kw)), (qa, .inl (cI, 151, .inl kq))] H → va_D A [(ma 0, .inr (5, [.int 0, .ref (ma 1), .int 0, .ref (ma 2), .int 150, .int 3, .int 0, .int ki, .ref (ma 3), .ref (ma 4), .ref (ma 5), .ref (ma 6), .int kc, .int 0, .ref (ma 7), .int 0, .ref (ma 8), .int (-1), .ref (ma 9), .ref (ma 10), .ref (ma 11), .ref (ma 12), .ref (ma 13), .int 0, .int 0])), (ma 2, .inl (cI, 150, .inl kt)), (ma 9, .inl (cI, 151, .inl g9)), (ma 10, .inl (cI, 151, .inl g10)), (ma 11, .inl (cI, 151, .inl g11)), (ma 12, .inl (cI, 151, .inl g12)), (ma 13, .inl (cI, 151, .inl g13)), (qb, .inl (cI, 151, .inl kw)), (qa, .inl (cI, 151, .inl kq))] → va_S A s.heap H locs → lv_has ls 5 [(4, .int x), (3, .ref qa), (2, .int 1), (1, .int (nI ka)), (0, .ref (ma 0))] → W p l e (headSpec wsX5_look ({ frames := 2, cells := 2, slots := 302, locals := 50 })).room s m args below meth c H locs 2 302 Q (F0 m 66 ls []) := by
  intro j
  induction j with
  | zero => intro tn x g9 g10 g11 g12 g13 H locs ls hj; omega
  | succ j ih =>
    intro tn x g9 g10 g11 g12 g13 H locs ls hj hx1 hbt hV hE hP hD hS hl
    refine lv_iload hx hb dX5_look_66 (lv_at hl 0 rfl) ?_
    refine lv_aload_n hx hb dX5_look_68 rfl (lv_at hl 4 rfl) ?_
    refine va_get (D := (dC, dI)) (ci := 5) (v := .int 3) (C := RX5) (T := TX5) (N := 25) hx hb hts (by decide +kernel) hown hK hP 0 rfl rfl 5 (by decide) (hts (.fieldLink RX5 16 "DeltaCodecModel" "least" "I") (by decide +kernel)) (fun _ h9 => h9) rfl dX5_look_69 ?_
    refine lv_icmp_lt (tgt := 122) hx hb dX5_look_72 (by decide) (fun c72 => ?_) (fun c72 => ?_)
    · skip
      exact kk tn x g9 g10 g11 g12 g13 H locs ls hV hE (hP.sub [0, 1, 2, 3, 4, 5, 6, 7, 8] rfl) (hD.sub [0, 1, 2, 3, 4, 5, 6, 7, 8] (by decide) rfl) hS (lv_sub hl [0, 1, 2, 3, 4] rfl)
    · skip
      have hlt : 3 ≤ tn := Nat.le_of_not_lt (fun q => c72 (by rw [hx1]; show nI tn < nI 3; exact nI_lt q (by omega)))
      obtain ⟨t1, rfl⟩ : ∃ t1, tn = t1 + 1 := ⟨tn - 1, by omega⟩
      subst hx1
      have hx1 : nI (t1 + 1) = nI (t1 + 1) := rfl
      refine lv_aload_n hx hb dX5_look_75 rfl (lv_at hl 1 rfl) ?_
      refine lv_iload hx hb dX5_look_76 (lv_at hl 0 rfl) ?_
      refine va_iald hx hb hK hP 8 0 rfl rfl (vp_in_nI (by omega) (by omega)) dX5_look_78 ?_
      refine lv_topi (fun x_775 ex_775 => ?_)
      refine lv_iconst (v := (-1)) hx hb dX5_look_79 (by decide) ?_
      refine lv_icmp_eq (tgt := 116) hx hb dX5_look_80 (by decide) (fun c80 => ?_) (fun c80 => ?_)
      · skip
        obtain ⟨x_776, ex_776⟩ : ∃ y : Int32, y = nI (t1 + 1) + (-1) := ⟨_, rfl⟩
        refine lv_iinc (v := x_776) (lv' := [(4, .int x_776), (3, .ref qa), (2, .int 1), (1, .int (nI ka)), (0, .ref (ma 0))]) hx hb dX5_look_116 hl (k := 0) rfl (by rw [ex_776]; rfl) (by decide) rfl (fun ls hl => ?_)
        refine lv_goto (tgt := 66) hx hb dX5_look_119 (by decide) ?_
        exact ih t1 x_776 g9 g10 g11 g12 g13 H locs ls (by omega) (by rw [ex_776, ← Int32.sub_eq_add_neg]; exact nI_pred t1) (by omega) hV hE (hP.sub [0, 1, 2, 3, 4, 5, 6, 7, 8] rfl) (hD.sub [0, 1, 2, 3, 4, 5, 6, 7, 8] (by decide) rfl) hS (lv_sub hl [0, 1, 2, 3, 4] rfl)
      · skip
        refine lv_aload_n hx hb dX5_look_83 rfl (lv_at hl 4 rfl) ?_
        refine lv_iload_n hx hb dX5_look_84 rfl (lv_at hl 3 rfl) ?_
        refine lv_iload_n hx hb dX5_look_85 rfl (lv_at hl 2 rfl) ?_
        refine lv_if_ne (tgt := 93) hx hb dX5_look_86 (by decide) (fun c86 => ?_) (fun h => absurd h (by decide))
        refine lv_iconst (v := 2) hx hb dX5_look_93 (by decide) ?_
        refine lv_iload hx hb dX5_look_94 (lv_at hl 0 rfl) ?_
        refine lv_aload_n hx hb dX5_look_96 rfl (lv_at hl 1 rfl) ?_
        refine lv_iload hx hb dX5_look_97 (lv_at hl 0 rfl) ?_
        refine va_iald hx hb hK hP 8 0 rfl rfl (vp_in_nI (by omega) (by omega)) dX5_look_99 ?_
        refine lv_topi (fun x_777 ex_777 => ?_)
        refine lv_iload hx hb dX5_look_100 (lv_at hl 0 rfl) ?_
        have hPc := hP.sub (ws' := []) [] rfl
        have hFc : ∀ q : Nat, H.size ≤ q → A q := fun q h => hA q (Nat.le_trans hS.1 h)
        have hKc := hK.sub (tys' := []) [] rfl
        refine va_calli (va_runS (As := [.int (nI (t1 + 1))]) (rest := [.int x_777, .int (nI (t1 + 1)), .int 2, .int (nI ka), .ref (ma 0)]) ⟨hx, hb, hml, hown, hts⟩ (k_headSize l dC dI (nI (t1 + 1)) H.size) (va_cwS 1 hts gX5_look_X5_headSize rfl rfl rfl (by decide +kernel) ⟨Nat.le_of_ble_eq_true rfl, Nat.le_of_ble_eq_true rfl⟩) ⟨fun a U g mk q => by obtain ⟨q0, q1, qP, qK, qD⟩ := q; exact ⟨q0, q1, qP, va_K.moved (u := U) (U := U.calling g mk a) (Vm.Alike.refl U.vm) qK, qD⟩, fun U hU hW => ⟨rfl, by rw [hU], by rw [hU]; exact hPc, va_K.moved hW.alike hKc, zz_D (hD.sub (ws' := []) [] (by decide) rfl)⟩⟩ rfl rfl hl.1 rfl (lv_room (Nat.le_of_ble_eq_true rfl)) dX5_look_102 ⟨(Nat.le_of_ble_eq_true rfl), (Nat.le_of_ble_eq_true rfl)⟩) hS (fun q h1 h2 => absurd h1 (Nat.not_lt.mpr h2)) hFc (fun r_778 u_779 t H1 locs ht hvm hw hB hz1 hk1 hS1 => ?_)
        have hP := zz_keep hP hk1
        have hS := hS1
        clear hS1
        generalize H1 = H at hP hS ht ⊢
        have hP : va_P (dC, dI) vwCl [(ma 0, .inr (5, [.int 0, .ref (ma 1), .int 0, .ref (ma 2), .int 150, .int 3, .int 0, .int ki, .ref (ma 3), .ref (ma 4), .ref (ma 5), .ref (ma 6), .int kc, .int 0, .ref (ma 7), .int 0, .ref (ma 8), .int (-1), .ref (ma 9), .ref (ma 10), .ref (ma 11), .ref (ma 12), .ref (ma 13), .int 0, .int 0])), (ma 2, .inl (cI, 150, .inl kt)), (ma 9, .inl (cI, 151, .inl g9)), (ma 10, .inl (cI, 151, .inl g10)), (ma 11, .inl (cI, 151, .inl g11)), (ma 12, .inl (cI, 151, .inl g12)), (ma 13, .inl (cI, 151, .inl g13)), (qb, .inl (cI, 151, .inl kw)), (qa, .inl (cI, 151, .inl kq))] H := hP
        have w102 := hw
        refine lv_aload_n hx hb dX5_look_105 rfl (lv_at hl 1 rfl) ?_
        refine lv_iload hx hb dX5_look_106 (lv_at hl 0 rfl) ?_
        refine va_iald hx hb hK hP 8 0 rfl rfl (vp_in_nI (by omega) (by omega)) dX5_look_108 ?_
        refine lv_topi (fun x_780 ex_780 => ?_)
        have hPc := hP.sub (ws' := []) [] rfl
        have hFc : ∀ q : Nat, H.size ≤ q → A q := fun q h => hA q (Nat.le_trans hS.1 h)
        have hKc := hK.sub (tys' := []) [] rfl
        refine va_calli (va_runS (As := [.int x_780]) (rest := [.int r_778, .int x_777, .int (nI (t1 + 1)), .int 2, .int (nI ka), .ref (ma 0)]) ⟨hx, hb, hml, hown, hts⟩ (k_numberSize l dC dI x_780 H.size) (va_cwS 1 hts gX5_look_X5_numberSize rfl rfl rfl (by decide +kernel) ⟨Nat.le_of_ble_eq_true rfl, Nat.le_of_ble_eq_true rfl⟩) ⟨fun a U g mk q => by obtain ⟨q0, q1, qP, qK, qD⟩ := q; exact ⟨q0, q1, qP, va_K.moved (u := U) (U := U.calling g mk a) (Vm.Alike.refl U.vm) qK, qD⟩, fun U hU hW => ⟨rfl, by rw [hU], by rw [hU]; exact hPc, va_K.moved hW.alike hKc, zz_D (hD.sub (ws' := []) [] (by decide) rfl)⟩⟩ rfl rfl hl.1 rfl (lv_room (Nat.le_of_ble_eq_true rfl)) dX5_look_109 ⟨(Nat.le_of_ble_eq_true rfl), (Nat.le_of_ble_eq_true rfl)⟩) hS (fun q h1 h2 => absurd h1 (Nat.not_lt.mpr h2)) hFc (fun r_781 u_782 t H1 locs ht hvm hw hB hz1 hk1 hS1 => ?_)
        have hP := zz_keep hP hk1
        have hS := hS1
        clear hS1
        generalize H1 = H at hP hS ht ⊢
        have hP : va_P (dC, dI) vwCl [(ma 0, .inr (5, [.int 0, .ref (ma 1), .int 0, .ref (ma 2), .int 150, .int 3, .int 0, .int ki, .ref (ma 3), .ref (ma 4), .ref (ma 5), .ref (ma 6), .int kc, .int 0, .ref (ma 7), .int 0, .ref (ma 8), .int (-1), .ref (ma 9), .ref (ma 10), .ref (ma 11), .ref (ma 12), .ref (ma 13), .int 0, .int 0])), (ma 2, .inl (cI, 150, .inl kt)), (ma 9, .inl (cI, 151, .inl g9)), (ma 10, .inl (cI, 151, .inl g10)), (ma 11, .inl (cI, 151, .inl g11)), (ma 12, .inl (cI, 151, .inl g12)), (ma 13, .inl (cI, 151, .inl g13)), (qb, .inl (cI, 151, .inl kw)), (qa, .inl (cI, 151, .inl kq))] H := hP
        have w109 := hw
        refine lv_iadd hx hb dX5_look_112 ?_
        refine lv_topi (fun x_783 ex_783 => ?_)
        have hPc := hP.sub (ws' := [(ma 0, .inr (5, [.int 0, .ref (ma 1), .int 0, .ref (ma 2), .int 150, .int 3, .int 0, .int ki, .ref (ma 3), .ref (ma 4), .ref (ma 5), .ref (ma 6), .int kc, .int 0, .ref (ma 7), .int 0, .ref (ma 8), .int (-1), .ref (ma 9), .ref (ma 10), .ref (ma 11), .ref (ma 12), .ref (ma 13), .int 0, .int 0])), (ma 9, .inl (cI, 151, .inl g9)), (ma 10, .inl (cI, 151, .inl g10)), (ma 11, .inl (cI, 151, .inl g11)), (ma 12, .inl (cI, 151, .inl g12)), (ma 13, .inl (cI, 151, .inl g13))]) [0, 2, 3, 4, 5, 6] rfl
        have hDc := hD.sub (ws' := [(ma 0, .inr (5, [.int 0, .ref (ma 1), .int 0, .ref (ma 2), .int 150, .int 3, .int 0, .int ki, .ref (ma 3), .ref (ma 4), .ref (ma 5), .ref (ma 6), .int kc, .int 0, .ref (ma 7), .int 0, .ref (ma 8), .int (-1), .ref (ma 9), .ref (ma 10), .ref (ma 11), .ref (ma 12), .ref (ma 13), .int 0, .int 0])), (ma 9, .inl (cI, 151, .inl g9)), (ma 10, .inl (cI, 151, .inl g10)), (ma 11, .inl (cI, 151, .inl g11)), (ma 12, .inl (cI, 151, .inl g12)), (ma 13, .inl (cI, 151, .inl g13))]) [0, 2, 3, 4, 5, 6] (by decide) rfl
        have hFc := va_free (wc := [(ma 0, .inr (5, [.int 0, .ref (ma 1), .int 0, .ref (ma 2), .int 150, .int 3, .int 0, .int ki, .ref (ma 3), .ref (ma 4), .ref (ma 5), .ref (ma 6), .int kc, .int 0, .ref (ma 7), .int 0, .ref (ma 8), .int (-1), .ref (ma 9), .ref (ma 10), .ref (ma 11), .ref (ma 12), .ref (ma 13), .int 0, .int 0])), (ma 9, .inl (cI, 151, .inl g9)), (ma 10, .inl (cI, 151, .inl g10)), (ma 11, .inl (cI, 151, .inl g11)), (ma 12, .inl (cI, 151, .inl g12)), (ma 13, .inl (cI, 151, .inl g13))]) hD hS hA [0, 2, 3, 4, 5, 6] rfl
        have hKc := hK.sub (tys' := [(cI, .int)]) [0] rfl
        refine va_callv (va_runV (As := [.int (nI ka), .int 2, .int (nI (t1 + 1)), .int x_777, .int x_783]) (rest := []) ⟨hx, hb, hml, hown, hts⟩ (k_offer l dC dI cI ma ki kc g9 g10 g11 g12 g13 ka 2 (t1 + 1) x_777 x_783 H.size (by omega) hbt) (cwV 5 hts gX5_look_X5_offer rfl rfl rfl (by decide +kernel) ⟨Nat.le_of_ble_eq_true rfl, Nat.le_of_ble_eq_true rfl⟩) ⟨fun a U g mk q => by obtain ⟨q0, q1, qP, qK, qD⟩ := q; exact ⟨q0, q1, qP, va_K.moved (u := U) (U := U.calling g mk a) (Vm.Alike.refl U.vm) qK, qD⟩, va_recv hKc hPc (ci := 5) (q0 := 0) rfl rfl, fun U hU hW => ⟨rfl, by rw [hU], by rw [hU]; exact hPc, va_K.moved hW.alike hKc, zz_D hDc⟩⟩ rfl rfl hl.1 rfl (lv_room (Nat.le_of_ble_eq_true rfl)) dX5_look_113 ⟨(Nat.le_of_ble_eq_true rfl), (Nat.le_of_ble_eq_true rfl)⟩) hS (fun q _ h => hFc q h) hFc (fun u_785 t H1 locs ht hvm hw hB hz1 hk1 hS1 => ?_)
        obtain ⟨hP1, hD1⟩ := hB
        rw [ht] at hP1
        obtain ⟨hP, hD⟩ := va_join (wr := [(ma 2, .inl (cI, 150, .inl kt)), (qb, .inl (cI, 151, .inl kw)), (qa, .inl (cI, 151, .inl kq))]) (w1 := [(ma 0, .inr (5, [.int 0, .ref (ma 1), .int 0, .ref (ma 2), .int 150, .int 3, .int 0, .int ki, .ref (ma 3), .ref (ma 4), .ref (ma 5), .ref (ma 6), .int kc, .int 0, .ref (ma 7), .int 0, .ref (ma 8), .int (-1), .ref (ma 9), .ref (ma 10), .ref (ma 11), .ref (ma 12), .ref (ma 13), .int 0, .int 0])), (ma 9, .inl (cI, 151, .inl u_785.1)), (ma 10, .inl (cI, 151, .inl u_785.2.1)), (ma 11, .inl (cI, 151, .inl u_785.2.2.1)), (ma 12, .inl (cI, 151, .inl u_785.2.2.2.1)), (ma 13, .inl (cI, 151, .inl u_785.2.2.2.2))]) hP hD [0, 2, 3, 4, 5, 6] [1, 7, 8] rfl rfl (by decide) (by decide) hk1 hFc hP1 hD1
        have hS := hS1
        clear hS1
        generalize H1 = H at hP hS ht ⊢
        have hP : va_P (dC, dI) vwCl [(ma 2, .inl (cI, 150, .inl kt)), (qb, .inl (cI, 151, .inl kw)), (qa, .inl (cI, 151, .inl kq)), (ma 0, .inr (5, [.int 0, .ref (ma 1), .int 0, .ref (ma 2), .int 150, .int 3, .int 0, .int ki, .ref (ma 3), .ref (ma 4), .ref (ma 5), .ref (ma 6), .int kc, .int 0, .ref (ma 7), .int 0, .ref (ma 8), .int (-1), .ref (ma 9), .ref (ma 10), .ref (ma 11), .ref (ma 12), .ref (ma 13), .int 0, .int 0])), (ma 9, .inl (cI, 151, .inl u_785.1)), (ma 10, .inl (cI, 151, .inl u_785.2.1)), (ma 11, .inl (cI, 151, .inl u_785.2.2.1)), (ma 12, .inl (cI, 151, .inl u_785.2.2.2.1)), (ma 13, .inl (cI, 151, .inl u_785.2.2.2.2))] H := hP
        have hD : va_D A [(ma 2, .inl (cI, 150, .inl kt)), (qb, .inl (cI, 151, .inl kw)), (qa, .inl (cI, 151, .inl kq)), (ma 0, .inr (5, [.int 0, .ref (ma 1), .int 0, .ref (ma 2), .int 150, .int 3, .int 0, .int ki, .ref (ma 3), .ref (ma 4), .ref (ma 5), .ref (ma 6), .int kc, .int 0, .ref (ma 7), .int 0, .ref (ma 8), .int (-1), .ref (ma 9), .ref (ma 10), .ref (ma 11), .ref (ma 12), .ref (ma 13), .int 0, .int 0])), (ma 9, .inl (cI, 151, .inl u_785.1)), (ma 10, .inl (cI, 151, .inl u_785.2.1)), (ma 11, .inl (cI, 151, .inl u_785.2.2.1)), (ma 12, .inl (cI, 151, .inl u_785.2.2.2.1)), (ma 13, .inl (cI, 151, .inl u_785.2.2.2.2))] := hD
        have w113 := hw
        obtain ⟨x_786, ex_786⟩ : ∃ y : Int32, y = nI (t1 + 1) + (-1) := ⟨_, rfl⟩
        refine lv_iinc (v := x_786) (lv' := [(4, .int x_786), (3, .ref qa), (2, .int 1), (1, .int (nI ka)), (0, .ref (ma 0))]) hx hb dX5_look_116 hl (k := 0) rfl (by rw [ex_786]; rfl) (by decide) rfl (fun ls hl => ?_)
        refine lv_goto (tgt := 66) hx hb dX5_look_119 (by decide) ?_
        exact ih t1 x_786 u_785.1 u_785.2.1 u_785.2.2.1 u_785.2.2.2.1 u_785.2.2.2.2 H locs ls (by omega) (by rw [ex_786, ← Int32.sub_eq_add_neg]; exact nI_pred t1) (by omega) (zz_sV w113 (by omega) hbt hV) (zz_sE w113 hE) (hP.sub [3, 0, 4, 5, 6, 7, 8, 1, 2] rfl) (hD.sub [3, 0, 4, 5, 6, 7, 8, 1, 2] (by decide) rfl) hS (lv_sub hl [0, 1, 2, 3, 4] rfl)
set_option maxHeartbeats 4000000 in
set_option maxRecDepth 100000 in
theorem lo_lkD {p : Program} {l : Launch} {e : Env} {s : State} {m : MethodId} {args : Array Value} {below : List Frame} {meth : Method} {c : Code} {Q : State → Prop} {A : Nat → Prop} (dC : Nat → ClassId) (dI : Nat → Nat → Nat) (cI : ClassId) (ma : Nat → Nat) (kt : Nat → Int32) (ka : Nat) (ki : Int32) (kc : Int32) (f9 : Nat → Int32) (f10 : Nat → Int32) (f11 : Nat → Int32) (f12 : Nat → Int32) (f13 : Nat → Int32) (qa : Nat) (kq : Nat → Int32) (qb : Nat) (kw : Nat → Int32) (g9 : Nat → Int32) (g10 : Nat → Int32) (g11 : Nat → Int32) (g12 : Nat → Int32) (g13 : Nat → Int32) (hx : p.tables.exec = Jvm.exec) (hb : c.code = cX5_look) (hml : c.maxLocals = 5) (hown : s.vm.findClass RX5 = some m.cls) (hts : ∀ w ∈ wsX5_look, w.before args s = true) (hA : ∀ q : Nat, s.heap.size ≤ q → A q) (hK : va_K (dC, dI) vwCl [(cI, .int)] s)
    (kk : ∀ (tn : Nat) (x : Int32) (H : Heap) (locs : List Loc) (ls : Array Slot), x = nI tn → 1 ≤ tn → ka + tn ≤ 150 → va_P (dC, dI) vwCl [(ma 0, .inr (5, [.int 0, .ref (ma 1), .int 0, .ref (ma 2), .int 150, .int 3, .int 0, .int ki, .ref (ma 3), .ref (ma 4), .ref (ma 5), .ref (ma 6), .int kc, .int 0, .ref (ma 7), .int 0, .ref (ma 8), .int (-1), .ref (ma 9), .ref (ma 10), .ref (ma 11), .ref (ma 12), .ref (ma 13), .int 0, .int 0])), (ma 2, .inl (cI, 150, .inl kt)), (ma 9, .inl (cI, 151, .inl g9)), (ma 10, .inl (cI, 151, .inl g10)), (ma 11, .inl (cI, 151, .inl g11)), (ma 12, .inl (cI, 151, .inl g12)), (ma 13, .inl (cI, 151, .inl g13)), (qb, .inl (cI, 151, .inl kw)), (qa, .inl (cI, 151, .inl kq))] H → va_D A [(ma 0, .inr (5, [.int 0, .ref (ma 1), .int 0, .ref (ma 2), .int 150, .int 3, .int 0, .int ki, .ref (ma 3), .ref (ma 4), .ref (ma 5), .ref (ma 6), .int kc, .int 0, .ref (ma 7), .int 0, .ref (ma 8), .int (-1), .ref (ma 9), .ref (ma 10), .ref (ma 11), .ref (ma 12), .ref (ma 13), .int 0, .int 0])), (ma 2, .inl (cI, 150, .inl kt)), (ma 9, .inl (cI, 151, .inl g9)), (ma 10, .inl (cI, 151, .inl g10)), (ma 11, .inl (cI, 151, .inl g11)), (ma 12, .inl (cI, 151, .inl g12)), (ma 13, .inl (cI, 151, .inl g13)), (qb, .inl (cI, 151, .inl kw)), (qa, .inl (cI, 151, .inl kq))] → va_S A s.heap H locs → lv_has ls 5 [(2, .int x), (1, .int (nI ka)), (0, .ref (ma 0))] → W p l e (headSpec wsX5_look ({ frames := 2, cells := 2, slots := 302, locals := 50 })).room s m args below meth c H locs 2 302 Q (F0 m 163 ls []))
    : ∀ (j : Nat) (tn : Nat) (x : Int32) (H : Heap) (locs : List Loc) (ls : Array Slot), 150 - (ka + tn) < j → (x = nI tn) → (1 ≤ tn) → (ka + tn ≤ 150) → va_P (dC, dI) vwCl [(ma 0, .inr (5, [.int 0, .ref (ma 1), .int 0, .ref (ma 2), .int 150, .int 3, .int 0, .int ki, .ref (ma 3), .ref (ma 4), .ref (ma 5), .ref (ma 6), .int kc, .int 0, .ref (ma 7), .int 0, .ref (ma 8), .int (-1), .ref (ma 9), .ref (ma 10), .ref (ma 11), .ref (ma 12), .ref (ma 13), .int 0, .int 0])), (ma 2, .inl (cI, 150, .inl kt)), (ma 9, .inl (cI, 151, .inl g9)), (ma 10, .inl (cI, 151, .inl g10)), (ma 11, .inl (cI, 151, .inl g11)), (ma 12, .inl (cI, 151, .inl g12)), (ma 13, .inl (cI, 151, .inl g13)), (qb, .inl (cI, 151, .inl kw)), (qa, .inl (cI, 151, .inl kq))] H → va_D A [(ma 0, .inr (5, [.int 0, .ref (ma 1), .int 0, .ref (ma 2), .int 150, .int 3, .int 0, .int ki, .ref (ma 3), .ref (ma 4), .ref (ma 5), .ref (ma 6), .int kc, .int 0, .ref (ma 7), .int 0, .ref (ma 8), .int (-1), .ref (ma 9), .ref (ma 10), .ref (ma 11), .ref (ma 12), .ref (ma 13), .int 0, .int 0])), (ma 2, .inl (cI, 150, .inl kt)), (ma 9, .inl (cI, 151, .inl g9)), (ma 10, .inl (cI, 151, .inl g10)), (ma 11, .inl (cI, 151, .inl g11)), (ma 12, .inl (cI, 151, .inl g12)), (ma 13, .inl (cI, 151, .inl g13)), (qb, .inl (cI, 151, .inl kw)), (qa, .inl (cI, 151, .inl kq))] → va_S A s.heap H locs → lv_has ls 5 [(2, .int x), (1, .int (nI ka)), (0, .ref (ma 0))] → W p l e (headSpec wsX5_look ({ frames := 2, cells := 2, slots := 302, locals := 50 })).room s m args below meth c H locs 2 302 Q (F0 m 130 ls []) := by
  intro j
  induction j with
  | zero => intro tn x H locs ls hj; omega
  | succ j ih =>
    intro tn x H locs ls hj hx1 h1t hbt hP hD hS hl
    refine lv_iload_n hx hb dX5_look_130 rfl (lv_at hl 1 rfl) ?_
    refine lv_iload_n hx hb dX5_look_131 rfl (lv_at hl 0 rfl) ?_
    refine lv_iadd hx hb dX5_look_132 ?_
    refine lv_topi (fun x_787 ex_787 => ?_)
    obtain rfl : nI ka + x = x_787 := ex_787.symm
    refine lv_aload_n hx hb dX5_look_133 rfl (lv_at hl 2 rfl) ?_
    refine va_get (D := (dC, dI)) (ci := 5) (v := .int 150) (C := RX5) (T := TX5) (N := 25) hx hb hts (by decide +kernel) hown hK hP 0 rfl rfl 4 (by decide) (hts (.fieldLink RX5 62 "DeltaCodecModel" "size" "I") (by decide +kernel)) (fun _ h9 => h9) rfl dX5_look_134 ?_
    refine lv_icmp_ge (tgt := 163) hx hb dX5_look_137 (by decide) (fun c137 => ?_) (fun c137 => ?_)
    · skip
      exact kk tn x H locs ls hx1 h1t hbt (hP.sub [0, 1, 2, 3, 4, 5, 6, 7, 8] rfl) (hD.sub [0, 1, 2, 3, 4, 5, 6, 7, 8] (by decide) rfl) hS (lv_sub hl [0, 1, 2] rfl)
    · skip
      have hlt : ka + tn < 150 := Nat.lt_of_not_le (fun q => c137 (by rw [hx1, nI_add]; show nI 150 ≤ nI (ka + tn); exact nI_le q (by omega)))
      refine lv_aload_n hx hb dX5_look_140 rfl (lv_at hl 2 rfl) ?_
      refine va_get (D := (dC, dI)) (ci := 5) (v := .ref (ma 2)) (C := RX5) (T := TX5) (N := 25) hx hb hts (by decide +kernel) hown hK hP 0 rfl rfl 3 (by decide) (hts (.fieldLink RX5 13 "DeltaCodecModel" "target" "[I") (by decide +kernel)) (fun _ h9 => h9) rfl dX5_look_141 ?_
      refine lv_iload_n hx hb dX5_look_144 rfl (lv_at hl 1 rfl) ?_
      refine lv_iload_n hx hb dX5_look_145 rfl (lv_at hl 0 rfl) ?_
      refine lv_iadd hx hb dX5_look_146 ?_
      refine lv_topi (fun x_788 ex_788 => ?_)
      obtain rfl : nI ka + x = x_788 := ex_788.symm
      refine va_iald hx hb hK hP 1 0 rfl rfl (by rw [hx1, nI_add]; exact vp_in_nI (by omega) (by omega)) dX5_look_147 ?_
      refine lv_topi (fun x_789 ex_789 => ?_)
      refine lv_aload_n hx hb dX5_look_148 rfl (lv_at hl 2 rfl) ?_
      refine va_get (D := (dC, dI)) (ci := 5) (v := .ref (ma 2)) (C := RX5) (T := TX5) (N := 25) hx hb hts (by decide +kernel) hown hK hP 0 rfl rfl 3 (by decide) (hts (.fieldLink RX5 13 "DeltaCodecModel" "target" "[I") (by decide +kernel)) (fun _ h9 => h9) rfl dX5_look_149 ?_
      refine lv_iload_n hx hb dX5_look_152 rfl (lv_at hl 1 rfl) ?_
      refine va_iald hx hb hK hP 1 0 rfl rfl (vp_in_nI (by omega) (by omega)) dX5_look_153 ?_
      refine lv_topi (fun x_790 ex_790 => ?_)
      refine lv_icmp_ne (tgt := 163) hx hb dX5_look_154 (by decide) (fun c154 => ?_) (fun c154 => ?_)
      · skip
        exact kk tn x H locs ls hx1 h1t hbt (hP.sub [0, 1, 2, 3, 4, 5, 6, 7, 8] rfl) (hD.sub [0, 1, 2, 3, 4, 5, 6, 7, 8] (by decide) rfl) hS (lv_sub hl [0, 1, 2] rfl)
      · skip
        obtain ⟨x_791, ex_791⟩ : ∃ y : Int32, y = x + 1 := ⟨_, rfl⟩
        refine lv_iinc (v := x_791) (lv' := [(2, .int x_791), (1, .int (nI ka)), (0, .ref (ma 0))]) hx hb dX5_look_157 hl (k := 0) rfl (by rw [ex_791]; rfl) (by decide) rfl (fun ls hl => ?_)
        refine lv_goto (tgt := 130) hx hb dX5_look_160 (by decide) ?_
        exact ih (tn + 1) x_791 H locs ls (by omega) (by rw [ex_791, hx1]; exact nI_1 tn) (by omega) (by omega) (hP.sub [0, 1, 2, 3, 4, 5, 6, 7, 8] rfl) (hD.sub [0, 1, 2, 3, 4, 5, 6, 7, 8] (by decide) rfl) hS (lv_sub hl [0, 1, 2] rfl)
set_option maxHeartbeats 4000000 in
set_option maxRecDepth 100000 in
theorem lo_lkE {p : Program} {l : Launch} {e : Env} {s : State} {m : MethodId} {args : Array Value} {below : List Frame} {meth : Method} {c : Code} {Q : State → Prop} {A : Nat → Prop} (dC : Nat → ClassId) (dI : Nat → Nat → Nat) (cI : ClassId) (ma : Nat → Nat) (kt : Nat → Int32) (ka : Nat) (ki : Int32) (kc : Int32) (f9 : Nat → Int32) (f10 : Nat → Int32) (f11 : Nat → Int32) (f12 : Nat → Int32) (f13 : Nat → Int32) (qa : Nat) (kq : Nat → Int32) (qb : Nat) (kw : Nat → Int32) (hx : p.tables.exec = Jvm.exec) (hb : c.code = cX5_look) (hml : c.maxLocals = 5) (hown : s.vm.findClass RX5 = some m.cls) (hts : ∀ w ∈ wsX5_look, w.before args s = true) (hA : ∀ q : Nat, s.heap.size ≤ q → A q) (hK : va_K (dC, dI) vwCl [(cI, .int)] s)
    (kk : ∀ (tn : Nat) (x : Int32) (g9 : Nat → Int32) (g10 : Nat → Int32) (g11 : Nat → Int32) (g12 : Nat → Int32) (g13 : Nat → Int32) (H : Heap) (locs : List Loc) (ls : Array Slot), zz_V g12 ka → zz_E g12 f12 ka → va_P (dC, dI) vwCl [(ma 0, .inr (5, [.int 0, .ref (ma 1), .int 0, .ref (ma 2), .int 150, .int 3, .int 0, .int ki, .ref (ma 3), .ref (ma 4), .ref (ma 5), .ref (ma 6), .int kc, .int 0, .ref (ma 7), .int 0, .ref (ma 8), .int (-1), .ref (ma 9), .ref (ma 10), .ref (ma 11), .ref (ma 12), .ref (ma 13), .int 0, .int 0])), (ma 2, .inl (cI, 150, .inl kt)), (ma 9, .inl (cI, 151, .inl g9)), (ma 10, .inl (cI, 151, .inl g10)), (ma 11, .inl (cI, 151, .inl g11)), (ma 12, .inl (cI, 151, .inl g12)), (ma 13, .inl (cI, 151, .inl g13)), (qb, .inl (cI, 151, .inl kw)), (qa, .inl (cI, 151, .inl kq))] H → va_D A [(ma 0, .inr (5, [.int 0, .ref (ma 1), .int 0, .ref (ma 2), .int 150, .int 3, .int 0, .int ki, .ref (ma 3), .ref (ma 4), .ref (ma 5), .ref (ma 6), .int kc, .int 0, .ref (ma 7), .int 0, .ref (ma 8), .int (-1), .ref (ma 9), .ref (ma 10), .ref (ma 11), .ref (ma 12), .ref (ma 13), .int 0, .int 0])), (ma 2, .inl (cI, 150, .inl kt)), (ma 9, .inl (cI, 151, .inl g9)), (ma 10, .inl (cI, 151, .inl g10)), (ma 11, .inl (cI, 151, .inl g11)), (ma 12, .inl (cI, 151, .inl g12)), (ma 13, .inl (cI, 151, .inl g13)), (qb, .inl (cI, 151, .inl kw)), (qa, .inl (cI, 151, .inl kq))] → va_S A s.heap H locs → lv_has ls 5 [(3, .int x), (1, .int (nI ka)), (0, .ref (ma 0))] → W p l e (headSpec wsX5_look ({ frames := 2, cells := 2, slots := 302, locals := 50 })).room s m args below meth c H locs 2 302 Q (F0 m 195 ls []))
    : ∀ (j : Nat) (tn : Nat) (x : Int32) (g9 : Nat → Int32) (g10 : Nat → Int32) (g11 : Nat → Int32) (g12 : Nat → Int32) (g13 : Nat → Int32) (H : Heap) (locs : List Loc) (ls : Array Slot), tn < j → (x = nI tn) → (ka + tn ≤ 150) → (zz_V g12 ka) → (zz_E g12 f12 ka) → va_P (dC, dI) vwCl [(ma 0, .inr (5, [.int 0, .ref (ma 1), .int 0, .ref (ma 2), .int 150, .int 3, .int 0, .int ki, .ref (ma 3), .ref (ma 4), .ref (ma 5), .ref (ma 6), .int kc, .int 0, .ref (ma 7), .int 0, .ref (ma 8), .int (-1), .ref (ma 9), .ref (ma 10), .ref (ma 11), .ref (ma 12), .ref (ma 13), .int 0, .int 0])), (ma 2, .inl (cI, 150, .inl kt)), (ma 9, .inl (cI, 151, .inl g9)), (ma 10, .inl (cI, 151, .inl g10)), (ma 11, .inl (cI, 151, .inl g11)), (ma 12, .inl (cI, 151, .inl g12)), (ma 13, .inl (cI, 151, .inl g13)), (qb, .inl (cI, 151, .inl kw)), (qa, .inl (cI, 151, .inl kq))] H → va_D A [(ma 0, .inr (5, [.int 0, .ref (ma 1), .int 0, .ref (ma 2), .int 150, .int 3, .int 0, .int ki, .ref (ma 3), .ref (ma 4), .ref (ma 5), .ref (ma 6), .int kc, .int 0, .ref (ma 7), .int 0, .ref (ma 8), .int (-1), .ref (ma 9), .ref (ma 10), .ref (ma 11), .ref (ma 12), .ref (ma 13), .int 0, .int 0])), (ma 2, .inl (cI, 150, .inl kt)), (ma 9, .inl (cI, 151, .inl g9)), (ma 10, .inl (cI, 151, .inl g10)), (ma 11, .inl (cI, 151, .inl g11)), (ma 12, .inl (cI, 151, .inl g12)), (ma 13, .inl (cI, 151, .inl g13)), (qb, .inl (cI, 151, .inl kw)), (qa, .inl (cI, 151, .inl kq))] → va_S A s.heap H locs → lv_has ls 5 [(3, .int x), (1, .int (nI ka)), (0, .ref (ma 0))] → W p l e (headSpec wsX5_look ({ frames := 2, cells := 2, slots := 302, locals := 50 })).room s m args below meth c H locs 2 302 Q (F0 m 165 ls []) := by
  intro j
  induction j with
  | zero => intro tn x g9 g10 g11 g12 g13 H locs ls hj; omega
  | succ j ih =>
    intro tn x g9 g10 g11 g12 g13 H locs ls hj hx1 hbt hV hE hP hD hS hl
    refine lv_iload_n hx hb dX5_look_165 rfl (lv_at hl 0 rfl) ?_
    refine lv_iconst (v := 1) hx hb dX5_look_166 (by decide) ?_
    refine lv_icmp_lt (tgt := 195) hx hb dX5_look_167 (by decide) (fun c167 => ?_) (fun c167 => ?_)
    · skip
      exact kk tn x g9 g10 g11 g12 g13 H locs ls hV hE (hP.sub [0, 1, 2, 3, 4, 5, 6, 7, 8] rfl) (hD.sub [0, 1, 2, 3, 4, 5, 6, 7, 8] (by decide) rfl) hS (lv_sub hl [0, 1, 2] rfl)
    · skip
      have hlt : 1 ≤ tn := Nat.le_of_not_lt (fun q => c167 (by rw [hx1]; show nI tn < nI 1; exact nI_lt q (by omega)))
      obtain ⟨t1, rfl⟩ : ∃ t1, tn = t1 + 1 := ⟨tn - 1, by omega⟩
      subst hx1
      have hx1 : nI (t1 + 1) = nI (t1 + 1) := rfl
      refine lv_aload_n hx hb dX5_look_170 rfl (lv_at hl 2 rfl) ?_
      refine lv_iload_n hx hb dX5_look_171 rfl (lv_at hl 1 rfl) ?_
      refine lv_iconst (v := 3) hx hb dX5_look_172 (by decide) ?_
      refine lv_iload_n hx hb dX5_look_173 rfl (lv_at hl 0 rfl) ?_
      refine lv_aload_n hx hb dX5_look_174 rfl (lv_at hl 2 rfl) ?_
      refine va_get (D := (dC, dI)) (ci := 5) (v := .ref (ma 2)) (C := RX5) (T := TX5) (N := 25) hx hb hts (by decide +kernel) hown hK hP 0 rfl rfl 3 (by decide) (hts (.fieldLink RX5 13 "DeltaCodecModel" "target" "[I") (by decide +kernel)) (fun _ h9 => h9) rfl dX5_look_175 ?_
      refine lv_iload_n hx hb dX5_look_178 rfl (lv_at hl 1 rfl) ?_
      refine va_iald hx hb hK hP 1 0 rfl rfl (vp_in_nI (by omega) (by omega)) dX5_look_179 ?_
      refine lv_topi (fun x_792 ex_792 => ?_)
      refine lv_iload_n hx hb dX5_look_180 rfl (lv_at hl 0 rfl) ?_
      have hPc := hP.sub (ws' := []) [] rfl
      have hFc : ∀ q : Nat, H.size ≤ q → A q := fun q h => hA q (Nat.le_trans hS.1 h)
      have hKc := hK.sub (tys' := []) [] rfl
      refine va_calli (va_runS (As := [.int (nI (t1 + 1))]) (rest := [.int x_792, .int (nI (t1 + 1)), .int 3, .int (nI ka), .ref (ma 0)]) ⟨hx, hb, hml, hown, hts⟩ (k_headSize l dC dI (nI (t1 + 1)) H.size) (va_cwS 1 hts gX5_look_X5_headSize rfl rfl rfl (by decide +kernel) ⟨Nat.le_of_ble_eq_true rfl, Nat.le_of_ble_eq_true rfl⟩) ⟨fun a U g mk q => by obtain ⟨q0, q1, qP, qK, qD⟩ := q; exact ⟨q0, q1, qP, va_K.moved (u := U) (U := U.calling g mk a) (Vm.Alike.refl U.vm) qK, qD⟩, fun U hU hW => ⟨rfl, by rw [hU], by rw [hU]; exact hPc, va_K.moved hW.alike hKc, zz_D (hD.sub (ws' := []) [] (by decide) rfl)⟩⟩ rfl rfl hl.1 rfl (lv_room (Nat.le_of_ble_eq_true rfl)) dX5_look_181 ⟨(Nat.le_of_ble_eq_true rfl), (Nat.le_of_ble_eq_true rfl)⟩) hS (fun q h1 h2 => absurd h1 (Nat.not_lt.mpr h2)) hFc (fun r_793 u_794 t H1 locs ht hvm hw hB hz1 hk1 hS1 => ?_)
      have hP := zz_keep hP hk1
      have hS := hS1
      clear hS1
      generalize H1 = H at hP hS ht ⊢
      have hP : va_P (dC, dI) vwCl [(ma 0, .inr (5, [.int 0, .ref (ma 1), .int 0, .ref (ma 2), .int 150, .int 3, .int 0, .int ki, .ref (ma 3), .ref (ma 4), .ref (ma 5), .ref (ma 6), .int kc, .int 0, .ref (ma 7), .int 0, .ref (ma 8), .int (-1), .ref (ma 9), .ref (ma 10), .ref (ma 11), .ref (ma 12), .ref (ma 13), .int 0, .int 0])), (ma 2, .inl (cI, 150, .inl kt)), (ma 9, .inl (cI, 151, .inl g9)), (ma 10, .inl (cI, 151, .inl g10)), (ma 11, .inl (cI, 151, .inl g11)), (ma 12, .inl (cI, 151, .inl g12)), (ma 13, .inl (cI, 151, .inl g13)), (qb, .inl (cI, 151, .inl kw)), (qa, .inl (cI, 151, .inl kq))] H := hP
      have w181 := hw
      refine lv_iconst (v := 1) hx hb dX5_look_184 (by decide) ?_
      refine lv_iadd hx hb dX5_look_185 ?_
      refine lv_topi (fun x_795 ex_795 => ?_)
      have hPc := hP.sub (ws' := [(ma 0, .inr (5, [.int 0, .ref (ma 1), .int 0, .ref (ma 2), .int 150, .int 3, .int 0, .int ki, .ref (ma 3), .ref (ma 4), .ref (ma 5), .ref (ma 6), .int kc, .int 0, .ref (ma 7), .int 0, .ref (ma 8), .int (-1), .ref (ma 9), .ref (ma 10), .ref (ma 11), .ref (ma 12), .ref (ma 13), .int 0, .int 0])), (ma 9, .inl (cI, 151, .inl g9)), (ma 10, .inl (cI, 151, .inl g10)), (ma 11, .inl (cI, 151, .inl g11)), (ma 12, .inl (cI, 151, .inl g12)), (ma 13, .inl (cI, 151, .inl g13))]) [0, 2, 3, 4, 5, 6] rfl
      have hDc := hD.sub (ws' := [(ma 0, .inr (5, [.int 0, .ref (ma 1), .int 0, .ref (ma 2), .int 150, .int 3, .int 0, .int ki, .ref (ma 3), .ref (ma 4), .ref (ma 5), .ref (ma 6), .int kc, .int 0, .ref (ma 7), .int 0, .ref (ma 8), .int (-1), .ref (ma 9), .ref (ma 10), .ref (ma 11), .ref (ma 12), .ref (ma 13), .int 0, .int 0])), (ma 9, .inl (cI, 151, .inl g9)), (ma 10, .inl (cI, 151, .inl g10)), (ma 11, .inl (cI, 151, .inl g11)), (ma 12, .inl (cI, 151, .inl g12)), (ma 13, .inl (cI, 151, .inl g13))]) [0, 2, 3, 4, 5, 6] (by decide) rfl
      have hFc := va_free (wc := [(ma 0, .inr (5, [.int 0, .ref (ma 1), .int 0, .ref (ma 2), .int 150, .int 3, .int 0, .int ki, .ref (ma 3), .ref (ma 4), .ref (ma 5), .ref (ma 6), .int kc, .int 0, .ref (ma 7), .int 0, .ref (ma 8), .int (-1), .ref (ma 9), .ref (ma 10), .ref (ma 11), .ref (ma 12), .ref (ma 13), .int 0, .int 0])), (ma 9, .inl (cI, 151, .inl g9)), (ma 10, .inl (cI, 151, .inl g10)), (ma 11, .inl (cI, 151, .inl g11)), (ma 12, .inl (cI, 151, .inl g12)), (ma 13, .inl (cI, 151, .inl g13))]) hD hS hA [0, 2, 3, 4, 5, 6] rfl
      have hKc := hK.sub (tys' := [(cI, .int)]) [0] rfl
      refine va_callv (va_runV (As := [.int (nI ka), .int 3, .int (nI (t1 + 1)), .int x_792, .int x_795]) (rest := []) ⟨hx, hb, hml, hown, hts⟩ (k_offer l dC dI cI ma ki kc g9 g10 g11 g12 g13 ka 3 (t1 + 1) x_792 x_795 H.size (by omega) hbt) (cwV 5 hts gX5_look_X5_offer rfl rfl rfl (by decide +kernel) ⟨Nat.le_of_ble_eq_true rfl, Nat.le_of_ble_eq_true rfl⟩) ⟨fun a U g mk q => by obtain ⟨q0, q1, qP, qK, qD⟩ := q; exact ⟨q0, q1, qP, va_K.moved (u := U) (U := U.calling g mk a) (Vm.Alike.refl U.vm) qK, qD⟩, va_recv hKc hPc (ci := 5) (q0 := 0) rfl rfl, fun U hU hW => ⟨rfl, by rw [hU], by rw [hU]; exact hPc, va_K.moved hW.alike hKc, zz_D hDc⟩⟩ rfl rfl hl.1 rfl (lv_room (Nat.le_of_ble_eq_true rfl)) dX5_look_186 ⟨(Nat.le_of_ble_eq_true rfl), (Nat.le_of_ble_eq_true rfl)⟩) hS (fun q _ h => hFc q h) hFc (fun u_797 t H1 locs ht hvm hw hB hz1 hk1 hS1 => ?_)
      obtain ⟨hP1, hD1⟩ := hB
      rw [ht] at hP1
      obtain ⟨hP, hD⟩ := va_join (wr := [(ma 2, .inl (cI, 150, .inl kt)), (qb, .inl (cI, 151, .inl kw)), (qa, .inl (cI, 151, .inl kq))]) (w1 := [(ma 0, .inr (5, [.int 0, .ref (ma 1), .int 0, .ref (ma 2), .int 150, .int 3, .int 0, .int ki, .ref (ma 3), .ref (ma 4), .ref (ma 5), .ref (ma 6), .int kc, .int 0, .ref (ma 7), .int 0, .ref (ma 8), .int (-1), .ref (ma 9), .ref (ma 10), .ref (ma 11), .ref (ma 12), .ref (ma 13), .int 0, .int 0])), (ma 9, .inl (cI, 151, .inl u_797.1)), (ma 10, .inl (cI, 151, .inl u_797.2.1)), (ma 11, .inl (cI, 151, .inl u_797.2.2.1)), (ma 12, .inl (cI, 151, .inl u_797.2.2.2.1)), (ma 13, .inl (cI, 151, .inl u_797.2.2.2.2))]) hP hD [0, 2, 3, 4, 5, 6] [1, 7, 8] rfl rfl (by decide) (by decide) hk1 hFc hP1 hD1
      have hS := hS1
      clear hS1
      generalize H1 = H at hP hS ht ⊢
      have hP : va_P (dC, dI) vwCl [(ma 2, .inl (cI, 150, .inl kt)), (qb, .inl (cI, 151, .inl kw)), (qa, .inl (cI, 151, .inl kq)), (ma 0, .inr (5, [.int 0, .ref (ma 1), .int 0, .ref (ma 2), .int 150, .int 3, .int 0, .int ki, .ref (ma 3), .ref (ma 4), .ref (ma 5), .ref (ma 6), .int kc, .int 0, .ref (ma 7), .int 0, .ref (ma 8), .int (-1), .ref (ma 9), .ref (ma 10), .ref (ma 11), .ref (ma 12), .ref (ma 13), .int 0, .int 0])), (ma 9, .inl (cI, 151, .inl u_797.1)), (ma 10, .inl (cI, 151, .inl u_797.2.1)), (ma 11, .inl (cI, 151, .inl u_797.2.2.1)), (ma 12, .inl (cI, 151, .inl u_797.2.2.2.1)), (ma 13, .inl (cI, 151, .inl u_797.2.2.2.2))] H := hP
      have hD : va_D A [(ma 2, .inl (cI, 150, .inl kt)), (qb, .inl (cI, 151, .inl kw)), (qa, .inl (cI, 151, .inl kq)), (ma 0, .inr (5, [.int 0, .ref (ma 1), .int 0, .ref (ma 2), .int 150, .int 3, .int 0, .int ki, .ref (ma 3), .ref (ma 4), .ref (ma 5), .ref (ma 6), .int kc, .int 0, .ref (ma 7), .int 0, .ref (ma 8), .int (-1), .ref (ma 9), .ref (ma 10), .ref (ma 11), .ref (ma 12), .ref (ma 13), .int 0, .int 0])), (ma 9, .inl (cI, 151, .inl u_797.1)), (ma 10, .inl (cI, 151, .inl u_797.2.1)), (ma 11, .inl (cI, 151, .inl u_797.2.2.1)), (ma 12, .inl (cI, 151, .inl u_797.2.2.2.1)), (ma 13, .inl (cI, 151, .inl u_797.2.2.2.2))] := hD
      have w186 := hw
      obtain ⟨x_798, ex_798⟩ : ∃ y : Int32, y = nI (t1 + 1) + (-1) := ⟨_, rfl⟩
      refine lv_iinc (v := x_798) (lv' := [(3, .int x_798), (1, .int (nI ka)), (0, .ref (ma 0))]) hx hb dX5_look_189 hl (k := 0) rfl (by rw [ex_798]; rfl) (by decide) rfl (fun ls hl => ?_)
      refine lv_goto (tgt := 165) hx hb dX5_look_192 (by decide) ?_
      exact ih t1 x_798 u_797.1 u_797.2.1 u_797.2.2.1 u_797.2.2.2.1 u_797.2.2.2.2 H locs ls (by omega) (by rw [ex_798, ← Int32.sub_eq_add_neg]; exact nI_pred t1) (by omega) (zz_sV w186 (by omega) hbt hV) (zz_sE w186 hE) (hP.sub [3, 0, 4, 5, 6, 7, 8, 1, 2] rfl) (hD.sub [3, 0, 4, 5, 6, 7, 8, 1, 2] (by decide) rfl) hS (lv_sub hl [0, 1, 2] rfl)
