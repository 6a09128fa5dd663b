theorem zz_le150 {M : Nat} (h : M ≤ 150) : 0 + nI M ≤ 150 := by
  rw [Int32.zero_add]
  show nI M ≤ nI 150
  exact nI_le h (by omega)
set_option maxHeartbeats 4000000 in
set_option maxRecDepth 100000 in
theorem lo_mfeed0 {p : Program} {l : Launch} {e : Env} {s : State} {m : MethodId} {args : Array Value} {below : List Frame} {meth : Method} {c : Code} {Q : State → Prop} {A : Nat → Prop} (dC : Nat → ClassId) (dI : Nat → Nat → Nat) (cI : ClassId) (ma : Nat → Nat) (p0 : Int32) (p1 : Int64) (p2 : Int32) (M : Nat) (hM : M ≤ 8) (hx : p.tables.exec = Jvm.exec) (hb : c.code = cX5_feed) (hml : c.maxLocals = 7) (hown : s.vm.findClass RX5 = some m.cls) (hts : ∀ w ∈ wsX5_feed, w.before args s = true) (hA : ∀ q : Nat, s.heap.size ≤ q → A q) (hK : va_K (dC, dI) vwCl [(cI, .int)] s)
    (kk : ∀ (k : Nat) (x : Int32) (kg : Nat → Int32) (H : Heap) (locs : List Loc) (ls : Array Slot), va_P (dC, dI) vwCl [(ma 0, .inr (5, [.int 0, .ref (ma 1), .int 0, .ref (ma 2), .int 0, .int 3, .int 0, .int 0, .ref (ma 3), .ref (ma 4), .ref (ma 5), .ref (ma 6), .int 0, .int 0, .ref (ma 7), .int 0, .ref (ma 8), .int (-1), .ref (ma 9), .ref (ma 10), .ref (ma 11), .ref (ma 12), .ref (ma 13), .int 0, .int 0])), (ma 1, .inl (cI, 150, .inl kg))] H → va_D A [(ma 0, .inr (5, [.int 0, .ref (ma 1), .int 0, .ref (ma 2), .int 0, .int 3, .int 0, .int 0, .ref (ma 3), .ref (ma 4), .ref (ma 5), .ref (ma 6), .int 0, .int 0, .ref (ma 7), .int 0, .ref (ma 8), .int (-1), .ref (ma 9), .ref (ma 10), .ref (ma 11), .ref (ma 12), .ref (ma 13), .int 0, .int 0])), (ma 1, .inl (cI, 150, .inl kg))] → va_S A s.heap H locs → lv_has ls 7 [(6, .int x), (5, .int 0), (4, .int (nI M)), (2, .long p1), (1, .int 0), (0, .ref (ma 0))] → W p l e (headSpec wsX5_feed ({ frames := 1, cells := 0, slots := 0, locals := 22 })).room s m args below meth c H locs 0 0 Q (F0 m 103 ls []))
    : ∀ (j : Nat) (k : Nat) (x : Int32) (kg : Nat → Int32) (H : Heap) (locs : List Loc) (ls : Array Slot), M - k < j → (x = nI k) → (k ≤ M) → va_P (dC, dI) vwCl [(ma 0, .inr (5, [.int 0, .ref (ma 1), .int 0, .ref (ma 2), .int 0, .int 3, .int 0, .int 0, .ref (ma 3), .ref (ma 4), .ref (ma 5), .ref (ma 6), .int 0, .int 0, .ref (ma 7), .int 0, .ref (ma 8), .int (-1), .ref (ma 9), .ref (ma 10), .ref (ma 11), .ref (ma 12), .ref (ma 13), .int 0, .int 0])), (ma 1, .inl (cI, 150, .inl kg))] H → va_D A [(ma 0, .inr (5, [.int 0, .ref (ma 1), .int 0, .ref (ma 2), .int 0, .int 3, .int 0, .int 0, .ref (ma 3), .ref (ma 4), .ref (ma 5), .ref (ma 6), .int 0, .int 0, .ref (ma 7), .int 0, .ref (ma 8), .int (-1), .ref (ma 9), .ref (ma 10), .ref (ma 11), .ref (ma 12), .ref (ma 13), .int 0, .int 0])), (ma 1, .inl (cI, 150, .inl kg))] → va_S A s.heap H locs → lv_has ls 7 [(6, .int x), (5, .int 0), (4, .int (nI M)), (2, .long p1), (1, .int 0), (0, .ref (ma 0))] → W p l e (headSpec wsX5_feed ({ frames := 1, cells := 0, slots := 0, locals := 22 })).room s m args below meth c H locs 0 0 Q (F0 m 62 ls []) := by
  intro j
  induction j with
  | zero => intro k x kg H locs ls hj; omega
  | succ j ih =>
    intro k x kg H locs ls hj hx1 hkt hP hD hS hl
    refine lv_iload hx hb dX5_feed_62 (lv_at hl 0 rfl) ?_
    refine lv_iload hx hb dX5_feed_64 (lv_at hl 2 rfl) ?_
    refine lv_icmp_ge (tgt := 103) hx hb dX5_feed_66 (by decide) (fun c66 => ?_) (fun c66 => ?_)
    · skip
      exact kk k x kg H locs ls  (hP.sub [0, 1] rfl) (hD.sub [0, 1] (by decide) rfl) hS (lv_sub hl [0, 1, 2, 3, 4, 5] rfl)
    · skip
      have hlt : k < M := Nat.lt_of_not_le (fun q => c66 (by rw [hx1]; exact nI_le q (by omega)))
      refine lv_aload_n hx hb dX5_feed_69 rfl (lv_at hl 5 rfl) ?_
      refine lv_iload_n hx hb dX5_feed_70 rfl (lv_at hl 4 rfl) ?_
      have hPc := hP.sub (ws' := [(ma 0, .inr (5, [.int 0, .ref (ma 1), .int 0, .ref (ma 2), .int 0, .int 3, .int 0, .int 0, .ref (ma 3), .ref (ma 4), .ref (ma 5), .ref (ma 6), .int 0, .int 0, .ref (ma 7), .int 0, .ref (ma 8), .int (-1), .ref (ma 9), .ref (ma 10), .ref (ma 11), .ref (ma 12), .ref (ma 13), .int 0, .int 0]))]) [0] rfl
      have hFc : ∀ q : Nat, H.size ≤ q → A q := fun q h => hA q (Nat.le_trans hS.1 h)
      have hKc := hK.sub (tys' := []) [] rfl
      refine va_callr (va_runV (As := [.int 0]) (rest := []) ⟨hx, hb, hml, hown, hts⟩ (c_X5_stringOf0 l dC dI ma H.size) (cwV 1 hts gX5_feed_X5_stringOf rfl rfl rfl (by decide +kernel) ⟨Nat.le_of_ble_eq_true rfl, Nat.le_of_ble_eq_true rfl⟩) ⟨fun a U g mk q => by obtain ⟨q0, q1, qP, qK, qD⟩ := q; exact ⟨q0, q1, qP, va_K.moved (u := U) (U := U.calling g mk a) (Vm.Alike.refl U.vm) qK, qD⟩, va_recv hKc hPc (ci := 5) (q0 := 0) rfl rfl, fun U hU hW => ⟨rfl, by rw [hU], by rw [hU]; exact hPc, va_K.moved hW.alike hKc, zz_D (hD.sub (ws' := [(ma 0, .inr (5, [.int 0, .ref (ma 1), .int 0, .ref (ma 2), .int 0, .int 3, .int 0, .int 0, .ref (ma 3), .ref (ma 4), .ref (ma 5), .ref (ma 6), .int 0, .int 0, .ref (ma 7), .int 0, .ref (ma 8), .int (-1), .ref (ma 9), .ref (ma 10), .ref (ma 11), .ref (ma 12), .ref (ma 13), .int 0, .int 0]))]) [0] (by decide) rfl)⟩⟩ rfl rfl hl.1 rfl (lv_room (Nat.le_of_ble_eq_true rfl)) dX5_feed_71 ⟨(Nat.le_of_ble_eq_true rfl), (Nat.le_of_ble_eq_true rfl)⟩) hS (fun q h1 h2 => absurd h1 (Nat.not_lt.mpr h2)) hFc (fun u_548 r_547 t H1 locs ht hvm hw hB hz1 hk1 hS1 => ?_)
      have hP := zz_keep hP hk1
      have hS := hS1
      clear hS1
      generalize H1 = H at hP hS ht ⊢
      have hP : va_P (dC, dI) vwCl [(ma 0, .inr (5, [.int 0, .ref (ma 1), .int 0, .ref (ma 2), .int 0, .int 3, .int 0, .int 0, .ref (ma 3), .ref (ma 4), .ref (ma 5), .ref (ma 6), .int 0, .int 0, .ref (ma 7), .int 0, .ref (ma 8), .int (-1), .ref (ma 9), .ref (ma 10), .ref (ma 11), .ref (ma 12), .ref (ma 13), .int 0, .int 0])), (ma 1, .inl (cI, 150, .inl kg))] H := hP
      obtain rfl : ma 1 = r_547 := (show r_547 = ma 1 from hB).symm
      refine lv_iload hx hb dX5_feed_74 (lv_at hl 1 rfl) ?_
      refine lv_iload hx hb dX5_feed_76 (lv_at hl 0 rfl) ?_
      refine lv_iadd hx hb dX5_feed_78 ?_
      refine lv_topi (fun x_549 ex_549 => ?_)
      obtain rfl : 0 + x = x_549 := ex_549.symm
      refine lv_lload_n hx hb dX5_feed_79 rfl (lv_at hl 3 rfl) ?_
      refine lv_bipush (v := 8) hx hb dX5_feed_80 (by decide) ?_
      refine lv_iload hx hb dX5_feed_82 (lv_at hl 2 rfl) ?_
      refine lv_iconst (v := 1) hx hb dX5_feed_84 (by decide) ?_
      refine lv_isub hx hb dX5_feed_85 ?_
      refine lv_topi (fun x_550 ex_550 => ?_)
      refine lv_iload hx hb dX5_feed_86 (lv_at hl 0 rfl) ?_
      refine lv_isub hx hb dX5_feed_88 ?_
      refine lv_topi (fun x_551 ex_551 => ?_)
      refine lv_imul hx hb dX5_feed_89 ?_
      refine lv_topi (fun x_552 ex_552 => ?_)
      refine lv_lshr hx hb dX5_feed_90 rfl ?_
      refine lv_topl (fun x_553 ex_553 => ?_)
      refine lv_ldc2 (v := 255) hx hb hown (hts (.constantLong RX5 88 (255)) (by decide +kernel)) dX5_feed_91 ?_
      refine lv_land hx hb dX5_feed_94 ?_
      refine lv_topl (fun x_554 ex_554 => ?_)
      refine lv_l2i (v := x_554.toInt32) hx hb dX5_feed_95 rfl ?_
      refine va_iast hx hb hK hP hD hS 1 0 rfl rfl (by rw [hx1, Int32.zero_add]; exact vp_in_nI (by omega) (by omega)) dX5_feed_96 (fun H locs hP hD hS => ?_)
      obtain ⟨f_555, ef_555⟩ : ∃ g, g = upd kg (0 + x : Int32).toNatClampNeg x_554.toInt32 := ⟨_, rfl⟩
      rw [← ef_555] at hP hD
      have hP : va_P (dC, dI) vwCl [(ma 0, .inr (5, [.int 0, .ref (ma 1), .int 0, .ref (ma 2), .int 0, .int 3, .int 0, .int 0, .ref (ma 3), .ref (ma 4), .ref (ma 5), .ref (ma 6), .int 0, .int 0, .ref (ma 7), .int 0, .ref (ma 8), .int (-1), .ref (ma 9), .ref (ma 10), .ref (ma 11), .ref (ma 12), .ref (ma 13), .int 0, .int 0])), (ma 1, .inl (cI, 150, .inl f_555))] H := hP
      have hD : va_D A [(ma 0, .inr (5, [.int 0, .ref (ma 1), .int 0, .ref (ma 2), .int 0, .int 3, .int 0, .int 0, .ref (ma 3), .ref (ma 4), .ref (ma 5), .ref (ma 6), .int 0, .int 0, .ref (ma 7), .int 0, .ref (ma 8), .int (-1), .ref (ma 9), .ref (ma 10), .ref (ma 11), .ref (ma 12), .ref (ma 13), .int 0, .int 0])), (ma 1, .inl (cI, 150, .inl f_555))] := hD
      obtain ⟨x_556, ex_556⟩ : ∃ y : Int32, y = x + 1 := ⟨_, rfl⟩
      refine lv_iinc (v := x_556) (lv' := [(6, .int x_556), (5, .int 0), (4, .int (nI M)), (2, .long p1), (1, .int 0), (0, .ref (ma 0))]) hx hb dX5_feed_97 hl (k := 0) rfl (by rw [ex_556]; rfl) (by decide) rfl (fun ls hl => ?_)
      refine lv_goto (tgt := 62) hx hb dX5_feed_100 (by decide) ?_
      exact ih (k + 1) x_556 f_555 H locs ls (by omega) (by rw [ex_556, hx1]; exact nI_1 k) (by omega) (hP.sub [0, 1] rfl) (hD.sub [0, 1] (by decide) rfl) hS (lv_sub hl [0, 1, 2, 3, 4, 5] rfl)
set_option maxHeartbeats 4000000 in
set_option maxRecDepth 100000 in
theorem lo_mfeed1 {p : Program} {l : Launch} {e : Env} {s : State} {m : MethodId} {args : Array Value} {below : List Frame} {meth : Method} {c : Code} {Q : State → Prop} {A : Nat → Prop} (dC : Nat → ClassId) (dI : Nat → Nat → Nat) (cI : ClassId) (ma : Nat → Nat) (p0 : Int32) (p1 : Int64) (p2 : Int32) (M : Nat) (hM : M ≤ 8) (hx : p.tables.exec = Jvm.exec) (hb : c.code = cX5_feed) (hml : c.maxLocals = 7) (hown : s.vm.findClass RX5 = some m.cls) (hts : ∀ w ∈ wsX5_feed, w.before args s = true) (hA : ∀ q : Nat, s.heap.size ≤ q → A q) (hK : va_K (dC, dI) vwCl [(cI, .int)] s)
    (kk : ∀ (k : Nat) (x : Int32) (kg : Nat → Int32) (H : Heap) (locs : List Loc) (ls : Array Slot), va_P (dC, dI) vwCl [(ma 0, .inr (5, [.int 0, .ref (ma 1), .int 0, .ref (ma 2), .int 0, .int 3, .int 0, .int 0, .ref (ma 3), .ref (ma 4), .ref (ma 5), .ref (ma 6), .int 0, .int 0, .ref (ma 7), .int 0, .ref (ma 8), .int (-1), .ref (ma 9), .ref (ma 10), .ref (ma 11), .ref (ma 12), .ref (ma 13), .int 0, .int 0])), (ma 2, .inl (cI, 150, .inl kg))] H → va_D A [(ma 0, .inr (5, [.int 0, .ref (ma 1), .int 0, .ref (ma 2), .int 0, .int 3, .int 0, .int 0, .ref (ma 3), .ref (ma 4), .ref (ma 5), .ref (ma 6), .int 0, .int 0, .ref (ma 7), .int 0, .ref (ma 8), .int (-1), .ref (ma 9), .ref (ma 10), .ref (ma 11), .ref (ma 12), .ref (ma 13), .int 0, .int 0])), (ma 2, .inl (cI, 150, .inl kg))] → va_S A s.heap H locs → lv_has ls 7 [(6, .int x), (5, .int 0), (4, .int (nI M)), (2, .long p1), (1, .int 1), (0, .ref (ma 0))] → W p l e (headSpec wsX5_feed ({ frames := 1, cells := 0, slots := 0, locals := 22 })).room s m args below meth c H locs 0 0 Q (F0 m 103 ls []))
    : ∀ (j : Nat) (k : Nat) (x : Int32) (kg : Nat → Int32) (H : Heap) (locs : List Loc) (ls : Array Slot), M - k < j → (x = nI k) → (k ≤ M) → va_P (dC, dI) vwCl [(ma 0, .inr (5, [.int 0, .ref (ma 1), .int 0, .ref (ma 2), .int 0, .int 3, .int 0, .int 0, .ref (ma 3), .ref (ma 4), .ref (ma 5), .ref (ma 6), .int 0, .int 0, .ref (ma 7), .int 0, .ref (ma 8), .int (-1), .ref (ma 9), .ref (ma 10), .ref (ma 11), .ref (ma 12), .ref (ma 13), .int 0, .int 0])), (ma 2, .inl (cI, 150, .inl kg))] H → va_D A [(ma 0, .inr (5, [.int 0, .ref (ma 1), .int 0, .ref (ma 2), .int 0, .int 3, .int 0, .int 0, .ref (ma 3), .ref (ma 4), .ref (ma 5), .ref (ma 6), .int 0, .int 0, .ref (ma 7), .int 0, .ref (ma 8), .int (-1), .ref (ma 9), .ref (ma 10), .ref (ma 11), .ref (ma 12), .ref (ma 13), .int 0, .int 0])), (ma 2, .inl (cI, 150, .inl kg))] → va_S A s.heap H locs → lv_has ls 7 [(6, .int x), (5, .int 0), (4, .int (nI M)), (2, .long p1), (1, .int 1), (0, .ref (ma 0))] → W p l e (headSpec wsX5_feed ({ frames := 1, cells := 0, slots := 0, locals := 22 })).room s m args below meth c H locs 0 0 Q (F0 m 62 ls []) := by
  intro j
  induction j with
  | zero => intro k x kg H locs ls hj; omega
  | succ j ih =>
    intro k x kg H locs ls hj hx1 hkt hP hD hS hl
    refine lv_iload hx hb dX5_feed_62 (lv_at hl 0 rfl) ?_
    refine lv_iload hx hb dX5_feed_64 (lv_at hl 2 rfl) ?_
    refine lv_icmp_ge (tgt := 103) hx hb dX5_feed_66 (by decide) (fun c66 => ?_) (fun c66 => ?_)
    · skip
      exact kk k x kg H locs ls  (hP.sub [0, 1] rfl) (hD.sub [0, 1] (by decide) rfl) hS (lv_sub hl [0, 1, 2, 3, 4, 5] rfl)
    · skip
      have hlt : k < M := Nat.lt_of_not_le (fun q => c66 (by rw [hx1]; exact nI_le q (by omega)))
      refine lv_aload_n hx hb dX5_feed_69 rfl (lv_at hl 5 rfl) ?_
      refine lv_iload_n hx hb dX5_feed_70 rfl (lv_at hl 4 rfl) ?_
      have hPc := hP.sub (ws' := [(ma 0, .inr (5, [.int 0, .ref (ma 1), .int 0, .ref (ma 2), .int 0, .int 3, .int 0, .int 0, .ref (ma 3), .ref (ma 4), .ref (ma 5), .ref (ma 6), .int 0, .int 0, .ref (ma 7), .int 0, .ref (ma 8), .int (-1), .ref (ma 9), .ref (ma 10), .ref (ma 11), .ref (ma 12), .ref (ma 13), .int 0, .int 0]))]) [0] rfl
      have hFc : ∀ q : Nat, H.size ≤ q → A q := fun q h => hA q (Nat.le_trans hS.1 h)
      have hKc := hK.sub (tys' := []) [] rfl
      refine va_callr (va_runV (As := [.int 1]) (rest := []) ⟨hx, hb, hml, hown, hts⟩ (c_X5_stringOf1 l dC dI ma H.size) (cwV 1 hts gX5_feed_X5_stringOf rfl rfl rfl (by decide +kernel) ⟨Nat.le_of_ble_eq_true rfl, Nat.le_of_ble_eq_true rfl⟩) ⟨fun a U g mk q => by obtain ⟨q0, q1, qP, qK, qD⟩ := q; exact ⟨q0, q1, qP, va_K.moved (u := U) (U := U.calling g mk a) (Vm.Alike.refl U.vm) qK, qD⟩, va_recv hKc hPc (ci := 5) (q0 := 0) rfl rfl, fun U hU hW => ⟨rfl, by rw [hU], by rw [hU]; exact hPc, va_K.moved hW.alike hKc, zz_D (hD.sub (ws' := [(ma 0, .inr (5, [.int 0, .ref (ma 1), .int 0, .ref (ma 2), .int 0, .int 3, .int 0, .int 0, .ref (ma 3), .ref (ma 4), .ref (ma 5), .ref (ma 6), .int 0, .int 0, .ref (ma 7), .int 0, .ref (ma 8), .int (-1), .ref (ma 9), .ref (ma 10), .ref (ma 11), .ref (ma 12), .ref (ma 13), .int 0, .int 0]))]) [0] (by decide) rfl)⟩⟩ rfl rfl hl.1 rfl (lv_room (Nat.le_of_ble_eq_true rfl)) dX5_feed_71 ⟨(Nat.le_of_ble_eq_true rfl), (Nat.le_of_ble_eq_true rfl)⟩) hS (fun q h1 h2 => absurd h1 (Nat.not_lt.mpr h2)) hFc (fun u_558 r_557 t H1 locs ht hvm hw hB hz1 hk1 hS1 => ?_)
      have hP := zz_keep hP hk1
      have hS := hS1
      clear hS1
      generalize H1 = H at hP hS ht ⊢
      have hP : va_P (dC, dI) vwCl [(ma 0, .inr (5, [.int 0, .ref (ma 1), .int 0, .ref (ma 2), .int 0, .int 3, .int 0, .int 0, .ref (ma 3), .ref (ma 4), .ref (ma 5), .ref (ma 6), .int 0, .int 0, .ref (ma 7), .int 0, .ref (ma 8), .int (-1), .ref (ma 9), .ref (ma 10), .ref (ma 11), .ref (ma 12), .ref (ma 13), .int 0, .int 0])), (ma 2, .inl (cI, 150, .inl kg))] H := hP
      obtain rfl : ma 2 = r_557 := (show r_557 = ma 2 from hB).symm
      refine lv_iload hx hb dX5_feed_74 (lv_at hl 1 rfl) ?_
      refine lv_iload hx hb dX5_feed_76 (lv_at hl 0 rfl) ?_
      refine lv_iadd hx hb dX5_feed_78 ?_
      refine lv_topi (fun x_559 ex_559 => ?_)
      obtain rfl : 0 + x = x_559 := ex_559.symm
      refine lv_lload_n hx hb dX5_feed_79 rfl (lv_at hl 3 rfl) ?_
      refine lv_bipush (v := 8) hx hb dX5_feed_80 (by decide) ?_
      refine lv_iload hx hb dX5_feed_82 (lv_at hl 2 rfl) ?_
      refine lv_iconst (v := 1) hx hb dX5_feed_84 (by decide) ?_
      refine lv_isub hx hb dX5_feed_85 ?_
      refine lv_topi (fun x_560 ex_560 => ?_)
      refine lv_iload hx hb dX5_feed_86 (lv_at hl 0 rfl) ?_
      refine lv_isub hx hb dX5_feed_88 ?_
      refine lv_topi (fun x_561 ex_561 => ?_)
      refine lv_imul hx hb dX5_feed_89 ?_
      refine lv_topi (fun x_562 ex_562 => ?_)
      refine lv_lshr hx hb dX5_feed_90 rfl ?_
      refine lv_topl (fun x_563 ex_563 => ?_)
      refine lv_ldc2 (v := 255) hx hb hown (hts (.constantLong RX5 88 (255)) (by decide +kernel)) dX5_feed_91 ?_
      refine lv_land hx hb dX5_feed_94 ?_
      refine lv_topl (fun x_564 ex_564 => ?_)
      refine lv_l2i (v := x_564.toInt32) hx hb dX5_feed_95 rfl ?_
      refine va_iast hx hb hK hP hD hS 1 0 rfl rfl (by rw [hx1, Int32.zero_add]; exact vp_in_nI (by omega) (by omega)) dX5_feed_96 (fun H locs hP hD hS => ?_)
      obtain ⟨f_565, ef_565⟩ : ∃ g, g = upd kg (0 + x : Int32).toNatClampNeg x_564.toInt32 := ⟨_, rfl⟩
      rw [← ef_565] at hP hD
      have hP : va_P (dC, dI) vwCl [(ma 0, .inr (5, [.int 0, .ref (ma 1), .int 0, .ref (ma 2), .int 0, .int 3, .int 0, .int 0, .ref (ma 3), .ref (ma 4), .ref (ma 5), .ref (ma 6), .int 0, .int 0, .ref (ma 7), .int 0, .ref (ma 8), .int (-1), .ref (ma 9), .ref (ma 10), .ref (ma 11), .ref (ma 12), .ref (ma 13), .int 0, .int 0])), (ma 2, .inl (cI, 150, .inl f_565))] H := hP
      have hD : va_D A [(ma 0, .inr (5, [.int 0, .ref (ma 1), .int 0, .ref (ma 2), .int 0, .int 3, .int 0, .int 0, .ref (ma 3), .ref (ma 4), .ref (ma 5), .ref (ma 6), .int 0, .int 0, .ref (ma 7), .int 0, .ref (ma 8), .int (-1), .ref (ma 9), .ref (ma 10), .ref (ma 11), .ref (ma 12), .ref (ma 13), .int 0, .int 0])), (ma 2, .inl (cI, 150, .inl f_565))] := hD
      obtain ⟨x_566, ex_566⟩ : ∃ y : Int32, y = x + 1 := ⟨_, rfl⟩
      refine lv_iinc (v := x_566) (lv' := [(6, .int x_566), (5, .int 0), (4, .int (nI M)), (2, .long p1), (1, .int 1), (0, .ref (ma 0))]) hx hb dX5_feed_97 hl (k := 0) rfl (by rw [ex_566]; rfl) (by decide) rfl (fun ls hl => ?_)
      refine lv_goto (tgt := 62) hx hb dX5_feed_100 (by decide) ?_
      exact ih (k + 1) x_566 f_565 H locs ls (by omega) (by rw [ex_566, hx1]; exact nI_1 k) (by omega) (hP.sub [0, 1] rfl) (hD.sub [0, 1] (by decide) rfl) hS (lv_sub hl [0, 1, 2, 3, 4, 5] rfl)
set_option maxHeartbeats 4000000 in
set_option maxRecDepth 100000 in
theorem c_X5_feed (l : Launch) (dC : Nat → ClassId) (dI : Nat → Nat → Nat) (cI : ClassId) (ma : Nat → Nat) (p0 : Int32) (p1 : Int64) (p2 : Int32) (sz : Nat) : Met l yX5_feed wsX5_feed ({ frames := 1, cells := 0, slots := 0, locals := 22 }) (va_Pc [.ref (ma 0), .int p0, .long p1, .int p2] (fun U => U.heap.size = sz ∧ va_P (dC, dI) vwCl (wm cI ma) U.heap ∧ va_K (dC, dI) vwCl [(cI, .int)] U ∧ va_D (fun _ => True) (wm cI ma))) (va_Qi (fun (r : Int32) (u9 : Int32 × List Value) => u9.1 = zf_feed p0 p2 ∧ (u9.1 = 0 → r = p2)) (fun u9 t => va_P (dC, dI) vwCl [(ma 0, .inr (5, .int u9.1 :: u9.2))] t.heap ∧ va_D (va_A (wm cI ma) sz) [(ma 0, .inr (5, .int u9.1 :: u9.2))]) (va_A (wm cI ma) sz)) 0 0 (va_A (wm cI ma) sz) := by
  refine Met.ofW (cc := cX5_feed) (maxL := 7) (ret := (some .int)) (by decide) rfl ?_
  intro p e s m args below meth c s₁ B hml hv
  obtain ⟨rfl, hsz, hP, hK, hD0⟩ := hv
  have hx := B.exec
  have hb := B.bytes
  have hr := B.returns
  have hts := atoms_spec (ws := wsX5_feed) B.pre
  have hown : s.vm.findClass RX5 = some m.cls := findClass_of_methodNamed B.named
  have hlocks := B.notSynchronized
  subst hsz
  have hD := hD0.self (sz := s.heap.size)
  generalize hAe : va_A (wm cI ma) s.heap.size = A at hD ⊢
  have hA : ∀ q : Nat, s.heap.size ≤ q → A q := fun q h => by rw [← hAe]; exact Or.inr h
  have hS : va_S A s.heap s.heap [] := va_S.rf
  have hP := hP.sub (ws' := [(ma 0, .inr (5, [.int 0, .ref (ma 1), .int 0, .ref (ma 2), .int 0, .int 3, .int 0, .int 0, .ref (ma 3), .ref (ma 4), .ref (ma 5), .ref (ma 6), .int 0, .int 0, .ref (ma 7), .int 0, .ref (ma 8), .int (-1), .ref (ma 9), .ref (ma 10), .ref (ma 11), .ref (ma 12), .ref (ma 13), .int 0, .int 0])), (ma 1, .inl (cI, 150, .inl (fun _ => 0))), (ma 2, .inl (cI, 150, .inl (fun _ => 0)))]) [0, 1, 2] rfl
  have hD := hD.sub (ws' := [(ma 0, .inr (5, [.int 0, .ref (ma 1), .int 0, .ref (ma 2), .int 0, .int 3, .int 0, .int 0, .ref (ma 3), .ref (ma 4), .ref (ma 5), .ref (ma 6), .int 0, .int 0, .ref (ma 7), .int 0, .ref (ma 8), .int (-1), .ref (ma 9), .ref (ma 10), .ref (ma 11), .ref (ma 12), .ref (ma 13), .int 0, .int 0])), (ma 1, .inl (cI, 150, .inl (fun _ => 0))), (ma 2, .inl (cI, 150, .inl (fun _ => 0)))]) [0, 1, 2] (by decide) rfl
  have hl := lv_entry ([.ref (ma 0), .int p0, .long p1, .int p2]) (n := 7) (Nat.le_of_ble_eq_true rfl)
  rw [lg_entry_eq]
  generalize (lg_sl ([.ref (ma 0), .int p0, .long p1, .int p2]) ++ List.replicate (7 - (lg_sl ([.ref (ma 0), .int p0, .long p1, .int p2])).length) Slot.unset).toArray = ls at hl ⊢
  have hl : lv_has ls 7 [(0, .ref (ma 0)), (1, .int p0), (2, .long p1), (4, .int p2)] := hl
  refine lv_aload_n hx hb dX5_feed_0 rfl (lv_at hl 0 rfl) ?_
  refine lv_iconst (v := 0) hx hb dX5_feed_1 (by decide) ?_
  refine va_put (D := (dC, dI)) (ci := 5) (v := .int 0) (ty := .int) (C := RX5) (T := TX5) (N := 25) hx hb hts (by decide +kernel) tyX5 tyX5_ok nmX5 hown hK hP hD hS 0 rfl rfl 0 (by decide) (hts (.fieldLink RX5 56 "DeltaCodecModel" "thrown" "I") (by decide +kernel)) (fun _ h9 => h9) rfl (by decide +kernel) rfl rfl (Nat.le_of_ble_eq_true rfl) dX5_feed_2 (fun H locs hP hD hS => ?_)
  have hP : va_P (dC, dI) vwCl [(ma 0, .inr (5, [.int 0, .ref (ma 1), .int 0, .ref (ma 2), .int 0, .int 3, .int 0, .int 0, .ref (ma 3), .ref (ma 4), .ref (ma 5), .ref (ma 6), .int 0, .int 0, .ref (ma 7), .int 0, .ref (ma 8), .int (-1), .ref (ma 9), .ref (ma 10), .ref (ma 11), .ref (ma 12), .ref (ma 13), .int 0, .int 0])), (ma 1, .inl (cI, 150, .inl (fun _ => 0))), (ma 2, .inl (cI, 150, .inl (fun _ => 0)))] H := hP
  have hD : va_D A [(ma 0, .inr (5, [.int 0, .ref (ma 1), .int 0, .ref (ma 2), .int 0, .int 3, .int 0, .int 0, .ref (ma 3), .ref (ma 4), .ref (ma 5), .ref (ma 6), .int 0, .int 0, .ref (ma 7), .int 0, .ref (ma 8), .int (-1), .ref (ma 9), .ref (ma 10), .ref (ma 11), .ref (ma 12), .ref (ma 13), .int 0, .int 0])), (ma 1, .inl (cI, 150, .inl (fun _ => 0))), (ma 2, .inl (cI, 150, .inl (fun _ => 0)))] := hD
  refine lv_iload_n hx hb dX5_feed_5 rfl (lv_at hl 1 rfl) ?_
  have hPc := hP.sub (ws' := []) [] rfl
  have hFc : ∀ q : Nat, H.size ≤ q → A q := fun q h => hA q (Nat.le_trans hS.1 h)
  have hKc := hK.sub (tys' := []) [] rfl
  refine va_calli (va_runS (As := [.int p0]) (rest := []) ⟨hx, hb, hml, hown, hts⟩ (c_X5_isSide l dC dI p0 H.size) (va_cwS 1 hts gX5_feed_X5_isSide rfl rfl rfl (by decide +kernel) ⟨Nat.le_of_ble_eq_true rfl, Nat.le_of_ble_eq_true rfl⟩) ⟨fun a U g mk q => by obtain ⟨q0, q1, qP, qK, qD⟩ := q; exact ⟨q0, q1, qP, va_K.moved (u := U) (U := U.calling g mk a) (Vm.Alike.refl U.vm) qK, qD⟩, fun U hU hW => ⟨rfl, by rw [hU], by rw [hU]; exact hPc, va_K.moved hW.alike hKc, zz_D (hD.sub (ws' := []) [] (by decide) rfl)⟩⟩ rfl rfl hl.1 rfl (lv_room (Nat.le_of_ble_eq_true rfl)) dX5_feed_6 ⟨(Nat.le_of_ble_eq_true rfl), (Nat.le_of_ble_eq_true rfl)⟩) hS (fun q h1 h2 => absurd h1 (Nat.not_lt.mpr h2)) hFc (fun r_567 u_568 t H1 locs ht hvm hw hB hz1 hk1 hS1 => ?_)
  have hP := zz_keep hP hk1
  have hS := hS1
  clear hS1
  generalize H1 = H at hP hS ht ⊢
  have hP : va_P (dC, dI) vwCl [(ma 0, .inr (5, [.int 0, .ref (ma 1), .int 0, .ref (ma 2), .int 0, .int 3, .int 0, .int 0, .ref (ma 3), .ref (ma 4), .ref (ma 5), .ref (ma 6), .int 0, .int 0, .ref (ma 7), .int 0, .ref (ma 8), .int (-1), .ref (ma 9), .ref (ma 10), .ref (ma 11), .ref (ma 12), .ref (ma 13), .int 0, .int 0])), (ma 1, .inl (cI, 150, .inl (fun _ => 0))), (ma 2, .inl (cI, 150, .inl (fun _ => 0)))] H := hP
  have w6 := hw
  rcases w6 with ⟨hr9, hp6⟩ | ⟨hr9, hn6⟩
  · skip
    subst hr9
    rcases (show p0 = 0 ∨ p0 = 1 from hp6) with rfl | rfl
    · skip
      refine lv_if_ne (tgt := 18) hx hb dX5_feed_9 (by decide) (fun c9 => ?_) (fun h => absurd h (by decide))
      refine lv_iload hx hb dX5_feed_18 (lv_at hl 3 rfl) ?_
      refine lv_iconst (v := 1) hx hb dX5_feed_20 (by decide) ?_
      refine lv_bipush (v := 8) hx hb dX5_feed_21 (by decide) ?_
      have hPc := hP.sub (ws' := []) [] rfl
      have hFc : ∀ q : Nat, H.size ≤ q → A q := fun q h => hA q (Nat.le_trans hS.1 h)
      have hKc := hK.sub (tys' := []) [] rfl
      refine va_calli (va_runS (As := [.int p2, .int 1, .int 8]) (rest := []) ⟨hx, hb, hml, hown, hts⟩ (c_X5_isIn l dC dI p2 1 8 H.size) (va_cwS 3 hts gX5_feed_X5_isIn rfl rfl rfl (by decide +kernel) ⟨Nat.le_of_ble_eq_true rfl, Nat.le_of_ble_eq_true rfl⟩) ⟨fun a U g mk q => by obtain ⟨q0, q1, qP, qK, qD⟩ := q; exact ⟨q0, q1, qP, va_K.moved (u := U) (U := U.calling g mk a) (Vm.Alike.refl U.vm) qK, qD⟩, fun U hU hW => ⟨rfl, by rw [hU], by rw [hU]; exact hPc, va_K.moved hW.alike hKc, zz_D (hD.sub (ws' := []) [] (by decide) rfl)⟩⟩ rfl rfl hl.1 rfl (lv_room (Nat.le_of_ble_eq_true rfl)) dX5_feed_23 ⟨(Nat.le_of_ble_eq_true rfl), (Nat.le_of_ble_eq_true rfl)⟩) hS (fun q h1 h2 => absurd h1 (Nat.not_lt.mpr h2)) hFc (fun r_569 u_570 t H1 locs ht hvm hw hB hz1 hk1 hS1 => ?_)
      have hP := zz_keep hP hk1
      have hS := hS1
      clear hS1
      generalize H1 = H at hP hS ht ⊢
      have hP : va_P (dC, dI) vwCl [(ma 0, .inr (5, [.int 0, .ref (ma 1), .int 0, .ref (ma 2), .int 0, .int 3, .int 0, .int 0, .ref (ma 3), .ref (ma 4), .ref (ma 5), .ref (ma 6), .int 0, .int 0, .ref (ma 7), .int 0, .ref (ma 8), .int (-1), .ref (ma 9), .ref (ma 10), .ref (ma 11), .ref (ma 12), .ref (ma 13), .int 0, .int 0])), (ma 1, .inl (cI, 150, .inl (fun _ => 0))), (ma 2, .inl (cI, 150, .inl (fun _ => 0)))] H := hP
      have w23 := hw
      rcases w23 with ⟨hr9, hp23⟩ | ⟨hr9, hn23⟩
      · skip
        subst hr9
        refine lv_if_ne (tgt := 35) hx hb dX5_feed_26 (by decide) (fun c26 => ?_) (fun h => absurd h (by decide))
        obtain ⟨M, hM, hM2⟩ := zz_nat (M := 8) (n := 8) (by decide) hp23
        subst hM2
        refine lv_aload_n hx hb dX5_feed_35 rfl (lv_at hl 0 rfl) ?_
        refine lv_iload_n hx hb dX5_feed_36 rfl (lv_at hl 1 rfl) ?_
        have hPc := hP.sub (ws' := [(ma 0, .inr (5, [.int 0, .ref (ma 1), .int 0, .ref (ma 2), .int 0, .int 3, .int 0, .int 0, .ref (ma 3), .ref (ma 4), .ref (ma 5), .ref (ma 6), .int 0, .int 0, .ref (ma 7), .int 0, .ref (ma 8), .int (-1), .ref (ma 9), .ref (ma 10), .ref (ma 11), .ref (ma 12), .ref (ma 13), .int 0, .int 0]))]) [0] rfl
        have hFc : ∀ q : Nat, H.size ≤ q → A q := fun q h => hA q (Nat.le_trans hS.1 h)
        have hKc := hK.sub (tys' := []) [] rfl
        refine va_calli (va_runV (As := [.int 0]) (rest := []) ⟨hx, hb, hml, hown, hts⟩ (c_X5_sizeOfB0 l dC dI ma 0 H.size) (cwV 1 hts gX5_feed_X5_sizeOf rfl rfl rfl (by decide +kernel) ⟨Nat.le_of_ble_eq_true rfl, Nat.le_of_ble_eq_true rfl⟩) ⟨fun a U g mk q => by obtain ⟨q0, q1, qP, qK, qD⟩ := q; exact ⟨q0, q1, qP, va_K.moved (u := U) (U := U.calling g mk a) (Vm.Alike.refl U.vm) qK, qD⟩, va_recv hKc hPc (ci := 5) (q0 := 0) rfl rfl, fun U hU hW => ⟨rfl, by rw [hU], by rw [hU]; exact hPc, va_K.moved hW.alike hKc, zz_D (hD.sub (ws' := [(ma 0, .inr (5, [.int 0, .ref (ma 1), .int 0, .ref (ma 2), .int 0, .int 3, .int 0, .int 0, .ref (ma 3), .ref (ma 4), .ref (ma 5), .ref (ma 6), .int 0, .int 0, .ref (ma 7), .int 0, .ref (ma 8), .int (-1), .ref (ma 9), .ref (ma 10), .ref (ma 11), .ref (ma 12), .ref (ma 13), .int 0, .int 0]))]) [0] (by decide) rfl)⟩⟩ rfl rfl hl.1 rfl (lv_room (Nat.le_of_ble_eq_true rfl)) dX5_feed_37 ⟨(Nat.le_of_ble_eq_true rfl), (Nat.le_of_ble_eq_true rfl)⟩) hS (fun q h1 h2 => absurd h1 (Nat.not_lt.mpr h2)) hFc (fun r_571 u_572 t H1 locs ht hvm hw hB hz1 hk1 hS1 => ?_)
        have hP := zz_keep hP hk1
        have hS := hS1
        clear hS1
        generalize H1 = H at hP hS ht ⊢
        have hP : va_P (dC, dI) vwCl [(ma 0, .inr (5, [.int 0, .ref (ma 1), .int 0, .ref (ma 2), .int 0, .int 3, .int 0, .int 0, .ref (ma 3), .ref (ma 4), .ref (ma 5), .ref (ma 6), .int 0, .int 0, .ref (ma 7), .int 0, .ref (ma 8), .int (-1), .ref (ma 9), .ref (ma 10), .ref (ma 11), .ref (ma 12), .ref (ma 13), .int 0, .int 0])), (ma 1, .inl (cI, 150, .inl (fun _ => 0))), (ma 2, .inl (cI, 150, .inl (fun _ => 0)))] H := hP
        obtain rfl : 0 = r_571 := (show r_571 = 0 from hw).symm
        refine lv_istore (lv' := [(5, .int 0), (0, .ref (ma 0)), (1, .int 0), (2, .long p1), (4, .int (nI M))]) hx hb dX5_feed_40 hl (by decide) rfl (fun ls hl => ?_)
        refine lv_iload hx hb dX5_feed_42 (lv_at hl 0 rfl) ?_
        refine lv_iload hx hb dX5_feed_44 (lv_at hl 4 rfl) ?_
        refine lv_iadd hx hb dX5_feed_46 ?_
        refine lv_topi (fun x_573 ex_573 => ?_)
        obtain rfl : 0 + nI M = x_573 := ex_573.symm
        refine lv_sipush (v := 150) hx hb dX5_feed_47 (by decide) ?_
        refine lv_icmp_le (tgt := 59) hx hb dX5_feed_50 (by decide) (fun c50 => ?_) (fun h => absurd (zz_le150 (by omega)) h)
        refine lv_iconst (v := 0) hx hb dX5_feed_59 (by decide) ?_
        refine lv_istore (lv' := [(6, .int 0), (5, .int 0), (0, .ref (ma 0)), (1, .int 0), (2, .long p1), (4, .int (nI M))]) hx hb dX5_feed_60 hl (by decide) rfl (fun ls hl => ?_)
        refine lo_mfeed0 dC dI cI ma 0 p1 (nI M) M hM hx hb hml hown hts hA hK ?_ (M + 1) 0 0 (fun _ => 0) _ _ ls (by omega) nI_0.symm (by omega) (hP.sub [0, 1] rfl) (hD.sub [0, 1] (by decide) rfl) hS (lv_sub hl [0, 1, 5, 4, 3, 2] rfl)
        intro k x kg H locs ls hP hD hS hl
        refine lv_aload_n hx hb dX5_feed_103 rfl (lv_at hl 5 rfl) ?_
        refine lv_iload_n hx hb dX5_feed_104 rfl (lv_at hl 4 rfl) ?_
        refine lv_iload hx hb dX5_feed_105 (lv_at hl 1 rfl) ?_
        refine lv_iload hx hb dX5_feed_107 (lv_at hl 2 rfl) ?_
        refine lv_iadd hx hb dX5_feed_109 ?_
        refine lv_topi (fun x_574 ex_574 => ?_)
        obtain rfl : 0 + nI M = x_574 := ex_574.symm
        have hPc := hP.sub (ws' := [(ma 0, .inr (5, [.int 0, .ref (ma 1), .int 0, .ref (ma 2), .int 0, .int 3, .int 0, .int 0, .ref (ma 3), .ref (ma 4), .ref (ma 5), .ref (ma 6), .int 0, .int 0, .ref (ma 7), .int 0, .ref (ma 8), .int (-1), .ref (ma 9), .ref (ma 10), .ref (ma 11), .ref (ma 12), .ref (ma 13), .int 0, .int 0]))]) [0] rfl
        have hDc := hD.sub (ws' := [(ma 0, .inr (5, [.int 0, .ref (ma 1), .int 0, .ref (ma 2), .int 0, .int 3, .int 0, .int 0, .ref (ma 3), .ref (ma 4), .ref (ma 5), .ref (ma 6), .int 0, .int 0, .ref (ma 7), .int 0, .ref (ma 8), .int (-1), .ref (ma 9), .ref (ma 10), .ref (ma 11), .ref (ma 12), .ref (ma 13), .int 0, .int 0]))]) [0] (by decide) rfl
        have hFc := va_free (wc := [(ma 0, .inr (5, [.int 0, .ref (ma 1), .int 0, .ref (ma 2), .int 0, .int 3, .int 0, .int 0, .ref (ma 3), .ref (ma 4), .ref (ma 5), .ref (ma 6), .int 0, .int 0, .ref (ma 7), .int 0, .ref (ma 8), .int (-1), .ref (ma 9), .ref (ma 10), .ref (ma 11), .ref (ma 12), .ref (ma 13), .int 0, .int 0]))]) hD hS hA [0] rfl
        have hKc := hK.sub (tys' := []) [] rfl
        refine va_callv (va_runV (As := [.int 0, .int (0 + nI M)]) (rest := []) ⟨hx, hb, hml, hown, hts⟩ (c_X5_setSize0 l dC dI ma (0 + nI M) H.size) (cwV 2 hts gX5_feed_X5_setSize rfl rfl rfl (by decide +kernel) ⟨Nat.le_of_ble_eq_true rfl, Nat.le_of_ble_eq_true rfl⟩) ⟨fun a U g mk q => by obtain ⟨q0, q1, qP, qK, qD⟩ := q; exact ⟨q0, q1, qP, va_K.moved (u := U) (U := U.calling g mk a) (Vm.Alike.refl U.vm) qK, qD⟩, va_recv hKc hPc (ci := 5) (q0 := 0) rfl rfl, fun U hU hW => ⟨rfl, by rw [hU], by rw [hU]; exact hPc, va_K.moved hW.alike hKc, zz_D hDc⟩⟩ rfl rfl hl.1 rfl (lv_room (Nat.le_of_ble_eq_true rfl)) dX5_feed_110 ⟨(Nat.le_of_ble_eq_true rfl), (Nat.le_of_ble_eq_true rfl)⟩) hS (fun q _ h => hFc q h) hFc (fun u_576 t H1 locs ht hvm hw hB hz1 hk1 hS1 => ?_)
        obtain ⟨hP1, hD1⟩ := hB
        rw [ht] at hP1
        obtain ⟨hP, hD⟩ := va_join (wr := [(ma 1, .inl (cI, 150, .inl kg))]) (w1 := [(ma 0, .inr (5, [.int 0, .ref (ma 1), .int (0 + nI M), .ref (ma 2), .int 0, .int 3, .int 0, .int 0, .ref (ma 3), .ref (ma 4), .ref (ma 5), .ref (ma 6), .int 0, .int 0, .ref (ma 7), .int 0, .ref (ma 8), .int (-1), .ref (ma 9), .ref (ma 10), .ref (ma 11), .ref (ma 12), .ref (ma 13), .int 0, .int 0]))]) hP hD [0] [1] rfl rfl (by decide) (by decide) hk1 hFc hP1 hD1
        have hS := hS1
        clear hS1
        generalize H1 = H at hP hS ht ⊢
        have hP : va_P (dC, dI) vwCl [(ma 1, .inl (cI, 150, .inl kg)), (ma 0, .inr (5, [.int 0, .ref (ma 1), .int (0 + nI M), .ref (ma 2), .int 0, .int 3, .int 0, .int 0, .ref (ma 3), .ref (ma 4), .ref (ma 5), .ref (ma 6), .int 0, .int 0, .ref (ma 7), .int 0, .ref (ma 8), .int (-1), .ref (ma 9), .ref (ma 10), .ref (ma 11), .ref (ma 12), .ref (ma 13), .int 0, .int 0]))] H := hP
        have hD : va_D A [(ma 1, .inl (cI, 150, .inl kg)), (ma 0, .inr (5, [.int 0, .ref (ma 1), .int (0 + nI M), .ref (ma 2), .int 0, .int 3, .int 0, .int 0, .ref (ma 3), .ref (ma 4), .ref (ma 5), .ref (ma 6), .int 0, .int 0, .ref (ma 7), .int 0, .ref (ma 8), .int (-1), .ref (ma 9), .ref (ma 10), .ref (ma 11), .ref (ma 12), .ref (ma 13), .int 0, .int 0]))] := hD
        have w110 := hw
        refine lv_iload hx hb dX5_feed_113 (lv_at hl 1 rfl) ?_
        refine lv_iload hx hb dX5_feed_115 (lv_at hl 2 rfl) ?_
        refine lv_iadd hx hb dX5_feed_117 ?_
        refine lv_topi (fun x_577 ex_577 => ?_)
        obtain rfl : 0 + nI M = x_577 := ex_577.symm
        have hP9 := hP.sub (ws' := [(ma 0, .inr (5, .int 0 :: ([.ref (ma 1), .int (0 + nI M), .ref (ma 2), .int 0, .int 3, .int 0, .int 0, .ref (ma 3), .ref (ma 4), .ref (ma 5), .ref (ma 6), .int 0, .int 0, .ref (ma 7), .int 0, .ref (ma 8), .int (-1), .ref (ma 9), .ref (ma 10), .ref (ma 11), .ref (ma 12), .ref (ma 13), .int 0, .int 0])))]) [1] rfl
        have hD9 := hD.sub (ws' := [(ma 0, .inr (5, .int 0 :: ([.ref (ma 1), .int (0 + nI M), .ref (ma 2), .int 0, .int 3, .int 0, .int 0, .ref (ma 3), .ref (ma 4), .ref (ma 5), .ref (ma 6), .int 0, .int 0, .ref (ma 7), .int 0, .ref (ma 8), .int (-1), .ref (ma 9), .ref (ma 10), .ref (ma 11), .ref (ma 12), .ref (ma 13), .int 0, .int 0])))]) [1] (by decide) rfl
        exact W.iret (v := 0 + nI M) hx hb hr (fun t ht hW => ⟨⟨0 + nI M, (0, [.ref (ma 1), .int (0 + nI M), .ref (ma 2), .int 0, .int 3, .int 0, .int 0, .ref (ma 3), .ref (ma 4), .ref (ma 5), .ref (ma 6), .int 0, .int 0, .ref (ma 7), .int 0, .ref (ma 8), .int (-1), .ref (ma 9), .ref (ma 10), .ref (ma 11), .ref (ma 12), .ref (ma 13), .int 0, .int 0]), rfl, ⟨((if_pos (by decide)).trans (if_pos hp23)).symm, fun _ => Int32.zero_add _⟩, ⟨by rw [ht]; exact hP9, hD9⟩⟩, hS.F ht⟩) hS.2.2 dX5_feed_118
      · skip
        subst hr9
        refine lv_if_ne (tgt := 35) hx hb dX5_feed_26 (by decide) (fun h => absurd h (by decide)) (fun c26 => ?_)
        refine lv_aload_n hx hb dX5_feed_29 rfl (lv_at hl 0 rfl) ?_
        refine lv_iconst (v := 2) hx hb dX5_feed_30 (by decide) ?_
        have hPc := hP.sub (ws' := [(ma 0, .inr (5, [.int 0, .ref (ma 1), .int 0, .ref (ma 2), .int 0, .int 3, .int 0, .int 0, .ref (ma 3), .ref (ma 4), .ref (ma 5), .ref (ma 6), .int 0, .int 0, .ref (ma 7), .int 0, .ref (ma 8), .int (-1), .ref (ma 9), .ref (ma 10), .ref (ma 11), .ref (ma 12), .ref (ma 13), .int 0, .int 0]))]) [0] rfl
        have hDc := hD.sub (ws' := [(ma 0, .inr (5, [.int 0, .ref (ma 1), .int 0, .ref (ma 2), .int 0, .int 3, .int 0, .int 0, .ref (ma 3), .ref (ma 4), .ref (ma 5), .ref (ma 6), .int 0, .int 0, .ref (ma 7), .int 0, .ref (ma 8), .int (-1), .ref (ma 9), .ref (ma 10), .ref (ma 11), .ref (ma 12), .ref (ma 13), .int 0, .int 0]))]) [0] (by decide) rfl
        have hFc := va_free (wc := [(ma 0, .inr (5, [.int 0, .ref (ma 1), .int 0, .ref (ma 2), .int 0, .int 3, .int 0, .int 0, .ref (ma 3), .ref (ma 4), .ref (ma 5), .ref (ma 6), .int 0, .int 0, .ref (ma 7), .int 0, .ref (ma 8), .int (-1), .ref (ma 9), .ref (ma 10), .ref (ma 11), .ref (ma 12), .ref (ma 13), .int 0, .int 0]))]) hD hS hA [0] rfl
        have hKc := hK.sub (tys' := []) [] rfl
        refine va_calli (va_runV (As := [.int 2]) (rest := []) ⟨hx, hb, hml, hown, hts⟩ (c_X5_no l dC dI ma 2 H.size) (cwV 1 hts gX5_feed_X5_no rfl rfl rfl (by decide +kernel) ⟨Nat.le_of_ble_eq_true rfl, Nat.le_of_ble_eq_true rfl⟩) ⟨fun a U g mk q => by obtain ⟨q0, q1, qP, qK, qD⟩ := q; exact ⟨q0, q1, qP, va_K.moved (u := U) (U := U.calling g mk a) (Vm.Alike.refl U.vm) qK, qD⟩, va_recv hKc hPc (ci := 5) (q0 := 0) rfl rfl, fun U hU hW => ⟨rfl, by rw [hU], by rw [hU]; exact hPc, va_K.moved hW.alike hKc, zz_D hDc⟩⟩ rfl rfl hl.1 rfl (lv_room (Nat.le_of_ble_eq_true rfl)) dX5_feed_31 ⟨(Nat.le_of_ble_eq_true rfl), (Nat.le_of_ble_eq_true rfl)⟩) hS (fun q _ h => hFc q h) hFc (fun r_578 u_579 t H1 locs ht hvm hw hB hz1 hk1 hS1 => ?_)
        obtain ⟨hP1, hD1⟩ := hB
        rw [ht] at hP1
        obtain ⟨hP, hD⟩ := va_join (wr := [(ma 1, .inl (cI, 150, .inl (fun _ => 0))), (ma 2, .inl (cI, 150, .inl (fun _ => 0)))]) (w1 := [(ma 0, .inr (5, [.int 2, .ref (ma 1), .int 0, .ref (ma 2), .int 0, .int 3, .int 0, .int 0, .ref (ma 3), .ref (ma 4), .ref (ma 5), .ref (ma 6), .int 0, .int 0, .ref (ma 7), .int 0, .ref (ma 8), .int (-1), .ref (ma 9), .ref (ma 10), .ref (ma 11), .ref (ma 12), .ref (ma 13), .int 0, .int 0]))]) hP hD [0] [1, 2] rfl rfl (by decide) (by decide) hk1 hFc hP1 hD1
        have hS := hS1
        clear hS1
        generalize H1 = H at hP hS ht ⊢
        have hP : va_P (dC, dI) vwCl [(ma 1, .inl (cI, 150, .inl (fun _ => 0))), (ma 2, .inl (cI, 150, .inl (fun _ => 0))), (ma 0, .inr (5, [.int 2, .ref (ma 1), .int 0, .ref (ma 2), .int 0, .int 3, .int 0, .int 0, .ref (ma 3), .ref (ma 4), .ref (ma 5), .ref (ma 6), .int 0, .int 0, .ref (ma 7), .int 0, .ref (ma 8), .int (-1), .ref (ma 9), .ref (ma 10), .ref (ma 11), .ref (ma 12), .ref (ma 13), .int 0, .int 0]))] H := hP
        have hD : va_D A [(ma 1, .inl (cI, 150, .inl (fun _ => 0))), (ma 2, .inl (cI, 150, .inl (fun _ => 0))), (ma 0, .inr (5, [.int 2, .ref (ma 1), .int 0, .ref (ma 2), .int 0, .int 3, .int 0, .int 0, .ref (ma 3), .ref (ma 4), .ref (ma 5), .ref (ma 6), .int 0, .int 0, .ref (ma 7), .int 0, .ref (ma 8), .int (-1), .ref (ma 9), .ref (ma 10), .ref (ma 11), .ref (ma 12), .ref (ma 13), .int 0, .int 0]))] := hD
        obtain rfl : 0 = r_578 := (show r_578 = 0 from hw).symm
        have hP9 := hP.sub (ws' := [(ma 0, .inr (5, .int 2 :: ([.ref (ma 1), .int 0, .ref (ma 2), .int 0, .int 3, .int 0, .int 0, .ref (ma 3), .ref (ma 4), .ref (ma 5), .ref (ma 6), .int 0, .int 0, .ref (ma 7), .int 0, .ref (ma 8), .int (-1), .ref (ma 9), .ref (ma 10), .ref (ma 11), .ref (ma 12), .ref (ma 13), .int 0, .int 0])))]) [2] rfl
        have hD9 := hD.sub (ws' := [(ma 0, .inr (5, .int 2 :: ([.ref (ma 1), .int 0, .ref (ma 2), .int 0, .int 3, .int 0, .int 0, .ref (ma 3), .ref (ma 4), .ref (ma 5), .ref (ma 6), .int 0, .int 0, .ref (ma 7), .int 0, .ref (ma 8), .int (-1), .ref (ma 9), .ref (ma 10), .ref (ma 11), .ref (ma 12), .ref (ma 13), .int 0, .int 0])))]) [2] (by decide) rfl
        exact W.iret (v := 0) hx hb hr (fun t ht hW => ⟨⟨0, (2, [.ref (ma 1), .int 0, .ref (ma 2), .int 0, .int 3, .int 0, .int 0, .ref (ma 3), .ref (ma 4), .ref (ma 5), .ref (ma 6), .int 0, .int 0, .ref (ma 7), .int 0, .ref (ma 8), .int (-1), .ref (ma 9), .ref (ma 10), .ref (ma 11), .ref (ma 12), .ref (ma 13), .int 0, .int 0]), rfl, ⟨((if_pos (by decide)).trans (if_neg hn23)).symm, fun h => absurd (show (2 : Int32) = 0 from h) (by decide)⟩, ⟨by rw [ht]; exact hP9, hD9⟩⟩, hS.F ht⟩) hS.2.2 dX5_feed_34
    · skip
      refine lv_if_ne (tgt := 18) hx hb dX5_feed_9 (by decide) (fun c9 => ?_) (fun h => absurd h (by decide))
      refine lv_iload hx hb dX5_feed_18 (lv_at hl 3 rfl) ?_
      refine lv_iconst (v := 1) hx hb dX5_feed_20 (by decide) ?_
      refine lv_bipush (v := 8) hx hb dX5_feed_21 (by decide) ?_
      have hPc := hP.sub (ws' := []) [] rfl
      have hFc : ∀ q : Nat, H.size ≤ q → A q := fun q h => hA q (Nat.le_trans hS.1 h)
      have hKc := hK.sub (tys' := []) [] rfl
      refine va_calli (va_runS (As := [.int p2, .int 1, .int 8]) (rest := []) ⟨hx, hb, hml, hown, hts⟩ (c_X5_isIn l dC dI p2 1 8 H.size) (va_cwS 3 hts gX5_feed_X5_isIn rfl rfl rfl (by decide +kernel) ⟨Nat.le_of_ble_eq_true rfl, Nat.le_of_ble_eq_true rfl⟩) ⟨fun a U g mk q => by obtain ⟨q0, q1, qP, qK, qD⟩ := q; exact ⟨q0, q1, qP, va_K.moved (u := U) (U := U.calling g mk a) (Vm.Alike.refl U.vm) qK, qD⟩, fun U hU hW => ⟨rfl, by rw [hU], by rw [hU]; exact hPc, va_K.moved hW.alike hKc, zz_D (hD.sub (ws' := []) [] (by decide) rfl)⟩⟩ rfl rfl hl.1 rfl (lv_room (Nat.le_of_ble_eq_true rfl)) dX5_feed_23 ⟨(Nat.le_of_ble_eq_true rfl), (Nat.le_of_ble_eq_true rfl)⟩) hS (fun q h1 h2 => absurd h1 (Nat.not_lt.mpr h2)) hFc (fun r_580 u_581 t H1 locs ht hvm hw hB hz1 hk1 hS1 => ?_)
      have hP := zz_keep hP hk1
      have hS := hS1
      clear hS1
      generalize H1 = H at hP hS ht ⊢
      have hP : va_P (dC, dI) vwCl [(ma 0, .inr (5, [.int 0, .ref (ma 1), .int 0, .ref (ma 2), .int 0, .int 3, .int 0, .int 0, .ref (ma 3), .ref (ma 4), .ref (ma 5), .ref (ma 6), .int 0, .int 0, .ref (ma 7), .int 0, .ref (ma 8), .int (-1), .ref (ma 9), .ref (ma 10), .ref (ma 11), .ref (ma 12), .ref (ma 13), .int 0, .int 0])), (ma 1, .inl (cI, 150, .inl (fun _ => 0))), (ma 2, .inl (cI, 150, .inl (fun _ => 0)))] H := hP
      have w23 := hw
      rcases w23 with ⟨hr9, hp23⟩ | ⟨hr9, hn23⟩
      · skip
        subst hr9
        refine lv_if_ne (tgt := 35) hx hb dX5_feed_26 (by decide) (fun c26 => ?_) (fun h => absurd h (by decide))
        obtain ⟨M, hM, hM2⟩ := zz_nat (M := 8) (n := 8) (by decide) hp23
        subst hM2
        refine lv_aload_n hx hb dX5_feed_35 rfl (lv_at hl 0 rfl) ?_
        refine lv_iload_n hx hb dX5_feed_36 rfl (lv_at hl 1 rfl) ?_
        have hPc := hP.sub (ws' := [(ma 0, .inr (5, [.int 0, .ref (ma 1), .int 0, .ref (ma 2), .int 0, .int 3, .int 0, .int 0, .ref (ma 3), .ref (ma 4), .ref (ma 5), .ref (ma 6), .int 0, .int 0, .ref (ma 7), .int 0, .ref (ma 8), .int (-1), .ref (ma 9), .ref (ma 10), .ref (ma 11), .ref (ma 12), .ref (ma 13), .int 0, .int 0]))]) [0] rfl
        have hFc : ∀ q : Nat, H.size ≤ q → A q := fun q h => hA q (Nat.le_trans hS.1 h)
        have hKc := hK.sub (tys' := []) [] rfl
        refine va_calli (va_runV (As := [.int 1]) (rest := []) ⟨hx, hb, hml, hown, hts⟩ (c_X5_sizeOfB1 l dC dI ma 0 H.size) (cwV 1 hts gX5_feed_X5_sizeOf rfl rfl rfl (by decide +kernel) ⟨Nat.le_of_ble_eq_true rfl, Nat.le_of_ble_eq_true rfl⟩) ⟨fun a U g mk q => by obtain ⟨q0, q1, qP, qK, qD⟩ := q; exact ⟨q0, q1, qP, va_K.moved (u := U) (U := U.calling g mk a) (Vm.Alike.refl U.vm) qK, qD⟩, va_recv hKc hPc (ci := 5) (q0 := 0) rfl rfl, fun U hU hW => ⟨rfl, by rw [hU], by rw [hU]; exact hPc, va_K.moved hW.alike hKc, zz_D (hD.sub (ws' := [(ma 0, .inr (5, [.int 0, .ref (ma 1), .int 0, .ref (ma 2), .int 0, .int 3, .int 0, .int 0, .ref (ma 3), .ref (ma 4), .ref (ma 5), .ref (ma 6), .int 0, .int 0, .ref (ma 7), .int 0, .ref (ma 8), .int (-1), .ref (ma 9), .ref (ma 10), .ref (ma 11), .ref (ma 12), .ref (ma 13), .int 0, .int 0]))]) [0] (by decide) rfl)⟩⟩ rfl rfl hl.1 rfl (lv_room (Nat.le_of_ble_eq_true rfl)) dX5_feed_37 ⟨(Nat.le_of_ble_eq_true rfl), (Nat.le_of_ble_eq_true rfl)⟩) hS (fun q h1 h2 => absurd h1 (Nat.not_lt.mpr h2)) hFc (fun r_582 u_583 t H1 locs ht hvm hw hB hz1 hk1 hS1 => ?_)
        have hP := zz_keep hP hk1
        have hS := hS1
        clear hS1
        generalize H1 = H at hP hS ht ⊢
        have hP : va_P (dC, dI) vwCl [(ma 0, .inr (5, [.int 0, .ref (ma 1), .int 0, .ref (ma 2), .int 0, .int 3, .int 0, .int 0, .ref (ma 3), .ref (ma 4), .ref (ma 5), .ref (ma 6), .int 0, .int 0, .ref (ma 7), .int 0, .ref (ma 8), .int (-1), .ref (ma 9), .ref (ma 10), .ref (ma 11), .ref (ma 12), .ref (ma 13), .int 0, .int 0])), (ma 1, .inl (cI, 150, .inl (fun _ => 0))), (ma 2, .inl (cI, 150, .inl (fun _ => 0)))] H := hP
        obtain rfl : 0 = r_582 := (show r_582 = 0 from hw).symm
        refine lv_istore (lv' := [(5, .int 0), (0, .ref (ma 0)), (1, .int 1), (2, .long p1), (4, .int (nI M))]) hx hb dX5_feed_40 hl (by decide) rfl (fun ls hl => ?_)
        refine lv_iload hx hb dX5_feed_42 (lv_at hl 0 rfl) ?_
        refine lv_iload hx hb dX5_feed_44 (lv_at hl 4 rfl) ?_
        refine lv_iadd hx hb dX5_feed_46 ?_
        refine lv_topi (fun x_584 ex_584 => ?_)
        obtain rfl : 0 + nI M = x_584 := ex_584.symm
        refine lv_sipush (v := 150) hx hb dX5_feed_47 (by decide) ?_
        refine lv_icmp_le (tgt := 59) hx hb dX5_feed_50 (by decide) (fun c50 => ?_) (fun h => absurd (zz_le150 (by omega)) h)
        refine lv_iconst (v := 0) hx hb dX5_feed_59 (by decide) ?_
        refine lv_istore (lv' := [(6, .int 0), (5, .int 0), (0, .ref (ma 0)), (1, .int 1), (2, .long p1), (4, .int (nI M))]) hx hb dX5_feed_60 hl (by decide) rfl (fun ls hl => ?_)
        refine lo_mfeed1 dC dI cI ma 1 p1 (nI M) M hM hx hb hml hown hts hA hK ?_ (M + 1) 0 0 (fun _ => 0) _ _ ls (by omega) nI_0.symm (by omega) (hP.sub [0, 2] rfl) (hD.sub [0, 2] (by decide) rfl) hS (lv_sub hl [0, 1, 5, 4, 3, 2] rfl)
        intro k x kg H locs ls hP hD hS hl
        refine lv_aload_n hx hb dX5_feed_103 rfl (lv_at hl 5 rfl) ?_
        refine lv_iload_n hx hb dX5_feed_104 rfl (lv_at hl 4 rfl) ?_
        refine lv_iload hx hb dX5_feed_105 (lv_at hl 1 rfl) ?_
        refine lv_iload hx hb dX5_feed_107 (lv_at hl 2 rfl) ?_
        refine lv_iadd hx hb dX5_feed_109 ?_
        refine lv_topi (fun x_585 ex_585 => ?_)
        obtain rfl : 0 + nI M = x_585 := ex_585.symm
        have hPc := hP.sub (ws' := [(ma 0, .inr (5, [.int 0, .ref (ma 1), .int 0, .ref (ma 2), .int 0, .int 3, .int 0, .int 0, .ref (ma 3), .ref (ma 4), .ref (ma 5), .ref (ma 6), .int 0, .int 0, .ref (ma 7), .int 0, .ref (ma 8), .int (-1), .ref (ma 9), .ref (ma 10), .ref (ma 11), .ref (ma 12), .ref (ma 13), .int 0, .int 0]))]) [0] rfl
        have hDc := hD.sub (ws' := [(ma 0, .inr (5, [.int 0, .ref (ma 1), .int 0, .ref (ma 2), .int 0, .int 3, .int 0, .int 0, .ref (ma 3), .ref (ma 4), .ref (ma 5), .ref (ma 6), .int 0, .int 0, .ref (ma 7), .int 0, .ref (ma 8), .int (-1), .ref (ma 9), .ref (ma 10), .ref (ma 11), .ref (ma 12), .ref (ma 13), .int 0, .int 0]))]) [0] (by decide) rfl
        have hFc := va_free (wc := [(ma 0, .inr (5, [.int 0, .ref (ma 1), .int 0, .ref (ma 2), .int 0, .int 3, .int 0, .int 0, .ref (ma 3), .ref (ma 4), .ref (ma 5), .ref (ma 6), .int 0, .int 0, .ref (ma 7), .int 0, .ref (ma 8), .int (-1), .ref (ma 9), .ref (ma 10), .ref (ma 11), .ref (ma 12), .ref (ma 13), .int 0, .int 0]))]) hD hS hA [0] rfl
        have hKc := hK.sub (tys' := []) [] rfl
        refine va_callv (va_runV (As := [.int 1, .int (0 + nI M)]) (rest := []) ⟨hx, hb, hml, hown, hts⟩ (c_X5_setSize1 l dC dI ma (0 + nI M) H.size) (cwV 2 hts gX5_feed_X5_setSize rfl rfl rfl (by decide +kernel) ⟨Nat.le_of_ble_eq_true rfl, Nat.le_of_ble_eq_true rfl⟩) ⟨fun a U g mk q => by obtain ⟨q0, q1, qP, qK, qD⟩ := q; exact ⟨q0, q1, qP, va_K.moved (u := U) (U := U.calling g mk a) (Vm.Alike.refl U.vm) qK, qD⟩, va_recv hKc hPc (ci := 5) (q0 := 0) rfl rfl, fun U hU hW => ⟨rfl, by rw [hU], by rw [hU]; exact hPc, va_K.moved hW.alike hKc, zz_D hDc⟩⟩ rfl rfl hl.1 rfl (lv_room (Nat.le_of_ble_eq_true rfl)) dX5_feed_110 ⟨(Nat.le_of_ble_eq_true rfl), (Nat.le_of_ble_eq_true rfl)⟩) hS (fun q _ h => hFc q h) hFc (fun u_587 t H1 locs ht hvm hw hB hz1 hk1 hS1 => ?_)
        obtain ⟨hP1, hD1⟩ := hB
        rw [ht] at hP1
        obtain ⟨hP, hD⟩ := va_join (wr := [(ma 2, .inl (cI, 150, .inl kg))]) (w1 := [(ma 0, .inr (5, [.int 0, .ref (ma 1), .int 0, .ref (ma 2), .int (0 + nI M), .int 3, .int 0, .int 0, .ref (ma 3), .ref (ma 4), .ref (ma 5), .ref (ma 6), .int 0, .int 0, .ref (ma 7), .int 0, .ref (ma 8), .int (-1), .ref (ma 9), .ref (ma 10), .ref (ma 11), .ref (ma 12), .ref (ma 13), .int 0, .int 0]))]) hP hD [0] [1] rfl rfl (by decide) (by decide) hk1 hFc hP1 hD1
        have hS := hS1
        clear hS1
        generalize H1 = H at hP hS ht ⊢
        have hP : va_P (dC, dI) vwCl [(ma 2, .inl (cI, 150, .inl kg)), (ma 0, .inr (5, [.int 0, .ref (ma 1), .int 0, .ref (ma 2), .int (0 + nI M), .int 3, .int 0, .int 0, .ref (ma 3), .ref (ma 4), .ref (ma 5), .ref (ma 6), .int 0, .int 0, .ref (ma 7), .int 0, .ref (ma 8), .int (-1), .ref (ma 9), .ref (ma 10), .ref (ma 11), .ref (ma 12), .ref (ma 13), .int 0, .int 0]))] H := hP
        have hD : va_D A [(ma 2, .inl (cI, 150, .inl kg)), (ma 0, .inr (5, [.int 0, .ref (ma 1), .int 0, .ref (ma 2), .int (0 + nI M), .int 3, .int 0, .int 0, .ref (ma 3), .ref (ma 4), .ref (ma 5), .ref (ma 6), .int 0, .int 0, .ref (ma 7), .int 0, .ref (ma 8), .int (-1), .ref (ma 9), .ref (ma 10), .ref (ma 11), .ref (ma 12), .ref (ma 13), .int 0, .int 0]))] := hD
        have w110 := hw
        refine lv_iload hx hb dX5_feed_113 (lv_at hl 1 rfl) ?_
        refine lv_iload hx hb dX5_feed_115 (lv_at hl 2 rfl) ?_
        refine lv_iadd hx hb dX5_feed_117 ?_
        refine lv_topi (fun x_588 ex_588 => ?_)
        obtain rfl : 0 + nI M = x_588 := ex_588.symm
        have hP9 := hP.sub (ws' := [(ma 0, .inr (5, .int 0 :: ([.ref (ma 1), .int 0, .ref (ma 2), .int (0 + nI M), .int 3, .int 0, .int 0, .ref (ma 3), .ref (ma 4), .ref (ma 5), .ref (ma 6), .int 0, .int 0, .ref (ma 7), .int 0, .ref (ma 8), .int (-1), .ref (ma 9), .ref (ma 10), .ref (ma 11), .ref (ma 12), .ref (ma 13), .int 0, .int 0])))]) [1] rfl
        have hD9 := hD.sub (ws' := [(ma 0, .inr (5, .int 0 :: ([.ref (ma 1), .int 0, .ref (ma 2), .int (0 + nI M), .int 3, .int 0, .int 0, .ref (ma 3), .ref (ma 4), .ref (ma 5), .ref (ma 6), .int 0, .int 0, .ref (ma 7), .int 0, .ref (ma 8), .int (-1), .ref (ma 9), .ref (ma 10), .ref (ma 11), .ref (ma 12), .ref (ma 13), .int 0, .int 0])))]) [1] (by decide) rfl
        exact W.iret (v := 0 + nI M) hx hb hr (fun t ht hW => ⟨⟨0 + nI M, (0, [.ref (ma 1), .int 0, .ref (ma 2), .int (0 + nI M), .int 3, .int 0, .int 0, .ref (ma 3), .ref (ma 4), .ref (ma 5), .ref (ma 6), .int 0, .int 0, .ref (ma 7), .int 0, .ref (ma 8), .int (-1), .ref (ma 9), .ref (ma 10), .ref (ma 11), .ref (ma 12), .ref (ma 13), .int 0, .int 0]), rfl, ⟨((if_pos (by decide)).trans (if_pos hp23)).symm, fun _ => Int32.zero_add _⟩, ⟨by rw [ht]; exact hP9, hD9⟩⟩, hS.F ht⟩) hS.2.2 dX5_feed_118
      · skip
        subst hr9
        refine lv_if_ne (tgt := 35) hx hb dX5_feed_26 (by decide) (fun h => absurd h (by decide)) (fun c26 => ?_)
        refine lv_aload_n hx hb dX5_feed_29 rfl (lv_at hl 0 rfl) ?_
        refine lv_iconst (v := 2) hx hb dX5_feed_30 (by decide) ?_
        have hPc := hP.sub (ws' := [(ma 0, .inr (5, [.int 0, .ref (ma 1), .int 0, .ref (ma 2), .int 0, .int 3, .int 0, .int 0, .ref (ma 3), .ref (ma 4), .ref (ma 5), .ref (ma 6), .int 0, .int 0, .ref (ma 7), .int 0, .ref (ma 8), .int (-1), .ref (ma 9), .ref (ma 10), .ref (ma 11), .ref (ma 12), .ref (ma 13), .int 0, .int 0]))]) [0] rfl
        have hDc := hD.sub (ws' := [(ma 0, .inr (5, [.int 0, .ref (ma 1), .int 0, .ref (ma 2), .int 0, .int 3, .int 0, .int 0, .ref (ma 3), .ref (ma 4), .ref (ma 5), .ref (ma 6), .int 0, .int 0, .ref (ma 7), .int 0, .ref (ma 8), .int (-1), .ref (ma 9), .ref (ma 10), .ref (ma 11), .ref (ma 12), .ref (ma 13), .int 0, .int 0]))]) [0] (by decide) rfl
        have hFc := va_free (wc := [(ma 0, .inr (5, [.int 0, .ref (ma 1), .int 0, .ref (ma 2), .int 0, .int 3, .int 0, .int 0, .ref (ma 3), .ref (ma 4), .ref (ma 5), .ref (ma 6), .int 0, .int 0, .ref (ma 7), .int 0, .ref (ma 8), .int (-1), .ref (ma 9), .ref (ma 10), .ref (ma 11), .ref (ma 12), .ref (ma 13), .int 0, .int 0]))]) hD hS hA [0] rfl
        have hKc := hK.sub (tys' := []) [] rfl
        refine va_calli (va_runV (As := [.int 2]) (rest := []) ⟨hx, hb, hml, hown, hts⟩ (c_X5_no l dC dI ma 2 H.size) (cwV 1 hts gX5_feed_X5_no rfl rfl rfl (by decide +kernel) ⟨Nat.le_of_ble_eq_true rfl, Nat.le_of_ble_eq_true rfl⟩) ⟨fun a U g mk q => by obtain ⟨q0, q1, qP, qK, qD⟩ := q; exact ⟨q0, q1, qP, va_K.moved (u := U) (U := U.calling g mk a) (Vm.Alike.refl U.vm) qK, qD⟩, va_recv hKc hPc (ci := 5) (q0 := 0) rfl rfl, fun U hU hW => ⟨rfl, by rw [hU], by rw [hU]; exact hPc, va_K.moved hW.alike hKc, zz_D hDc⟩⟩ rfl rfl hl.1 rfl (lv_room (Nat.le_of_ble_eq_true rfl)) dX5_feed_31 ⟨(Nat.le_of_ble_eq_true rfl), (Nat.le_of_ble_eq_true rfl)⟩) hS (fun q _ h => hFc q h) hFc (fun r_589 u_590 t H1 locs ht hvm hw hB hz1 hk1 hS1 => ?_)
        obtain ⟨hP1, hD1⟩ := hB
        rw [ht] at hP1
        obtain ⟨hP, hD⟩ := va_join (wr := [(ma 1, .inl (cI, 150, .inl (fun _ => 0))), (ma 2, .inl (cI, 150, .inl (fun _ => 0)))]) (w1 := [(ma 0, .inr (5, [.int 2, .ref (ma 1), .int 0, .ref (ma 2), .int 0, .int 3, .int 0, .int 0, .ref (ma 3), .ref (ma 4), .ref (ma 5), .ref (ma 6), .int 0, .int 0, .ref (ma 7), .int 0, .ref (ma 8), .int (-1), .ref (ma 9), .ref (ma 10), .ref (ma 11), .ref (ma 12), .ref (ma 13), .int 0, .int 0]))]) hP hD [0] [1, 2] rfl rfl (by decide) (by decide) hk1 hFc hP1 hD1
        have hS := hS1
        clear hS1
        generalize H1 = H at hP hS ht ⊢
        have hP : va_P (dC, dI) vwCl [(ma 1, .inl (cI, 150, .inl (fun _ => 0))), (ma 2, .inl (cI, 150, .inl (fun _ => 0))), (ma 0, .inr (5, [.int 2, .ref (ma 1), .int 0, .ref (ma 2), .int 0, .int 3, .int 0, .int 0, .ref (ma 3), .ref (ma 4), .ref (ma 5), .ref (ma 6), .int 0, .int 0, .ref (ma 7), .int 0, .ref (ma 8), .int (-1), .ref (ma 9), .ref (ma 10), .ref (ma 11), .ref (ma 12), .ref (ma 13), .int 0, .int 0]))] H := hP
        have hD : va_D A [(ma 1, .inl (cI, 150, .inl (fun _ => 0))), (ma 2, .inl (cI, 150, .inl (fun _ => 0))), (ma 0, .inr (5, [.int 2, .ref (ma 1), .int 0, .ref (ma 2), .int 0, .int 3, .int 0, .int 0, .ref (ma 3), .ref (ma 4), .ref (ma 5), .ref (ma 6), .int 0, .int 0, .ref (ma 7), .int 0, .ref (ma 8), .int (-1), .ref (ma 9), .ref (ma 10), .ref (ma 11), .ref (ma 12), .ref (ma 13), .int 0, .int 0]))] := hD
        obtain rfl : 0 = r_589 := (show r_589 = 0 from hw).symm
        have hP9 := hP.sub (ws' := [(ma 0, .inr (5, .int 2 :: ([.ref (ma 1), .int 0, .ref (ma 2), .int 0, .int 3, .int 0, .int 0, .ref (ma 3), .ref (ma 4), .ref (ma 5), .ref (ma 6), .int 0, .int 0, .ref (ma 7), .int 0, .ref (ma 8), .int (-1), .ref (ma 9), .ref (ma 10), .ref (ma 11), .ref (ma 12), .ref (ma 13), .int 0, .int 0])))]) [2] rfl
        have hD9 := hD.sub (ws' := [(ma 0, .inr (5, .int 2 :: ([.ref (ma 1), .int 0, .ref (ma 2), .int 0, .int 3, .int 0, .int 0, .ref (ma 3), .ref (ma 4), .ref (ma 5), .ref (ma 6), .int 0, .int 0, .ref (ma 7), .int 0, .ref (ma 8), .int (-1), .ref (ma 9), .ref (ma 10), .ref (ma 11), .ref (ma 12), .ref (ma 13), .int 0, .int 0])))]) [2] (by decide) rfl
        exact W.iret (v := 0) hx hb hr (fun t ht hW => ⟨⟨0, (2, [.ref (ma 1), .int 0, .ref (ma 2), .int 0, .int 3, .int 0, .int 0, .ref (ma 3), .ref (ma 4), .ref (ma 5), .ref (ma 6), .int 0, .int 0, .ref (ma 7), .int 0, .ref (ma 8), .int (-1), .ref (ma 9), .ref (ma 10), .ref (ma 11), .ref (ma 12), .ref (ma 13), .int 0, .int 0]), rfl, ⟨((if_pos (by decide)).trans (if_neg hn23)).symm, fun h => absurd (show (2 : Int32) = 0 from h) (by decide)⟩, ⟨by rw [ht]; exact hP9, hD9⟩⟩, hS.F ht⟩) hS.2.2 dX5_feed_34
  · skip
    subst hr9
    refine lv_if_ne (tgt := 18) hx hb dX5_feed_9 (by decide) (fun h => absurd h (by decide)) (fun c9 => ?_)
    refine lv_aload_n hx hb dX5_feed_12 rfl (lv_at hl 0 rfl) ?_
    refine lv_iconst (v := 1) hx hb dX5_feed_13 (by decide) ?_
    have hPc := hP.sub (ws' := [(ma 0, .inr (5, [.int 0, .ref (ma 1), .int 0, .ref (ma 2), .int 0, .int 3, .int 0, .int 0, .ref (ma 3), .ref (ma 4), .ref (ma 5), .ref (ma 6), .int 0, .int 0, .ref (ma 7), .int 0, .ref (ma 8), .int (-1), .ref (ma 9), .ref (ma 10), .ref (ma 11), .ref (ma 12), .ref (ma 13), .int 0, .int 0]))]) [0] rfl
    have hDc := hD.sub (ws' := [(ma 0, .inr (5, [.int 0, .ref (ma 1), .int 0, .ref (ma 2), .int 0, .int 3, .int 0, .int 0, .ref (ma 3), .ref (ma 4), .ref (ma 5), .ref (ma 6), .int 0, .int 0, .ref (ma 7), .int 0, .ref (ma 8), .int (-1), .ref (ma 9), .ref (ma 10), .ref (ma 11), .ref (ma 12), .ref (ma 13), .int 0, .int 0]))]) [0] (by decide) rfl
    have hFc := va_free (wc := [(ma 0, .inr (5, [.int 0, .ref (ma 1), .int 0, .ref (ma 2), .int 0, .int 3, .int 0, .int 0, .ref (ma 3), .ref (ma 4), .ref (ma 5), .ref (ma 6), .int 0, .int 0, .ref (ma 7), .int 0, .ref (ma 8), .int (-1), .ref (ma 9), .ref (ma 10), .ref (ma 11), .ref (ma 12), .ref (ma 13), .int 0, .int 0]))]) hD hS hA [0] rfl
    have hKc := hK.sub (tys' := []) [] rfl
    refine va_calli (va_runV (As := [.int 1]) (rest := []) ⟨hx, hb, hml, hown, hts⟩ (c_X5_no l dC dI ma 1 H.size) (cwV 1 hts gX5_feed_X5_no rfl rfl rfl (by decide +kernel) ⟨Nat.le_of_ble_eq_true rfl, Nat.le_of_ble_eq_true rfl⟩) ⟨fun a U g mk q => by obtain ⟨q0, q1, qP, qK, qD⟩ := q; exact ⟨q0, q1, qP, va_K.moved (u := U) (U := U.calling g mk a) (Vm.Alike.refl U.vm) qK, qD⟩, va_recv hKc hPc (ci := 5) (q0 := 0) rfl rfl, fun U hU hW => ⟨rfl, by rw [hU], by rw [hU]; exact hPc, va_K.moved hW.alike hKc, zz_D hDc⟩⟩ rfl rfl hl.1 rfl (lv_room (Nat.le_of_ble_eq_true rfl)) dX5_feed_14 ⟨(Nat.le_of_ble_eq_true rfl), (Nat.le_of_ble_eq_true rfl)⟩) hS (fun q _ h => hFc q h) hFc (fun r_591 u_592 t H1 locs ht hvm hw hB hz1 hk1 hS1 => ?_)
    obtain ⟨hP1, hD1⟩ := hB
    rw [ht] at hP1
    obtain ⟨hP, hD⟩ := va_join (wr := [(ma 1, .inl (cI, 150, .inl (fun _ => 0))), (ma 2, .inl (cI, 150, .inl (fun _ => 0)))]) (w1 := [(ma 0, .inr (5, [.int 1, .ref (ma 1), .int 0, .ref (ma 2), .int 0, .int 3, .int 0, .int 0, .ref (ma 3), .ref (ma 4), .ref (ma 5), .ref (ma 6), .int 0, .int 0, .ref (ma 7), .int 0, .ref (ma 8), .int (-1), .ref (ma 9), .ref (ma 10), .ref (ma 11), .ref (ma 12), .ref (ma 13), .int 0, .int 0]))]) hP hD [0] [1, 2] rfl rfl (by decide) (by decide) hk1 hFc hP1 hD1
    have hS := hS1
    clear hS1
    generalize H1 = H at hP hS ht ⊢
    have hP : va_P (dC, dI) vwCl [(ma 1, .inl (cI, 150, .inl (fun _ => 0))), (ma 2, .inl (cI, 150, .inl (fun _ => 0))), (ma 0, .inr (5, [.int 1, .ref (ma 1), .int 0, .ref (ma 2), .int 0, .int 3, .int 0, .int 0, .ref (ma 3), .ref (ma 4), .ref (ma 5), .ref (ma 6), .int 0, .int 0, .ref (ma 7), .int 0, .ref (ma 8), .int (-1), .ref (ma 9), .ref (ma 10), .ref (ma 11), .ref (ma 12), .ref (ma 13), .int 0, .int 0]))] H := hP
    have hD : va_D A [(ma 1, .inl (cI, 150, .inl (fun _ => 0))), (ma 2, .inl (cI, 150, .inl (fun _ => 0))), (ma 0, .inr (5, [.int 1, .ref (ma 1), .int 0, .ref (ma 2), .int 0, .int 3, .int 0, .int 0, .ref (ma 3), .ref (ma 4), .ref (ma 5), .ref (ma 6), .int 0, .int 0, .ref (ma 7), .int 0, .ref (ma 8), .int (-1), .ref (ma 9), .ref (ma 10), .ref (ma 11), .ref (ma 12), .ref (ma 13), .int 0, .int 0]))] := hD
    obtain rfl : 0 = r_591 := (show r_591 = 0 from hw).symm
    have hP9 := hP.sub (ws' := [(ma 0, .inr (5, .int 1 :: ([.ref (ma 1), .int 0, .ref (ma 2), .int 0, .int 3, .int 0, .int 0, .ref (ma 3), .ref (ma 4), .ref (ma 5), .ref (ma 6), .int 0, .int 0, .ref (ma 7), .int 0, .ref (ma 8), .int (-1), .ref (ma 9), .ref (ma 10), .ref (ma 11), .ref (ma 12), .ref (ma 13), .int 0, .int 0])))]) [2] rfl
    have hD9 := hD.sub (ws' := [(ma 0, .inr (5, .int 1 :: ([.ref (ma 1), .int 0, .ref (ma 2), .int 0, .int 3, .int 0, .int 0, .ref (ma 3), .ref (ma 4), .ref (ma 5), .ref (ma 6), .int 0, .int 0, .ref (ma 7), .int 0, .ref (ma 8), .int (-1), .ref (ma 9), .ref (ma 10), .ref (ma 11), .ref (ma 12), .ref (ma 13), .int 0, .int 0])))]) [2] (by decide) rfl
    exact W.iret (v := 0) hx hb hr (fun t ht hW => ⟨⟨0, (1, [.ref (ma 1), .int 0, .ref (ma 2), .int 0, .int 3, .int 0, .int 0, .ref (ma 3), .ref (ma 4), .ref (ma 5), .ref (ma 6), .int 0, .int 0, .ref (ma 7), .int 0, .ref (ma 8), .int (-1), .ref (ma 9), .ref (ma 10), .ref (ma 11), .ref (ma 12), .ref (ma 13), .int 0, .int 0]), rfl, ⟨(if_neg hn6).symm, fun h => absurd (show (1 : Int32) = 0 from h) (by decide)⟩, ⟨by rw [ht]; exact hP9, hD9⟩⟩, hS.F ht⟩) hS.2.2 dX5_feed_17
set_option maxHeartbeats 4000000 in
set_option maxRecDepth 100000 in
theorem lo_mfill0 {p : Program} {l : Launch} {e : Env} {s : State} {m : MethodId} {args : Array Value} {below : List Frame} {meth : Method} {c : Code} {Q : State → Prop} {A : Nat → Prop} (dC : Nat → ClassId) (dI : Nat → Nat → Nat) (cI : ClassId) (ma : Nat → Nat) (p0 : Int32) (p1 : Int32) (p2 : Int32) (M : Nat) (hM : M ≤ 150) (hx : p.tables.exec = Jvm.exec) (hb : c.code = cX5_fill) (hml : c.maxLocals = 6) (hown : s.vm.findClass RX5 = some m.cls) (hts : ∀ w ∈ wsX5_fill, w.before args s = true) (hA : ∀ q : Nat, s.heap.size ≤ q → A q) (hK : va_K (dC, dI) vwCl [(cI, .int)] s)
    (kk : ∀ (k : Nat) (x : Int32) (kg : Nat → Int32) (H : Heap) (locs : List Loc) (ls : Array Slot), va_P (dC, dI) vwCl [(ma 0, .inr (5, [.int 0, .ref (ma 1), .int 0, .ref (ma 2), .int 0, .int 3, .int 0, .int 0, .ref (ma 3), .ref (ma 4), .ref (ma 5), .ref (ma 6), .int 0, .int 0, .ref (ma 7), .int 0, .ref (ma 8), .int (-1), .ref (ma 9), .ref (ma 10), .ref (ma 11), .ref (ma 12), .ref (ma 13), .int 0, .int 0])), (ma 1, .inl (cI, 150, .inl kg))] H → va_D A [(ma 0, .inr (5, [.int 0, .ref (ma 1), .int 0, .ref (ma 2), .int 0, .int 3, .int 0, .int 0, .ref (ma 3), .ref (ma 4), .ref (ma 5), .ref (ma 6), .int 0, .int 0, .ref (ma 7), .int 0, .ref (ma 8), .int (-1), .ref (ma 9), .ref (ma 10), .ref (ma 11), .ref (ma 12), .ref (ma 13), .int 0, .int 0])), (ma 1, .inl (cI, 150, .inl kg))] → va_S A s.heap H locs → lv_has ls 6 [(5, .int x), (4, .int 0), (3, .int (nI M)), (2, .int p1), (1, .int 0), (0, .ref (ma 0))] → W p l e (headSpec wsX5_fill ({ frames := 1, cells := 0, slots := 0, locals := 22 })).room s m args below meth c H locs 0 0 Q (F0 m 96 ls []))
    : ∀ (j : Nat) (k : Nat) (x : Int32) (kg : Nat → Int32) (H : Heap) (locs : List Loc) (ls : Array Slot), M - k < j → (x = nI k) → (k ≤ M) → va_P (dC, dI) vwCl [(ma 0, .inr (5, [.int 0, .ref (ma 1), .int 0, .ref (ma 2), .int 0, .int 3, .int 0, .int 0, .ref (ma 3), .ref (ma 4), .ref (ma 5), .ref (ma 6), .int 0, .int 0, .ref (ma 7), .int 0, .ref (ma 8), .int (-1), .ref (ma 9), .ref (ma 10), .ref (ma 11), .ref (ma 12), .ref (ma 13), .int 0, .int 0])), (ma 1, .inl (cI, 150, .inl kg))] H → va_D A [(ma 0, .inr (5, [.int 0, .ref (ma 1), .int 0, .ref (ma 2), .int 0, .int 3, .int 0, .int 0, .ref (ma 3), .ref (ma 4), .ref (ma 5), .ref (ma 6), .int 0, .int 0, .ref (ma 7), .int 0, .ref (ma 8), .int (-1), .ref (ma 9), .ref (ma 10), .ref (ma 11), .ref (ma 12), .ref (ma 13), .int 0, .int 0])), (ma 1, .inl (cI, 150, .inl kg))] → va_S A s.heap H locs → lv_has ls 6 [(5, .int x), (4, .int 0), (3, .int (nI M)), (2, .int p1), (1, .int 0), (0, .ref (ma 0))] → W p l e (headSpec wsX5_fill ({ frames := 1, cells := 0, slots := 0, locals := 22 })).room s m args below meth c H locs 0 0 Q (F0 m 72 ls []) := by
  intro j
  induction j with
  | zero => intro k x kg H locs ls hj; omega
  | succ j ih =>
    intro k x kg H locs ls hj hx1 hkt hP hD hS hl
    refine lv_iload hx hb dX5_fill_72 (lv_at hl 0 rfl) ?_
    refine lv_iload_n hx hb dX5_fill_74 rfl (lv_at hl 2 rfl) ?_
    refine lv_icmp_ge (tgt := 96) hx hb dX5_fill_75 (by decide) (fun c75 => ?_) (fun c75 => ?_)
    · skip
      exact kk k x kg H locs ls  (hP.sub [0, 1] rfl) (hD.sub [0, 1] (by decide) rfl) hS (lv_sub hl [0, 1, 2, 3, 4, 5] rfl)
    · skip
      have hlt : k < M := Nat.lt_of_not_le (fun q => c75 (by rw [hx1]; exact nI_le q (by omega)))
      refine lv_aload_n hx hb dX5_fill_78 rfl (lv_at hl 5 rfl) ?_
      refine lv_iload_n hx hb dX5_fill_79 rfl (lv_at hl 4 rfl) ?_
      have hPc := hP.sub (ws' := [(ma 0, .inr (5, [.int 0, .ref (ma 1), .int 0, .ref (ma 2), .int 0, .int 3, .int 0, .int 0, .ref (ma 3), .ref (ma 4), .ref (ma 5), .ref (ma 6), .int 0, .int 0, .ref (ma 7), .int 0, .ref (ma 8), .int (-1), .ref (ma 9), .ref (ma 10), .ref (ma 11), .ref (ma 12), .ref (ma 13), .int 0, .int 0]))]) [0] rfl
      have hFc : ∀ q : Nat, H.size ≤ q → A q := fun q h => hA q (Nat.le_trans hS.1 h)
      have hKc := hK.sub (tys' := []) [] rfl
      refine va_callr (va_runV (As := [.int 0]) (rest := []) ⟨hx, hb, hml, hown, hts⟩ (c_X5_stringOf0 l dC dI ma H.size) (cwV 1 hts gX5_fill_X5_stringOf rfl rfl rfl (by decide +kernel) ⟨Nat.le_of_ble_eq_true rfl, Nat.le_of_ble_eq_true rfl⟩) ⟨fun a U g mk q => by obtain ⟨q0, q1, qP, qK, qD⟩ := q; exact ⟨q0, q1, qP, va_K.moved (u := U) (U := U.calling g mk a) (Vm.Alike.refl U.vm) qK, qD⟩, va_recv hKc hPc (ci := 5) (q0 := 0) rfl rfl, fun U hU hW => ⟨rfl, by rw [hU], by rw [hU]; exact hPc, va_K.moved hW.alike hKc, zz_D (hD.sub (ws' := [(ma 0, .inr (5, [.int 0, .ref (ma 1), .int 0, .ref (ma 2), .int 0, .int 3, .int 0, .int 0, .ref (ma 3), .ref (ma 4), .ref (ma 5), .ref (ma 6), .int 0, .int 0, .ref (ma 7), .int 0, .ref (ma 8), .int (-1), .ref (ma 9), .ref (ma 10), .ref (ma 11), .ref (ma 12), .ref (ma 13), .int 0, .int 0]))]) [0] (by decide) rfl)⟩⟩ rfl rfl hl.1 rfl (lv_room (Nat.le_of_ble_eq_true rfl)) dX5_fill_80 ⟨(Nat.le_of_ble_eq_true rfl), (Nat.le_of_ble_eq_true rfl)⟩) hS (fun q h1 h2 => absurd h1 (Nat.not_lt.mpr h2)) hFc (fun u_594 r_593 t H1 locs ht hvm hw hB hz1 hk1 hS1 => ?_)
      have hP := zz_keep hP hk1
      have hS := hS1
      clear hS1
      generalize H1 = H at hP hS ht ⊢
      have hP : va_P (dC, dI) vwCl [(ma 0, .inr (5, [.int 0, .ref (ma 1), .int 0, .ref (ma 2), .int 0, .int 3, .int 0, .int 0, .ref (ma 3), .ref (ma 4), .ref (ma 5), .ref (ma 6), .int 0, .int 0, .ref (ma 7), .int 0, .ref (ma 8), .int (-1), .ref (ma 9), .ref (ma 10), .ref (ma 11), .ref (ma 12), .ref (ma 13), .int 0, .int 0])), (ma 1, .inl (cI, 150, .inl kg))] H := hP
      obtain rfl : ma 1 = r_593 := (show r_593 = ma 1 from hB).symm
      refine lv_iload hx hb dX5_fill_83 (lv_at hl 1 rfl) ?_
      refine lv_iload hx hb dX5_fill_85 (lv_at hl 0 rfl) ?_
      refine lv_iadd hx hb dX5_fill_87 ?_
      refine lv_topi (fun x_595 ex_595 => ?_)
      obtain rfl : 0 + x = x_595 := ex_595.symm
      refine lv_iload_n hx hb dX5_fill_88 rfl (lv_at hl 3 rfl) ?_
      refine va_iast hx hb hK hP hD hS 1 0 rfl rfl (by rw [hx1, Int32.zero_add]; exact vp_in_nI (by omega) (by omega)) dX5_fill_89 (fun H locs hP hD hS => ?_)
      obtain ⟨f_596, ef_596⟩ : ∃ g, g = upd kg (0 + x : Int32).toNatClampNeg p1 := ⟨_, rfl⟩
      rw [← ef_596] at hP hD
      have hP : va_P (dC, dI) vwCl [(ma 0, .inr (5, [.int 0, .ref (ma 1), .int 0, .ref (ma 2), .int 0, .int 3, .int 0, .int 0, .ref (ma 3), .ref (ma 4), .ref (ma 5), .ref (ma 6), .int 0, .int 0, .ref (ma 7), .int 0, .ref (ma 8), .int (-1), .ref (ma 9), .ref (ma 10), .ref (ma 11), .ref (ma 12), .ref (ma 13), .int 0, .int 0])), (ma 1, .inl (cI, 150, .inl f_596))] H := hP
      have hD : va_D A [(ma 0, .inr (5, [.int 0, .ref (ma 1), .int 0, .ref (ma 2), .int 0, .int 3, .int 0, .int 0, .ref (ma 3), .ref (ma 4), .ref (ma 5), .ref (ma 6), .int 0, .int 0, .ref (ma 7), .int 0, .ref (ma 8), .int (-1), .ref (ma 9), .ref (ma 10), .ref (ma 11), .ref (ma 12), .ref (ma 13), .int 0, .int 0])), (ma 1, .inl (cI, 150, .inl f_596))] := hD
      obtain ⟨x_597, ex_597⟩ : ∃ y : Int32, y = x + 1 := ⟨_, rfl⟩
      refine lv_iinc (v := x_597) (lv' := [(5, .int x_597), (4, .int 0), (3, .int (nI M)), (2, .int p1), (1, .int 0), (0, .ref (ma 0))]) hx hb dX5_fill_90 hl (k := 0) rfl (by rw [ex_597]; rfl) (by decide) rfl (fun ls hl => ?_)
      refine lv_goto (tgt := 72) hx hb dX5_fill_93 (by decide) ?_
      exact ih (k + 1) x_597 f_596 H locs ls (by omega) (by rw [ex_597, hx1]; exact nI_1 k) (by omega) (hP.sub [0, 1] rfl) (hD.sub [0, 1] (by decide) rfl) hS (lv_sub hl [0, 1, 2, 3, 4, 5] rfl)
set_option maxHeartbeats 4000000 in
set_option maxRecDepth 100000 in
theorem lo_mfill1 {p : Program} {l : Launch} {e : Env} {s : State} {m : MethodId} {args : Array Value} {below : List Frame} {meth : Method} {c : Code} {Q : State → Prop} {A : Nat → Prop} (dC : Nat → ClassId) (dI : Nat → Nat → Nat) (cI : ClassId) (ma : Nat → Nat) (p0 : Int32) (p1 : Int32) (p2 : Int32) (M : Nat) (hM : M ≤ 150) (hx : p.tables.exec = Jvm.exec) (hb : c.code = cX5_fill) (hml : c.maxLocals = 6) (hown : s.vm.findClass RX5 = some m.cls) (hts : ∀ w ∈ wsX5_fill, w.before args s = true) (hA : ∀ q : Nat, s.heap.size ≤ q → A q) (hK : va_K (dC, dI) vwCl [(cI, .int)] s)
    (kk : ∀ (k : Nat) (x : Int32) (kg : Nat → Int32) (H : Heap) (locs : List Loc) (ls : Array Slot), va_P (dC, dI) vwCl [(ma 0, .inr (5, [.int 0, .ref (ma 1), .int 0, .ref (ma 2), .int 0, .int 3, .int 0, .int 0, .ref (ma 3), .ref (ma 4), .ref (ma 5), .ref (ma 6), .int 0, .int 0, .ref (ma 7), .int 0, .ref (ma 8), .int (-1), .ref (ma 9), .ref (ma 10), .ref (ma 11), .ref (ma 12), .ref (ma 13), .int 0, .int 0])), (ma 2, .inl (cI, 150, .inl kg))] H → va_D A [(ma 0, .inr (5, [.int 0, .ref (ma 1), .int 0, .ref (ma 2), .int 0, .int 3, .int 0, .int 0, .ref (ma 3), .ref (ma 4), .ref (ma 5), .ref (ma 6), .int 0, .int 0, .ref (ma 7), .int 0, .ref (ma 8), .int (-1), .ref (ma 9), .ref (ma 10), .ref (ma 11), .ref (ma 12), .ref (ma 13), .int 0, .int 0])), (ma 2, .inl (cI, 150, .inl kg))] → va_S A s.heap H locs → lv_has ls 6 [(5, .int x), (4, .int 0), (3, .int (nI M)), (2, .int p1), (1, .int 1), (0, .ref (ma 0))] → W p l e (headSpec wsX5_fill ({ frames := 1, cells := 0, slots := 0, locals := 22 })).room s m args below meth c H locs 0 0 Q (F0 m 96 ls []))
    : ∀ (j : Nat) (k : Nat) (x : Int32) (kg : Nat → Int32) (H : Heap) (locs : List Loc) (ls : Array Slot), M - k < j → (x = nI k) → (k ≤ M) → va_P (dC, dI) vwCl [(ma 0, .inr (5, [.int 0, .ref (ma 1), .int 0, .ref (ma 2), .int 0, .int 3, .int 0, .int 0, .ref (ma 3), .ref (ma 4), .ref (ma 5), .ref (ma 6), .int 0, .int 0, .ref (ma 7), .int 0, .ref (ma 8), .int (-1), .ref (ma 9), .ref (ma 10), .ref (ma 11), .ref (ma 12), .ref (ma 13), .int 0, .int 0])), (ma 2, .inl (cI, 150, .inl kg))] H → va_D A [(ma 0, .inr (5, [.int 0, .ref (ma 1), .int 0, .ref (ma 2), .int 0, .int 3, .int 0, .int 0, .ref (ma 3), .ref (ma 4), .ref (ma 5), .ref (ma 6), .int 0, .int 0, .ref (ma 7), .int 0, .ref (ma 8), .int (-1), .ref (ma 9), .ref (ma 10), .ref (ma 11), .ref (ma 12), .ref (ma 13), .int 0, .int 0])), (ma 2, .inl (cI, 150, .inl kg))] → va_S A s.heap H locs → lv_has ls 6 [(5, .int x), (4, .int 0), (3, .int (nI M)), (2, .int p1), (1, .int 1), (0, .ref (ma 0))] → W p l e (headSpec wsX5_fill ({ frames := 1, cells := 0, slots := 0, locals := 22 })).room s m args below meth c H locs 0 0 Q (F0 m 72 ls []) := by
  intro j
  induction j with
  | zero => intro k x kg H locs ls hj; omega
  | succ j ih =>
    intro k x kg H locs ls hj hx1 hkt hP hD hS hl
    refine lv_iload hx hb dX5_fill_72 (lv_at hl 0 rfl) ?_
    refine lv_iload_n hx hb dX5_fill_74 rfl (lv_at hl 2 rfl) ?_
    refine lv_icmp_ge (tgt := 96) hx hb dX5_fill_75 (by decide) (fun c75 => ?_) (fun c75 => ?_)
    · skip
      exact kk k x kg H locs ls  (hP.sub [0, 1] rfl) (hD.sub [0, 1] (by decide) rfl) hS (lv_sub hl [0, 1, 2, 3, 4, 5] rfl)
    · skip
      have hlt : k < M := Nat.lt_of_not_le (fun q => c75 (by rw [hx1]; exact nI_le q (by omega)))
      refine lv_aload_n hx hb dX5_fill_78 rfl (lv_at hl 5 rfl) ?_
      refine lv_iload_n hx hb dX5_fill_79 rfl (lv_at hl 4 rfl) ?_
      have hPc := hP.sub (ws' := [(ma 0, .inr (5, [.int 0, .ref (ma 1), .int 0, .ref (ma 2), .int 0, .int 3, .int 0, .int 0, .ref (ma 3), .ref (ma 4), .ref (ma 5), .ref (ma 6), .int 0, .int 0, .ref (ma 7), .int 0, .ref (ma 8), .int (-1), .ref (ma 9), .ref (ma 10), .ref (ma 11), .ref (ma 12), .ref (ma 13), .int 0, .int 0]))]) [0] rfl
      have hFc : ∀ q : Nat, H.size ≤ q → A q := fun q h => hA q (Nat.le_trans hS.1 h)
      have hKc := hK.sub (tys' := []) [] rfl
      refine va_callr (va_runV (As := [.int 1]) (rest := []) ⟨hx, hb, hml, hown, hts⟩ (c_X5_stringOf1 l dC dI ma H.size) (cwV 1 hts gX5_fill_X5_stringOf rfl rfl rfl (by decide +kernel) ⟨Nat.le_of_ble_eq_true rfl, Nat.le_of_ble_eq_true rfl⟩) ⟨fun a U g mk q => by obtain ⟨q0, q1, qP, qK, qD⟩ := q; exact ⟨q0, q1, qP, va_K.moved (u := U) (U := U.calling g mk a) (Vm.Alike.refl U.vm) qK, qD⟩, va_recv hKc hPc (ci := 5) (q0 := 0) rfl rfl, fun U hU hW => ⟨rfl, by rw [hU], by rw [hU]; exact hPc, va_K.moved hW.alike hKc, zz_D (hD.sub (ws' := [(ma 0, .inr (5, [.int 0, .ref (ma 1), .int 0, .ref (ma 2), .int 0, .int 3, .int 0, .int 0, .ref (ma 3), .ref (ma 4), .ref (ma 5), .ref (ma 6), .int 0, .int 0, .ref (ma 7), .int 0, .ref (ma 8), .int (-1), .ref (ma 9), .ref (ma 10), .ref (ma 11), .ref (ma 12), .ref (ma 13), .int 0, .int 0]))]) [0] (by decide) rfl)⟩⟩ rfl rfl hl.1 rfl (lv_room (Nat.le_of_ble_eq_true rfl)) dX5_fill_80 ⟨(Nat.le_of_ble_eq_true rfl), (Nat.le_of_ble_eq_true rfl)⟩) hS (fun q h1 h2 => absurd h1 (Nat.not_lt.mpr h2)) hFc (fun u_599 r_598 t H1 locs ht hvm hw hB hz1 hk1 hS1 => ?_)
      have hP := zz_keep hP hk1
      have hS := hS1
      clear hS1
      generalize H1 = H at hP hS ht ⊢
      have hP : va_P (dC, dI) vwCl [(ma 0, .inr (5, [.int 0, .ref (ma 1), .int 0, .ref (ma 2), .int 0, .int 3, .int 0, .int 0, .ref (ma 3), .ref (ma 4), .ref (ma 5), .ref (ma 6), .int 0, .int 0, .ref (ma 7), .int 0, .ref (ma 8), .int (-1), .ref (ma 9), .ref (ma 10), .ref (ma 11), .ref (ma 12), .ref (ma 13), .int 0, .int 0])), (ma 2, .inl (cI, 150, .inl kg))] H := hP
      obtain rfl : ma 2 = r_598 := (show r_598 = ma 2 from hB).symm
      refine lv_iload hx hb dX5_fill_83 (lv_at hl 1 rfl) ?_
      refine lv_iload hx hb dX5_fill_85 (lv_at hl 0 rfl) ?_
      refine lv_iadd hx hb dX5_fill_87 ?_
      refine lv_topi (fun x_600 ex_600 => ?_)
      obtain rfl : 0 + x = x_600 := ex_600.symm
      refine lv_iload_n hx hb dX5_fill_88 rfl (lv_at hl 3 rfl) ?_
      refine va_iast hx hb hK hP hD hS 1 0 rfl rfl (by rw [hx1, Int32.zero_add]; exact vp_in_nI (by omega) (by omega)) dX5_fill_89 (fun H locs hP hD hS => ?_)
      obtain ⟨f_601, ef_601⟩ : ∃ g, g = upd kg (0 + x : Int32).toNatClampNeg p1 := ⟨_, rfl⟩
      rw [← ef_601] at hP hD
      have hP : va_P (dC, dI) vwCl [(ma 0, .inr (5, [.int 0, .ref (ma 1), .int 0, .ref (ma 2), .int 0, .int 3, .int 0, .int 0, .ref (ma 3), .ref (ma 4), .ref (ma 5), .ref (ma 6), .int 0, .int 0, .ref (ma 7), .int 0, .ref (ma 8), .int (-1), .ref (ma 9), .ref (ma 10), .ref (ma 11), .ref (ma 12), .ref (ma 13), .int 0, .int 0])), (ma 2, .inl (cI, 150, .inl f_601))] H := hP
      have hD : va_D A [(ma 0, .inr (5, [.int 0, .ref (ma 1), .int 0, .ref (ma 2), .int 0, .int 3, .int 0, .int 0, .ref (ma 3), .ref (ma 4), .ref (ma 5), .ref (ma 6), .int 0, .int 0, .ref (ma 7), .int 0, .ref (ma 8), .int (-1), .ref (ma 9), .ref (ma 10), .ref (ma 11), .ref (ma 12), .ref (ma 13), .int 0, .int 0])), (ma 2, .inl (cI, 150, .inl f_601))] := hD
      obtain ⟨x_602, ex_602⟩ : ∃ y : Int32, y = x + 1 := ⟨_, rfl⟩
      refine lv_iinc (v := x_602) (lv' := [(5, .int x_602), (4, .int 0), (3, .int (nI M)), (2, .int p1), (1, .int 1), (0, .ref (ma 0))]) hx hb dX5_fill_90 hl (k := 0) rfl (by rw [ex_602]; rfl) (by decide) rfl (fun ls hl => ?_)
      refine lv_goto (tgt := 72) hx hb dX5_fill_93 (by decide) ?_
      exact ih (k + 1) x_602 f_601 H locs ls (by omega) (by rw [ex_602, hx1]; exact nI_1 k) (by omega) (hP.sub [0, 1] rfl) (hD.sub [0, 1] (by decide) rfl) hS (lv_sub hl [0, 1, 2, 3, 4, 5] rfl)
set_option maxHeartbeats 4000000 in
set_option maxRecDepth 100000 in
theorem c_X5_fill (l : Launch) (dC : Nat → ClassId) (dI : Nat → Nat → Nat) (cI : ClassId) (ma : Nat → Nat) (p0 : Int32) (p1 : Int32) (p2 : Int32) (sz : Nat) : Met l yX5_fill wsX5_fill ({ frames := 1, cells := 0, slots := 0, locals := 22 }) (va_Pc [.ref (ma 0), .int p0, .int p1, .int p2] (fun U => U.heap.size = sz ∧ va_P (dC, dI) vwCl (wm cI ma) U.heap ∧ va_K (dC, dI) vwCl [(cI, .int)] U ∧ va_D (fun _ => True) (wm cI ma))) (va_Qi (fun (r : Int32) (u9 : Int32 × List Value) => u9.1 = zf_fill p0 p1 p2 ∧ (u9.1 = 0 → r = p2)) (fun u9 t => va_P (dC, dI) vwCl [(ma 0, .inr (5, .int u9.1 :: u9.2))] t.heap ∧ va_D (va_A (wm cI ma) sz) [(ma 0, .inr (5, .int u9.1 :: u9.2))]) (va_A (wm cI ma) sz)) 0 0 (va_A (wm cI ma) sz) := by
  refine Met.ofW (cc := cX5_fill) (maxL := 6) (ret := (some .int)) (by decide) rfl ?_
  intro p e s m args below meth c s₁ B hml hv
  obtain ⟨rfl, hsz, hP, hK, hD0⟩ := hv
  have hx := B.exec
  have hb := B.bytes
  have hr := B.returns
  have hts := atoms_spec (ws := wsX5_fill) B.pre
  have hown : s.vm.findClass RX5 = some m.cls := findClass_of_methodNamed B.named
  have hlocks := B.notSynchronized
  subst hsz
  have hD := hD0.self (sz := s.heap.size)
  generalize hAe : va_A (wm cI ma) s.heap.size = A at hD ⊢
  have hA : ∀ q : Nat, s.heap.size ≤ q → A q := fun q h => by rw [← hAe]; exact Or.inr h
  have hS : va_S A s.heap s.heap [] := va_S.rf
  have hP := hP.sub (ws' := [(ma 0, .inr (5, [.int 0, .ref (ma 1), .int 0, .ref (ma 2), .int 0, .int 3, .int 0, .int 0, .ref (ma 3), .ref (ma 4), .ref (ma 5), .ref (ma 6), .int 0, .int 0, .ref (ma 7), .int 0, .ref (ma 8), .int (-1), .ref (ma 9), .ref (ma 10), .ref (ma 11), .ref (ma 12), .ref (ma 13), .int 0, .int 0])), (ma 1, .inl (cI, 150, .inl (fun _ => 0))), (ma 2, .inl (cI, 150, .inl (fun _ => 0)))]) [0, 1, 2] rfl
  have hD := hD.sub (ws' := [(ma 0, .inr (5, [.int 0, .ref (ma 1), .int 0, .ref (ma 2), .int 0, .int 3, .int 0, .int 0, .ref (ma 3), .ref (ma 4), .ref (ma 5), .ref (ma 6), .int 0, .int 0, .ref (ma 7), .int 0, .ref (ma 8), .int (-1), .ref (ma 9), .ref (ma 10), .ref (ma 11), .ref (ma 12), .ref (ma 13), .int 0, .int 0])), (ma 1, .inl (cI, 150, .inl (fun _ => 0))), (ma 2, .inl (cI, 150, .inl (fun _ => 0)))]) [0, 1, 2] (by decide) rfl
  have hl := lv_entry ([.ref (ma 0), .int p0, .int p1, .int p2]) (n := 6) (Nat.le_of_ble_eq_true rfl)
  rw [lg_entry_eq]
  generalize (lg_sl ([.ref (ma 0), .int p0, .int p1, .int p2]) ++ List.replicate (6 - (lg_sl ([.ref (ma 0), .int p0, .int p1, .int p2])).length) Slot.unset).toArray = ls at hl ⊢
  have hl : lv_has ls 6 [(0, .ref (ma 0)), (1, .int p0), (2, .int p1), (3, .int p2)] := hl
  refine lv_aload_n hx hb dX5_fill_0 rfl (lv_at hl 0 rfl) ?_
  refine lv_iconst (v := 0) hx hb dX5_fill_1 (by decide) ?_
  refine va_put (D := (dC, dI)) (ci := 5) (v := .int 0) (ty := .int) (C := RX5) (T := TX5) (N := 25) hx hb hts (by decide +kernel) tyX5 tyX5_ok nmX5 hown hK hP hD hS 0 rfl rfl 0 (by decide) (hts (.fieldLink RX5 56 "DeltaCodecModel" "thrown" "I") (by decide +kernel)) (fun _ h9 => h9) rfl (by decide +kernel) rfl rfl (Nat.le_of_ble_eq_true rfl) dX5_fill_2 (fun H locs hP hD hS => ?_)
  have hP : va_P (dC, dI) vwCl [(ma 0, .inr (5, [.int 0, .ref (ma 1), .int 0, .ref (ma 2), .int 0, .int 3, .int 0, .int 0, .ref (ma 3), .ref (ma 4), .ref (ma 5), .ref (ma 6), .int 0, .int 0, .ref (ma 7), .int 0, .ref (ma 8), .int (-1), .ref (ma 9), .ref (ma 10), .ref (ma 11), .ref (ma 12), .ref (ma 13), .int 0, .int 0])), (ma 1, .inl (cI, 150, .inl (fun _ => 0))), (ma 2, .inl (cI, 150, .inl (fun _ => 0)))] H := hP
  have hD : va_D A [(ma 0, .inr (5, [.int 0, .ref (ma 1), .int 0, .ref (ma 2), .int 0, .int 3, .int 0, .int 0, .ref (ma 3), .ref (ma 4), .ref (ma 5), .ref (ma 6), .int 0, .int 0, .ref (ma 7), .int 0, .ref (ma 8), .int (-1), .ref (ma 9), .ref (ma 10), .ref (ma 11), .ref (ma 12), .ref (ma 13), .int 0, .int 0])), (ma 1, .inl (cI, 150, .inl (fun _ => 0))), (ma 2, .inl (cI, 150, .inl (fun _ => 0)))] := hD
  refine lv_iload_n hx hb dX5_fill_5 rfl (lv_at hl 1 rfl) ?_
  have hPc := hP.sub (ws' := []) [] rfl
  have hFc : ∀ q : Nat, H.size ≤ q → A q := fun q h => hA q (Nat.le_trans hS.1 h)
  have hKc := hK.sub (tys' := []) [] rfl
  refine va_calli (va_runS (As := [.int p0]) (rest := []) ⟨hx, hb, hml, hown, hts⟩ (c_X5_isSide l dC dI p0 H.size) (va_cwS 1 hts gX5_fill_X5_isSide rfl rfl rfl (by decide +kernel) ⟨Nat.le_of_ble_eq_true rfl, Nat.le_of_ble_eq_true rfl⟩) ⟨fun a U g mk q => by obtain ⟨q0, q1, qP, qK, qD⟩ := q; exact ⟨q0, q1, qP, va_K.moved (u := U) (U := U.calling g mk a) (Vm.Alike.refl U.vm) qK, qD⟩, fun U hU hW => ⟨rfl, by rw [hU], by rw [hU]; exact hPc, va_K.moved hW.alike hKc, zz_D (hD.sub (ws' := []) [] (by decide) rfl)⟩⟩ rfl rfl hl.1 rfl (lv_room (Nat.le_of_ble_eq_true rfl)) dX5_fill_6 ⟨(Nat.le_of_ble_eq_true rfl), (Nat.le_of_ble_eq_true rfl)⟩) hS (fun q h1 h2 => absurd h1 (Nat.not_lt.mpr h2)) hFc (fun r_603 u_604 t H1 locs ht hvm hw hB hz1 hk1 hS1 => ?_)
  have hP := zz_keep hP hk1
  have hS := hS1
  clear hS1
  generalize H1 = H at hP hS ht ⊢
  have hP : va_P (dC, dI) vwCl [(ma 0, .inr (5, [.int 0, .ref (ma 1), .int 0, .ref (ma 2), .int 0, .int 3, .int 0, .int 0, .ref (ma 3), .ref (ma 4), .ref (ma 5), .ref (ma 6), .int 0, .int 0, .ref (ma 7), .int 0, .ref (ma 8), .int (-1), .ref (ma 9), .ref (ma 10), .ref (ma 11), .ref (ma 12), .ref (ma 13), .int 0, .int 0])), (ma 1, .inl (cI, 150, .inl (fun _ => 0))), (ma 2, .inl (cI, 150, .inl (fun _ => 0)))] H := hP
  have w6 := hw
  rcases w6 with ⟨hr9, hp6⟩ | ⟨hr9, hn6⟩
  · skip
    subst hr9
    rcases (show p0 = 0 ∨ p0 = 1 from hp6) with rfl | rfl
    · skip
      refine lv_if_ne (tgt := 18) hx hb dX5_fill_9 (by decide) (fun c9 => ?_) (fun h => absurd h (by decide))
      refine lv_iload_n hx hb dX5_fill_18 rfl (lv_at hl 2 rfl) ?_
      refine lv_iconst (v := 0) hx hb dX5_fill_19 (by decide) ?_
      refine lv_sipush (v := 255) hx hb dX5_fill_20 (by decide) ?_
      have hPc := hP.sub (ws' := []) [] rfl
      have hFc : ∀ q : Nat, H.size ≤ q → A q := fun q h => hA q (Nat.le_trans hS.1 h)
      have hKc := hK.sub (tys' := []) [] rfl
      refine va_calli (va_runS (As := [.int p1, .int 0, .int 255]) (rest := []) ⟨hx, hb, hml, hown, hts⟩ (c_X5_isIn l dC dI p1 0 255 H.size) (va_cwS 3 hts gX5_fill_X5_isIn rfl rfl rfl (by decide +kernel) ⟨Nat.le_of_ble_eq_true rfl, Nat.le_of_ble_eq_true rfl⟩) ⟨fun a U g mk q => by obtain ⟨q0, q1, qP, qK, qD⟩ := q; exact ⟨q0, q1, qP, va_K.moved (u := U) (U := U.calling g mk a) (Vm.Alike.refl U.vm) qK, qD⟩, fun U hU hW => ⟨rfl, by rw [hU], by rw [hU]; exact hPc, va_K.moved hW.alike hKc, zz_D (hD.sub (ws' := []) [] (by decide) rfl)⟩⟩ rfl rfl hl.1 rfl (lv_room (Nat.le_of_ble_eq_true rfl)) dX5_fill_23 ⟨(Nat.le_of_ble_eq_true rfl), (Nat.le_of_ble_eq_true rfl)⟩) hS (fun q h1 h2 => absurd h1 (Nat.not_lt.mpr h2)) hFc (fun r_605 u_606 t H1 locs ht hvm hw hB hz1 hk1 hS1 => ?_)
      have hP := zz_keep hP hk1
      have hS := hS1
      clear hS1
      generalize H1 = H at hP hS ht ⊢
      have hP : va_P (dC, dI) vwCl [(ma 0, .inr (5, [.int 0, .ref (ma 1), .int 0, .ref (ma 2), .int 0, .int 3, .int 0, .int 0, .ref (ma 3), .ref (ma 4), .ref (ma 5), .ref (ma 6), .int 0, .int 0, .ref (ma 7), .int 0, .ref (ma 8), .int (-1), .ref (ma 9), .ref (ma 10), .ref (ma 11), .ref (ma 12), .ref (ma 13), .int 0, .int 0])), (ma 1, .inl (cI, 150, .inl (fun _ => 0))), (ma 2, .inl (cI, 150, .inl (fun _ => 0)))] H := hP
      have w23 := hw
      rcases w23 with ⟨hr9, hp23⟩ | ⟨hr9, hn23⟩
      · skip
        subst hr9
        refine lv_if_eq (tgt := 40) hx hb dX5_fill_26 (by decide) (fun h => absurd h (by decide)) (fun c26 => ?_)
        refine lv_iload_n hx hb dX5_fill_29 rfl (lv_at hl 3 rfl) ?_
        refine lv_iconst (v := 1) hx hb dX5_fill_30 (by decide) ?_
        refine lv_sipush (v := 150) hx hb dX5_fill_31 (by decide) ?_
        have hPc := hP.sub (ws' := []) [] rfl
        have hFc : ∀ q : Nat, H.size ≤ q → A q := fun q h => hA q (Nat.le_trans hS.1 h)
        have hKc := hK.sub (tys' := []) [] rfl
        refine va_calli (va_runS (As := [.int p2, .int 1, .int 150]) (rest := []) ⟨hx, hb, hml, hown, hts⟩ (c_X5_isIn l dC dI p2 1 150 H.size) (va_cwS 3 hts gX5_fill_X5_isIn rfl rfl rfl (by decide +kernel) ⟨Nat.le_of_ble_eq_true rfl, Nat.le_of_ble_eq_true rfl⟩) ⟨fun a U g mk q => by obtain ⟨q0, q1, qP, qK, qD⟩ := q; exact ⟨q0, q1, qP, va_K.moved (u := U) (U := U.calling g mk a) (Vm.Alike.refl U.vm) qK, qD⟩, fun U hU hW => ⟨rfl, by rw [hU], by rw [hU]; exact hPc, va_K.moved hW.alike hKc, zz_D (hD.sub (ws' := []) [] (by decide) rfl)⟩⟩ rfl rfl hl.1 rfl (lv_room (Nat.le_of_ble_eq_true rfl)) dX5_fill_34 ⟨(Nat.le_of_ble_eq_true rfl), (Nat.le_of_ble_eq_true rfl)⟩) hS (fun q h1 h2 => absurd h1 (Nat.not_lt.mpr h2)) hFc (fun r_607 u_608 t H1 locs ht hvm hw hB hz1 hk1 hS1 => ?_)
        have hP := zz_keep hP hk1
        have hS := hS1
        clear hS1
        generalize H1 = H at hP hS ht ⊢
        have hP : va_P (dC, dI) vwCl [(ma 0, .inr (5, [.int 0, .ref (ma 1), .int 0, .ref (ma 2), .int 0, .int 3, .int 0, .int 0, .ref (ma 3), .ref (ma 4), .ref (ma 5), .ref (ma 6), .int 0, .int 0, .ref (ma 7), .int 0, .ref (ma 8), .int (-1), .ref (ma 9), .ref (ma 10), .ref (ma 11), .ref (ma 12), .ref (ma 13), .int 0, .int 0])), (ma 1, .inl (cI, 150, .inl (fun _ => 0))), (ma 2, .inl (cI, 150, .inl (fun _ => 0)))] H := hP
        have w34 := hw
        rcases w34 with ⟨hr9, hp34⟩ | ⟨hr9, hn34⟩
        · skip
          subst hr9
          refine lv_if_ne (tgt := 46) hx hb dX5_fill_37 (by decide) (fun c37 => ?_) (fun h => absurd h (by decide))
          obtain ⟨M, hM, hM2⟩ := zz_nat (M := 150) (n := 150) (by decide) hp34
          subst hM2
          refine lv_aload_n hx hb dX5_fill_46 rfl (lv_at hl 0 rfl) ?_
          refine lv_iload_n hx hb dX5_fill_47 rfl (lv_at hl 1 rfl) ?_
          have hPc := hP.sub (ws' := [(ma 0, .inr (5, [.int 0, .ref (ma 1), .int 0, .ref (ma 2), .int 0, .int 3, .int 0, .int 0, .ref (ma 3), .ref (ma 4), .ref (ma 5), .ref (ma 6), .int 0, .int 0, .ref (ma 7), .int 0, .ref (ma 8), .int (-1), .ref (ma 9), .ref (ma 10), .ref (ma 11), .ref (ma 12), .ref (ma 13), .int 0, .int 0]))]) [0] rfl
          have hFc : ∀ q : Nat, H.size ≤ q → A q := fun q h => hA q (Nat.le_trans hS.1 h)
          have hKc := hK.sub (tys' := []) [] rfl
          refine va_calli (va_runV (As := [.int 0]) (rest := []) ⟨hx, hb, hml, hown, hts⟩ (c_X5_sizeOfB0 l dC dI ma 0 H.size) (cwV 1 hts gX5_fill_X5_sizeOf rfl rfl rfl (by decide +kernel) ⟨Nat.le_of_ble_eq_true rfl, Nat.le_of_ble_eq_true rfl⟩) ⟨fun a U g mk q => by obtain ⟨q0, q1, qP, qK, qD⟩ := q; exact ⟨q0, q1, qP, va_K.moved (u := U) (U := U.calling g mk a) (Vm.Alike.refl U.vm) qK, qD⟩, va_recv hKc hPc (ci := 5) (q0 := 0) rfl rfl, fun U hU hW => ⟨rfl, by rw [hU], by rw [hU]; exact hPc, va_K.moved hW.alike hKc, zz_D (hD.sub (ws' := [(ma 0, .inr (5, [.int 0, .ref (ma 1), .int 0, .ref (ma 2), .int 0, .int 3, .int 0, .int 0, .ref (ma 3), .ref (ma 4), .ref (ma 5), .ref (ma 6), .int 0, .int 0, .ref (ma 7), .int 0, .ref (ma 8), .int (-1), .ref (ma 9), .ref (ma 10), .ref (ma 11), .ref (ma 12), .ref (ma 13), .int 0, .int 0]))]) [0] (by decide) rfl)⟩⟩ rfl rfl hl.1 rfl (lv_room (Nat.le_of_ble_eq_true rfl)) dX5_fill_48 ⟨(Nat.le_of_ble_eq_true rfl), (Nat.le_of_ble_eq_true rfl)⟩) hS (fun q h1 h2 => absurd h1 (Nat.not_lt.mpr h2)) hFc (fun r_609 u_610 t H1 locs ht hvm hw hB hz1 hk1 hS1 => ?_)
          have hP := zz_keep hP hk1
          have hS := hS1
          clear hS1
          generalize H1 = H at hP hS ht ⊢
          have hP : va_P (dC, dI) vwCl [(ma 0, .inr (5, [.int 0, .ref (ma 1), .int 0, .ref (ma 2), .int 0, .int 3, .int 0, .int 0, .ref (ma 3), .ref (ma 4), .ref (ma 5), .ref (ma 6), .int 0, .int 0, .ref (ma 7), .int 0, .ref (ma 8), .int (-1), .ref (ma 9), .ref (ma 10), .ref (ma 11), .ref (ma 12), .ref (ma 13), .int 0, .int 0])), (ma 1, .inl (cI, 150, .inl (fun _ => 0))), (ma 2, .inl (cI, 150, .inl (fun _ => 0)))] H := hP
          obtain rfl : 0 = r_609 := (show r_609 = 0 from hw).symm
          refine lv_istore (lv' := [(4, .int 0), (0, .ref (ma 0)), (1, .int 0), (2, .int p1), (3, .int (nI M))]) hx hb dX5_fill_51 hl (by decide) rfl (fun ls hl => ?_)
          refine lv_iload hx hb dX5_fill_53 (lv_at hl 0 rfl) ?_
          refine lv_iload_n hx hb dX5_fill_55 rfl (lv_at hl 4 rfl) ?_
          refine lv_iadd hx hb dX5_fill_56 ?_
          refine lv_topi (fun x_611 ex_611 => ?_)
          obtain rfl : 0 + nI M = x_611 := ex_611.symm
          refine lv_sipush (v := 150) hx hb dX5_fill_57 (by decide) ?_
          refine lv_icmp_le (tgt := 69) hx hb dX5_fill_60 (by decide) (fun c60 => ?_) (fun h => absurd (zz_le150 hM) h)
          refine lv_iconst (v := 0) hx hb dX5_fill_69 (by decide) ?_
          refine lv_istore (lv' := [(5, .int 0), (4, .int 0), (0, .ref (ma 0)), (1, .int 0), (2, .int p1), (3, .int (nI M))]) hx hb dX5_fill_70 hl (by decide) rfl (fun ls hl => ?_)
          refine lo_mfill0 dC dI cI ma 0 p1 (nI M) M hM hx hb hml hown hts hA hK ?_ (M + 1) 0 0 (fun _ => 0) _ _ ls (by omega) nI_0.symm (by omega) (hP.sub [0, 1] rfl) (hD.sub [0, 1] (by decide) rfl) hS (lv_sub hl [0, 1, 5, 4, 3, 2] rfl)
          intro k x kg H locs ls hP hD hS hl
          refine lv_aload_n hx hb dX5_fill_96 rfl (lv_at hl 5 rfl) ?_
          refine lv_iload_n hx hb dX5_fill_97 rfl (lv_at hl 4 rfl) ?_
          refine lv_iload hx hb dX5_fill_98 (lv_at hl 1 rfl) ?_
          refine lv_iload_n hx hb dX5_fill_100 rfl (lv_at hl 2 rfl) ?_
          refine lv_iadd hx hb dX5_fill_101 ?_
          refine lv_topi (fun x_612 ex_612 => ?_)
          obtain rfl : 0 + nI M = x_612 := ex_612.symm
          have hPc := hP.sub (ws' := [(ma 0, .inr (5, [.int 0, .ref (ma 1), .int 0, .ref (ma 2), .int 0, .int 3, .int 0, .int 0, .ref (ma 3), .ref (ma 4), .ref (ma 5), .ref (ma 6), .int 0, .int 0, .ref (ma 7), .int 0, .ref (ma 8), .int (-1), .ref (ma 9), .ref (ma 10), .ref (ma 11), .ref (ma 12), .ref (ma 13), .int 0, .int 0]))]) [0] rfl
          have hDc := hD.sub (ws' := [(ma 0, .inr (5, [.int 0, .ref (ma 1), .int 0, .ref (ma 2), .int 0, .int 3, .int 0, .int 0, .ref (ma 3), .ref (ma 4), .ref (ma 5), .ref (ma 6), .int 0, .int 0, .ref (ma 7), .int 0, .ref (ma 8), .int (-1), .ref (ma 9), .ref (ma 10), .ref (ma 11), .ref (ma 12), .ref (ma 13), .int 0, .int 0]))]) [0] (by decide) rfl
          have hFc := va_free (wc := [(ma 0, .inr (5, [.int 0, .ref (ma 1), .int 0, .ref (ma 2), .int 0, .int 3, .int 0, .int 0, .ref (ma 3), .ref (ma 4), .ref (ma 5), .ref (ma 6), .int 0, .int 0, .ref (ma 7), .int 0, .ref (ma 8), .int (-1), .ref (ma 9), .ref (ma 10), .ref (ma 11), .ref (ma 12), .ref (ma 13), .int 0, .int 0]))]) hD hS hA [0] rfl
          have hKc := hK.sub (tys' := []) [] rfl
          refine va_callv (va_runV (As := [.int 0, .int (0 + nI M)]) (rest := []) ⟨hx, hb, hml, hown, hts⟩ (c_X5_setSize0 l dC dI ma (0 + nI M) H.size) (cwV 2 hts gX5_fill_X5_setSize rfl rfl rfl (by decide +kernel) ⟨Nat.le_of_ble_eq_true rfl, Nat.le_of_ble_eq_true rfl⟩) ⟨fun a U g mk q => by obtain ⟨q0, q1, qP, qK, qD⟩ := q; exact ⟨q0, q1, qP, va_K.moved (u := U) (U := U.calling g mk a) (Vm.Alike.refl U.vm) qK, qD⟩, va_recv hKc hPc (ci := 5) (q0 := 0) rfl rfl, fun U hU hW => ⟨rfl, by rw [hU], by rw [hU]; exact hPc, va_K.moved hW.alike hKc, zz_D hDc⟩⟩ rfl rfl hl.1 rfl (lv_room (Nat.le_of_ble_eq_true rfl)) dX5_fill_102 ⟨(Nat.le_of_ble_eq_true rfl), (Nat.le_of_ble_eq_true rfl)⟩) hS (fun q _ h => hFc q h) hFc (fun u_614 t H1 locs ht hvm hw hB hz1 hk1 hS1 => ?_)
          obtain ⟨hP1, hD1⟩ := hB
          rw [ht] at hP1
          obtain ⟨hP, hD⟩ := va_join (wr := [(ma 1, .inl (cI, 150, .inl kg))]) (w1 := [(ma 0, .inr (5, [.int 0, .ref (ma 1), .int (0 + nI M), .ref (ma 2), .int 0, .int 3, .int 0, .int 0, .ref (ma 3), .ref (ma 4), .ref (ma 5), .ref (ma 6), .int 0, .int 0, .ref (ma 7), .int 0, .ref (ma 8), .int (-1), .ref (ma 9), .ref (ma 10), .ref (ma 11), .ref (ma 12), .ref (ma 13), .int 0, .int 0]))]) hP hD [0] [1] rfl rfl (by decide) (by decide) hk1 hFc hP1 hD1
          have hS := hS1
          clear hS1
          generalize H1 = H at hP hS ht ⊢
          have hP : va_P (dC, dI) vwCl [(ma 1, .inl (cI, 150, .inl kg)), (ma 0, .inr (5, [.int 0, .ref (ma 1), .int (0 + nI M), .ref (ma 2), .int 0, .int 3, .int 0, .int 0, .ref (ma 3), .ref (ma 4), .ref (ma 5), .ref (ma 6), .int 0, .int 0, .ref (ma 7), .int 0, .ref (ma 8), .int (-1), .ref (ma 9), .ref (ma 10), .ref (ma 11), .ref (ma 12), .ref (ma 13), .int 0, .int 0]))] H := hP
          have hD : va_D A [(ma 1, .inl (cI, 150, .inl kg)), (ma 0, .inr (5, [.int 0, .ref (ma 1), .int (0 + nI M), .ref (ma 2), .int 0, .int 3, .int 0, .int 0, .ref (ma 3), .ref (ma 4), .ref (ma 5), .ref (ma 6), .int 0, .int 0, .ref (ma 7), .int 0, .ref (ma 8), .int (-1), .ref (ma 9), .ref (ma 10), .ref (ma 11), .ref (ma 12), .ref (ma 13), .int 0, .int 0]))] := hD
          have w102 := hw
          refine lv_iload hx hb dX5_fill_105 (lv_at hl 1 rfl) ?_
          refine lv_iload_n hx hb dX5_fill_107 rfl (lv_at hl 2 rfl) ?_
          refine lv_iadd hx hb dX5_fill_108 ?_
          refine lv_topi (fun x_615 ex_615 => ?_)
          obtain rfl : 0 + nI M = x_615 := ex_615.symm
          have hP9 := hP.sub (ws' := [(ma 0, .inr (5, .int 0 :: ([.ref (ma 1), .int (0 + nI M), .ref (ma 2), .int 0, .int 3, .int 0, .int 0, .ref (ma 3), .ref (ma 4), .ref (ma 5), .ref (ma 6), .int 0, .int 0, .ref (ma 7), .int 0, .ref (ma 8), .int (-1), .ref (ma 9), .ref (ma 10), .ref (ma 11), .ref (ma 12), .ref (ma 13), .int 0, .int 0])))]) [1] rfl
          have hD9 := hD.sub (ws' := [(ma 0, .inr (5, .int 0 :: ([.ref (ma 1), .int (0 + nI M), .ref (ma 2), .int 0, .int 3, .int 0, .int 0, .ref (ma 3), .ref (ma 4), .ref (ma 5), .ref (ma 6), .int 0, .int 0, .ref (ma 7), .int 0, .ref (ma 8), .int (-1), .ref (ma 9), .ref (ma 10), .ref (ma 11), .ref (ma 12), .ref (ma 13), .int 0, .int 0])))]) [1] (by decide) rfl
          exact W.iret (v := 0 + nI M) hx hb hr (fun t ht hW => ⟨⟨0 + nI M, (0, [.ref (ma 1), .int (0 + nI M), .ref (ma 2), .int 0, .int 3, .int 0, .int 0, .ref (ma 3), .ref (ma 4), .ref (ma 5), .ref (ma 6), .int 0, .int 0, .ref (ma 7), .int 0, .ref (ma 8), .int (-1), .ref (ma 9), .ref (ma 10), .ref (ma 11), .ref (ma 12), .ref (ma 13), .int 0, .int 0]), rfl, ⟨((if_pos (by decide)).trans ((if_pos hp23).trans (if_pos hp34))).symm, fun _ => Int32.zero_add _⟩, ⟨by rw [ht]; exact hP9, hD9⟩⟩, hS.F ht⟩) hS.2.2 dX5_fill_109
        · skip
          subst hr9
          refine lv_if_ne (tgt := 46) hx hb dX5_fill_37 (by decide) (fun h => absurd h (by decide)) (fun c37 => ?_)
          refine lv_aload_n hx hb dX5_fill_40 rfl (lv_at hl 0 rfl) ?_
          refine lv_iconst (v := 2) hx hb dX5_fill_41 (by decide) ?_
          have hPc := hP.sub (ws' := [(ma 0, .inr (5, [.int 0, .ref (ma 1), .int 0, .ref (ma 2), .int 0, .int 3, .int 0, .int 0, .ref (ma 3), .ref (ma 4), .ref (ma 5), .ref (ma 6), .int 0, .int 0, .ref (ma 7), .int 0, .ref (ma 8), .int (-1), .ref (ma 9), .ref (ma 10), .ref (ma 11), .ref (ma 12), .ref (ma 13), .int 0, .int 0]))]) [0] rfl
          have hDc := hD.sub (ws' := [(ma 0, .inr (5, [.int 0, .ref (ma 1), .int 0, .ref (ma 2), .int 0, .int 3, .int 0, .int 0, .ref (ma 3), .ref (ma 4), .ref (ma 5), .ref (ma 6), .int 0, .int 0, .ref (ma 7), .int 0, .ref (ma 8), .int (-1), .ref (ma 9), .ref (ma 10), .ref (ma 11), .ref (ma 12), .ref (ma 13), .int 0, .int 0]))]) [0] (by decide) rfl
          have hFc := va_free (wc := [(ma 0, .inr (5, [.int 0, .ref (ma 1), .int 0, .ref (ma 2), .int 0, .int 3, .int 0, .int 0, .ref (ma 3), .ref (ma 4), .ref (ma 5), .ref (ma 6), .int 0, .int 0, .ref (ma 7), .int 0, .ref (ma 8), .int (-1), .ref (ma 9), .ref (ma 10), .ref (ma 11), .ref (ma 12), .ref (ma 13), .int 0, .int 0]))]) hD hS hA [0] rfl
          have hKc := hK.sub (tys' := []) [] rfl
          refine va_calli (va_runV (As := [.int 2]) (rest := []) ⟨hx, hb, hml, hown, hts⟩ (c_X5_no l dC dI ma 2 H.size) (cwV 1 hts gX5_fill_X5_no rfl rfl rfl (by decide +kernel) ⟨Nat.le_of_ble_eq_true rfl, Nat.le_of_ble_eq_true rfl⟩) ⟨fun a U g mk q => by obtain ⟨q0, q1, qP, qK, qD⟩ := q; exact ⟨q0, q1, qP, va_K.moved (u := U) (U := U.calling g mk a) (Vm.Alike.refl U.vm) qK, qD⟩, va_recv hKc hPc (ci := 5) (q0 := 0) rfl rfl, fun U hU hW => ⟨rfl, by rw [hU], by rw [hU]; exact hPc, va_K.moved hW.alike hKc, zz_D hDc⟩⟩ rfl rfl hl.1 rfl (lv_room (Nat.le_of_ble_eq_true rfl)) dX5_fill_42 ⟨(Nat.le_of_ble_eq_true rfl), (Nat.le_of_ble_eq_true rfl)⟩) hS (fun q _ h => hFc q h) hFc (fun r_616 u_617 t H1 locs ht hvm hw hB hz1 hk1 hS1 => ?_)
          obtain ⟨hP1, hD1⟩ := hB
          rw [ht] at hP1
          obtain ⟨hP, hD⟩ := va_join (wr := [(ma 1, .inl (cI, 150, .inl (fun _ => 0))), (ma 2, .inl (cI, 150, .inl (fun _ => 0)))]) (w1 := [(ma 0, .inr (5, [.int 2, .ref (ma 1), .int 0, .ref (ma 2), .int 0, .int 3, .int 0, .int 0, .ref (ma 3), .ref (ma 4), .ref (ma 5), .ref (ma 6), .int 0, .int 0, .ref (ma 7), .int 0, .ref (ma 8), .int (-1), .ref (ma 9), .ref (ma 10), .ref (ma 11), .ref (ma 12), .ref (ma 13), .int 0, .int 0]))]) hP hD [0] [1, 2] rfl rfl (by decide) (by decide) hk1 hFc hP1 hD1
          have hS := hS1
          clear hS1
          generalize H1 = H at hP hS ht ⊢
          have hP : va_P (dC, dI) vwCl [(ma 1, .inl (cI, 150, .inl (fun _ => 0))), (ma 2, .inl (cI, 150, .inl (fun _ => 0))), (ma 0, .inr (5, [.int 2, .ref (ma 1), .int 0, .ref (ma 2), .int 0, .int 3, .int 0, .int 0, .ref (ma 3), .ref (ma 4), .ref (ma 5), .ref (ma 6), .int 0, .int 0, .ref (ma 7), .int 0, .ref (ma 8), .int (-1), .ref (ma 9), .ref (ma 10), .ref (ma 11), .ref (ma 12), .ref (ma 13), .int 0, .int 0]))] H := hP
          have hD : va_D A [(ma 1, .inl (cI, 150, .inl (fun _ => 0))), (ma 2, .inl (cI, 150, .inl (fun _ => 0))), (ma 0, .inr (5, [.int 2, .ref (ma 1), .int 0, .ref (ma 2), .int 0, .int 3, .int 0, .int 0, .ref (ma 3), .ref (ma 4), .ref (ma 5), .ref (ma 6), .int 0, .int 0, .ref (ma 7), .int 0, .ref (ma 8), .int (-1), .ref (ma 9), .ref (ma 10), .ref (ma 11), .ref (ma 12), .ref (ma 13), .int 0, .int 0]))] := hD
          obtain rfl : 0 = r_616 := (show r_616 = 0 from hw).symm
          have hP9 := hP.sub (ws' := [(ma 0, .inr (5, .int 2 :: ([.ref (ma 1), .int 0, .ref (ma 2), .int 0, .int 3, .int 0, .int 0, .ref (ma 3), .ref (ma 4), .ref (ma 5), .ref (ma 6), .int 0, .int 0, .ref (ma 7), .int 0, .ref (ma 8), .int (-1), .ref (ma 9), .ref (ma 10), .ref (ma 11), .ref (ma 12), .ref (ma 13), .int 0, .int 0])))]) [2] rfl
          have hD9 := hD.sub (ws' := [(ma 0, .inr (5, .int 2 :: ([.ref (ma 1), .int 0, .ref (ma 2), .int 0, .int 3, .int 0, .int 0, .ref (ma 3), .ref (ma 4), .ref (ma 5), .ref (ma 6), .int 0, .int 0, .ref (ma 7), .int 0, .ref (ma 8), .int (-1), .ref (ma 9), .ref (ma 10), .ref (ma 11), .ref (ma 12), .ref (ma 13), .int 0, .int 0])))]) [2] (by decide) rfl
          exact W.iret (v := 0) hx hb hr (fun t ht hW => ⟨⟨0, (2, [.ref (ma 1), .int 0, .ref (ma 2), .int 0, .int 3, .int 0, .int 0, .ref (ma 3), .ref (ma 4), .ref (ma 5), .ref (ma 6), .int 0, .int 0, .ref (ma 7), .int 0, .ref (ma 8), .int (-1), .ref (ma 9), .ref (ma 10), .ref (ma 11), .ref (ma 12), .ref (ma 13), .int 0, .int 0]), rfl, ⟨by first | exact ((if_pos (by decide)).trans (if_neg hn23)).symm | exact ((if_pos (by decide)).trans ((if_pos hp23).trans (if_neg hn34))).symm, fun h => absurd (show (2 : Int32) = 0 from h) (by decide)⟩, ⟨by rw [ht]; exact hP9, hD9⟩⟩, hS.F ht⟩) hS.2.2 dX5_fill_45
      · skip
        subst hr9
        refine lv_if_eq (tgt := 40) hx hb dX5_fill_26 (by decide) (fun c26 => ?_) (fun h => absurd h (by decide))
        refine lv_aload_n hx hb dX5_fill_40 rfl (lv_at hl 0 rfl) ?_
        refine lv_iconst (v := 2) hx hb dX5_fill_41 (by decide) ?_
        have hPc := hP.sub (ws' := [(ma 0, .inr (5, [.int 0, .ref (ma 1), .int 0, .ref (ma 2), .int 0, .int 3, .int 0, .int 0, .ref (ma 3), .ref (ma 4), .ref (ma 5), .ref (ma 6), .int 0, .int 0, .ref (ma 7), .int 0, .ref (ma 8), .int (-1), .ref (ma 9), .ref (ma 10), .ref (ma 11), .ref (ma 12), .ref (ma 13), .int 0, .int 0]))]) [0] rfl
        have hDc := hD.sub (ws' := [(ma 0, .inr (5, [.int 0, .ref (ma 1), .int 0, .ref (ma 2), .int 0, .int 3, .int 0, .int 0, .ref (ma 3), .ref (ma 4), .ref (ma 5), .ref (ma 6), .int 0, .int 0, .ref (ma 7), .int 0, .ref (ma 8), .int (-1), .ref (ma 9), .ref (ma 10), .ref (ma 11), .ref (ma 12), .ref (ma 13), .int 0, .int 0]))]) [0] (by decide) rfl
        have hFc := va_free (wc := [(ma 0, .inr (5, [.int 0, .ref (ma 1), .int 0, .ref (ma 2), .int 0, .int 3, .int 0, .int 0, .ref (ma 3), .ref (ma 4), .ref (ma 5), .ref (ma 6), .int 0, .int 0, .ref (ma 7), .int 0, .ref (ma 8), .int (-1), .ref (ma 9), .ref (ma 10), .ref (ma 11), .ref (ma 12), .ref (ma 13), .int 0, .int 0]))]) hD hS hA [0] rfl
        have hKc := hK.sub (tys' := []) [] rfl
        refine va_calli (va_runV (As := [.int 2]) (rest := []) ⟨hx, hb, hml, hown, hts⟩ (c_X5_no l dC dI ma 2 H.size) (cwV 1 hts gX5_fill_X5_no rfl rfl rfl (by decide +kernel) ⟨Nat.le_of_ble_eq_true rfl, Nat.le_of_ble_eq_true rfl⟩) ⟨fun a U g mk q => by obtain ⟨q0, q1, qP, qK, qD⟩ := q; exact ⟨q0, q1, qP, va_K.moved (u := U) (U := U.calling g mk a) (Vm.Alike.refl U.vm) qK, qD⟩, va_recv hKc hPc (ci := 5) (q0 := 0) rfl rfl, fun U hU hW => ⟨rfl, by rw [hU], by rw [hU]; exact hPc, va_K.moved hW.alike hKc, zz_D hDc⟩⟩ rfl rfl hl.1 rfl (lv_room (Nat.le_of_ble_eq_true rfl)) dX5_fill_42 ⟨(Nat.le_of_ble_eq_true rfl), (Nat.le_of_ble_eq_true rfl)⟩) hS (fun q _ h => hFc q h) hFc (fun r_618 u_619 t H1 locs ht hvm hw hB hz1 hk1 hS1 => ?_)
        obtain ⟨hP1, hD1⟩ := hB
        rw [ht] at hP1
        obtain ⟨hP, hD⟩ := va_join (wr := [(ma 1, .inl (cI, 150, .inl (fun _ => 0))), (ma 2, .inl (cI, 150, .inl (fun _ => 0)))]) (w1 := [(ma 0, .inr (5, [.int 2, .ref (ma 1), .int 0, .ref (ma 2), .int 0, .int 3, .int 0, .int 0, .ref (ma 3), .ref (ma 4), .ref (ma 5), .ref (ma 6), .int 0, .int 0, .ref (ma 7), .int 0, .ref (ma 8), .int (-1), .ref (ma 9), .ref (ma 10), .ref (ma 11), .ref (ma 12), .ref (ma 13), .int 0, .int 0]))]) hP hD [0] [1, 2] rfl rfl (by decide) (by decide) hk1 hFc hP1 hD1
        have hS := hS1
        clear hS1
        generalize H1 = H at hP hS ht ⊢
        have hP : va_P (dC, dI) vwCl [(ma 1, .inl (cI, 150, .inl (fun _ => 0))), (ma 2, .inl (cI, 150, .inl (fun _ => 0))), (ma 0, .inr (5, [.int 2, .ref (ma 1), .int 0, .ref (ma 2), .int 0, .int 3, .int 0, .int 0, .ref (ma 3), .ref (ma 4), .ref (ma 5), .ref (ma 6), .int 0, .int 0, .ref (ma 7), .int 0, .ref (ma 8), .int (-1), .ref (ma 9), .ref (ma 10), .ref (ma 11), .ref (ma 12), .ref (ma 13), .int 0, .int 0]))] H := hP
        have hD : va_D A [(ma 1, .inl (cI, 150, .inl (fun _ => 0))), (ma 2, .inl (cI, 150, .inl (fun _ => 0))), (ma 0, .inr (5, [.int 2, .ref (ma 1), .int 0, .ref (ma 2), .int 0, .int 3, .int 0, .int 0, .ref (ma 3), .ref (ma 4), .ref (ma 5), .ref (ma 6), .int 0, .int 0, .ref (ma 7), .int 0, .ref (ma 8), .int (-1), .ref (ma 9), .ref (ma 10), .ref (ma 11), .ref (ma 12), .ref (ma 13), .int 0, .int 0]))] := hD
        obtain rfl : 0 = r_618 := (show r_618 = 0 from hw).symm
        have hP9 := hP.sub (ws' := [(ma 0, .inr (5, .int 2 :: ([.ref (ma 1), .int 0, .ref (ma 2), .int 0, .int 3, .int 0, .int 0, .ref (ma 3), .ref (ma 4), .ref (ma 5), .ref (ma 6), .int 0, .int 0, .ref (ma 7), .int 0, .ref (ma 8), .int (-1), .ref (ma 9), .ref (ma 10), .ref (ma 11), .ref (ma 12), .ref (ma 13), .int 0, .int 0])))]) [2] rfl
        have hD9 := hD.sub (ws' := [(ma 0, .inr (5, .int 2 :: ([.ref (ma 1), .int 0, .ref (ma 2), .int 0, .int 3, .int 0, .int 0, .ref (ma 3), .ref (ma 4), .ref (ma 5), .ref (ma 6), .int 0, .int 0, .ref (ma 7), .int 0, .ref (ma 8), .int (-1), .ref (ma 9), .ref (ma 10), .ref (ma 11), .ref (ma 12), .ref (ma 13), .int 0, .int 0])))]) [2] (by decide) rfl
        exact W.iret (v := 0) hx hb hr (fun t ht hW => ⟨⟨0, (2, [.ref (ma 1), .int 0, .ref (ma 2), .int 0, .int 3, .int 0, .int 0, .ref (ma 3), .ref (ma 4), .ref (ma 5), .ref (ma 6), .int 0, .int 0, .ref (ma 7), .int 0, .ref (ma 8), .int (-1), .ref (ma 9), .ref (ma 10), .ref (ma 11), .ref (ma 12), .ref (ma 13), .int 0, .int 0]), rfl, ⟨by first | exact ((if_pos (by decide)).trans (if_neg hn23)).symm | exact ((if_pos (by decide)).trans ((if_pos hp23).trans (if_neg hn34))).symm, fun h => absurd (show (2 : Int32) = 0 from h) (by decide)⟩, ⟨by rw [ht]; exact hP9, hD9⟩⟩, hS.F ht⟩) hS.2.2 dX5_fill_45
    · skip
      refine lv_if_ne (tgt := 18) hx hb dX5_fill_9 (by decide) (fun c9 => ?_) (fun h => absurd h (by decide))
      refine lv_iload_n hx hb dX5_fill_18 rfl (lv_at hl 2 rfl) ?_
      refine lv_iconst (v := 0) hx hb dX5_fill_19 (by decide) ?_
      refine lv_sipush (v := 255) hx hb dX5_fill_20 (by decide) ?_
      have hPc := hP.sub (ws' := []) [] rfl
      have hFc : ∀ q : Nat, H.size ≤ q → A q := fun q h => hA q (Nat.le_trans hS.1 h)
      have hKc := hK.sub (tys' := []) [] rfl
      refine va_calli (va_runS (As := [.int p1, .int 0, .int 255]) (rest := []) ⟨hx, hb, hml, hown, hts⟩ (c_X5_isIn l dC dI p1 0 255 H.size) (va_cwS 3 hts gX5_fill_X5_isIn rfl rfl rfl (by decide +kernel) ⟨Nat.le_of_ble_eq_true rfl, Nat.le_of_ble_eq_true rfl⟩) ⟨fun a U g mk q => by obtain ⟨q0, q1, qP, qK, qD⟩ := q; exact ⟨q0, q1, qP, va_K.moved (u := U) (U := U.calling g mk a) (Vm.Alike.refl U.vm) qK, qD⟩, fun U hU hW => ⟨rfl, by rw [hU], by rw [hU]; exact hPc, va_K.moved hW.alike hKc, zz_D (hD.sub (ws' := []) [] (by decide) rfl)⟩⟩ rfl rfl hl.1 rfl (lv_room (Nat.le_of_ble_eq_true rfl)) dX5_fill_23 ⟨(Nat.le_of_ble_eq_true rfl), (Nat.le_of_ble_eq_true rfl)⟩) hS (fun q h1 h2 => absurd h1 (Nat.not_lt.mpr h2)) hFc (fun r_620 u_621 t H1 locs ht hvm hw hB hz1 hk1 hS1 => ?_)
      have hP := zz_keep hP hk1
      have hS := hS1
      clear hS1
      generalize H1 = H at hP hS ht ⊢
      have hP : va_P (dC, dI) vwCl [(ma 0, .inr (5, [.int 0, .ref (ma 1), .int 0, .ref (ma 2), .int 0, .int 3, .int 0, .int 0, .ref (ma 3), .ref (ma 4), .ref (ma 5), .ref (ma 6), .int 0, .int 0, .ref (ma 7), .int 0, .ref (ma 8), .int (-1), .ref (ma 9), .ref (ma 10), .ref (ma 11), .ref (ma 12), .ref (ma 13), .int 0, .int 0])), (ma 1, .inl (cI, 150, .inl (fun _ => 0))), (ma 2, .inl (cI, 150, .inl (fun _ => 0)))] H := hP
      have w23 := hw
      rcases w23 with ⟨hr9, hp23⟩ | ⟨hr9, hn23⟩
      · skip
        subst hr9
        refine lv_if_eq (tgt := 40) hx hb dX5_fill_26 (by decide) (fun h => absurd h (by decide)) (fun c26 => ?_)
        refine lv_iload_n hx hb dX5_fill_29 rfl (lv_at hl 3 rfl) ?_
        refine lv_iconst (v := 1) hx hb dX5_fill_30 (by decide) ?_
        refine lv_sipush (v := 150) hx hb dX5_fill_31 (by decide) ?_
        have hPc := hP.sub (ws' := []) [] rfl
        have hFc : ∀ q : Nat, H.size ≤ q → A q := fun q h => hA q (Nat.le_trans hS.1 h)
        have hKc := hK.sub (tys' := []) [] rfl
        refine va_calli (va_runS (As := [.int p2, .int 1, .int 150]) (rest := []) ⟨hx, hb, hml, hown, hts⟩ (c_X5_isIn l dC dI p2 1 150 H.size) (va_cwS 3 hts gX5_fill_X5_isIn rfl rfl rfl (by decide +kernel) ⟨Nat.le_of_ble_eq_true rfl, Nat.le_of_ble_eq_true rfl⟩) ⟨fun a U g mk q => by obtain ⟨q0, q1, qP, qK, qD⟩ := q; exact ⟨q0, q1, qP, va_K.moved (u := U) (U := U.calling g mk a) (Vm.Alike.refl U.vm) qK, qD⟩, fun U hU hW => ⟨rfl, by rw [hU], by rw [hU]; exact hPc, va_K.moved hW.alike hKc, zz_D (hD.sub (ws' := []) [] (by decide) rfl)⟩⟩ rfl rfl hl.1 rfl (lv_room (Nat.le_of_ble_eq_true rfl)) dX5_fill_34 ⟨(Nat.le_of_ble_eq_true rfl), (Nat.le_of_ble_eq_true rfl)⟩) hS (fun q h1 h2 => absurd h1 (Nat.not_lt.mpr h2)) hFc (fun r_622 u_623 t H1 locs ht hvm hw hB hz1 hk1 hS1 => ?_)
        have hP := zz_keep hP hk1
        have hS := hS1
        clear hS1
        generalize H1 = H at hP hS ht ⊢
        have hP : va_P (dC, dI) vwCl [(ma 0, .inr (5, [.int 0, .ref (ma 1), .int 0, .ref (ma 2), .int 0, .int 3, .int 0, .int 0, .ref (ma 3), .ref (ma 4), .ref (ma 5), .ref (ma 6), .int 0, .int 0, .ref (ma 7), .int 0, .ref (ma 8), .int (-1), .ref (ma 9), .ref (ma 10), .ref (ma 11), .ref (ma 12), .ref (ma 13), .int 0, .int 0])), (ma 1, .inl (cI, 150, .inl (fun _ => 0))), (ma 2, .inl (cI, 150, .inl (fun _ => 0)))] H := hP
        have w34 := hw
        rcases w34 with ⟨hr9, hp34⟩ | ⟨hr9, hn34⟩
        · skip
          subst hr9
          refine lv_if_ne (tgt := 46) hx hb dX5_fill_37 (by decide) (fun c37 => ?_) (fun h => absurd h (by decide))
          obtain ⟨M, hM, hM2⟩ := zz_nat (M := 150) (n := 150) (by decide) hp34
          subst hM2
          refine lv_aload_n hx hb dX5_fill_46 rfl (lv_at hl 0 rfl) ?_
          refine lv_iload_n hx hb dX5_fill_47 rfl (lv_at hl 1 rfl) ?_
          have hPc := hP.sub (ws' := [(ma 0, .inr (5, [.int 0, .ref (ma 1), .int 0, .ref (ma 2), .int 0, .int 3, .int 0, .int 0, .ref (ma 3), .ref (ma 4), .ref (ma 5), .ref (ma 6), .int 0, .int 0, .ref (ma 7), .int 0, .ref (ma 8), .int (-1), .ref (ma 9), .ref (ma 10), .ref (ma 11), .ref (ma 12), .ref (ma 13), .int 0, .int 0]))]) [0] rfl
          have hFc : ∀ q : Nat, H.size ≤ q → A q := fun q h => hA q (Nat.le_trans hS.1 h)
          have hKc := hK.sub (tys' := []) [] rfl
          refine va_calli (va_runV (As := [.int 1]) (rest := []) ⟨hx, hb, hml, hown, hts⟩ (c_X5_sizeOfB1 l dC dI ma 0 H.size) (cwV 1 hts gX5_fill_X5_sizeOf rfl rfl rfl (by decide +kernel) ⟨Nat.le_of_ble_eq_true rfl, Nat.le_of_ble_eq_true rfl⟩) ⟨fun a U g mk q => by obtain ⟨q0, q1, qP, qK, qD⟩ := q; exact ⟨q0, q1, qP, va_K.moved (u := U) (U := U.calling g mk a) (Vm.Alike.refl U.vm) qK, qD⟩, va_recv hKc hPc (ci := 5) (q0 := 0) rfl rfl, fun U hU hW => ⟨rfl, by rw [hU], by rw [hU]; exact hPc, va_K.moved hW.alike hKc, zz_D (hD.sub (ws' := [(ma 0, .inr (5, [.int 0, .ref (ma 1), .int 0, .ref (ma 2), .int 0, .int 3, .int 0, .int 0, .ref (ma 3), .ref (ma 4), .ref (ma 5), .ref (ma 6), .int 0, .int 0, .ref (ma 7), .int 0, .ref (ma 8), .int (-1), .ref (ma 9), .ref (ma 10), .ref (ma 11), .ref (ma 12), .ref (ma 13), .int 0, .int 0]))]) [0] (by decide) rfl)⟩⟩ rfl rfl hl.1 rfl (lv_room (Nat.le_of_ble_eq_true rfl)) dX5_fill_48 ⟨(Nat.le_of_ble_eq_true rfl), (Nat.le_of_ble_eq_true rfl)⟩) hS (fun q h1 h2 => absurd h1 (Nat.not_lt.mpr h2)) hFc (fun r_624 u_625 t H1 locs ht hvm hw hB hz1 hk1 hS1 => ?_)
          have hP := zz_keep hP hk1
          have hS := hS1
          clear hS1
          generalize H1 = H at hP hS ht ⊢
          have hP : va_P (dC, dI) vwCl [(ma 0, .inr (5, [.int 0, .ref (ma 1), .int 0, .ref (ma 2), .int 0, .int 3, .int 0, .int 0, .ref (ma 3), .ref (ma 4), .ref (ma 5), .ref (ma 6), .int 0, .int 0, .ref (ma 7), .int 0, .ref (ma 8), .int (-1), .ref (ma 9), .ref (ma 10), .ref (ma 11), .ref (ma 12), .ref (ma 13), .int 0, .int 0])), (ma 1, .inl (cI, 150, .inl (fun _ => 0))), (ma 2, .inl (cI, 150, .inl (fun _ => 0)))] H := hP
          obtain rfl : 0 = r_624 := (show r_624 = 0 from hw).symm
          refine lv_istore (lv' := [(4, .int 0), (0, .ref (ma 0)), (1, .int 1), (2, .int p1), (3, .int (nI M))]) hx hb dX5_fill_51 hl (by decide) rfl (fun ls hl => ?_)
          refine lv_iload hx hb dX5_fill_53 (lv_at hl 0 rfl) ?_
          refine lv_iload_n hx hb dX5_fill_55 rfl (lv_at hl 4 rfl) ?_
          refine lv_iadd hx hb dX5_fill_56 ?_
          refine lv_topi (fun x_626 ex_626 => ?_)
          obtain rfl : 0 + nI M = x_626 := ex_626.symm
          refine lv_sipush (v := 150) hx hb dX5_fill_57 (by decide) ?_
          refine lv_icmp_le (tgt := 69) hx hb dX5_fill_60 (by decide) (fun c60 => ?_) (fun h => absurd (zz_le150 hM) h)
          refine lv_iconst (v := 0) hx hb dX5_fill_69 (by decide) ?_
          refine lv_istore (lv' := [(5, .int 0), (4, .int 0), (0, .ref (ma 0)), (1, .int 1), (2, .int p1), (3, .int (nI M))]) hx hb dX5_fill_70 hl (by decide) rfl (fun ls hl => ?_)
          refine lo_mfill1 dC dI cI ma 1 p1 (nI M) M hM hx hb hml hown hts hA hK ?_ (M + 1) 0 0 (fun _ => 0) _ _ ls (by omega) nI_0.symm (by omega) (hP.sub [0, 2] rfl) (hD.sub [0, 2] (by decide) rfl) hS (lv_sub hl [0, 1, 5, 4, 3, 2] rfl)
          intro k x kg H locs ls hP hD hS hl
          refine lv_aload_n hx hb dX5_fill_96 rfl (lv_at hl 5 rfl) ?_
          refine lv_iload_n hx hb dX5_fill_97 rfl (lv_at hl 4 rfl) ?_
          refine lv_iload hx hb dX5_fill_98 (lv_at hl 1 rfl) ?_
          refine lv_iload_n hx hb dX5_fill_100 rfl (lv_at hl 2 rfl) ?_
          refine lv_iadd hx hb dX5_fill_101 ?_
          refine lv_topi (fun x_627 ex_627 => ?_)
          obtain rfl : 0 + nI M = x_627 := ex_627.symm
          have hPc := hP.sub (ws' := [(ma 0, .inr (5, [.int 0, .ref (ma 1), .int 0, .ref (ma 2), .int 0, .int 3, .int 0, .int 0, .ref (ma 3), .ref (ma 4), .ref (ma 5), .ref (ma 6), .int 0, .int 0, .ref (ma 7), .int 0, .ref (ma 8), .int (-1), .ref (ma 9), .ref (ma 10), .ref (ma 11), .ref (ma 12), .ref (ma 13), .int 0, .int 0]))]) [0] rfl
          have hDc := hD.sub (ws' := [(ma 0, .inr (5, [.int 0, .ref (ma 1), .int 0, .ref (ma 2), .int 0, .int 3, .int 0, .int 0, .ref (ma 3), .ref (ma 4), .ref (ma 5), .ref (ma 6), .int 0, .int 0, .ref (ma 7), .int 0, .ref (ma 8), .int (-1), .ref (ma 9), .ref (ma 10), .ref (ma 11), .ref (ma 12), .ref (ma 13), .int 0, .int 0]))]) [0] (by decide) rfl
          have hFc := va_free (wc := [(ma 0, .inr (5, [.int 0, .ref (ma 1), .int 0, .ref (ma 2), .int 0, .int 3, .int 0, .int 0, .ref (ma 3), .ref (ma 4), .ref (ma 5), .ref (ma 6), .int 0, .int 0, .ref (ma 7), .int 0, .ref (ma 8), .int (-1), .ref (ma 9), .ref (ma 10), .ref (ma 11), .ref (ma 12), .ref (ma 13), .int 0, .int 0]))]) hD hS hA [0] rfl
          have hKc := hK.sub (tys' := []) [] rfl
          refine va_callv (va_runV (As := [.int 1, .int (0 + nI M)]) (rest := []) ⟨hx, hb, hml, hown, hts⟩ (c_X5_setSize1 l dC dI ma (0 + nI M) H.size) (cwV 2 hts gX5_fill_X5_setSize rfl rfl rfl (by decide +kernel) ⟨Nat.le_of_ble_eq_true rfl, Nat.le_of_ble_eq_true rfl⟩) ⟨fun a U g mk q => by obtain ⟨q0, q1, qP, qK, qD⟩ := q; exact ⟨q0, q1, qP, va_K.moved (u := U) (U := U.calling g mk a) (Vm.Alike.refl U.vm) qK, qD⟩, va_recv hKc hPc (ci := 5) (q0 := 0) rfl rfl, fun U hU hW => ⟨rfl, by rw [hU], by rw [hU]; exact hPc, va_K.moved hW.alike hKc, zz_D hDc⟩⟩ rfl rfl hl.1 rfl (lv_room (Nat.le_of_ble_eq_true rfl)) dX5_fill_102 ⟨(Nat.le_of_ble_eq_true rfl), (Nat.le_of_ble_eq_true rfl)⟩) hS (fun q _ h => hFc q h) hFc (fun u_629 t H1 locs ht hvm hw hB hz1 hk1 hS1 => ?_)
          obtain ⟨hP1, hD1⟩ := hB
          rw [ht] at hP1
          obtain ⟨hP, hD⟩ := va_join (wr := [(ma 2, .inl (cI, 150, .inl kg))]) (w1 := [(ma 0, .inr (5, [.int 0, .ref (ma 1), .int 0, .ref (ma 2), .int (0 + nI M), .int 3, .int 0, .int 0, .ref (ma 3), .ref (ma 4), .ref (ma 5), .ref (ma 6), .int 0, .int 0, .ref (ma 7), .int 0, .ref (ma 8), .int (-1), .ref (ma 9), .ref (ma 10), .ref (ma 11), .ref (ma 12), .ref (ma 13), .int 0, .int 0]))]) hP hD [0] [1] rfl rfl (by decide) (by decide) hk1 hFc hP1 hD1
          have hS := hS1
          clear hS1
          generalize H1 = H at hP hS ht ⊢
          have hP : va_P (dC, dI) vwCl [(ma 2, .inl (cI, 150, .inl kg)), (ma 0, .inr (5, [.int 0, .ref (ma 1), .int 0, .ref (ma 2), .int (0 + nI M), .int 3, .int 0, .int 0, .ref (ma 3), .ref (ma 4), .ref (ma 5), .ref (ma 6), .int 0, .int 0, .ref (ma 7), .int 0, .ref (ma 8), .int (-1), .ref (ma 9), .ref (ma 10), .ref (ma 11), .ref (ma 12), .ref (ma 13), .int 0, .int 0]))] H := hP
          have hD : va_D A [(ma 2, .inl (cI, 150, .inl kg)), (ma 0, .inr (5, [.int 0, .ref (ma 1), .int 0, .ref (ma 2), .int (0 + nI M), .int 3, .int 0, .int 0, .ref (ma 3), .ref (ma 4), .ref (ma 5), .ref (ma 6), .int 0, .int 0, .ref (ma 7), .int 0, .ref (ma 8), .int (-1), .ref (ma 9), .ref (ma 10), .ref (ma 11), .ref (ma 12), .ref (ma 13), .int 0, .int 0]))] := hD
          have w102 := hw
          refine lv_iload hx hb dX5_fill_105 (lv_at hl 1 rfl) ?_
          refine lv_iload_n hx hb dX5_fill_107 rfl (lv_at hl 2 rfl) ?_
          refine lv_iadd hx hb dX5_fill_108 ?_
          refine lv_topi (fun x_630 ex_630 => ?_)
          obtain rfl : 0 + nI M = x_630 := ex_630.symm
          have hP9 := hP.sub (ws' := [(ma 0, .inr (5, .int 0 :: ([.ref (ma 1), .int 0, .ref (ma 2), .int (0 + nI M), .int 3, .int 0, .int 0, .ref (ma 3), .ref (ma 4), .ref (ma 5), .ref (ma 6), .int 0, .int 0, .ref (ma 7), .int 0, .ref (ma 8), .int (-1), .ref (ma 9), .ref (ma 10), .ref (ma 11), .ref (ma 12), .ref (ma 13), .int 0, .int 0])))]) [1] rfl
          have hD9 := hD.sub (ws' := [(ma 0, .inr (5, .int 0 :: ([.ref (ma 1), .int 0, .ref (ma 2), .int (0 + nI M), .int 3, .int 0, .int 0, .ref (ma 3), .ref (ma 4), .ref (ma 5), .ref (ma 6), .int 0, .int 0, .ref (ma 7), .int 0, .ref (ma 8), .int (-1), .ref (ma 9), .ref (ma 10), .ref (ma 11), .ref (ma 12), .ref (ma 13), .int 0, .int 0])))]) [1] (by decide) rfl
          exact W.iret (v := 0 + nI M) hx hb hr (fun t ht hW => ⟨⟨0 + nI M, (0, [.ref (ma 1), .int 0, .ref (ma 2), .int (0 + nI M), .int 3, .int 0, .int 0, .ref (ma 3), .ref (ma 4), .ref (ma 5), .ref (ma 6), .int 0, .int 0, .ref (ma 7), .int 0, .ref (ma 8), .int (-1), .ref (ma 9), .ref (ma 10), .ref (ma 11), .ref (ma 12), .ref (ma 13), .int 0, .int 0]), rfl, ⟨((if_pos (by decide)).trans ((if_pos hp23).trans (if_pos hp34))).symm, fun _ => Int32.zero_add _⟩, ⟨by rw [ht]; exact hP9, hD9⟩⟩, hS.F ht⟩) hS.2.2 dX5_fill_109
        · skip
          subst hr9
          refine lv_if_ne (tgt := 46) hx hb dX5_fill_37 (by decide) (fun h => absurd h (by decide)) (fun c37 => ?_)
          refine lv_aload_n hx hb dX5_fill_40 rfl (lv_at hl 0 rfl) ?_
          refine lv_iconst (v := 2) hx hb dX5_fill_41 (by decide) ?_
          have hPc := hP.sub (ws' := [(ma 0, .inr (5, [.int 0, .ref (ma 1), .int 0, .ref (ma 2), .int 0, .int 3, .int 0, .int 0, .ref (ma 3), .ref (ma 4), .ref (ma 5), .ref (ma 6), .int 0, .int 0, .ref (ma 7), .int 0, .ref (ma 8), .int (-1), .ref (ma 9), .ref (ma 10), .ref (ma 11), .ref (ma 12), .ref (ma 13), .int 0, .int 0]))]) [0] rfl
          have hDc := hD.sub (ws' := [(ma 0, .inr (5, [.int 0, .ref (ma 1), .int 0, .ref (ma 2), .int 0, .int 3, .int 0, .int 0, .ref (ma 3), .ref (ma 4), .ref (ma 5), .ref (ma 6), .int 0, .int 0, .ref (ma 7), .int 0, .ref (ma 8), .int (-1), .ref (ma 9), .ref (ma 10), .ref (ma 11), .ref (ma 12), .ref (ma 13), .int 0, .int 0]))]) [0] (by decide) rfl
          have hFc := va_free (wc := [(ma 0, .inr (5, [.int 0, .ref (ma 1), .int 0, .ref (ma 2), .int 0, .int 3, .int 0, .int 0, .ref (ma 3), .ref (ma 4), .ref (ma 5), .ref (ma 6), .int 0, .int 0, .ref (ma 7), .int 0, .ref (ma 8), .int (-1), .ref (ma 9), .ref (ma 10), .ref (ma 11), .ref (ma 12), .ref (ma 13), .int 0, .int 0]))]) hD hS hA [0] rfl
          have hKc := hK.sub (tys' := []) [] rfl
          refine va_calli (va_runV (As := [.int 2]) (rest := []) ⟨hx, hb, hml, hown, hts⟩ (c_X5_no l dC dI ma 2 H.size) (cwV 1 hts gX5_fill_X5_no rfl rfl rfl (by decide +kernel) ⟨Nat.le_of_ble_eq_true rfl, Nat.le_of_ble_eq_true rfl⟩) ⟨fun a U g mk q => by obtain ⟨q0, q1, qP, qK, qD⟩ := q; exact ⟨q0, q1, qP, va_K.moved (u := U) (U := U.calling g mk a) (Vm.Alike.refl U.vm) qK, qD⟩, va_recv hKc hPc (ci := 5) (q0 := 0) rfl rfl, fun U hU hW => ⟨rfl, by rw [hU], by rw [hU]; exact hPc, va_K.moved hW.alike hKc, zz_D hDc⟩⟩ rfl rfl hl.1 rfl (lv_room (Nat.le_of_ble_eq_true rfl)) dX5_fill_42 ⟨(Nat.le_of_ble_eq_true rfl), (Nat.le_of_ble_eq_true rfl)⟩) hS (fun q _ h => hFc q h) hFc (fun r_631 u_632 t H1 locs ht hvm hw hB hz1 hk1 hS1 => ?_)
          obtain ⟨hP1, hD1⟩ := hB
          rw [ht] at hP1
          obtain ⟨hP, hD⟩ := va_join (wr := [(ma 1, .inl (cI, 150, .inl (fun _ => 0))), (ma 2, .inl (cI, 150, .inl (fun _ => 0)))]) (w1 := [(ma 0, .inr (5, [.int 2, .ref (ma 1), .int 0, .ref (ma 2), .int 0, .int 3, .int 0, .int 0, .ref (ma 3), .ref (ma 4), .ref (ma 5), .ref (ma 6), .int 0, .int 0, .ref (ma 7), .int 0, .ref (ma 8), .int (-1), .ref (ma 9), .ref (ma 10), .ref (ma 11), .ref (ma 12), .ref (ma 13), .int 0, .int 0]))]) hP hD [0] [1, 2] rfl rfl (by decide) (by decide) hk1 hFc hP1 hD1
          have hS := hS1
          clear hS1
          generalize H1 = H at hP hS ht ⊢
          have hP : va_P (dC, dI) vwCl [(ma 1, .inl (cI, 150, .inl (fun _ => 0))), (ma 2, .inl (cI, 150, .inl (fun _ => 0))), (ma 0, .inr (5, [.int 2, .ref (ma 1), .int 0, .ref (ma 2), .int 0, .int 3, .int 0, .int 0, .ref (ma 3), .ref (ma 4), .ref (ma 5), .ref (ma 6), .int 0, .int 0, .ref (ma 7), .int 0, .ref (ma 8), .int (-1), .ref (ma 9), .ref (ma 10), .ref (ma 11), .ref (ma 12), .ref (ma 13), .int 0, .int 0]))] H := hP
          have hD : va_D A [(ma 1, .inl (cI, 150, .inl (fun _ => 0))), (ma 2, .inl (cI, 150, .inl (fun _ => 0))), (ma 0, .inr (5, [.int 2, .ref (ma 1), .int 0, .ref (ma 2), .int 0, .int 3, .int 0, .int 0, .ref (ma 3), .ref (ma 4), .ref (ma 5), .ref (ma 6), .int 0, .int 0, .ref (ma 7), .int 0, .ref (ma 8), .int (-1), .ref (ma 9), .ref (ma 10), .ref (ma 11), .ref (ma 12), .ref (ma 13), .int 0, .int 0]))] := hD
          obtain rfl : 0 = r_631 := (show r_631 = 0 from hw).symm
          have hP9 := hP.sub (ws' := [(ma 0, .inr (5, .int 2 :: ([.ref (ma 1), .int 0, .ref (ma 2), .int 0, .int 3, .int 0, .int 0, .ref (ma 3), .ref (ma 4), .ref (ma 5), .ref (ma 6), .int 0, .int 0, .ref (ma 7), .int 0, .ref (ma 8), .int (-1), .ref (ma 9), .ref (ma 10), .ref (ma 11), .ref (ma 12), .ref (ma 13), .int 0, .int 0])))]) [2] rfl
          have hD9 := hD.sub (ws' := [(ma 0, .inr (5, .int 2 :: ([.ref (ma 1), .int 0, .ref (ma 2), .int 0, .int 3, .int 0, .int 0, .ref (ma 3), .ref (ma 4), .ref (ma 5), .ref (ma 6), .int 0, .int 0, .ref (ma 7), .int 0, .ref (ma 8), .int (-1), .ref (ma 9), .ref (ma 10), .ref (ma 11), .ref (ma 12), .ref (ma 13), .int 0, .int 0])))]) [2] (by decide) rfl
          exact W.iret (v := 0) hx hb hr (fun t ht hW => ⟨⟨0, (2, [.ref (ma 1), .int 0, .ref (ma 2), .int 0, .int 3, .int 0, .int 0, .ref (ma 3), .ref (ma 4), .ref (ma 5), .ref (ma 6), .int 0, .int 0, .ref (ma 7), .int 0, .ref (ma 8), .int (-1), .ref (ma 9), .ref (ma 10), .ref (ma 11), .ref (ma 12), .ref (ma 13), .int 0, .int 0]), rfl, ⟨by first | exact ((if_pos (by decide)).trans (if_neg hn23)).symm | exact ((if_pos (by decide)).trans ((if_pos hp23).trans (if_neg hn34))).symm, fun h => absurd (show (2 : Int32) = 0 from h) (by decide)⟩, ⟨by rw [ht]; exact hP9, hD9⟩⟩, hS.F ht⟩) hS.2.2 dX5_fill_45
      · skip
        subst hr9
        refine lv_if_eq (tgt := 40) hx hb dX5_fill_26 (by decide) (fun c26 => ?_) (fun h => absurd h (by decide))
        refine lv_aload_n hx hb dX5_fill_40 rfl (lv_at hl 0 rfl) ?_
        refine lv_iconst (v := 2) hx hb dX5_fill_41 (by decide) ?_
        have hPc := hP.sub (ws' := [(ma 0, .inr (5, [.int 0, .ref (ma 1), .int 0, .ref (ma 2), .int 0, .int 3, .int 0, .int 0, .ref (ma 3), .ref (ma 4), .ref (ma 5), .ref (ma 6), .int 0, .int 0, .ref (ma 7), .int 0, .ref (ma 8), .int (-1), .ref (ma 9), .ref (ma 10), .ref (ma 11), .ref (ma 12), .ref (ma 13), .int 0, .int 0]))]) [0] rfl
        have hDc := hD.sub (ws' := [(ma 0, .inr (5, [.int 0, .ref (ma 1), .int 0, .ref (ma 2), .int 0, .int 3, .int 0, .int 0, .ref (ma 3), .ref (ma 4), .ref (ma 5), .ref (ma 6), .int 0, .int 0, .ref (ma 7), .int 0, .ref (ma 8), .int (-1), .ref (ma 9), .ref (ma 10), .ref (ma 11), .ref (ma 12), .ref (ma 13), .int 0, .int 0]))]) [0] (by decide) rfl
        have hFc := va_free (wc := [(ma 0, .inr (5, [.int 0, .ref (ma 1), .int 0, .ref (ma 2), .int 0, .int 3, .int 0, .int 0, .ref (ma 3), .ref (ma 4), .ref (ma 5), .ref (ma 6), .int 0, .int 0, .ref (ma 7), .int 0, .ref (ma 8), .int (-1), .ref (ma 9), .ref (ma 10), .ref (ma 11), .ref (ma 12), .ref (ma 13), .int 0, .int 0]))]) hD hS hA [0] rfl
        have hKc := hK.sub (tys' := []) [] rfl
        refine va_calli (va_runV (As := [.int 2]) (rest := []) ⟨hx, hb, hml, hown, hts⟩ (c_X5_no l dC dI ma 2 H.size) (cwV 1 hts gX5_fill_X5_no rfl rfl rfl (by decide +kernel) ⟨Nat.le_of_ble_eq_true rfl, Nat.le_of_ble_eq_true rfl⟩) ⟨fun a U g mk q => by obtain ⟨q0, q1, qP, qK, qD⟩ := q; exact ⟨q0, q1, qP, va_K.moved (u := U) (U := U.calling g mk a) (Vm.Alike.refl U.vm) qK, qD⟩, va_recv hKc hPc (ci := 5) (q0 := 0) rfl rfl, fun U hU hW => ⟨rfl, by rw [hU], by rw [hU]; exact hPc, va_K.moved hW.alike hKc, zz_D hDc⟩⟩ rfl rfl hl.1 rfl (lv_room (Nat.le_of_ble_eq_true rfl)) dX5_fill_42 ⟨(Nat.le_of_ble_eq_true rfl), (Nat.le_of_ble_eq_true rfl)⟩) hS (fun q _ h => hFc q h) hFc (fun r_633 u_634 t H1 locs ht hvm hw hB hz1 hk1 hS1 => ?_)
        obtain ⟨hP1, hD1⟩ := hB
        rw [ht] at hP1
        obtain ⟨hP, hD⟩ := va_join (wr := [(ma 1, .inl (cI, 150, .inl (fun _ => 0))), (ma 2, .inl (cI, 150, .inl (fun _ => 0)))]) (w1 := [(ma 0, .inr (5, [.int 2, .ref (ma 1), .int 0, .ref (ma 2), .int 0, .int 3, .int 0, .int 0, .ref (ma 3), .ref (ma 4), .ref (ma 5), .ref (ma 6), .int 0, .int 0, .ref (ma 7), .int 0, .ref (ma 8), .int (-1), .ref (ma 9), .ref (ma 10), .ref (ma 11), .ref (ma 12), .ref (ma 13), .int 0, .int 0]))]) hP hD [0] [1, 2] rfl rfl (by decide) (by decide) hk1 hFc hP1 hD1
        have hS := hS1
        clear hS1
        generalize H1 = H at hP hS ht ⊢
        have hP : va_P (dC, dI) vwCl [(ma 1, .inl (cI, 150, .inl (fun _ => 0))), (ma 2, .inl (cI, 150, .inl (fun _ => 0))), (ma 0, .inr (5, [.int 2, .ref (ma 1), .int 0, .ref (ma 2), .int 0, .int 3, .int 0, .int 0, .ref (ma 3), .ref (ma 4), .ref (ma 5), .ref (ma 6), .int 0, .int 0, .ref (ma 7), .int 0, .ref (ma 8), .int (-1), .ref (ma 9), .ref (ma 10), .ref (ma 11), .ref (ma 12), .ref (ma 13), .int 0, .int 0]))] H := hP
        have hD : va_D A [(ma 1, .inl (cI, 150, .inl (fun _ => 0))), (ma 2, .inl (cI, 150, .inl (fun _ => 0))), (ma 0, .inr (5, [.int 2, .ref (ma 1), .int 0, .ref (ma 2), .int 0, .int 3, .int 0, .int 0, .ref (ma 3), .ref (ma 4), .ref (ma 5), .ref (ma 6), .int 0, .int 0, .ref (ma 7), .int 0, .ref (ma 8), .int (-1), .ref (ma 9), .ref (ma 10), .ref (ma 11), .ref (ma 12), .ref (ma 13), .int 0, .int 0]))] := hD
        obtain rfl : 0 = r_633 := (show r_633 = 0 from hw).symm
        have hP9 := hP.sub (ws' := [(ma 0, .inr (5, .int 2 :: ([.ref (ma 1), .int 0, .ref (ma 2), .int 0, .int 3, .int 0, .int 0, .ref (ma 3), .ref (ma 4), .ref (ma 5), .ref (ma 6), .int 0, .int 0, .ref (ma 7), .int 0, .ref (ma 8), .int (-1), .ref (ma 9), .ref (ma 10), .ref (ma 11), .ref (ma 12), .ref (ma 13), .int 0, .int 0])))]) [2] rfl
        have hD9 := hD.sub (ws' := [(ma 0, .inr (5, .int 2 :: ([.ref (ma 1), .int 0, .ref (ma 2), .int 0, .int 3, .int 0, .int 0, .ref (ma 3), .ref (ma 4), .ref (ma 5), .ref (ma 6), .int 0, .int 0, .ref (ma 7), .int 0, .ref (ma 8), .int (-1), .ref (ma 9), .ref (ma 10), .ref (ma 11), .ref (ma 12), .ref (ma 13), .int 0, .int 0])))]) [2] (by decide) rfl
        exact W.iret (v := 0) hx hb hr (fun t ht hW => ⟨⟨0, (2, [.ref (ma 1), .int 0, .ref (ma 2), .int 0, .int 3, .int 0, .int 0, .ref (ma 3), .ref (ma 4), .ref (ma 5), .ref (ma 6), .int 0, .int 0, .ref (ma 7), .int 0, .ref (ma 8), .int (-1), .ref (ma 9), .ref (ma 10), .ref (ma 11), .ref (ma 12), .ref (ma 13), .int 0, .int 0]), rfl, ⟨by first | exact ((if_pos (by decide)).trans (if_neg hn23)).symm | exact ((if_pos (by decide)).trans ((if_pos hp23).trans (if_neg hn34))).symm, fun h => absurd (show (2 : Int32) = 0 from h) (by decide)⟩, ⟨by rw [ht]; exact hP9, hD9⟩⟩, hS.F ht⟩) hS.2.2 dX5_fill_45
  · skip
    subst hr9
    refine lv_if_ne (tgt := 18) hx hb dX5_fill_9 (by decide) (fun h => absurd h (by decide)) (fun c9 => ?_)
    refine lv_aload_n hx hb dX5_fill_12 rfl (lv_at hl 0 rfl) ?_
    refine lv_iconst (v := 1) hx hb dX5_fill_13 (by decide) ?_
    have hPc := hP.sub (ws' := [(ma 0, .inr (5, [.int 0, .ref (ma 1), .int 0, .ref (ma 2), .int 0, .int 3, .int 0, .int 0, .ref (ma 3), .ref (ma 4), .ref (ma 5), .ref (ma 6), .int 0, .int 0, .ref (ma 7), .int 0, .ref (ma 8), .int (-1), .ref (ma 9), .ref (ma 10), .ref (ma 11), .ref (ma 12), .ref (ma 13), .int 0, .int 0]))]) [0] rfl
    have hDc := hD.sub (ws' := [(ma 0, .inr (5, [.int 0, .ref (ma 1), .int 0, .ref (ma 2), .int 0, .int 3, .int 0, .int 0, .ref (ma 3), .ref (ma 4), .ref (ma 5), .ref (ma 6), .int 0, .int 0, .ref (ma 7), .int 0, .ref (ma 8), .int (-1), .ref (ma 9), .ref (ma 10), .ref (ma 11), .ref (ma 12), .ref (ma 13), .int 0, .int 0]))]) [0] (by decide) rfl
    have hFc := va_free (wc := [(ma 0, .inr (5, [.int 0, .ref (ma 1), .int 0, .ref (ma 2), .int 0, .int 3, .int 0, .int 0, .ref (ma 3), .ref (ma 4), .ref (ma 5), .ref (ma 6), .int 0, .int 0, .ref (ma 7), .int 0, .ref (ma 8), .int (-1), .ref (ma 9), .ref (ma 10), .ref (ma 11), .ref (ma 12), .ref (ma 13), .int 0, .int 0]))]) hD hS hA [0] rfl
    have hKc := hK.sub (tys' := []) [] rfl
    refine va_calli (va_runV (As := [.int 1]) (rest := []) ⟨hx, hb, hml, hown, hts⟩ (c_X5_no l dC dI ma 1 H.size) (cwV 1 hts gX5_fill_X5_no rfl rfl rfl (by decide +kernel) ⟨Nat.le_of_ble_eq_true rfl, Nat.le_of_ble_eq_true rfl⟩) ⟨fun a U g mk q => by obtain ⟨q0, q1, qP, qK, qD⟩ := q; exact ⟨q0, q1, qP, va_K.moved (u := U) (U := U.calling g mk a) (Vm.Alike.refl U.vm) qK, qD⟩, va_recv hKc hPc (ci := 5) (q0 := 0) rfl rfl, fun U hU hW => ⟨rfl, by rw [hU], by rw [hU]; exact hPc, va_K.moved hW.alike hKc, zz_D hDc⟩⟩ rfl rfl hl.1 rfl (lv_room (Nat.le_of_ble_eq_true rfl)) dX5_fill_14 ⟨(Nat.le_of_ble_eq_true rfl), (Nat.le_of_ble_eq_true rfl)⟩) hS (fun q _ h => hFc q h) hFc (fun r_635 u_636 t H1 locs ht hvm hw hB hz1 hk1 hS1 => ?_)
    obtain ⟨hP1, hD1⟩ := hB
    rw [ht] at hP1
    obtain ⟨hP, hD⟩ := va_join (wr := [(ma 1, .inl (cI, 150, .inl (fun _ => 0))), (ma 2, .inl (cI, 150, .inl (fun _ => 0)))]) (w1 := [(ma 0, .inr (5, [.int 1, .ref (ma 1), .int 0, .ref (ma 2), .int 0, .int 3, .int 0, .int 0, .ref (ma 3), .ref (ma 4), .ref (ma 5), .ref (ma 6), .int 0, .int 0, .ref (ma 7), .int 0, .ref (ma 8), .int (-1), .ref (ma 9), .ref (ma 10), .ref (ma 11), .ref (ma 12), .ref (ma 13), .int 0, .int 0]))]) hP hD [0] [1, 2] rfl rfl (by decide) (by decide) hk1 hFc hP1 hD1
    have hS := hS1
    clear hS1
    generalize H1 = H at hP hS ht ⊢
    have hP : va_P (dC, dI) vwCl [(ma 1, .inl (cI, 150, .inl (fun _ => 0))), (ma 2, .inl (cI, 150, .inl (fun _ => 0))), (ma 0, .inr (5, [.int 1, .ref (ma 1), .int 0, .ref (ma 2), .int 0, .int 3, .int 0, .int 0, .ref (ma 3), .ref (ma 4), .ref (ma 5), .ref (ma 6), .int 0, .int 0, .ref (ma 7), .int 0, .ref (ma 8), .int (-1), .ref (ma 9), .ref (ma 10), .ref (ma 11), .ref (ma 12), .ref (ma 13), .int 0, .int 0]))] H := hP
    have hD : va_D A [(ma 1, .inl (cI, 150, .inl (fun _ => 0))), (ma 2, .inl (cI, 150, .inl (fun _ => 0))), (ma 0, .inr (5, [.int 1, .ref (ma 1), .int 0, .ref (ma 2), .int 0, .int 3, .int 0, .int 0, .ref (ma 3), .ref (ma 4), .ref (ma 5), .ref (ma 6), .int 0, .int 0, .ref (ma 7), .int 0, .ref (ma 8), .int (-1), .ref (ma 9), .ref (ma 10), .ref (ma 11), .ref (ma 12), .ref (ma 13), .int 0, .int 0]))] := hD
    obtain rfl : 0 = r_635 := (show r_635 = 0 from hw).symm
    have hP9 := hP.sub (ws' := [(ma 0, .inr (5, .int 1 :: ([.ref (ma 1), .int 0, .ref (ma 2), .int 0, .int 3, .int 0, .int 0, .ref (ma 3), .ref (ma 4), .ref (ma 5), .ref (ma 6), .int 0, .int 0, .ref (ma 7), .int 0, .ref (ma 8), .int (-1), .ref (ma 9), .ref (ma 10), .ref (ma 11), .ref (ma 12), .ref (ma 13), .int 0, .int 0])))]) [2] rfl
    have hD9 := hD.sub (ws' := [(ma 0, .inr (5, .int 1 :: ([.ref (ma 1), .int 0, .ref (ma 2), .int 0, .int 3, .int 0, .int 0, .ref (ma 3), .ref (ma 4), .ref (ma 5), .ref (ma 6), .int 0, .int 0, .ref (ma 7), .int 0, .ref (ma 8), .int (-1), .ref (ma 9), .ref (ma 10), .ref (ma 11), .ref (ma 12), .ref (ma 13), .int 0, .int 0])))]) [2] (by decide) rfl
    exact W.iret (v := 0) hx hb hr (fun t ht hW => ⟨⟨0, (1, [.ref (ma 1), .int 0, .ref (ma 2), .int 0, .int 3, .int 0, .int 0, .ref (ma 3), .ref (ma 4), .ref (ma 5), .ref (ma 6), .int 0, .int 0, .ref (ma 7), .int 0, .ref (ma 8), .int (-1), .ref (ma 9), .ref (ma 10), .ref (ma 11), .ref (ma 12), .ref (ma 13), .int 0, .int 0]), rfl, ⟨(if_neg hn6).symm, fun h => absurd (show (1 : Int32) = 0 from h) (by decide)⟩, ⟨by rw [ht]; exact hP9, hD9⟩⟩, hS.F ht⟩) hS.2.2 dX5_fill_17
