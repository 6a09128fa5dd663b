set_option maxHeartbeats 4000000 in
set_option maxRecDepth 100000 in
theorem lo_feed {p : Program} {l : Launch} {e : Env} {s : State} {m : MethodId} {args : Array Value} {below : List Frame} {meth : Method} {c : Code} {Q : State → Prop} {A : Nat → Prop} (dC : Nat → ClassId) (dI : Nat → Nat → Nat) (cI : ClassId) (xa : Nat → Nat) (p0 : Int32) (p1 : Int64) (p2 : Int32) (rr : Nat) (ra : Nat) (M : Nat) (hM : M ≤ 8) (hx : p.tables.exec = Jvm.exec) (hb : c.code = cX4_feed) (hml : c.maxLocals = 7) (hown : s.vm.findClass RX4 = some m.cls) (hts : ∀ w ∈ wsX4_feed, w.before args s = true) (hA : ∀ q : Nat, s.heap.size ≤ q → A q) (hK : va_K (dC, dI) vwCl [(cI, .int)] s)
    (kk : ∀ (k : Nat) (t : Nat) (x : Int32) (kc : Int32) (kg : Nat → Int32) (H : Heap) (locs : List Loc) (ls : Array Slot), kc = nI M → va_P (dC, dI) vwCl [(xa 0, .inr (4, [.ref (xa 1), .ref (xa 3), .ref (xa 5), .ref (xa 7), .ref (xa 16), .ref (xa 25), .int 3])), (rr, .inr (3, [.ref ra, .int kc])), (ra, .inl (cI, 150, .inl kg)), (xa 7, .inr (1, [.ref (xa 8), .ref (xa 10), .ref (xa 12), .ref (xa 14), .int 0, .int 0]))] H → va_D A [(xa 0, .inr (4, [.ref (xa 1), .ref (xa 3), .ref (xa 5), .ref (xa 7), .ref (xa 16), .ref (xa 25), .int 3])), (rr, .inr (3, [.ref ra, .int kc])), (ra, .inl (cI, 150, .inl kg)), (xa 7, .inr (1, [.ref (xa 8), .ref (xa 10), .ref (xa 12), .ref (xa 14), .int 0, .int 0]))] → va_S A s.heap H locs → lv_has ls 7 [(6, .int x), (5, .ref rr), (2, .long p1), (0, .ref (xa 0))] → W p l e (headSpec wsX4_feed ({ frames := 7, cells := 2, slots := 12, locals := 112 })).room s m args below meth c H locs 2 12 Q (F0 m 60 ls []))
    : ∀ (j : Nat) (k : Nat) (t : Nat) (x : Int32) (kc : Int32) (kg : Nat → Int32) (H : Heap) (locs : List Loc) (ls : Array Slot), t < j → (kc = nI k) → (x = nI t - 1) → (k + t = M) → va_P (dC, dI) vwCl [(xa 0, .inr (4, [.ref (xa 1), .ref (xa 3), .ref (xa 5), .ref (xa 7), .ref (xa 16), .ref (xa 25), .int 3])), (rr, .inr (3, [.ref ra, .int kc])), (ra, .inl (cI, 150, .inl kg)), (xa 7, .inr (1, [.ref (xa 8), .ref (xa 10), .ref (xa 12), .ref (xa 14), .int 0, .int 0]))] H → va_D A [(xa 0, .inr (4, [.ref (xa 1), .ref (xa 3), .ref (xa 5), .ref (xa 7), .ref (xa 16), .ref (xa 25), .int 3])), (rr, .inr (3, [.ref ra, .int kc])), (ra, .inl (cI, 150, .inl kg)), (xa 7, .inr (1, [.ref (xa 8), .ref (xa 10), .ref (xa 12), .ref (xa 14), .int 0, .int 0]))] → va_S A s.heap H locs → lv_has ls 7 [(6, .int x), (5, .ref rr), (2, .long p1), (0, .ref (xa 0))] → W p l e (headSpec wsX4_feed ({ frames := 7, cells := 2, slots := 12, locals := 112 })).room s m args below meth c H locs 2 12 Q (F0 m 32 ls []) := by
  intro j
  induction j with
  | zero => intro k t x kc kg H locs ls hj; omega
  | succ j ih =>
    intro k t x kc kg H locs ls hj hkc hx1 hkt hP hD hS hl
    refine lv_iload hx hb dX4_feed_32 (lv_at hl 0 rfl) ?_
    refine lv_if_lt (tgt := 60) hx hb dX4_feed_34 (by decide) (fun c34 => ?_) (fun c34 => ?_)
    · skip
      exact kk k t x kc kg H locs ls (by rcases t with _ | t <;> first | (rw [hkc, ← hkt]; rfl) | exact absurd c34 (by rw [hx1, nI_pred]; exact nI_pos (by omega))) (hP.sub [0, 1, 2, 3] rfl) (hD.sub [0, 1, 2, 3] (by decide) rfl) hS (lv_sub hl [0, 1, 2, 3] rfl)
    · skip
      obtain ⟨t1, rfl⟩ : ∃ t1, t = t1 + 1 := by
        rcases t with _ | t
        · exact absurd (by rw [hx1]; decide) c34
        · exact ⟨t, rfl⟩
      refine lv_aload hx hb dX4_feed_37 (lv_at hl 1 rfl) ?_
      refine lv_lload_n hx hb dX4_feed_39 rfl (lv_at hl 2 rfl) ?_
      refine lv_bipush (v := 8) hx hb dX4_feed_40 (by decide) ?_
      refine lv_iload hx hb dX4_feed_42 (lv_at hl 0 rfl) ?_
      refine lv_imul hx hb dX4_feed_44 ?_
      refine lv_topi (fun x_277 ex_277 => ?_)
      refine lv_lushr hx hb dX4_feed_45 rfl ?_
      refine lv_topl (fun x_278 ex_278 => ?_)
      refine lv_l2i (v := x_278.toInt32) hx hb dX4_feed_46 rfl ?_
      refine lv_sipush (v := 255) hx hb dX4_feed_47 (by decide) ?_
      refine lv_iand hx hb dX4_feed_50 ?_
      refine lv_topi (fun x_279 ex_279 => ?_)
      have hPc := hP.sub (ws' := [(rr, .inr (3, [.ref ra, .int kc])), (ra, .inl (cI, 150, .inl kg))]) [1, 2] rfl
      have hDc := hD.sub (ws' := [(rr, .inr (3, [.ref ra, .int kc])), (ra, .inl (cI, 150, .inl kg))]) [1, 2] (by decide) rfl
      have hFc := va_free (wc := [(rr, .inr (3, [.ref ra, .int kc])), (ra, .inl (cI, 150, .inl kg))]) hD hS hA [1, 2] rfl
      have hKc := hK.sub (tys' := [(cI, .int)]) [0] rfl
      refine va_callv (va_runV (As := [.int x_279]) (rest := []) ⟨hx, hb, hml, hown, hts⟩ (c_X3_append l dC dI cI rr ra 150 kg kc x_279 H.size (by rw [hkc]; exact nI_pos (by omega)) (by rw [hkc]; exact nI_ge (by omega) (by omega)) (by rw [hkc]; exact vp_in_nI (by omega) (by omega))) (cwV 1 hts gX4_feed_X3_append rfl rfl rfl (by decide +kernel) ⟨Nat.le_of_ble_eq_true rfl, Nat.le_of_ble_eq_true rfl⟩) ⟨fun a U g mk q => by obtain ⟨q0, q1, qP, qK, qD⟩ := q; exact ⟨q0, q1, qP, va_K.moved (u := U) (U := U.calling g mk a) (Vm.Alike.refl U.vm) qK, qD⟩, va_recv hKc hPc (ci := 3) (q0 := 0) rfl rfl, fun U hU hW => ⟨rfl, by rw [hU], by rw [hU]; exact hPc, va_K.moved hW.alike hKc, zz_D hDc⟩⟩ rfl rfl hl.1 rfl (lv_room (Nat.le_of_ble_eq_true rfl)) dX4_feed_51 ⟨(Nat.le_of_ble_eq_true rfl), (Nat.le_of_ble_eq_true rfl)⟩) hS (fun q _ h => hFc q h) hFc (fun u_281 t H1 locs ht hvm hw hB hz1 hk1 hS1 => ?_)
      obtain ⟨hP1, hD1⟩ := hB
      rw [ht] at hP1
      obtain ⟨hP, hD⟩ := va_join (wr := [(xa 0, .inr (4, [.ref (xa 1), .ref (xa 3), .ref (xa 5), .ref (xa 7), .ref (xa 16), .ref (xa 25), .int 3])), (xa 7, .inr (1, [.ref (xa 8), .ref (xa 10), .ref (xa 12), .ref (xa 14), .int 0, .int 0]))]) (w1 := [(rr, .inr (3, [.ref ra, .int (kc + 1)])), (ra, .inl (cI, 150, .inl u_281))]) hP hD [1, 2] [0, 3] rfl rfl (by decide) (by decide) hk1 hFc hP1 hD1
      have hS := hS1
      clear hS1
      generalize H1 = H at hP hS ht ⊢
      have hP : va_P (dC, dI) vwCl [(xa 0, .inr (4, [.ref (xa 1), .ref (xa 3), .ref (xa 5), .ref (xa 7), .ref (xa 16), .ref (xa 25), .int 3])), (xa 7, .inr (1, [.ref (xa 8), .ref (xa 10), .ref (xa 12), .ref (xa 14), .int 0, .int 0])), (rr, .inr (3, [.ref ra, .int (kc + 1)])), (ra, .inl (cI, 150, .inl u_281))] H := hP
      have hD : va_D A [(xa 0, .inr (4, [.ref (xa 1), .ref (xa 3), .ref (xa 5), .ref (xa 7), .ref (xa 16), .ref (xa 25), .int 3])), (xa 7, .inr (1, [.ref (xa 8), .ref (xa 10), .ref (xa 12), .ref (xa 14), .int 0, .int 0])), (rr, .inr (3, [.ref ra, .int (kc + 1)])), (ra, .inl (cI, 150, .inl u_281))] := hD
      have w51 := hw
      obtain ⟨x_282, ex_282⟩ : ∃ y : Int32, y = x + (-1) := ⟨_, rfl⟩
      refine lv_iinc (v := x_282) (lv' := [(6, .int x_282), (5, .ref rr), (2, .long p1), (0, .ref (xa 0))]) hx hb dX4_feed_54 hl (k := 0) rfl (by rw [ex_282]; rfl) (by decide) rfl (fun ls hl => ?_)
      refine lv_goto (tgt := 32) hx hb dX4_feed_57 (by decide) ?_
      exact ih (k + 1) t1 x_282 (kc + 1) u_281 H locs ls (by omega) (by rw [hkc]; exact nI_1 k) (by rw [ex_282, hx1, nI_pred]; exact (Int32.sub_eq_add_neg _ _).symm) (by omega) (hP.sub [0, 2, 3, 1] rfl) (hD.sub [0, 2, 3, 1] (by decide) rfl) hS (lv_sub hl [0, 1, 2, 3] rfl)
set_option maxHeartbeats 4000000 in
set_option maxRecDepth 100000 in
theorem c_X4_feed (l : Launch) (hfl : l.stackTraces = false) (dC : Nat → ClassId) (dI : Nat → Nat → Nat) (cI : ClassId) (xa : Nat → Nat) (p0 : Int32) (p1 : Int64) (p2 : Int32) (sz : Nat) : vx_Met l yX4_feed wsX4_feed ({ frames := 7, cells := 2, slots := 12, locals := 112 }) (va_Pc [.ref (xa 0), .int p0, .long p1, .int p2] (fun U => U.heap.size = sz ∧ va_P (dC, dI) vwCl (wx cI xa) U.heap ∧ va_K (dC, dI) vwCl [(cI, .int)] U ∧ va_D (fun _ => True) (wx cI xa) ∧ zz_X (va_A (wx cI xa) sz) U)) (va_Qi (fun (r : Int32) (_ : Unit) => r = p2 ∧ zf_feed p0 p2 = 0) (fun _ _ => True) (va_A (wx cI xa) sz)) (vx_X (fun _ : Unit => True) (fun E _ _ => (E = "java/lang/IndexOutOfBoundsException" ∧ zf_feed p0 p2 = 1) ∨ (E = "java/lang/IllegalArgumentException" ∧ zf_feed p0 p2 = 2)) (va_A (wx cI xa) sz)) 2 12 (va_A (wx cI xa) sz) := by
  refine vx_ofW (cc := cX4_feed) (maxL := 7) (ret := (some .int)) (by decide) rfl ?_
  intro p e s m args below meth c s₁ B hml hno hv
  obtain ⟨rfl, hsz, hP, hK, hD0, hZ⟩ := hv
  have hx := B.exec
  have hb := B.bytes
  have hr := B.returns
  have hts := atoms_spec (ws := wsX4_feed) B.pre
  have hown : s.vm.findClass RX4 = some m.cls := findClass_of_methodNamed B.named
  have hlocks := B.notSynchronized
  subst hsz
  have hD := hD0.self (sz := s.heap.size)
  generalize hAe : va_A (wx cI xa) s.heap.size = A at hD hZ ⊢
  have hA : ∀ q : Nat, s.heap.size ≤ q → A q := fun q h => by rw [← hAe]; exact Or.inr h
  have hS : va_S A s.heap s.heap [] := va_S.rf
  have hP := hP.sub (ws' := [(xa 0, .inr (4, [.ref (xa 1), .ref (xa 3), .ref (xa 5), .ref (xa 7), .ref (xa 16), .ref (xa 25), .int 3])), (xa 1, .inr (3, [.ref (xa 2), .int 0])), (xa 2, .inl (cI, 150, .inl (fun _ => 0))), (xa 3, .inr (3, [.ref (xa 4), .int 0])), (xa 4, .inl (cI, 150, .inl (fun _ => 0))), (xa 7, .inr (1, [.ref (xa 8), .ref (xa 10), .ref (xa 12), .ref (xa 14), .int 0, .int 0]))]) [0, 1, 2, 3, 4, 7] rfl
  have hD := hD.sub (ws' := [(xa 0, .inr (4, [.ref (xa 1), .ref (xa 3), .ref (xa 5), .ref (xa 7), .ref (xa 16), .ref (xa 25), .int 3])), (xa 1, .inr (3, [.ref (xa 2), .int 0])), (xa 2, .inl (cI, 150, .inl (fun _ => 0))), (xa 3, .inr (3, [.ref (xa 4), .int 0])), (xa 4, .inl (cI, 150, .inl (fun _ => 0))), (xa 7, .inr (1, [.ref (xa 8), .ref (xa 10), .ref (xa 12), .ref (xa 14), .int 0, .int 0]))]) [0, 1, 2, 3, 4, 7] (by decide) rfl
  have hl := lv_entry ([.ref (xa 0), .int p0, .long p1, .int p2]) (n := 7) (Nat.le_of_ble_eq_true rfl)
  rw [lg_entry_eq]
  generalize (lg_sl ([.ref (xa 0), .int p0, .long p1, .int p2]) ++ List.replicate (7 - (lg_sl ([.ref (xa 0), .int p0, .long p1, .int p2])).length) Slot.unset).toArray = ls at hl ⊢
  have hl : lv_has ls 7 [(0, .ref (xa 0)), (1, .int p0), (2, .long p1), (4, .int p2)] := hl
  refine lv_iload_n hx hb dX4_feed_0 rfl (lv_at hl 1 rfl) ?_
  have hPc := hP.sub (ws' := []) [] rfl
  have hFc : ∀ q : Nat, s.heap.size ≤ q → A q := fun q h => hA q (Nat.le_trans hS.1 h)
  have hKc := hK.sub (tys' := []) [] rfl
  refine vx_callv (vx_runS (As := [.int p0]) (rest := []) ⟨hx, hb, hml, hown, hts⟩ (c_X4_needSide l hfl dC dI p0 s.heap.size) (va_cwS 1 hts gX4_feed_X4_needSide rfl rfl rfl (by decide +kernel) ⟨Nat.le_of_ble_eq_true rfl, Nat.le_of_ble_eq_true rfl⟩) ⟨fun a U g mk q => by obtain ⟨q0, q1, qP, qK, qD, qZ⟩ := q; exact ⟨q0, q1, qP, va_K.moved (u := U) (U := U.calling g mk a) (Vm.Alike.refl U.vm) qK, qD, qZ.call⟩, fun U hU hW => ⟨rfl, by rw [hU], by rw [hU]; exact hPc, va_K.moved hW.alike hKc, zz_D (hD.sub (ws' := []) [] (by decide) rfl), hZ.go hS hFc hU hW⟩⟩ rfl rfl hl.1 rfl (lv_room (Nat.le_of_ble_eq_true rfl)) dX4_feed_1 ⟨(Nat.le_of_ble_eq_true rfl), (Nat.le_of_ble_eq_true rfl)⟩) hS (fun q h1 h2 => absurd h1 (Nat.not_lt.mpr h2)) hFc (fun q h1 h2 => absurd h1 (Nat.not_lt.mpr h2)) (fun E ce q9 u_284 t H1 locs ht hvm hw hB hz1 hk1 hS1 hce hcv hcl => ?_) (fun u_284 t H1 locs ht hvm hw hB hz1 hk1 hS1 => ?_)
  · skip
    exact vx_out (fun x h => (hno x h).elim) hlocks hce hcv hcl (fun t ht2 _ => ⟨(), trivial, Or.inl ⟨hB.1, if_neg hB.2⟩, hS1.F ht2⟩) hS1.2.2 (Nat.le_of_ble_eq_true rfl) (Nat.le_of_ble_eq_true rfl)
  have hP := zz_keep hP hk1
  have hS := hS1
  clear hS1
  generalize H1 = H at hP hS ht ⊢
  have hP : va_P (dC, dI) vwCl [(xa 0, .inr (4, [.ref (xa 1), .ref (xa 3), .ref (xa 5), .ref (xa 7), .ref (xa 16), .ref (xa 25), .int 3])), (xa 1, .inr (3, [.ref (xa 2), .int 0])), (xa 2, .inl (cI, 150, .inl (fun _ => 0))), (xa 3, .inr (3, [.ref (xa 4), .int 0])), (xa 4, .inl (cI, 150, .inl (fun _ => 0))), (xa 7, .inr (1, [.ref (xa 8), .ref (xa 10), .ref (xa 12), .ref (xa 14), .int 0, .int 0]))] H := hP
  refine W.widen (k := 1) (n := 6) (by omega) (by omega) ?_
  have w1 := hw
  rcases (show p0 = 0 ∨ p0 = 1 from w1) with rfl | rfl
  · skip
    refine lv_iload hx hb dX4_feed_4 (lv_at hl 3 rfl) ?_
    refine lv_iconst (v := 1) hx hb dX4_feed_6 (by decide) ?_
    refine lv_bipush (v := 8) hx hb dX4_feed_7 (by decide) ?_
    have hPc := hP.sub (ws' := []) [] rfl
    have hFc : ∀ q : Nat, H.size ≤ q → A q := fun q h => hA q (Nat.le_trans hS.1 h)
    have hKc := hK.sub (tys' := []) [] rfl
    refine vx_callv (vx_runS (As := [.int p2, .int 1, .int 8]) (rest := []) ⟨hx, hb, hml, hown, hts⟩ (c_X4_needWithin l hfl dC dI p2 1 8 H.size) (va_cwS 3 hts gX4_feed_X4_needWithin rfl rfl rfl (by decide +kernel) ⟨Nat.le_of_ble_eq_true rfl, Nat.le_of_ble_eq_true rfl⟩) ⟨fun a U g mk q => by obtain ⟨q0, q1, qP, qK, qD, qZ⟩ := q; exact ⟨q0, q1, qP, va_K.moved (u := U) (U := U.calling g mk a) (Vm.Alike.refl U.vm) qK, qD, qZ.call⟩, fun U hU hW => ⟨rfl, by rw [hU], by rw [hU]; exact hPc, va_K.moved hW.alike hKc, zz_D (hD.sub (ws' := []) [] (by decide) rfl), hZ.go hS hFc hU hW⟩⟩ rfl rfl hl.1 rfl (lv_room (Nat.le_of_ble_eq_true rfl)) dX4_feed_9 ⟨(Nat.le_of_ble_eq_true rfl), (Nat.le_of_ble_eq_true rfl)⟩) hS (fun q h1 h2 => absurd h1 (Nat.not_lt.mpr h2)) hFc (fun q h1 h2 => absurd h1 (Nat.not_lt.mpr h2)) (fun E ce q9 u_286 t H1 locs ht hvm hw hB hz1 hk1 hS1 hce hcv hcl => ?_) (fun u_286 t H1 locs ht hvm hw hB hz1 hk1 hS1 => ?_)
    · skip
      exact vx_out (fun x h => (hno x h).elim) hlocks hce hcv hcl (fun t ht2 _ => ⟨(), trivial, Or.inr ⟨hB.1, (if_pos (by decide)).trans (if_neg hB.2)⟩, hS1.F ht2⟩) hS1.2.2 (Nat.le_of_ble_eq_true rfl) (Nat.le_of_ble_eq_true rfl)
    have hP := zz_keep hP hk1
    have hS := hS1
    clear hS1
    generalize H1 = H at hP hS ht ⊢
    have hP : va_P (dC, dI) vwCl [(xa 0, .inr (4, [.ref (xa 1), .ref (xa 3), .ref (xa 5), .ref (xa 7), .ref (xa 16), .ref (xa 25), .int 3])), (xa 1, .inr (3, [.ref (xa 2), .int 0])), (xa 2, .inl (cI, 150, .inl (fun _ => 0))), (xa 3, .inr (3, [.ref (xa 4), .int 0])), (xa 4, .inl (cI, 150, .inl (fun _ => 0))), (xa 7, .inr (1, [.ref (xa 8), .ref (xa 10), .ref (xa 12), .ref (xa 14), .int 0, .int 0]))] H := hP
    refine W.widen (k := 2) (n := 12) (by omega) (by omega) ?_
    have w9 := hw
    obtain ⟨M, hM, hM2⟩ := zz_nat (M := 8) (n := 8) (by decide) w9
    subst hM2
    refine lv_aload_n hx hb dX4_feed_12 rfl (lv_at hl 0 rfl) ?_
    refine lv_iload_n hx hb dX4_feed_13 rfl (lv_at hl 1 rfl) ?_
    have hPc := hP.sub (ws' := [(xa 0, .inr (4, [.ref (xa 1), .ref (xa 3), .ref (xa 5), .ref (xa 7), .ref (xa 16), .ref (xa 25), .int 3]))]) [0] rfl
    have hFc : ∀ q : Nat, H.size ≤ q → A q := fun q h => hA q (Nat.le_trans hS.1 h)
    have hKc := hK.sub (tys' := []) [] rfl
    refine va_callr (va_runV (As := [.int 0]) (rest := []) ⟨hx, hb, hml, hown, hts⟩ (c_X4_rowOf0 l dC dI (xa 0) (xa 1) (xa 3) (xa 5) (xa 7) (xa 16) (xa 25) 3 H.size) (cwV 1 hts gX4_feed_X4_rowOf rfl rfl rfl (by decide +kernel) ⟨Nat.le_of_ble_eq_true rfl, Nat.le_of_ble_eq_true rfl⟩) ⟨fun a U g mk q => by obtain ⟨q0, q1, qP, qK, qD⟩ := q; exact ⟨q0, q1, qP, va_K.moved (u := U) (U := U.calling g mk a) (Vm.Alike.refl U.vm) qK, qD⟩, va_recv hKc hPc (ci := 4) (q0 := 0) rfl rfl, fun U hU hW => ⟨rfl, by rw [hU], by rw [hU]; exact hPc, va_K.moved hW.alike hKc, zz_D (hD.sub (ws' := [(xa 0, .inr (4, [.ref (xa 1), .ref (xa 3), .ref (xa 5), .ref (xa 7), .ref (xa 16), .ref (xa 25), .int 3]))]) [0] (by decide) rfl)⟩⟩ rfl rfl hl.1 rfl (lv_room (Nat.le_of_ble_eq_true rfl)) dX4_feed_14 ⟨(Nat.le_of_ble_eq_true rfl), (Nat.le_of_ble_eq_true rfl)⟩) hS (fun q h1 h2 => absurd h1 (Nat.not_lt.mpr h2)) hFc (fun u_288 r_287 t H1 locs ht hvm hw hB hz1 hk1 hS1 => ?_)
    have hP := zz_keep hP hk1
    have hS := hS1
    clear hS1
    generalize H1 = H at hP hS ht ⊢
    have hP : va_P (dC, dI) vwCl [(xa 0, .inr (4, [.ref (xa 1), .ref (xa 3), .ref (xa 5), .ref (xa 7), .ref (xa 16), .ref (xa 25), .int 3])), (xa 1, .inr (3, [.ref (xa 2), .int 0])), (xa 2, .inl (cI, 150, .inl (fun _ => 0))), (xa 3, .inr (3, [.ref (xa 4), .int 0])), (xa 4, .inl (cI, 150, .inl (fun _ => 0))), (xa 7, .inr (1, [.ref (xa 8), .ref (xa 10), .ref (xa 12), .ref (xa 14), .int 0, .int 0]))] H := hP
    obtain rfl : (xa 1) = r_287 := (show r_287 = (xa 1) from hB).symm
    refine lv_astore (lv' := [(5, .ref (xa 1)), (0, .ref (xa 0)), (1, .int 0), (2, .long p1), (4, .int (nI M))]) hx hb dX4_feed_17 hl (by decide) rfl (fun ls hl => ?_)
    refine lv_aload hx hb dX4_feed_19 (lv_at hl 0 rfl) ?_
    refine lv_iload hx hb dX4_feed_21 (lv_at hl 4 rfl) ?_
    have hPc := hP.sub (ws' := [(xa 1, .inr (3, [.ref (xa 2), .int 0])), (xa 2, .inl (cI, 150, .inl (fun _ => 0)))]) [1, 2] rfl
    have hFc : ∀ q : Nat, H.size ≤ q → A q := fun q h => hA q (Nat.le_trans hS.1 h)
    have hKc := hK.sub (tys' := [(cI, .int)]) [0] rfl
    refine va_callv (va_runS (As := [.ref (xa 1), .int (nI M)]) (rest := []) ⟨hx, hb, hml, hown, hts⟩ (c_X4_needRoom l dC dI cI (xa 1) (xa 2) 150 (fun _ => 0) (nI M) H.size (zz_room (by omega))) (va_cwS 2 hts gX4_feed_X4_needRoom rfl rfl rfl (by decide +kernel) ⟨Nat.le_of_ble_eq_true rfl, Nat.le_of_ble_eq_true rfl⟩) ⟨fun a U g mk q => by obtain ⟨q0, q1, qP, qK, qD⟩ := q; exact ⟨q0, q1, qP, va_K.moved (u := U) (U := U.calling g mk a) (Vm.Alike.refl U.vm) qK, qD⟩, fun U hU hW => ⟨rfl, by rw [hU], by rw [hU]; exact hPc, va_K.moved hW.alike hKc, zz_D (hD.sub (ws' := [(xa 1, .inr (3, [.ref (xa 2), .int 0])), (xa 2, .inl (cI, 150, .inl (fun _ => 0)))]) [1, 2] (by decide) rfl)⟩⟩ rfl rfl hl.1 rfl (lv_room (Nat.le_of_ble_eq_true rfl)) dX4_feed_23 ⟨(Nat.le_of_ble_eq_true rfl), (Nat.le_of_ble_eq_true rfl)⟩) hS (fun q h1 h2 => absurd h1 (Nat.not_lt.mpr h2)) hFc (fun u_290 t H1 locs ht hvm hw hB hz1 hk1 hS1 => ?_)
    have hP := zz_keep hP hk1
    have hS := hS1
    clear hS1
    generalize H1 = H at hP hS ht ⊢
    have hP : va_P (dC, dI) vwCl [(xa 0, .inr (4, [.ref (xa 1), .ref (xa 3), .ref (xa 5), .ref (xa 7), .ref (xa 16), .ref (xa 25), .int 3])), (xa 1, .inr (3, [.ref (xa 2), .int 0])), (xa 2, .inl (cI, 150, .inl (fun _ => 0))), (xa 3, .inr (3, [.ref (xa 4), .int 0])), (xa 4, .inl (cI, 150, .inl (fun _ => 0))), (xa 7, .inr (1, [.ref (xa 8), .ref (xa 10), .ref (xa 12), .ref (xa 14), .int 0, .int 0]))] H := hP
    have w23 := hw
    refine lv_iload hx hb dX4_feed_26 (lv_at hl 4 rfl) ?_
    refine lv_iconst (v := 1) hx hb dX4_feed_28 (by decide) ?_
    refine lv_isub hx hb dX4_feed_29 ?_
    refine lv_topi (fun x_291 ex_291 => ?_)
    refine lv_istore (lv' := [(6, .int x_291), (5, .ref (xa 1)), (0, .ref (xa 0)), (1, .int 0), (2, .long p1), (4, .int (nI M))]) hx hb dX4_feed_30 hl (by decide) rfl (fun ls hl => ?_)
    refine W.widen (k := 2) (n := 12) (by omega) (by omega) ?_
    refine lo_feed dC dI cI xa 0 p1 (nI M) (xa 1) (xa 2) M hM hx hb hml hown hts hA hK ?_ (M + 1) 0 M x_291 0 (fun _ => 0) _ _ ls (by omega) nI_0.symm ex_291 (by omega) (hP.sub [0, 1, 2, 5] rfl) (hD.sub [0, 1, 2, 5] (by decide) rfl) hS (lv_sub hl [0, 1, 4, 2] rfl)
    intro k t x kc kg H locs ls hkc9 hP hD hS hl
    refine lv_aload_n hx hb dX4_feed_60 rfl (lv_at hl 3 rfl) ?_
    refine va_get (D := (dC, dI)) (ci := 4) (v := .ref (xa 7)) (C := RX4) (T := TX4) (N := 7) hx hb hts (by decide +kernel) hown hK hP 0 rfl rfl 3 (by decide) (hts (.fieldLink RX4 27 "DeltaCodec" "plan" "LDeltaCodec$Plan;") (by decide +kernel)) (fun _ h9 => h9) rfl dX4_feed_61 ?_
    have hPc := hP.sub (ws' := [(xa 7, .inr (1, [.ref (xa 8), .ref (xa 10), .ref (xa 12), .ref (xa 14), .int 0, .int 0]))]) [3] rfl
    have hDc := hD.sub (ws' := [(xa 7, .inr (1, [.ref (xa 8), .ref (xa 10), .ref (xa 12), .ref (xa 14), .int 0, .int 0]))]) [3] (by decide) rfl
    have hFc := va_free (wc := [(xa 7, .inr (1, [.ref (xa 8), .ref (xa 10), .ref (xa 12), .ref (xa 14), .int 0, .int 0]))]) hD hS hA [3] rfl
    have hKc := hK.sub (tys' := []) [] rfl
    refine va_callv (va_runV (As := []) (rest := []) ⟨hx, hb, hml, hown, hts⟩ (c_X1_forget l dC dI (xa 7) (xa 8) (xa 10) (xa 12) (xa 14) 0 0 H.size) (cwV 0 hts gX4_feed_X1_forget rfl rfl rfl (by decide +kernel) ⟨Nat.le_of_ble_eq_true rfl, Nat.le_of_ble_eq_true rfl⟩) ⟨fun a U g mk q => by obtain ⟨q0, q1, qP, qK, qD⟩ := q; exact ⟨q0, q1, qP, va_K.moved (u := U) (U := U.calling g mk a) (Vm.Alike.refl U.vm) qK, qD⟩, va_recv hKc hPc (ci := 1) (q0 := 0) rfl rfl, fun U hU hW => ⟨rfl, by rw [hU], by rw [hU]; exact hPc, va_K.moved hW.alike hKc, zz_D hDc⟩⟩ rfl rfl hl.1 rfl (lv_room (Nat.le_of_ble_eq_true rfl)) dX4_feed_64 ⟨(Nat.le_of_ble_eq_true rfl), (Nat.le_of_ble_eq_true rfl)⟩) hS (fun q _ h => hFc q h) hFc (fun u_293 t H1 locs ht hvm hw hB hz1 hk1 hS1 => ?_)
    obtain ⟨hP1, hD1⟩ := hB
    rw [ht] at hP1
    obtain ⟨hP, hD⟩ := va_join (wr := [(xa 0, .inr (4, [.ref (xa 1), .ref (xa 3), .ref (xa 5), .ref (xa 7), .ref (xa 16), .ref (xa 25), .int 3])), (xa 1, .inr (3, [.ref (xa 2), .int kc])), (xa 2, .inl (cI, 150, .inl kg))]) (w1 := [(xa 7, .inr (1, [.ref (xa 8), .ref (xa 10), .ref (xa 12), .ref (xa 14), .int 0, .int 0]))]) hP hD [3] [0, 1, 2] rfl rfl (by decide) (by decide) hk1 hFc hP1 hD1
    have hS := hS1
    clear hS1
    generalize H1 = H at hP hS ht ⊢
    have hP : va_P (dC, dI) vwCl [(xa 0, .inr (4, [.ref (xa 1), .ref (xa 3), .ref (xa 5), .ref (xa 7), .ref (xa 16), .ref (xa 25), .int 3])), (xa 1, .inr (3, [.ref (xa 2), .int kc])), (xa 2, .inl (cI, 150, .inl kg)), (xa 7, .inr (1, [.ref (xa 8), .ref (xa 10), .ref (xa 12), .ref (xa 14), .int 0, .int 0]))] H := hP
    have hD : va_D A [(xa 0, .inr (4, [.ref (xa 1), .ref (xa 3), .ref (xa 5), .ref (xa 7), .ref (xa 16), .ref (xa 25), .int 3])), (xa 1, .inr (3, [.ref (xa 2), .int kc])), (xa 2, .inl (cI, 150, .inl kg)), (xa 7, .inr (1, [.ref (xa 8), .ref (xa 10), .ref (xa 12), .ref (xa 14), .int 0, .int 0]))] := hD
    have w64 := hw
    refine lv_aload hx hb dX4_feed_67 (lv_at hl 1 rfl) ?_
    have hPc := hP.sub (ws' := [(xa 1, .inr (3, [.ref (xa 2), .int kc]))]) [1] rfl
    have hFc : ∀ q : Nat, H.size ≤ q → A q := fun q h => hA q (Nat.le_trans hS.1 h)
    have hKc := hK.sub (tys' := []) [] rfl
    refine va_calli (va_runV (As := []) (rest := []) ⟨hx, hb, hml, hown, hts⟩ (c_X3_count l dC dI (xa 1) (xa 2) kc H.size) (cwV 0 hts gX4_feed_X3_count rfl rfl rfl (by decide +kernel) ⟨Nat.le_of_ble_eq_true rfl, Nat.le_of_ble_eq_true rfl⟩) ⟨fun a U g mk q => by obtain ⟨q0, q1, qP, qK, qD⟩ := q; exact ⟨q0, q1, qP, va_K.moved (u := U) (U := U.calling g mk a) (Vm.Alike.refl U.vm) qK, qD⟩, va_recv hKc hPc (ci := 3) (q0 := 0) rfl rfl, fun U hU hW => ⟨rfl, by rw [hU], by rw [hU]; exact hPc, va_K.moved hW.alike hKc, zz_D (hD.sub (ws' := [(xa 1, .inr (3, [.ref (xa 2), .int kc]))]) [1] (by decide) rfl)⟩⟩ rfl rfl hl.1 rfl (lv_room (Nat.le_of_ble_eq_true rfl)) dX4_feed_69 ⟨(Nat.le_of_ble_eq_true rfl), (Nat.le_of_ble_eq_true rfl)⟩) hS (fun q h1 h2 => absurd h1 (Nat.not_lt.mpr h2)) hFc (fun r_294 u_295 t H1 locs ht hvm hw hB hz1 hk1 hS1 => ?_)
    have hP := zz_keep hP hk1
    have hS := hS1
    clear hS1
    generalize H1 = H at hP hS ht ⊢
    have hP : va_P (dC, dI) vwCl [(xa 0, .inr (4, [.ref (xa 1), .ref (xa 3), .ref (xa 5), .ref (xa 7), .ref (xa 16), .ref (xa 25), .int 3])), (xa 1, .inr (3, [.ref (xa 2), .int kc])), (xa 2, .inl (cI, 150, .inl kg)), (xa 7, .inr (1, [.ref (xa 8), .ref (xa 10), .ref (xa 12), .ref (xa 14), .int 0, .int 0]))] H := hP
    obtain rfl : kc = r_294 := (show r_294 = kc from hw).symm
    refine vx_ret ?_
    exact W.iret (v := kc) hx hb hr (fun t ht hW => ⟨⟨kc, (), rfl, ⟨hkc9, (if_pos (by decide)).trans (if_pos w9)⟩, trivial⟩, hS.F ht⟩) hS.2.2 dX4_feed_72
  · skip
    refine lv_iload hx hb dX4_feed_4 (lv_at hl 3 rfl) ?_
    refine lv_iconst (v := 1) hx hb dX4_feed_6 (by decide) ?_
    refine lv_bipush (v := 8) hx hb dX4_feed_7 (by decide) ?_
    have hPc := hP.sub (ws' := []) [] rfl
    have hFc : ∀ q : Nat, H.size ≤ q → A q := fun q h => hA q (Nat.le_trans hS.1 h)
    have hKc := hK.sub (tys' := []) [] rfl
    refine vx_callv (vx_runS (As := [.int p2, .int 1, .int 8]) (rest := []) ⟨hx, hb, hml, hown, hts⟩ (c_X4_needWithin l hfl dC dI p2 1 8 H.size) (va_cwS 3 hts gX4_feed_X4_needWithin rfl rfl rfl (by decide +kernel) ⟨Nat.le_of_ble_eq_true rfl, Nat.le_of_ble_eq_true rfl⟩) ⟨fun a U g mk q => by obtain ⟨q0, q1, qP, qK, qD, qZ⟩ := q; exact ⟨q0, q1, qP, va_K.moved (u := U) (U := U.calling g mk a) (Vm.Alike.refl U.vm) qK, qD, qZ.call⟩, fun U hU hW => ⟨rfl, by rw [hU], by rw [hU]; exact hPc, va_K.moved hW.alike hKc, zz_D (hD.sub (ws' := []) [] (by decide) rfl), hZ.go hS hFc hU hW⟩⟩ rfl rfl hl.1 rfl (lv_room (Nat.le_of_ble_eq_true rfl)) dX4_feed_9 ⟨(Nat.le_of_ble_eq_true rfl), (Nat.le_of_ble_eq_true rfl)⟩) hS (fun q h1 h2 => absurd h1 (Nat.not_lt.mpr h2)) hFc (fun q h1 h2 => absurd h1 (Nat.not_lt.mpr h2)) (fun E ce q9 u_297 t H1 locs ht hvm hw hB hz1 hk1 hS1 hce hcv hcl => ?_) (fun u_297 t H1 locs ht hvm hw hB hz1 hk1 hS1 => ?_)
    · skip
      exact vx_out (fun x h => (hno x h).elim) hlocks hce hcv hcl (fun t ht2 _ => ⟨(), trivial, Or.inr ⟨hB.1, (if_pos (by decide)).trans (if_neg hB.2)⟩, hS1.F ht2⟩) hS1.2.2 (Nat.le_of_ble_eq_true rfl) (Nat.le_of_ble_eq_true rfl)
    have hP := zz_keep hP hk1
    have hS := hS1
    clear hS1
    generalize H1 = H at hP hS ht ⊢
    have hP : va_P (dC, dI) vwCl [(xa 0, .inr (4, [.ref (xa 1), .ref (xa 3), .ref (xa 5), .ref (xa 7), .ref (xa 16), .ref (xa 25), .int 3])), (xa 1, .inr (3, [.ref (xa 2), .int 0])), (xa 2, .inl (cI, 150, .inl (fun _ => 0))), (xa 3, .inr (3, [.ref (xa 4), .int 0])), (xa 4, .inl (cI, 150, .inl (fun _ => 0))), (xa 7, .inr (1, [.ref (xa 8), .ref (xa 10), .ref (xa 12), .ref (xa 14), .int 0, .int 0]))] H := hP
    refine W.widen (k := 2) (n := 12) (by omega) (by omega) ?_
    have w9 := hw
    obtain ⟨M, hM, hM2⟩ := zz_nat (M := 8) (n := 8) (by decide) w9
    subst hM2
    refine lv_aload_n hx hb dX4_feed_12 rfl (lv_at hl 0 rfl) ?_
    refine lv_iload_n hx hb dX4_feed_13 rfl (lv_at hl 1 rfl) ?_
    have hPc := hP.sub (ws' := [(xa 0, .inr (4, [.ref (xa 1), .ref (xa 3), .ref (xa 5), .ref (xa 7), .ref (xa 16), .ref (xa 25), .int 3]))]) [0] rfl
    have hFc : ∀ q : Nat, H.size ≤ q → A q := fun q h => hA q (Nat.le_trans hS.1 h)
    have hKc := hK.sub (tys' := []) [] rfl
    refine va_callr (va_runV (As := [.int 1]) (rest := []) ⟨hx, hb, hml, hown, hts⟩ (c_X4_rowOf1 l dC dI (xa 0) (xa 1) (xa 3) (xa 5) (xa 7) (xa 16) (xa 25) 3 H.size) (cwV 1 hts gX4_feed_X4_rowOf rfl rfl rfl (by decide +kernel) ⟨Nat.le_of_ble_eq_true rfl, Nat.le_of_ble_eq_true rfl⟩) ⟨fun a U g mk q => by obtain ⟨q0, q1, qP, qK, qD⟩ := q; exact ⟨q0, q1, qP, va_K.moved (u := U) (U := U.calling g mk a) (Vm.Alike.refl U.vm) qK, qD⟩, va_recv hKc hPc (ci := 4) (q0 := 0) rfl rfl, fun U hU hW => ⟨rfl, by rw [hU], by rw [hU]; exact hPc, va_K.moved hW.alike hKc, zz_D (hD.sub (ws' := [(xa 0, .inr (4, [.ref (xa 1), .ref (xa 3), .ref (xa 5), .ref (xa 7), .ref (xa 16), .ref (xa 25), .int 3]))]) [0] (by decide) rfl)⟩⟩ rfl rfl hl.1 rfl (lv_room (Nat.le_of_ble_eq_true rfl)) dX4_feed_14 ⟨(Nat.le_of_ble_eq_true rfl), (Nat.le_of_ble_eq_true rfl)⟩) hS (fun q h1 h2 => absurd h1 (Nat.not_lt.mpr h2)) hFc (fun u_299 r_298 t H1 locs ht hvm hw hB hz1 hk1 hS1 => ?_)
    have hP := zz_keep hP hk1
    have hS := hS1
    clear hS1
    generalize H1 = H at hP hS ht ⊢
    have hP : va_P (dC, dI) vwCl [(xa 0, .inr (4, [.ref (xa 1), .ref (xa 3), .ref (xa 5), .ref (xa 7), .ref (xa 16), .ref (xa 25), .int 3])), (xa 1, .inr (3, [.ref (xa 2), .int 0])), (xa 2, .inl (cI, 150, .inl (fun _ => 0))), (xa 3, .inr (3, [.ref (xa 4), .int 0])), (xa 4, .inl (cI, 150, .inl (fun _ => 0))), (xa 7, .inr (1, [.ref (xa 8), .ref (xa 10), .ref (xa 12), .ref (xa 14), .int 0, .int 0]))] H := hP
    obtain rfl : (xa 3) = r_298 := (show r_298 = (xa 3) from hB).symm
    refine lv_astore (lv' := [(5, .ref (xa 3)), (0, .ref (xa 0)), (1, .int 1), (2, .long p1), (4, .int (nI M))]) hx hb dX4_feed_17 hl (by decide) rfl (fun ls hl => ?_)
    refine lv_aload hx hb dX4_feed_19 (lv_at hl 0 rfl) ?_
    refine lv_iload hx hb dX4_feed_21 (lv_at hl 4 rfl) ?_
    have hPc := hP.sub (ws' := [(xa 3, .inr (3, [.ref (xa 4), .int 0])), (xa 4, .inl (cI, 150, .inl (fun _ => 0)))]) [3, 4] rfl
    have hFc : ∀ q : Nat, H.size ≤ q → A q := fun q h => hA q (Nat.le_trans hS.1 h)
    have hKc := hK.sub (tys' := [(cI, .int)]) [0] rfl
    refine va_callv (va_runS (As := [.ref (xa 3), .int (nI M)]) (rest := []) ⟨hx, hb, hml, hown, hts⟩ (c_X4_needRoom l dC dI cI (xa 3) (xa 4) 150 (fun _ => 0) (nI M) H.size (zz_room (by omega))) (va_cwS 2 hts gX4_feed_X4_needRoom rfl rfl rfl (by decide +kernel) ⟨Nat.le_of_ble_eq_true rfl, Nat.le_of_ble_eq_true rfl⟩) ⟨fun a U g mk q => by obtain ⟨q0, q1, qP, qK, qD⟩ := q; exact ⟨q0, q1, qP, va_K.moved (u := U) (U := U.calling g mk a) (Vm.Alike.refl U.vm) qK, qD⟩, fun U hU hW => ⟨rfl, by rw [hU], by rw [hU]; exact hPc, va_K.moved hW.alike hKc, zz_D (hD.sub (ws' := [(xa 3, .inr (3, [.ref (xa 4), .int 0])), (xa 4, .inl (cI, 150, .inl (fun _ => 0)))]) [3, 4] (by decide) rfl)⟩⟩ rfl rfl hl.1 rfl (lv_room (Nat.le_of_ble_eq_true rfl)) dX4_feed_23 ⟨(Nat.le_of_ble_eq_true rfl), (Nat.le_of_ble_eq_true rfl)⟩) hS (fun q h1 h2 => absurd h1 (Nat.not_lt.mpr h2)) hFc (fun u_301 t H1 locs ht hvm hw hB hz1 hk1 hS1 => ?_)
    have hP := zz_keep hP hk1
    have hS := hS1
    clear hS1
    generalize H1 = H at hP hS ht ⊢
    have hP : va_P (dC, dI) vwCl [(xa 0, .inr (4, [.ref (xa 1), .ref (xa 3), .ref (xa 5), .ref (xa 7), .ref (xa 16), .ref (xa 25), .int 3])), (xa 1, .inr (3, [.ref (xa 2), .int 0])), (xa 2, .inl (cI, 150, .inl (fun _ => 0))), (xa 3, .inr (3, [.ref (xa 4), .int 0])), (xa 4, .inl (cI, 150, .inl (fun _ => 0))), (xa 7, .inr (1, [.ref (xa 8), .ref (xa 10), .ref (xa 12), .ref (xa 14), .int 0, .int 0]))] H := hP
    have w23 := hw
    refine lv_iload hx hb dX4_feed_26 (lv_at hl 4 rfl) ?_
    refine lv_iconst (v := 1) hx hb dX4_feed_28 (by decide) ?_
    refine lv_isub hx hb dX4_feed_29 ?_
    refine lv_topi (fun x_302 ex_302 => ?_)
    refine lv_istore (lv' := [(6, .int x_302), (5, .ref (xa 3)), (0, .ref (xa 0)), (1, .int 1), (2, .long p1), (4, .int (nI M))]) hx hb dX4_feed_30 hl (by decide) rfl (fun ls hl => ?_)
    refine W.widen (k := 2) (n := 12) (by omega) (by omega) ?_
    refine lo_feed dC dI cI xa 1 p1 (nI M) (xa 3) (xa 4) M hM hx hb hml hown hts hA hK ?_ (M + 1) 0 M x_302 0 (fun _ => 0) _ _ ls (by omega) nI_0.symm ex_302 (by omega) (hP.sub [0, 3, 4, 5] rfl) (hD.sub [0, 3, 4, 5] (by decide) rfl) hS (lv_sub hl [0, 1, 4, 2] rfl)
    intro k t x kc kg H locs ls hkc9 hP hD hS hl
    refine lv_aload_n hx hb dX4_feed_60 rfl (lv_at hl 3 rfl) ?_
    refine va_get (D := (dC, dI)) (ci := 4) (v := .ref (xa 7)) (C := RX4) (T := TX4) (N := 7) hx hb hts (by decide +kernel) hown hK hP 0 rfl rfl 3 (by decide) (hts (.fieldLink RX4 27 "DeltaCodec" "plan" "LDeltaCodec$Plan;") (by decide +kernel)) (fun _ h9 => h9) rfl dX4_feed_61 ?_
    have hPc := hP.sub (ws' := [(xa 7, .inr (1, [.ref (xa 8), .ref (xa 10), .ref (xa 12), .ref (xa 14), .int 0, .int 0]))]) [3] rfl
    have hDc := hD.sub (ws' := [(xa 7, .inr (1, [.ref (xa 8), .ref (xa 10), .ref (xa 12), .ref (xa 14), .int 0, .int 0]))]) [3] (by decide) rfl
    have hFc := va_free (wc := [(xa 7, .inr (1, [.ref (xa 8), .ref (xa 10), .ref (xa 12), .ref (xa 14), .int 0, .int 0]))]) hD hS hA [3] rfl
    have hKc := hK.sub (tys' := []) [] rfl
    refine va_callv (va_runV (As := []) (rest := []) ⟨hx, hb, hml, hown, hts⟩ (c_X1_forget l dC dI (xa 7) (xa 8) (xa 10) (xa 12) (xa 14) 0 0 H.size) (cwV 0 hts gX4_feed_X1_forget rfl rfl rfl (by decide +kernel) ⟨Nat.le_of_ble_eq_true rfl, Nat.le_of_ble_eq_true rfl⟩) ⟨fun a U g mk q => by obtain ⟨q0, q1, qP, qK, qD⟩ := q; exact ⟨q0, q1, qP, va_K.moved (u := U) (U := U.calling g mk a) (Vm.Alike.refl U.vm) qK, qD⟩, va_recv hKc hPc (ci := 1) (q0 := 0) rfl rfl, fun U hU hW => ⟨rfl, by rw [hU], by rw [hU]; exact hPc, va_K.moved hW.alike hKc, zz_D hDc⟩⟩ rfl rfl hl.1 rfl (lv_room (Nat.le_of_ble_eq_true rfl)) dX4_feed_64 ⟨(Nat.le_of_ble_eq_true rfl), (Nat.le_of_ble_eq_true rfl)⟩) hS (fun q _ h => hFc q h) hFc (fun u_304 t H1 locs ht hvm hw hB hz1 hk1 hS1 => ?_)
    obtain ⟨hP1, hD1⟩ := hB
    rw [ht] at hP1
    obtain ⟨hP, hD⟩ := va_join (wr := [(xa 0, .inr (4, [.ref (xa 1), .ref (xa 3), .ref (xa 5), .ref (xa 7), .ref (xa 16), .ref (xa 25), .int 3])), (xa 3, .inr (3, [.ref (xa 4), .int kc])), (xa 4, .inl (cI, 150, .inl kg))]) (w1 := [(xa 7, .inr (1, [.ref (xa 8), .ref (xa 10), .ref (xa 12), .ref (xa 14), .int 0, .int 0]))]) hP hD [3] [0, 1, 2] rfl rfl (by decide) (by decide) hk1 hFc hP1 hD1
    have hS := hS1
    clear hS1
    generalize H1 = H at hP hS ht ⊢
    have hP : va_P (dC, dI) vwCl [(xa 0, .inr (4, [.ref (xa 1), .ref (xa 3), .ref (xa 5), .ref (xa 7), .ref (xa 16), .ref (xa 25), .int 3])), (xa 3, .inr (3, [.ref (xa 4), .int kc])), (xa 4, .inl (cI, 150, .inl kg)), (xa 7, .inr (1, [.ref (xa 8), .ref (xa 10), .ref (xa 12), .ref (xa 14), .int 0, .int 0]))] H := hP
    have hD : va_D A [(xa 0, .inr (4, [.ref (xa 1), .ref (xa 3), .ref (xa 5), .ref (xa 7), .ref (xa 16), .ref (xa 25), .int 3])), (xa 3, .inr (3, [.ref (xa 4), .int kc])), (xa 4, .inl (cI, 150, .inl kg)), (xa 7, .inr (1, [.ref (xa 8), .ref (xa 10), .ref (xa 12), .ref (xa 14), .int 0, .int 0]))] := hD
    have w64 := hw
    refine lv_aload hx hb dX4_feed_67 (lv_at hl 1 rfl) ?_
    have hPc := hP.sub (ws' := [(xa 3, .inr (3, [.ref (xa 4), .int kc]))]) [1] rfl
    have hFc : ∀ q : Nat, H.size ≤ q → A q := fun q h => hA q (Nat.le_trans hS.1 h)
    have hKc := hK.sub (tys' := []) [] rfl
    refine va_calli (va_runV (As := []) (rest := []) ⟨hx, hb, hml, hown, hts⟩ (c_X3_count l dC dI (xa 3) (xa 4) kc H.size) (cwV 0 hts gX4_feed_X3_count rfl rfl rfl (by decide +kernel) ⟨Nat.le_of_ble_eq_true rfl, Nat.le_of_ble_eq_true rfl⟩) ⟨fun a U g mk q => by obtain ⟨q0, q1, qP, qK, qD⟩ := q; exact ⟨q0, q1, qP, va_K.moved (u := U) (U := U.calling g mk a) (Vm.Alike.refl U.vm) qK, qD⟩, va_recv hKc hPc (ci := 3) (q0 := 0) rfl rfl, fun U hU hW => ⟨rfl, by rw [hU], by rw [hU]; exact hPc, va_K.moved hW.alike hKc, zz_D (hD.sub (ws' := [(xa 3, .inr (3, [.ref (xa 4), .int kc]))]) [1] (by decide) rfl)⟩⟩ rfl rfl hl.1 rfl (lv_room (Nat.le_of_ble_eq_true rfl)) dX4_feed_69 ⟨(Nat.le_of_ble_eq_true rfl), (Nat.le_of_ble_eq_true rfl)⟩) hS (fun q h1 h2 => absurd h1 (Nat.not_lt.mpr h2)) hFc (fun r_305 u_306 t H1 locs ht hvm hw hB hz1 hk1 hS1 => ?_)
    have hP := zz_keep hP hk1
    have hS := hS1
    clear hS1
    generalize H1 = H at hP hS ht ⊢
    have hP : va_P (dC, dI) vwCl [(xa 0, .inr (4, [.ref (xa 1), .ref (xa 3), .ref (xa 5), .ref (xa 7), .ref (xa 16), .ref (xa 25), .int 3])), (xa 3, .inr (3, [.ref (xa 4), .int kc])), (xa 4, .inl (cI, 150, .inl kg)), (xa 7, .inr (1, [.ref (xa 8), .ref (xa 10), .ref (xa 12), .ref (xa 14), .int 0, .int 0]))] H := hP
    obtain rfl : kc = r_305 := (show r_305 = kc from hw).symm
    refine vx_ret ?_
    exact W.iret (v := kc) hx hb hr (fun t ht hW => ⟨⟨kc, (), rfl, ⟨hkc9, (if_pos (by decide)).trans (if_pos w9)⟩, trivial⟩, hS.F ht⟩) hS.2.2 dX4_feed_72
set_option maxHeartbeats 4000000 in
set_option maxRecDepth 100000 in
theorem lo_fill2 {p : Program} {l : Launch} {e : Env} {s : State} {m : MethodId} {args : Array Value} {below : List Frame} {meth : Method} {c : Code} {Q : State → Prop} {A : Nat → Prop} (dC : Nat → ClassId) (dI : Nat → Nat → Nat) (cI : ClassId) (xa : Nat → Nat) (p0 : Int32) (p1 : Int32) (p2 : Int32) (rr : Nat) (ra : Nat) (M : Nat) (hM : M ≤ 150) (hx : p.tables.exec = Jvm.exec) (hb : c.code = cX4_fill) (hml : c.maxLocals = 6) (hown : s.vm.findClass RX4 = some m.cls) (hts : ∀ w ∈ wsX4_fill, w.before args s = true) (hA : ∀ q : Nat, s.heap.size ≤ q → A q) (hK : va_K (dC, dI) vwCl [(cI, .int)] s)
    (kk : ∀ (k : Nat) (x : Int32) (kc : Int32) (kg : Nat → Int32) (H : Heap) (locs : List Loc) (ls : Array Slot), kc = nI M → va_P (dC, dI) vwCl [(xa 0, .inr (4, [.ref (xa 1), .ref (xa 3), .ref (xa 5), .ref (xa 7), .ref (xa 16), .ref (xa 25), .int 3])), (rr, .inr (3, [.ref ra, .int kc])), (ra, .inl (cI, 150, .inl kg)), (xa 7, .inr (1, [.ref (xa 8), .ref (xa 10), .ref (xa 12), .ref (xa 14), .int 0, .int 0]))] H → va_D A [(xa 0, .inr (4, [.ref (xa 1), .ref (xa 3), .ref (xa 5), .ref (xa 7), .ref (xa 16), .ref (xa 25), .int 3])), (rr, .inr (3, [.ref ra, .int kc])), (ra, .inl (cI, 150, .inl kg)), (xa 7, .inr (1, [.ref (xa 8), .ref (xa 10), .ref (xa 12), .ref (xa 14), .int 0, .int 0]))] → va_S A s.heap H locs → lv_has ls 6 [(5, .int x), (4, .ref rr), (3, .int (nI M)), (2, .int p1), (0, .ref (xa 0))] → W p l e (headSpec wsX4_fill ({ frames := 7, cells := 3, slots := 18, locals := 112 })).room s m args below meth c H locs 3 18 Q (F0 m 54 ls []))
    : ∀ (j : Nat) (k : Nat) (x : Int32) (kc : Int32) (kg : Nat → Int32) (H : Heap) (locs : List Loc) (ls : Array Slot), M - k < j → (kc = nI k) → (x = nI k) → (k ≤ M) → va_P (dC, dI) vwCl [(xa 0, .inr (4, [.ref (xa 1), .ref (xa 3), .ref (xa 5), .ref (xa 7), .ref (xa 16), .ref (xa 25), .int 3])), (rr, .inr (3, [.ref ra, .int kc])), (ra, .inl (cI, 150, .inl kg)), (xa 7, .inr (1, [.ref (xa 8), .ref (xa 10), .ref (xa 12), .ref (xa 14), .int 0, .int 0]))] H → va_D A [(xa 0, .inr (4, [.ref (xa 1), .ref (xa 3), .ref (xa 5), .ref (xa 7), .ref (xa 16), .ref (xa 25), .int 3])), (rr, .inr (3, [.ref ra, .int kc])), (ra, .inl (cI, 150, .inl kg)), (xa 7, .inr (1, [.ref (xa 8), .ref (xa 10), .ref (xa 12), .ref (xa 14), .int 0, .int 0]))] → va_S A s.heap H locs → lv_has ls 6 [(5, .int x), (4, .ref rr), (3, .int (nI M)), (2, .int p1), (0, .ref (xa 0))] → W p l e (headSpec wsX4_fill ({ frames := 7, cells := 3, slots := 18, locals := 112 })).room s m args below meth c H locs 3 18 Q (F0 m 36 ls []) := by
  intro j
  induction j with
  | zero => intro k x kc kg H locs ls hj; omega
  | succ j ih =>
    intro k x kc kg H locs ls hj hkc hx1 hkt hP hD hS hl
    refine lv_iload hx hb dX4_fill_36 (lv_at hl 0 rfl) ?_
    refine lv_iload_n hx hb dX4_fill_38 rfl (lv_at hl 2 rfl) ?_
    refine lv_icmp_ge (tgt := 54) hx hb dX4_fill_39 (by decide) (fun c39 => ?_) (fun c39 => ?_)
    · skip
      exact kk k x kc kg H locs ls (by rw [hkc, show k = M from Nat.le_antisymm hkt ((nI_leI (by omega) (by omega)).mp (hx1 ▸ c39))]) (hP.sub [0, 1, 2, 3] rfl) (hD.sub [0, 1, 2, 3] (by decide) rfl) hS (lv_sub hl [0, 1, 2, 3, 4] rfl)
    · skip
      have hlt : k < M := Nat.lt_of_not_le (fun q => c39 (by rw [hx1]; exact nI_le q (by omega)))
      refine lv_aload hx hb dX4_fill_42 (lv_at hl 1 rfl) ?_
      refine lv_iload_n hx hb dX4_fill_44 rfl (lv_at hl 3 rfl) ?_
      have hPc := hP.sub (ws' := [(rr, .inr (3, [.ref ra, .int kc])), (ra, .inl (cI, 150, .inl kg))]) [1, 2] rfl
      have hDc := hD.sub (ws' := [(rr, .inr (3, [.ref ra, .int kc])), (ra, .inl (cI, 150, .inl kg))]) [1, 2] (by decide) rfl
      have hFc := va_free (wc := [(rr, .inr (3, [.ref ra, .int kc])), (ra, .inl (cI, 150, .inl kg))]) hD hS hA [1, 2] rfl
      have hKc := hK.sub (tys' := [(cI, .int)]) [0] rfl
      refine va_callv (va_runV (As := [.int p1]) (rest := []) ⟨hx, hb, hml, hown, hts⟩ (c_X3_append l dC dI cI rr ra 150 kg kc p1 H.size (by rw [hkc]; exact nI_pos (by omega)) (by rw [hkc]; exact nI_ge (by omega) (by omega)) (by rw [hkc]; exact vp_in_nI (by omega) (by omega))) (cwV 1 hts gX4_fill_X3_append rfl rfl rfl (by decide +kernel) ⟨Nat.le_of_ble_eq_true rfl, Nat.le_of_ble_eq_true rfl⟩) ⟨fun a U g mk q => by obtain ⟨q0, q1, qP, qK, qD⟩ := q; exact ⟨q0, q1, qP, va_K.moved (u := U) (U := U.calling g mk a) (Vm.Alike.refl U.vm) qK, qD⟩, va_recv hKc hPc (ci := 3) (q0 := 0) rfl rfl, fun U hU hW => ⟨rfl, by rw [hU], by rw [hU]; exact hPc, va_K.moved hW.alike hKc, zz_D hDc⟩⟩ rfl rfl hl.1 rfl (lv_room (Nat.le_of_ble_eq_true rfl)) dX4_fill_45 ⟨(Nat.le_of_ble_eq_true rfl), (Nat.le_of_ble_eq_true rfl)⟩) hS (fun q _ h => hFc q h) hFc (fun u_308 t H1 locs ht hvm hw hB hz1 hk1 hS1 => ?_)
      obtain ⟨hP1, hD1⟩ := hB
      rw [ht] at hP1
      obtain ⟨hP, hD⟩ := va_join (wr := [(xa 0, .inr (4, [.ref (xa 1), .ref (xa 3), .ref (xa 5), .ref (xa 7), .ref (xa 16), .ref (xa 25), .int 3])), (xa 7, .inr (1, [.ref (xa 8), .ref (xa 10), .ref (xa 12), .ref (xa 14), .int 0, .int 0]))]) (w1 := [(rr, .inr (3, [.ref ra, .int (kc + 1)])), (ra, .inl (cI, 150, .inl u_308))]) hP hD [1, 2] [0, 3] rfl rfl (by decide) (by decide) hk1 hFc hP1 hD1
      have hS := hS1
      clear hS1
      generalize H1 = H at hP hS ht ⊢
      have hP : va_P (dC, dI) vwCl [(xa 0, .inr (4, [.ref (xa 1), .ref (xa 3), .ref (xa 5), .ref (xa 7), .ref (xa 16), .ref (xa 25), .int 3])), (xa 7, .inr (1, [.ref (xa 8), .ref (xa 10), .ref (xa 12), .ref (xa 14), .int 0, .int 0])), (rr, .inr (3, [.ref ra, .int (kc + 1)])), (ra, .inl (cI, 150, .inl u_308))] H := hP
      have hD : va_D A [(xa 0, .inr (4, [.ref (xa 1), .ref (xa 3), .ref (xa 5), .ref (xa 7), .ref (xa 16), .ref (xa 25), .int 3])), (xa 7, .inr (1, [.ref (xa 8), .ref (xa 10), .ref (xa 12), .ref (xa 14), .int 0, .int 0])), (rr, .inr (3, [.ref ra, .int (kc + 1)])), (ra, .inl (cI, 150, .inl u_308))] := hD
      have w45 := hw
      obtain ⟨x_309, ex_309⟩ : ∃ y : Int32, y = x + 1 := ⟨_, rfl⟩
      refine lv_iinc (v := x_309) (lv' := [(5, .int x_309), (4, .ref rr), (3, .int (nI M)), (2, .int p1), (0, .ref (xa 0))]) hx hb dX4_fill_48 hl (k := 0) rfl (by rw [ex_309]; rfl) (by decide) rfl (fun ls hl => ?_)
      refine lv_goto (tgt := 36) hx hb dX4_fill_51 (by decide) ?_
      exact ih (k + 1) x_309 (kc + 1) u_308 H locs ls (by omega) (by rw [hkc]; exact nI_1 k) (by rw [ex_309, hx1]; exact nI_1 k) (by omega) (hP.sub [0, 2, 3, 1] rfl) (hD.sub [0, 2, 3, 1] (by decide) rfl) hS (lv_sub hl [0, 1, 2, 3, 4] rfl)
set_option maxHeartbeats 4000000 in
set_option maxRecDepth 100000 in
theorem c_X4_fill (l : Launch) (hfl : l.stackTraces = false) (dC : Nat → ClassId) (dI : Nat → Nat → Nat) (cI : ClassId) (xa : Nat → Nat) (p0 : Int32) (p1 : Int32) (p2 : Int32) (sz : Nat) : vx_Met l yX4_fill wsX4_fill ({ frames := 7, cells := 3, slots := 18, locals := 112 }) (va_Pc [.ref (xa 0), .int p0, .int p1, .int p2] (fun U => U.heap.size = sz ∧ va_P (dC, dI) vwCl (wx cI xa) U.heap ∧ va_K (dC, dI) vwCl [(cI, .int)] U ∧ va_D (fun _ => True) (wx cI xa) ∧ zz_X (va_A (wx cI xa) sz) U)) (va_Qi (fun (r : Int32) (_ : Unit) => r = p2 ∧ zf_fill p0 p1 p2 = 0) (fun _ _ => True) (va_A (wx cI xa) sz)) (vx_X (fun _ : Unit => True) (fun E _ _ => (E = "java/lang/IndexOutOfBoundsException" ∧ zf_fill p0 p1 p2 = 1) ∨ (E = "java/lang/IllegalArgumentException" ∧ zf_fill p0 p1 p2 = 2)) (va_A (wx cI xa) sz)) 3 18 (va_A (wx cI xa) sz) := by
  refine vx_ofW (cc := cX4_fill) (maxL := 6) (ret := (some .int)) (by decide) rfl ?_
  intro p e s m args below meth c s₁ B hml hno hv
  obtain ⟨rfl, hsz, hP, hK, hD0, hZ⟩ := hv
  have hx := B.exec
  have hb := B.bytes
  have hr := B.returns
  have hts := atoms_spec (ws := wsX4_fill) B.pre
  have hown : s.vm.findClass RX4 = some m.cls := findClass_of_methodNamed B.named
  have hlocks := B.notSynchronized
  subst hsz
  have hD := hD0.self (sz := s.heap.size)
  generalize hAe : va_A (wx cI xa) s.heap.size = A at hD hZ ⊢
  have hA : ∀ q : Nat, s.heap.size ≤ q → A q := fun q h => by rw [← hAe]; exact Or.inr h
  have hS : va_S A s.heap s.heap [] := va_S.rf
  have hP := hP.sub (ws' := [(xa 0, .inr (4, [.ref (xa 1), .ref (xa 3), .ref (xa 5), .ref (xa 7), .ref (xa 16), .ref (xa 25), .int 3])), (xa 1, .inr (3, [.ref (xa 2), .int 0])), (xa 2, .inl (cI, 150, .inl (fun _ => 0))), (xa 3, .inr (3, [.ref (xa 4), .int 0])), (xa 4, .inl (cI, 150, .inl (fun _ => 0))), (xa 7, .inr (1, [.ref (xa 8), .ref (xa 10), .ref (xa 12), .ref (xa 14), .int 0, .int 0]))]) [0, 1, 2, 3, 4, 7] rfl
  have hD := hD.sub (ws' := [(xa 0, .inr (4, [.ref (xa 1), .ref (xa 3), .ref (xa 5), .ref (xa 7), .ref (xa 16), .ref (xa 25), .int 3])), (xa 1, .inr (3, [.ref (xa 2), .int 0])), (xa 2, .inl (cI, 150, .inl (fun _ => 0))), (xa 3, .inr (3, [.ref (xa 4), .int 0])), (xa 4, .inl (cI, 150, .inl (fun _ => 0))), (xa 7, .inr (1, [.ref (xa 8), .ref (xa 10), .ref (xa 12), .ref (xa 14), .int 0, .int 0]))]) [0, 1, 2, 3, 4, 7] (by decide) rfl
  have hl := lv_entry ([.ref (xa 0), .int p0, .int p1, .int p2]) (n := 6) (Nat.le_of_ble_eq_true rfl)
  rw [lg_entry_eq]
  generalize (lg_sl ([.ref (xa 0), .int p0, .int p1, .int p2]) ++ List.replicate (6 - (lg_sl ([.ref (xa 0), .int p0, .int p1, .int p2])).length) Slot.unset).toArray = ls at hl ⊢
  have hl : lv_has ls 6 [(0, .ref (xa 0)), (1, .int p0), (2, .int p1), (3, .int p2)] := hl
  refine lv_iload_n hx hb dX4_fill_0 rfl (lv_at hl 1 rfl) ?_
  have hPc := hP.sub (ws' := []) [] rfl
  have hFc : ∀ q : Nat, s.heap.size ≤ q → A q := fun q h => hA q (Nat.le_trans hS.1 h)
  have hKc := hK.sub (tys' := []) [] rfl
  refine vx_callv (vx_runS (As := [.int p0]) (rest := []) ⟨hx, hb, hml, hown, hts⟩ (c_X4_needSide l hfl dC dI p0 s.heap.size) (va_cwS 1 hts gX4_fill_X4_needSide rfl rfl rfl (by decide +kernel) ⟨Nat.le_of_ble_eq_true rfl, Nat.le_of_ble_eq_true rfl⟩) ⟨fun a U g mk q => by obtain ⟨q0, q1, qP, qK, qD, qZ⟩ := q; exact ⟨q0, q1, qP, va_K.moved (u := U) (U := U.calling g mk a) (Vm.Alike.refl U.vm) qK, qD, qZ.call⟩, fun U hU hW => ⟨rfl, by rw [hU], by rw [hU]; exact hPc, va_K.moved hW.alike hKc, zz_D (hD.sub (ws' := []) [] (by decide) rfl), hZ.go hS hFc hU hW⟩⟩ rfl rfl hl.1 rfl (lv_room (Nat.le_of_ble_eq_true rfl)) dX4_fill_1 ⟨(Nat.le_of_ble_eq_true rfl), (Nat.le_of_ble_eq_true rfl)⟩) hS (fun q h1 h2 => absurd h1 (Nat.not_lt.mpr h2)) hFc (fun q h1 h2 => absurd h1 (Nat.not_lt.mpr h2)) (fun E ce q9 u_311 t H1 locs ht hvm hw hB hz1 hk1 hS1 hce hcv hcl => ?_) (fun u_311 t H1 locs ht hvm hw hB hz1 hk1 hS1 => ?_)
  · skip
    exact vx_out (fun x h => (hno x h).elim) hlocks hce hcv hcl (fun t ht2 _ => ⟨(), trivial, Or.inl ⟨hB.1, if_neg hB.2⟩, hS1.F ht2⟩) hS1.2.2 (Nat.le_of_ble_eq_true rfl) (Nat.le_of_ble_eq_true rfl)
  have hP := zz_keep hP hk1
  have hS := hS1
  clear hS1
  generalize H1 = H at hP hS ht ⊢
  have hP : va_P (dC, dI) vwCl [(xa 0, .inr (4, [.ref (xa 1), .ref (xa 3), .ref (xa 5), .ref (xa 7), .ref (xa 16), .ref (xa 25), .int 3])), (xa 1, .inr (3, [.ref (xa 2), .int 0])), (xa 2, .inl (cI, 150, .inl (fun _ => 0))), (xa 3, .inr (3, [.ref (xa 4), .int 0])), (xa 4, .inl (cI, 150, .inl (fun _ => 0))), (xa 7, .inr (1, [.ref (xa 8), .ref (xa 10), .ref (xa 12), .ref (xa 14), .int 0, .int 0]))] H := hP
  refine W.widen (k := 1) (n := 6) (by omega) (by omega) ?_
  have w1 := hw
  rcases (show p0 = 0 ∨ p0 = 1 from w1) with rfl | rfl
  · skip
    refine lv_iload_n hx hb dX4_fill_4 rfl (lv_at hl 2 rfl) ?_
    refine lv_iconst (v := 0) hx hb dX4_fill_5 (by decide) ?_
    refine lv_sipush (v := 255) hx hb dX4_fill_6 (by decide) ?_
    have hPc := hP.sub (ws' := []) [] rfl
    have hFc : ∀ q : Nat, H.size ≤ q → A q := fun q h => hA q (Nat.le_trans hS.1 h)
    have hKc := hK.sub (tys' := []) [] rfl
    refine vx_callv (vx_runS (As := [.int p1, .int 0, .int 255]) (rest := []) ⟨hx, hb, hml, hown, hts⟩ (c_X4_needWithin l hfl dC dI p1 0 255 H.size) (va_cwS 3 hts gX4_fill_X4_needWithin rfl rfl rfl (by decide +kernel) ⟨Nat.le_of_ble_eq_true rfl, Nat.le_of_ble_eq_true rfl⟩) ⟨fun a U g mk q => by obtain ⟨q0, q1, qP, qK, qD, qZ⟩ := q; exact ⟨q0, q1, qP, va_K.moved (u := U) (U := U.calling g mk a) (Vm.Alike.refl U.vm) qK, qD, qZ.call⟩, fun U hU hW => ⟨rfl, by rw [hU], by rw [hU]; exact hPc, va_K.moved hW.alike hKc, zz_D (hD.sub (ws' := []) [] (by decide) rfl), hZ.go hS hFc hU hW⟩⟩ rfl rfl hl.1 rfl (lv_room (Nat.le_of_ble_eq_true rfl)) dX4_fill_9 ⟨(Nat.le_of_ble_eq_true rfl), (Nat.le_of_ble_eq_true rfl)⟩) hS (fun q h1 h2 => absurd h1 (Nat.not_lt.mpr h2)) hFc (fun q h1 h2 => absurd h1 (Nat.not_lt.mpr h2)) (fun E ce q9 u_313 t H1 locs ht hvm hw hB hz1 hk1 hS1 hce hcv hcl => ?_) (fun u_313 t H1 locs ht hvm hw hB hz1 hk1 hS1 => ?_)
    · skip
      exact vx_out (fun x h => (hno x h).elim) hlocks hce hcv hcl (fun t ht2 _ => ⟨(), trivial, Or.inr ⟨hB.1, (if_pos (by decide)).trans (if_neg hB.2)⟩, hS1.F ht2⟩) hS1.2.2 (Nat.le_of_ble_eq_true rfl) (Nat.le_of_ble_eq_true rfl)
    have hP := zz_keep hP hk1
    have hS := hS1
    clear hS1
    generalize H1 = H at hP hS ht ⊢
    have hP : va_P (dC, dI) vwCl [(xa 0, .inr (4, [.ref (xa 1), .ref (xa 3), .ref (xa 5), .ref (xa 7), .ref (xa 16), .ref (xa 25), .int 3])), (xa 1, .inr (3, [.ref (xa 2), .int 0])), (xa 2, .inl (cI, 150, .inl (fun _ => 0))), (xa 3, .inr (3, [.ref (xa 4), .int 0])), (xa 4, .inl (cI, 150, .inl (fun _ => 0))), (xa 7, .inr (1, [.ref (xa 8), .ref (xa 10), .ref (xa 12), .ref (xa 14), .int 0, .int 0]))] H := hP
    refine W.widen (k := 2) (n := 12) (by omega) (by omega) ?_
    have w9 := hw
    refine lv_iload_n hx hb dX4_fill_12 rfl (lv_at hl 3 rfl) ?_
    refine lv_iconst (v := 1) hx hb dX4_fill_13 (by decide) ?_
    refine lv_sipush (v := 150) hx hb dX4_fill_14 (by decide) ?_
    have hPc := hP.sub (ws' := []) [] rfl
    have hFc : ∀ q : Nat, H.size ≤ q → A q := fun q h => hA q (Nat.le_trans hS.1 h)
    have hKc := hK.sub (tys' := []) [] rfl
    refine vx_callv (vx_runS (As := [.int p2, .int 1, .int 150]) (rest := []) ⟨hx, hb, hml, hown, hts⟩ (c_X4_needWithin l hfl dC dI p2 1 150 H.size) (va_cwS 3 hts gX4_fill_X4_needWithin rfl rfl rfl (by decide +kernel) ⟨Nat.le_of_ble_eq_true rfl, Nat.le_of_ble_eq_true rfl⟩) ⟨fun a U g mk q => by obtain ⟨q0, q1, qP, qK, qD, qZ⟩ := q; exact ⟨q0, q1, qP, va_K.moved (u := U) (U := U.calling g mk a) (Vm.Alike.refl U.vm) qK, qD, qZ.call⟩, fun U hU hW => ⟨rfl, by rw [hU], by rw [hU]; exact hPc, va_K.moved hW.alike hKc, zz_D (hD.sub (ws' := []) [] (by decide) rfl), hZ.go hS hFc hU hW⟩⟩ rfl rfl hl.1 rfl (lv_room (Nat.le_of_ble_eq_true rfl)) dX4_fill_17 ⟨(Nat.le_of_ble_eq_true rfl), (Nat.le_of_ble_eq_true rfl)⟩) hS (fun q h1 h2 => absurd h1 (Nat.not_lt.mpr h2)) hFc (fun q h1 h2 => absurd h1 (Nat.not_lt.mpr h2)) (fun E ce q9 u_315 t H1 locs ht hvm hw hB hz1 hk1 hS1 hce hcv hcl => ?_) (fun u_315 t H1 locs ht hvm hw hB hz1 hk1 hS1 => ?_)
    · skip
      exact vx_out (fun x h => (hno x h).elim) hlocks hce hcv hcl (fun t ht2 _ => ⟨(), trivial, Or.inr ⟨hB.1, (if_pos (by decide)).trans ((if_pos w9).trans (if_neg hB.2))⟩, hS1.F ht2⟩) hS1.2.2 (Nat.le_of_ble_eq_true rfl) (Nat.le_of_ble_eq_true rfl)
    have hP := zz_keep hP hk1
    have hS := hS1
    clear hS1
    generalize H1 = H at hP hS ht ⊢
    have hP : va_P (dC, dI) vwCl [(xa 0, .inr (4, [.ref (xa 1), .ref (xa 3), .ref (xa 5), .ref (xa 7), .ref (xa 16), .ref (xa 25), .int 3])), (xa 1, .inr (3, [.ref (xa 2), .int 0])), (xa 2, .inl (cI, 150, .inl (fun _ => 0))), (xa 3, .inr (3, [.ref (xa 4), .int 0])), (xa 4, .inl (cI, 150, .inl (fun _ => 0))), (xa 7, .inr (1, [.ref (xa 8), .ref (xa 10), .ref (xa 12), .ref (xa 14), .int 0, .int 0]))] H := hP
    refine W.widen (k := 3) (n := 18) (by omega) (by omega) ?_
    have w17 := hw
    obtain ⟨M, hM, hM2⟩ := zz_nat (M := 150) (n := 150) (by decide) w17
    subst hM2
    refine lv_aload_n hx hb dX4_fill_20 rfl (lv_at hl 0 rfl) ?_
    refine lv_iload_n hx hb dX4_fill_21 rfl (lv_at hl 1 rfl) ?_
    have hPc := hP.sub (ws' := [(xa 0, .inr (4, [.ref (xa 1), .ref (xa 3), .ref (xa 5), .ref (xa 7), .ref (xa 16), .ref (xa 25), .int 3]))]) [0] rfl
    have hFc : ∀ q : Nat, H.size ≤ q → A q := fun q h => hA q (Nat.le_trans hS.1 h)
    have hKc := hK.sub (tys' := []) [] rfl
    refine va_callr (va_runV (As := [.int 0]) (rest := []) ⟨hx, hb, hml, hown, hts⟩ (c_X4_rowOf0 l dC dI (xa 0) (xa 1) (xa 3) (xa 5) (xa 7) (xa 16) (xa 25) 3 H.size) (cwV 1 hts gX4_fill_X4_rowOf rfl rfl rfl (by decide +kernel) ⟨Nat.le_of_ble_eq_true rfl, Nat.le_of_ble_eq_true rfl⟩) ⟨fun a U g mk q => by obtain ⟨q0, q1, qP, qK, qD⟩ := q; exact ⟨q0, q1, qP, va_K.moved (u := U) (U := U.calling g mk a) (Vm.Alike.refl U.vm) qK, qD⟩, va_recv hKc hPc (ci := 4) (q0 := 0) rfl rfl, fun U hU hW => ⟨rfl, by rw [hU], by rw [hU]; exact hPc, va_K.moved hW.alike hKc, zz_D (hD.sub (ws' := [(xa 0, .inr (4, [.ref (xa 1), .ref (xa 3), .ref (xa 5), .ref (xa 7), .ref (xa 16), .ref (xa 25), .int 3]))]) [0] (by decide) rfl)⟩⟩ rfl rfl hl.1 rfl (lv_room (Nat.le_of_ble_eq_true rfl)) dX4_fill_22 ⟨(Nat.le_of_ble_eq_true rfl), (Nat.le_of_ble_eq_true rfl)⟩) hS (fun q h1 h2 => absurd h1 (Nat.not_lt.mpr h2)) hFc (fun u_317 r_316 t H1 locs ht hvm hw hB hz1 hk1 hS1 => ?_)
    have hP := zz_keep hP hk1
    have hS := hS1
    clear hS1
    generalize H1 = H at hP hS ht ⊢
    have hP : va_P (dC, dI) vwCl [(xa 0, .inr (4, [.ref (xa 1), .ref (xa 3), .ref (xa 5), .ref (xa 7), .ref (xa 16), .ref (xa 25), .int 3])), (xa 1, .inr (3, [.ref (xa 2), .int 0])), (xa 2, .inl (cI, 150, .inl (fun _ => 0))), (xa 3, .inr (3, [.ref (xa 4), .int 0])), (xa 4, .inl (cI, 150, .inl (fun _ => 0))), (xa 7, .inr (1, [.ref (xa 8), .ref (xa 10), .ref (xa 12), .ref (xa 14), .int 0, .int 0]))] H := hP
    obtain rfl : (xa 1) = r_316 := (show r_316 = (xa 1) from hB).symm
    refine lv_astore (lv' := [(4, .ref (xa 1)), (0, .ref (xa 0)), (1, .int 0), (2, .int p1), (3, .int (nI M))]) hx hb dX4_fill_25 hl (by decide) rfl (fun ls hl => ?_)
    refine lv_aload hx hb dX4_fill_27 (lv_at hl 0 rfl) ?_
    refine lv_iload_n hx hb dX4_fill_29 rfl (lv_at hl 4 rfl) ?_
    have hPc := hP.sub (ws' := [(xa 1, .inr (3, [.ref (xa 2), .int 0])), (xa 2, .inl (cI, 150, .inl (fun _ => 0)))]) [1, 2] rfl
    have hFc : ∀ q : Nat, H.size ≤ q → A q := fun q h => hA q (Nat.le_trans hS.1 h)
    have hKc := hK.sub (tys' := [(cI, .int)]) [0] rfl
    refine va_callv (va_runS (As := [.ref (xa 1), .int (nI M)]) (rest := []) ⟨hx, hb, hml, hown, hts⟩ (c_X4_needRoom l dC dI cI (xa 1) (xa 2) 150 (fun _ => 0) (nI M) H.size (zz_room hM)) (va_cwS 2 hts gX4_fill_X4_needRoom rfl rfl rfl (by decide +kernel) ⟨Nat.le_of_ble_eq_true rfl, Nat.le_of_ble_eq_true rfl⟩) ⟨fun a U g mk q => by obtain ⟨q0, q1, qP, qK, qD⟩ := q; exact ⟨q0, q1, qP, va_K.moved (u := U) (U := U.calling g mk a) (Vm.Alike.refl U.vm) qK, qD⟩, fun U hU hW => ⟨rfl, by rw [hU], by rw [hU]; exact hPc, va_K.moved hW.alike hKc, zz_D (hD.sub (ws' := [(xa 1, .inr (3, [.ref (xa 2), .int 0])), (xa 2, .inl (cI, 150, .inl (fun _ => 0)))]) [1, 2] (by decide) rfl)⟩⟩ rfl rfl hl.1 rfl (lv_room (Nat.le_of_ble_eq_true rfl)) dX4_fill_30 ⟨(Nat.le_of_ble_eq_true rfl), (Nat.le_of_ble_eq_true rfl)⟩) hS (fun q h1 h2 => absurd h1 (Nat.not_lt.mpr h2)) hFc (fun u_319 t H1 locs ht hvm hw hB hz1 hk1 hS1 => ?_)
    have hP := zz_keep hP hk1
    have hS := hS1
    clear hS1
    generalize H1 = H at hP hS ht ⊢
    have hP : va_P (dC, dI) vwCl [(xa 0, .inr (4, [.ref (xa 1), .ref (xa 3), .ref (xa 5), .ref (xa 7), .ref (xa 16), .ref (xa 25), .int 3])), (xa 1, .inr (3, [.ref (xa 2), .int 0])), (xa 2, .inl (cI, 150, .inl (fun _ => 0))), (xa 3, .inr (3, [.ref (xa 4), .int 0])), (xa 4, .inl (cI, 150, .inl (fun _ => 0))), (xa 7, .inr (1, [.ref (xa 8), .ref (xa 10), .ref (xa 12), .ref (xa 14), .int 0, .int 0]))] H := hP
    have w30 := hw
    refine lv_iconst (v := 0) hx hb dX4_fill_33 (by decide) ?_
    refine lv_istore (lv' := [(5, .int 0), (4, .ref (xa 1)), (0, .ref (xa 0)), (1, .int 0), (2, .int p1), (3, .int (nI M))]) hx hb dX4_fill_34 hl (by decide) rfl (fun ls hl => ?_)
    refine W.widen (k := 3) (n := 18) (by omega) (by omega) ?_
    refine lo_fill2 dC dI cI xa 0 p1 (nI M) (xa 1) (xa 2) M hM hx hb hml hown hts hA hK ?_ (M + 1) 0 0 0 (fun _ => 0) _ _ ls (by omega) nI_0.symm nI_0.symm (by omega) (hP.sub [0, 1, 2, 5] rfl) (hD.sub [0, 1, 2, 5] (by decide) rfl) hS (lv_sub hl [0, 1, 5, 4, 2] rfl)
    intro k x kc kg H locs ls hkc9 hP hD hS hl
    refine lv_aload_n hx hb dX4_fill_54 rfl (lv_at hl 4 rfl) ?_
    refine va_get (D := (dC, dI)) (ci := 4) (v := .ref (xa 7)) (C := RX4) (T := TX4) (N := 7) hx hb hts (by decide +kernel) hown hK hP 0 rfl rfl 3 (by decide) (hts (.fieldLink RX4 27 "DeltaCodec" "plan" "LDeltaCodec$Plan;") (by decide +kernel)) (fun _ h9 => h9) rfl dX4_fill_55 ?_
    have hPc := hP.sub (ws' := [(xa 7, .inr (1, [.ref (xa 8), .ref (xa 10), .ref (xa 12), .ref (xa 14), .int 0, .int 0]))]) [3] rfl
    have hDc := hD.sub (ws' := [(xa 7, .inr (1, [.ref (xa 8), .ref (xa 10), .ref (xa 12), .ref (xa 14), .int 0, .int 0]))]) [3] (by decide) rfl
    have hFc := va_free (wc := [(xa 7, .inr (1, [.ref (xa 8), .ref (xa 10), .ref (xa 12), .ref (xa 14), .int 0, .int 0]))]) hD hS hA [3] rfl
    have hKc := hK.sub (tys' := []) [] rfl
    refine va_callv (va_runV (As := []) (rest := []) ⟨hx, hb, hml, hown, hts⟩ (c_X1_forget l dC dI (xa 7) (xa 8) (xa 10) (xa 12) (xa 14) 0 0 H.size) (cwV 0 hts gX4_fill_X1_forget rfl rfl rfl (by decide +kernel) ⟨Nat.le_of_ble_eq_true rfl, Nat.le_of_ble_eq_true rfl⟩) ⟨fun a U g mk q => by obtain ⟨q0, q1, qP, qK, qD⟩ := q; exact ⟨q0, q1, qP, va_K.moved (u := U) (U := U.calling g mk a) (Vm.Alike.refl U.vm) qK, qD⟩, va_recv hKc hPc (ci := 1) (q0 := 0) rfl rfl, fun U hU hW => ⟨rfl, by rw [hU], by rw [hU]; exact hPc, va_K.moved hW.alike hKc, zz_D hDc⟩⟩ rfl rfl hl.1 rfl (lv_room (Nat.le_of_ble_eq_true rfl)) dX4_fill_58 ⟨(Nat.le_of_ble_eq_true rfl), (Nat.le_of_ble_eq_true rfl)⟩) hS (fun q _ h => hFc q h) hFc (fun u_321 t H1 locs ht hvm hw hB hz1 hk1 hS1 => ?_)
    obtain ⟨hP1, hD1⟩ := hB
    rw [ht] at hP1
    obtain ⟨hP, hD⟩ := va_join (wr := [(xa 0, .inr (4, [.ref (xa 1), .ref (xa 3), .ref (xa 5), .ref (xa 7), .ref (xa 16), .ref (xa 25), .int 3])), (xa 1, .inr (3, [.ref (xa 2), .int kc])), (xa 2, .inl (cI, 150, .inl kg))]) (w1 := [(xa 7, .inr (1, [.ref (xa 8), .ref (xa 10), .ref (xa 12), .ref (xa 14), .int 0, .int 0]))]) hP hD [3] [0, 1, 2] rfl rfl (by decide) (by decide) hk1 hFc hP1 hD1
    have hS := hS1
    clear hS1
    generalize H1 = H at hP hS ht ⊢
    have hP : va_P (dC, dI) vwCl [(xa 0, .inr (4, [.ref (xa 1), .ref (xa 3), .ref (xa 5), .ref (xa 7), .ref (xa 16), .ref (xa 25), .int 3])), (xa 1, .inr (3, [.ref (xa 2), .int kc])), (xa 2, .inl (cI, 150, .inl kg)), (xa 7, .inr (1, [.ref (xa 8), .ref (xa 10), .ref (xa 12), .ref (xa 14), .int 0, .int 0]))] H := hP
    have hD : va_D A [(xa 0, .inr (4, [.ref (xa 1), .ref (xa 3), .ref (xa 5), .ref (xa 7), .ref (xa 16), .ref (xa 25), .int 3])), (xa 1, .inr (3, [.ref (xa 2), .int kc])), (xa 2, .inl (cI, 150, .inl kg)), (xa 7, .inr (1, [.ref (xa 8), .ref (xa 10), .ref (xa 12), .ref (xa 14), .int 0, .int 0]))] := hD
    have w58 := hw
    refine lv_aload hx hb dX4_fill_61 (lv_at hl 1 rfl) ?_
    have hPc := hP.sub (ws' := [(xa 1, .inr (3, [.ref (xa 2), .int kc]))]) [1] rfl
    have hFc : ∀ q : Nat, H.size ≤ q → A q := fun q h => hA q (Nat.le_trans hS.1 h)
    have hKc := hK.sub (tys' := []) [] rfl
    refine va_calli (va_runV (As := []) (rest := []) ⟨hx, hb, hml, hown, hts⟩ (c_X3_count l dC dI (xa 1) (xa 2) kc H.size) (cwV 0 hts gX4_fill_X3_count rfl rfl rfl (by decide +kernel) ⟨Nat.le_of_ble_eq_true rfl, Nat.le_of_ble_eq_true rfl⟩) ⟨fun a U g mk q => by obtain ⟨q0, q1, qP, qK, qD⟩ := q; exact ⟨q0, q1, qP, va_K.moved (u := U) (U := U.calling g mk a) (Vm.Alike.refl U.vm) qK, qD⟩, va_recv hKc hPc (ci := 3) (q0 := 0) rfl rfl, fun U hU hW => ⟨rfl, by rw [hU], by rw [hU]; exact hPc, va_K.moved hW.alike hKc, zz_D (hD.sub (ws' := [(xa 1, .inr (3, [.ref (xa 2), .int kc]))]) [1] (by decide) rfl)⟩⟩ rfl rfl hl.1 rfl (lv_room (Nat.le_of_ble_eq_true rfl)) dX4_fill_63 ⟨(Nat.le_of_ble_eq_true rfl), (Nat.le_of_ble_eq_true rfl)⟩) hS (fun q h1 h2 => absurd h1 (Nat.not_lt.mpr h2)) hFc (fun r_322 u_323 t H1 locs ht hvm hw hB hz1 hk1 hS1 => ?_)
    have hP := zz_keep hP hk1
    have hS := hS1
    clear hS1
    generalize H1 = H at hP hS ht ⊢
    have hP : va_P (dC, dI) vwCl [(xa 0, .inr (4, [.ref (xa 1), .ref (xa 3), .ref (xa 5), .ref (xa 7), .ref (xa 16), .ref (xa 25), .int 3])), (xa 1, .inr (3, [.ref (xa 2), .int kc])), (xa 2, .inl (cI, 150, .inl kg)), (xa 7, .inr (1, [.ref (xa 8), .ref (xa 10), .ref (xa 12), .ref (xa 14), .int 0, .int 0]))] H := hP
    obtain rfl : kc = r_322 := (show r_322 = kc from hw).symm
    refine vx_ret ?_
    exact W.iret (v := kc) hx hb hr (fun t ht hW => ⟨⟨kc, (), rfl, ⟨hkc9, (if_pos (by decide)).trans ((if_pos w9).trans (if_pos w17))⟩, trivial⟩, hS.F ht⟩) hS.2.2 dX4_fill_66
  · skip
    refine lv_iload_n hx hb dX4_fill_4 rfl (lv_at hl 2 rfl) ?_
    refine lv_iconst (v := 0) hx hb dX4_fill_5 (by decide) ?_
    refine lv_sipush (v := 255) hx hb dX4_fill_6 (by decide) ?_
    have hPc := hP.sub (ws' := []) [] rfl
    have hFc : ∀ q : Nat, H.size ≤ q → A q := fun q h => hA q (Nat.le_trans hS.1 h)
    have hKc := hK.sub (tys' := []) [] rfl
    refine vx_callv (vx_runS (As := [.int p1, .int 0, .int 255]) (rest := []) ⟨hx, hb, hml, hown, hts⟩ (c_X4_needWithin l hfl dC dI p1 0 255 H.size) (va_cwS 3 hts gX4_fill_X4_needWithin rfl rfl rfl (by decide +kernel) ⟨Nat.le_of_ble_eq_true rfl, Nat.le_of_ble_eq_true rfl⟩) ⟨fun a U g mk q => by obtain ⟨q0, q1, qP, qK, qD, qZ⟩ := q; exact ⟨q0, q1, qP, va_K.moved (u := U) (U := U.calling g mk a) (Vm.Alike.refl U.vm) qK, qD, qZ.call⟩, fun U hU hW => ⟨rfl, by rw [hU], by rw [hU]; exact hPc, va_K.moved hW.alike hKc, zz_D (hD.sub (ws' := []) [] (by decide) rfl), hZ.go hS hFc hU hW⟩⟩ rfl rfl hl.1 rfl (lv_room (Nat.le_of_ble_eq_true rfl)) dX4_fill_9 ⟨(Nat.le_of_ble_eq_true rfl), (Nat.le_of_ble_eq_true rfl)⟩) hS (fun q h1 h2 => absurd h1 (Nat.not_lt.mpr h2)) hFc (fun q h1 h2 => absurd h1 (Nat.not_lt.mpr h2)) (fun E ce q9 u_325 t H1 locs ht hvm hw hB hz1 hk1 hS1 hce hcv hcl => ?_) (fun u_325 t H1 locs ht hvm hw hB hz1 hk1 hS1 => ?_)
    · skip
      exact vx_out (fun x h => (hno x h).elim) hlocks hce hcv hcl (fun t ht2 _ => ⟨(), trivial, Or.inr ⟨hB.1, (if_pos (by decide)).trans (if_neg hB.2)⟩, hS1.F ht2⟩) hS1.2.2 (Nat.le_of_ble_eq_true rfl) (Nat.le_of_ble_eq_true rfl)
    have hP := zz_keep hP hk1
    have hS := hS1
    clear hS1
    generalize H1 = H at hP hS ht ⊢
    have hP : va_P (dC, dI) vwCl [(xa 0, .inr (4, [.ref (xa 1), .ref (xa 3), .ref (xa 5), .ref (xa 7), .ref (xa 16), .ref (xa 25), .int 3])), (xa 1, .inr (3, [.ref (xa 2), .int 0])), (xa 2, .inl (cI, 150, .inl (fun _ => 0))), (xa 3, .inr (3, [.ref (xa 4), .int 0])), (xa 4, .inl (cI, 150, .inl (fun _ => 0))), (xa 7, .inr (1, [.ref (xa 8), .ref (xa 10), .ref (xa 12), .ref (xa 14), .int 0, .int 0]))] H := hP
    refine W.widen (k := 2) (n := 12) (by omega) (by omega) ?_
    have w9 := hw
    refine lv_iload_n hx hb dX4_fill_12 rfl (lv_at hl 3 rfl) ?_
    refine lv_iconst (v := 1) hx hb dX4_fill_13 (by decide) ?_
    refine lv_sipush (v := 150) hx hb dX4_fill_14 (by decide) ?_
    have hPc := hP.sub (ws' := []) [] rfl
    have hFc : ∀ q : Nat, H.size ≤ q → A q := fun q h => hA q (Nat.le_trans hS.1 h)
    have hKc := hK.sub (tys' := []) [] rfl
    refine vx_callv (vx_runS (As := [.int p2, .int 1, .int 150]) (rest := []) ⟨hx, hb, hml, hown, hts⟩ (c_X4_needWithin l hfl dC dI p2 1 150 H.size) (va_cwS 3 hts gX4_fill_X4_needWithin rfl rfl rfl (by decide +kernel) ⟨Nat.le_of_ble_eq_true rfl, Nat.le_of_ble_eq_true rfl⟩) ⟨fun a U g mk q => by obtain ⟨q0, q1, qP, qK, qD, qZ⟩ := q; exact ⟨q0, q1, qP, va_K.moved (u := U) (U := U.calling g mk a) (Vm.Alike.refl U.vm) qK, qD, qZ.call⟩, fun U hU hW => ⟨rfl, by rw [hU], by rw [hU]; exact hPc, va_K.moved hW.alike hKc, zz_D (hD.sub (ws' := []) [] (by decide) rfl), hZ.go hS hFc hU hW⟩⟩ rfl rfl hl.1 rfl (lv_room (Nat.le_of_ble_eq_true rfl)) dX4_fill_17 ⟨(Nat.le_of_ble_eq_true rfl), (Nat.le_of_ble_eq_true rfl)⟩) hS (fun q h1 h2 => absurd h1 (Nat.not_lt.mpr h2)) hFc (fun q h1 h2 => absurd h1 (Nat.not_lt.mpr h2)) (fun E ce q9 u_327 t H1 locs ht hvm hw hB hz1 hk1 hS1 hce hcv hcl => ?_) (fun u_327 t H1 locs ht hvm hw hB hz1 hk1 hS1 => ?_)
    · skip
      exact vx_out (fun x h => (hno x h).elim) hlocks hce hcv hcl (fun t ht2 _ => ⟨(), trivial, Or.inr ⟨hB.1, (if_pos (by decide)).trans ((if_pos w9).trans (if_neg hB.2))⟩, hS1.F ht2⟩) hS1.2.2 (Nat.le_of_ble_eq_true rfl) (Nat.le_of_ble_eq_true rfl)
    have hP := zz_keep hP hk1
    have hS := hS1
    clear hS1
    generalize H1 = H at hP hS ht ⊢
    have hP : va_P (dC, dI) vwCl [(xa 0, .inr (4, [.ref (xa 1), .ref (xa 3), .ref (xa 5), .ref (xa 7), .ref (xa 16), .ref (xa 25), .int 3])), (xa 1, .inr (3, [.ref (xa 2), .int 0])), (xa 2, .inl (cI, 150, .inl (fun _ => 0))), (xa 3, .inr (3, [.ref (xa 4), .int 0])), (xa 4, .inl (cI, 150, .inl (fun _ => 0))), (xa 7, .inr (1, [.ref (xa 8), .ref (xa 10), .ref (xa 12), .ref (xa 14), .int 0, .int 0]))] H := hP
    refine W.widen (k := 3) (n := 18) (by omega) (by omega) ?_
    have w17 := hw
    obtain ⟨M, hM, hM2⟩ := zz_nat (M := 150) (n := 150) (by decide) w17
    subst hM2
    refine lv_aload_n hx hb dX4_fill_20 rfl (lv_at hl 0 rfl) ?_
    refine lv_iload_n hx hb dX4_fill_21 rfl (lv_at hl 1 rfl) ?_
    have hPc := hP.sub (ws' := [(xa 0, .inr (4, [.ref (xa 1), .ref (xa 3), .ref (xa 5), .ref (xa 7), .ref (xa 16), .ref (xa 25), .int 3]))]) [0] rfl
    have hFc : ∀ q : Nat, H.size ≤ q → A q := fun q h => hA q (Nat.le_trans hS.1 h)
    have hKc := hK.sub (tys' := []) [] rfl
    refine va_callr (va_runV (As := [.int 1]) (rest := []) ⟨hx, hb, hml, hown, hts⟩ (c_X4_rowOf1 l dC dI (xa 0) (xa 1) (xa 3) (xa 5) (xa 7) (xa 16) (xa 25) 3 H.size) (cwV 1 hts gX4_fill_X4_rowOf rfl rfl rfl (by decide +kernel) ⟨Nat.le_of_ble_eq_true rfl, Nat.le_of_ble_eq_true rfl⟩) ⟨fun a U g mk q => by obtain ⟨q0, q1, qP, qK, qD⟩ := q; exact ⟨q0, q1, qP, va_K.moved (u := U) (U := U.calling g mk a) (Vm.Alike.refl U.vm) qK, qD⟩, va_recv hKc hPc (ci := 4) (q0 := 0) rfl rfl, fun U hU hW => ⟨rfl, by rw [hU], by rw [hU]; exact hPc, va_K.moved hW.alike hKc, zz_D (hD.sub (ws' := [(xa 0, .inr (4, [.ref (xa 1), .ref (xa 3), .ref (xa 5), .ref (xa 7), .ref (xa 16), .ref (xa 25), .int 3]))]) [0] (by decide) rfl)⟩⟩ rfl rfl hl.1 rfl (lv_room (Nat.le_of_ble_eq_true rfl)) dX4_fill_22 ⟨(Nat.le_of_ble_eq_true rfl), (Nat.le_of_ble_eq_true rfl)⟩) hS (fun q h1 h2 => absurd h1 (Nat.not_lt.mpr h2)) hFc (fun u_329 r_328 t H1 locs ht hvm hw hB hz1 hk1 hS1 => ?_)
    have hP := zz_keep hP hk1
    have hS := hS1
    clear hS1
    generalize H1 = H at hP hS ht ⊢
    have hP : va_P (dC, dI) vwCl [(xa 0, .inr (4, [.ref (xa 1), .ref (xa 3), .ref (xa 5), .ref (xa 7), .ref (xa 16), .ref (xa 25), .int 3])), (xa 1, .inr (3, [.ref (xa 2), .int 0])), (xa 2, .inl (cI, 150, .inl (fun _ => 0))), (xa 3, .inr (3, [.ref (xa 4), .int 0])), (xa 4, .inl (cI, 150, .inl (fun _ => 0))), (xa 7, .inr (1, [.ref (xa 8), .ref (xa 10), .ref (xa 12), .ref (xa 14), .int 0, .int 0]))] H := hP
    obtain rfl : (xa 3) = r_328 := (show r_328 = (xa 3) from hB).symm
    refine lv_astore (lv' := [(4, .ref (xa 3)), (0, .ref (xa 0)), (1, .int 1), (2, .int p1), (3, .int (nI M))]) hx hb dX4_fill_25 hl (by decide) rfl (fun ls hl => ?_)
    refine lv_aload hx hb dX4_fill_27 (lv_at hl 0 rfl) ?_
    refine lv_iload_n hx hb dX4_fill_29 rfl (lv_at hl 4 rfl) ?_
    have hPc := hP.sub (ws' := [(xa 3, .inr (3, [.ref (xa 4), .int 0])), (xa 4, .inl (cI, 150, .inl (fun _ => 0)))]) [3, 4] rfl
    have hFc : ∀ q : Nat, H.size ≤ q → A q := fun q h => hA q (Nat.le_trans hS.1 h)
    have hKc := hK.sub (tys' := [(cI, .int)]) [0] rfl
    refine va_callv (va_runS (As := [.ref (xa 3), .int (nI M)]) (rest := []) ⟨hx, hb, hml, hown, hts⟩ (c_X4_needRoom l dC dI cI (xa 3) (xa 4) 150 (fun _ => 0) (nI M) H.size (zz_room hM)) (va_cwS 2 hts gX4_fill_X4_needRoom rfl rfl rfl (by decide +kernel) ⟨Nat.le_of_ble_eq_true rfl, Nat.le_of_ble_eq_true rfl⟩) ⟨fun a U g mk q => by obtain ⟨q0, q1, qP, qK, qD⟩ := q; exact ⟨q0, q1, qP, va_K.moved (u := U) (U := U.calling g mk a) (Vm.Alike.refl U.vm) qK, qD⟩, fun U hU hW => ⟨rfl, by rw [hU], by rw [hU]; exact hPc, va_K.moved hW.alike hKc, zz_D (hD.sub (ws' := [(xa 3, .inr (3, [.ref (xa 4), .int 0])), (xa 4, .inl (cI, 150, .inl (fun _ => 0)))]) [3, 4] (by decide) rfl)⟩⟩ rfl rfl hl.1 rfl (lv_room (Nat.le_of_ble_eq_true rfl)) dX4_fill_30 ⟨(Nat.le_of_ble_eq_true rfl), (Nat.le_of_ble_eq_true rfl)⟩) hS (fun q h1 h2 => absurd h1 (Nat.not_lt.mpr h2)) hFc (fun u_331 t H1 locs ht hvm hw hB hz1 hk1 hS1 => ?_)
    have hP := zz_keep hP hk1
    have hS := hS1
    clear hS1
    generalize H1 = H at hP hS ht ⊢
    have hP : va_P (dC, dI) vwCl [(xa 0, .inr (4, [.ref (xa 1), .ref (xa 3), .ref (xa 5), .ref (xa 7), .ref (xa 16), .ref (xa 25), .int 3])), (xa 1, .inr (3, [.ref (xa 2), .int 0])), (xa 2, .inl (cI, 150, .inl (fun _ => 0))), (xa 3, .inr (3, [.ref (xa 4), .int 0])), (xa 4, .inl (cI, 150, .inl (fun _ => 0))), (xa 7, .inr (1, [.ref (xa 8), .ref (xa 10), .ref (xa 12), .ref (xa 14), .int 0, .int 0]))] H := hP
    have w30 := hw
    refine lv_iconst (v := 0) hx hb dX4_fill_33 (by decide) ?_
    refine lv_istore (lv' := [(5, .int 0), (4, .ref (xa 3)), (0, .ref (xa 0)), (1, .int 1), (2, .int p1), (3, .int (nI M))]) hx hb dX4_fill_34 hl (by decide) rfl (fun ls hl => ?_)
    refine W.widen (k := 3) (n := 18) (by omega) (by omega) ?_
    refine lo_fill2 dC dI cI xa 1 p1 (nI M) (xa 3) (xa 4) M hM hx hb hml hown hts hA hK ?_ (M + 1) 0 0 0 (fun _ => 0) _ _ ls (by omega) nI_0.symm nI_0.symm (by omega) (hP.sub [0, 3, 4, 5] rfl) (hD.sub [0, 3, 4, 5] (by decide) rfl) hS (lv_sub hl [0, 1, 5, 4, 2] rfl)
    intro k x kc kg H locs ls hkc9 hP hD hS hl
    refine lv_aload_n hx hb dX4_fill_54 rfl (lv_at hl 4 rfl) ?_
    refine va_get (D := (dC, dI)) (ci := 4) (v := .ref (xa 7)) (C := RX4) (T := TX4) (N := 7) hx hb hts (by decide +kernel) hown hK hP 0 rfl rfl 3 (by decide) (hts (.fieldLink RX4 27 "DeltaCodec" "plan" "LDeltaCodec$Plan;") (by decide +kernel)) (fun _ h9 => h9) rfl dX4_fill_55 ?_
    have hPc := hP.sub (ws' := [(xa 7, .inr (1, [.ref (xa 8), .ref (xa 10), .ref (xa 12), .ref (xa 14), .int 0, .int 0]))]) [3] rfl
    have hDc := hD.sub (ws' := [(xa 7, .inr (1, [.ref (xa 8), .ref (xa 10), .ref (xa 12), .ref (xa 14), .int 0, .int 0]))]) [3] (by decide) rfl
    have hFc := va_free (wc := [(xa 7, .inr (1, [.ref (xa 8), .ref (xa 10), .ref (xa 12), .ref (xa 14), .int 0, .int 0]))]) hD hS hA [3] rfl
    have hKc := hK.sub (tys' := []) [] rfl
    refine va_callv (va_runV (As := []) (rest := []) ⟨hx, hb, hml, hown, hts⟩ (c_X1_forget l dC dI (xa 7) (xa 8) (xa 10) (xa 12) (xa 14) 0 0 H.size) (cwV 0 hts gX4_fill_X1_forget rfl rfl rfl (by decide +kernel) ⟨Nat.le_of_ble_eq_true rfl, Nat.le_of_ble_eq_true rfl⟩) ⟨fun a U g mk q => by obtain ⟨q0, q1, qP, qK, qD⟩ := q; exact ⟨q0, q1, qP, va_K.moved (u := U) (U := U.calling g mk a) (Vm.Alike.refl U.vm) qK, qD⟩, va_recv hKc hPc (ci := 1) (q0 := 0) rfl rfl, fun U hU hW => ⟨rfl, by rw [hU], by rw [hU]; exact hPc, va_K.moved hW.alike hKc, zz_D hDc⟩⟩ rfl rfl hl.1 rfl (lv_room (Nat.le_of_ble_eq_true rfl)) dX4_fill_58 ⟨(Nat.le_of_ble_eq_true rfl), (Nat.le_of_ble_eq_true rfl)⟩) hS (fun q _ h => hFc q h) hFc (fun u_333 t H1 locs ht hvm hw hB hz1 hk1 hS1 => ?_)
    obtain ⟨hP1, hD1⟩ := hB
    rw [ht] at hP1
    obtain ⟨hP, hD⟩ := va_join (wr := [(xa 0, .inr (4, [.ref (xa 1), .ref (xa 3), .ref (xa 5), .ref (xa 7), .ref (xa 16), .ref (xa 25), .int 3])), (xa 3, .inr (3, [.ref (xa 4), .int kc])), (xa 4, .inl (cI, 150, .inl kg))]) (w1 := [(xa 7, .inr (1, [.ref (xa 8), .ref (xa 10), .ref (xa 12), .ref (xa 14), .int 0, .int 0]))]) hP hD [3] [0, 1, 2] rfl rfl (by decide) (by decide) hk1 hFc hP1 hD1
    have hS := hS1
    clear hS1
    generalize H1 = H at hP hS ht ⊢
    have hP : va_P (dC, dI) vwCl [(xa 0, .inr (4, [.ref (xa 1), .ref (xa 3), .ref (xa 5), .ref (xa 7), .ref (xa 16), .ref (xa 25), .int 3])), (xa 3, .inr (3, [.ref (xa 4), .int kc])), (xa 4, .inl (cI, 150, .inl kg)), (xa 7, .inr (1, [.ref (xa 8), .ref (xa 10), .ref (xa 12), .ref (xa 14), .int 0, .int 0]))] H := hP
    have hD : va_D A [(xa 0, .inr (4, [.ref (xa 1), .ref (xa 3), .ref (xa 5), .ref (xa 7), .ref (xa 16), .ref (xa 25), .int 3])), (xa 3, .inr (3, [.ref (xa 4), .int kc])), (xa 4, .inl (cI, 150, .inl kg)), (xa 7, .inr (1, [.ref (xa 8), .ref (xa 10), .ref (xa 12), .ref (xa 14), .int 0, .int 0]))] := hD
    have w58 := hw
    refine lv_aload hx hb dX4_fill_61 (lv_at hl 1 rfl) ?_
    have hPc := hP.sub (ws' := [(xa 3, .inr (3, [.ref (xa 4), .int kc]))]) [1] rfl
    have hFc : ∀ q : Nat, H.size ≤ q → A q := fun q h => hA q (Nat.le_trans hS.1 h)
    have hKc := hK.sub (tys' := []) [] rfl
    refine va_calli (va_runV (As := []) (rest := []) ⟨hx, hb, hml, hown, hts⟩ (c_X3_count l dC dI (xa 3) (xa 4) kc H.size) (cwV 0 hts gX4_fill_X3_count rfl rfl rfl (by decide +kernel) ⟨Nat.le_of_ble_eq_true rfl, Nat.le_of_ble_eq_true rfl⟩) ⟨fun a U g mk q => by obtain ⟨q0, q1, qP, qK, qD⟩ := q; exact ⟨q0, q1, qP, va_K.moved (u := U) (U := U.calling g mk a) (Vm.Alike.refl U.vm) qK, qD⟩, va_recv hKc hPc (ci := 3) (q0 := 0) rfl rfl, fun U hU hW => ⟨rfl, by rw [hU], by rw [hU]; exact hPc, va_K.moved hW.alike hKc, zz_D (hD.sub (ws' := [(xa 3, .inr (3, [.ref (xa 4), .int kc]))]) [1] (by decide) rfl)⟩⟩ rfl rfl hl.1 rfl (lv_room (Nat.le_of_ble_eq_true rfl)) dX4_fill_63 ⟨(Nat.le_of_ble_eq_true rfl), (Nat.le_of_ble_eq_true rfl)⟩) hS (fun q h1 h2 => absurd h1 (Nat.not_lt.mpr h2)) hFc (fun r_334 u_335 t H1 locs ht hvm hw hB hz1 hk1 hS1 => ?_)
    have hP := zz_keep hP hk1
    have hS := hS1
    clear hS1
    generalize H1 = H at hP hS ht ⊢
    have hP : va_P (dC, dI) vwCl [(xa 0, .inr (4, [.ref (xa 1), .ref (xa 3), .ref (xa 5), .ref (xa 7), .ref (xa 16), .ref (xa 25), .int 3])), (xa 3, .inr (3, [.ref (xa 4), .int kc])), (xa 4, .inl (cI, 150, .inl kg)), (xa 7, .inr (1, [.ref (xa 8), .ref (xa 10), .ref (xa 12), .ref (xa 14), .int 0, .int 0]))] H := hP
    obtain rfl : kc = r_334 := (show r_334 = kc from hw).symm
    refine vx_ret ?_
    exact W.iret (v := kc) hx hb hr (fun t ht hW => ⟨⟨kc, (), rfl, ⟨hkc9, (if_pos (by decide)).trans ((if_pos w9).trans (if_pos w17))⟩, trivial⟩, hS.F ht⟩) hS.2.2 dX4_fill_66
