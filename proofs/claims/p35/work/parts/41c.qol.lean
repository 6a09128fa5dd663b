set_option maxHeartbeats 4000000 in
set_option maxRecDepth 100000 in
theorem lo_ol {p : Program} {l : Launch} {e : Env} {s : State} {m : MethodId} {args : Array Value} {below : List Frame} {meth : Method} {c : Code} {Q : State → Prop} {A : Nat → Prop} (dC : Nat → ClassId) (dI : Nat → Nat → Nat) (cI : ClassId) (h0 : Nat) (p1 : Nat) (p2 : Nat) (p3 : Nat) (p4 : Nat) (p5 : Nat) (p6 : Nat) (p7 : Nat) (p8 : Nat) (e19 : Nat → Int32) (e29 : Nat → Int32) (e39 : Nat → Int32) (e49 : Nat → Int32) (e59 : Nat → Int32) (ka : Nat) (q1 : Int32) (kb : Nat) (q3 : Int32) (h1 : ka ≤ 150) (hx : p.tables.exec = Jvm.exec) (hb : c.code = cX2_offerLengths) (hml : c.maxLocals = 6) (hown : s.vm.findClass RX2 = some m.cls) (hts : ∀ w ∈ wsX2_offerLengths, w.before args s = true) (hA : ∀ q : Nat, s.heap.size ≤ q → A q) (hK : va_K (dC, dI) vwCl [(cI, .int)] s)
    (kk : ∀ (tn : Nat) (x : Int32) (d19 : Nat → Int32) (d29 : Nat → Int32) (d39 : Nat → Int32) (d49 : Nat → Int32) (d59 : Nat → Int32) (H : Heap) (locs : List Loc) (ls : Array Slot), va_P (dC, dI) vwCl [(h0, .inr (2, [.ref p1, .ref p2, .ref p3, .ref p4, .ref p5, .ref p6, .ref p7, .ref p8])), (p1, .inl (cI, 151, .inl d19)), (p2, .inl (cI, 151, .inl d29)), (p3, .inl (cI, 151, .inl d39)), (p4, .inl (cI, 151, .inl d49)), (p5, .inl (cI, 151, .inl d59))] H → va_D A [(h0, .inr (2, [.ref p1, .ref p2, .ref p3, .ref p4, .ref p5, .ref p6, .ref p7, .ref p8])), (p1, .inl (cI, 151, .inl d19)), (p2, .inl (cI, 151, .inl d29)), (p3, .inl (cI, 151, .inl d39)), (p4, .inl (cI, 151, .inl d49)), (p5, .inl (cI, 151, .inl d59))] → va_S A s.heap H locs → lv_has ls 6 [(5, .int x), (4, .int q3), (2, .int q1), (1, .int (nI ka)), (0, .ref h0)] → W p l e (headSpec wsX2_offerLengths ({ frames := 3, cells := 0, slots := 0, locals := 72 })).room s m args below meth c H locs 0 0 Q (F0 m 25 ls []))
    : ∀ (j : Nat) (tn : Nat) (x : Int32) (d19 : Nat → Int32) (d29 : Nat → Int32) (d39 : Nat → Int32) (d49 : Nat → Int32) (d59 : Nat → Int32) (H : Heap) (locs : List Loc) (ls : Array Slot), tn < j → (x = nI tn) → (tn ≤ 151) → va_P (dC, dI) vwCl [(h0, .inr (2, [.ref p1, .ref p2, .ref p3, .ref p4, .ref p5, .ref p6, .ref p7, .ref p8])), (p1, .inl (cI, 151, .inl d19)), (p2, .inl (cI, 151, .inl d29)), (p3, .inl (cI, 151, .inl d39)), (p4, .inl (cI, 151, .inl d49)), (p5, .inl (cI, 151, .inl d59))] H → va_D A [(h0, .inr (2, [.ref p1, .ref p2, .ref p3, .ref p4, .ref p5, .ref p6, .ref p7, .ref p8])), (p1, .inl (cI, 151, .inl d19)), (p2, .inl (cI, 151, .inl d29)), (p3, .inl (cI, 151, .inl d39)), (p4, .inl (cI, 151, .inl d49)), (p5, .inl (cI, 151, .inl d59))] → va_S A s.heap H locs → lv_has ls 6 [(5, .int x), (4, .int q3), (2, .int q1), (1, .int (nI ka)), (0, .ref h0)] → W p l e (headSpec wsX2_offerLengths ({ frames := 3, cells := 0, slots := 0, locals := 72 })).room s m args below meth c H locs 0 0 Q (F0 m 3 ls []) := by
  intro j
  induction j with
  | zero => intro tn x d19 d29 d39 d49 d59 H locs ls hj; omega
  | succ j ih =>
    intro tn x d19 d29 d39 d49 d59 H locs ls hj hx1 hbt hP hD hS hl
    refine lv_iload hx hb dX2_offerLengths_3 (lv_at hl 0 rfl) ?_
    refine lv_iconst (v := 1) hx hb dX2_offerLengths_5 (by decide) ?_
    refine lv_icmp_lt (tgt := 25) hx hb dX2_offerLengths_6 (by decide) (fun c6 => ?_) (fun c6 => ?_)
    · skip
      exact kk tn x d19 d29 d39 d49 d59 H locs ls  (hP.sub [0, 1, 2, 3, 4, 5] rfl) (hD.sub [0, 1, 2, 3, 4, 5] (by decide) rfl) hS (lv_sub hl [0, 1, 2, 3, 4] rfl)
    · skip
      have hlt : 1 ≤ tn := Nat.le_of_not_lt (fun q => c6 (by rw [hx1]; show nI tn < nI 1; exact nI_lt q (by omega)))
      obtain ⟨t1, rfl⟩ : ∃ t1, tn = t1 + 1 := ⟨tn - 1, by omega⟩
      subst hx1
      have hx1 : nI (t1 + 1) = nI (t1 + 1) := rfl
      refine lv_aload_n hx hb dX2_offerLengths_9 rfl (lv_at hl 4 rfl) ?_
      refine lv_iload_n hx hb dX2_offerLengths_10 rfl (lv_at hl 3 rfl) ?_
      refine lv_iload_n hx hb dX2_offerLengths_11 rfl (lv_at hl 2 rfl) ?_
      refine lv_iload hx hb dX2_offerLengths_12 (lv_at hl 0 rfl) ?_
      refine lv_iload hx hb dX2_offerLengths_14 (lv_at hl 1 rfl) ?_
      have hPc := hP.sub (ws' := [(h0, .inr (2, [.ref p1, .ref p2, .ref p3, .ref p4, .ref p5, .ref p6, .ref p7, .ref p8])), (p1, .inl (cI, 151, .inl d19)), (p2, .inl (cI, 151, .inl d29)), (p3, .inl (cI, 151, .inl d39)), (p4, .inl (cI, 151, .inl d49)), (p5, .inl (cI, 151, .inl d59))]) [0, 1, 2, 3, 4, 5] rfl
      have hDc := hD.sub (ws' := [(h0, .inr (2, [.ref p1, .ref p2, .ref p3, .ref p4, .ref p5, .ref p6, .ref p7, .ref p8])), (p1, .inl (cI, 151, .inl d19)), (p2, .inl (cI, 151, .inl d29)), (p3, .inl (cI, 151, .inl d39)), (p4, .inl (cI, 151, .inl d49)), (p5, .inl (cI, 151, .inl d59))]) [0, 1, 2, 3, 4, 5] (by decide) rfl
      have hFc := va_free (wc := [(h0, .inr (2, [.ref p1, .ref p2, .ref p3, .ref p4, .ref p5, .ref p6, .ref p7, .ref p8])), (p1, .inl (cI, 151, .inl d19)), (p2, .inl (cI, 151, .inl d29)), (p3, .inl (cI, 151, .inl d39)), (p4, .inl (cI, 151, .inl d49)), (p5, .inl (cI, 151, .inl d59))]) hD hS hA [0, 1, 2, 3, 4, 5] rfl
      have hKc := hK.sub (tys' := [(cI, .int)]) [0] rfl
      refine va_callv (va_runV (As := [.int (nI ka), .int q1, .int (nI (t1 + 1)), .int q3]) (rest := []) ⟨hx, hb, hml, hown, hts⟩ (q_offer l dC dI cI h0 p1 p2 p3 p4 p5 p6 p7 p8 d19 d29 d39 d49 d59 ka q1 (t1 + 1) q3 H.size h1 (by omega)) (cwV 4 hts gX2_offerLengths_X2_offer rfl rfl rfl (by decide +kernel) ⟨Nat.le_of_ble_eq_true rfl, Nat.le_of_ble_eq_true rfl⟩) ⟨fun a U g mk q => by obtain ⟨q0, q1, qP, qK, qD⟩ := q; exact ⟨q0, q1, qP, va_K.moved (u := U) (U := U.calling g mk a) (Vm.Alike.refl U.vm) qK, qD⟩, va_recv hKc hPc (ci := 2) (q0 := 0) rfl rfl, fun U hU hW => ⟨rfl, by rw [hU], by rw [hU]; exact hPc, va_K.moved hW.alike hKc, zz_D hDc⟩⟩ rfl rfl hl.1 rfl (lv_room (Nat.le_of_ble_eq_true rfl)) dX2_offerLengths_16 ⟨(Nat.le_of_ble_eq_true rfl), (Nat.le_of_ble_eq_true rfl)⟩) hS (fun q _ h => hFc q h) hFc (fun u_903 t H1 locs ht hvm hw hB hz1 hk1 hS1 => ?_)
      obtain ⟨hP1, hD1⟩ := hB
      rw [ht] at hP1
      obtain ⟨hP, hD⟩ := va_join (wr := []) (w1 := [(h0, .inr (2, [.ref p1, .ref p2, .ref p3, .ref p4, .ref p5, .ref p6, .ref p7, .ref p8])), (p1, .inl (cI, 151, .inl u_903.1)), (p2, .inl (cI, 151, .inl u_903.2.1)), (p3, .inl (cI, 151, .inl u_903.2.2.1)), (p4, .inl (cI, 151, .inl u_903.2.2.2.1)), (p5, .inl (cI, 151, .inl u_903.2.2.2.2))]) hP hD [0, 1, 2, 3, 4, 5] [] rfl rfl (by decide) (by decide) hk1 hFc hP1 hD1
      have hS := hS1
      clear hS1
      generalize H1 = H at hP hS ht ⊢
      have hP : va_P (dC, dI) vwCl [(h0, .inr (2, [.ref p1, .ref p2, .ref p3, .ref p4, .ref p5, .ref p6, .ref p7, .ref p8])), (p1, .inl (cI, 151, .inl u_903.1)), (p2, .inl (cI, 151, .inl u_903.2.1)), (p3, .inl (cI, 151, .inl u_903.2.2.1)), (p4, .inl (cI, 151, .inl u_903.2.2.2.1)), (p5, .inl (cI, 151, .inl u_903.2.2.2.2))] H := hP
      have hD : va_D A [(h0, .inr (2, [.ref p1, .ref p2, .ref p3, .ref p4, .ref p5, .ref p6, .ref p7, .ref p8])), (p1, .inl (cI, 151, .inl u_903.1)), (p2, .inl (cI, 151, .inl u_903.2.1)), (p3, .inl (cI, 151, .inl u_903.2.2.1)), (p4, .inl (cI, 151, .inl u_903.2.2.2.1)), (p5, .inl (cI, 151, .inl u_903.2.2.2.2))] := hD
      have w16 := hw
      obtain ⟨x_904, ex_904⟩ : ∃ y : Int32, y = nI (t1 + 1) + (-1) := ⟨_, rfl⟩
      refine lv_iinc (v := x_904) (lv' := [(5, .int x_904), (4, .int q3), (2, .int q1), (1, .int (nI ka)), (0, .ref h0)]) hx hb dX2_offerLengths_19 hl (k := 0) rfl (by rw [ex_904]; rfl) (by decide) rfl (fun ls hl => ?_)
      refine lv_goto (tgt := 3) hx hb dX2_offerLengths_22 (by decide) ?_
      exact ih t1 x_904 u_903.1 u_903.2.1 u_903.2.2.1 u_903.2.2.2.1 u_903.2.2.2.2 H locs ls (by omega) (by rw [ex_904, ← Int32.sub_eq_add_neg]; exact nI_pred t1) (by omega) (hP.sub [0, 1, 2, 3, 4, 5] rfl) (hD.sub [0, 1, 2, 3, 4, 5] (by decide) rfl) hS (lv_sub hl [0, 1, 2, 3, 4] rfl)
set_option maxHeartbeats 4000000 in
set_option maxRecDepth 100000 in
theorem q_ol (l : Launch) (dC : Nat → ClassId) (dI : Nat → Nat → Nat) (cI : ClassId) (h0 : Nat) (p1 : Nat) (p2 : Nat) (p3 : Nat) (p4 : Nat) (p5 : Nat) (p6 : Nat) (p7 : Nat) (p8 : Nat) (e19 : Nat → Int32) (e29 : Nat → Int32) (e39 : Nat → Int32) (e49 : Nat → Int32) (e59 : Nat → Int32) (ka : Nat) (q1 : Int32) (kb : Nat) (q3 : Int32) (sz : Nat) (h1 : ka ≤ 150) (h2 : kb ≤ 151) : Met l yX2_offerLengths wsX2_offerLengths ({ frames := 3, cells := 0, slots := 0, locals := 72 }) (va_Pc [.ref h0, .int (nI ka), .int q1, .int (nI kb), .int q3] (fun U => U.heap.size = sz ∧ va_P (dC, dI) vwCl [(h0, .inr (2, [.ref p1, .ref p2, .ref p3, .ref p4, .ref p5, .ref p6, .ref p7, .ref p8])), (p1, .inl (cI, 151, .inl e19)), (p2, .inl (cI, 151, .inl e29)), (p3, .inl (cI, 151, .inl e39)), (p4, .inl (cI, 151, .inl e49)), (p5, .inl (cI, 151, .inl e59))] U.heap ∧ va_K (dC, dI) vwCl [(cI, .int)] U ∧ va_D (fun _ => True) [(h0, .inr (2, [.ref p1, .ref p2, .ref p3, .ref p4, .ref p5, .ref p6, .ref p7, .ref p8])), (p1, .inl (cI, 151, .inl e19)), (p2, .inl (cI, 151, .inl e29)), (p3, .inl (cI, 151, .inl e39)), (p4, .inl (cI, 151, .inl e49)), (p5, .inl (cI, 151, .inl e59))])) (va_Qv (fun u9 : (Nat → Int32) × (Nat → Int32) × (Nat → Int32) × (Nat → Int32) × (Nat → Int32) => True) (fun u9 t => va_P (dC, dI) vwCl [(h0, .inr (2, [.ref p1, .ref p2, .ref p3, .ref p4, .ref p5, .ref p6, .ref p7, .ref p8])), (p1, .inl (cI, 151, .inl u9.1)), (p2, .inl (cI, 151, .inl u9.2.1)), (p3, .inl (cI, 151, .inl u9.2.2.1)), (p4, .inl (cI, 151, .inl u9.2.2.2.1)), (p5, .inl (cI, 151, .inl u9.2.2.2.2))] t.heap ∧ va_D (va_A [(h0, .inr (2, [.ref p1, .ref p2, .ref p3, .ref p4, .ref p5, .ref p6, .ref p7, .ref p8])), (p1, .inl (cI, 151, .inl e19)), (p2, .inl (cI, 151, .inl e29)), (p3, .inl (cI, 151, .inl e39)), (p4, .inl (cI, 151, .inl e49)), (p5, .inl (cI, 151, .inl e59))] sz) [(h0, .inr (2, [.ref p1, .ref p2, .ref p3, .ref p4, .ref p5, .ref p6, .ref p7, .ref p8])), (p1, .inl (cI, 151, .inl u9.1)), (p2, .inl (cI, 151, .inl u9.2.1)), (p3, .inl (cI, 151, .inl u9.2.2.1)), (p4, .inl (cI, 151, .inl u9.2.2.2.1)), (p5, .inl (cI, 151, .inl u9.2.2.2.2))]) (va_A [(h0, .inr (2, [.ref p1, .ref p2, .ref p3, .ref p4, .ref p5, .ref p6, .ref p7, .ref p8])), (p1, .inl (cI, 151, .inl e19)), (p2, .inl (cI, 151, .inl e29)), (p3, .inl (cI, 151, .inl e39)), (p4, .inl (cI, 151, .inl e49)), (p5, .inl (cI, 151, .inl e59))] sz)) 0 0 (va_A [(h0, .inr (2, [.ref p1, .ref p2, .ref p3, .ref p4, .ref p5, .ref p6, .ref p7, .ref p8])), (p1, .inl (cI, 151, .inl e19)), (p2, .inl (cI, 151, .inl e29)), (p3, .inl (cI, 151, .inl e39)), (p4, .inl (cI, 151, .inl e49)), (p5, .inl (cI, 151, .inl e59))] sz) := by
  refine Met.ofW (cc := cX2_offerLengths) (maxL := 6) (ret := none) (by decide) rfl ?_
  intro p e s m args below meth c s₁ B hml hv
  obtain ⟨rfl, hsz, hP, hK, hD0⟩ := hv
  have hx := B.exec
  have hb := B.bytes
  have hr := B.returns
  have hts := atoms_spec (ws := wsX2_offerLengths) B.pre
  have hown : s.vm.findClass RX2 = some m.cls := findClass_of_methodNamed B.named
  have hlocks := B.notSynchronized
  subst hsz
  have hD := hD0.self (sz := s.heap.size)
  generalize hAe : va_A [(h0, .inr (2, [.ref p1, .ref p2, .ref p3, .ref p4, .ref p5, .ref p6, .ref p7, .ref p8])), (p1, .inl (cI, 151, .inl e19)), (p2, .inl (cI, 151, .inl e29)), (p3, .inl (cI, 151, .inl e39)), (p4, .inl (cI, 151, .inl e49)), (p5, .inl (cI, 151, .inl e59))] s.heap.size = A at hD ⊢
  have hA : ∀ q : Nat, s.heap.size ≤ q → A q := fun q h => by rw [← hAe]; exact Or.inr h
  have hS : va_S A s.heap s.heap [] := va_S.rf
  have hP : va_P (dC, dI) vwCl [(h0, .inr (2, [.ref p1, .ref p2, .ref p3, .ref p4, .ref p5, .ref p6, .ref p7, .ref p8])), (p1, .inl (cI, 151, .inl e19)), (p2, .inl (cI, 151, .inl e29)), (p3, .inl (cI, 151, .inl e39)), (p4, .inl (cI, 151, .inl e49)), (p5, .inl (cI, 151, .inl e59))] s.heap := hP
  have hl := lv_entry ([.ref h0, .int (nI ka), .int q1, .int (nI kb), .int q3]) (n := 6) (Nat.le_of_ble_eq_true rfl)
  rw [lg_entry_eq]
  generalize (lg_sl ([.ref h0, .int (nI ka), .int q1, .int (nI kb), .int q3]) ++ List.replicate (6 - (lg_sl ([.ref h0, .int (nI ka), .int q1, .int (nI kb), .int q3])).length) Slot.unset).toArray = ls at hl ⊢
  have hl : lv_has ls 6 [(0, .ref h0), (1, .int (nI ka)), (2, .int q1), (3, .int (nI kb)), (4, .int q3)] := hl
  refine lv_iload_n hx hb dX2_offerLengths_0 rfl (lv_at hl 3 rfl) ?_
  refine lv_istore (lv' := [(5, .int (nI kb)), (0, .ref h0), (1, .int (nI ka)), (2, .int q1), (3, .int (nI kb)), (4, .int q3)]) hx hb dX2_offerLengths_1 hl (by decide) rfl (fun ls hl => ?_)
  refine lo_ol dC dI cI h0 p1 p2 p3 p4 p5 p6 p7 p8 e19 e29 e39 e49 e59 ka q1 kb q3 h1 hx hb hml hown hts hA hK ?_ 152 kb (nI kb) e19 e29 e39 e49 e59 _ _ ls (by omega) rfl (by omega) (hP.sub [0, 1, 2, 3, 4, 5] rfl) (hD.sub [0, 1, 2, 3, 4, 5] (by decide) rfl) hS (lv_sub hl [0, 5, 3, 2, 1] rfl)
  intro tn x d19 d29 d39 d49 d59 H locs ls hP hD hS hl
  have hP9 := hP.sub (ws' := [(h0, .inr (2, [.ref p1, .ref p2, .ref p3, .ref p4, .ref p5, .ref p6, .ref p7, .ref p8])), (p1, .inl (cI, 151, .inl d19)), (p2, .inl (cI, 151, .inl d29)), (p3, .inl (cI, 151, .inl d39)), (p4, .inl (cI, 151, .inl d49)), (p5, .inl (cI, 151, .inl d59))]) [0, 1, 2, 3, 4, 5] rfl
  have hD9 := hD.sub (ws' := [(h0, .inr (2, [.ref p1, .ref p2, .ref p3, .ref p4, .ref p5, .ref p6, .ref p7, .ref p8])), (p1, .inl (cI, 151, .inl d19)), (p2, .inl (cI, 151, .inl d29)), (p3, .inl (cI, 151, .inl d39)), (p4, .inl (cI, 151, .inl d49)), (p5, .inl (cI, 151, .inl d59))]) [0, 1, 2, 3, 4, 5] (by decide) rfl
  exact W.vret hx hb hr (fun t ht hW => ⟨⟨(d19, d29, d39, d49, d59), rfl, trivial, ⟨by rw [ht]; exact hP9, hD9⟩⟩, hS.F ht⟩) hS.2.2 dX2_offerLengths_25
