set_option maxHeartbeats 4000000 in
set_option maxRecDepth 100000 in
theorem lo_lc {p : Program} {l : Launch} {e : Env} {s : State} {m : MethodId} {args : Array Value} {below : List Frame} {meth : Method} {c : Code} {Q : State → Prop} {A : Nat → Prop} (dC : Nat → ClassId) (dI : Nat → Nat → Nat) (cI : ClassId) (cm : Nat) (kf : Nat → Int32) (rr : Nat) (ra : Nat) (rc : Int32) (rf : Nat → Int32) (q2 : Int32) (q3 : Int32) (hx : p.tables.exec = Jvm.exec) (hb : c.code = cX2_lengthenCommon) (hml : c.maxLocals = 5) (hown : s.vm.findClass RX2 = some m.cls) (hts : ∀ w ∈ wsX2_lengthenCommon, w.before args s = true) (hA : ∀ q : Nat, s.heap.size ≤ q → A q) (hK : va_K (dC, dI) vwCl [(cI, .int)] s)
    (kk : ∀ (k : Nat) (x : Int32) (kg : Nat → Int32) (H : Heap) (locs : List Loc) (ls : Array Slot), va_P (dC, dI) vwCl [(cm, .inl (cI, 151, .inl kg)), (rr, .inr (3, [.ref ra, .int rc])), (ra, .inl (cI, 150, .inl rf))] H → va_D A [(cm, .inl (cI, 151, .inl kg)), (rr, .inr (3, [.ref ra, .int rc])), (ra, .inl (cI, 150, .inl rf))] → va_S A s.heap H locs → lv_has ls 5 [(4, .int x), (3, .int q3), (2, .int q2), (1, .ref rr), (0, .ref cm)] → W p l e (headSpec wsX2_lengthenCommon ({ frames := 2, cells := 0, slots := 0, locals := 42 })).room s m args below meth c H locs 0 0 Q (F0 m 50 ls []))
    : ∀ (j : Nat) (k : Nat) (x : Int32) (kg : Nat → Int32) (H : Heap) (locs : List Loc) (ls : Array Slot), 151 - k < j → (x = nI k) → (k ≤ 150) → va_P (dC, dI) vwCl [(cm, .inl (cI, 151, .inl kg)), (rr, .inr (3, [.ref ra, .int rc])), (ra, .inl (cI, 150, .inl rf))] H → va_D A [(cm, .inl (cI, 151, .inl kg)), (rr, .inr (3, [.ref ra, .int rc])), (ra, .inl (cI, 150, .inl rf))] → va_S A s.heap H locs → lv_has ls 5 [(4, .int x), (3, .int q3), (2, .int q2), (1, .ref rr), (0, .ref cm)] → W p l e (headSpec wsX2_lengthenCommon ({ frames := 2, cells := 0, slots := 0, locals := 42 })).room s m args below meth c H locs 0 0 Q (F0 m 3 ls []) := by
  intro j
  induction j with
  | zero => intro k x kg H locs ls hj; omega
  | succ j ih =>
    intro k x kg H locs ls hj hx1 hk hP hD hS hl
    refine lv_iload hx hb dX2_lengthenCommon_3 (lv_at hl 0 rfl) ?_
    refine lv_iload_n hx hb dX2_lengthenCommon_5 rfl (lv_at hl 2 rfl) ?_
    refine lv_icmp_ge (tgt := 50) hx hb dX2_lengthenCommon_6 (by decide) (fun c6 => ?_) (fun c6 => ?_)
    · skip
      exact kk k x kg H locs ls  (hP.sub [0, 1, 2] rfl) (hD.sub [0, 1, 2] (by decide) rfl) hS (lv_sub hl [0, 1, 2, 3, 4] rfl)
    · skip
      refine lv_iload hx hb dX2_lengthenCommon_9 (lv_at hl 0 rfl) ?_
      refine lv_iconst (v := 1) hx hb dX2_lengthenCommon_11 (by decide) ?_
      refine lv_iadd hx hb dX2_lengthenCommon_12 ?_
      refine lv_topi (fun x_892 ex_892 => ?_)
      obtain rfl : x + 1 = x_892 := ex_892.symm
      refine lv_aload_n hx hb dX2_lengthenCommon_13 rfl (lv_at hl 4 rfl) ?_
      refine va_alen (v := 151) hx hb hK hP 0 0 rfl rfl rfl dX2_lengthenCommon_14 ?_
      refine lv_icmp_ge (tgt := 50) hx hb dX2_lengthenCommon_15 (by decide) (fun c15 => ?_) (fun c15 => ?_)
      · skip
        exact kk k x kg H locs ls  (hP.sub [0, 1, 2] rfl) (hD.sub [0, 1, 2] (by decide) rfl) hS (lv_sub hl [0, 1, 2, 3, 4] rfl)
      · skip
        have hlt : k + 1 < 151 := Nat.lt_of_not_le (fun q => c15 (by rw [hx1, nI_1]; show nI 151 ≤ nI (k + 1); exact nI_le q (by omega)))
        refine lv_aload_n hx hb dX2_lengthenCommon_18 rfl (lv_at hl 4 rfl) ?_
        refine lv_iload hx hb dX2_lengthenCommon_19 (lv_at hl 0 rfl) ?_
        refine lv_aload_n hx hb dX2_lengthenCommon_21 rfl (lv_at hl 3 rfl) ?_
        refine lv_iload hx hb dX2_lengthenCommon_22 (lv_at hl 0 rfl) ?_
        have hPc := hP.sub (ws' := [(rr, .inr (3, [.ref ra, .int rc])), (ra, .inl (cI, 150, .inl rf))]) [1, 2] rfl
        have hFc : ∀ q : Nat, H.size ≤ q → A q := fun q h => hA q (Nat.le_trans hS.1 h)
        have hKc := hK.sub (tys' := [(cI, .int)]) [0] rfl
        refine va_calli (va_runV (As := [.int x]) (rest := [.int x, .ref cm]) ⟨hx, hb, hml, hown, hts⟩ (q_at l dC dI cI rr ra 150 rf rc x H.size (by decide)) (cwV 1 hts gX2_lengthenCommon_X3_at rfl rfl rfl (by decide +kernel) ⟨Nat.le_of_ble_eq_true rfl, Nat.le_of_ble_eq_true rfl⟩) ⟨fun a U g mk q => by obtain ⟨q0, q1, qP, qK, qD⟩ := q; exact ⟨q0, q1, qP, va_K.moved (u := U) (U := U.calling g mk a) (Vm.Alike.refl U.vm) qK, qD⟩, va_recv hKc hPc (ci := 3) (q0 := 0) rfl rfl, fun U hU hW => ⟨rfl, by rw [hU], by rw [hU]; exact hPc, va_K.moved hW.alike hKc, zz_D (hD.sub (ws' := [(rr, .inr (3, [.ref ra, .int rc])), (ra, .inl (cI, 150, .inl rf))]) [1, 2] (by decide) rfl)⟩⟩ rfl rfl hl.1 rfl (lv_room (Nat.le_of_ble_eq_true rfl)) dX2_lengthenCommon_24 ⟨(Nat.le_of_ble_eq_true rfl), (Nat.le_of_ble_eq_true rfl)⟩) hS (fun q h1 h2 => absurd h1 (Nat.not_lt.mpr h2)) hFc (fun r_893 u_894 t H1 locs ht hvm hw hB hz1 hk1 hS1 => ?_)
        have hP := zz_keep hP hk1
        have hS := hS1
        clear hS1
        generalize H1 = H at hP hS ht ⊢
        have hP : va_P (dC, dI) vwCl [(cm, .inl (cI, 151, .inl kg)), (rr, .inr (3, [.ref ra, .int rc])), (ra, .inl (cI, 150, .inl rf))] H := hP
        have w24 := hw
        refine lv_iload_n hx hb dX2_lengthenCommon_27 rfl (lv_at hl 1 rfl) ?_
        refine lv_icmp_ne (tgt := 42) hx hb dX2_lengthenCommon_28 (by decide) (fun c28 => ?_) (fun c28 => ?_)
        · skip
          refine lv_iconst (v := 0) hx hb dX2_lengthenCommon_42 (by decide) ?_
          refine va_iast hx hb hK hP hD hS 0 0 rfl rfl (by rw [hx1]; exact vp_in_nI (by omega) (by omega)) dX2_lengthenCommon_43 (fun H locs hP hD hS => ?_)
          obtain ⟨f_895, ef_895⟩ : ∃ g, g = upd kg (x : Int32).toNatClampNeg 0 := ⟨_, rfl⟩
          rw [← ef_895] at hP hD
          have hP : va_P (dC, dI) vwCl [(cm, .inl (cI, 151, .inl f_895)), (rr, .inr (3, [.ref ra, .int rc])), (ra, .inl (cI, 150, .inl rf))] H := hP
          have hD : va_D A [(cm, .inl (cI, 151, .inl f_895)), (rr, .inr (3, [.ref ra, .int rc])), (ra, .inl (cI, 150, .inl rf))] := hD
          obtain ⟨x_896, ex_896⟩ : ∃ y : Int32, y = x + 1 := ⟨_, rfl⟩
          refine lv_iinc (v := x_896) (lv' := [(4, .int x_896), (3, .int q3), (2, .int q2), (1, .ref rr), (0, .ref cm)]) hx hb dX2_lengthenCommon_44 hl (k := 0) rfl (by rw [ex_896]; rfl) (by decide) rfl (fun ls hl => ?_)
          refine lv_goto (tgt := 3) hx hb dX2_lengthenCommon_47 (by decide) ?_
          exact ih (k + 1) x_896 f_895 H locs ls (by omega) (by rw [ex_896, hx1]; exact nI_1 k) (by omega) (hP.sub [0, 1, 2] rfl) (hD.sub [0, 1, 2] (by decide) rfl) hS (lv_sub hl [0, 1, 2, 3, 4] rfl)
        · skip
          refine lv_aload_n hx hb dX2_lengthenCommon_31 rfl (lv_at hl 4 rfl) ?_
          refine lv_iload hx hb dX2_lengthenCommon_32 (lv_at hl 0 rfl) ?_
          refine lv_iconst (v := 1) hx hb dX2_lengthenCommon_34 (by decide) ?_
          refine lv_iadd hx hb dX2_lengthenCommon_35 ?_
          refine lv_topi (fun x_897 ex_897 => ?_)
          obtain rfl : x + 1 = x_897 := ex_897.symm
          refine va_iald hx hb hK hP 0 0 rfl rfl (by rw [hx1, nI_1]; exact vp_in_nI (by omega) (by omega)) dX2_lengthenCommon_36 ?_
          refine lv_topi (fun x_898 ex_898 => ?_)
          refine lv_iconst (v := 1) hx hb dX2_lengthenCommon_37 (by decide) ?_
          refine lv_iadd hx hb dX2_lengthenCommon_38 ?_
          refine lv_topi (fun x_899 ex_899 => ?_)
          refine lv_goto (tgt := 43) hx hb dX2_lengthenCommon_39 (by decide) ?_
          refine va_iast hx hb hK hP hD hS 0 0 rfl rfl (by rw [hx1]; exact vp_in_nI (by omega) (by omega)) dX2_lengthenCommon_43 (fun H locs hP hD hS => ?_)
          obtain ⟨f_900, ef_900⟩ : ∃ g, g = upd kg (x : Int32).toNatClampNeg x_899 := ⟨_, rfl⟩
          rw [← ef_900] at hP hD
          have hP : va_P (dC, dI) vwCl [(cm, .inl (cI, 151, .inl f_900)), (rr, .inr (3, [.ref ra, .int rc])), (ra, .inl (cI, 150, .inl rf))] H := hP
          have hD : va_D A [(cm, .inl (cI, 151, .inl f_900)), (rr, .inr (3, [.ref ra, .int rc])), (ra, .inl (cI, 150, .inl rf))] := hD
          obtain ⟨x_901, ex_901⟩ : ∃ y : Int32, y = x + 1 := ⟨_, rfl⟩
          refine lv_iinc (v := x_901) (lv' := [(4, .int x_901), (3, .int q3), (2, .int q2), (1, .ref rr), (0, .ref cm)]) hx hb dX2_lengthenCommon_44 hl (k := 0) rfl (by rw [ex_901]; rfl) (by decide) rfl (fun ls hl => ?_)
          refine lv_goto (tgt := 3) hx hb dX2_lengthenCommon_47 (by decide) ?_
          exact ih (k + 1) x_901 f_900 H locs ls (by omega) (by rw [ex_901, hx1]; exact nI_1 k) (by omega) (hP.sub [0, 1, 2] rfl) (hD.sub [0, 1, 2] (by decide) rfl) hS (lv_sub hl [0, 1, 2, 3, 4] rfl)
set_option maxHeartbeats 4000000 in
set_option maxRecDepth 100000 in
theorem q_lc (l : Launch) (dC : Nat → ClassId) (dI : Nat → Nat → Nat) (cI : ClassId) (cm : Nat) (kf : Nat → Int32) (rr : Nat) (ra : Nat) (rc : Int32) (rf : Nat → Int32) (q2 : Int32) (q3 : Int32) (sz : Nat) : Met l yX2_lengthenCommon wsX2_lengthenCommon ({ frames := 2, cells := 0, slots := 0, locals := 42 }) (va_Pc [.ref cm, .ref rr, .int q2, .int q3] (fun U => U.heap.size = sz ∧ va_P (dC, dI) vwCl [(cm, .inl (cI, 151, .inl kf)), (rr, .inr (3, [.ref ra, .int rc])), (ra, .inl (cI, 150, .inl rf))] U.heap ∧ va_K (dC, dI) vwCl [(cI, .int)] U ∧ va_D (fun _ => True) [(cm, .inl (cI, 151, .inl kf)), (rr, .inr (3, [.ref ra, .int rc])), (ra, .inl (cI, 150, .inl rf))])) (va_Qv (fun kg : Nat → Int32 => True) (fun kg t => va_P (dC, dI) vwCl [(cm, .inl (cI, 151, .inl kg)), (rr, .inr (3, [.ref ra, .int rc])), (ra, .inl (cI, 150, .inl rf))] t.heap ∧ va_D (va_A [(cm, .inl (cI, 151, .inl kf)), (rr, .inr (3, [.ref ra, .int rc])), (ra, .inl (cI, 150, .inl rf))] sz) [(cm, .inl (cI, 151, .inl kg)), (rr, .inr (3, [.ref ra, .int rc])), (ra, .inl (cI, 150, .inl rf))]) (va_A [(cm, .inl (cI, 151, .inl kf)), (rr, .inr (3, [.ref ra, .int rc])), (ra, .inl (cI, 150, .inl rf))] sz)) 0 0 (va_A [(cm, .inl (cI, 151, .inl kf)), (rr, .inr (3, [.ref ra, .int rc])), (ra, .inl (cI, 150, .inl rf))] sz) := by
  refine Met.ofW (cc := cX2_lengthenCommon) (maxL := 5) (ret := none) (by decide) rfl ?_
  intro p e s m args below meth c s₁ B hml hv
  obtain ⟨rfl, hsz, hP, hK, hD0⟩ := hv
  have hx := B.exec
  have hb := B.bytes
  have hr := B.returns
  have hts := atoms_spec (ws := wsX2_lengthenCommon) B.pre
  have hown : s.vm.findClass RX2 = some m.cls := findClass_of_methodNamed B.named
  have hlocks := B.notSynchronized
  subst hsz
  have hD := hD0.self (sz := s.heap.size)
  generalize hAe : va_A [(cm, .inl (cI, 151, .inl kf)), (rr, .inr (3, [.ref ra, .int rc])), (ra, .inl (cI, 150, .inl rf))] s.heap.size = A at hD ⊢
  have hA : ∀ q : Nat, s.heap.size ≤ q → A q := fun q h => by rw [← hAe]; exact Or.inr h
  have hS : va_S A s.heap s.heap [] := va_S.rf
  have hP : va_P (dC, dI) vwCl [(cm, .inl (cI, 151, .inl kf)), (rr, .inr (3, [.ref ra, .int rc])), (ra, .inl (cI, 150, .inl rf))] s.heap := hP
  have hl := lv_entry ([.ref cm, .ref rr, .int q2, .int q3]) (n := 5) (Nat.le_of_ble_eq_true rfl)
  rw [lg_entry_eq]
  generalize (lg_sl ([.ref cm, .ref rr, .int q2, .int q3]) ++ List.replicate (5 - (lg_sl ([.ref cm, .ref rr, .int q2, .int q3])).length) Slot.unset).toArray = ls at hl ⊢
  have hl : lv_has ls 5 [(0, .ref cm), (1, .ref rr), (2, .int q2), (3, .int q3)] := hl
  refine lv_iconst (v := 0) hx hb dX2_lengthenCommon_0 (by decide) ?_
  refine lv_istore (lv' := [(4, .int 0), (0, .ref cm), (1, .ref rr), (2, .int q2), (3, .int q3)]) hx hb dX2_lengthenCommon_1 hl (by decide) rfl (fun ls hl => ?_)
  refine lo_lc dC dI cI cm kf rr ra rc rf q2 q3 hx hb hml hown hts hA hK ?_ 152 0 0 kf _ _ ls (by omega) nI_0.symm (by omega) (hP.sub [0, 1, 2] rfl) (hD.sub [0, 1, 2] (by decide) rfl) hS (lv_sub hl [0, 4, 3, 2, 1] rfl)
  intro k x kg H locs ls hP hD hS hl
  have hP9 := hP.sub (ws' := [(cm, .inl (cI, 151, .inl kg)), (rr, .inr (3, [.ref ra, .int rc])), (ra, .inl (cI, 150, .inl rf))]) [0, 1, 2] rfl
  have hD9 := hD.sub (ws' := [(cm, .inl (cI, 151, .inl kg)), (rr, .inr (3, [.ref ra, .int rc])), (ra, .inl (cI, 150, .inl rf))]) [0, 1, 2] (by decide) rfl
  exact W.vret hx hb hr (fun t ht hW => ⟨⟨kg, rfl, trivial, ⟨by rw [ht]; exact hP9, hD9⟩⟩, hS.F ht⟩) hS.2.2 dX2_lengthenCommon_50
