set_option maxHeartbeats 4000000 in
set_option maxRecDepth 100000 in
theorem lo_qmfill {p : Program} {l : Launch} {e : Env} {s : State} {m : MethodId} {args : Array Value} {below : List Frame} {meth : Method} {c : Code} {Q : State → Prop} {A : Nat → Prop} (dC : Nat → ClassId) (dI : Nat → Nat → Nat) (cI : ClassId) (ma : Nat → Nat) (hx : p.tables.exec = Jvm.exec) (hb : c.code = cX5_fill) (hml : c.maxLocals = 6) (hown : s.vm.findClass RX5 = some m.cls) (hts : ∀ w ∈ wsX5_fill, w.before args s = true) (hA : ∀ q : Nat, s.heap.size ≤ q → A q) (hK : va_K (dC, dI) vwCl [(cI, .int)] s)
    (kk : ∀ (k : Nat) (x : Int32) (kg : Nat → Int32) (H : Heap) (locs : List Loc) (ls : Array Slot), va_P (dC, dI) vwCl [(ma 0, .inr (5, [.int 0, .ref (ma 1), .int 0, .ref (ma 2), .int 0, .int 3, .int 0, .int 0, .ref (ma 3), .ref (ma 4), .ref (ma 5), .ref (ma 6), .int 0, .int 0, .ref (ma 7), .int 0, .ref (ma 8), .int (-1), .ref (ma 9), .ref (ma 10), .ref (ma 11), .ref (ma 12), .ref (ma 13), .int 0, .int 0])), (ma 1, .inl (cI, 150, .inl (fun _ => 0))), (ma 2, .inl (cI, 150, .inl kg)), (ma 3, .inl (cI, 150, .inl (fun _ => 0))), (ma 4, .inl (cI, 150, .inl (fun _ => 0))), (ma 5, .inl (cI, 150, .inl (fun _ => 0))), (ma 6, .inl (cI, 150, .inl (fun _ => 0))), (ma 7, .inl (cI, 400, .inl (fun _ => 0))), (ma 8, .inl (cI, 300, .inl (fun _ => 0))), (ma 9, .inl (cI, 151, .inl (fun _ => 0))), (ma 10, .inl (cI, 151, .inl (fun _ => 0))), (ma 11, .inl (cI, 151, .inl (fun _ => 0))), (ma 12, .inl (cI, 151, .inl (fun _ => 0))), (ma 13, .inl (cI, 151, .inl (fun _ => 0)))] H → va_D A [(ma 0, .inr (5, [.int 0, .ref (ma 1), .int 0, .ref (ma 2), .int 0, .int 3, .int 0, .int 0, .ref (ma 3), .ref (ma 4), .ref (ma 5), .ref (ma 6), .int 0, .int 0, .ref (ma 7), .int 0, .ref (ma 8), .int (-1), .ref (ma 9), .ref (ma 10), .ref (ma 11), .ref (ma 12), .ref (ma 13), .int 0, .int 0])), (ma 1, .inl (cI, 150, .inl (fun _ => 0))), (ma 2, .inl (cI, 150, .inl kg)), (ma 3, .inl (cI, 150, .inl (fun _ => 0))), (ma 4, .inl (cI, 150, .inl (fun _ => 0))), (ma 5, .inl (cI, 150, .inl (fun _ => 0))), (ma 6, .inl (cI, 150, .inl (fun _ => 0))), (ma 7, .inl (cI, 400, .inl (fun _ => 0))), (ma 8, .inl (cI, 300, .inl (fun _ => 0))), (ma 9, .inl (cI, 151, .inl (fun _ => 0))), (ma 10, .inl (cI, 151, .inl (fun _ => 0))), (ma 11, .inl (cI, 151, .inl (fun _ => 0))), (ma 12, .inl (cI, 151, .inl (fun _ => 0))), (ma 13, .inl (cI, 151, .inl (fun _ => 0)))] → va_S A s.heap H locs → lv_has ls 6 [(5, .int x), (4, .int 0), (3, .int 150), (2, .int 0), (1, .int 1), (0, .ref (ma 0))] → W p l e (headSpec wsX5_fill ({ frames := 1, cells := 0, slots := 0, locals := 22 })).room s m args below meth c H locs 0 0 Q (F0 m 96 ls []))
    : ∀ (j : Nat) (k : Nat) (x : Int32) (kg : Nat → Int32) (H : Heap) (locs : List Loc) (ls : Array Slot), 150 - k < j → (x = nI k) → (k ≤ 150) → va_P (dC, dI) vwCl [(ma 0, .inr (5, [.int 0, .ref (ma 1), .int 0, .ref (ma 2), .int 0, .int 3, .int 0, .int 0, .ref (ma 3), .ref (ma 4), .ref (ma 5), .ref (ma 6), .int 0, .int 0, .ref (ma 7), .int 0, .ref (ma 8), .int (-1), .ref (ma 9), .ref (ma 10), .ref (ma 11), .ref (ma 12), .ref (ma 13), .int 0, .int 0])), (ma 1, .inl (cI, 150, .inl (fun _ => 0))), (ma 2, .inl (cI, 150, .inl kg)), (ma 3, .inl (cI, 150, .inl (fun _ => 0))), (ma 4, .inl (cI, 150, .inl (fun _ => 0))), (ma 5, .inl (cI, 150, .inl (fun _ => 0))), (ma 6, .inl (cI, 150, .inl (fun _ => 0))), (ma 7, .inl (cI, 400, .inl (fun _ => 0))), (ma 8, .inl (cI, 300, .inl (fun _ => 0))), (ma 9, .inl (cI, 151, .inl (fun _ => 0))), (ma 10, .inl (cI, 151, .inl (fun _ => 0))), (ma 11, .inl (cI, 151, .inl (fun _ => 0))), (ma 12, .inl (cI, 151, .inl (fun _ => 0))), (ma 13, .inl (cI, 151, .inl (fun _ => 0)))] H → va_D A [(ma 0, .inr (5, [.int 0, .ref (ma 1), .int 0, .ref (ma 2), .int 0, .int 3, .int 0, .int 0, .ref (ma 3), .ref (ma 4), .ref (ma 5), .ref (ma 6), .int 0, .int 0, .ref (ma 7), .int 0, .ref (ma 8), .int (-1), .ref (ma 9), .ref (ma 10), .ref (ma 11), .ref (ma 12), .ref (ma 13), .int 0, .int 0])), (ma 1, .inl (cI, 150, .inl (fun _ => 0))), (ma 2, .inl (cI, 150, .inl kg)), (ma 3, .inl (cI, 150, .inl (fun _ => 0))), (ma 4, .inl (cI, 150, .inl (fun _ => 0))), (ma 5, .inl (cI, 150, .inl (fun _ => 0))), (ma 6, .inl (cI, 150, .inl (fun _ => 0))), (ma 7, .inl (cI, 400, .inl (fun _ => 0))), (ma 8, .inl (cI, 300, .inl (fun _ => 0))), (ma 9, .inl (cI, 151, .inl (fun _ => 0))), (ma 10, .inl (cI, 151, .inl (fun _ => 0))), (ma 11, .inl (cI, 151, .inl (fun _ => 0))), (ma 12, .inl (cI, 151, .inl (fun _ => 0))), (ma 13, .inl (cI, 151, .inl (fun _ => 0)))] → va_S A s.heap H locs → lv_has ls 6 [(5, .int x), (4, .int 0), (3, .int 150), (2, .int 0), (1, .int 1), (0, .ref (ma 0))] → W p l e (headSpec wsX5_fill ({ frames := 1, cells := 0, slots := 0, locals := 22 })).room s m args below meth c H locs 0 0 Q (F0 m 72 ls []) := by
  intro j
  induction j with
  | zero => intro k x kg H locs ls hj; omega
  | succ j ih =>
    intro k x kg H locs ls hj hx1 hkt hP hD hS hl
    refine lv_iload hx hb dX5_fill_72 (lv_at hl 0 rfl) ?_
    refine lv_iload_n hx hb dX5_fill_74 rfl (lv_at hl 2 rfl) ?_
    refine lv_icmp_ge (tgt := 96) hx hb dX5_fill_75 (by decide) (fun c75 => ?_) (fun c75 => ?_)
    · skip
      exact kk k x kg H locs ls  (hP.sub [0, 1, 2, 3, 4, 5, 6, 7, 8, 9, 10, 11, 12, 13] rfl) (hD.sub [0, 1, 2, 3, 4, 5, 6, 7, 8, 9, 10, 11, 12, 13] (by decide) rfl) hS (lv_sub hl [0, 1, 2, 3, 4, 5] rfl)
    · skip
      have hlt : k < 150 := Nat.lt_of_not_le (fun q => c75 (by rw [hx1]; show nI 150 ≤ nI k; exact nI_le q (by omega)))
      refine lv_aload_n hx hb dX5_fill_78 rfl (lv_at hl 5 rfl) ?_
      refine lv_iload_n hx hb dX5_fill_79 rfl (lv_at hl 4 rfl) ?_
      have hPc := hP.sub (ws' := [(ma 0, .inr (5, [.int 0, .ref (ma 1), .int 0, .ref (ma 2), .int 0, .int 3, .int 0, .int 0, .ref (ma 3), .ref (ma 4), .ref (ma 5), .ref (ma 6), .int 0, .int 0, .ref (ma 7), .int 0, .ref (ma 8), .int (-1), .ref (ma 9), .ref (ma 10), .ref (ma 11), .ref (ma 12), .ref (ma 13), .int 0, .int 0]))]) [0] rfl
      have hFc : ∀ q : Nat, H.size ≤ q → A q := fun q h => hA q (Nat.le_trans hS.1 h)
      have hKc := hK.sub (tys' := []) [] rfl
      refine va_callr (va_runV (As := [.int 1]) (rest := []) ⟨hx, hb, hml, hown, hts⟩ (c_X5_stringOf1 l dC dI ma H.size) (cwV 1 hts gX5_fill_X5_stringOf rfl rfl rfl (by decide +kernel) ⟨Nat.le_of_ble_eq_true rfl, Nat.le_of_ble_eq_true rfl⟩) ⟨fun a U g mk q => by obtain ⟨q0, q1, qP, qK, qD⟩ := q; exact ⟨q0, q1, qP, va_K.moved (u := U) (U := U.calling g mk a) (Vm.Alike.refl U.vm) qK, qD⟩, va_recv hKc hPc (ci := 5) (q0 := 0) rfl rfl, fun U hU hW => ⟨rfl, by rw [hU], by rw [hU]; exact hPc, va_K.moved hW.alike hKc, zz_D (hD.sub (ws' := [(ma 0, .inr (5, [.int 0, .ref (ma 1), .int 0, .ref (ma 2), .int 0, .int 3, .int 0, .int 0, .ref (ma 3), .ref (ma 4), .ref (ma 5), .ref (ma 6), .int 0, .int 0, .ref (ma 7), .int 0, .ref (ma 8), .int (-1), .ref (ma 9), .ref (ma 10), .ref (ma 11), .ref (ma 12), .ref (ma 13), .int 0, .int 0]))]) [0] (by decide) rfl)⟩⟩ rfl rfl hl.1 rfl (lv_room (Nat.le_of_ble_eq_true rfl)) dX5_fill_80 ⟨(Nat.le_of_ble_eq_true rfl), (Nat.le_of_ble_eq_true rfl)⟩) hS (fun q h1 h2 => absurd h1 (Nat.not_lt.mpr h2)) hFc (fun u_1042 r_1041 t H1 locs ht hvm hw hB hz1 hk1 hS1 => ?_)
      have hP := zz_keep hP hk1
      have hS := hS1
      clear hS1
      generalize H1 = H at hP hS ht ⊢
      have hP : va_P (dC, dI) vwCl [(ma 0, .inr (5, [.int 0, .ref (ma 1), .int 0, .ref (ma 2), .int 0, .int 3, .int 0, .int 0, .ref (ma 3), .ref (ma 4), .ref (ma 5), .ref (ma 6), .int 0, .int 0, .ref (ma 7), .int 0, .ref (ma 8), .int (-1), .ref (ma 9), .ref (ma 10), .ref (ma 11), .ref (ma 12), .ref (ma 13), .int 0, .int 0])), (ma 1, .inl (cI, 150, .inl (fun _ => 0))), (ma 2, .inl (cI, 150, .inl kg)), (ma 3, .inl (cI, 150, .inl (fun _ => 0))), (ma 4, .inl (cI, 150, .inl (fun _ => 0))), (ma 5, .inl (cI, 150, .inl (fun _ => 0))), (ma 6, .inl (cI, 150, .inl (fun _ => 0))), (ma 7, .inl (cI, 400, .inl (fun _ => 0))), (ma 8, .inl (cI, 300, .inl (fun _ => 0))), (ma 9, .inl (cI, 151, .inl (fun _ => 0))), (ma 10, .inl (cI, 151, .inl (fun _ => 0))), (ma 11, .inl (cI, 151, .inl (fun _ => 0))), (ma 12, .inl (cI, 151, .inl (fun _ => 0))), (ma 13, .inl (cI, 151, .inl (fun _ => 0)))] H := hP
      obtain rfl : ma 2 = r_1041 := (show r_1041 = ma 2 from hB).symm
      refine lv_iload hx hb dX5_fill_83 (lv_at hl 1 rfl) ?_
      refine lv_iload hx hb dX5_fill_85 (lv_at hl 0 rfl) ?_
      refine lv_iadd hx hb dX5_fill_87 ?_
      refine lv_topi (fun x_1043 ex_1043 => ?_)
      obtain rfl : 0 + x = x_1043 := ex_1043.symm
      refine lv_iload_n hx hb dX5_fill_88 rfl (lv_at hl 3 rfl) ?_
      refine va_iast hx hb hK hP hD hS 2 0 rfl rfl (by rw [hx1, Int32.zero_add]; exact vp_in_nI (by omega) (by omega)) dX5_fill_89 (fun H locs hP hD hS => ?_)
      obtain ⟨f_1044, ef_1044⟩ : ∃ g, g = upd kg (0 + x : Int32).toNatClampNeg 0 := ⟨_, rfl⟩
      rw [← ef_1044] at hP hD
      have hP : va_P (dC, dI) vwCl [(ma 0, .inr (5, [.int 0, .ref (ma 1), .int 0, .ref (ma 2), .int 0, .int 3, .int 0, .int 0, .ref (ma 3), .ref (ma 4), .ref (ma 5), .ref (ma 6), .int 0, .int 0, .ref (ma 7), .int 0, .ref (ma 8), .int (-1), .ref (ma 9), .ref (ma 10), .ref (ma 11), .ref (ma 12), .ref (ma 13), .int 0, .int 0])), (ma 1, .inl (cI, 150, .inl (fun _ => 0))), (ma 2, .inl (cI, 150, .inl f_1044)), (ma 3, .inl (cI, 150, .inl (fun _ => 0))), (ma 4, .inl (cI, 150, .inl (fun _ => 0))), (ma 5, .inl (cI, 150, .inl (fun _ => 0))), (ma 6, .inl (cI, 150, .inl (fun _ => 0))), (ma 7, .inl (cI, 400, .inl (fun _ => 0))), (ma 8, .inl (cI, 300, .inl (fun _ => 0))), (ma 9, .inl (cI, 151, .inl (fun _ => 0))), (ma 10, .inl (cI, 151, .inl (fun _ => 0))), (ma 11, .inl (cI, 151, .inl (fun _ => 0))), (ma 12, .inl (cI, 151, .inl (fun _ => 0))), (ma 13, .inl (cI, 151, .inl (fun _ => 0)))] H := hP
      have hD : va_D A [(ma 0, .inr (5, [.int 0, .ref (ma 1), .int 0, .ref (ma 2), .int 0, .int 3, .int 0, .int 0, .ref (ma 3), .ref (ma 4), .ref (ma 5), .ref (ma 6), .int 0, .int 0, .ref (ma 7), .int 0, .ref (ma 8), .int (-1), .ref (ma 9), .ref (ma 10), .ref (ma 11), .ref (ma 12), .ref (ma 13), .int 0, .int 0])), (ma 1, .inl (cI, 150, .inl (fun _ => 0))), (ma 2, .inl (cI, 150, .inl f_1044)), (ma 3, .inl (cI, 150, .inl (fun _ => 0))), (ma 4, .inl (cI, 150, .inl (fun _ => 0))), (ma 5, .inl (cI, 150, .inl (fun _ => 0))), (ma 6, .inl (cI, 150, .inl (fun _ => 0))), (ma 7, .inl (cI, 400, .inl (fun _ => 0))), (ma 8, .inl (cI, 300, .inl (fun _ => 0))), (ma 9, .inl (cI, 151, .inl (fun _ => 0))), (ma 10, .inl (cI, 151, .inl (fun _ => 0))), (ma 11, .inl (cI, 151, .inl (fun _ => 0))), (ma 12, .inl (cI, 151, .inl (fun _ => 0))), (ma 13, .inl (cI, 151, .inl (fun _ => 0)))] := hD
      obtain ⟨x_1045, ex_1045⟩ : ∃ y : Int32, y = x + 1 := ⟨_, rfl⟩
      refine lv_iinc (v := x_1045) (lv' := [(5, .int x_1045), (4, .int 0), (3, .int 150), (2, .int 0), (1, .int 1), (0, .ref (ma 0))]) hx hb dX5_fill_90 hl (k := 0) rfl (by rw [ex_1045]; rfl) (by decide) rfl (fun ls hl => ?_)
      refine lv_goto (tgt := 72) hx hb dX5_fill_93 (by decide) ?_
      exact ih (k + 1) x_1045 f_1044 H locs ls (by omega) (by rw [ex_1045, hx1]; exact nI_1 k) (by omega) (hP.sub [0, 1, 2, 3, 4, 5, 6, 7, 8, 9, 10, 11, 12, 13] rfl) (hD.sub [0, 1, 2, 3, 4, 5, 6, 7, 8, 9, 10, 11, 12, 13] (by decide) rfl) hS (lv_sub hl [0, 1, 2, 3, 4, 5] rfl)
set_option maxHeartbeats 4000000 in
set_option maxRecDepth 100000 in
theorem q_mfill (l : Launch) (dC : Nat → ClassId) (dI : Nat → Nat → Nat) (cI : ClassId) (ma : Nat → Nat) (sz : Nat) : Met l yX5_fill wsX5_fill ({ frames := 1, cells := 0, slots := 0, locals := 22 }) (va_Pc [.ref (ma 0), .int 1, .int 0, .int 150] (fun U => U.heap.size = sz ∧ va_P (dC, dI) vwCl (wm cI ma) U.heap ∧ va_K (dC, dI) vwCl [(cI, .int)] U ∧ va_D (fun _ => True) (wm cI ma))) (va_Qi (fun (r : Int32) (kg : Nat → Int32) => r = 150) (fun kg t => va_P (dC, dI) vwCl [(ma 0, .inr (5, [.int 0, .ref (ma 1), .int 0, .ref (ma 2), .int 150, .int 3, .int 0, .int 0, .ref (ma 3), .ref (ma 4), .ref (ma 5), .ref (ma 6), .int 0, .int 0, .ref (ma 7), .int 0, .ref (ma 8), .int (-1), .ref (ma 9), .ref (ma 10), .ref (ma 11), .ref (ma 12), .ref (ma 13), .int 0, .int 0])), (ma 1, .inl (cI, 150, .inl (fun _ => 0))), (ma 2, .inl (cI, 150, .inl kg)), (ma 3, .inl (cI, 150, .inl (fun _ => 0))), (ma 4, .inl (cI, 150, .inl (fun _ => 0))), (ma 5, .inl (cI, 150, .inl (fun _ => 0))), (ma 6, .inl (cI, 150, .inl (fun _ => 0))), (ma 7, .inl (cI, 400, .inl (fun _ => 0))), (ma 8, .inl (cI, 300, .inl (fun _ => 0))), (ma 9, .inl (cI, 151, .inl (fun _ => 0))), (ma 10, .inl (cI, 151, .inl (fun _ => 0))), (ma 11, .inl (cI, 151, .inl (fun _ => 0))), (ma 12, .inl (cI, 151, .inl (fun _ => 0))), (ma 13, .inl (cI, 151, .inl (fun _ => 0)))] t.heap ∧ va_D (va_A (wm cI ma) sz) [(ma 0, .inr (5, [.int 0, .ref (ma 1), .int 0, .ref (ma 2), .int 150, .int 3, .int 0, .int 0, .ref (ma 3), .ref (ma 4), .ref (ma 5), .ref (ma 6), .int 0, .int 0, .ref (ma 7), .int 0, .ref (ma 8), .int (-1), .ref (ma 9), .ref (ma 10), .ref (ma 11), .ref (ma 12), .ref (ma 13), .int 0, .int 0])), (ma 1, .inl (cI, 150, .inl (fun _ => 0))), (ma 2, .inl (cI, 150, .inl kg)), (ma 3, .inl (cI, 150, .inl (fun _ => 0))), (ma 4, .inl (cI, 150, .inl (fun _ => 0))), (ma 5, .inl (cI, 150, .inl (fun _ => 0))), (ma 6, .inl (cI, 150, .inl (fun _ => 0))), (ma 7, .inl (cI, 400, .inl (fun _ => 0))), (ma 8, .inl (cI, 300, .inl (fun _ => 0))), (ma 9, .inl (cI, 151, .inl (fun _ => 0))), (ma 10, .inl (cI, 151, .inl (fun _ => 0))), (ma 11, .inl (cI, 151, .inl (fun _ => 0))), (ma 12, .inl (cI, 151, .inl (fun _ => 0))), (ma 13, .inl (cI, 151, .inl (fun _ => 0)))]) (va_A (wm cI ma) sz)) 0 0 (va_A (wm cI ma) sz) := by
  refine Met.ofW (cc := cX5_fill) (maxL := 6) (ret := (some .int)) (by decide) rfl ?_
  intro p e s m args below meth c s₁ B hml hv
  obtain ⟨rfl, hsz, hP, hK, hD0⟩ := hv
  have hx := B.exec
  have hb := B.bytes
  have hr := B.returns
  have hts := atoms_spec (ws := wsX5_fill) B.pre
  have hown : s.vm.findClass RX5 = some m.cls := findClass_of_methodNamed B.named
  have hlocks := B.notSynchronized
  subst hsz
  have hD := hD0.self (sz := s.heap.size)
  generalize hAe : va_A (wm cI ma) s.heap.size = A at hD ⊢
  have hA : ∀ q : Nat, s.heap.size ≤ q → A q := fun q h => by rw [← hAe]; exact Or.inr h
  have hS : va_S A s.heap s.heap [] := va_S.rf
  have hP : va_P (dC, dI) vwCl [(ma 0, .inr (5, [.int 0, .ref (ma 1), .int 0, .ref (ma 2), .int 0, .int 3, .int 0, .int 0, .ref (ma 3), .ref (ma 4), .ref (ma 5), .ref (ma 6), .int 0, .int 0, .ref (ma 7), .int 0, .ref (ma 8), .int (-1), .ref (ma 9), .ref (ma 10), .ref (ma 11), .ref (ma 12), .ref (ma 13), .int 0, .int 0])), (ma 1, .inl (cI, 150, .inl (fun _ => 0))), (ma 2, .inl (cI, 150, .inl (fun _ => 0))), (ma 3, .inl (cI, 150, .inl (fun _ => 0))), (ma 4, .inl (cI, 150, .inl (fun _ => 0))), (ma 5, .inl (cI, 150, .inl (fun _ => 0))), (ma 6, .inl (cI, 150, .inl (fun _ => 0))), (ma 7, .inl (cI, 400, .inl (fun _ => 0))), (ma 8, .inl (cI, 300, .inl (fun _ => 0))), (ma 9, .inl (cI, 151, .inl (fun _ => 0))), (ma 10, .inl (cI, 151, .inl (fun _ => 0))), (ma 11, .inl (cI, 151, .inl (fun _ => 0))), (ma 12, .inl (cI, 151, .inl (fun _ => 0))), (ma 13, .inl (cI, 151, .inl (fun _ => 0)))] s.heap := hP
  have hl := lv_entry ([.ref (ma 0), .int 1, .int 0, .int 150]) (n := 6) (Nat.le_of_ble_eq_true rfl)
  rw [lg_entry_eq]
  generalize (lg_sl ([.ref (ma 0), .int 1, .int 0, .int 150]) ++ List.replicate (6 - (lg_sl ([.ref (ma 0), .int 1, .int 0, .int 150])).length) Slot.unset).toArray = ls at hl ⊢
  have hl : lv_has ls 6 [(0, .ref (ma 0)), (1, .int 1), (2, .int 0), (3, .int 150)] := hl
  refine lv_aload_n hx hb dX5_fill_0 rfl (lv_at hl 0 rfl) ?_
  refine lv_iconst (v := 0) hx hb dX5_fill_1 (by decide) ?_
  refine va_put (D := (dC, dI)) (ci := 5) (v := .int 0) (ty := .int) (C := RX5) (T := TX5) (N := 25) hx hb hts (by decide +kernel) tyX5 tyX5_ok nmX5 hown hK hP hD hS 0 rfl rfl 0 (by decide) (hts (.fieldLink RX5 56 "DeltaCodecModel" "thrown" "I") (by decide +kernel)) (fun _ h9 => h9) rfl (by decide +kernel) rfl rfl (Nat.le_of_ble_eq_true rfl) dX5_fill_2 (fun H locs hP hD hS => ?_)
  have hP : va_P (dC, dI) vwCl [(ma 0, .inr (5, [.int 0, .ref (ma 1), .int 0, .ref (ma 2), .int 0, .int 3, .int 0, .int 0, .ref (ma 3), .ref (ma 4), .ref (ma 5), .ref (ma 6), .int 0, .int 0, .ref (ma 7), .int 0, .ref (ma 8), .int (-1), .ref (ma 9), .ref (ma 10), .ref (ma 11), .ref (ma 12), .ref (ma 13), .int 0, .int 0])), (ma 1, .inl (cI, 150, .inl (fun _ => 0))), (ma 2, .inl (cI, 150, .inl (fun _ => 0))), (ma 3, .inl (cI, 150, .inl (fun _ => 0))), (ma 4, .inl (cI, 150, .inl (fun _ => 0))), (ma 5, .inl (cI, 150, .inl (fun _ => 0))), (ma 6, .inl (cI, 150, .inl (fun _ => 0))), (ma 7, .inl (cI, 400, .inl (fun _ => 0))), (ma 8, .inl (cI, 300, .inl (fun _ => 0))), (ma 9, .inl (cI, 151, .inl (fun _ => 0))), (ma 10, .inl (cI, 151, .inl (fun _ => 0))), (ma 11, .inl (cI, 151, .inl (fun _ => 0))), (ma 12, .inl (cI, 151, .inl (fun _ => 0))), (ma 13, .inl (cI, 151, .inl (fun _ => 0)))] H := hP
  have hD : va_D A [(ma 0, .inr (5, [.int 0, .ref (ma 1), .int 0, .ref (ma 2), .int 0, .int 3, .int 0, .int 0, .ref (ma 3), .ref (ma 4), .ref (ma 5), .ref (ma 6), .int 0, .int 0, .ref (ma 7), .int 0, .ref (ma 8), .int (-1), .ref (ma 9), .ref (ma 10), .ref (ma 11), .ref (ma 12), .ref (ma 13), .int 0, .int 0])), (ma 1, .inl (cI, 150, .inl (fun _ => 0))), (ma 2, .inl (cI, 150, .inl (fun _ => 0))), (ma 3, .inl (cI, 150, .inl (fun _ => 0))), (ma 4, .inl (cI, 150, .inl (fun _ => 0))), (ma 5, .inl (cI, 150, .inl (fun _ => 0))), (ma 6, .inl (cI, 150, .inl (fun _ => 0))), (ma 7, .inl (cI, 400, .inl (fun _ => 0))), (ma 8, .inl (cI, 300, .inl (fun _ => 0))), (ma 9, .inl (cI, 151, .inl (fun _ => 0))), (ma 10, .inl (cI, 151, .inl (fun _ => 0))), (ma 11, .inl (cI, 151, .inl (fun _ => 0))), (ma 12, .inl (cI, 151, .inl (fun _ => 0))), (ma 13, .inl (cI, 151, .inl (fun _ => 0)))] := hD
  refine lv_iload_n hx hb dX5_fill_5 rfl (lv_at hl 1 rfl) ?_
  have hPc := hP.sub (ws' := []) [] rfl
  have hFc : ∀ q : Nat, H.size ≤ q → A q := fun q h => hA q (Nat.le_trans hS.1 h)
  have hKc := hK.sub (tys' := []) [] rfl
  refine va_calli (va_runS (As := [.int 1]) (rest := []) ⟨hx, hb, hml, hown, hts⟩ (c_X5_isSide l dC dI 1 H.size) (va_cwS 1 hts gX5_fill_X5_isSide rfl rfl rfl (by decide +kernel) ⟨Nat.le_of_ble_eq_true rfl, Nat.le_of_ble_eq_true rfl⟩) ⟨fun a U g mk q => by obtain ⟨q0, q1, qP, qK, qD⟩ := q; exact ⟨q0, q1, qP, va_K.moved (u := U) (U := U.calling g mk a) (Vm.Alike.refl U.vm) qK, qD⟩, fun U hU hW => ⟨rfl, by rw [hU], by rw [hU]; exact hPc, va_K.moved hW.alike hKc, zz_D (hD.sub (ws' := []) [] (by decide) rfl)⟩⟩ rfl rfl hl.1 rfl (lv_room (Nat.le_of_ble_eq_true rfl)) dX5_fill_6 ⟨(Nat.le_of_ble_eq_true rfl), (Nat.le_of_ble_eq_true rfl)⟩) hS (fun q h1 h2 => absurd h1 (Nat.not_lt.mpr h2)) hFc (fun r_1046 u_1047 t H1 locs ht hvm hw hB hz1 hk1 hS1 => ?_)
  have hP := zz_keep hP hk1
  have hS := hS1
  clear hS1
  generalize H1 = H at hP hS ht ⊢
  have hP : va_P (dC, dI) vwCl [(ma 0, .inr (5, [.int 0, .ref (ma 1), .int 0, .ref (ma 2), .int 0, .int 3, .int 0, .int 0, .ref (ma 3), .ref (ma 4), .ref (ma 5), .ref (ma 6), .int 0, .int 0, .ref (ma 7), .int 0, .ref (ma 8), .int (-1), .ref (ma 9), .ref (ma 10), .ref (ma 11), .ref (ma 12), .ref (ma 13), .int 0, .int 0])), (ma 1, .inl (cI, 150, .inl (fun _ => 0))), (ma 2, .inl (cI, 150, .inl (fun _ => 0))), (ma 3, .inl (cI, 150, .inl (fun _ => 0))), (ma 4, .inl (cI, 150, .inl (fun _ => 0))), (ma 5, .inl (cI, 150, .inl (fun _ => 0))), (ma 6, .inl (cI, 150, .inl (fun _ => 0))), (ma 7, .inl (cI, 400, .inl (fun _ => 0))), (ma 8, .inl (cI, 300, .inl (fun _ => 0))), (ma 9, .inl (cI, 151, .inl (fun _ => 0))), (ma 10, .inl (cI, 151, .inl (fun _ => 0))), (ma 11, .inl (cI, 151, .inl (fun _ => 0))), (ma 12, .inl (cI, 151, .inl (fun _ => 0))), (ma 13, .inl (cI, 151, .inl (fun _ => 0)))] H := hP
  have w6 := hw
  rcases w6 with ⟨hr9, hp6⟩ | ⟨hr9, hn6⟩
  rotate_left
  · exact absurd (by decide) hn6
  subst hr9
  refine lv_if_ne (tgt := 18) hx hb dX5_fill_9 (by decide) (fun c9 => ?_) (fun h => absurd h (by decide))
  refine lv_iload_n hx hb dX5_fill_18 rfl (lv_at hl 2 rfl) ?_
  refine lv_iconst (v := 0) hx hb dX5_fill_19 (by decide) ?_
  refine lv_sipush (v := 255) hx hb dX5_fill_20 (by decide) ?_
  have hPc := hP.sub (ws' := []) [] rfl
  have hFc : ∀ q : Nat, H.size ≤ q → A q := fun q h => hA q (Nat.le_trans hS.1 h)
  have hKc := hK.sub (tys' := []) [] rfl
  refine va_calli (va_runS (As := [.int 0, .int 0, .int 255]) (rest := []) ⟨hx, hb, hml, hown, hts⟩ (c_X5_isIn l dC dI 0 0 255 H.size) (va_cwS 3 hts gX5_fill_X5_isIn rfl rfl rfl (by decide +kernel) ⟨Nat.le_of_ble_eq_true rfl, Nat.le_of_ble_eq_true rfl⟩) ⟨fun a U g mk q => by obtain ⟨q0, q1, qP, qK, qD⟩ := q; exact ⟨q0, q1, qP, va_K.moved (u := U) (U := U.calling g mk a) (Vm.Alike.refl U.vm) qK, qD⟩, fun U hU hW => ⟨rfl, by rw [hU], by rw [hU]; exact hPc, va_K.moved hW.alike hKc, zz_D (hD.sub (ws' := []) [] (by decide) rfl)⟩⟩ rfl rfl hl.1 rfl (lv_room (Nat.le_of_ble_eq_true rfl)) dX5_fill_23 ⟨(Nat.le_of_ble_eq_true rfl), (Nat.le_of_ble_eq_true rfl)⟩) hS (fun q h1 h2 => absurd h1 (Nat.not_lt.mpr h2)) hFc (fun r_1048 u_1049 t H1 locs ht hvm hw hB hz1 hk1 hS1 => ?_)
  have hP := zz_keep hP hk1
  have hS := hS1
  clear hS1
  generalize H1 = H at hP hS ht ⊢
  have hP : va_P (dC, dI) vwCl [(ma 0, .inr (5, [.int 0, .ref (ma 1), .int 0, .ref (ma 2), .int 0, .int 3, .int 0, .int 0, .ref (ma 3), .ref (ma 4), .ref (ma 5), .ref (ma 6), .int 0, .int 0, .ref (ma 7), .int 0, .ref (ma 8), .int (-1), .ref (ma 9), .ref (ma 10), .ref (ma 11), .ref (ma 12), .ref (ma 13), .int 0, .int 0])), (ma 1, .inl (cI, 150, .inl (fun _ => 0))), (ma 2, .inl (cI, 150, .inl (fun _ => 0))), (ma 3, .inl (cI, 150, .inl (fun _ => 0))), (ma 4, .inl (cI, 150, .inl (fun _ => 0))), (ma 5, .inl (cI, 150, .inl (fun _ => 0))), (ma 6, .inl (cI, 150, .inl (fun _ => 0))), (ma 7, .inl (cI, 400, .inl (fun _ => 0))), (ma 8, .inl (cI, 300, .inl (fun _ => 0))), (ma 9, .inl (cI, 151, .inl (fun _ => 0))), (ma 10, .inl (cI, 151, .inl (fun _ => 0))), (ma 11, .inl (cI, 151, .inl (fun _ => 0))), (ma 12, .inl (cI, 151, .inl (fun _ => 0))), (ma 13, .inl (cI, 151, .inl (fun _ => 0)))] H := hP
  have w23 := hw
  rcases w23 with ⟨hr9, hp23⟩ | ⟨hr9, hn23⟩
  rotate_left
  · exact absurd (by decide) hn23
  subst hr9
  refine lv_if_eq (tgt := 40) hx hb dX5_fill_26 (by decide) (fun h => absurd h (by decide)) (fun c26 => ?_)
  refine lv_iload_n hx hb dX5_fill_29 rfl (lv_at hl 3 rfl) ?_
  refine lv_iconst (v := 1) hx hb dX5_fill_30 (by decide) ?_
  refine lv_sipush (v := 150) hx hb dX5_fill_31 (by decide) ?_
  have hPc := hP.sub (ws' := []) [] rfl
  have hFc : ∀ q : Nat, H.size ≤ q → A q := fun q h => hA q (Nat.le_trans hS.1 h)
  have hKc := hK.sub (tys' := []) [] rfl
  refine va_calli (va_runS (As := [.int 150, .int 1, .int 150]) (rest := []) ⟨hx, hb, hml, hown, hts⟩ (c_X5_isIn l dC dI 150 1 150 H.size) (va_cwS 3 hts gX5_fill_X5_isIn rfl rfl rfl (by decide +kernel) ⟨Nat.le_of_ble_eq_true rfl, Nat.le_of_ble_eq_true rfl⟩) ⟨fun a U g mk q => by obtain ⟨q0, q1, qP, qK, qD⟩ := q; exact ⟨q0, q1, qP, va_K.moved (u := U) (U := U.calling g mk a) (Vm.Alike.refl U.vm) qK, qD⟩, fun U hU hW => ⟨rfl, by rw [hU], by rw [hU]; exact hPc, va_K.moved hW.alike hKc, zz_D (hD.sub (ws' := []) [] (by decide) rfl)⟩⟩ rfl rfl hl.1 rfl (lv_room (Nat.le_of_ble_eq_true rfl)) dX5_fill_34 ⟨(Nat.le_of_ble_eq_true rfl), (Nat.le_of_ble_eq_true rfl)⟩) hS (fun q h1 h2 => absurd h1 (Nat.not_lt.mpr h2)) hFc (fun r_1050 u_1051 t H1 locs ht hvm hw hB hz1 hk1 hS1 => ?_)
  have hP := zz_keep hP hk1
  have hS := hS1
  clear hS1
  generalize H1 = H at hP hS ht ⊢
  have hP : va_P (dC, dI) vwCl [(ma 0, .inr (5, [.int 0, .ref (ma 1), .int 0, .ref (ma 2), .int 0, .int 3, .int 0, .int 0, .ref (ma 3), .ref (ma 4), .ref (ma 5), .ref (ma 6), .int 0, .int 0, .ref (ma 7), .int 0, .ref (ma 8), .int (-1), .ref (ma 9), .ref (ma 10), .ref (ma 11), .ref (ma 12), .ref (ma 13), .int 0, .int 0])), (ma 1, .inl (cI, 150, .inl (fun _ => 0))), (ma 2, .inl (cI, 150, .inl (fun _ => 0))), (ma 3, .inl (cI, 150, .inl (fun _ => 0))), (ma 4, .inl (cI, 150, .inl (fun _ => 0))), (ma 5, .inl (cI, 150, .inl (fun _ => 0))), (ma 6, .inl (cI, 150, .inl (fun _ => 0))), (ma 7, .inl (cI, 400, .inl (fun _ => 0))), (ma 8, .inl (cI, 300, .inl (fun _ => 0))), (ma 9, .inl (cI, 151, .inl (fun _ => 0))), (ma 10, .inl (cI, 151, .inl (fun _ => 0))), (ma 11, .inl (cI, 151, .inl (fun _ => 0))), (ma 12, .inl (cI, 151, .inl (fun _ => 0))), (ma 13, .inl (cI, 151, .inl (fun _ => 0)))] H := hP
  have w34 := hw
  rcases w34 with ⟨hr9, hp34⟩ | ⟨hr9, hn34⟩
  rotate_left
  · exact absurd (by decide) hn34
  subst hr9
  refine lv_if_ne (tgt := 46) hx hb dX5_fill_37 (by decide) (fun c37 => ?_) (fun h => absurd h (by decide))
  refine lv_aload_n hx hb dX5_fill_46 rfl (lv_at hl 0 rfl) ?_
  refine lv_iload_n hx hb dX5_fill_47 rfl (lv_at hl 1 rfl) ?_
  have hPc := hP.sub (ws' := [(ma 0, .inr (5, [.int 0, .ref (ma 1), .int 0, .ref (ma 2), .int 0, .int 3, .int 0, .int 0, .ref (ma 3), .ref (ma 4), .ref (ma 5), .ref (ma 6), .int 0, .int 0, .ref (ma 7), .int 0, .ref (ma 8), .int (-1), .ref (ma 9), .ref (ma 10), .ref (ma 11), .ref (ma 12), .ref (ma 13), .int 0, .int 0]))]) [0] rfl
  have hFc : ∀ q : Nat, H.size ≤ q → A q := fun q h => hA q (Nat.le_trans hS.1 h)
  have hKc := hK.sub (tys' := []) [] rfl
  refine va_calli (va_runV (As := [.int 1]) (rest := []) ⟨hx, hb, hml, hown, hts⟩ (c_X5_sizeOf1 l dC dI ma H.size) (cwV 1 hts gX5_fill_X5_sizeOf rfl rfl rfl (by decide +kernel) ⟨Nat.le_of_ble_eq_true rfl, Nat.le_of_ble_eq_true rfl⟩) ⟨fun a U g mk q => by obtain ⟨q0, q1, qP, qK, qD⟩ := q; exact ⟨q0, q1, qP, va_K.moved (u := U) (U := U.calling g mk a) (Vm.Alike.refl U.vm) qK, qD⟩, va_recv hKc hPc (ci := 5) (q0 := 0) rfl rfl, fun U hU hW => ⟨rfl, by rw [hU], by rw [hU]; exact hPc, va_K.moved hW.alike hKc, zz_D (hD.sub (ws' := [(ma 0, .inr (5, [.int 0, .ref (ma 1), .int 0, .ref (ma 2), .int 0, .int 3, .int 0, .int 0, .ref (ma 3), .ref (ma 4), .ref (ma 5), .ref (ma 6), .int 0, .int 0, .ref (ma 7), .int 0, .ref (ma 8), .int (-1), .ref (ma 9), .ref (ma 10), .ref (ma 11), .ref (ma 12), .ref (ma 13), .int 0, .int 0]))]) [0] (by decide) rfl)⟩⟩ rfl rfl hl.1 rfl (lv_room (Nat.le_of_ble_eq_true rfl)) dX5_fill_48 ⟨(Nat.le_of_ble_eq_true rfl), (Nat.le_of_ble_eq_true rfl)⟩) hS (fun q h1 h2 => absurd h1 (Nat.not_lt.mpr h2)) hFc (fun r_1052 u_1053 t H1 locs ht hvm hw hB hz1 hk1 hS1 => ?_)
  have hP := zz_keep hP hk1
  have hS := hS1
  clear hS1
  generalize H1 = H at hP hS ht ⊢
  have hP : va_P (dC, dI) vwCl [(ma 0, .inr (5, [.int 0, .ref (ma 1), .int 0, .ref (ma 2), .int 0, .int 3, .int 0, .int 0, .ref (ma 3), .ref (ma 4), .ref (ma 5), .ref (ma 6), .int 0, .int 0, .ref (ma 7), .int 0, .ref (ma 8), .int (-1), .ref (ma 9), .ref (ma 10), .ref (ma 11), .ref (ma 12), .ref (ma 13), .int 0, .int 0])), (ma 1, .inl (cI, 150, .inl (fun _ => 0))), (ma 2, .inl (cI, 150, .inl (fun _ => 0))), (ma 3, .inl (cI, 150, .inl (fun _ => 0))), (ma 4, .inl (cI, 150, .inl (fun _ => 0))), (ma 5, .inl (cI, 150, .inl (fun _ => 0))), (ma 6, .inl (cI, 150, .inl (fun _ => 0))), (ma 7, .inl (cI, 400, .inl (fun _ => 0))), (ma 8, .inl (cI, 300, .inl (fun _ => 0))), (ma 9, .inl (cI, 151, .inl (fun _ => 0))), (ma 10, .inl (cI, 151, .inl (fun _ => 0))), (ma 11, .inl (cI, 151, .inl (fun _ => 0))), (ma 12, .inl (cI, 151, .inl (fun _ => 0))), (ma 13, .inl (cI, 151, .inl (fun _ => 0)))] H := hP
  obtain rfl : 0 = r_1052 := (show r_1052 = 0 from hw).symm
  refine lv_istore (lv' := [(4, .int 0), (0, .ref (ma 0)), (1, .int 1), (2, .int 0), (3, .int 150)]) hx hb dX5_fill_51 hl (by decide) rfl (fun ls hl => ?_)
  refine lv_iload hx hb dX5_fill_53 (lv_at hl 0 rfl) ?_
  refine lv_iload_n hx hb dX5_fill_55 rfl (lv_at hl 4 rfl) ?_
  refine lv_iadd hx hb dX5_fill_56 ?_
  refine lv_topi (fun x_1054 ex_1054 => ?_)
  obtain rfl : 150 = x_1054 := (ex_1054.trans (by decide)).symm
  refine lv_sipush (v := 150) hx hb dX5_fill_57 (by decide) ?_
  refine lv_icmp_le (tgt := 69) hx hb dX5_fill_60 (by decide) (fun c60 => ?_) (fun h => absurd h (by decide))
  refine lv_iconst (v := 0) hx hb dX5_fill_69 (by decide) ?_
  refine lv_istore (lv' := [(5, .int 0), (4, .int 0), (0, .ref (ma 0)), (1, .int 1), (2, .int 0), (3, .int 150)]) hx hb dX5_fill_70 hl (by decide) rfl (fun ls hl => ?_)
  refine lo_qmfill dC dI cI ma hx hb hml hown hts hA hK ?_ 151 0 0 (fun _ => 0) _ _ ls (by omega) nI_0.symm (by omega) (hP.sub [0, 1, 2, 3, 4, 5, 6, 7, 8, 9, 10, 11, 12, 13] rfl) (hD.sub [0, 1, 2, 3, 4, 5, 6, 7, 8, 9, 10, 11, 12, 13] (by decide) rfl) hS (lv_sub hl [0, 1, 5, 4, 3, 2] rfl)
  intro k x kg H locs ls hP hD hS hl
  refine lv_aload_n hx hb dX5_fill_96 rfl (lv_at hl 5 rfl) ?_
  refine lv_iload_n hx hb dX5_fill_97 rfl (lv_at hl 4 rfl) ?_
  refine lv_iload hx hb dX5_fill_98 (lv_at hl 1 rfl) ?_
  refine lv_iload_n hx hb dX5_fill_100 rfl (lv_at hl 2 rfl) ?_
  refine lv_iadd hx hb dX5_fill_101 ?_
  refine lv_topi (fun x_1055 ex_1055 => ?_)
  obtain rfl : 150 = x_1055 := (ex_1055.trans (by decide)).symm
  have hPc := hP.sub (ws' := [(ma 0, .inr (5, [.int 0, .ref (ma 1), .int 0, .ref (ma 2), .int 0, .int 3, .int 0, .int 0, .ref (ma 3), .ref (ma 4), .ref (ma 5), .ref (ma 6), .int 0, .int 0, .ref (ma 7), .int 0, .ref (ma 8), .int (-1), .ref (ma 9), .ref (ma 10), .ref (ma 11), .ref (ma 12), .ref (ma 13), .int 0, .int 0]))]) [0] rfl
  have hDc := hD.sub (ws' := [(ma 0, .inr (5, [.int 0, .ref (ma 1), .int 0, .ref (ma 2), .int 0, .int 3, .int 0, .int 0, .ref (ma 3), .ref (ma 4), .ref (ma 5), .ref (ma 6), .int 0, .int 0, .ref (ma 7), .int 0, .ref (ma 8), .int (-1), .ref (ma 9), .ref (ma 10), .ref (ma 11), .ref (ma 12), .ref (ma 13), .int 0, .int 0]))]) [0] (by decide) rfl
  have hFc := va_free (wc := [(ma 0, .inr (5, [.int 0, .ref (ma 1), .int 0, .ref (ma 2), .int 0, .int 3, .int 0, .int 0, .ref (ma 3), .ref (ma 4), .ref (ma 5), .ref (ma 6), .int 0, .int 0, .ref (ma 7), .int 0, .ref (ma 8), .int (-1), .ref (ma 9), .ref (ma 10), .ref (ma 11), .ref (ma 12), .ref (ma 13), .int 0, .int 0]))]) hD hS hA [0] rfl
  have hKc := hK.sub (tys' := []) [] rfl
  refine va_callv (va_runV (As := [.int 1, .int 150]) (rest := []) ⟨hx, hb, hml, hown, hts⟩ (c_X5_setSize1 l dC dI ma 150 H.size) (cwV 2 hts gX5_fill_X5_setSize rfl rfl rfl (by decide +kernel) ⟨Nat.le_of_ble_eq_true rfl, Nat.le_of_ble_eq_true rfl⟩) ⟨fun a U g mk q => by obtain ⟨q0, q1, qP, qK, qD⟩ := q; exact ⟨q0, q1, qP, va_K.moved (u := U) (U := U.calling g mk a) (Vm.Alike.refl U.vm) qK, qD⟩, va_recv hKc hPc (ci := 5) (q0 := 0) rfl rfl, fun U hU hW => ⟨rfl, by rw [hU], by rw [hU]; exact hPc, va_K.moved hW.alike hKc, zz_D hDc⟩⟩ rfl rfl hl.1 rfl (lv_room (Nat.le_of_ble_eq_true rfl)) dX5_fill_102 ⟨(Nat.le_of_ble_eq_true rfl), (Nat.le_of_ble_eq_true rfl)⟩) hS (fun q _ h => hFc q h) hFc (fun u_1057 t H1 locs ht hvm hw hB hz1 hk1 hS1 => ?_)
  obtain ⟨hP1, hD1⟩ := hB
  rw [ht] at hP1
  obtain ⟨hP, hD⟩ := va_join (wr := [(ma 1, .inl (cI, 150, .inl (fun _ => 0))), (ma 2, .inl (cI, 150, .inl kg)), (ma 3, .inl (cI, 150, .inl (fun _ => 0))), (ma 4, .inl (cI, 150, .inl (fun _ => 0))), (ma 5, .inl (cI, 150, .inl (fun _ => 0))), (ma 6, .inl (cI, 150, .inl (fun _ => 0))), (ma 7, .inl (cI, 400, .inl (fun _ => 0))), (ma 8, .inl (cI, 300, .inl (fun _ => 0))), (ma 9, .inl (cI, 151, .inl (fun _ => 0))), (ma 10, .inl (cI, 151, .inl (fun _ => 0))), (ma 11, .inl (cI, 151, .inl (fun _ => 0))), (ma 12, .inl (cI, 151, .inl (fun _ => 0))), (ma 13, .inl (cI, 151, .inl (fun _ => 0)))]) (w1 := [(ma 0, .inr (5, [.int 0, .ref (ma 1), .int 0, .ref (ma 2), .int 150, .int 3, .int 0, .int 0, .ref (ma 3), .ref (ma 4), .ref (ma 5), .ref (ma 6), .int 0, .int 0, .ref (ma 7), .int 0, .ref (ma 8), .int (-1), .ref (ma 9), .ref (ma 10), .ref (ma 11), .ref (ma 12), .ref (ma 13), .int 0, .int 0]))]) hP hD [0] [1, 2, 3, 4, 5, 6, 7, 8, 9, 10, 11, 12, 13] rfl rfl (by decide) (by decide) hk1 hFc hP1 hD1
  have hS := hS1
  clear hS1
  generalize H1 = H at hP hS ht ⊢
  have hP : va_P (dC, dI) vwCl [(ma 1, .inl (cI, 150, .inl (fun _ => 0))), (ma 2, .inl (cI, 150, .inl kg)), (ma 3, .inl (cI, 150, .inl (fun _ => 0))), (ma 4, .inl (cI, 150, .inl (fun _ => 0))), (ma 5, .inl (cI, 150, .inl (fun _ => 0))), (ma 6, .inl (cI, 150, .inl (fun _ => 0))), (ma 7, .inl (cI, 400, .inl (fun _ => 0))), (ma 8, .inl (cI, 300, .inl (fun _ => 0))), (ma 9, .inl (cI, 151, .inl (fun _ => 0))), (ma 10, .inl (cI, 151, .inl (fun _ => 0))), (ma 11, .inl (cI, 151, .inl (fun _ => 0))), (ma 12, .inl (cI, 151, .inl (fun _ => 0))), (ma 13, .inl (cI, 151, .inl (fun _ => 0))), (ma 0, .inr (5, [.int 0, .ref (ma 1), .int 0, .ref (ma 2), .int 150, .int 3, .int 0, .int 0, .ref (ma 3), .ref (ma 4), .ref (ma 5), .ref (ma 6), .int 0, .int 0, .ref (ma 7), .int 0, .ref (ma 8), .int (-1), .ref (ma 9), .ref (ma 10), .ref (ma 11), .ref (ma 12), .ref (ma 13), .int 0, .int 0]))] H := hP
  have hD : va_D A [(ma 1, .inl (cI, 150, .inl (fun _ => 0))), (ma 2, .inl (cI, 150, .inl kg)), (ma 3, .inl (cI, 150, .inl (fun _ => 0))), (ma 4, .inl (cI, 150, .inl (fun _ => 0))), (ma 5, .inl (cI, 150, .inl (fun _ => 0))), (ma 6, .inl (cI, 150, .inl (fun _ => 0))), (ma 7, .inl (cI, 400, .inl (fun _ => 0))), (ma 8, .inl (cI, 300, .inl (fun _ => 0))), (ma 9, .inl (cI, 151, .inl (fun _ => 0))), (ma 10, .inl (cI, 151, .inl (fun _ => 0))), (ma 11, .inl (cI, 151, .inl (fun _ => 0))), (ma 12, .inl (cI, 151, .inl (fun _ => 0))), (ma 13, .inl (cI, 151, .inl (fun _ => 0))), (ma 0, .inr (5, [.int 0, .ref (ma 1), .int 0, .ref (ma 2), .int 150, .int 3, .int 0, .int 0, .ref (ma 3), .ref (ma 4), .ref (ma 5), .ref (ma 6), .int 0, .int 0, .ref (ma 7), .int 0, .ref (ma 8), .int (-1), .ref (ma 9), .ref (ma 10), .ref (ma 11), .ref (ma 12), .ref (ma 13), .int 0, .int 0]))] := hD
  have w102 := hw
  refine lv_iload hx hb dX5_fill_105 (lv_at hl 1 rfl) ?_
  refine lv_iload_n hx hb dX5_fill_107 rfl (lv_at hl 2 rfl) ?_
  refine lv_iadd hx hb dX5_fill_108 ?_
  refine lv_topi (fun x_1058 ex_1058 => ?_)
  obtain rfl : 150 = x_1058 := (ex_1058.trans (by decide)).symm
  have hP9 := hP.sub (ws' := [(ma 0, .inr (5, [.int 0, .ref (ma 1), .int 0, .ref (ma 2), .int 150, .int 3, .int 0, .int 0, .ref (ma 3), .ref (ma 4), .ref (ma 5), .ref (ma 6), .int 0, .int 0, .ref (ma 7), .int 0, .ref (ma 8), .int (-1), .ref (ma 9), .ref (ma 10), .ref (ma 11), .ref (ma 12), .ref (ma 13), .int 0, .int 0])), (ma 1, .inl (cI, 150, .inl (fun _ => 0))), (ma 2, .inl (cI, 150, .inl kg)), (ma 3, .inl (cI, 150, .inl (fun _ => 0))), (ma 4, .inl (cI, 150, .inl (fun _ => 0))), (ma 5, .inl (cI, 150, .inl (fun _ => 0))), (ma 6, .inl (cI, 150, .inl (fun _ => 0))), (ma 7, .inl (cI, 400, .inl (fun _ => 0))), (ma 8, .inl (cI, 300, .inl (fun _ => 0))), (ma 9, .inl (cI, 151, .inl (fun _ => 0))), (ma 10, .inl (cI, 151, .inl (fun _ => 0))), (ma 11, .inl (cI, 151, .inl (fun _ => 0))), (ma 12, .inl (cI, 151, .inl (fun _ => 0))), (ma 13, .inl (cI, 151, .inl (fun _ => 0)))]) [13, 0, 1, 2, 3, 4, 5, 6, 7, 8, 9, 10, 11, 12] rfl
  have hD9 := hD.sub (ws' := [(ma 0, .inr (5, [.int 0, .ref (ma 1), .int 0, .ref (ma 2), .int 150, .int 3, .int 0, .int 0, .ref (ma 3), .ref (ma 4), .ref (ma 5), .ref (ma 6), .int 0, .int 0, .ref (ma 7), .int 0, .ref (ma 8), .int (-1), .ref (ma 9), .ref (ma 10), .ref (ma 11), .ref (ma 12), .ref (ma 13), .int 0, .int 0])), (ma 1, .inl (cI, 150, .inl (fun _ => 0))), (ma 2, .inl (cI, 150, .inl kg)), (ma 3, .inl (cI, 150, .inl (fun _ => 0))), (ma 4, .inl (cI, 150, .inl (fun _ => 0))), (ma 5, .inl (cI, 150, .inl (fun _ => 0))), (ma 6, .inl (cI, 150, .inl (fun _ => 0))), (ma 7, .inl (cI, 400, .inl (fun _ => 0))), (ma 8, .inl (cI, 300, .inl (fun _ => 0))), (ma 9, .inl (cI, 151, .inl (fun _ => 0))), (ma 10, .inl (cI, 151, .inl (fun _ => 0))), (ma 11, .inl (cI, 151, .inl (fun _ => 0))), (ma 12, .inl (cI, 151, .inl (fun _ => 0))), (ma 13, .inl (cI, 151, .inl (fun _ => 0)))]) [13, 0, 1, 2, 3, 4, 5, 6, 7, 8, 9, 10, 11, 12] (by decide) rfl
  exact W.iret (v := 150) hx hb hr (fun t ht hW => ⟨⟨150, kg, rfl, rfl, ⟨by rw [ht]; exact hP9, hD9⟩⟩, hS.F ht⟩) hS.2.2 dX5_fill_109
set_option maxHeartbeats 4000000 in
set_option maxRecDepth 100000 in
theorem q_msetLeast (l : Launch) (dC : Nat → ClassId) (dI : Nat → Nat → Nat) (ma : Nat → Nat) (ki : Int32) (kc : Int32) (sz : Nat) : Met l yX5_setLeast wsX5_setLeast ({ frames := 1, cells := 0, slots := 0, locals := 22 }) (va_Pc [.ref (ma 0), .int 3] (fun U => U.heap.size = sz ∧ va_P (dC, dI) vwCl [(ma 0, .inr (5, [.int 0, .ref (ma 1), .int 0, .ref (ma 2), .int 150, .int 3, .int 1, .int ki, .ref (ma 3), .ref (ma 4), .ref (ma 5), .ref (ma 6), .int kc, .int 0, .ref (ma 7), .int 0, .ref (ma 8), .int (-1), .ref (ma 9), .ref (ma 10), .ref (ma 11), .ref (ma 12), .ref (ma 13), .int 0, .int 0]))] U.heap ∧ va_K (dC, dI) vwCl [] U ∧ va_D (fun _ => True) [(ma 0, .inr (5, [.int 0, .ref (ma 1), .int 0, .ref (ma 2), .int 150, .int 3, .int 1, .int ki, .ref (ma 3), .ref (ma 4), .ref (ma 5), .ref (ma 6), .int kc, .int 0, .ref (ma 7), .int 0, .ref (ma 8), .int (-1), .ref (ma 9), .ref (ma 10), .ref (ma 11), .ref (ma 12), .ref (ma 13), .int 0, .int 0]))])) (va_Qi (fun (r : Int32) (_ : Unit) => r = 3) (fun _ t => va_P (dC, dI) vwCl [(ma 0, .inr (5, [.int 0, .ref (ma 1), .int 0, .ref (ma 2), .int 150, .int 3, .int 0, .int ki, .ref (ma 3), .ref (ma 4), .ref (ma 5), .ref (ma 6), .int kc, .int 0, .ref (ma 7), .int 0, .ref (ma 8), .int (-1), .ref (ma 9), .ref (ma 10), .ref (ma 11), .ref (ma 12), .ref (ma 13), .int 0, .int 0]))] t.heap ∧ va_D (va_A [(ma 0, .inr (5, [.int 0, .ref (ma 1), .int 0, .ref (ma 2), .int 150, .int 3, .int 1, .int ki, .ref (ma 3), .ref (ma 4), .ref (ma 5), .ref (ma 6), .int kc, .int 0, .ref (ma 7), .int 0, .ref (ma 8), .int (-1), .ref (ma 9), .ref (ma 10), .ref (ma 11), .ref (ma 12), .ref (ma 13), .int 0, .int 0]))] sz) [(ma 0, .inr (5, [.int 0, .ref (ma 1), .int 0, .ref (ma 2), .int 150, .int 3, .int 0, .int ki, .ref (ma 3), .ref (ma 4), .ref (ma 5), .ref (ma 6), .int kc, .int 0, .ref (ma 7), .int 0, .ref (ma 8), .int (-1), .ref (ma 9), .ref (ma 10), .ref (ma 11), .ref (ma 12), .ref (ma 13), .int 0, .int 0]))]) (va_A [(ma 0, .inr (5, [.int 0, .ref (ma 1), .int 0, .ref (ma 2), .int 150, .int 3, .int 1, .int ki, .ref (ma 3), .ref (ma 4), .ref (ma 5), .ref (ma 6), .int kc, .int 0, .ref (ma 7), .int 0, .ref (ma 8), .int (-1), .ref (ma 9), .ref (ma 10), .ref (ma 11), .ref (ma 12), .ref (ma 13), .int 0, .int 0]))] sz)) 0 0 (va_A [(ma 0, .inr (5, [.int 0, .ref (ma 1), .int 0, .ref (ma 2), .int 150, .int 3, .int 1, .int ki, .ref (ma 3), .ref (ma 4), .ref (ma 5), .ref (ma 6), .int kc, .int 0, .ref (ma 7), .int 0, .ref (ma 8), .int (-1), .ref (ma 9), .ref (ma 10), .ref (ma 11), .ref (ma 12), .ref (ma 13), .int 0, .int 0]))] sz) := by
  refine Met.ofW (cc := cX5_setLeast) (maxL := 3) (ret := (some .int)) (by decide) rfl ?_
  intro p e s m args below meth c s₁ B hml hv
  obtain ⟨rfl, hsz, hP, hK, hD0⟩ := hv
  have hx := B.exec
  have hb := B.bytes
  have hr := B.returns
  have hts := atoms_spec (ws := wsX5_setLeast) B.pre
  have hown : s.vm.findClass RX5 = some m.cls := findClass_of_methodNamed B.named
  have hlocks := B.notSynchronized
  subst hsz
  have hD := hD0.self (sz := s.heap.size)
  generalize hAe : va_A [(ma 0, .inr (5, [.int 0, .ref (ma 1), .int 0, .ref (ma 2), .int 150, .int 3, .int 1, .int ki, .ref (ma 3), .ref (ma 4), .ref (ma 5), .ref (ma 6), .int kc, .int 0, .ref (ma 7), .int 0, .ref (ma 8), .int (-1), .ref (ma 9), .ref (ma 10), .ref (ma 11), .ref (ma 12), .ref (ma 13), .int 0, .int 0]))] s.heap.size = A at hD ⊢
  have hA : ∀ q : Nat, s.heap.size ≤ q → A q := fun q h => by rw [← hAe]; exact Or.inr h
  have hS : va_S A s.heap s.heap [] := va_S.rf
  have hP : va_P (dC, dI) vwCl [(ma 0, .inr (5, [.int 0, .ref (ma 1), .int 0, .ref (ma 2), .int 150, .int 3, .int 1, .int ki, .ref (ma 3), .ref (ma 4), .ref (ma 5), .ref (ma 6), .int kc, .int 0, .ref (ma 7), .int 0, .ref (ma 8), .int (-1), .ref (ma 9), .ref (ma 10), .ref (ma 11), .ref (ma 12), .ref (ma 13), .int 0, .int 0]))] s.heap := hP
  have hl := lv_entry ([.ref (ma 0), .int 3]) (n := 3) (Nat.le_of_ble_eq_true rfl)
  rw [lg_entry_eq]
  generalize (lg_sl ([.ref (ma 0), .int 3]) ++ List.replicate (3 - (lg_sl ([.ref (ma 0), .int 3])).length) Slot.unset).toArray = ls at hl ⊢
  have hl : lv_has ls 3 [(0, .ref (ma 0)), (1, .int 3)] := hl
  refine lv_aload_n hx hb dX5_setLeast_0 rfl (lv_at hl 0 rfl) ?_
  refine lv_iconst (v := 0) hx hb dX5_setLeast_1 (by decide) ?_
  refine va_put (D := (dC, dI)) (ci := 5) (v := .int 0) (ty := .int) (C := RX5) (T := TX5) (N := 25) hx hb hts (by decide +kernel) tyX5 tyX5_ok nmX5 hown hK hP hD hS 0 rfl rfl 0 (by decide) (hts (.fieldLink RX5 56 "DeltaCodecModel" "thrown" "I") (by decide +kernel)) (fun _ h9 => h9) rfl (by decide +kernel) rfl rfl (Nat.le_of_ble_eq_true rfl) dX5_setLeast_2 (fun H locs hP hD hS => ?_)
  have hP : va_P (dC, dI) vwCl [(ma 0, .inr (5, [.int 0, .ref (ma 1), .int 0, .ref (ma 2), .int 150, .int 3, .int 1, .int ki, .ref (ma 3), .ref (ma 4), .ref (ma 5), .ref (ma 6), .int kc, .int 0, .ref (ma 7), .int 0, .ref (ma 8), .int (-1), .ref (ma 9), .ref (ma 10), .ref (ma 11), .ref (ma 12), .ref (ma 13), .int 0, .int 0]))] H := hP
  have hD : va_D A [(ma 0, .inr (5, [.int 0, .ref (ma 1), .int 0, .ref (ma 2), .int 150, .int 3, .int 1, .int ki, .ref (ma 3), .ref (ma 4), .ref (ma 5), .ref (ma 6), .int kc, .int 0, .ref (ma 7), .int 0, .ref (ma 8), .int (-1), .ref (ma 9), .ref (ma 10), .ref (ma 11), .ref (ma 12), .ref (ma 13), .int 0, .int 0]))] := hD
  refine lv_iload_n hx hb dX5_setLeast_5 rfl (lv_at hl 1 rfl) ?_
  refine lv_iconst (v := 1) hx hb dX5_setLeast_6 (by decide) ?_
  refine lv_bipush (v := 20) hx hb dX5_setLeast_7 (by decide) ?_
  have hPc := hP.sub (ws' := []) [] rfl
  have hFc : ∀ q : Nat, H.size ≤ q → A q := fun q h => hA q (Nat.le_trans hS.1 h)
  have hKc := hK.sub (tys' := []) [] rfl
  refine va_calli (va_runS (As := [.int 3, .int 1, .int 20]) (rest := []) ⟨hx, hb, hml, hown, hts⟩ (c_X5_isIn l dC dI 3 1 20 H.size) (va_cwS 3 hts gX5_setLeast_X5_isIn rfl rfl rfl (by decide +kernel) ⟨Nat.le_of_ble_eq_true rfl, Nat.le_of_ble_eq_true rfl⟩) ⟨fun a U g mk q => by obtain ⟨q0, q1, qP, qK, qD⟩ := q; exact ⟨q0, q1, qP, va_K.moved (u := U) (U := U.calling g mk a) (Vm.Alike.refl U.vm) qK, qD⟩, fun U hU hW => ⟨rfl, by rw [hU], by rw [hU]; exact hPc, va_K.moved hW.alike hKc, zz_D (hD.sub (ws' := []) [] (by decide) rfl)⟩⟩ rfl rfl hl.1 rfl (lv_room (Nat.le_of_ble_eq_true rfl)) dX5_setLeast_9 ⟨(Nat.le_of_ble_eq_true rfl), (Nat.le_of_ble_eq_true rfl)⟩) hS (fun q h1 h2 => absurd h1 (Nat.not_lt.mpr h2)) hFc (fun r_1059 u_1060 t H1 locs ht hvm hw hB hz1 hk1 hS1 => ?_)
  have hP := zz_keep hP hk1
  have hS := hS1
  clear hS1
  generalize H1 = H at hP hS ht ⊢
  have hP : va_P (dC, dI) vwCl [(ma 0, .inr (5, [.int 0, .ref (ma 1), .int 0, .ref (ma 2), .int 150, .int 3, .int 1, .int ki, .ref (ma 3), .ref (ma 4), .ref (ma 5), .ref (ma 6), .int kc, .int 0, .ref (ma 7), .int 0, .ref (ma 8), .int (-1), .ref (ma 9), .ref (ma 10), .ref (ma 11), .ref (ma 12), .ref (ma 13), .int 0, .int 0]))] H := hP
  have w9 := hw
  rcases w9 with ⟨hr9, hp9⟩ | ⟨hr9, hn9⟩
  rotate_left
  · exact absurd (by decide) hn9
  subst hr9
  refine lv_if_ne (tgt := 21) hx hb dX5_setLeast_12 (by decide) (fun c12 => ?_) (fun h => absurd h (by decide))
  refine lv_aload_n hx hb dX5_setLeast_21 rfl (lv_at hl 0 rfl) ?_
  refine va_get (D := (dC, dI)) (ci := 5) (v := .int 3) (C := RX5) (T := TX5) (N := 25) hx hb hts (by decide +kernel) hown hK hP 0 rfl rfl 5 (by decide) (hts (.fieldLink RX5 16 "DeltaCodecModel" "least" "I") (by decide +kernel)) (fun _ h9 => h9) rfl dX5_setLeast_22 ?_
  refine lv_istore_n (lv' := [(2, .int 3), (0, .ref (ma 0)), (1, .int 3)]) hx hb dX5_setLeast_25 rfl hl (by decide) rfl (fun ls hl => ?_)
  refine lv_aload_n hx hb dX5_setLeast_26 rfl (lv_at hl 1 rfl) ?_
  refine lv_iload_n hx hb dX5_setLeast_27 rfl (lv_at hl 2 rfl) ?_
  refine va_put (D := (dC, dI)) (ci := 5) (v := .int 3) (ty := .int) (C := RX5) (T := TX5) (N := 25) hx hb hts (by decide +kernel) tyX5 tyX5_ok nmX5 hown hK hP hD hS 0 rfl rfl 5 (by decide) (hts (.fieldLink RX5 16 "DeltaCodecModel" "least" "I") (by decide +kernel)) (fun _ h9 => h9) rfl (by decide +kernel) rfl rfl (Nat.le_of_ble_eq_true rfl) dX5_setLeast_28 (fun H locs hP hD hS => ?_)
  have hP : va_P (dC, dI) vwCl [(ma 0, .inr (5, [.int 0, .ref (ma 1), .int 0, .ref (ma 2), .int 150, .int 3, .int 1, .int ki, .ref (ma 3), .ref (ma 4), .ref (ma 5), .ref (ma 6), .int kc, .int 0, .ref (ma 7), .int 0, .ref (ma 8), .int (-1), .ref (ma 9), .ref (ma 10), .ref (ma 11), .ref (ma 12), .ref (ma 13), .int 0, .int 0]))] H := hP
  have hD : va_D A [(ma 0, .inr (5, [.int 0, .ref (ma 1), .int 0, .ref (ma 2), .int 150, .int 3, .int 1, .int ki, .ref (ma 3), .ref (ma 4), .ref (ma 5), .ref (ma 6), .int kc, .int 0, .ref (ma 7), .int 0, .ref (ma 8), .int (-1), .ref (ma 9), .ref (ma 10), .ref (ma 11), .ref (ma 12), .ref (ma 13), .int 0, .int 0]))] := hD
  refine lv_aload_n hx hb dX5_setLeast_31 rfl (lv_at hl 1 rfl) ?_
  refine lv_iconst (v := 0) hx hb dX5_setLeast_32 (by decide) ?_
  refine va_put (D := (dC, dI)) (ci := 5) (v := .int 0) (ty := .boolean) (C := RX5) (T := TX5) (N := 25) hx hb hts (by decide +kernel) tyX5 tyX5_ok nmX5 hown hK hP hD hS 0 rfl rfl 6 (by decide) (hts (.fieldLink RX5 65 "DeltaCodecModel" "hasPlan" "Z") (by decide +kernel)) (fun _ h9 => h9) rfl (by decide +kernel) (by decide) rfl (Nat.le_of_ble_eq_true rfl) dX5_setLeast_33 (fun H locs hP hD hS => ?_)
  have hP : va_P (dC, dI) vwCl [(ma 0, .inr (5, [.int 0, .ref (ma 1), .int 0, .ref (ma 2), .int 150, .int 3, .int 0, .int ki, .ref (ma 3), .ref (ma 4), .ref (ma 5), .ref (ma 6), .int kc, .int 0, .ref (ma 7), .int 0, .ref (ma 8), .int (-1), .ref (ma 9), .ref (ma 10), .ref (ma 11), .ref (ma 12), .ref (ma 13), .int 0, .int 0]))] H := hP
  have hD : va_D A [(ma 0, .inr (5, [.int 0, .ref (ma 1), .int 0, .ref (ma 2), .int 150, .int 3, .int 0, .int ki, .ref (ma 3), .ref (ma 4), .ref (ma 5), .ref (ma 6), .int kc, .int 0, .ref (ma 7), .int 0, .ref (ma 8), .int (-1), .ref (ma 9), .ref (ma 10), .ref (ma 11), .ref (ma 12), .ref (ma 13), .int 0, .int 0]))] := hD
  refine lv_iload_n hx hb dX5_setLeast_36 rfl (lv_at hl 0 rfl) ?_
  have hP9 := hP.sub (ws' := [(ma 0, .inr (5, [.int 0, .ref (ma 1), .int 0, .ref (ma 2), .int 150, .int 3, .int 0, .int ki, .ref (ma 3), .ref (ma 4), .ref (ma 5), .ref (ma 6), .int kc, .int 0, .ref (ma 7), .int 0, .ref (ma 8), .int (-1), .ref (ma 9), .ref (ma 10), .ref (ma 11), .ref (ma 12), .ref (ma 13), .int 0, .int 0]))]) [0] rfl
  have hD9 := hD.sub (ws' := [(ma 0, .inr (5, [.int 0, .ref (ma 1), .int 0, .ref (ma 2), .int 150, .int 3, .int 0, .int ki, .ref (ma 3), .ref (ma 4), .ref (ma 5), .ref (ma 6), .int kc, .int 0, .ref (ma 7), .int 0, .ref (ma 8), .int (-1), .ref (ma 9), .ref (ma 10), .ref (ma 11), .ref (ma 12), .ref (ma 13), .int 0, .int 0]))]) [0] (by decide) rfl
  exact W.iret (v := 3) hx hb hr (fun t ht hW => ⟨⟨3, (), rfl, rfl, ⟨by rw [ht]; exact hP9, hD9⟩⟩, hS.F ht⟩) hS.2.2 dX5_setLeast_37
