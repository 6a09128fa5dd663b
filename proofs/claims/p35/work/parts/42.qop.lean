set_option maxHeartbeats 4000000 in
set_option maxRecDepth 100000 in
theorem lo_op1c {p : Program} {l : Launch} {e : Env} {s : State} {m : MethodId} {args : Array Value} {below : List Frame} {meth : Method} {c : Code} {Q : State → Prop} {A : Nat → Prop} (dC : Nat → ClassId) (dI : Nat → Nat → Nat) (cI : ClassId) (h0 : Nat) (p1 : Nat) (p2 : Nat) (p3 : Nat) (p4 : Nat) (p5 : Nat) (p6 : Nat) (p7 : Nat) (p8 : Nat) (e19 : Nat → Int32) (e29 : Nat → Int32) (e39 : Nat → Int32) (e49 : Nat → Int32) (e59 : Nat → Int32) (e69 : Nat → Int32) (e79 : Nat → Int32) (e89 : Nat → Int32) (ka : Nat) (q2 : Int32) (q3 : Int32) (x : Int32) (hxi : vp_in x 151) (hx : p.tables.exec = Jvm.exec) (hb : c.code = cX2_offerPlaces) (hml : c.maxLocals = 9) (hown : s.vm.findClass RX2 = some m.cls) (hts : ∀ w ∈ wsX2_offerPlaces, w.before args s = true) (hA : ∀ q : Nat, s.heap.size ≤ q → A q) (hK : va_K (dC, dI) vwCl [(cI, .int)] s)
    (kk : ∀ (jn : Nat) (tn : Nat) (z : Int32) (y : Int32) (d89 : Nat → Int32) (H : Heap) (locs : List Loc) (ls : Array Slot), y = nI tn → tn ≤ 150 → va_P (dC, dI) vwCl [(h0, .inr (2, [.ref p1, .ref p2, .ref p3, .ref p4, .ref p5, .ref p6, .ref p7, .ref p8])), (p1, .inl (cI, 151, .inl e19)), (p2, .inl (cI, 151, .inl e29)), (p3, .inl (cI, 151, .inl e39)), (p4, .inl (cI, 151, .inl e49)), (p5, .inl (cI, 151, .inl e59)), (p6, .inl (cI, 151, .inl e69)), (p7, .inl (cI, 151, .inl e79)), (p8, .inl (cI, 151, .inl d89))] H → va_D A [(h0, .inr (2, [.ref p1, .ref p2, .ref p3, .ref p4, .ref p5, .ref p6, .ref p7, .ref p8])), (p1, .inl (cI, 151, .inl e19)), (p2, .inl (cI, 151, .inl e29)), (p3, .inl (cI, 151, .inl e39)), (p4, .inl (cI, 151, .inl e49)), (p5, .inl (cI, 151, .inl e59)), (p6, .inl (cI, 151, .inl e69)), (p7, .inl (cI, 151, .inl e79)), (p8, .inl (cI, 151, .inl d89))] → va_S A s.heap H locs → lv_has ls 9 [(8, .int z), (6, .int y), (7, .int x), (5, .ref p6), (4, .int q3), (3, .int q2), (2, .int 1), (1, .int (nI ka)), (0, .ref h0)] → W p l e (headSpec wsX2_offerPlaces ({ frames := 3, cells := 0, slots := 0, locals := 72 })).room s m args below meth c H locs 0 0 Q (F0 m 81 ls []))
    : ∀ (j : Nat) (jn : Nat) (tn : Nat) (z : Int32) (y : Int32) (d89 : Nat → Int32) (H : Heap) (locs : List Loc) (ls : Array Slot), 151 - jn < j → (z = nI jn) → (jn ≤ 151) → (y = nI tn) → (tn ≤ 150) → va_P (dC, dI) vwCl [(h0, .inr (2, [.ref p1, .ref p2, .ref p3, .ref p4, .ref p5, .ref p6, .ref p7, .ref p8])), (p1, .inl (cI, 151, .inl e19)), (p2, .inl (cI, 151, .inl e29)), (p3, .inl (cI, 151, .inl e39)), (p4, .inl (cI, 151, .inl e49)), (p5, .inl (cI, 151, .inl e59)), (p6, .inl (cI, 151, .inl e69)), (p7, .inl (cI, 151, .inl e79)), (p8, .inl (cI, 151, .inl d89))] H → va_D A [(h0, .inr (2, [.ref p1, .ref p2, .ref p3, .ref p4, .ref p5, .ref p6, .ref p7, .ref p8])), (p1, .inl (cI, 151, .inl e19)), (p2, .inl (cI, 151, .inl e29)), (p3, .inl (cI, 151, .inl e39)), (p4, .inl (cI, 151, .inl e49)), (p5, .inl (cI, 151, .inl e59)), (p6, .inl (cI, 151, .inl e69)), (p7, .inl (cI, 151, .inl e79)), (p8, .inl (cI, 151, .inl d89))] → va_S A s.heap H locs → lv_has ls 9 [(8, .int z), (6, .int y), (7, .int x), (5, .ref p6), (4, .int q3), (3, .int q2), (2, .int 1), (1, .int (nI ka)), (0, .ref h0)] → W p l e (headSpec wsX2_offerPlaces ({ frames := 3, cells := 0, slots := 0, locals := 72 })).room s m args below meth c H locs 0 0 Q (F0 m 44 ls []) := by
  intro j
  induction j with
  | zero => intro jn tn z y d89 H locs ls hj; omega
  | succ j ih =>
    intro jn tn z y d89 H locs ls hj hz1 hjn hy1 hbt hP hD hS hl
    refine lv_iload hx hb dX2_offerPlaces_44 (lv_at hl 0 rfl) ?_
    refine lv_aload hx hb dX2_offerPlaces_46 (lv_at hl 3 rfl) ?_
    refine lv_iload hx hb dX2_offerPlaces_48 (lv_at hl 2 rfl) ?_
    refine va_iald hx hb hK hP 6 0 rfl rfl hxi dX2_offerPlaces_50 ?_
    refine lv_topi (fun x_905 ex_905 => ?_)
    refine lv_icmp_gt (tgt := 81) hx hb dX2_offerPlaces_51 (by decide) (fun c51 => ?_) (fun c51 => ?_)
    · skip
      exact kk jn tn z y d89 H locs ls hy1 hbt (hP.sub [0, 1, 2, 3, 4, 5, 6, 7, 8] rfl) (hD.sub [0, 1, 2, 3, 4, 5, 6, 7, 8] (by decide) rfl) hS (lv_sub hl [0, 1, 2, 3, 4, 5, 6, 7, 8] rfl)
    · skip
      refine lv_iload hx hb dX2_offerPlaces_54 (lv_at hl 0 rfl) ?_
      refine lv_sipush (v := 151) hx hb dX2_offerPlaces_56 (by decide) ?_
      refine lv_icmp_ge (tgt := 81) hx hb dX2_offerPlaces_59 (by decide) (fun c59 => ?_) (fun c59 => ?_)
      · skip
        exact kk jn tn z y d89 H locs ls hy1 hbt (hP.sub [0, 1, 2, 3, 4, 5, 6, 7, 8] rfl) (hD.sub [0, 1, 2, 3, 4, 5, 6, 7, 8] (by decide) rfl) hS (lv_sub hl [0, 1, 2, 3, 4, 5, 6, 7, 8] rfl)
      · skip
        have hlt : jn < 151 := Nat.lt_of_not_le (fun q => c59 (by rw [hz1]; show nI 151 ≤ nI jn; exact nI_le q (by omega)))
        subst hz1
        have hz1 : nI jn = nI jn := rfl
        refine lv_aload_n hx hb dX2_offerPlaces_62 rfl (lv_at hl 8 rfl) ?_
        refine va_get (D := (dC, dI)) (ci := 2) (v := .ref p8) (C := RX2) (T := TX2) (N := 8) hx hb hts (by decide +kernel) hown hK hP 0 rfl rfl 7 (by decide) (hts (.fieldLink RX2 33 "DeltaCodec$Planner" "firstPlaces" "[I") (by decide +kernel)) (fun _ h9 => h9) rfl dX2_offerPlaces_63 ?_
        refine lv_iload hx hb dX2_offerPlaces_66 (lv_at hl 0 rfl) ?_
        refine lv_iload hx hb dX2_offerPlaces_68 (lv_at hl 2 rfl) ?_
        refine va_iast hx hb hK hP hD hS 8 0 rfl rfl (vp_in_nI hlt (by omega)) dX2_offerPlaces_70 (fun H locs hP hD hS => ?_)
        obtain ⟨f_906, ef_906⟩ : ∃ g, g = upd d89 (nI jn : Int32).toNatClampNeg x := ⟨_, rfl⟩
        rw [← ef_906] at hP hD
        have hP : va_P (dC, dI) vwCl [(h0, .inr (2, [.ref p1, .ref p2, .ref p3, .ref p4, .ref p5, .ref p6, .ref p7, .ref p8])), (p1, .inl (cI, 151, .inl e19)), (p2, .inl (cI, 151, .inl e29)), (p3, .inl (cI, 151, .inl e39)), (p4, .inl (cI, 151, .inl e49)), (p5, .inl (cI, 151, .inl e59)), (p6, .inl (cI, 151, .inl e69)), (p7, .inl (cI, 151, .inl e79)), (p8, .inl (cI, 151, .inl f_906))] H := hP
        have hD : va_D A [(h0, .inr (2, [.ref p1, .ref p2, .ref p3, .ref p4, .ref p5, .ref p6, .ref p7, .ref p8])), (p1, .inl (cI, 151, .inl e19)), (p2, .inl (cI, 151, .inl e29)), (p3, .inl (cI, 151, .inl e39)), (p4, .inl (cI, 151, .inl e49)), (p5, .inl (cI, 151, .inl e59)), (p6, .inl (cI, 151, .inl e69)), (p7, .inl (cI, 151, .inl e79)), (p8, .inl (cI, 151, .inl f_906))] := hD
        refine lv_iload hx hb dX2_offerPlaces_71 (lv_at hl 0 rfl) ?_
        refine lv_istore (lv' := [(6, .int (nI jn)), (8, .int (nI jn)), (7, .int x), (5, .ref p6), (4, .int q3), (3, .int q2), (2, .int 1), (1, .int (nI ka)), (0, .ref h0)]) hx hb dX2_offerPlaces_73 hl (by decide) rfl (fun ls hl => ?_)
        obtain ⟨x_907, ex_907⟩ : ∃ y : Int32, y = nI jn + 1 := ⟨_, rfl⟩
        refine lv_iinc (v := x_907) (lv' := [(8, .int x_907), (6, .int (nI jn)), (7, .int x), (5, .ref p6), (4, .int q3), (3, .int q2), (2, .int 1), (1, .int (nI ka)), (0, .ref h0)]) hx hb dX2_offerPlaces_75 hl (k := 1) rfl (by rw [ex_907]; rfl) (by decide) rfl (fun ls hl => ?_)
        refine lv_goto (tgt := 44) hx hb dX2_offerPlaces_78 (by decide) ?_
        exact ih (jn + 1) jn x_907 (nI jn) f_906 H locs ls (by omega) (by rw [ex_907]; exact nI_1 jn) (by omega) rfl (by omega) (hP.sub [0, 1, 2, 3, 4, 5, 6, 7, 8] rfl) (hD.sub [0, 1, 2, 3, 4, 5, 6, 7, 8] (by decide) rfl) hS (lv_sub hl [0, 1, 2, 3, 4, 5, 6, 7, 8] rfl)
set_option maxHeartbeats 4000000 in
set_option maxRecDepth 100000 in
theorem lo_op1b {p : Program} {l : Launch} {e : Env} {s : State} {m : MethodId} {args : Array Value} {below : List Frame} {meth : Method} {c : Code} {Q : State → Prop} {A : Nat → Prop} (dC : Nat → ClassId) (dI : Nat → Nat → Nat) (cI : ClassId) (h0 : Nat) (p1 : Nat) (p2 : Nat) (p3 : Nat) (p4 : Nat) (p5 : Nat) (p6 : Nat) (p7 : Nat) (p8 : Nat) (e19 : Nat → Int32) (e29 : Nat → Int32) (e39 : Nat → Int32) (e49 : Nat → Int32) (e59 : Nat → Int32) (e69 : Nat → Int32) (e79 : Nat → Int32) (e89 : Nat → Int32) (ka : Nat) (q2 : Int32) (q3 : Int32) (hx : p.tables.exec = Jvm.exec) (hb : c.code = cX2_offerPlaces) (hml : c.maxLocals = 9) (hown : s.vm.findClass RX2 = some m.cls) (hts : ∀ w ∈ wsX2_offerPlaces, w.before args s = true) (hA : ∀ q : Nat, s.heap.size ≤ q → A q) (hK : va_K (dC, dI) vwCl [(cI, .int)] s)
    (kk : ∀ (k : Nat) (tn : Nat) (x : Int32) (y : Int32) (d89 : Nat → Int32) (H : Heap) (locs : List Loc) (ls : Array Slot), y = nI tn → tn ≤ 150 → va_P (dC, dI) vwCl [(h0, .inr (2, [.ref p1, .ref p2, .ref p3, .ref p4, .ref p5, .ref p6, .ref p7, .ref p8])), (p1, .inl (cI, 151, .inl e19)), (p2, .inl (cI, 151, .inl e29)), (p3, .inl (cI, 151, .inl e39)), (p4, .inl (cI, 151, .inl e49)), (p5, .inl (cI, 151, .inl e59)), (p6, .inl (cI, 151, .inl e69)), (p7, .inl (cI, 151, .inl e79)), (p8, .inl (cI, 151, .inl d89))] H → va_D A [(h0, .inr (2, [.ref p1, .ref p2, .ref p3, .ref p4, .ref p5, .ref p6, .ref p7, .ref p8])), (p1, .inl (cI, 151, .inl e19)), (p2, .inl (cI, 151, .inl e29)), (p3, .inl (cI, 151, .inl e39)), (p4, .inl (cI, 151, .inl e49)), (p5, .inl (cI, 151, .inl e59)), (p6, .inl (cI, 151, .inl e69)), (p7, .inl (cI, 151, .inl e79)), (p8, .inl (cI, 151, .inl d89))] → va_S A s.heap H locs → lv_has ls 9 [(7, .int x), (6, .int y), (5, .ref p6), (4, .int q3), (3, .int q2), (2, .int 1), (1, .int (nI ka)), (0, .ref h0)] → W p l e (headSpec wsX2_offerPlaces ({ frames := 3, cells := 0, slots := 0, locals := 72 })).room s m args below meth c H locs 0 0 Q (F0 m 87 ls []))
    : ∀ (j : Nat) (k : Nat) (tn : Nat) (x : Int32) (y : Int32) (d89 : Nat → Int32) (H : Heap) (locs : List Loc) (ls : Array Slot), 151 - k < j → (x = nI k) → (k ≤ 151) → (y = nI tn) → (tn ≤ 150) → va_P (dC, dI) vwCl [(h0, .inr (2, [.ref p1, .ref p2, .ref p3, .ref p4, .ref p5, .ref p6, .ref p7, .ref p8])), (p1, .inl (cI, 151, .inl e19)), (p2, .inl (cI, 151, .inl e29)), (p3, .inl (cI, 151, .inl e39)), (p4, .inl (cI, 151, .inl e49)), (p5, .inl (cI, 151, .inl e59)), (p6, .inl (cI, 151, .inl e69)), (p7, .inl (cI, 151, .inl e79)), (p8, .inl (cI, 151, .inl d89))] H → va_D A [(h0, .inr (2, [.ref p1, .ref p2, .ref p3, .ref p4, .ref p5, .ref p6, .ref p7, .ref p8])), (p1, .inl (cI, 151, .inl e19)), (p2, .inl (cI, 151, .inl e29)), (p3, .inl (cI, 151, .inl e39)), (p4, .inl (cI, 151, .inl e49)), (p5, .inl (cI, 151, .inl e59)), (p6, .inl (cI, 151, .inl e69)), (p7, .inl (cI, 151, .inl e79)), (p8, .inl (cI, 151, .inl d89))] → va_S A s.heap H locs → lv_has ls 9 [(7, .int x), (6, .int y), (5, .ref p6), (4, .int q3), (3, .int q2), (2, .int 1), (1, .int (nI ka)), (0, .ref h0)] → W p l e (headSpec wsX2_offerPlaces ({ frames := 3, cells := 0, slots := 0, locals := 72 })).room s m args below meth c H locs 0 0 Q (F0 m 24 ls []) := by
  intro j
  induction j with
  | zero => intro k tn x y d89 H locs ls hj; omega
  | succ j ih =>
    intro k tn x y d89 H locs ls hj hx1 hk hy1 hbt hP hD hS hl
    refine lv_iload hx hb dX2_offerPlaces_24 (lv_at hl 0 rfl) ?_
    refine lv_iload_n hx hb dX2_offerPlaces_26 rfl (lv_at hl 4 rfl) ?_
    refine lv_icmp_ge (tgt := 87) hx hb dX2_offerPlaces_27 (by decide) (fun c27 => ?_) (fun c27 => ?_)
    · skip
      exact kk k tn x y d89 H locs ls hy1 hbt (hP.sub [0, 1, 2, 3, 4, 5, 6, 7, 8] rfl) (hD.sub [0, 1, 2, 3, 4, 5, 6, 7, 8] (by decide) rfl) hS (lv_sub hl [0, 1, 2, 3, 4, 5, 6, 7] rfl)
    · skip
      refine lv_iload hx hb dX2_offerPlaces_30 (lv_at hl 0 rfl) ?_
      refine lv_sipush (v := 151) hx hb dX2_offerPlaces_32 (by decide) ?_
      refine lv_icmp_ge (tgt := 87) hx hb dX2_offerPlaces_35 (by decide) (fun c35 => ?_) (fun c35 => ?_)
      · skip
        exact kk k tn x y d89 H locs ls hy1 hbt (hP.sub [0, 1, 2, 3, 4, 5, 6, 7, 8] rfl) (hD.sub [0, 1, 2, 3, 4, 5, 6, 7, 8] (by decide) rfl) hS (lv_sub hl [0, 1, 2, 3, 4, 5, 6, 7] rfl)
      · skip
        have hlt : k < 151 := Nat.lt_of_not_le (fun q => c35 (by rw [hx1]; show nI 151 ≤ nI k; exact nI_le q (by omega)))
        refine lv_iload hx hb dX2_offerPlaces_38 (lv_at hl 1 rfl) ?_
        refine lv_iconst (v := 1) hx hb dX2_offerPlaces_40 (by decide) ?_
        refine lv_iadd hx hb dX2_offerPlaces_41 ?_
        refine lv_topi (fun x_908 ex_908 => ?_)
        refine lv_istore (lv' := [(8, .int x_908), (7, .int x), (6, .int y), (5, .ref p6), (4, .int q3), (3, .int q2), (2, .int 1), (1, .int (nI ka)), (0, .ref h0)]) hx hb dX2_offerPlaces_42 hl (by decide) rfl (fun ls hl => ?_)
        refine lo_op1c dC dI cI h0 p1 p2 p3 p4 p5 p6 p7 p8 e19 e29 e39 e49 e59 e69 e79 e89 ka q2 q3 x (by rw [hx1]; exact vp_in_nI hlt (by omega)) hx hb hml hown hts hA hK ?_ 152 (tn + 1) tn x_908 y d89 _ _ ls (by omega) (by rw [ex_908, hy1]; exact nI_1 tn) (by omega) hy1 hbt (hP.sub [0, 1, 2, 3, 4, 5, 6, 7, 8] rfl) (hD.sub [0, 1, 2, 3, 4, 5, 6, 7, 8] (by decide) rfl) hS (lv_sub hl [0, 2, 1, 3, 4, 5, 6, 7, 8] rfl)
        intro j9 t9 z9 y9 d99 H locs ls hy9 hbt9 hP hD hS hl
        obtain ⟨x_909, ex_909⟩ : ∃ y : Int32, y = x + 1 := ⟨_, rfl⟩
        refine lv_iinc (v := x_909) (lv' := [(7, .int x_909), (8, .int z9), (6, .int y9), (5, .ref p6), (4, .int q3), (3, .int q2), (2, .int 1), (1, .int (nI ka)), (0, .ref h0)]) hx hb dX2_offerPlaces_81 hl (k := 2) rfl (by rw [ex_909]; rfl) (by decide) rfl (fun ls hl => ?_)
        refine lv_goto (tgt := 24) hx hb dX2_offerPlaces_84 (by decide) ?_
        exact ih (k + 1) t9 x_909 y9 d99 H locs ls (by omega) (by rw [ex_909, hx1]; exact nI_1 k) (by omega) hy9 hbt9 (hP.sub [0, 1, 2, 3, 4, 5, 6, 7, 8] rfl) (hD.sub [0, 1, 2, 3, 4, 5, 6, 7, 8] (by decide) rfl) hS (lv_sub hl [0, 2, 3, 4, 5, 6, 7, 8] rfl)
set_option maxHeartbeats 4000000 in
set_option maxRecDepth 100000 in
theorem lo_op1d {p : Program} {l : Launch} {e : Env} {s : State} {m : MethodId} {args : Array Value} {below : List Frame} {meth : Method} {c : Code} {Q : State → Prop} {A : Nat → Prop} (dC : Nat → ClassId) (dI : Nat → Nat → Nat) (cI : ClassId) (h0 : Nat) (p1 : Nat) (p2 : Nat) (p3 : Nat) (p4 : Nat) (p5 : Nat) (p6 : Nat) (p7 : Nat) (p8 : Nat) (e19 : Nat → Int32) (e29 : Nat → Int32) (e39 : Nat → Int32) (e49 : Nat → Int32) (e59 : Nat → Int32) (e69 : Nat → Int32) (e79 : Nat → Int32) (e89 : Nat → Int32) (ka : Nat) (q2 : Int32) (q3 : Int32) (d89 : Nat → Int32) (h1 : ka ≤ 150) (hx : p.tables.exec = Jvm.exec) (hb : c.code = cX2_offerPlaces) (hml : c.maxLocals = 9) (hown : s.vm.findClass RX2 = some m.cls) (hts : ∀ w ∈ wsX2_offerPlaces, w.before args s = true) (hA : ∀ q : Nat, s.heap.size ≤ q → A q) (hK : va_K (dC, dI) vwCl [(cI, .int)] s)
    (kk : ∀ (tn : Nat) (x : Int32) (d19 : Nat → Int32) (d29 : Nat → Int32) (d39 : Nat → Int32) (d49 : Nat → Int32) (d59 : Nat → Int32) (H : Heap) (locs : List Loc) (ls : Array Slot), va_P (dC, dI) vwCl [(h0, .inr (2, [.ref p1, .ref p2, .ref p3, .ref p4, .ref p5, .ref p6, .ref p7, .ref p8])), (p1, .inl (cI, 151, .inl d19)), (p2, .inl (cI, 151, .inl d29)), (p3, .inl (cI, 151, .inl d39)), (p4, .inl (cI, 151, .inl d49)), (p5, .inl (cI, 151, .inl d59)), (p6, .inl (cI, 151, .inl e69)), (p7, .inl (cI, 151, .inl e79)), (p8, .inl (cI, 151, .inl d89))] H → va_D A [(h0, .inr (2, [.ref p1, .ref p2, .ref p3, .ref p4, .ref p5, .ref p6, .ref p7, .ref p8])), (p1, .inl (cI, 151, .inl d19)), (p2, .inl (cI, 151, .inl d29)), (p3, .inl (cI, 151, .inl d39)), (p4, .inl (cI, 151, .inl d49)), (p5, .inl (cI, 151, .inl d59)), (p6, .inl (cI, 151, .inl e69)), (p7, .inl (cI, 151, .inl e79)), (p8, .inl (cI, 151, .inl d89))] → va_S A s.heap H locs → lv_has ls 9 [(7, .int x), (4, .int q3), (3, .int q2), (2, .int 1), (1, .int (nI ka)), (0, .ref h0)] → W p l e (headSpec wsX2_offerPlaces ({ frames := 3, cells := 0, slots := 0, locals := 72 })).room s m args below meth c H locs 0 0 Q (F0 m 125 ls []))
    : ∀ (j : Nat) (tn : Nat) (x : Int32) (d19 : Nat → Int32) (d29 : Nat → Int32) (d39 : Nat → Int32) (d49 : Nat → Int32) (d59 : Nat → Int32) (H : Heap) (locs : List Loc) (ls : Array Slot), tn < j → (x = nI tn) → (tn ≤ 150) → va_P (dC, dI) vwCl [(h0, .inr (2, [.ref p1, .ref p2, .ref p3, .ref p4, .ref p5, .ref p6, .ref p7, .ref p8])), (p1, .inl (cI, 151, .inl d19)), (p2, .inl (cI, 151, .inl d29)), (p3, .inl (cI, 151, .inl d39)), (p4, .inl (cI, 151, .inl d49)), (p5, .inl (cI, 151, .inl d59)), (p6, .inl (cI, 151, .inl e69)), (p7, .inl (cI, 151, .inl e79)), (p8, .inl (cI, 151, .inl d89))] H → va_D A [(h0, .inr (2, [.ref p1, .ref p2, .ref p3, .ref p4, .ref p5, .ref p6, .ref p7, .ref p8])), (p1, .inl (cI, 151, .inl d19)), (p2, .inl (cI, 151, .inl d29)), (p3, .inl (cI, 151, .inl d39)), (p4, .inl (cI, 151, .inl d49)), (p5, .inl (cI, 151, .inl d59)), (p6, .inl (cI, 151, .inl e69)), (p7, .inl (cI, 151, .inl e79)), (p8, .inl (cI, 151, .inl d89))] → va_S A s.heap H locs → lv_has ls 9 [(7, .int x), (4, .int q3), (3, .int q2), (2, .int 1), (1, .int (nI ka)), (0, .ref h0)] → W p l e (headSpec wsX2_offerPlaces ({ frames := 3, cells := 0, slots := 0, locals := 72 })).room s m args below meth c H locs 0 0 Q (F0 m 91 ls []) := by
  intro j
  induction j with
  | zero => intro tn x d19 d29 d39 d49 d59 H locs ls hj; omega
  | succ j ih =>
    intro tn x d19 d29 d39 d49 d59 H locs ls hj hx1 hbt hP hD hS hl
    refine lv_iload hx hb dX2_offerPlaces_91 (lv_at hl 0 rfl) ?_
    refine lv_iload hx hb dX2_offerPlaces_93 (lv_at hl 1 rfl) ?_
    refine lv_icmp_lt (tgt := 125) hx hb dX2_offerPlaces_95 (by decide) (fun c95 => ?_) (fun c95 => ?_)
    · skip
      exact kk tn x d19 d29 d39 d49 d59 H locs ls  (hP.sub [0, 1, 2, 3, 4, 5, 6, 7, 8] rfl) (hD.sub [0, 1, 2, 3, 4, 5, 6, 7, 8] (by decide) rfl) hS (lv_sub hl [0, 1, 2, 3, 4, 5] rfl)
    · skip
      refine lv_iload hx hb dX2_offerPlaces_98 (lv_at hl 0 rfl) ?_
      refine lv_iconst (v := 1) hx hb dX2_offerPlaces_100 (by decide) ?_
      refine lv_icmp_lt (tgt := 125) hx hb dX2_offerPlaces_101 (by decide) (fun c101 => ?_) (fun c101 => ?_)
      · skip
        exact kk tn x d19 d29 d39 d49 d59 H locs ls  (hP.sub [0, 1, 2, 3, 4, 5, 6, 7, 8] rfl) (hD.sub [0, 1, 2, 3, 4, 5, 6, 7, 8] (by decide) rfl) hS (lv_sub hl [0, 1, 2, 3, 4, 5] rfl)
      · skip
        have hlt : 1 ≤ tn := Nat.le_of_not_lt (fun q => c101 (by rw [hx1]; show nI tn < nI 1; exact nI_lt q (by omega)))
        obtain ⟨t1, rfl⟩ : ∃ t1, tn = t1 + 1 := ⟨tn - 1, by omega⟩
        subst hx1
        have hx1 : nI (t1 + 1) = nI (t1 + 1) := rfl
        refine lv_aload_n hx hb dX2_offerPlaces_104 rfl (lv_at hl 5 rfl) ?_
        refine lv_iload_n hx hb dX2_offerPlaces_105 rfl (lv_at hl 4 rfl) ?_
        refine lv_iload_n hx hb dX2_offerPlaces_106 rfl (lv_at hl 3 rfl) ?_
        refine lv_iload hx hb dX2_offerPlaces_107 (lv_at hl 0 rfl) ?_
        refine lv_aload_n hx hb dX2_offerPlaces_109 rfl (lv_at hl 5 rfl) ?_
        refine va_get (D := (dC, dI)) (ci := 2) (v := .ref p8) (C := RX2) (T := TX2) (N := 8) hx hb hts (by decide +kernel) hown hK hP 0 rfl rfl 7 (by decide) (hts (.fieldLink RX2 33 "DeltaCodec$Planner" "firstPlaces" "[I") (by decide +kernel)) (fun _ h9 => h9) rfl dX2_offerPlaces_110 ?_
        refine lv_iload hx hb dX2_offerPlaces_113 (lv_at hl 0 rfl) ?_
        refine va_iald hx hb hK hP 8 0 rfl rfl (vp_in_nI (by omega) (by omega)) dX2_offerPlaces_115 ?_
        refine lv_topi (fun x_910 ex_910 => ?_)
        have hPc := hP.sub (ws' := [(h0, .inr (2, [.ref p1, .ref p2, .ref p3, .ref p4, .ref p5, .ref p6, .ref p7, .ref p8])), (p1, .inl (cI, 151, .inl d19)), (p2, .inl (cI, 151, .inl d29)), (p3, .inl (cI, 151, .inl d39)), (p4, .inl (cI, 151, .inl d49)), (p5, .inl (cI, 151, .inl d59))]) [0, 1, 2, 3, 4, 5] rfl
        have hDc := hD.sub (ws' := [(h0, .inr (2, [.ref p1, .ref p2, .ref p3, .ref p4, .ref p5, .ref p6, .ref p7, .ref p8])), (p1, .inl (cI, 151, .inl d19)), (p2, .inl (cI, 151, .inl d29)), (p3, .inl (cI, 151, .inl d39)), (p4, .inl (cI, 151, .inl d49)), (p5, .inl (cI, 151, .inl d59))]) [0, 1, 2, 3, 4, 5] (by decide) rfl
        have hFc := va_free (wc := [(h0, .inr (2, [.ref p1, .ref p2, .ref p3, .ref p4, .ref p5, .ref p6, .ref p7, .ref p8])), (p1, .inl (cI, 151, .inl d19)), (p2, .inl (cI, 151, .inl d29)), (p3, .inl (cI, 151, .inl d39)), (p4, .inl (cI, 151, .inl d49)), (p5, .inl (cI, 151, .inl d59))]) hD hS hA [0, 1, 2, 3, 4, 5] rfl
        have hKc := hK.sub (tys' := [(cI, .int)]) [0] rfl
        refine va_callv (va_runV (As := [.int (nI ka), .int 1, .int (nI (t1 + 1)), .int x_910]) (rest := []) ⟨hx, hb, hml, hown, hts⟩ (q_offer l dC dI cI h0 p1 p2 p3 p4 p5 p6 p7 p8 d19 d29 d39 d49 d59 ka 1 (t1 + 1) x_910 H.size h1 (by omega)) (cwV 4 hts gX2_offerPlaces_X2_offer rfl rfl rfl (by decide +kernel) ⟨Nat.le_of_ble_eq_true rfl, Nat.le_of_ble_eq_true rfl⟩) ⟨fun a U g mk q => by obtain ⟨q0, q1, qP, qK, qD⟩ := q; exact ⟨q0, q1, qP, va_K.moved (u := U) (U := U.calling g mk a) (Vm.Alike.refl U.vm) qK, qD⟩, va_recv hKc hPc (ci := 2) (q0 := 0) rfl rfl, fun U hU hW => ⟨rfl, by rw [hU], by rw [hU]; exact hPc, va_K.moved hW.alike hKc, zz_D hDc⟩⟩ rfl rfl hl.1 rfl (lv_room (Nat.le_of_ble_eq_true rfl)) dX2_offerPlaces_116 ⟨(Nat.le_of_ble_eq_true rfl), (Nat.le_of_ble_eq_true rfl)⟩) hS (fun q _ h => hFc q h) hFc (fun u_912 t H1 locs ht hvm hw hB hz1 hk1 hS1 => ?_)
        obtain ⟨hP1, hD1⟩ := hB
        rw [ht] at hP1
        obtain ⟨hP, hD⟩ := va_join (wr := [(p6, .inl (cI, 151, .inl e69)), (p7, .inl (cI, 151, .inl e79)), (p8, .inl (cI, 151, .inl d89))]) (w1 := [(h0, .inr (2, [.ref p1, .ref p2, .ref p3, .ref p4, .ref p5, .ref p6, .ref p7, .ref p8])), (p1, .inl (cI, 151, .inl u_912.1)), (p2, .inl (cI, 151, .inl u_912.2.1)), (p3, .inl (cI, 151, .inl u_912.2.2.1)), (p4, .inl (cI, 151, .inl u_912.2.2.2.1)), (p5, .inl (cI, 151, .inl u_912.2.2.2.2))]) hP hD [0, 1, 2, 3, 4, 5] [6, 7, 8] rfl rfl (by decide) (by decide) hk1 hFc hP1 hD1
        have hS := hS1
        clear hS1
        generalize H1 = H at hP hS ht ⊢
        have hP : va_P (dC, dI) vwCl [(p6, .inl (cI, 151, .inl e69)), (p7, .inl (cI, 151, .inl e79)), (p8, .inl (cI, 151, .inl d89)), (h0, .inr (2, [.ref p1, .ref p2, .ref p3, .ref p4, .ref p5, .ref p6, .ref p7, .ref p8])), (p1, .inl (cI, 151, .inl u_912.1)), (p2, .inl (cI, 151, .inl u_912.2.1)), (p3, .inl (cI, 151, .inl u_912.2.2.1)), (p4, .inl (cI, 151, .inl u_912.2.2.2.1)), (p5, .inl (cI, 151, .inl u_912.2.2.2.2))] H := hP
        have hD : va_D A [(p6, .inl (cI, 151, .inl e69)), (p7, .inl (cI, 151, .inl e79)), (p8, .inl (cI, 151, .inl d89)), (h0, .inr (2, [.ref p1, .ref p2, .ref p3, .ref p4, .ref p5, .ref p6, .ref p7, .ref p8])), (p1, .inl (cI, 151, .inl u_912.1)), (p2, .inl (cI, 151, .inl u_912.2.1)), (p3, .inl (cI, 151, .inl u_912.2.2.1)), (p4, .inl (cI, 151, .inl u_912.2.2.2.1)), (p5, .inl (cI, 151, .inl u_912.2.2.2.2))] := hD
        have w116 := hw
        obtain ⟨x_913, ex_913⟩ : ∃ y : Int32, y = nI (t1 + 1) + (-1) := ⟨_, rfl⟩
        refine lv_iinc (v := x_913) (lv' := [(7, .int x_913), (4, .int q3), (3, .int q2), (2, .int 1), (1, .int (nI ka)), (0, .ref h0)]) hx hb dX2_offerPlaces_119 hl (k := 0) rfl (by rw [ex_913]; rfl) (by decide) rfl (fun ls hl => ?_)
        refine lv_goto (tgt := 91) hx hb dX2_offerPlaces_122 (by decide) ?_
        exact ih t1 x_913 u_912.1 u_912.2.1 u_912.2.2.1 u_912.2.2.2.1 u_912.2.2.2.2 H locs ls (by omega) (by rw [ex_913, ← Int32.sub_eq_add_neg]; exact nI_pred t1) (by omega) (hP.sub [3, 4, 5, 6, 7, 8, 0, 1, 2] rfl) (hD.sub [3, 4, 5, 6, 7, 8, 0, 1, 2] (by decide) rfl) hS (lv_sub hl [0, 1, 2, 3, 4, 5] rfl)
set_option maxHeartbeats 4000000 in
set_option maxRecDepth 100000 in
theorem q_op1 (l : Launch) (dC : Nat → ClassId) (dI : Nat → Nat → Nat) (cI : ClassId) (h0 : Nat) (p1 : Nat) (p2 : Nat) (p3 : Nat) (p4 : Nat) (p5 : Nat) (p6 : Nat) (p7 : Nat) (p8 : Nat) (e19 : Nat → Int32) (e29 : Nat → Int32) (e39 : Nat → Int32) (e49 : Nat → Int32) (e59 : Nat → Int32) (e69 : Nat → Int32) (e79 : Nat → Int32) (e89 : Nat → Int32) (ka : Nat) (q2 : Int32) (q3 : Int32) (sz : Nat) (h1 : ka ≤ 150) : Met l yX2_offerPlaces wsX2_offerPlaces ({ frames := 3, cells := 0, slots := 0, locals := 72 }) (va_Pc [.ref h0, .int (nI ka), .int 1, .int q2, .int q3] (fun U => U.heap.size = sz ∧ va_P (dC, dI) vwCl [(h0, .inr (2, [.ref p1, .ref p2, .ref p3, .ref p4, .ref p5, .ref p6, .ref p7, .ref p8])), (p1, .inl (cI, 151, .inl e19)), (p2, .inl (cI, 151, .inl e29)), (p3, .inl (cI, 151, .inl e39)), (p4, .inl (cI, 151, .inl e49)), (p5, .inl (cI, 151, .inl e59)), (p6, .inl (cI, 151, .inl e69)), (p7, .inl (cI, 151, .inl e79)), (p8, .inl (cI, 151, .inl e89))] U.heap ∧ va_K (dC, dI) vwCl [(cI, .int)] U ∧ va_D (fun _ => True) [(h0, .inr (2, [.ref p1, .ref p2, .ref p3, .ref p4, .ref p5, .ref p6, .ref p7, .ref p8])), (p1, .inl (cI, 151, .inl e19)), (p2, .inl (cI, 151, .inl e29)), (p3, .inl (cI, 151, .inl e39)), (p4, .inl (cI, 151, .inl e49)), (p5, .inl (cI, 151, .inl e59)), (p6, .inl (cI, 151, .inl e69)), (p7, .inl (cI, 151, .inl e79)), (p8, .inl (cI, 151, .inl e89))])) (va_Qv (fun u9 : (Nat → Int32) × (Nat → Int32) × (Nat → Int32) × (Nat → Int32) × (Nat → Int32) × (Nat → Int32) => True) (fun u9 t => va_P (dC, dI) vwCl [(h0, .inr (2, [.ref p1, .ref p2, .ref p3, .ref p4, .ref p5, .ref p6, .ref p7, .ref p8])), (p1, .inl (cI, 151, .inl u9.1)), (p2, .inl (cI, 151, .inl u9.2.1)), (p3, .inl (cI, 151, .inl u9.2.2.1)), (p4, .inl (cI, 151, .inl u9.2.2.2.1)), (p5, .inl (cI, 151, .inl u9.2.2.2.2.1)), (p8, .inl (cI, 151, .inl u9.2.2.2.2.2)), (p6, .inl (cI, 151, .inl e69)), (p7, .inl (cI, 151, .inl e79))] t.heap ∧ va_D (va_A [(h0, .inr (2, [.ref p1, .ref p2, .ref p3, .ref p4, .ref p5, .ref p6, .ref p7, .ref p8])), (p1, .inl (cI, 151, .inl e19)), (p2, .inl (cI, 151, .inl e29)), (p3, .inl (cI, 151, .inl e39)), (p4, .inl (cI, 151, .inl e49)), (p5, .inl (cI, 151, .inl e59)), (p6, .inl (cI, 151, .inl e69)), (p7, .inl (cI, 151, .inl e79)), (p8, .inl (cI, 151, .inl e89))] sz) [(h0, .inr (2, [.ref p1, .ref p2, .ref p3, .ref p4, .ref p5, .ref p6, .ref p7, .ref p8])), (p1, .inl (cI, 151, .inl u9.1)), (p2, .inl (cI, 151, .inl u9.2.1)), (p3, .inl (cI, 151, .inl u9.2.2.1)), (p4, .inl (cI, 151, .inl u9.2.2.2.1)), (p5, .inl (cI, 151, .inl u9.2.2.2.2.1)), (p8, .inl (cI, 151, .inl u9.2.2.2.2.2)), (p6, .inl (cI, 151, .inl e69)), (p7, .inl (cI, 151, .inl e79))]) (va_A [(h0, .inr (2, [.ref p1, .ref p2, .ref p3, .ref p4, .ref p5, .ref p6, .ref p7, .ref p8])), (p1, .inl (cI, 151, .inl e19)), (p2, .inl (cI, 151, .inl e29)), (p3, .inl (cI, 151, .inl e39)), (p4, .inl (cI, 151, .inl e49)), (p5, .inl (cI, 151, .inl e59)), (p6, .inl (cI, 151, .inl e69)), (p7, .inl (cI, 151, .inl e79)), (p8, .inl (cI, 151, .inl e89))] sz)) 0 0 (va_A [(h0, .inr (2, [.ref p1, .ref p2, .ref p3, .ref p4, .ref p5, .ref p6, .ref p7, .ref p8])), (p1, .inl (cI, 151, .inl e19)), (p2, .inl (cI, 151, .inl e29)), (p3, .inl (cI, 151, .inl e39)), (p4, .inl (cI, 151, .inl e49)), (p5, .inl (cI, 151, .inl e59)), (p6, .inl (cI, 151, .inl e69)), (p7, .inl (cI, 151, .inl e79)), (p8, .inl (cI, 151, .inl e89))] sz) := by
  refine Met.ofW (cc := cX2_offerPlaces) (maxL := 9) (ret := none) (by decide) rfl ?_
  intro p e s m args below meth c s₁ B hml hv
  obtain ⟨rfl, hsz, hP, hK, hD0⟩ := hv
  have hx := B.exec
  have hb := B.bytes
  have hr := B.returns
  have hts := atoms_spec (ws := wsX2_offerPlaces) B.pre
  have hown : s.vm.findClass RX2 = some m.cls := findClass_of_methodNamed B.named
  have hlocks := B.notSynchronized
  subst hsz
  have hD := hD0.self (sz := s.heap.size)
  generalize hAe : va_A [(h0, .inr (2, [.ref p1, .ref p2, .ref p3, .ref p4, .ref p5, .ref p6, .ref p7, .ref p8])), (p1, .inl (cI, 151, .inl e19)), (p2, .inl (cI, 151, .inl e29)), (p3, .inl (cI, 151, .inl e39)), (p4, .inl (cI, 151, .inl e49)), (p5, .inl (cI, 151, .inl e59)), (p6, .inl (cI, 151, .inl e69)), (p7, .inl (cI, 151, .inl e79)), (p8, .inl (cI, 151, .inl e89))] s.heap.size = A at hD ⊢
  have hA : ∀ q : Nat, s.heap.size ≤ q → A q := fun q h => by rw [← hAe]; exact Or.inr h
  have hS : va_S A s.heap s.heap [] := va_S.rf
  have hP : va_P (dC, dI) vwCl [(h0, .inr (2, [.ref p1, .ref p2, .ref p3, .ref p4, .ref p5, .ref p6, .ref p7, .ref p8])), (p1, .inl (cI, 151, .inl e19)), (p2, .inl (cI, 151, .inl e29)), (p3, .inl (cI, 151, .inl e39)), (p4, .inl (cI, 151, .inl e49)), (p5, .inl (cI, 151, .inl e59)), (p6, .inl (cI, 151, .inl e69)), (p7, .inl (cI, 151, .inl e79)), (p8, .inl (cI, 151, .inl e89))] s.heap := hP
  have hl := lv_entry ([.ref h0, .int (nI ka), .int 1, .int q2, .int q3]) (n := 9) (Nat.le_of_ble_eq_true rfl)
  rw [lg_entry_eq]
  generalize (lg_sl ([.ref h0, .int (nI ka), .int 1, .int q2, .int q3]) ++ List.replicate (9 - (lg_sl ([.ref h0, .int (nI ka), .int 1, .int q2, .int q3])).length) Slot.unset).toArray = ls at hl ⊢
  have hl : lv_has ls 9 [(0, .ref h0), (1, .int (nI ka)), (2, .int 1), (3, .int q2), (4, .int q3)] := hl
  refine lv_iload_n hx hb dX2_offerPlaces_0 rfl (lv_at hl 2 rfl) ?_
  refine lv_iconst (v := 1) hx hb dX2_offerPlaces_1 (by decide) ?_
  refine lv_icmp_ne (tgt := 12) hx hb dX2_offerPlaces_2 (by decide) (fun h => absurd h (by decide)) (fun c2 => ?_)
  refine lv_aload_n hx hb dX2_offerPlaces_5 rfl (lv_at hl 0 rfl) ?_
  refine va_get (D := (dC, dI)) (ci := 2) (v := .ref p6) (C := RX2) (T := TX2) (N := 8) hx hb hts (by decide +kernel) hown hK hP 0 rfl rfl 5 (by decide) (hts (.fieldLink RX2 27 "DeltaCodec$Planner" "copyCommon" "[I") (by decide +kernel)) (fun _ h9 => h9) rfl dX2_offerPlaces_6 ?_
  refine lv_goto (tgt := 16) hx hb dX2_offerPlaces_9 (by decide) ?_
  refine lv_astore (lv' := [(5, .ref p6), (0, .ref h0), (1, .int (nI ka)), (2, .int 1), (3, .int q2), (4, .int q3)]) hx hb dX2_offerPlaces_16 hl (by decide) rfl (fun ls hl => ?_)
  refine lv_iconst (v := 0) hx hb dX2_offerPlaces_18 (by decide) ?_
  refine lv_istore (lv' := [(6, .int 0), (5, .ref p6), (0, .ref h0), (1, .int (nI ka)), (2, .int 1), (3, .int q2), (4, .int q3)]) hx hb dX2_offerPlaces_19 hl (by decide) rfl (fun ls hl => ?_)
  refine lv_iconst (v := 0) hx hb dX2_offerPlaces_21 (by decide) ?_
  refine lv_istore (lv' := [(7, .int 0), (6, .int 0), (5, .ref p6), (0, .ref h0), (1, .int (nI ka)), (2, .int 1), (3, .int q2), (4, .int q3)]) hx hb dX2_offerPlaces_22 hl (by decide) rfl (fun ls hl => ?_)
  refine lo_op1b dC dI cI h0 p1 p2 p3 p4 p5 p6 p7 p8 e19 e29 e39 e49 e59 e69 e79 e89 ka q2 q3 hx hb hml hown hts hA hK ?_ 152 0 0 0 0 e89 _ _ ls (by omega) nI_0.symm (by omega) nI_0.symm (by omega) (hP.sub [0, 1, 2, 3, 4, 5, 6, 7, 8] rfl) (hD.sub [0, 1, 2, 3, 4, 5, 6, 7, 8] (by decide) rfl) hS (lv_sub hl [0, 1, 2, 7, 6, 5, 4, 3] rfl)
  intro k tn x y d89 H locs ls hy1 hbt hP hD hS hl
  refine lv_iload hx hb dX2_offerPlaces_87 (lv_at hl 1 rfl) ?_
  refine lv_istore (lv' := [(7, .int y), (6, .int y), (5, .ref p6), (4, .int q3), (3, .int q2), (2, .int 1), (1, .int (nI ka)), (0, .ref h0)]) hx hb dX2_offerPlaces_89 hl (by decide) rfl (fun ls hl => ?_)
  refine lo_op1d dC dI cI h0 p1 p2 p3 p4 p5 p6 p7 p8 e19 e29 e39 e49 e59 e69 e79 e89 ka q2 q3 d89 h1 hx hb hml hown hts hA hK ?_ 151 tn y e19 e29 e39 e49 e59 _ _ ls (by omega) hy1 hbt (hP.sub [0, 1, 2, 3, 4, 5, 6, 7, 8] rfl) (hD.sub [0, 1, 2, 3, 4, 5, 6, 7, 8] (by decide) rfl) hS (lv_sub hl [0, 3, 4, 5, 6, 7] rfl)
  intro t9 x9 d19 d29 d39 d49 d59 H locs ls hP hD hS hl
  have hP9 := hP.sub (ws' := [(h0, .inr (2, [.ref p1, .ref p2, .ref p3, .ref p4, .ref p5, .ref p6, .ref p7, .ref p8])), (p1, .inl (cI, 151, .inl d19)), (p2, .inl (cI, 151, .inl d29)), (p3, .inl (cI, 151, .inl d39)), (p4, .inl (cI, 151, .inl d49)), (p5, .inl (cI, 151, .inl d59)), (p8, .inl (cI, 151, .inl d89)), (p6, .inl (cI, 151, .inl e69)), (p7, .inl (cI, 151, .inl e79))]) [0, 1, 2, 3, 4, 5, 8, 6, 7] rfl
  have hD9 := hD.sub (ws' := [(h0, .inr (2, [.ref p1, .ref p2, .ref p3, .ref p4, .ref p5, .ref p6, .ref p7, .ref p8])), (p1, .inl (cI, 151, .inl d19)), (p2, .inl (cI, 151, .inl d29)), (p3, .inl (cI, 151, .inl d39)), (p4, .inl (cI, 151, .inl d49)), (p5, .inl (cI, 151, .inl d59)), (p8, .inl (cI, 151, .inl d89)), (p6, .inl (cI, 151, .inl e69)), (p7, .inl (cI, 151, .inl e79))]) [0, 1, 2, 3, 4, 5, 8, 6, 7] (by decide) rfl
  exact W.vret hx hb hr (fun t ht hW => ⟨⟨(d19, d29, d39, d49, d59, d89), rfl, trivial, ⟨by rw [ht]; exact hP9, hD9⟩⟩, hS.F ht⟩) hS.2.2 dX2_offerPlaces_125
set_option maxHeartbeats 4000000 in
set_option maxRecDepth 100000 in
theorem lo_op2c {p : Program} {l : Launch} {e : Env} {s : State} {m : MethodId} {args : Array Value} {below : List Frame} {meth : Method} {c : Code} {Q : State → Prop} {A : Nat → Prop} (dC : Nat → ClassId) (dI : Nat → Nat → Nat) (cI : ClassId) (h0 : Nat) (p1 : Nat) (p2 : Nat) (p3 : Nat) (p4 : Nat) (p5 : Nat) (p6 : Nat) (p7 : Nat) (p8 : Nat) (e19 : Nat → Int32) (e29 : Nat → Int32) (e39 : Nat → Int32) (e49 : Nat → Int32) (e59 : Nat → Int32) (e69 : Nat → Int32) (e79 : Nat → Int32) (e89 : Nat → Int32) (ka : Nat) (q2 : Int32) (q3 : Int32) (x : Int32) (hxi : vp_in x 151) (hx : p.tables.exec = Jvm.exec) (hb : c.code = cX2_offerPlaces) (hml : c.maxLocals = 9) (hown : s.vm.findClass RX2 = some m.cls) (hts : ∀ w ∈ wsX2_offerPlaces, w.before args s = true) (hA : ∀ q : Nat, s.heap.size ≤ q → A q) (hK : va_K (dC, dI) vwCl [(cI, .int)] s)
    (kk : ∀ (jn : Nat) (tn : Nat) (z : Int32) (y : Int32) (d89 : Nat → Int32) (H : Heap) (locs : List Loc) (ls : Array Slot), y = nI tn → tn ≤ 150 → va_P (dC, dI) vwCl [(h0, .inr (2, [.ref p1, .ref p2, .ref p3, .ref p4, .ref p5, .ref p6, .ref p7, .ref p8])), (p1, .inl (cI, 151, .inl e19)), (p2, .inl (cI, 151, .inl e29)), (p3, .inl (cI, 151, .inl e39)), (p4, .inl (cI, 151, .inl e49)), (p5, .inl (cI, 151, .inl e59)), (p6, .inl (cI, 151, .inl e69)), (p7, .inl (cI, 151, .inl e79)), (p8, .inl (cI, 151, .inl d89))] H → va_D A [(h0, .inr (2, [.ref p1, .ref p2, .ref p3, .ref p4, .ref p5, .ref p6, .ref p7, .ref p8])), (p1, .inl (cI, 151, .inl e19)), (p2, .inl (cI, 151, .inl e29)), (p3, .inl (cI, 151, .inl e39)), (p4, .inl (cI, 151, .inl e49)), (p5, .inl (cI, 151, .inl e59)), (p6, .inl (cI, 151, .inl e69)), (p7, .inl (cI, 151, .inl e79)), (p8, .inl (cI, 151, .inl d89))] → va_S A s.heap H locs → lv_has ls 9 [(8, .int z), (6, .int y), (7, .int x), (5, .ref p7), (4, .int q3), (3, .int q2), (2, .int 2), (1, .int (nI ka)), (0, .ref h0)] → W p l e (headSpec wsX2_offerPlaces ({ frames := 3, cells := 0, slots := 0, locals := 72 })).room s m args below meth c H locs 0 0 Q (F0 m 81 ls []))
    : ∀ (j : Nat) (jn : Nat) (tn : Nat) (z : Int32) (y : Int32) (d89 : Nat → Int32) (H : Heap) (locs : List Loc) (ls : Array Slot), 151 - jn < j → (z = nI jn) → (jn ≤ 151) → (y = nI tn) → (tn ≤ 150) → va_P (dC, dI) vwCl [(h0, .inr (2, [.ref p1, .ref p2, .ref p3, .ref p4, .ref p5, .ref p6, .ref p7, .ref p8])), (p1, .inl (cI, 151, .inl e19)), (p2, .inl (cI, 151, .inl e29)), (p3, .inl (cI, 151, .inl e39)), (p4, .inl (cI, 151, .inl e49)), (p5, .inl (cI, 151, .inl e59)), (p6, .inl (cI, 151, .inl e69)), (p7, .inl (cI, 151, .inl e79)), (p8, .inl (cI, 151, .inl d89))] H → va_D A [(h0, .inr (2, [.ref p1, .ref p2, .ref p3, .ref p4, .ref p5, .ref p6, .ref p7, .ref p8])), (p1, .inl (cI, 151, .inl e19)), (p2, .inl (cI, 151, .inl e29)), (p3, .inl (cI, 151, .inl e39)), (p4, .inl (cI, 151, .inl e49)), (p5, .inl (cI, 151, .inl e59)), (p6, .inl (cI, 151, .inl e69)), (p7, .inl (cI, 151, .inl e79)), (p8, .inl (cI, 151, .inl d89))] → va_S A s.heap H locs → lv_has ls 9 [(8, .int z), (6, .int y), (7, .int x), (5, .ref p7), (4, .int q3), (3, .int q2), (2, .int 2), (1, .int (nI ka)), (0, .ref h0)] → W p l e (headSpec wsX2_offerPlaces ({ frames := 3, cells := 0, slots := 0, locals := 72 })).room s m args below meth c H locs 0 0 Q (F0 m 44 ls []) := by
  intro j
  induction j with
  | zero => intro jn tn z y d89 H locs ls hj; omega
  | succ j ih =>
    intro jn tn z y d89 H locs ls hj hz1 hjn hy1 hbt hP hD hS hl
    refine lv_iload hx hb dX2_offerPlaces_44 (lv_at hl 0 rfl) ?_
    refine lv_aload hx hb dX2_offerPlaces_46 (lv_at hl 3 rfl) ?_
    refine lv_iload hx hb dX2_offerPlaces_48 (lv_at hl 2 rfl) ?_
    refine va_iald hx hb hK hP 7 0 rfl rfl hxi dX2_offerPlaces_50 ?_
    refine lv_topi (fun x_914 ex_914 => ?_)
    refine lv_icmp_gt (tgt := 81) hx hb dX2_offerPlaces_51 (by decide) (fun c51 => ?_) (fun c51 => ?_)
    · skip
      exact kk jn tn z y d89 H locs ls hy1 hbt (hP.sub [0, 1, 2, 3, 4, 5, 6, 7, 8] rfl) (hD.sub [0, 1, 2, 3, 4, 5, 6, 7, 8] (by decide) rfl) hS (lv_sub hl [0, 1, 2, 3, 4, 5, 6, 7, 8] rfl)
    · skip
      refine lv_iload hx hb dX2_offerPlaces_54 (lv_at hl 0 rfl) ?_
      refine lv_sipush (v := 151) hx hb dX2_offerPlaces_56 (by decide) ?_
      refine lv_icmp_ge (tgt := 81) hx hb dX2_offerPlaces_59 (by decide) (fun c59 => ?_) (fun c59 => ?_)
      · skip
        exact kk jn tn z y d89 H locs ls hy1 hbt (hP.sub [0, 1, 2, 3, 4, 5, 6, 7, 8] rfl) (hD.sub [0, 1, 2, 3, 4, 5, 6, 7, 8] (by decide) rfl) hS (lv_sub hl [0, 1, 2, 3, 4, 5, 6, 7, 8] rfl)
      · skip
        have hlt : jn < 151 := Nat.lt_of_not_le (fun q => c59 (by rw [hz1]; show nI 151 ≤ nI jn; exact nI_le q (by omega)))
        subst hz1
        have hz1 : nI jn = nI jn := rfl
        refine lv_aload_n hx hb dX2_offerPlaces_62 rfl (lv_at hl 8 rfl) ?_
        refine va_get (D := (dC, dI)) (ci := 2) (v := .ref p8) (C := RX2) (T := TX2) (N := 8) hx hb hts (by decide +kernel) hown hK hP 0 rfl rfl 7 (by decide) (hts (.fieldLink RX2 33 "DeltaCodec$Planner" "firstPlaces" "[I") (by decide +kernel)) (fun _ h9 => h9) rfl dX2_offerPlaces_63 ?_
        refine lv_iload hx hb dX2_offerPlaces_66 (lv_at hl 0 rfl) ?_
        refine lv_iload hx hb dX2_offerPlaces_68 (lv_at hl 2 rfl) ?_
        refine va_iast hx hb hK hP hD hS 8 0 rfl rfl (vp_in_nI hlt (by omega)) dX2_offerPlaces_70 (fun H locs hP hD hS => ?_)
        obtain ⟨f_915, ef_915⟩ : ∃ g, g = upd d89 (nI jn : Int32).toNatClampNeg x := ⟨_, rfl⟩
        rw [← ef_915] at hP hD
        have hP : va_P (dC, dI) vwCl [(h0, .inr (2, [.ref p1, .ref p2, .ref p3, .ref p4, .ref p5, .ref p6, .ref p7, .ref p8])), (p1, .inl (cI, 151, .inl e19)), (p2, .inl (cI, 151, .inl e29)), (p3, .inl (cI, 151, .inl e39)), (p4, .inl (cI, 151, .inl e49)), (p5, .inl (cI, 151, .inl e59)), (p6, .inl (cI, 151, .inl e69)), (p7, .inl (cI, 151, .inl e79)), (p8, .inl (cI, 151, .inl f_915))] H := hP
        have hD : va_D A [(h0, .inr (2, [.ref p1, .ref p2, .ref p3, .ref p4, .ref p5, .ref p6, .ref p7, .ref p8])), (p1, .inl (cI, 151, .inl e19)), (p2, .inl (cI, 151, .inl e29)), (p3, .inl (cI, 151, .inl e39)), (p4, .inl (cI, 151, .inl e49)), (p5, .inl (cI, 151, .inl e59)), (p6, .inl (cI, 151, .inl e69)), (p7, .inl (cI, 151, .inl e79)), (p8, .inl (cI, 151, .inl f_915))] := hD
        refine lv_iload hx hb dX2_offerPlaces_71 (lv_at hl 0 rfl) ?_
        refine lv_istore (lv' := [(6, .int (nI jn)), (8, .int (nI jn)), (7, .int x), (5, .ref p7), (4, .int q3), (3, .int q2), (2, .int 2), (1, .int (nI ka)), (0, .ref h0)]) hx hb dX2_offerPlaces_73 hl (by decide) rfl (fun ls hl => ?_)
        obtain ⟨x_916, ex_916⟩ : ∃ y : Int32, y = nI jn + 1 := ⟨_, rfl⟩
        refine lv_iinc (v := x_916) (lv' := [(8, .int x_916), (6, .int (nI jn)), (7, .int x), (5, .ref p7), (4, .int q3), (3, .int q2), (2, .int 2), (1, .int (nI ka)), (0, .ref h0)]) hx hb dX2_offerPlaces_75 hl (k := 1) rfl (by rw [ex_916]; rfl) (by decide) rfl (fun ls hl => ?_)
        refine lv_goto (tgt := 44) hx hb dX2_offerPlaces_78 (by decide) ?_
        exact ih (jn + 1) jn x_916 (nI jn) f_915 H locs ls (by omega) (by rw [ex_916]; exact nI_1 jn) (by omega) rfl (by omega) (hP.sub [0, 1, 2, 3, 4, 5, 6, 7, 8] rfl) (hD.sub [0, 1, 2, 3, 4, 5, 6, 7, 8] (by decide) rfl) hS (lv_sub hl [0, 1, 2, 3, 4, 5, 6, 7, 8] rfl)
set_option maxHeartbeats 4000000 in
set_option maxRecDepth 100000 in
theorem lo_op2b {p : Program} {l : Launch} {e : Env} {s : State} {m : MethodId} {args : Array Value} {below : List Frame} {meth : Method} {c : Code} {Q : State → Prop} {A : Nat → Prop} (dC : Nat → ClassId) (dI : Nat → Nat → Nat) (cI : ClassId) (h0 : Nat) (p1 : Nat) (p2 : Nat) (p3 : Nat) (p4 : Nat) (p5 : Nat) (p6 : Nat) (p7 : Nat) (p8 : Nat) (e19 : Nat → Int32) (e29 : Nat → Int32) (e39 : Nat → Int32) (e49 : Nat → Int32) (e59 : Nat → Int32) (e69 : Nat → Int32) (e79 : Nat → Int32) (e89 : Nat → Int32) (ka : Nat) (q2 : Int32) (q3 : Int32) (hx : p.tables.exec = Jvm.exec) (hb : c.code = cX2_offerPlaces) (hml : c.maxLocals = 9) (hown : s.vm.findClass RX2 = some m.cls) (hts : ∀ w ∈ wsX2_offerPlaces, w.before args s = true) (hA : ∀ q : Nat, s.heap.size ≤ q → A q) (hK : va_K (dC, dI) vwCl [(cI, .int)] s)
    (kk : ∀ (k : Nat) (tn : Nat) (x : Int32) (y : Int32) (d89 : Nat → Int32) (H : Heap) (locs : List Loc) (ls : Array Slot), y = nI tn → tn ≤ 150 → va_P (dC, dI) vwCl [(h0, .inr (2, [.ref p1, .ref p2, .ref p3, .ref p4, .ref p5, .ref p6, .ref p7, .ref p8])), (p1, .inl (cI, 151, .inl e19)), (p2, .inl (cI, 151, .inl e29)), (p3, .inl (cI, 151, .inl e39)), (p4, .inl (cI, 151, .inl e49)), (p5, .inl (cI, 151, .inl e59)), (p6, .inl (cI, 151, .inl e69)), (p7, .inl (cI, 151, .inl e79)), (p8, .inl (cI, 151, .inl d89))] H → va_D A [(h0, .inr (2, [.ref p1, .ref p2, .ref p3, .ref p4, .ref p5, .ref p6, .ref p7, .ref p8])), (p1, .inl (cI, 151, .inl e19)), (p2, .inl (cI, 151, .inl e29)), (p3, .inl (cI, 151, .inl e39)), (p4, .inl (cI, 151, .inl e49)), (p5, .inl (cI, 151, .inl e59)), (p6, .inl (cI, 151, .inl e69)), (p7, .inl (cI, 151, .inl e79)), (p8, .inl (cI, 151, .inl d89))] → va_S A s.heap H locs → lv_has ls 9 [(7, .int x), (6, .int y), (5, .ref p7), (4, .int q3), (3, .int q2), (2, .int 2), (1, .int (nI ka)), (0, .ref h0)] → W p l e (headSpec wsX2_offerPlaces ({ frames := 3, cells := 0, slots := 0, locals := 72 })).room s m args below meth c H locs 0 0 Q (F0 m 87 ls []))
    : ∀ (j : Nat) (k : Nat) (tn : Nat) (x : Int32) (y : Int32) (d89 : Nat → Int32) (H : Heap) (locs : List Loc) (ls : Array Slot), 151 - k < j → (x = nI k) → (k ≤ 151) → (y = nI tn) → (tn ≤ 150) → va_P (dC, dI) vwCl [(h0, .inr (2, [.ref p1, .ref p2, .ref p3, .ref p4, .ref p5, .ref p6, .ref p7, .ref p8])), (p1, .inl (cI, 151, .inl e19)), (p2, .inl (cI, 151, .inl e29)), (p3, .inl (cI, 151, .inl e39)), (p4, .inl (cI, 151, .inl e49)), (p5, .inl (cI, 151, .inl e59)), (p6, .inl (cI, 151, .inl e69)), (p7, .inl (cI, 151, .inl e79)), (p8, .inl (cI, 151, .inl d89))] H → va_D A [(h0, .inr (2, [.ref p1, .ref p2, .ref p3, .ref p4, .ref p5, .ref p6, .ref p7, .ref p8])), (p1, .inl (cI, 151, .inl e19)), (p2, .inl (cI, 151, .inl e29)), (p3, .inl (cI, 151, .inl e39)), (p4, .inl (cI, 151, .inl e49)), (p5, .inl (cI, 151, .inl e59)), (p6, .inl (cI, 151, .inl e69)), (p7, .inl (cI, 151, .inl e79)), (p8, .inl (cI, 151, .inl d89))] → va_S A s.heap H locs → lv_has ls 9 [(7, .int x), (6, .int y), (5, .ref p7), (4, .int q3), (3, .int q2), (2, .int 2), (1, .int (nI ka)), (0, .ref h0)] → W p l e (headSpec wsX2_offerPlaces ({ frames := 3, cells := 0, slots := 0, locals := 72 })).room s m args below meth c H locs 0 0 Q (F0 m 24 ls []) := by
  intro j
  induction j with
  | zero => intro k tn x y d89 H locs ls hj; omega
  | succ j ih =>
    intro k tn x y d89 H locs ls hj hx1 hk hy1 hbt hP hD hS hl
    refine lv_iload hx hb dX2_offerPlaces_24 (lv_at hl 0 rfl) ?_
    refine lv_iload_n hx hb dX2_offerPlaces_26 rfl (lv_at hl 4 rfl) ?_
    refine lv_icmp_ge (tgt := 87) hx hb dX2_offerPlaces_27 (by decide) (fun c27 => ?_) (fun c27 => ?_)
    · skip
      exact kk k tn x y d89 H locs ls hy1 hbt (hP.sub [0, 1, 2, 3, 4, 5, 6, 7, 8] rfl) (hD.sub [0, 1, 2, 3, 4, 5, 6, 7, 8] (by decide) rfl) hS (lv_sub hl [0, 1, 2, 3, 4, 5, 6, 7] rfl)
    · skip
      refine lv_iload hx hb dX2_offerPlaces_30 (lv_at hl 0 rfl) ?_
      refine lv_sipush (v := 151) hx hb dX2_offerPlaces_32 (by decide) ?_
      refine lv_icmp_ge (tgt := 87) hx hb dX2_offerPlaces_35 (by decide) (fun c35 => ?_) (fun c35 => ?_)
      · skip
        exact kk k tn x y d89 H locs ls hy1 hbt (hP.sub [0, 1, 2, 3, 4, 5, 6, 7, 8] rfl) (hD.sub [0, 1, 2, 3, 4, 5, 6, 7, 8] (by decide) rfl) hS (lv_sub hl [0, 1, 2, 3, 4, 5, 6, 7] rfl)
      · skip
        have hlt : k < 151 := Nat.lt_of_not_le (fun q => c35 (by rw [hx1]; show nI 151 ≤ nI k; exact nI_le q (by omega)))
        refine lv_iload hx hb dX2_offerPlaces_38 (lv_at hl 1 rfl) ?_
        refine lv_iconst (v := 1) hx hb dX2_offerPlaces_40 (by decide) ?_
        refine lv_iadd hx hb dX2_offerPlaces_41 ?_
        refine lv_topi (fun x_917 ex_917 => ?_)
        refine lv_istore (lv' := [(8, .int x_917), (7, .int x), (6, .int y), (5, .ref p7), (4, .int q3), (3, .int q2), (2, .int 2), (1, .int (nI ka)), (0, .ref h0)]) hx hb dX2_offerPlaces_42 hl (by decide) rfl (fun ls hl => ?_)
        refine lo_op2c dC dI cI h0 p1 p2 p3 p4 p5 p6 p7 p8 e19 e29 e39 e49 e59 e69 e79 e89 ka q2 q3 x (by rw [hx1]; exact vp_in_nI hlt (by omega)) hx hb hml hown hts hA hK ?_ 152 (tn + 1) tn x_917 y d89 _ _ ls (by omega) (by rw [ex_917, hy1]; exact nI_1 tn) (by omega) hy1 hbt (hP.sub [0, 1, 2, 3, 4, 5, 6, 7, 8] rfl) (hD.sub [0, 1, 2, 3, 4, 5, 6, 7, 8] (by decide) rfl) hS (lv_sub hl [0, 2, 1, 3, 4, 5, 6, 7, 8] rfl)
        intro j9 t9 z9 y9 d99 H locs ls hy9 hbt9 hP hD hS hl
        obtain ⟨x_918, ex_918⟩ : ∃ y : Int32, y = x + 1 := ⟨_, rfl⟩
        refine lv_iinc (v := x_918) (lv' := [(7, .int x_918), (8, .int z9), (6, .int y9), (5, .ref p7), (4, .int q3), (3, .int q2), (2, .int 2), (1, .int (nI ka)), (0, .ref h0)]) hx hb dX2_offerPlaces_81 hl (k := 2) rfl (by rw [ex_918]; rfl) (by decide) rfl (fun ls hl => ?_)
        refine lv_goto (tgt := 24) hx hb dX2_offerPlaces_84 (by decide) ?_
        exact ih (k + 1) t9 x_918 y9 d99 H locs ls (by omega) (by rw [ex_918, hx1]; exact nI_1 k) (by omega) hy9 hbt9 (hP.sub [0, 1, 2, 3, 4, 5, 6, 7, 8] rfl) (hD.sub [0, 1, 2, 3, 4, 5, 6, 7, 8] (by decide) rfl) hS (lv_sub hl [0, 2, 3, 4, 5, 6, 7, 8] rfl)
set_option maxHeartbeats 4000000 in
set_option maxRecDepth 100000 in
theorem lo_op2d {p : Program} {l : Launch} {e : Env} {s : State} {m : MethodId} {args : Array Value} {below : List Frame} {meth : Method} {c : Code} {Q : State → Prop} {A : Nat → Prop} (dC : Nat → ClassId) (dI : Nat → Nat → Nat) (cI : ClassId) (h0 : Nat) (p1 : Nat) (p2 : Nat) (p3 : Nat) (p4 : Nat) (p5 : Nat) (p6 : Nat) (p7 : Nat) (p8 : Nat) (e19 : Nat → Int32) (e29 : Nat → Int32) (e39 : Nat → Int32) (e49 : Nat → Int32) (e59 : Nat → Int32) (e69 : Nat → Int32) (e79 : Nat → Int32) (e89 : Nat → Int32) (ka : Nat) (q2 : Int32) (q3 : Int32) (d89 : Nat → Int32) (h1 : ka ≤ 150) (hx : p.tables.exec = Jvm.exec) (hb : c.code = cX2_offerPlaces) (hml : c.maxLocals = 9) (hown : s.vm.findClass RX2 = some m.cls) (hts : ∀ w ∈ wsX2_offerPlaces, w.before args s = true) (hA : ∀ q : Nat, s.heap.size ≤ q → A q) (hK : va_K (dC, dI) vwCl [(cI, .int)] s)
    (kk : ∀ (tn : Nat) (x : Int32) (d19 : Nat → Int32) (d29 : Nat → Int32) (d39 : Nat → Int32) (d49 : Nat → Int32) (d59 : Nat → Int32) (H : Heap) (locs : List Loc) (ls : Array Slot), va_P (dC, dI) vwCl [(h0, .inr (2, [.ref p1, .ref p2, .ref p3, .ref p4, .ref p5, .ref p6, .ref p7, .ref p8])), (p1, .inl (cI, 151, .inl d19)), (p2, .inl (cI, 151, .inl d29)), (p3, .inl (cI, 151, .inl d39)), (p4, .inl (cI, 151, .inl d49)), (p5, .inl (cI, 151, .inl d59)), (p6, .inl (cI, 151, .inl e69)), (p7, .inl (cI, 151, .inl e79)), (p8, .inl (cI, 151, .inl d89))] H → va_D A [(h0, .inr (2, [.ref p1, .ref p2, .ref p3, .ref p4, .ref p5, .ref p6, .ref p7, .ref p8])), (p1, .inl (cI, 151, .inl d19)), (p2, .inl (cI, 151, .inl d29)), (p3, .inl (cI, 151, .inl d39)), (p4, .inl (cI, 151, .inl d49)), (p5, .inl (cI, 151, .inl d59)), (p6, .inl (cI, 151, .inl e69)), (p7, .inl (cI, 151, .inl e79)), (p8, .inl (cI, 151, .inl d89))] → va_S A s.heap H locs → lv_has ls 9 [(7, .int x), (4, .int q3), (3, .int q2), (2, .int 2), (1, .int (nI ka)), (0, .ref h0)] → W p l e (headSpec wsX2_offerPlaces ({ frames := 3, cells := 0, slots := 0, locals := 72 })).room s m args below meth c H locs 0 0 Q (F0 m 125 ls []))
    : ∀ (j : Nat) (tn : Nat) (x : Int32) (d19 : Nat → Int32) (d29 : Nat → Int32) (d39 : Nat → Int32) (d49 : Nat → Int32) (d59 : Nat → Int32) (H : Heap) (locs : List Loc) (ls : Array Slot), tn < j → (x = nI tn) → (tn ≤ 150) → va_P (dC, dI) vwCl [(h0, .inr (2, [.ref p1, .ref p2, .ref p3, .ref p4, .ref p5, .ref p6, .ref p7, .ref p8])), (p1, .inl (cI, 151, .inl d19)), (p2, .inl (cI, 151, .inl d29)), (p3, .inl (cI, 151, .inl d39)), (p4, .inl (cI, 151, .inl d49)), (p5, .inl (cI, 151, .inl d59)), (p6, .inl (cI, 151, .inl e69)), (p7, .inl (cI, 151, .inl e79)), (p8, .inl (cI, 151, .inl d89))] H → va_D A [(h0, .inr (2, [.ref p1, .ref p2, .ref p3, .ref p4, .ref p5, .ref p6, .ref p7, .ref p8])), (p1, .inl (cI, 151, .inl d19)), (p2, .inl (cI, 151, .inl d29)), (p3, .inl (cI, 151, .inl d39)), (p4, .inl (cI, 151, .inl d49)), (p5, .inl (cI, 151, .inl d59)), (p6, .inl (cI, 151, .inl e69)), (p7, .inl (cI, 151, .inl e79)), (p8, .inl (cI, 151, .inl d89))] → va_S A s.heap H locs → lv_has ls 9 [(7, .int x), (4, .int q3), (3, .int q2), (2, .int 2), (1, .int (nI ka)), (0, .ref h0)] → W p l e (headSpec wsX2_offerPlaces ({ frames := 3, cells := 0, slots := 0, locals := 72 })).room s m args below meth c H locs 0 0 Q (F0 m 91 ls []) := by
  intro j
  induction j with
  | zero => intro tn x d19 d29 d39 d49 d59 H locs ls hj; omega
  | succ j ih =>
    intro tn x d19 d29 d39 d49 d59 H locs ls hj hx1 hbt hP hD hS hl
    refine lv_iload hx hb dX2_offerPlaces_91 (lv_at hl 0 rfl) ?_
    refine lv_iload hx hb dX2_offerPlaces_93 (lv_at hl 1 rfl) ?_
    refine lv_icmp_lt (tgt := 125) hx hb dX2_offerPlaces_95 (by decide) (fun c95 => ?_) (fun c95 => ?_)
    · skip
      exact kk tn x d19 d29 d39 d49 d59 H locs ls  (hP.sub [0, 1, 2, 3, 4, 5, 6, 7, 8] rfl) (hD.sub [0, 1, 2, 3, 4, 5, 6, 7, 8] (by decide) rfl) hS (lv_sub hl [0, 1, 2, 3, 4, 5] rfl)
    · skip
      refine lv_iload hx hb dX2_offerPlaces_98 (lv_at hl 0 rfl) ?_
      refine lv_iconst (v := 1) hx hb dX2_offerPlaces_100 (by decide) ?_
      refine lv_icmp_lt (tgt := 125) hx hb dX2_offerPlaces_101 (by decide) (fun c101 => ?_) (fun c101 => ?_)
      · skip
        exact kk tn x d19 d29 d39 d49 d59 H locs ls  (hP.sub [0, 1, 2, 3, 4, 5, 6, 7, 8] rfl) (hD.sub [0, 1, 2, 3, 4, 5, 6, 7, 8] (by decide) rfl) hS (lv_sub hl [0, 1, 2, 3, 4, 5] rfl)
      · skip
        have hlt : 1 ≤ tn := Nat.le_of_not_lt (fun q => c101 (by rw [hx1]; show nI tn < nI 1; exact nI_lt q (by omega)))
        obtain ⟨t1, rfl⟩ : ∃ t1, tn = t1 + 1 := ⟨tn - 1, by omega⟩
        subst hx1
        have hx1 : nI (t1 + 1) = nI (t1 + 1) := rfl
        refine lv_aload_n hx hb dX2_offerPlaces_104 rfl (lv_at hl 5 rfl) ?_
        refine lv_iload_n hx hb dX2_offerPlaces_105 rfl (lv_at hl 4 rfl) ?_
        refine lv_iload_n hx hb dX2_offerPlaces_106 rfl (lv_at hl 3 rfl) ?_
        refine lv_iload hx hb dX2_offerPlaces_107 (lv_at hl 0 rfl) ?_
        refine lv_aload_n hx hb dX2_offerPlaces_109 rfl (lv_at hl 5 rfl) ?_
        refine va_get (D := (dC, dI)) (ci := 2) (v := .ref p8) (C := RX2) (T := TX2) (N := 8) hx hb hts (by decide +kernel) hown hK hP 0 rfl rfl 7 (by decide) (hts (.fieldLink RX2 33 "DeltaCodec$Planner" "firstPlaces" "[I") (by decide +kernel)) (fun _ h9 => h9) rfl dX2_offerPlaces_110 ?_
        refine lv_iload hx hb dX2_offerPlaces_113 (lv_at hl 0 rfl) ?_
        refine va_iald hx hb hK hP 8 0 rfl rfl (vp_in_nI (by omega) (by omega)) dX2_offerPlaces_115 ?_
        refine lv_topi (fun x_919 ex_919 => ?_)
        have hPc := hP.sub (ws' := [(h0, .inr (2, [.ref p1, .ref p2, .ref p3, .ref p4, .ref p5, .ref p6, .ref p7, .ref p8])), (p1, .inl (cI, 151, .inl d19)), (p2, .inl (cI, 151, .inl d29)), (p3, .inl (cI, 151, .inl d39)), (p4, .inl (cI, 151, .inl d49)), (p5, .inl (cI, 151, .inl d59))]) [0, 1, 2, 3, 4, 5] rfl
        have hDc := hD.sub (ws' := [(h0, .inr (2, [.ref p1, .ref p2, .ref p3, .ref p4, .ref p5, .ref p6, .ref p7, .ref p8])), (p1, .inl (cI, 151, .inl d19)), (p2, .inl (cI, 151, .inl d29)), (p3, .inl (cI, 151, .inl d39)), (p4, .inl (cI, 151, .inl d49)), (p5, .inl (cI, 151, .inl d59))]) [0, 1, 2, 3, 4, 5] (by decide) rfl
        have hFc := va_free (wc := [(h0, .inr (2, [.ref p1, .ref p2, .ref p3, .ref p4, .ref p5, .ref p6, .ref p7, .ref p8])), (p1, .inl (cI, 151, .inl d19)), (p2, .inl (cI, 151, .inl d29)), (p3, .inl (cI, 151, .inl d39)), (p4, .inl (cI, 151, .inl d49)), (p5, .inl (cI, 151, .inl d59))]) hD hS hA [0, 1, 2, 3, 4, 5] rfl
        have hKc := hK.sub (tys' := [(cI, .int)]) [0] rfl
        refine va_callv (va_runV (As := [.int (nI ka), .int 2, .int (nI (t1 + 1)), .int x_919]) (rest := []) ⟨hx, hb, hml, hown, hts⟩ (q_offer l dC dI cI h0 p1 p2 p3 p4 p5 p6 p7 p8 d19 d29 d39 d49 d59 ka 2 (t1 + 1) x_919 H.size h1 (by omega)) (cwV 4 hts gX2_offerPlaces_X2_offer rfl rfl rfl (by decide +kernel) ⟨Nat.le_of_ble_eq_true rfl, Nat.le_of_ble_eq_true rfl⟩) ⟨fun a U g mk q => by obtain ⟨q0, q1, qP, qK, qD⟩ := q; exact ⟨q0, q1, qP, va_K.moved (u := U) (U := U.calling g mk a) (Vm.Alike.refl U.vm) qK, qD⟩, va_recv hKc hPc (ci := 2) (q0 := 0) rfl rfl, fun U hU hW => ⟨rfl, by rw [hU], by rw [hU]; exact hPc, va_K.moved hW.alike hKc, zz_D hDc⟩⟩ rfl rfl hl.1 rfl (lv_room (Nat.le_of_ble_eq_true rfl)) dX2_offerPlaces_116 ⟨(Nat.le_of_ble_eq_true rfl), (Nat.le_of_ble_eq_true rfl)⟩) hS (fun q _ h => hFc q h) hFc (fun u_921 t H1 locs ht hvm hw hB hz1 hk1 hS1 => ?_)
        obtain ⟨hP1, hD1⟩ := hB
        rw [ht] at hP1
        obtain ⟨hP, hD⟩ := va_join (wr := [(p6, .inl (cI, 151, .inl e69)), (p7, .inl (cI, 151, .inl e79)), (p8, .inl (cI, 151, .inl d89))]) (w1 := [(h0, .inr (2, [.ref p1, .ref p2, .ref p3, .ref p4, .ref p5, .ref p6, .ref p7, .ref p8])), (p1, .inl (cI, 151, .inl u_921.1)), (p2, .inl (cI, 151, .inl u_921.2.1)), (p3, .inl (cI, 151, .inl u_921.2.2.1)), (p4, .inl (cI, 151, .inl u_921.2.2.2.1)), (p5, .inl (cI, 151, .inl u_921.2.2.2.2))]) hP hD [0, 1, 2, 3, 4, 5] [6, 7, 8] rfl rfl (by decide) (by decide) hk1 hFc hP1 hD1
        have hS := hS1
        clear hS1
        generalize H1 = H at hP hS ht ⊢
        have hP : va_P (dC, dI) vwCl [(p6, .inl (cI, 151, .inl e69)), (p7, .inl (cI, 151, .inl e79)), (p8, .inl (cI, 151, .inl d89)), (h0, .inr (2, [.ref p1, .ref p2, .ref p3, .ref p4, .ref p5, .ref p6, .ref p7, .ref p8])), (p1, .inl (cI, 151, .inl u_921.1)), (p2, .inl (cI, 151, .inl u_921.2.1)), (p3, .inl (cI, 151, .inl u_921.2.2.1)), (p4, .inl (cI, 151, .inl u_921.2.2.2.1)), (p5, .inl (cI, 151, .inl u_921.2.2.2.2))] H := hP
        have hD : va_D A [(p6, .inl (cI, 151, .inl e69)), (p7, .inl (cI, 151, .inl e79)), (p8, .inl (cI, 151, .inl d89)), (h0, .inr (2, [.ref p1, .ref p2, .ref p3, .ref p4, .ref p5, .ref p6, .ref p7, .ref p8])), (p1, .inl (cI, 151, .inl u_921.1)), (p2, .inl (cI, 151, .inl u_921.2.1)), (p3, .inl (cI, 151, .inl u_921.2.2.1)), (p4, .inl (cI, 151, .inl u_921.2.2.2.1)), (p5, .inl (cI, 151, .inl u_921.2.2.2.2))] := hD
        have w116 := hw
        obtain ⟨x_922, ex_922⟩ : ∃ y : Int32, y = nI (t1 + 1) + (-1) := ⟨_, rfl⟩
        refine lv_iinc (v := x_922) (lv' := [(7, .int x_922), (4, .int q3), (3, .int q2), (2, .int 2), (1, .int (nI ka)), (0, .ref h0)]) hx hb dX2_offerPlaces_119 hl (k := 0) rfl (by rw [ex_922]; rfl) (by decide) rfl (fun ls hl => ?_)
        refine lv_goto (tgt := 91) hx hb dX2_offerPlaces_122 (by decide) ?_
        exact ih t1 x_922 u_921.1 u_921.2.1 u_921.2.2.1 u_921.2.2.2.1 u_921.2.2.2.2 H locs ls (by omega) (by rw [ex_922, ← Int32.sub_eq_add_neg]; exact nI_pred t1) (by omega) (hP.sub [3, 4, 5, 6, 7, 8, 0, 1, 2] rfl) (hD.sub [3, 4, 5, 6, 7, 8, 0, 1, 2] (by decide) rfl) hS (lv_sub hl [0, 1, 2, 3, 4, 5] rfl)
set_option maxHeartbeats 4000000 in
set_option maxRecDepth 100000 in
theorem q_op2 (l : Launch) (dC : Nat → ClassId) (dI : Nat → Nat → Nat) (cI : ClassId) (h0 : Nat) (p1 : Nat) (p2 : Nat) (p3 : Nat) (p4 : Nat) (p5 : Nat) (p6 : Nat) (p7 : Nat) (p8 : Nat) (e19 : Nat → Int32) (e29 : Nat → Int32) (e39 : Nat → Int32) (e49 : Nat → Int32) (e59 : Nat → Int32) (e69 : Nat → Int32) (e79 : Nat → Int32) (e89 : Nat → Int32) (ka : Nat) (q2 : Int32) (q3 : Int32) (sz : Nat) (h1 : ka ≤ 150) : Met l yX2_offerPlaces wsX2_offerPlaces ({ frames := 3, cells := 0, slots := 0, locals := 72 }) (va_Pc [.ref h0, .int (nI ka), .int 2, .int q2, .int q3] (fun U => U.heap.size = sz ∧ va_P (dC, dI) vwCl [(h0, .inr (2, [.ref p1, .ref p2, .ref p3, .ref p4, .ref p5, .ref p6, .ref p7, .ref p8])), (p1, .inl (cI, 151, .inl e19)), (p2, .inl (cI, 151, .inl e29)), (p3, .inl (cI, 151, .inl e39)), (p4, .inl (cI, 151, .inl e49)), (p5, .inl (cI, 151, .inl e59)), (p6, .inl (cI, 151, .inl e69)), (p7, .inl (cI, 151, .inl e79)), (p8, .inl (cI, 151, .inl e89))] U.heap ∧ va_K (dC, dI) vwCl [(cI, .int)] U ∧ va_D (fun _ => True) [(h0, .inr (2, [.ref p1, .ref p2, .ref p3, .ref p4, .ref p5, .ref p6, .ref p7, .ref p8])), (p1, .inl (cI, 151, .inl e19)), (p2, .inl (cI, 151, .inl e29)), (p3, .inl (cI, 151, .inl e39)), (p4, .inl (cI, 151, .inl e49)), (p5, .inl (cI, 151, .inl e59)), (p6, .inl (cI, 151, .inl e69)), (p7, .inl (cI, 151, .inl e79)), (p8, .inl (cI, 151, .inl e89))])) (va_Qv (fun u9 : (Nat → Int32) × (Nat → Int32) × (Nat → Int32) × (Nat → Int32) × (Nat → Int32) × (Nat → Int32) => True) (fun u9 t => va_P (dC, dI) vwCl [(h0, .inr (2, [.ref p1, .ref p2, .ref p3, .ref p4, .ref p5, .ref p6, .ref p7, .ref p8])), (p1, .inl (cI, 151, .inl u9.1)), (p2, .inl (cI, 151, .inl u9.2.1)), (p3, .inl (cI, 151, .inl u9.2.2.1)), (p4, .inl (cI, 151, .inl u9.2.2.2.1)), (p5, .inl (cI, 151, .inl u9.2.2.2.2.1)), (p8, .inl (cI, 151, .inl u9.2.2.2.2.2)), (p6, .inl (cI, 151, .inl e69)), (p7, .inl (cI, 151, .inl e79))] t.heap ∧ va_D (va_A [(h0, .inr (2, [.ref p1, .ref p2, .ref p3, .ref p4, .ref p5, .ref p6, .ref p7, .ref p8])), (p1, .inl (cI, 151, .inl e19)), (p2, .inl (cI, 151, .inl e29)), (p3, .inl (cI, 151, .inl e39)), (p4, .inl (cI, 151, .inl e49)), (p5, .inl (cI, 151, .inl e59)), (p6, .inl (cI, 151, .inl e69)), (p7, .inl (cI, 151, .inl e79)), (p8, .inl (cI, 151, .inl e89))] sz) [(h0, .inr (2, [.ref p1, .ref p2, .ref p3, .ref p4, .ref p5, .ref p6, .ref p7, .ref p8])), (p1, .inl (cI, 151, .inl u9.1)), (p2, .inl (cI, 151, .inl u9.2.1)), (p3, .inl (cI, 151, .inl u9.2.2.1)), (p4, .inl (cI, 151, .inl u9.2.2.2.1)), (p5, .inl (cI, 151, .inl u9.2.2.2.2.1)), (p8, .inl (cI, 151, .inl u9.2.2.2.2.2)), (p6, .inl (cI, 151, .inl e69)), (p7, .inl (cI, 151, .inl e79))]) (va_A [(h0, .inr (2, [.ref p1, .ref p2, .ref p3, .ref p4, .ref p5, .ref p6, .ref p7, .ref p8])), (p1, .inl (cI, 151, .inl e19)), (p2, .inl (cI, 151, .inl e29)), (p3, .inl (cI, 151, .inl e39)), (p4, .inl (cI, 151, .inl e49)), (p5, .inl (cI, 151, .inl e59)), (p6, .inl (cI, 151, .inl e69)), (p7, .inl (cI, 151, .inl e79)), (p8, .inl (cI, 151, .inl e89))] sz)) 0 0 (va_A [(h0, .inr (2, [.ref p1, .ref p2, .ref p3, .ref p4, .ref p5, .ref p6, .ref p7, .ref p8])), (p1, .inl (cI, 151, .inl e19)), (p2, .inl (cI, 151, .inl e29)), (p3, .inl (cI, 151, .inl e39)), (p4, .inl (cI, 151, .inl e49)), (p5, .inl (cI, 151, .inl e59)), (p6, .inl (cI, 151, .inl e69)), (p7, .inl (cI, 151, .inl e79)), (p8, .inl (cI, 151, .inl e89))] sz) := by
  refine Met.ofW (cc := cX2_offerPlaces) (maxL := 9) (ret := none) (by decide) rfl ?_
  intro p e s m args below meth c s₁ B hml hv
  obtain ⟨rfl, hsz, hP, hK, hD0⟩ := hv
  have hx := B.exec
  have hb := B.bytes
  have hr := B.returns
  have hts := atoms_spec (ws := wsX2_offerPlaces) B.pre
  have hown : s.vm.findClass RX2 = some m.cls := findClass_of_methodNamed B.named
  have hlocks := B.notSynchronized
  subst hsz
  have hD := hD0.self (sz := s.heap.size)
  generalize hAe : va_A [(h0, .inr (2, [.ref p1, .ref p2, .ref p3, .ref p4, .ref p5, .ref p6, .ref p7, .ref p8])), (p1, .inl (cI, 151, .inl e19)), (p2, .inl (cI, 151, .inl e29)), (p3, .inl (cI, 151, .inl e39)), (p4, .inl (cI, 151, .inl e49)), (p5, .inl (cI, 151, .inl e59)), (p6, .inl (cI, 151, .inl e69)), (p7, .inl (cI, 151, .inl e79)), (p8, .inl (cI, 151, .inl e89))] s.heap.size = A at hD ⊢
  have hA : ∀ q : Nat, s.heap.size ≤ q → A q := fun q h => by rw [← hAe]; exact Or.inr h
  have hS : va_S A s.heap s.heap [] := va_S.rf
  have hP : va_P (dC, dI) vwCl [(h0, .inr (2, [.ref p1, .ref p2, .ref p3, .ref p4, .ref p5, .ref p6, .ref p7, .ref p8])), (p1, .inl (cI, 151, .inl e19)), (p2, .inl (cI, 151, .inl e29)), (p3, .inl (cI, 151, .inl e39)), (p4, .inl (cI, 151, .inl e49)), (p5, .inl (cI, 151, .inl e59)), (p6, .inl (cI, 151, .inl e69)), (p7, .inl (cI, 151, .inl e79)), (p8, .inl (cI, 151, .inl e89))] s.heap := hP
  have hl := lv_entry ([.ref h0, .int (nI ka), .int 2, .int q2, .int q3]) (n := 9) (Nat.le_of_ble_eq_true rfl)
  rw [lg_entry_eq]
  generalize (lg_sl ([.ref h0, .int (nI ka), .int 2, .int q2, .int q3]) ++ List.replicate (9 - (lg_sl ([.ref h0, .int (nI ka), .int 2, .int q2, .int q3])).length) Slot.unset).toArray = ls at hl ⊢
  have hl : lv_has ls 9 [(0, .ref h0), (1, .int (nI ka)), (2, .int 2), (3, .int q2), (4, .int q3)] := hl
  refine lv_iload_n hx hb dX2_offerPlaces_0 rfl (lv_at hl 2 rfl) ?_
  refine lv_iconst (v := 1) hx hb dX2_offerPlaces_1 (by decide) ?_
  refine lv_icmp_ne (tgt := 12) hx hb dX2_offerPlaces_2 (by decide) (fun c2 => ?_) (fun h => absurd h (by decide))
  refine lv_aload_n hx hb dX2_offerPlaces_12 rfl (lv_at hl 0 rfl) ?_
  refine va_get (D := (dC, dI)) (ci := 2) (v := .ref p7) (C := RX2) (T := TX2) (N := 8) hx hb hts (by decide +kernel) hown hK hP 0 rfl rfl 6 (by decide) (hts (.fieldLink RX2 30 "DeltaCodec$Planner" "repeatCommon" "[I") (by decide +kernel)) (fun _ h9 => h9) rfl dX2_offerPlaces_13 ?_
  refine lv_astore (lv' := [(5, .ref p7), (0, .ref h0), (1, .int (nI ka)), (2, .int 2), (3, .int q2), (4, .int q3)]) hx hb dX2_offerPlaces_16 hl (by decide) rfl (fun ls hl => ?_)
  refine lv_iconst (v := 0) hx hb dX2_offerPlaces_18 (by decide) ?_
  refine lv_istore (lv' := [(6, .int 0), (5, .ref p7), (0, .ref h0), (1, .int (nI ka)), (2, .int 2), (3, .int q2), (4, .int q3)]) hx hb dX2_offerPlaces_19 hl (by decide) rfl (fun ls hl => ?_)
  refine lv_iconst (v := 0) hx hb dX2_offerPlaces_21 (by decide) ?_
  refine lv_istore (lv' := [(7, .int 0), (6, .int 0), (5, .ref p7), (0, .ref h0), (1, .int (nI ka)), (2, .int 2), (3, .int q2), (4, .int q3)]) hx hb dX2_offerPlaces_22 hl (by decide) rfl (fun ls hl => ?_)
  refine lo_op2b dC dI cI h0 p1 p2 p3 p4 p5 p6 p7 p8 e19 e29 e39 e49 e59 e69 e79 e89 ka q2 q3 hx hb hml hown hts hA hK ?_ 152 0 0 0 0 e89 _ _ ls (by omega) nI_0.symm (by omega) nI_0.symm (by omega) (hP.sub [0, 1, 2, 3, 4, 5, 6, 7, 8] rfl) (hD.sub [0, 1, 2, 3, 4, 5, 6, 7, 8] (by decide) rfl) hS (lv_sub hl [0, 1, 2, 7, 6, 5, 4, 3] rfl)
  intro k tn x y d89 H locs ls hy1 hbt hP hD hS hl
  refine lv_iload hx hb dX2_offerPlaces_87 (lv_at hl 1 rfl) ?_
  refine lv_istore (lv' := [(7, .int y), (6, .int y), (5, .ref p7), (4, .int q3), (3, .int q2), (2, .int 2), (1, .int (nI ka)), (0, .ref h0)]) hx hb dX2_offerPlaces_89 hl (by decide) rfl (fun ls hl => ?_)
  refine lo_op2d dC dI cI h0 p1 p2 p3 p4 p5 p6 p7 p8 e19 e29 e39 e49 e59 e69 e79 e89 ka q2 q3 d89 h1 hx hb hml hown hts hA hK ?_ 151 tn y e19 e29 e39 e49 e59 _ _ ls (by omega) hy1 hbt (hP.sub [0, 1, 2, 3, 4, 5, 6, 7, 8] rfl) (hD.sub [0, 1, 2, 3, 4, 5, 6, 7, 8] (by decide) rfl) hS (lv_sub hl [0, 3, 4, 5, 6, 7] rfl)
  intro t9 x9 d19 d29 d39 d49 d59 H locs ls hP hD hS hl
  have hP9 := hP.sub (ws' := [(h0, .inr (2, [.ref p1, .ref p2, .ref p3, .ref p4, .ref p5, .ref p6, .ref p7, .ref p8])), (p1, .inl (cI, 151, .inl d19)), (p2, .inl (cI, 151, .inl d29)), (p3, .inl (cI, 151, .inl d39)), (p4, .inl (cI, 151, .inl d49)), (p5, .inl (cI, 151, .inl d59)), (p8, .inl (cI, 151, .inl d89)), (p6, .inl (cI, 151, .inl e69)), (p7, .inl (cI, 151, .inl e79))]) [0, 1, 2, 3, 4, 5, 8, 6, 7] rfl
  have hD9 := hD.sub (ws' := [(h0, .inr (2, [.ref p1, .ref p2, .ref p3, .ref p4, .ref p5, .ref p6, .ref p7, .ref p8])), (p1, .inl (cI, 151, .inl d19)), (p2, .inl (cI, 151, .inl d29)), (p3, .inl (cI, 151, .inl d39)), (p4, .inl (cI, 151, .inl d49)), (p5, .inl (cI, 151, .inl d59)), (p8, .inl (cI, 151, .inl d89)), (p6, .inl (cI, 151, .inl e69)), (p7, .inl (cI, 151, .inl e79))]) [0, 1, 2, 3, 4, 5, 8, 6, 7] (by decide) rfl
  exact W.vret hx hb hr (fun t ht hW => ⟨⟨(d19, d29, d39, d49, d59, d89), rfl, trivial, ⟨by rw [ht]; exact hP9, hD9⟩⟩, hS.F ht⟩) hS.2.2 dX2_offerPlaces_125
