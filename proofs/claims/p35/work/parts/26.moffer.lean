def zz_V (g : Nat → Int32) (a : Nat) : Prop := ∃ k : Nat, 1 ≤ k ∧ a + k ≤ 150 ∧ g a = nI k
def zz_E (g f : Nat → Int32) (a : Nat) : Prop := ∀ q : Nat, q ≠ a → g q = f q
theorem zz_Vu {f : Nat → Int32} {a b : Nat} (h1 : 1 ≤ b) (h2 : a + b ≤ 150) : zz_V (upd f a (nI b)) a := ⟨b, h1, h2, by simp [upd]⟩
theorem zz_Eu {f : Nat → Int32} {a : Nat} {x : Int32} : zz_E (upd f a x) f a := fun q h => by simp [upd, h]
theorem zz_Et {g h f : Nat → Int32} {a : Nat} (h1 : zz_E g h a) (h2 : zz_E h f a) : zz_E g f a := fun q hq => (h1 q hq).trans (h2 q hq)
theorem zz_sE {g h f : Nat → Int32} {a : Nat} {x : Int32} {Q : Prop} (w : (g = h ∧ Q) ∨ g = upd h a x) (hE : zz_E h f a) : zz_E g f a := by
  rcases w with ⟨rfl, -⟩ | rfl
  · exact hE
  · exact zz_Et zz_Eu hE
theorem zz_sV {g h : Nat → Int32} {a b : Nat} {Q : Prop} (w : (g = h ∧ Q) ∨ g = upd h a (nI b)) (h1 : 1 ≤ b) (h2 : a + b ≤ 150) (hV : zz_V h a) : zz_V g a := by
  rcases w with ⟨rfl, -⟩ | rfl
  · exact hV
  · exact zz_Vu h1 h2
theorem zz_sA {g h f9 : Nat → Int32} {a b : Nat} {P : Prop} (w : (g = h ∧ ¬ f9 a = -1) ∨ g = upd h a (nI b)) (h1 : 1 ≤ b) (h2 : a + b ≤ 150) (hV : (P ∧ f9 a = -1) ∨ zz_V h a) : zz_V g a := by
  rcases w with ⟨rfl, hn⟩ | rfl
  · rcases hV with ⟨-, h⟩ | h
    · exact absurd h hn
    · exact h
  · exact zz_Vu h1 h2
set_option maxHeartbeats 4000000 in
set_option maxRecDepth 100000 in
theorem k_offer (l : Launch) (dC : Nat → ClassId) (dI : Nat → Nat → Nat) (cI : ClassId) (ma : Nat → Nat) (ki : Int32) (kc : Int32) (f9 : Nat → Int32) (f10 : Nat → Int32) (f11 : Nat → Int32) (f12 : Nat → Int32) (f13 : Nat → Int32) (ka : Nat) (p1 : Int32) (kb : Nat) (p3 : Int32) (p4 : Int32) (sz : Nat) (h1 : 1 ≤ kb) (h2 : ka + kb ≤ 150) : Met l yX5_offer wsX5_offer ({ frames := 0, cells := 0, slots := 0, locals := 0 }) (va_Pc [.ref (ma 0), .int (nI ka), .int p1, .int (nI kb), .int p3, .int p4] (fun U => U.heap.size = sz ∧ va_P (dC, dI) vwCl [(ma 0, .inr (5, [.int 0, .ref (ma 1), .int 0, .ref (ma 2), .int 150, .int 3, .int 0, .int ki, .ref (ma 3), .ref (ma 4), .ref (ma 5), .ref (ma 6), .int kc, .int 0, .ref (ma 7), .int 0, .ref (ma 8), .int (-1), .ref (ma 9), .ref (ma 10), .ref (ma 11), .ref (ma 12), .ref (ma 13), .int 0, .int 0])), (ma 9, .inl (cI, 151, .inl f9)), (ma 10, .inl (cI, 151, .inl f10)), (ma 11, .inl (cI, 151, .inl f11)), (ma 12, .inl (cI, 151, .inl f12)), (ma 13, .inl (cI, 151, .inl f13))] U.heap ∧ va_K (dC, dI) vwCl [(cI, .int)] U ∧ va_D (fun _ => True) [(ma 0, .inr (5, [.int 0, .ref (ma 1), .int 0, .ref (ma 2), .int 150, .int 3, .int 0, .int ki, .ref (ma 3), .ref (ma 4), .ref (ma 5), .ref (ma 6), .int kc, .int 0, .ref (ma 7), .int 0, .ref (ma 8), .int (-1), .ref (ma 9), .ref (ma 10), .ref (ma 11), .ref (ma 12), .ref (ma 13), .int 0, .int 0])), (ma 9, .inl (cI, 151, .inl f9)), (ma 10, .inl (cI, 151, .inl f10)), (ma 11, .inl (cI, 151, .inl f11)), (ma 12, .inl (cI, 151, .inl f12)), (ma 13, .inl (cI, 151, .inl f13))])) (va_Qv (fun u9 : (Nat → Int32) × (Nat → Int32) × (Nat → Int32) × (Nat → Int32) × (Nat → Int32) => (u9.2.2.2.1 = f12 ∧ ¬ f9 ka = -1) ∨ u9.2.2.2.1 = upd f12 ka (nI kb)) (fun u9 t => va_P (dC, dI) vwCl [(ma 0, .inr (5, [.int 0, .ref (ma 1), .int 0, .ref (ma 2), .int 150, .int 3, .int 0, .int ki, .ref (ma 3), .ref (ma 4), .ref (ma 5), .ref (ma 6), .int kc, .int 0, .ref (ma 7), .int 0, .ref (ma 8), .int (-1), .ref (ma 9), .ref (ma 10), .ref (ma 11), .ref (ma 12), .ref (ma 13), .int 0, .int 0])), (ma 9, .inl (cI, 151, .inl u9.1)), (ma 10, .inl (cI, 151, .inl u9.2.1)), (ma 11, .inl (cI, 151, .inl u9.2.2.1)), (ma 12, .inl (cI, 151, .inl u9.2.2.2.1)), (ma 13, .inl (cI, 151, .inl u9.2.2.2.2))] t.heap ∧ va_D (va_A [(ma 0, .inr (5, [.int 0, .ref (ma 1), .int 0, .ref (ma 2), .int 150, .int 3, .int 0, .int ki, .ref (ma 3), .ref (ma 4), .ref (ma 5), .ref (ma 6), .int kc, .int 0, .ref (ma 7), .int 0, .ref (ma 8), .int (-1), .ref (ma 9), .ref (ma 10), .ref (ma 11), .ref (ma 12), .ref (ma 13), .int 0, .int 0])), (ma 9, .inl (cI, 151, .inl f9)), (ma 10, .inl (cI, 151, .inl f10)), (ma 11, .inl (cI, 151, .inl f11)), (ma 12, .inl (cI, 151, .inl f12)), (ma 13, .inl (cI, 151, .inl f13))] sz) [(ma 0, .inr (5, [.int 0, .ref (ma 1), .int 0, .ref (ma 2), .int 150, .int 3, .int 0, .int ki, .ref (ma 3), .ref (ma 4), .ref (ma 5), .ref (ma 6), .int kc, .int 0, .ref (ma 7), .int 0, .ref (ma 8), .int (-1), .ref (ma 9), .ref (ma 10), .ref (ma 11), .ref (ma 12), .ref (ma 13), .int 0, .int 0])), (ma 9, .inl (cI, 151, .inl u9.1)), (ma 10, .inl (cI, 151, .inl u9.2.1)), (ma 11, .inl (cI, 151, .inl u9.2.2.1)), (ma 12, .inl (cI, 151, .inl u9.2.2.2.1)), (ma 13, .inl (cI, 151, .inl u9.2.2.2.2))]) (va_A [(ma 0, .inr (5, [.int 0, .ref (ma 1), .int 0, .ref (ma 2), .int 150, .int 3, .int 0, .int ki, .ref (ma 3), .ref (ma 4), .ref (ma 5), .ref (ma 6), .int kc, .int 0, .ref (ma 7), .int 0, .ref (ma 8), .int (-1), .ref (ma 9), .ref (ma 10), .ref (ma 11), .ref (ma 12), .ref (ma 13), .int 0, .int 0])), (ma 9, .inl (cI, 151, .inl f9)), (ma 10, .inl (cI, 151, .inl f10)), (ma 11, .inl (cI, 151, .inl f11)), (ma 12, .inl (cI, 151, .inl f12)), (ma 13, .inl (cI, 151, .inl f13))] sz)) 0 0 (va_A [(ma 0, .inr (5, [.int 0, .ref (ma 1), .int 0, .ref (ma 2), .int 150, .int 3, .int 0, .int ki, .ref (ma 3), .ref (ma 4), .ref (ma 5), .ref (ma 6), .int kc, .int 0, .ref (ma 7), .int 0, .ref (ma 8), .int (-1), .ref (ma 9), .ref (ma 10), .ref (ma 11), .ref (ma 12), .ref (ma 13), .int 0, .int 0])), (ma 9, .inl (cI, 151, .inl f9)), (ma 10, .inl (cI, 151, .inl f10)), (ma 11, .inl (cI, 151, .inl f11)), (ma 12, .inl (cI, 151, .inl f12)), (ma 13, .inl (cI, 151, .inl f13))] sz) := by
  refine Met.ofW (cc := cX5_offer) (maxL := 8) (ret := none) (by decide) rfl ?_
  intro p e s m args below meth c s₁ B hml hv
  obtain ⟨rfl, hsz, hP, hK, hD0⟩ := hv
  have hx := B.exec
  have hb := B.bytes
  have hr := B.returns
  have hts := atoms_spec (ws := wsX5_offer) B.pre
  have hown : s.vm.findClass RX5 = some m.cls := findClass_of_methodNamed B.named
  have hlocks := B.notSynchronized
  subst hsz
  have hD := hD0.self (sz := s.heap.size)
  generalize hAe : va_A [(ma 0, .inr (5, [.int 0, .ref (ma 1), .int 0, .ref (ma 2), .int 150, .int 3, .int 0, .int ki, .ref (ma 3), .ref (ma 4), .ref (ma 5), .ref (ma 6), .int kc, .int 0, .ref (ma 7), .int 0, .ref (ma 8), .int (-1), .ref (ma 9), .ref (ma 10), .ref (ma 11), .ref (ma 12), .ref (ma 13), .int 0, .int 0])), (ma 9, .inl (cI, 151, .inl f9)), (ma 10, .inl (cI, 151, .inl f10)), (ma 11, .inl (cI, 151, .inl f11)), (ma 12, .inl (cI, 151, .inl f12)), (ma 13, .inl (cI, 151, .inl f13))] s.heap.size = A at hD ⊢
  have hA : ∀ q : Nat, s.heap.size ≤ q → A q := fun q h => by rw [← hAe]; exact Or.inr h
  have hS : va_S A s.heap s.heap [] := va_S.rf
  have hP : va_P (dC, dI) vwCl [(ma 0, .inr (5, [.int 0, .ref (ma 1), .int 0, .ref (ma 2), .int 150, .int 3, .int 0, .int ki, .ref (ma 3), .ref (ma 4), .ref (ma 5), .ref (ma 6), .int kc, .int 0, .ref (ma 7), .int 0, .ref (ma 8), .int (-1), .ref (ma 9), .ref (ma 10), .ref (ma 11), .ref (ma 12), .ref (ma 13), .int 0, .int 0])), (ma 9, .inl (cI, 151, .inl f9)), (ma 10, .inl (cI, 151, .inl f10)), (ma 11, .inl (cI, 151, .inl f11)), (ma 12, .inl (cI, 151, .inl f12)), (ma 13, .inl (cI, 151, .inl f13))] s.heap := hP
  have hl := lv_entry ([.ref (ma 0), .int (nI ka), .int p1, .int (nI kb), .int p3, .int p4]) (n := 8) (Nat.le_of_ble_eq_true rfl)
  rw [lg_entry_eq]
  generalize (lg_sl ([.ref (ma 0), .int (nI ka), .int p1, .int (nI kb), .int p3, .int p4]) ++ List.replicate (8 - (lg_sl ([.ref (ma 0), .int (nI ka), .int p1, .int (nI kb), .int p3, .int p4])).length) Slot.unset).toArray = ls at hl ⊢
  have hl : lv_has ls 8 [(0, .ref (ma 0)), (1, .int (nI ka)), (2, .int p1), (3, .int (nI kb)), (4, .int p3), (5, .int p4)] := hl
  refine lv_iload hx hb dX5_offer_0 (lv_at hl 5 rfl) ?_
  refine lv_aload_n hx hb dX5_offer_2 rfl (lv_at hl 0 rfl) ?_
  refine va_get (D := (dC, dI)) (ci := 5) (v := .ref (ma 9)) (C := RX5) (T := TX5) (N := 25) hx hb hts (by decide +kernel) hown hK hP 0 rfl rfl 18 (by decide) (hts (.fieldLink RX5 41 "DeltaCodecModel" "costs" "[I") (by decide +kernel)) (fun _ h9 => h9) rfl dX5_offer_3 ?_
  refine lv_iload_n hx hb dX5_offer_6 rfl (lv_at hl 1 rfl) ?_
  refine lv_iload_n hx hb dX5_offer_7 rfl (lv_at hl 3 rfl) ?_
  refine lv_iadd hx hb dX5_offer_8 ?_
  refine lv_topi (fun x_732 ex_732 => ?_)
  obtain rfl : nI ka + nI kb = x_732 := ex_732.symm
  refine va_iald hx hb hK hP 1 0 rfl rfl (by rw [nI_add]; exact vp_in_nI (by omega) (by omega)) dX5_offer_9 ?_
  refine lv_topi (fun x_733 ex_733 => ?_)
  refine lv_iadd hx hb dX5_offer_10 ?_
  refine lv_topi (fun x_734 ex_734 => ?_)
  refine lv_istore (lv' := [(6, .int x_734), (0, .ref (ma 0)), (1, .int (nI ka)), (2, .int p1), (3, .int (nI kb)), (4, .int p3), (5, .int p4)]) hx hb dX5_offer_11 hl (by decide) rfl (fun ls hl => ?_)
  refine lv_iconst (v := 1) hx hb dX5_offer_13 (by decide) ?_
  refine lv_aload_n hx hb dX5_offer_14 rfl (lv_at hl 1 rfl) ?_
  refine va_get (D := (dC, dI)) (ci := 5) (v := .ref (ma 10)) (C := RX5) (T := TX5) (N := 25) hx hb hts (by decide +kernel) hown hK hP 0 rfl rfl 19 (by decide) (hts (.fieldLink RX5 44 "DeltaCodecModel" "counts" "[I") (by decide +kernel)) (fun _ h9 => h9) rfl dX5_offer_15 ?_
  refine lv_iload_n hx hb dX5_offer_18 rfl (lv_at hl 2 rfl) ?_
  refine lv_iload_n hx hb dX5_offer_19 rfl (lv_at hl 4 rfl) ?_
  refine lv_iadd hx hb dX5_offer_20 ?_
  refine lv_topi (fun x_735 ex_735 => ?_)
  obtain rfl : nI ka + nI kb = x_735 := ex_735.symm
  refine va_iald hx hb hK hP 2 0 rfl rfl (by rw [nI_add]; exact vp_in_nI (by omega) (by omega)) dX5_offer_21 ?_
  refine lv_topi (fun x_736 ex_736 => ?_)
  refine lv_iadd hx hb dX5_offer_22 ?_
  refine lv_topi (fun x_737 ex_737 => ?_)
  refine lv_istore (lv' := [(7, .int x_737), (6, .int x_734), (0, .ref (ma 0)), (1, .int (nI ka)), (2, .int p1), (3, .int (nI kb)), (4, .int p3), (5, .int p4)]) hx hb dX5_offer_23 hl (by decide) rfl (fun ls hl => ?_)
  refine lv_aload_n hx hb dX5_offer_25 rfl (lv_at hl 2 rfl) ?_
  refine va_get (D := (dC, dI)) (ci := 5) (v := .ref (ma 9)) (C := RX5) (T := TX5) (N := 25) hx hb hts (by decide +kernel) hown hK hP 0 rfl rfl 18 (by decide) (hts (.fieldLink RX5 41 "DeltaCodecModel" "costs" "[I") (by decide +kernel)) (fun _ h9 => h9) rfl dX5_offer_26 ?_
  refine lv_iload_n hx hb dX5_offer_29 rfl (lv_at hl 3 rfl) ?_
  refine va_iald hx hb hK hP 1 0 rfl rfl (vp_in_nI (by omega) (by omega)) dX5_offer_30 ?_
  refine lv_topi (fun xa9 exa9 => ?_)
  refine lv_iconst (v := (-1)) hx hb dX5_offer_31 (by decide) ?_
  refine lv_icmp_eq (tgt := 69) hx hb dX5_offer_32 (by decide) (fun c32 => ?_) (fun c32 => ?_)
  · skip
    refine lv_aload_n hx hb dX5_offer_69 rfl (lv_at hl 2 rfl) ?_
    refine va_get (D := (dC, dI)) (ci := 5) (v := .ref (ma 9)) (C := RX5) (T := TX5) (N := 25) hx hb hts (by decide +kernel) hown hK hP 0 rfl rfl 18 (by decide) (hts (.fieldLink RX5 41 "DeltaCodecModel" "costs" "[I") (by decide +kernel)) (fun _ h9 => h9) rfl dX5_offer_70 ?_
    refine lv_iload_n hx hb dX5_offer_73 rfl (lv_at hl 3 rfl) ?_
    refine lv_iload hx hb dX5_offer_74 (lv_at hl 1 rfl) ?_
    refine va_iast hx hb hK hP hD hS 1 0 rfl rfl (vp_in_nI (by omega) (by omega)) dX5_offer_76 (fun H locs hP hD hS => ?_)
    obtain ⟨f_738, ef_738⟩ : ∃ g, g = upd f9 (nI ka : Int32).toNatClampNeg x_734 := ⟨_, rfl⟩
    rw [← ef_738] at hP hD
    have hP : va_P (dC, dI) vwCl [(ma 0, .inr (5, [.int 0, .ref (ma 1), .int 0, .ref (ma 2), .int 150, .int 3, .int 0, .int ki, .ref (ma 3), .ref (ma 4), .ref (ma 5), .ref (ma 6), .int kc, .int 0, .ref (ma 7), .int 0, .ref (ma 8), .int (-1), .ref (ma 9), .ref (ma 10), .ref (ma 11), .ref (ma 12), .ref (ma 13), .int 0, .int 0])), (ma 9, .inl (cI, 151, .inl f_738)), (ma 10, .inl (cI, 151, .inl f10)), (ma 11, .inl (cI, 151, .inl f11)), (ma 12, .inl (cI, 151, .inl f12)), (ma 13, .inl (cI, 151, .inl f13))] H := hP
    have hD : va_D A [(ma 0, .inr (5, [.int 0, .ref (ma 1), .int 0, .ref (ma 2), .int 150, .int 3, .int 0, .int ki, .ref (ma 3), .ref (ma 4), .ref (ma 5), .ref (ma 6), .int kc, .int 0, .ref (ma 7), .int 0, .ref (ma 8), .int (-1), .ref (ma 9), .ref (ma 10), .ref (ma 11), .ref (ma 12), .ref (ma 13), .int 0, .int 0])), (ma 9, .inl (cI, 151, .inl f_738)), (ma 10, .inl (cI, 151, .inl f10)), (ma 11, .inl (cI, 151, .inl f11)), (ma 12, .inl (cI, 151, .inl f12)), (ma 13, .inl (cI, 151, .inl f13))] := hD
    refine lv_aload_n hx hb dX5_offer_77 rfl (lv_at hl 2 rfl) ?_
    refine va_get (D := (dC, dI)) (ci := 5) (v := .ref (ma 10)) (C := RX5) (T := TX5) (N := 25) hx hb hts (by decide +kernel) hown hK hP 0 rfl rfl 19 (by decide) (hts (.fieldLink RX5 44 "DeltaCodecModel" "counts" "[I") (by decide +kernel)) (fun _ h9 => h9) rfl dX5_offer_78 ?_
    refine lv_iload_n hx hb dX5_offer_81 rfl (lv_at hl 3 rfl) ?_
    refine lv_iload hx hb dX5_offer_82 (lv_at hl 0 rfl) ?_
    refine va_iast hx hb hK hP hD hS 2 0 rfl rfl (vp_in_nI (by omega) (by omega)) dX5_offer_84 (fun H locs hP hD hS => ?_)
    obtain ⟨f_739, ef_739⟩ : ∃ g, g = upd f10 (nI ka : Int32).toNatClampNeg x_737 := ⟨_, rfl⟩
    rw [← ef_739] at hP hD
    have hP : va_P (dC, dI) vwCl [(ma 0, .inr (5, [.int 0, .ref (ma 1), .int 0, .ref (ma 2), .int 150, .int 3, .int 0, .int ki, .ref (ma 3), .ref (ma 4), .ref (ma 5), .ref (ma 6), .int kc, .int 0, .ref (ma 7), .int 0, .ref (ma 8), .int (-1), .ref (ma 9), .ref (ma 10), .ref (ma 11), .ref (ma 12), .ref (ma 13), .int 0, .int 0])), (ma 9, .inl (cI, 151, .inl f_738)), (ma 10, .inl (cI, 151, .inl f_739)), (ma 11, .inl (cI, 151, .inl f11)), (ma 12, .inl (cI, 151, .inl f12)), (ma 13, .inl (cI, 151, .inl f13))] H := hP
    have hD : va_D A [(ma 0, .inr (5, [.int 0, .ref (ma 1), .int 0, .ref (ma 2), .int 150, .int 3, .int 0, .int ki, .ref (ma 3), .ref (ma 4), .ref (ma 5), .ref (ma 6), .int kc, .int 0, .ref (ma 7), .int 0, .ref (ma 8), .int (-1), .ref (ma 9), .ref (ma 10), .ref (ma 11), .ref (ma 12), .ref (ma 13), .int 0, .int 0])), (ma 9, .inl (cI, 151, .inl f_738)), (ma 10, .inl (cI, 151, .inl f_739)), (ma 11, .inl (cI, 151, .inl f11)), (ma 12, .inl (cI, 151, .inl f12)), (ma 13, .inl (cI, 151, .inl f13))] := hD
    refine lv_aload_n hx hb dX5_offer_85 rfl (lv_at hl 2 rfl) ?_
    refine va_get (D := (dC, dI)) (ci := 5) (v := .ref (ma 11)) (C := RX5) (T := TX5) (N := 25) hx hb hts (by decide +kernel) hown hK hP 0 rfl rfl 20 (by decide) (hts (.fieldLink RX5 47 "DeltaCodecModel" "bestKinds" "[I") (by decide +kernel)) (fun _ h9 => h9) rfl dX5_offer_86 ?_
    refine lv_iload_n hx hb dX5_offer_89 rfl (lv_at hl 3 rfl) ?_
    refine lv_iload_n hx hb dX5_offer_90 rfl (lv_at hl 4 rfl) ?_
    refine va_iast hx hb hK hP hD hS 3 0 rfl rfl (vp_in_nI (by omega) (by omega)) dX5_offer_91 (fun H locs hP hD hS => ?_)
    obtain ⟨f_740, ef_740⟩ : ∃ g, g = upd f11 (nI ka : Int32).toNatClampNeg p1 := ⟨_, rfl⟩
    rw [← ef_740] at hP hD
    have hP : va_P (dC, dI) vwCl [(ma 0, .inr (5, [.int 0, .ref (ma 1), .int 0, .ref (ma 2), .int 150, .int 3, .int 0, .int ki, .ref (ma 3), .ref (ma 4), .ref (ma 5), .ref (ma 6), .int kc, .int 0, .ref (ma 7), .int 0, .ref (ma 8), .int (-1), .ref (ma 9), .ref (ma 10), .ref (ma 11), .ref (ma 12), .ref (ma 13), .int 0, .int 0])), (ma 9, .inl (cI, 151, .inl f_738)), (ma 10, .inl (cI, 151, .inl f_739)), (ma 11, .inl (cI, 151, .inl f_740)), (ma 12, .inl (cI, 151, .inl f12)), (ma 13, .inl (cI, 151, .inl f13))] H := hP
    have hD : va_D A [(ma 0, .inr (5, [.int 0, .ref (ma 1), .int 0, .ref (ma 2), .int 150, .int 3, .int 0, .int ki, .ref (ma 3), .ref (ma 4), .ref (ma 5), .ref (ma 6), .int kc, .int 0, .ref (ma 7), .int 0, .ref (ma 8), .int (-1), .ref (ma 9), .ref (ma 10), .ref (ma 11), .ref (ma 12), .ref (ma 13), .int 0, .int 0])), (ma 9, .inl (cI, 151, .inl f_738)), (ma 10, .inl (cI, 151, .inl f_739)), (ma 11, .inl (cI, 151, .inl f_740)), (ma 12, .inl (cI, 151, .inl f12)), (ma 13, .inl (cI, 151, .inl f13))] := hD
    refine lv_aload_n hx hb dX5_offer_92 rfl (lv_at hl 2 rfl) ?_
    refine va_get (D := (dC, dI)) (ci := 5) (v := .ref (ma 12)) (C := RX5) (T := TX5) (N := 25) hx hb hts (by decide +kernel) hown hK hP 0 rfl rfl 21 (by decide) (hts (.fieldLink RX5 50 "DeltaCodecModel" "bestLengths" "[I") (by decide +kernel)) (fun _ h9 => h9) rfl dX5_offer_93 ?_
    refine lv_iload_n hx hb dX5_offer_96 rfl (lv_at hl 3 rfl) ?_
    refine lv_iload_n hx hb dX5_offer_97 rfl (lv_at hl 5 rfl) ?_
    refine va_iast hx hb hK hP hD hS 4 0 rfl rfl (vp_in_nI (by omega) (by omega)) dX5_offer_98 (fun H locs hP hD hS => ?_)
    obtain ⟨f_741, ef_741⟩ : ∃ g, g = upd f12 (nI ka : Int32).toNatClampNeg (nI kb) := ⟨_, rfl⟩
    rw [← ef_741] at hP hD
    have hP : va_P (dC, dI) vwCl [(ma 0, .inr (5, [.int 0, .ref (ma 1), .int 0, .ref (ma 2), .int 150, .int 3, .int 0, .int ki, .ref (ma 3), .ref (ma 4), .ref (ma 5), .ref (ma 6), .int kc, .int 0, .ref (ma 7), .int 0, .ref (ma 8), .int (-1), .ref (ma 9), .ref (ma 10), .ref (ma 11), .ref (ma 12), .ref (ma 13), .int 0, .int 0])), (ma 9, .inl (cI, 151, .inl f_738)), (ma 10, .inl (cI, 151, .inl f_739)), (ma 11, .inl (cI, 151, .inl f_740)), (ma 12, .inl (cI, 151, .inl f_741)), (ma 13, .inl (cI, 151, .inl f13))] H := hP
    have hD : va_D A [(ma 0, .inr (5, [.int 0, .ref (ma 1), .int 0, .ref (ma 2), .int 150, .int 3, .int 0, .int ki, .ref (ma 3), .ref (ma 4), .ref (ma 5), .ref (ma 6), .int kc, .int 0, .ref (ma 7), .int 0, .ref (ma 8), .int (-1), .ref (ma 9), .ref (ma 10), .ref (ma 11), .ref (ma 12), .ref (ma 13), .int 0, .int 0])), (ma 9, .inl (cI, 151, .inl f_738)), (ma 10, .inl (cI, 151, .inl f_739)), (ma 11, .inl (cI, 151, .inl f_740)), (ma 12, .inl (cI, 151, .inl f_741)), (ma 13, .inl (cI, 151, .inl f13))] := hD
    refine lv_aload_n hx hb dX5_offer_99 rfl (lv_at hl 2 rfl) ?_
    refine va_get (D := (dC, dI)) (ci := 5) (v := .ref (ma 13)) (C := RX5) (T := TX5) (N := 25) hx hb hts (by decide +kernel) hown hK hP 0 rfl rfl 22 (by decide) (hts (.fieldLink RX5 53 "DeltaCodecModel" "bestOperands" "[I") (by decide +kernel)) (fun _ h9 => h9) rfl dX5_offer_100 ?_
    refine lv_iload_n hx hb dX5_offer_103 rfl (lv_at hl 3 rfl) ?_
    refine lv_iload hx hb dX5_offer_104 (lv_at hl 6 rfl) ?_
    refine va_iast hx hb hK hP hD hS 5 0 rfl rfl (vp_in_nI (by omega) (by omega)) dX5_offer_106 (fun H locs hP hD hS => ?_)
    obtain ⟨f_742, ef_742⟩ : ∃ g, g = upd f13 (nI ka : Int32).toNatClampNeg p3 := ⟨_, rfl⟩
    rw [← ef_742] at hP hD
    have hP : va_P (dC, dI) vwCl [(ma 0, .inr (5, [.int 0, .ref (ma 1), .int 0, .ref (ma 2), .int 150, .int 3, .int 0, .int ki, .ref (ma 3), .ref (ma 4), .ref (ma 5), .ref (ma 6), .int kc, .int 0, .ref (ma 7), .int 0, .ref (ma 8), .int (-1), .ref (ma 9), .ref (ma 10), .ref (ma 11), .ref (ma 12), .ref (ma 13), .int 0, .int 0])), (ma 9, .inl (cI, 151, .inl f_738)), (ma 10, .inl (cI, 151, .inl f_739)), (ma 11, .inl (cI, 151, .inl f_740)), (ma 12, .inl (cI, 151, .inl f_741)), (ma 13, .inl (cI, 151, .inl f_742))] H := hP
    have hD : va_D A [(ma 0, .inr (5, [.int 0, .ref (ma 1), .int 0, .ref (ma 2), .int 150, .int 3, .int 0, .int ki, .ref (ma 3), .ref (ma 4), .ref (ma 5), .ref (ma 6), .int kc, .int 0, .ref (ma 7), .int 0, .ref (ma 8), .int (-1), .ref (ma 9), .ref (ma 10), .ref (ma 11), .ref (ma 12), .ref (ma 13), .int 0, .int 0])), (ma 9, .inl (cI, 151, .inl f_738)), (ma 10, .inl (cI, 151, .inl f_739)), (ma 11, .inl (cI, 151, .inl f_740)), (ma 12, .inl (cI, 151, .inl f_741)), (ma 13, .inl (cI, 151, .inl f_742))] := hD
    have hP9 := hP.sub (ws' := [(ma 0, .inr (5, [.int 0, .ref (ma 1), .int 0, .ref (ma 2), .int 150, .int 3, .int 0, .int ki, .ref (ma 3), .ref (ma 4), .ref (ma 5), .ref (ma 6), .int kc, .int 0, .ref (ma 7), .int 0, .ref (ma 8), .int (-1), .ref (ma 9), .ref (ma 10), .ref (ma 11), .ref (ma 12), .ref (ma 13), .int 0, .int 0])), (ma 9, .inl (cI, 151, .inl f_738)), (ma 10, .inl (cI, 151, .inl f_739)), (ma 11, .inl (cI, 151, .inl f_740)), (ma 12, .inl (cI, 151, .inl f_741)), (ma 13, .inl (cI, 151, .inl f_742))]) [0, 1, 2, 3, 4, 5] rfl
    have hD9 := hD.sub (ws' := [(ma 0, .inr (5, [.int 0, .ref (ma 1), .int 0, .ref (ma 2), .int 150, .int 3, .int 0, .int ki, .ref (ma 3), .ref (ma 4), .ref (ma 5), .ref (ma 6), .int kc, .int 0, .ref (ma 7), .int 0, .ref (ma 8), .int (-1), .ref (ma 9), .ref (ma 10), .ref (ma 11), .ref (ma 12), .ref (ma 13), .int 0, .int 0])), (ma 9, .inl (cI, 151, .inl f_738)), (ma 10, .inl (cI, 151, .inl f_739)), (ma 11, .inl (cI, 151, .inl f_740)), (ma 12, .inl (cI, 151, .inl f_741)), (ma 13, .inl (cI, 151, .inl f_742))]) [0, 1, 2, 3, 4, 5] (by decide) rfl
    exact W.vret hx hb hr (fun t ht hW => ⟨⟨(f_738, f_739, f_740, f_741, f_742), rfl, Or.inr (by rw [ef_741, nI_clamp (by omega)]), ⟨by rw [ht]; exact hP9, hD9⟩⟩, hS.F ht⟩) hS.2.2 dX5_offer_107
  · skip
    refine lv_iload hx hb dX5_offer_35 (lv_at hl 1 rfl) ?_
    refine lv_aload_n hx hb dX5_offer_37 rfl (lv_at hl 2 rfl) ?_
    refine va_get (D := (dC, dI)) (ci := 5) (v := .ref (ma 9)) (C := RX5) (T := TX5) (N := 25) hx hb hts (by decide +kernel) hown hK hP 0 rfl rfl 18 (by decide) (hts (.fieldLink RX5 41 "DeltaCodecModel" "costs" "[I") (by decide +kernel)) (fun _ h9 => h9) rfl dX5_offer_38 ?_
    refine lv_iload_n hx hb dX5_offer_41 rfl (lv_at hl 3 rfl) ?_
    refine va_iald hx hb hK hP 1 0 rfl rfl (vp_in_nI (by omega) (by omega)) dX5_offer_42 ?_
    refine lv_topi (fun x_743 ex_743 => ?_)
    refine lv_icmp_gt (tgt := 68) hx hb dX5_offer_43 (by decide) (fun c43 => ?_) (fun c43 => ?_)
    · skip
      have hP9 := hP.sub (ws' := [(ma 0, .inr (5, [.int 0, .ref (ma 1), .int 0, .ref (ma 2), .int 150, .int 3, .int 0, .int ki, .ref (ma 3), .ref (ma 4), .ref (ma 5), .ref (ma 6), .int kc, .int 0, .ref (ma 7), .int 0, .ref (ma 8), .int (-1), .ref (ma 9), .ref (ma 10), .ref (ma 11), .ref (ma 12), .ref (ma 13), .int 0, .int 0])), (ma 9, .inl (cI, 151, .inl f9)), (ma 10, .inl (cI, 151, .inl f10)), (ma 11, .inl (cI, 151, .inl f11)), (ma 12, .inl (cI, 151, .inl f12)), (ma 13, .inl (cI, 151, .inl f13))]) [0, 1, 2, 3, 4, 5] rfl
      have hD9 := hD.sub (ws' := [(ma 0, .inr (5, [.int 0, .ref (ma 1), .int 0, .ref (ma 2), .int 150, .int 3, .int 0, .int ki, .ref (ma 3), .ref (ma 4), .ref (ma 5), .ref (ma 6), .int kc, .int 0, .ref (ma 7), .int 0, .ref (ma 8), .int (-1), .ref (ma 9), .ref (ma 10), .ref (ma 11), .ref (ma 12), .ref (ma 13), .int 0, .int 0])), (ma 9, .inl (cI, 151, .inl f9)), (ma 10, .inl (cI, 151, .inl f10)), (ma 11, .inl (cI, 151, .inl f11)), (ma 12, .inl (cI, 151, .inl f12)), (ma 13, .inl (cI, 151, .inl f13))]) [0, 1, 2, 3, 4, 5] (by decide) rfl
      exact W.vret hx hb hr (fun t ht hW => ⟨⟨(f9, f10, f11, f12, f13), rfl, Or.inl ⟨rfl, fun h => c32 (exa9.trans ((congrArg f9 (nI_clamp (by omega))).trans h))⟩, ⟨by rw [ht]; exact hP9, hD9⟩⟩, hS.F ht⟩) hS.2.2 dX5_offer_68
    · skip
      refine lv_iload hx hb dX5_offer_46 (lv_at hl 1 rfl) ?_
      refine lv_aload_n hx hb dX5_offer_48 rfl (lv_at hl 2 rfl) ?_
      refine va_get (D := (dC, dI)) (ci := 5) (v := .ref (ma 9)) (C := RX5) (T := TX5) (N := 25) hx hb hts (by decide +kernel) hown hK hP 0 rfl rfl 18 (by decide) (hts (.fieldLink RX5 41 "DeltaCodecModel" "costs" "[I") (by decide +kernel)) (fun _ h9 => h9) rfl dX5_offer_49 ?_
      refine lv_iload_n hx hb dX5_offer_52 rfl (lv_at hl 3 rfl) ?_
      refine va_iald hx hb hK hP 1 0 rfl rfl (vp_in_nI (by omega) (by omega)) dX5_offer_53 ?_
      refine lv_topi (fun x_744 ex_744 => ?_)
      refine lv_icmp_ne (tgt := 69) hx hb dX5_offer_54 (by decide) (fun c54 => ?_) (fun c54 => ?_)
      · skip
        refine lv_aload_n hx hb dX5_offer_69 rfl (lv_at hl 2 rfl) ?_
        refine va_get (D := (dC, dI)) (ci := 5) (v := .ref (ma 9)) (C := RX5) (T := TX5) (N := 25) hx hb hts (by decide +kernel) hown hK hP 0 rfl rfl 18 (by decide) (hts (.fieldLink RX5 41 "DeltaCodecModel" "costs" "[I") (by decide +kernel)) (fun _ h9 => h9) rfl dX5_offer_70 ?_
        refine lv_iload_n hx hb dX5_offer_73 rfl (lv_at hl 3 rfl) ?_
        refine lv_iload hx hb dX5_offer_74 (lv_at hl 1 rfl) ?_
        refine va_iast hx hb hK hP hD hS 1 0 rfl rfl (vp_in_nI (by omega) (by omega)) dX5_offer_76 (fun H locs hP hD hS => ?_)
        obtain ⟨f_745, ef_745⟩ : ∃ g, g = upd f9 (nI ka : Int32).toNatClampNeg x_734 := ⟨_, rfl⟩
        rw [← ef_745] at hP hD
        have hP : va_P (dC, dI) vwCl [(ma 0, .inr (5, [.int 0, .ref (ma 1), .int 0, .ref (ma 2), .int 150, .int 3, .int 0, .int ki, .ref (ma 3), .ref (ma 4), .ref (ma 5), .ref (ma 6), .int kc, .int 0, .ref (ma 7), .int 0, .ref (ma 8), .int (-1), .ref (ma 9), .ref (ma 10), .ref (ma 11), .ref (ma 12), .ref (ma 13), .int 0, .int 0])), (ma 9, .inl (cI, 151, .inl f_745)), (ma 10, .inl (cI, 151, .inl f10)), (ma 11, .inl (cI, 151, .inl f11)), (ma 12, .inl (cI, 151, .inl f12)), (ma 13, .inl (cI, 151, .inl f13))] H := hP
        have hD : va_D A [(ma 0, .inr (5, [.int 0, .ref (ma 1), .int 0, .ref (ma 2), .int 150, .int 3, .int 0, .int ki, .ref (ma 3), .ref (ma 4), .ref (ma 5), .ref (ma 6), .int kc, .int 0, .ref (ma 7), .int 0, .ref (ma 8), .int (-1), .ref (ma 9), .ref (ma 10), .ref (ma 11), .ref (ma 12), .ref (ma 13), .int 0, .int 0])), (ma 9, .inl (cI, 151, .inl f_745)), (ma 10, .inl (cI, 151, .inl f10)), (ma 11, .inl (cI, 151, .inl f11)), (ma 12, .inl (cI, 151, .inl f12)), (ma 13, .inl (cI, 151, .inl f13))] := hD
        refine lv_aload_n hx hb dX5_offer_77 rfl (lv_at hl 2 rfl) ?_
        refine va_get (D := (dC, dI)) (ci := 5) (v := .ref (ma 10)) (C := RX5) (T := TX5) (N := 25) hx hb hts (by decide +kernel) hown hK hP 0 rfl rfl 19 (by decide) (hts (.fieldLink RX5 44 "DeltaCodecModel" "counts" "[I") (by decide +kernel)) (fun _ h9 => h9) rfl dX5_offer_78 ?_
        refine lv_iload_n hx hb dX5_offer_81 rfl (lv_at hl 3 rfl) ?_
        refine lv_iload hx hb dX5_offer_82 (lv_at hl 0 rfl) ?_
        refine va_iast hx hb hK hP hD hS 2 0 rfl rfl (vp_in_nI (by omega) (by omega)) dX5_offer_84 (fun H locs hP hD hS => ?_)
        obtain ⟨f_746, ef_746⟩ : ∃ g, g = upd f10 (nI ka : Int32).toNatClampNeg x_737 := ⟨_, rfl⟩
        rw [← ef_746] at hP hD
        have hP : va_P (dC, dI) vwCl [(ma 0, .inr (5, [.int 0, .ref (ma 1), .int 0, .ref (ma 2), .int 150, .int 3, .int 0, .int ki, .ref (ma 3), .ref (ma 4), .ref (ma 5), .ref (ma 6), .int kc, .int 0, .ref (ma 7), .int 0, .ref (ma 8), .int (-1), .ref (ma 9), .ref (ma 10), .ref (ma 11), .ref (ma 12), .ref (ma 13), .int 0, .int 0])), (ma 9, .inl (cI, 151, .inl f_745)), (ma 10, .inl (cI, 151, .inl f_746)), (ma 11, .inl (cI, 151, .inl f11)), (ma 12, .inl (cI, 151, .inl f12)), (ma 13, .inl (cI, 151, .inl f13))] H := hP
        have hD : va_D A [(ma 0, .inr (5, [.int 0, .ref (ma 1), .int 0, .ref (ma 2), .int 150, .int 3, .int 0, .int ki, .ref (ma 3), .ref (ma 4), .ref (ma 5), .ref (ma 6), .int kc, .int 0, .ref (ma 7), .int 0, .ref (ma 8), .int (-1), .ref (ma 9), .ref (ma 10), .ref (ma 11), .ref (ma 12), .ref (ma 13), .int 0, .int 0])), (ma 9, .inl (cI, 151, .inl f_745)), (ma 10, .inl (cI, 151, .inl f_746)), (ma 11, .inl (cI, 151, .inl f11)), (ma 12, .inl (cI, 151, .inl f12)), (ma 13, .inl (cI, 151, .inl f13))] := hD
        refine lv_aload_n hx hb dX5_offer_85 rfl (lv_at hl 2 rfl) ?_
        refine va_get (D := (dC, dI)) (ci := 5) (v := .ref (ma 11)) (C := RX5) (T := TX5) (N := 25) hx hb hts (by decide +kernel) hown hK hP 0 rfl rfl 20 (by decide) (hts (.fieldLink RX5 47 "DeltaCodecModel" "bestKinds" "[I") (by decide +kernel)) (fun _ h9 => h9) rfl dX5_offer_86 ?_
        refine lv_iload_n hx hb dX5_offer_89 rfl (lv_at hl 3 rfl) ?_
        refine lv_iload_n hx hb dX5_offer_90 rfl (lv_at hl 4 rfl) ?_
        refine va_iast hx hb hK hP hD hS 3 0 rfl rfl (vp_in_nI (by omega) (by omega)) dX5_offer_91 (fun H locs hP hD hS => ?_)
        obtain ⟨f_747, ef_747⟩ : ∃ g, g = upd f11 (nI ka : Int32).toNatClampNeg p1 := ⟨_, rfl⟩
        rw [← ef_747] at hP hD
        have hP : va_P (dC, dI) vwCl [(ma 0, .inr (5, [.int 0, .ref (ma 1), .int 0, .ref (ma 2), .int 150, .int 3, .int 0, .int ki, .ref (ma 3), .ref (ma 4), .ref (ma 5), .ref (ma 6), .int kc, .int 0, .ref (ma 7), .int 0, .ref (ma 8), .int (-1), .ref (ma 9), .ref (ma 10), .ref (ma 11), .ref (ma 12), .ref (ma 13), .int 0, .int 0])), (ma 9, .inl (cI, 151, .inl f_745)), (ma 10, .inl (cI, 151, .inl f_746)), (ma 11, .inl (cI, 151, .inl f_747)), (ma 12, .inl (cI, 151, .inl f12)), (ma 13, .inl (cI, 151, .inl f13))] H := hP
        have hD : va_D A [(ma 0, .inr (5, [.int 0, .ref (ma 1), .int 0, .ref (ma 2), .int 150, .int 3, .int 0, .int ki, .ref (ma 3), .ref (ma 4), .ref (ma 5), .ref (ma 6), .int kc, .int 0, .ref (ma 7), .int 0, .ref (ma 8), .int (-1), .ref (ma 9), .ref (ma 10), .ref (ma 11), .ref (ma 12), .ref (ma 13), .int 0, .int 0])), (ma 9, .inl (cI, 151, .inl f_745)), (ma 10, .inl (cI, 151, .inl f_746)), (ma 11, .inl (cI, 151, .inl f_747)), (ma 12, .inl (cI, 151, .inl f12)), (ma 13, .inl (cI, 151, .inl f13))] := hD
        refine lv_aload_n hx hb dX5_offer_92 rfl (lv_at hl 2 rfl) ?_
        refine va_get (D := (dC, dI)) (ci := 5) (v := .ref (ma 12)) (C := RX5) (T := TX5) (N := 25) hx hb hts (by decide +kernel) hown hK hP 0 rfl rfl 21 (by decide) (hts (.fieldLink RX5 50 "DeltaCodecModel" "bestLengths" "[I") (by decide +kernel)) (fun _ h9 => h9) rfl dX5_offer_93 ?_
        refine lv_iload_n hx hb dX5_offer_96 rfl (lv_at hl 3 rfl) ?_
        refine lv_iload_n hx hb dX5_offer_97 rfl (lv_at hl 5 rfl) ?_
        refine va_iast hx hb hK hP hD hS 4 0 rfl rfl (vp_in_nI (by omega) (by omega)) dX5_offer_98 (fun H locs hP hD hS => ?_)
        obtain ⟨f_748, ef_748⟩ : ∃ g, g = upd f12 (nI ka : Int32).toNatClampNeg (nI kb) := ⟨_, rfl⟩
        rw [← ef_748] at hP hD
        have hP : va_P (dC, dI) vwCl [(ma 0, .inr (5, [.int 0, .ref (ma 1), .int 0, .ref (ma 2), .int 150, .int 3, .int 0, .int ki, .ref (ma 3), .ref (ma 4), .ref (ma 5), .ref (ma 6), .int kc, .int 0, .ref (ma 7), .int 0, .ref (ma 8), .int (-1), .ref (ma 9), .ref (ma 10), .ref (ma 11), .ref (ma 12), .ref (ma 13), .int 0, .int 0])), (ma 9, .inl (cI, 151, .inl f_745)), (ma 10, .inl (cI, 151, .inl f_746)), (ma 11, .inl (cI, 151, .inl f_747)), (ma 12, .inl (cI, 151, .inl f_748)), (ma 13, .inl (cI, 151, .inl f13))] H := hP
        have hD : va_D A [(ma 0, .inr (5, [.int 0, .ref (ma 1), .int 0, .ref (ma 2), .int 150, .int 3, .int 0, .int ki, .ref (ma 3), .ref (ma 4), .ref (ma 5), .ref (ma 6), .int kc, .int 0, .ref (ma 7), .int 0, .ref (ma 8), .int (-1), .ref (ma 9), .ref (ma 10), .ref (ma 11), .ref (ma 12), .ref (ma 13), .int 0, .int 0])), (ma 9, .inl (cI, 151, .inl f_745)), (ma 10, .inl (cI, 151, .inl f_746)), (ma 11, .inl (cI, 151, .inl f_747)), (ma 12, .inl (cI, 151, .inl f_748)), (ma 13, .inl (cI, 151, .inl f13))] := hD
        refine lv_aload_n hx hb dX5_offer_99 rfl (lv_at hl 2 rfl) ?_
        refine va_get (D := (dC, dI)) (ci := 5) (v := .ref (ma 13)) (C := RX5) (T := TX5) (N := 25) hx hb hts (by decide +kernel) hown hK hP 0 rfl rfl 22 (by decide) (hts (.fieldLink RX5 53 "DeltaCodecModel" "bestOperands" "[I") (by decide +kernel)) (fun _ h9 => h9) rfl dX5_offer_100 ?_
        refine lv_iload_n hx hb dX5_offer_103 rfl (lv_at hl 3 rfl) ?_
        refine lv_iload hx hb dX5_offer_104 (lv_at hl 6 rfl) ?_
        refine va_iast hx hb hK hP hD hS 5 0 rfl rfl (vp_in_nI (by omega) (by omega)) dX5_offer_106 (fun H locs hP hD hS => ?_)
        obtain ⟨f_749, ef_749⟩ : ∃ g, g = upd f13 (nI ka : Int32).toNatClampNeg p3 := ⟨_, rfl⟩
        rw [← ef_749] at hP hD
        have hP : va_P (dC, dI) vwCl [(ma 0, .inr (5, [.int 0, .ref (ma 1), .int 0, .ref (ma 2), .int 150, .int 3, .int 0, .int ki, .ref (ma 3), .ref (ma 4), .ref (ma 5), .ref (ma 6), .int kc, .int 0, .ref (ma 7), .int 0, .ref (ma 8), .int (-1), .ref (ma 9), .ref (ma 10), .ref (ma 11), .ref (ma 12), .ref (ma 13), .int 0, .int 0])), (ma 9, .inl (cI, 151, .inl f_745)), (ma 10, .inl (cI, 151, .inl f_746)), (ma 11, .inl (cI, 151, .inl f_747)), (ma 12, .inl (cI, 151, .inl f_748)), (ma 13, .inl (cI, 151, .inl f_749))] H := hP
        have hD : va_D A [(ma 0, .inr (5, [.int 0, .ref (ma 1), .int 0, .ref (ma 2), .int 150, .int 3, .int 0, .int ki, .ref (ma 3), .ref (ma 4), .ref (ma 5), .ref (ma 6), .int kc, .int 0, .ref (ma 7), .int 0, .ref (ma 8), .int (-1), .ref (ma 9), .ref (ma 10), .ref (ma 11), .ref (ma 12), .ref (ma 13), .int 0, .int 0])), (ma 9, .inl (cI, 151, .inl f_745)), (ma 10, .inl (cI, 151, .inl f_746)), (ma 11, .inl (cI, 151, .inl f_747)), (ma 12, .inl (cI, 151, .inl f_748)), (ma 13, .inl (cI, 151, .inl f_749))] := hD
        have hP9 := hP.sub (ws' := [(ma 0, .inr (5, [.int 0, .ref (ma 1), .int 0, .ref (ma 2), .int 150, .int 3, .int 0, .int ki, .ref (ma 3), .ref (ma 4), .ref (ma 5), .ref (ma 6), .int kc, .int 0, .ref (ma 7), .int 0, .ref (ma 8), .int (-1), .ref (ma 9), .ref (ma 10), .ref (ma 11), .ref (ma 12), .ref (ma 13), .int 0, .int 0])), (ma 9, .inl (cI, 151, .inl f_745)), (ma 10, .inl (cI, 151, .inl f_746)), (ma 11, .inl (cI, 151, .inl f_747)), (ma 12, .inl (cI, 151, .inl f_748)), (ma 13, .inl (cI, 151, .inl f_749))]) [0, 1, 2, 3, 4, 5] rfl
        have hD9 := hD.sub (ws' := [(ma 0, .inr (5, [.int 0, .ref (ma 1), .int 0, .ref (ma 2), .int 150, .int 3, .int 0, .int ki, .ref (ma 3), .ref (ma 4), .ref (ma 5), .ref (ma 6), .int kc, .int 0, .ref (ma 7), .int 0, .ref (ma 8), .int (-1), .ref (ma 9), .ref (ma 10), .ref (ma 11), .ref (ma 12), .ref (ma 13), .int 0, .int 0])), (ma 9, .inl (cI, 151, .inl f_745)), (ma 10, .inl (cI, 151, .inl f_746)), (ma 11, .inl (cI, 151, .inl f_747)), (ma 12, .inl (cI, 151, .inl f_748)), (ma 13, .inl (cI, 151, .inl f_749))]) [0, 1, 2, 3, 4, 5] (by decide) rfl
        exact W.vret hx hb hr (fun t ht hW => ⟨⟨(f_745, f_746, f_747, f_748, f_749), rfl, Or.inr (by rw [ef_748, nI_clamp (by omega)]), ⟨by rw [ht]; exact hP9, hD9⟩⟩, hS.F ht⟩) hS.2.2 dX5_offer_107
      · skip
        refine lv_iload hx hb dX5_offer_57 (lv_at hl 0 rfl) ?_
        refine lv_aload_n hx hb dX5_offer_59 rfl (lv_at hl 2 rfl) ?_
        refine va_get (D := (dC, dI)) (ci := 5) (v := .ref (ma 10)) (C := RX5) (T := TX5) (N := 25) hx hb hts (by decide +kernel) hown hK hP 0 rfl rfl 19 (by decide) (hts (.fieldLink RX5 44 "DeltaCodecModel" "counts" "[I") (by decide +kernel)) (fun _ h9 => h9) rfl dX5_offer_60 ?_
        refine lv_iload_n hx hb dX5_offer_63 rfl (lv_at hl 3 rfl) ?_
        refine va_iald hx hb hK hP 2 0 rfl rfl (vp_in_nI (by omega) (by omega)) dX5_offer_64 ?_
        refine lv_topi (fun x_750 ex_750 => ?_)
        refine lv_icmp_lt (tgt := 69) hx hb dX5_offer_65 (by decide) (fun c65 => ?_) (fun c65 => ?_)
        · skip
          refine lv_aload_n hx hb dX5_offer_69 rfl (lv_at hl 2 rfl) ?_
          refine va_get (D := (dC, dI)) (ci := 5) (v := .ref (ma 9)) (C := RX5) (T := TX5) (N := 25) hx hb hts (by decide +kernel) hown hK hP 0 rfl rfl 18 (by decide) (hts (.fieldLink RX5 41 "DeltaCodecModel" "costs" "[I") (by decide +kernel)) (fun _ h9 => h9) rfl dX5_offer_70 ?_
          refine lv_iload_n hx hb dX5_offer_73 rfl (lv_at hl 3 rfl) ?_
          refine lv_iload hx hb dX5_offer_74 (lv_at hl 1 rfl) ?_
          refine va_iast hx hb hK hP hD hS 1 0 rfl rfl (vp_in_nI (by omega) (by omega)) dX5_offer_76 (fun H locs hP hD hS => ?_)
          obtain ⟨f_751, ef_751⟩ : ∃ g, g = upd f9 (nI ka : Int32).toNatClampNeg x_734 := ⟨_, rfl⟩
          rw [← ef_751] at hP hD
          have hP : va_P (dC, dI) vwCl [(ma 0, .inr (5, [.int 0, .ref (ma 1), .int 0, .ref (ma 2), .int 150, .int 3, .int 0, .int ki, .ref (ma 3), .ref (ma 4), .ref (ma 5), .ref (ma 6), .int kc, .int 0, .ref (ma 7), .int 0, .ref (ma 8), .int (-1), .ref (ma 9), .ref (ma 10), .ref (ma 11), .ref (ma 12), .ref (ma 13), .int 0, .int 0])), (ma 9, .inl (cI, 151, .inl f_751)), (ma 10, .inl (cI, 151, .inl f10)), (ma 11, .inl (cI, 151, .inl f11)), (ma 12, .inl (cI, 151, .inl f12)), (ma 13, .inl (cI, 151, .inl f13))] H := hP
          have hD : va_D A [(ma 0, .inr (5, [.int 0, .ref (ma 1), .int 0, .ref (ma 2), .int 150, .int 3, .int 0, .int ki, .ref (ma 3), .ref (ma 4), .ref (ma 5), .ref (ma 6), .int kc, .int 0, .ref (ma 7), .int 0, .ref (ma 8), .int (-1), .ref (ma 9), .ref (ma 10), .ref (ma 11), .ref (ma 12), .ref (ma 13), .int 0, .int 0])), (ma 9, .inl (cI, 151, .inl f_751)), (ma 10, .inl (cI, 151, .inl f10)), (ma 11, .inl (cI, 151, .inl f11)), (ma 12, .inl (cI, 151, .inl f12)), (ma 13, .inl (cI, 151, .inl f13))] := hD
          refine lv_aload_n hx hb dX5_offer_77 rfl (lv_at hl 2 rfl) ?_
          refine va_get (D := (dC, dI)) (ci := 5) (v := .ref (ma 10)) (C := RX5) (T := TX5) (N := 25) hx hb hts (by decide +kernel) hown hK hP 0 rfl rfl 19 (by decide) (hts (.fieldLink RX5 44 "DeltaCodecModel" "counts" "[I") (by decide +kernel)) (fun _ h9 => h9) rfl dX5_offer_78 ?_
          refine lv_iload_n hx hb dX5_offer_81 rfl (lv_at hl 3 rfl) ?_
          refine lv_iload hx hb dX5_offer_82 (lv_at hl 0 rfl) ?_
          refine va_iast hx hb hK hP hD hS 2 0 rfl rfl (vp_in_nI (by omega) (by omega)) dX5_offer_84 (fun H locs hP hD hS => ?_)
          obtain ⟨f_752, ef_752⟩ : ∃ g, g = upd f10 (nI ka : Int32).toNatClampNeg x_737 := ⟨_, rfl⟩
          rw [← ef_752] at hP hD
          have hP : va_P (dC, dI) vwCl [(ma 0, .inr (5, [.int 0, .ref (ma 1), .int 0, .ref (ma 2), .int 150, .int 3, .int 0, .int ki, .ref (ma 3), .ref (ma 4), .ref (ma 5), .ref (ma 6), .int kc, .int 0, .ref (ma 7), .int 0, .ref (ma 8), .int (-1), .ref (ma 9), .ref (ma 10), .ref (ma 11), .ref (ma 12), .ref (ma 13), .int 0, .int 0])), (ma 9, .inl (cI, 151, .inl f_751)), (ma 10, .inl (cI, 151, .inl f_752)), (ma 11, .inl (cI, 151, .inl f11)), (ma 12, .inl (cI, 151, .inl f12)), (ma 13, .inl (cI, 151, .inl f13))] H := hP
          have hD : va_D A [(ma 0, .inr (5, [.int 0, .ref (ma 1), .int 0, .ref (ma 2), .int 150, .int 3, .int 0, .int ki, .ref (ma 3), .ref (ma 4), .ref (ma 5), .ref (ma 6), .int kc, .int 0, .ref (ma 7), .int 0, .ref (ma 8), .int (-1), .ref (ma 9), .ref (ma 10), .ref (ma 11), .ref (ma 12), .ref (ma 13), .int 0, .int 0])), (ma 9, .inl (cI, 151, .inl f_751)), (ma 10, .inl (cI, 151, .inl f_752)), (ma 11, .inl (cI, 151, .inl f11)), (ma 12, .inl (cI, 151, .inl f12)), (ma 13, .inl (cI, 151, .inl f13))] := hD
          refine lv_aload_n hx hb dX5_offer_85 rfl (lv_at hl 2 rfl) ?_
          refine va_get (D := (dC, dI)) (ci := 5) (v := .ref (ma 11)) (C := RX5) (T := TX5) (N := 25) hx hb hts (by decide +kernel) hown hK hP 0 rfl rfl 20 (by decide) (hts (.fieldLink RX5 47 "DeltaCodecModel" "bestKinds" "[I") (by decide +kernel)) (fun _ h9 => h9) rfl dX5_offer_86 ?_
          refine lv_iload_n hx hb dX5_offer_89 rfl (lv_at hl 3 rfl) ?_
          refine lv_iload_n hx hb dX5_offer_90 rfl (lv_at hl 4 rfl) ?_
          refine va_iast hx hb hK hP hD hS 3 0 rfl rfl (vp_in_nI (by omega) (by omega)) dX5_offer_91 (fun H locs hP hD hS => ?_)
          obtain ⟨f_753, ef_753⟩ : ∃ g, g = upd f11 (nI ka : Int32).toNatClampNeg p1 := ⟨_, rfl⟩
          rw [← ef_753] at hP hD
          have hP : va_P (dC, dI) vwCl [(ma 0, .inr (5, [.int 0, .ref (ma 1), .int 0, .ref (ma 2), .int 150, .int 3, .int 0, .int ki, .ref (ma 3), .ref (ma 4), .ref (ma 5), .ref (ma 6), .int kc, .int 0, .ref (ma 7), .int 0, .ref (ma 8), .int (-1), .ref (ma 9), .ref (ma 10), .ref (ma 11), .ref (ma 12), .ref (ma 13), .int 0, .int 0])), (ma 9, .inl (cI, 151, .inl f_751)), (ma 10, .inl (cI, 151, .inl f_752)), (ma 11, .inl (cI, 151, .inl f_753)), (ma 12, .inl (cI, 151, .inl f12)), (ma 13, .inl (cI, 151, .inl f13))] H := hP
          have hD : va_D A [(ma 0, .inr (5, [.int 0, .ref (ma 1), .int 0, .ref (ma 2), .int 150, .int 3, .int 0, .int ki, .ref (ma 3), .ref (ma 4), .ref (ma 5), .ref (ma 6), .int kc, .int 0, .ref (ma 7), .int 0, .ref (ma 8), .int (-1), .ref (ma 9), .ref (ma 10), .ref (ma 11), .ref (ma 12), .ref (ma 13), .int 0, .int 0])), (ma 9, .inl (cI, 151, .inl f_751)), (ma 10, .inl (cI, 151, .inl f_752)), (ma 11, .inl (cI, 151, .inl f_753)), (ma 12, .inl (cI, 151, .inl f12)), (ma 13, .inl (cI, 151, .inl f13))] := hD
          refine lv_aload_n hx hb dX5_offer_92 rfl (lv_at hl 2 rfl) ?_
          refine va_get (D := (dC, dI)) (ci := 5) (v := .ref (ma 12)) (C := RX5) (T := TX5) (N := 25) hx hb hts (by decide +kernel) hown hK hP 0 rfl rfl 21 (by decide) (hts (.fieldLink RX5 50 "DeltaCodecModel" "bestLengths" "[I") (by decide +kernel)) (fun _ h9 => h9) rfl dX5_offer_93 ?_
          refine lv_iload_n hx hb dX5_offer_96 rfl (lv_at hl 3 rfl) ?_
          refine lv_iload_n hx hb dX5_offer_97 rfl (lv_at hl 5 rfl) ?_
          refine va_iast hx hb hK hP hD hS 4 0 rfl rfl (vp_in_nI (by omega) (by omega)) dX5_offer_98 (fun H locs hP hD hS => ?_)
          obtain ⟨f_754, ef_754⟩ : ∃ g, g = upd f12 (nI ka : Int32).toNatClampNeg (nI kb) := ⟨_, rfl⟩
          rw [← ef_754] at hP hD
          have hP : va_P (dC, dI) vwCl [(ma 0, .inr (5, [.int 0, .ref (ma 1), .int 0, .ref (ma 2), .int 150, .int 3, .int 0, .int ki, .ref (ma 3), .ref (ma 4), .ref (ma 5), .ref (ma 6), .int kc, .int 0, .ref (ma 7), .int 0, .ref (ma 8), .int (-1), .ref (ma 9), .ref (ma 10), .ref (ma 11), .ref (ma 12), .ref (ma 13), .int 0, .int 0])), (ma 9, .inl (cI, 151, .inl f_751)), (ma 10, .inl (cI, 151, .inl f_752)), (ma 11, .inl (cI, 151, .inl f_753)), (ma 12, .inl (cI, 151, .inl f_754)), (ma 13, .inl (cI, 151, .inl f13))] H := hP
          have hD : va_D A [(ma 0, .inr (5, [.int 0, .ref (ma 1), .int 0, .ref (ma 2), .int 150, .int 3, .int 0, .int ki, .ref (ma 3), .ref (ma 4), .ref (ma 5), .ref (ma 6), .int kc, .int 0, .ref (ma 7), .int 0, .ref (ma 8), .int (-1), .ref (ma 9), .ref (ma 10), .ref (ma 11), .ref (ma 12), .ref (ma 13), .int 0, .int 0])), (ma 9, .inl (cI, 151, .inl f_751)), (ma 10, .inl (cI, 151, .inl f_752)), (ma 11, .inl (cI, 151, .inl f_753)), (ma 12, .inl (cI, 151, .inl f_754)), (ma 13, .inl (cI, 151, .inl f13))] := hD
          refine lv_aload_n hx hb dX5_offer_99 rfl (lv_at hl 2 rfl) ?_
          refine va_get (D := (dC, dI)) (ci := 5) (v := .ref (ma 13)) (C := RX5) (T := TX5) (N := 25) hx hb hts (by decide +kernel) hown hK hP 0 rfl rfl 22 (by decide) (hts (.fieldLink RX5 53 "DeltaCodecModel" "bestOperands" "[I") (by decide +kernel)) (fun _ h9 => h9) rfl dX5_offer_100 ?_
          refine lv_iload_n hx hb dX5_offer_103 rfl (lv_at hl 3 rfl) ?_
          refine lv_iload hx hb dX5_offer_104 (lv_at hl 6 rfl) ?_
          refine va_iast hx hb hK hP hD hS 5 0 rfl rfl (vp_in_nI (by omega) (by omega)) dX5_offer_106 (fun H locs hP hD hS => ?_)
          obtain ⟨f_755, ef_755⟩ : ∃ g, g = upd f13 (nI ka : Int32).toNatClampNeg p3 := ⟨_, rfl⟩
          rw [← ef_755] at hP hD
          have hP : va_P (dC, dI) vwCl [(ma 0, .inr (5, [.int 0, .ref (ma 1), .int 0, .ref (ma 2), .int 150, .int 3, .int 0, .int ki, .ref (ma 3), .ref (ma 4), .ref (ma 5), .ref (ma 6), .int kc, .int 0, .ref (ma 7), .int 0, .ref (ma 8), .int (-1), .ref (ma 9), .ref (ma 10), .ref (ma 11), .ref (ma 12), .ref (ma 13), .int 0, .int 0])), (ma 9, .inl (cI, 151, .inl f_751)), (ma 10, .inl (cI, 151, .inl f_752)), (ma 11, .inl (cI, 151, .inl f_753)), (ma 12, .inl (cI, 151, .inl f_754)), (ma 13, .inl (cI, 151, .inl f_755))] H := hP
          have hD : va_D A [(ma 0, .inr (5, [.int 0, .ref (ma 1), .int 0, .ref (ma 2), .int 150, .int 3, .int 0, .int ki, .ref (ma 3), .ref (ma 4), .ref (ma 5), .ref (ma 6), .int kc, .int 0, .ref (ma 7), .int 0, .ref (ma 8), .int (-1), .ref (ma 9), .ref (ma 10), .ref (ma 11), .ref (ma 12), .ref (ma 13), .int 0, .int 0])), (ma 9, .inl (cI, 151, .inl f_751)), (ma 10, .inl (cI, 151, .inl f_752)), (ma 11, .inl (cI, 151, .inl f_753)), (ma 12, .inl (cI, 151, .inl f_754)), (ma 13, .inl (cI, 151, .inl f_755))] := hD
          have hP9 := hP.sub (ws' := [(ma 0, .inr (5, [.int 0, .ref (ma 1), .int 0, .ref (ma 2), .int 150, .int 3, .int 0, .int ki, .ref (ma 3), .ref (ma 4), .ref (ma 5), .ref (ma 6), .int kc, .int 0, .ref (ma 7), .int 0, .ref (ma 8), .int (-1), .ref (ma 9), .ref (ma 10), .ref (ma 11), .ref (ma 12), .ref (ma 13), .int 0, .int 0])), (ma 9, .inl (cI, 151, .inl f_751)), (ma 10, .inl (cI, 151, .inl f_752)), (ma 11, .inl (cI, 151, .inl f_753)), (ma 12, .inl (cI, 151, .inl f_754)), (ma 13, .inl (cI, 151, .inl f_755))]) [0, 1, 2, 3, 4, 5] rfl
          have hD9 := hD.sub (ws' := [(ma 0, .inr (5, [.int 0, .ref (ma 1), .int 0, .ref (ma 2), .int 150, .int 3, .int 0, .int ki, .ref (ma 3), .ref (ma 4), .ref (ma 5), .ref (ma 6), .int kc, .int 0, .ref (ma 7), .int 0, .ref (ma 8), .int (-1), .ref (ma 9), .ref (ma 10), .ref (ma 11), .ref (ma 12), .ref (ma 13), .int 0, .int 0])), (ma 9, .inl (cI, 151, .inl f_751)), (ma 10, .inl (cI, 151, .inl f_752)), (ma 11, .inl (cI, 151, .inl f_753)), (ma 12, .inl (cI, 151, .inl f_754)), (ma 13, .inl (cI, 151, .inl f_755))]) [0, 1, 2, 3, 4, 5] (by decide) rfl
          exact W.vret hx hb hr (fun t ht hW => ⟨⟨(f_751, f_752, f_753, f_754, f_755), rfl, Or.inr (by rw [ef_754, nI_clamp (by omega)]), ⟨by rw [ht]; exact hP9, hD9⟩⟩, hS.F ht⟩) hS.2.2 dX5_offer_107
        · skip
          have hP9 := hP.sub (ws' := [(ma 0, .inr (5, [.int 0, .ref (ma 1), .int 0, .ref (ma 2), .int 150, .int 3, .int 0, .int ki, .ref (ma 3), .ref (ma 4), .ref (ma 5), .ref (ma 6), .int kc, .int 0, .ref (ma 7), .int 0, .ref (ma 8), .int (-1), .ref (ma 9), .ref (ma 10), .ref (ma 11), .ref (ma 12), .ref (ma 13), .int 0, .int 0])), (ma 9, .inl (cI, 151, .inl f9)), (ma 10, .inl (cI, 151, .inl f10)), (ma 11, .inl (cI, 151, .inl f11)), (ma 12, .inl (cI, 151, .inl f12)), (ma 13, .inl (cI, 151, .inl f13))]) [0, 1, 2, 3, 4, 5] rfl
          have hD9 := hD.sub (ws' := [(ma 0, .inr (5, [.int 0, .ref (ma 1), .int 0, .ref (ma 2), .int 150, .int 3, .int 0, .int ki, .ref (ma 3), .ref (ma 4), .ref (ma 5), .ref (ma 6), .int kc, .int 0, .ref (ma 7), .int 0, .ref (ma 8), .int (-1), .ref (ma 9), .ref (ma 10), .ref (ma 11), .ref (ma 12), .ref (ma 13), .int 0, .int 0])), (ma 9, .inl (cI, 151, .inl f9)), (ma 10, .inl (cI, 151, .inl f10)), (ma 11, .inl (cI, 151, .inl f11)), (ma 12, .inl (cI, 151, .inl f12)), (ma 13, .inl (cI, 151, .inl f13))]) [0, 1, 2, 3, 4, 5] (by decide) rfl
          exact W.vret hx hb hr (fun t ht hW => ⟨⟨(f9, f10, f11, f12, f13), rfl, Or.inl ⟨rfl, fun h => c32 (exa9.trans ((congrArg f9 (nI_clamp (by omega))).trans h))⟩, ⟨by rw [ht]; exact hP9, hD9⟩⟩, hS.F ht⟩) hS.2.2 dX5_offer_68
