theorem zz_keep {D : va_G} {cl : List vw_C} {ws : va_W} {H H1 : Heap} (hP : va_P D cl ws H) (hk : ∀ q : Nat, q < H.size → ¬ (H.size ≤ q) → H1[q]? = H[q]?) : va_P D cl ws H1 := hP.kept (fun _ q hq => hk q.1 (vx_lt hP hq) (Nat.not_le.mpr (vx_lt hP hq)))
theorem zz_same {D : va_G} {cl : List vw_C} {tys : List (ClassId × FieldType)} {U : State} {a b : ClassId} (h : va_K D cl tys U) (i j : Nat) (hi : tys[i]? = some (a, .int)) (hj : tys[j]? = some (b, .int)) : b = a := by
  have h1 : U.vm.findClass ("[" ++ FieldType.int.toString) = some a := (h.2 i _ hi).2
  have h2 : U.vm.findClass ("[" ++ FieldType.int.toString) = some b := (h.2 j _ hj).2
  exact Option.some.inj (h2.symm.trans h1)
theorem zz_sameL {D : va_G} {cl : List vw_C} {tys : List (ClassId × FieldType)} {U : State} {a b : ClassId} (h : va_K D cl tys U) (i j : Nat) (hi : tys[i]? = some (a, .long)) (hj : tys[j]? = some (b, .long)) : b = a := by
  have h1 : U.vm.findClass ("[" ++ FieldType.long.toString) = some a := (h.2 i _ hi).2
  have h2 : U.vm.findClass ("[" ++ FieldType.long.toString) = some b := (h.2 j _ hj).2
  exact Option.some.inj (h2.symm.trans h1)
theorem zz_sameD {D : va_G} {cl : List vw_C} {tys : List (ClassId × FieldType)} {U : State} {a b : ClassId} (h : va_K D cl tys U) (i j : Nat) (hi : tys[i]? = some (a, .double)) (hj : tys[j]? = some (b, .double)) : b = a := by
  have h1 : U.vm.findClass ("[" ++ FieldType.double.toString) = some a := (h.2 i _ hi).2
  have h2 : U.vm.findClass ("[" ++ FieldType.double.toString) = some b := (h.2 j _ hj).2
  exact Option.some.inj (h2.symm.trans h1)
theorem zz_D {A : Nat → Prop} {ws : va_W} (h : va_D A ws) : va_D (fun _ => True) ws := h.weaken (fun _ _ _ _ => trivial)
theorem zz_P0 {D : va_G} {cl : List vw_C} {H : Heap} : va_P D cl [] H := fun k q h => by simp at h
theorem zz_D0 {A : Nat → Prop} : va_D A [] := ⟨fun i j p q h => by simp at h, fun k q h => by simp at h⟩
def zz_strs : List (Nat × String) := [(96, "no such part of the string"), (146, "no such kind"), (185, "no such side"), (189, "a value outside its range"), (192, "no such place"), (199, "too many bytes"), (202, "there is no plan"), (204, "no such instruction")]
def zz_exs : List String := ["java/lang/IndexOutOfBoundsException", "java/lang/IllegalArgumentException", "java/lang/IllegalStateException"]
def zz_pairs : List (String × String) := [("java/lang/IndexOutOfBoundsException", "java/lang/IllegalArgumentException"), ("java/lang/IndexOutOfBoundsException", "java/lang/IllegalStateException"), ("java/lang/IllegalArgumentException", "java/lang/IndexOutOfBoundsException"), ("java/lang/IllegalArgumentException", "java/lang/IllegalStateException"), ("java/lang/IllegalStateException", "java/lang/IndexOutOfBoundsException"), ("java/lang/IllegalStateException", "java/lang/IllegalArgumentException")]
def zz_sup : List String := ["java/lang/RuntimeException", "java/lang/Exception", Bundle.tN]
def zz_X (A : Nat → Prop) (U : State) : Prop := vx_Zq Bundle.tN "UNASSIGNED_STACK" Bundle.steD A U U.heap ∧ vx_Zq Bundle.tN "SUPPRESSED_SENTINEL" Bundle.listD A U U.heap ∧ (∀ q ∈ zz_strs, ∃ sa : Nat, vk_R RX4 q.1 q.2 sa U) ∧ va_Nw (.methodLinkNest RX0 93 yX4_checkOf RX4) U ∧ (∀ E ∈ zz_exs, va_Nw (.castable E E) U) ∧ (∀ q ∈ zz_pairs, va_Nc q.1 q.2 U) ∧ ∀ Y ∈ zz_sup, va_Nw (.declares (Bundle.initS Y)) U
theorem zz_X.go {A B : Nat → Prop} {s U : State} {H : Heap} {locs : List Loc} (h : zz_X A s) (hS : va_S A s.heap H locs) (hB : ∀ q, B q → A q) (hU : U.heap = H) (hW : s.WarmedH U.vm) : zz_X B U := by
  refine ⟨?_, ?_, fun q hq => ?_, h.2.2.2.1.warmM hW, fun E hE => (h.2.2.2.2.1 E hE).warmC hW, fun q hq => (h.2.2.2.2.2.1 q hq).moved hW.alike, fun Y hY => (h.2.2.2.2.2.2 Y hY).warmD hW⟩
  · rw [hU]; exact ((h.1.kept (H1 := H) (fun a h1 h2 => hS.2.1 a h1 h2)).narrow hB).moved hW.alike
  · rw [hU]; exact ((h.2.1.kept (H1 := H) (fun a h1 h2 => hS.2.1 a h1 h2)).narrow hB).moved hW.alike
  · obtain ⟨sa, h9⟩ := h.2.2.1 q hq
    exact ⟨sa, h9.warm hW⟩
theorem zz_X.call {A : Nat → Prop} {U : State} {g : JFrame} {mk : MethodId} {a : Array Value} (h : zz_X A U) : zz_X A (U.calling g mk a) := by
  refine ⟨?_, ?_, fun q hq => ?_, va_Nw.same rfl (u := U) rfl h.2.2.2.1, fun E hE => va_Nw.same rfl (u := U) rfl (h.2.2.2.2.1 E hE), fun q hq => va_Nc.moved (u := U) (U := U.calling g mk a) (Vm.Alike.refl U.vm) (h.2.2.2.2.2.1 q hq), fun Y hY => va_Nw.same rfl (u := U) rfl (h.2.2.2.2.2.2 Y hY)⟩
  · exact vx_Zq.moved (u := U) (U := U.calling g mk a) (Vm.Alike.refl U.vm) h.1
  · exact vx_Zq.moved (u := U) (U := U.calling g mk a) (Vm.Alike.refl U.vm) h.2.1
  · obtain ⟨sa, h9⟩ := h.2.2.1 q hq
    exact ⟨sa, vk_R.same (u := U) rfl h9⟩
theorem zz_X.cast {A : Nat → Prop} {U : State} {args : Array Value} (h : zz_X A U) (i : Nat) {E : String} (hE : zz_exs[i]? = some E) : (Cond.castable E E).before args U = true := va_Nw.use rfl (h.2.2.2.2.1 E (List.mem_of_getElem? hE))
def zz_B (E : String) : List Cond := [.castable E E, .declares (Bundle.initS "java/lang/RuntimeException"), .declares (Bundle.initS "java/lang/Exception"), .declares (Bundle.initS Bundle.tN)]
theorem zz_X.words {A : Nat → Prop} {U : State} {args : Array Value} (h : zz_X A U) (i : Nat) {E : String} (hE : zz_exs[i]? = some E) : ∀ w ∈ zz_B E, w.before args U = true :=
  vx_c (h.cast i hE) (vx_c (va_Nw.use rfl (h.2.2.2.2.2.2 _ (List.mem_of_getElem? (i := 0) rfl))) (vx_c (va_Nw.use rfl (h.2.2.2.2.2.2 _ (List.mem_of_getElem? (i := 1) rfl))) (vx_c (va_Nw.use rfl (h.2.2.2.2.2.2 _ (List.mem_of_getElem? (i := 2) rfl))) vx_n)))
