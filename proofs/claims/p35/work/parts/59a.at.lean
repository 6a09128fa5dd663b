def zz_at (l : List Int32) : State := start1.aboutOf (l.map Value.int).toArray
theorem zz_vm (l : List Int32) : start1.about.vm = (zz_at l).vm := rfl
theorem zz_and {A B : Cond} {args : Array Value} {s : State} (h1 : A.before args s = true) (h2 : B.before args s = true) : (Cond.and A B).before args s = true := by
  simp only [Cond.before, Cond.holds, beq_iff_eq] at h1 h2 ⊢
  simp only [Cond.value, h1, h2]
theorem zz_fold {g : Option Bool → Nat → Option Bool} {f : Nat → Option Bool} (h1 : ∀ i, g (some true) i = f i) : ∀ n : Nat, (∀ i : Nat, i < n → f i = some true) → (List.range n).foldl g (some true) = some true := by
  intro n
  induction n with
  | zero => intro _; rfl
  | succ n ih =>
    intro h
    rw [List.range_succ, List.foldl_append, ih (fun i hi => h i (by omega))]
    simp only [List.foldl_cons, List.foldl_nil]
    rw [h1]
    exact h n (by omega)
theorem zz_all {args : Array Value} {s : State} {a : Addr} {cell : Cell} (hx : args[0]? = some (.ref a)) (harr : s.arrayAt? a = some cell) (hsmall : cell.slots.size < 2 ^ 31) (hi : ∀ j : Nat, j < cell.slots.size → ∃ v : Int32, cell.slots[j]? = some (.int v)) : (Cond.all (.arg 0) (.isInt (.elem (.arg 0) (.index 0)))).before args s = true := by
  simp only [Cond.before, Cond.holds, Cond.value, Term.eval, hx, harr, beq_iff_eq]
  refine zz_fold (fun _ => rfl) _ (fun j hj => ?_)
  have hj' : j < 2 ^ 31 := Nat.lt_trans hj hsmall
  have hneg : ¬ (Int32.ofNat j < 0) := Int32.ofNat_not_neg hj'
  obtain ⟨v, hv⟩ := hi j hj
  simp [Nat.toInt32, hneg, Example.SumArray.toNatClampNeg_ofNat hj', harr, hv]
theorem zz_get (l : List Int32) (j : Nat) (h : j < (l.map Value.int).toArray.size) : ∃ v : Int32, (l.map Value.int).toArray[j]? = some (.int v) := by
  have h1 : j < l.length := by simpa using h
  exact ⟨l[j], by simp [h1]⟩
theorem zz_arr0 (l : List Int32) : (zz_at l).arrayAt? 0 = some { cls := 19, slots := (l.map Value.int).toArray, vm := .none } := rfl
theorem zz_leni {args : Array Value} {s : State} {a : Addr} {cell : Cell} (hx : args[0]? = some (.ref a)) (harr : s.arrayAt? a = some cell) (hsmall : cell.slots.size < 2 ^ 31) : (Cond.isInt (.length (.arg 0))).before args s = true := by
  have h9 : cell.slots.size < 2147483648 := hsmall
  simp [Cond.before, Cond.holds, Cond.value, Term.eval, hx, harr, h9]
theorem zz_restG (l : List Int32) (h : l.length < 2 ^ 31) : rest_1_c.before start1.args0 (zz_at l) = true := by
  have hs : (l.map Value.int).toArray.size < 2 ^ 31 := by simpa using h
  exact zz_and (zz_leni (a := 0) rfl (zz_arr0 l) hs) (zz_all (a := 0) rfl (zz_arr0 l) hs (fun j hj => zz_get l j hj))
theorem zz_cf (l : List Int32) : cellFits (zz_at l) = cellFits start1.about := rfl
theorem zz_cell0 (l : List Int32) : cellFits start1.about { cls := 19, slots := (l.map Value.int).toArray, vm := .none } = true := by
  unfold cellFits
  refine List.all_eq_true.mpr (fun i hi => ?_)
  obtain ⟨v, hv⟩ := zz_get l i (by simpa using hi)
  simp only [hv]
  rfl
theorem zz_heapG (l : List Int32) : heapFits (zz_at l) = true := by
  have h : heapFits start1.about = true := start1.atStart.2.2.2.2.2.2.2.2.1
  unfold heapFits at h ⊢
  rw [zz_cf, ← Array.all_toList]
  rw [← Array.all_toList] at h
  have e1 : (zz_at l).heap.toList = { cls := 19, slots := (l.map Value.int).toArray, vm := .none } :: start1.about.heap.toList.tail := rfl
  have e2 : start1.about.heap.toList = { cls := 19, slots := start1.cells0, vm := .none } :: start1.about.heap.toList.tail := rfl
  rw [e2, List.all_cons, Bool.and_eq_true] at h
  rw [e1, List.all_cons, Bool.and_eq_true]
  exact ⟨zz_cell0 l, h.2⟩
theorem zz_is {b : Addr} {xs l : List Int32} (h : lw_P b xs start1.args0 (zz_at l)) : xs = l := by
  obtain ⟨h1, ⟨scr, harr, hlist, -, -⟩, -, -⟩ := h
  have hb : b = 0 := by
    have h2 : (#[Value.ref 0] : Array Value) = #[Value.ref b] := h1
    simpa using h2.symm
  subst hb
  have h3 : (zz_at l).arrayAt? 0 = some scr := harr
  rw [zz_arr0] at h3
  have h4 : (l.map Value.int).toArray = scr.slots := congrArg Cell.slots (Option.some.inj h3)
  rw [← h4] at hlist
  have h6 : l.map Value.int = xs.map Value.int := hlist
  exact ((List.map_inj_right (fun a b h => by cases h; rfl)).mp h6).symm
