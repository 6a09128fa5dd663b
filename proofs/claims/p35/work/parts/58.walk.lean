def zz_Q9 (_ : Array Value) (s : State) (o : Outcome) (t : State) : Prop := o = .returned (some (.int 1)) → 7293034 < zz_slots s t
set_option maxHeartbeats 4000000 in
theorem zz_walk9 (l : Launch) (hflags : l.flags = flags0) (b : Addr) (xs : List Int32) (hlen : xs.length = 1615) (hF : zz_F (fun j => xs.getD j 0)) : MetFree l x (headSpec (Jvm.Cond.code x code maxLocals ret :: tables_1) room9) (lw_P b xs) (fun _ _ _ _ _ => True) zz_Q9 := by
  refine MetFree.of_bodyS (code := code) (maxLocals := maxLocals) (ret := ret) (by decide) ?_ ?_
  · intro args s m h hn
    obtain ⟨meth, c, h1, h2, h3, h4, h5, h6, -, -⟩ := Cond.code_spec hn (atoms_spec (ws := Jvm.Cond.code x code maxLocals ret :: tables_1) h _ List.mem_cons_self)
    exact ⟨meth, c, h1, h2, h3, h4, h5, h6⟩
  · intro p e s m args below meth c s₁ B hml0 hP _
    obtain ⟨rfl, hx, hbd, hgv⟩ := hP
    obtain ⟨scr, harrAt, hlist, hof, hsmall⟩ := hx
    obtain ⟨hcb, hkn, -, -⟩ := State.arrayAt?_spec harrAt
    have hown : s.vm.findClass R_law = some m.cls := findClass_of_methodNamed B.named
    have hts0 : ∀ c ∈ (Jvm.Cond.code x code maxLocals ret :: tables_1), c.before #[Value.ref b] s = true := atoms_spec (ws := Jvm.Cond.code x code maxLocals ret :: tables_1) B.pre
    have hts : ∀ w ∈ lw_tbl, w.before #[Value.ref b] s = true := k2_hts_sels lw_privs (fun w hw => hts0 w (List.mem_cons_of_mem _ hw)) lw_privs_ok
    have hml : c.maxLocals = 9 := B.maxLocals_eq (hts0 _ List.mem_cons_self)
    have X₀ : Stand p l e room9 s m #[Value.ref b] below meth c s₁ [] 0 0 := Stand.of_body B
    have hh0 : s₁.heap = s.heap := by rw [B.state]; rfl
    have hsz : scr.slots.size = xs.length := by rw [← Array.length_toList, hlist, List.length_map]
    have hval : ∀ j : Nat, j < xs.length → scr.slots[j]? = some (.int (xs.getD j 0)) := fun j hj => by
      rw [← Array.getElem?_toList, hlist]
      simp [hj]
    have hbl : b < s.heap.size := (Array.getElem?_eq_some_iff.mp hcb).1
    have hX : va_X b 1615 (fun j => xs.getD j 0) s s.heap := ⟨scr, hcb, hof, hkn, hsz.trans hlen, fun j hj => hval j (by omega)⟩
    have K : W p l e room9 s m #[Value.ref b] below meth c s₁.heap [] 0 0 (zz_Z9 below s) (entryFrame m ([Value.ref b] : List Value).toArray 9) := by
      rw [hh0]
      exact zz_start9 l hflags hF ⟨B.exec, B.bytes, B.returns, hml, hown, hts, hX, hbl, B.notSynchronized, hgv⟩
    obtain ⟨t, a1, o, b1, b2, b3⟩ := K s₁ rfl X₀
    exact ⟨t, o, a1, b1, b2, b3⟩
theorem zz_fails (hC : Claimed_1_2) {l : Launch} (hflags : l.flags = flags0) (hL : Lists l classFile x code maxLocals ret tables_1 room_1) {p : Program} {e : Env} (ha : l.admits e) (hc : FairCas e.choices) (hk : FairClock e.choices) {s : State} {m : MethodId} {args : Array Value} {below : List Frame} (hf : s.frames = .invoking m args :: below) (hfit : argsFit s.vm m args = true) (hheap : heapFits s = true) (happ : (headSpec (Jvm.Cond.code x code maxLocals ret :: tables_1) room_1).applies x e.platform s = true) (happ9 : (headSpec (Jvm.Cond.code x code maxLocals ret :: tables_1) room9).appliesLoose x e.platform s = true) (hrest : rest_1_c.before args s = true) (hpre : (Jvm.Cond.and given_1 narrow_1).before args s = true) (hscr : ∀ (b : Addr) (xs : List Int32), lw_P b xs args s → xs.length = 1615 ∧ zz_F (fun j => xs.getD j 0)) : False := by
  obtain ⟨b, xs, hP⟩ := lw_pre_spec hpre hrest
  obtain ⟨hlen, hF⟩ := hscr b xs hP
  obtain ⟨n, o, w1, -, w3, w4⟩ := zz_walk9 l hflags b xs hlen hF p e ha hc hk s m args below hf happ9 hP trivial
  obtain ⟨n2, o2, v1, -, v3, v4, v5⟩ := hC l hflags hL trivial p e ha hc hk s m args below hf hfit hheap happ ⟨trivial, hrest, hpre⟩
  obtain ⟨rfl, rfl⟩ := the_end_unique w1 w3 v1 v3
  obtain ⟨⟨⟨v, hv⟩, -, hsame⟩, -, -⟩ := v5
  have hsum : zz_slots s (stepsAlone p.tables e n s) ≤ 7293034 := hsame.2.2.2.2.1
  subst hv
  have hr : v = some (.int 1) := by
    have h1 : (Cond.eq .result (.int 1)).holds args s (some (.returned v)) (stepsAlone p.tables e n s) [] = true := v4
    exact Cond.eq_int (n := 1) h1 rfl
  subst hr
  have h9 := w4 rfl
  omega
