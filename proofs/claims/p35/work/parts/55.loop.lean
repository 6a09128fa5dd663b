def zz_slots (s t : State) : Nat := ((t.heap.toList.drop s.heap.size).map (·.slots.size)).sum
def zz_Z9 (below : List Frame) (s : State) : State → Prop := fun t => ∃ o, t.status = .running ∧ Ended t below o ∧ (o = .returned (some (.int 1)) → 7293034 < zz_slots s t)
theorem zz_set0 : ∀ (M : List Nat) (i v : Nat), M[i]? = some v → (M.set i 0).sum + v = M.sum := by
  intro M
  induction M with
  | nil => intro i v h; simp at h
  | cons a M ih =>
    intro i v h
    cases i with
    | zero => simp at h; subst h; simp; omega
    | succ i =>
      have h1 : M[i]? = some v := by simpa using h
      have h2 := ih i v h1
      simp only [List.set_cons_succ, List.sum_cons]
      omega
theorem zz_sum (N : Nat) : ∀ (gl : va_W) (M : List Nat), (∀ (i j : Nat) (p q : Nat × va_E), gl[i]? = some p → gl[j]? = some q → p.1 = q.1 → i = j) → (∀ (k : Nat) (q : Nat × va_E), gl[k]? = some q → N ≤ q.1 ∧ M[q.1 - N]? = some 151) → 151 * gl.length ≤ M.sum := by
  intro gl
  induction gl with
  | nil => intro M _ _; simp
  | cons g gl ih =>
    intro M hd hv
    obtain ⟨hg1, hg2⟩ := hv 0 g rfl
    have h1 := ih (M.set (g.1 - N) 0) (fun i j p q hi hj he => by
      have := hd (i + 1) (j + 1) p q (by simpa using hi) (by simpa using hj) he
      omega) (fun k q hk => by
      obtain ⟨hq1, hq2⟩ := hv (k + 1) q (by simpa using hk)
      refine ⟨hq1, ?_⟩
      have hne : g.1 ≠ q.1 := fun he => by
        have := hd 0 (k + 1) g q rfl (by simpa using hk) he
        omega
      rw [List.getElem?_set_ne (by omega)]
      exact hq2)
    have h2 := zz_set0 M _ _ hg2
    simp only [List.length_cons]
    omega
theorem zz_many {D : va_G} {A : Nat → Prop} {X gl : va_W} {H : Heap} {cI : ClassId} {N n : Nat} (hP : va_P D vwCl (X ++ gl) H) (hD : va_D A (X ++ gl)) (hA : ∀ q : Nat, A q → N ≤ q) (hg : zz_G cI gl n) : 151 * n ≤ ((H.toList.drop N).map (·.slots.size)).sum := by
  have hin : ∀ (k : Nat) (q : Nat × va_E), gl[k]? = some q → (X ++ gl)[X.length + k]? = some q := fun k q h => by
    rw [List.getElem?_append_right (by omega), show X.length + k - X.length = k by omega]
    exact h
  rw [← hg.1]
  refine zz_sum N gl _ (fun i j p q hi hj he => ?_) (fun k q hk => ?_)
  · have := hD.1 _ _ p q (hin i p hi) (hin j q hj) he
    omega
  · have h1 := hA _ (hD.2 _ q (hin k q hk))
    refine ⟨h1, ?_⟩
    obtain ⟨f, hf⟩ := hg.2 q (List.mem_of_getElem? hk)
    have h2 := hP _ q (hin k q hk)
    unfold va_at at h2
    rw [hf] at h2
    have h3 : H[q.1]? = some (arrV cI 151 (fun j => .int (f j))) := h2
    rw [List.getElem?_map, List.getElem?_drop, show N + (q.1 - N) = q.1 by omega, Array.getElem?_toList, h3]
    simp only [Option.map_some, arrV_size]
theorem zz_ret9 {p : Program} {l : Launch} {e : Env} {s : State} {m : MethodId} {below : List Frame} {meth : Method} {c : Code} {b : Nat} (v : Int32) (hn : narrow .boolean (.int v) = .int v) (hx : p.tables.exec = Jvm.exec) (hb : c.code = cL_law) (hr : meth.sig.returnType = some .boolean) (hlocks : meth.locks = false) {pc : Nat} {H : Heap} {locs : List Loc} {ls : Array Slot} {k n : Nat} (hdg : decode cL_law pc = .ok (.ireturn, 1)) (hq : v = 1 → 7293034 < ((H.toList.drop s.heap.size).map (·.slots.size)).sum) : W p l e room9 s m #[Value.ref b] below meth c H locs k n (zz_Z9 below s) (F0 m pc ls [.int v]) := by
  intro T hT X
  obtain ⟨t, a1, o, b1, b2, b3, -⟩ := W.zret (Qc := fun _ s o t => o = .returned (some (.int 1)) → 7293034 < zz_slots s t) (free := fun _ => True) hx hb hr hn (fun t ht _ h => by
    have hv : v = 1 := by simpa using h
    unfold zz_slots
    rw [ht]
    exact hq hv) (fun _ _ => trivial) hdg hlocks T hT X
  exact ⟨t, a1, o, b1, b2, b3⟩
def zz_F (xs : Nat → Int32) : Prop := xs 0 = 1 ∧ xs 1 = 1 ∧ xs 2 = 0 ∧ xs 3 = 150 ∧ ∀ j : Nat, j < 161 → xs (5 + 10 * j) = 13 ∧ xs (5 + 10 * j + 5) = 12 ∧ xs (5 + 10 * j + 5 + 1) = 3
theorem zz_Gapp {cI : ClassId} {g1 g2 : va_W} {a b : Nat} (h1 : zz_G cI g1 a) (h2 : zz_G cI g2 b) : zz_G cI (g1 ++ g2) (a + b) := ⟨by rw [List.length_append, h1.1, h2.1], fun e he => by
  rcases List.mem_append.mp he with h | h
  · exact h1.2 e h
  · exact h2.2 e h⟩
set_option maxHeartbeats 8000000 in
set_option maxRecDepth 100000 in
theorem zz_pairs9 {p : Program} {l : Launch} {e : Env} {s : State} {m : MethodId} {below : List Frame} {meth : Method} {c : Code} {b : Nat} {xs : Nat → Int32} {A : Nat → Prop} {Q : State → Prop} (hfl : l.stackTraces = false) (dC : Nat → ClassId) (dI : Nat → Nat → Nat) (cI cL cD : ClassId) (xa ma : Nat → Nat) (oo : Nat) (hx : p.tables.exec = Jvm.exec) (hb : c.code = cL_law) (hml : c.maxLocals = 9) (hown : s.vm.findClass RL = some m.cls) (hts : ∀ w ∈ wsL_law, w.before #[Value.ref b] s = true) (hA : ∀ q : Nat, s.heap.size ≤ q → A q) (hK : va_K (dC, dI) vwCl [(cI, .int), (cL, .long), (cD, .double)] s) (hZ : zz_X A s) (hX : va_X b 1615 xs s s.heap) (hbl : b < s.heap.size) (hbA : ¬ A b) (hz : ∀ (pc : Nat) (H : Heap) (locs : List Loc) (ls : Array Slot) (k n : Nat), decode cL_law pc = .ok (.ireturn, 1) → W p l e room9 s m #[Value.ref b] below meth c H locs k n Q (F0 m pc ls [.int 0])) (hr : meth.sig.returnType = some .boolean) (hlocks : meth.locks = false) (hAe : ∀ q : Nat, A q → s.heap.size ≤ q) (hF : zz_F xs) (hQ : Q = zz_Z9 below s) :
    ∀ (r j : Nat) (cf : Nat → Nat → Int32) (cn : Nat → Int32) (kb : Int32) (mf : Nat → Nat → Int32) (ki kc : Int32) (kf : Nat → Int64) (gl : va_W) (H : Heap) (locs : List Loc) (ls : Array Slot), r + j = 161 → zz_G cI gl (300 * j) → va_P (dC, dI) vwCl (wz cI cL xa ma oo cf cn kb 0 mf 0 ki kc kf ++ gl) H → va_D A (wz cI cL xa ma oo cf cn kb 0 mf 0 ki kc kf ++ gl) → va_S A s.heap H locs → lv_has ls 9 [(5, .int (nI (5 + 10 * j))), (3, .ref oo), (2, .ref (ma 0)), (1, .ref (xa 0)), (0, .ref b)] → W p l e room9 s m #[Value.ref b] below meth c H locs (60 + 301 * j) (6000 + 45306 * j) Q (F0 m 28 ls []) := by
  intro r
  induction r with
  | zero =>
    intro j cf cn kb mf ki kc kf gl H locs ls hj hgl hP hD hS hl
    obtain rfl : j = 161 := by omega
    refine lv_iload hx hb dL_law_28 (lv_at hl 0 rfl) ?_
    refine lv_aload_n hx hb dL_law_30 rfl (lv_at hl 4 rfl) ?_
    refine va_slen hx hb hX hbl hbA hS dL_law_31 ?_
    refine lv_iconst (v := 5) hx hb dL_law_32 (by decide) ?_
    refine lv_isub hx hb dL_law_33 ?_
    refine lv_icmp_gt (tgt := 1158) hx hb dL_law_34 (by decide) (fun _ => ?_) (fun h => absurd (by decide) h)
    refine lv_iconst (v := 1) hx hb dL_law_1158 (by decide) ?_
    subst hQ
    refine zz_ret9 1 rfl hx hb hr hlocks dL_law_1159 (fun _ => ?_)
    have h9 := zz_many hP hD hAe hgl
    omega
  | succ r ih =>
    intro j cf cn kb mf ki kc kf gl H locs ls hj hgl hP hD hS hl
    obtain ⟨h13, h12, h3⟩ := hF.2.2.2.2 j (by omega)
    refine sg_plan hfl dC dI cI cL cD xa ma oo hx hb hml hown hts hA hK hZ hX hbl hbA hz cf cn kb mf ki kc kf gl (5 + 10 * j) (60 + 301 * j) (6000 + 45306 * j) (by omega) (by omega) (by omega) h13 ?_ H locs ls hP hD hS hl
    intro cf cn kb mf ki kc kf g2 H locs ls hg2 hP hD hS hl
    refine sg_set hfl dC dI cI cL cD xa ma oo hx hb hml hown hts hA hK hZ hX hbl hbA hz cf cn kb mf ki kc kf (g2 ++ gl) (5 + 10 * j + 5) (60 + 301 * j + 300) (6000 + 45306 * j + 45300) (by omega) (by omega) (by omega) h12 h3 ?_ H locs ls hP hD hS hl
    intro cf cn kb mf ki kc kf H locs ls hP hD hS hl
    rw [show 60 + 301 * j + 300 + 1 = 60 + 301 * (j + 1) by omega, show 6000 + 45306 * j + 45300 + 6 = 6000 + 45306 * (j + 1) by omega]
    rw [show 5 + 10 * j + 5 + 5 = 5 + 10 * (j + 1) by omega] at hl
    refine ih (j + 1) cf cn kb mf ki kc kf (g2 ++ gl) H locs ls (by omega) ?_ hP hD hS hl
    have h9 := zz_Gapp hg2 hgl
    rw [show 300 + 300 * j = 300 * (j + 1) by omega] at h9
    exact h9
