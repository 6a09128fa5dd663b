/-! what the first call on a fresh object answers: 0 where it returns, else the number of its exception -/
def zf_size (s : Int32) : Int32 := if s = 0 ∨ s = 1 then 0 else 1
def zf_feed (s m : Int32) : Int32 := if s = 0 ∨ s = 1 then (if 1 ≤ m ∧ m ≤ 8 then 0 else 2) else 1
def zf_fill (s v m : Int32) : Int32 := if s = 0 ∨ s = 1 then (if 0 ≤ v ∧ v ≤ 255 then (if 1 ≤ m ∧ m ≤ 150 then 0 else 2) else 2) else 1
def zf_cut (s m : Int32) : Int32 := if s = 0 ∨ s = 1 then (if 0 ≤ m ∧ m ≤ 0 then 0 else 2) else 1
def zf_check (s f t : Int32) : Int32 := if s = 0 ∨ s = 1 then (if f = 0 ∧ t = 0 then 0 else 1) else 1
def zf_in (lo hi v : Int32) : Int32 := if lo ≤ v ∧ v ≤ hi then 0 else 1
theorem zz_nat {x M : Int32} {n : Nat} (hM : M.toInt = n) (h : 1 ≤ x ∧ x ≤ M) : ∃ j : Nat, j ≤ n ∧ x = nI j := nI_of2 hM (Int32.not_lt.mpr (Int32.le_trans (by decide) h.1)) h.2
theorem zz_room {M : Nat} (h : M ≤ 150) : ¬ nI 150 - 0 < nI M := by
  rw [show nI 150 - 0 = nI 150 from by decide]
  exact nI_nlt h (by omega)
theorem zz_neg {x : Int32} (h : 1 ≤ x ∧ x ≤ 50) : 0 - x < 0 := by
  obtain ⟨j, hj, rfl⟩ := zz_nat (M := 50) (n := 50) (by decide) h
  exact (by decide : ∀ j : Fin 51, 1 ≤ nI j.1 → 0 - nI j.1 < 0) ⟨j, by omega⟩ h.1
