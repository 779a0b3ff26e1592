/-! doubles: a share is never no number -/
theorem jDn : ∀ a b : Int, 0 ≤ a ∧ a ≤ 80 → 1 ≤ b ∧ b ≤ 80 → vf_n64 (FP.ddiv (FP.i2d (jI a)) (FP.i2d (jI b))) := by
  intro a b ha hb
  have key : ∀ m : Nat, m < 81 → ∀ n : Nat, n < 80 → FP.ddiv (FP.i2d (jI (m : Int))) (FP.i2d (jI ((n + 1 : Nat) : Int))) &&& 0x7fffffffffffffff ≤ 0x7ff0000000000000 := by decide +kernel
  have h := key a.toNat (by omega) (b - 1).toNat (by omega)
  have e1 : (a.toNat : Int) = a := by omega
  have e2 : (((b - 1).toNat + 1 : Nat) : Int) = b := by omega
  rw [e1, e2] at h
  exact h
