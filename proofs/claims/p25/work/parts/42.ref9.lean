def RNG (k i x : Nat) : Prop := if i = 0 then 1 ≤ x ∧ x ≤ 300 else if i = 1 then 60 ≤ x ∧ x ≤ 92 else if k = 0 then x ≤ 50 else 1 ≤ x ∧ x ≤ 100
def rngB (k i x : Nat) : Nat := if i = 0 then (if 1 ≤ x ∧ x ≤ 300 then 1 else 0) else if i = 1 then (if 60 ≤ x ∧ x ≤ 92 then 1 else 0) else if k = 0 then (if x ≤ 50 then 1 else 0) else if 1 ≤ x ∧ x ≤ 100 then 1 else 0
theorem yn_rng {q : Prop} [Decidable q] {n : Nat} (h : n = if q then 1 else 0) : yn q = nI n := by
  rw [h]
  unfold yn
  split <;> rfl
