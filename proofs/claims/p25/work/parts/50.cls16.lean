def fwN (k a b c : Nat) : Nat := if ¬ (1 ≤ a ∧ a ≤ 300) then 1 else if k = 1 then (if b = 0 then (if c = 0 then 0 else 3) else 2) else if ¬ (60 ≤ b ∧ b ≤ 92) then 2 else if k = 0 then (if c ≤ 50 then 0 else 3) else if 1 ≤ c ∧ c ≤ 100 then 0 else 3
theorem nI_ite {q : Prop} [Decidable q] (a b : Nat) : (if q then nI a else nI b) = nI (if q then a else b) := by split <;> rfl
theorem fw_n {k a b c : Nat} (hk : k ≤ 2) (ha : a ≤ 999) (hb : b ≤ 999) (hc : c ≤ 999) : fwI (nI k) (nI a) (nI b) (nI c) = nI (fwN k a b c) := by
  have a1 : (nI a < nI 1 ∨ nI 300 < nI a) ↔ ¬ (1 ≤ a ∧ a ≤ 300) := by rw [nI_ltI (by omega) (by decide), nI_ltI (by decide) (by omega)]; omega
  have hc0 : (nI c < nI 0) ↔ False := iff_of_false (nI_pos (by omega)) id
  have hb0 : (nI b < nI 0) ↔ False := iff_of_false (nI_pos (by omega)) id
  unfold fwN
  rcases (show k = 0 ∨ k = 1 ∨ k = 2 by omega) with rfl | rfl | rfl
  · show (if nI a < nI 1 ∨ nI 300 < nI a then nI 1 else if nI b < nI 60 ∨ nI 92 < nI b then nI 2 else if nI c < nI 0 ∨ nI 50 < nI c then nI 3 else nI 0) = _
    simp only [false_or, a1, hc0, nI_ltI (show b < 2 ^ 31 by omega) (show 60 < 2 ^ 31 by decide), nI_ltI (show 92 < 2 ^ 31 by decide) (show b < 2 ^ 31 by omega), nI_ltI (show 50 < 2 ^ 31 by decide) (show c < 2 ^ 31 by omega), nI_ite]
    refine congrArg nI ?_
    repeat' split
    all_goals first | rfl | omega | contradiction | (exfalso; simp_all <;> omega)
  · show (if nI a < nI 1 ∨ nI 300 < nI a then nI 1 else if nI b < nI 0 ∨ nI 0 < nI b then nI 2 else if nI c < nI 0 ∨ nI 0 < nI c then nI 3 else nI 0) = _
    simp only [false_or, a1, hc0, hb0, nI_ltI (show 0 < 2 ^ 31 by decide) (show b < 2 ^ 31 by omega), nI_ltI (show 0 < 2 ^ 31 by decide) (show c < 2 ^ 31 by omega), nI_ite]
    refine congrArg nI ?_
    repeat' split
    all_goals first | rfl | omega | contradiction | (exfalso; simp_all <;> omega)
  · show (if nI a < nI 1 ∨ nI 300 < nI a then nI 1 else if nI b < nI 60 ∨ nI 92 < nI b then nI 2 else if nI c < nI 1 ∨ nI 100 < nI c then nI 3 else nI 0) = _
    simp only [a1, nI_ltI (show b < 2 ^ 31 by omega) (show 60 < 2 ^ 31 by decide), nI_ltI (show 92 < 2 ^ 31 by decide) (show b < 2 ^ 31 by omega), nI_ltI (show 100 < 2 ^ 31 by decide) (show c < 2 ^ 31 by omega), nI_ltI (show c < 2 ^ 31 by omega) (show 1 < 2 ^ 31 by decide), nI_ite]
    refine congrArg nI ?_
    repeat' split
    all_goals first | rfl | omega | contradiction | (exfalso; simp_all <;> omega)
/-- the first number that is wrong, by the two ways of counting -/
theorem fw_wi {T : Nat → Nat} {tl q : Nat} (hk : kdT T tl q ≤ 2) : fwN (kdT T tl q) (sgD T tl q 0) (sgD T tl q 1) (sgD T tl q 2) = if wi T tl q < mny T tl q then wi T tl q + 1 else 0 := by
  have hm : mny T tl q = if kdT T tl q = 1 then 1 else 3 := rfl
  have d0 : sgD T tl q 0 = numV T tl (qw T tl q) 0 := if_pos (by rw [hm]; split <;> omega)
  have r0 : ∀ u, rngB (kdT T tl q) u (numV T tl (qw T tl q) u) = 1 → wiN T tl q u < 1 := fun u h => by
    unfold wiN
    rw [if_pos h]
    decide
  generalize hkk : kdT T tl q = kk at *
  by_cases c0 : 1 ≤ numV T tl (qw T tl q) 0 ∧ numV T tl (qw T tl q) 0 ≤ 300
  · have w0 := r0 0 (if_pos c0)
    by_cases h1 : kk = 1
    · have hm1 : mny T tl q = 1 := by rw [hm, if_pos h1]
      have hw := wi_all (T := T) (tl := tl) (q := q) (by rw [hm1]; intro j hj; rw [show j = 0 by omega]; exact w0)
      have e1 : sgD T tl q 1 = 0 := if_neg (by rw [hm1]; decide)
      have e2 : sgD T tl q 2 = 0 := if_neg (by rw [hm1]; decide)
      rw [hw, if_neg (Nat.lt_irrefl _), d0, e1, e2]
      unfold fwN
      rw [if_neg (fun z => z c0), if_pos h1]
      rfl
    · have hm3 : mny T tl q = 3 := by rw [hm, if_neg h1]
      have e1 : sgD T tl q 1 = numV T tl (qw T tl q) 1 := if_pos (by rw [hm3]; decide)
      have e2 : sgD T tl q 2 = numV T tl (qw T tl q) 2 := if_pos (by rw [hm3]; decide)
      rw [d0, e1, e2]
      unfold fwN
      rw [if_neg (fun z => z c0), if_neg h1]
      by_cases c1 : 60 ≤ numV T tl (qw T tl q) 1 ∧ numV T tl (qw T tl q) 1 ≤ 92
      · have w1 := r0 1 (show (if (1 : Nat) = 0 then _ else if (1 : Nat) = 1 then (if 60 ≤ numV T tl (qw T tl q) 1 ∧ numV T tl (qw T tl q) 1 ≤ 92 then 1 else 0) else _) = 1 by rw [if_neg (by decide), if_pos rfl, if_pos c1])
        rw [if_neg (fun z => z c1)]
        have r2 : rngB kk 2 (numV T tl (qw T tl q) 2) = if kk = 0 then (if numV T tl (qw T tl q) 2 ≤ 50 then 1 else 0) else if 1 ≤ numV T tl (qw T tl q) 2 ∧ numV T tl (qw T tl q) 2 ≤ 100 then 1 else 0 := by
          unfold rngB
          rw [if_neg (by decide), if_neg (by decide)]
        by_cases c2 : rngB kk 2 (numV T tl (qw T tl q) 2) = 1
        · have w2 := r0 2 c2
          have hw := wi_all (T := T) (tl := tl) (q := q) (by rw [hm3]; intro j hj; rcases (show j = 0 ∨ j = 1 ∨ j = 2 by omega) with rfl | rfl | rfl <;> assumption)
          rw [hw, if_neg (Nat.lt_irrefl _)]
          rw [r2] at c2
          split
          · rename_i z
            rw [if_pos z] at c2
            split at c2
            · rw [if_pos (by assumption)]
            · exact absurd c2 (by decide)
          · rename_i z
            rw [if_neg z] at c2
            split at c2
            · rw [if_pos (by assumption)]
            · exact absurd c2 (by decide)
        · have c3 : rngB kk 2 (numV T tl (qw T tl q) 2) = 0 := by have := rngB_1 kk 2 (numV T tl (qw T tl q) 2); omega
          have hw := wi_at (T := T) (tl := tl) (q := q) (u := 2) (by rw [hm3]; decide) (fun j hj => by rcases (show j = 0 ∨ j = 1 by omega) with rfl | rfl <;> assumption) (by rw [hkk]; exact c3)
          rw [hw, hm3, if_pos (show 2 < 3 by decide)]
          rw [r2] at c3
          split
          · rename_i z
            rw [if_pos z] at c3
            split at c3
            · exact absurd c3 (by decide)
            · rw [if_neg (by assumption)]
          · rename_i z
            rw [if_neg z] at c3
            split at c3
            · exact absurd c3 (by decide)
            · rw [if_neg (by assumption)]
      · have hw := wi_at (T := T) (tl := tl) (q := q) (u := 1) (by rw [hm3]; decide) (fun j hj => by rw [show j = 0 by omega]; exact w0) (by rw [hkk]; show (if (1 : Nat) = 0 then _ else if (1 : Nat) = 1 then (if 60 ≤ numV T tl (qw T tl q) 1 ∧ numV T tl (qw T tl q) 1 ≤ 92 then 1 else 0) else _) = 0; rw [if_neg (by decide), if_pos rfl, if_neg c1])
        rw [if_pos c1, hw, hm3, if_pos (show 1 < 3 by decide)]
  · have hw := wi_at (T := T) (tl := tl) (q := q) (u := 0) (mny_le T tl q).1 (fun j hj => absurd hj (Nat.not_lt_zero _)) (by rw [hkk]; exact if_neg c0)
    rw [d0]
    unfold fwN
    rw [if_pos c0, hw, if_pos (show 0 < mny T tl q from (mny_le T tl q).1)]

