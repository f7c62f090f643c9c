theorem ft_lt (f : Nat → Nat) (d : Nat) : ∀ n, ∀ j, j < ft f d n → f j < d
  | 0, j, h => absurd h (Nat.not_lt_zero _)
  | n + 1, j, h => by
    have h1 := ft_lt f d n
    unfold ft at h
    split at h
    · exact h1 j h
    · rename_i q
      have q2 : ft f d n = n := Nat.le_antisymm (ft_le _ _ _) (Nat.not_lt.mp q)
      rw [q2] at h1
      split at h
      · rename_i q3
        rcases Nat.lt_succ_iff_lt_or_eq.mp h with z | z
        · exact h1 j z
        · rw [z]; exact q3
      · exact h1 j h
theorem lj_gd {T : Nat → Nat} {tl n j : Nat} (h : j < lj T tl n) : qj T tl j < tl ∧ sgR T tl (qj T tl j) (n + j) = 0 := gdN_lt.mp (ft_lt _ _ _ _ h)
/-- the numbers of the segment at q -/
abbrev sgD (T : Nat → Nat) (tl q : Nat) : Nat → Nat := fnN T tl (qw T tl q) (mny T tl q)
/-- the page after j segments are added -/
def aj (T : Nat → Nat) (tl : Nat) (P : Nat → Nat) : Nat → (Nat → Nat)
  | 0 => P
  | j + 1 => addF (aj T tl P j) (kdT T tl (qj T tl j)) (sgD T tl (qj T tl j) 0) (sgD T tl (qj T tl j) 1) (sgD T tl (qj T tl j) 2)
theorem aj_8 (T : Nat → Nat) (tl : Nat) (P : Nat → Nat) : ∀ j, aj T tl P j 8 = P 8 + j
  | 0 => rfl
  | j + 1 => by
    show addF (aj T tl P j) _ _ _ _ 8 = _
    rw [addF_8, aj_8 T tl P j]
    omega
theorem qj_in {T : Nat → Nat} {tl n : Nat} : ∀ {j : Nat}, j ≤ lj T tl n → qj T tl j ≤ tl
  | 0, _ => Nat.zero_le _
  | j + 1, h => sgE_in (lj_gd (n := n) (show j < lj T tl n by omega)).2
theorem lj_le (T : Nat → Nat) (tl n : Nat) : lj T tl n ≤ 21 := ft_le _ _ _
theorem lj_20 {T : Nat → Nat} {tl n : Nat} (h : n ≤ 20) : n + lj T tl n ≤ 20 := by
  rcases Nat.eq_zero_or_pos (lj T tl n) with z | z
  · omega
  · have := (sgR_0 (lj_gd (n := n) (show lj T tl n - 1 < lj T tl n by omega)).2).2.2.2.1
    omega
/-- what fault answers of a text that has one -/
def flN (T : Nat → Nat) (tl n k : Nat) : Int32 := if k = 0 then nI (qj T tl (lj T tl n)) else if k = 1 then nI (txR T tl n) else nI (sgN T tl (qj T tl (lj T tl n)))
theorem sgN_le (T : Nat → Nat) (tl q : Nat) : sgN T tl q ≤ 4 := by
  have h1 := ft_le (nbN T tl (qw T tl q)) 1 (mny T tl q)
  have h2 := mny_le T tl q
  unfold sgN
  repeat (first | split | omega)
