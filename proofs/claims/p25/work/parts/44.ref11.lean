/-! ===== one segment of a text ===== -/
abbrev qw (T : Nat → Nat) (tl q : Nat) : Nat := q + wl T tl q
def mny (T : Nat → Nat) (tl q : Nat) : Nat := if kdT T tl q = 1 then 1 else 3
def wiN (T : Nat → Nat) (tl q i : Nat) : Nat := if rngB (kdT T tl q) i (numV T tl (qw T tl q) i) = 1 then 0 else 1
/-- the first of the segment's numbers that is out of its range -/
def wi (T : Nat → Nat) (tl q : Nat) : Nat := ft (wiN T tl q) 1 (mny T tl q)
abbrev mq (T : Nat → Nat) (tl q : Nat) : Nat := mi T tl (qw T tl q) (mny T tl q)
/-- why the segment at q isn't one, n segments lying below it; 0 if it is -/
def sgR (T : Nat → Nat) (tl q n : Nat) : Nat := if kdT T tl q = 3 then 1 else if mq T tl q < mny T tl q then 2 else if wi T tl q < mny T tl q then 3 else if 20 ≤ n then 4 else if chT T tl (ps T tl (qw T tl q) (mny T tl q)) = 59 then 0 else 5
def sgN (T : Nat → Nat) (tl q : Nat) : Nat := if kdT T tl q = 3 then 0 else if mq T tl q < mny T tl q then mq T tl q + 1 else if wi T tl q < mny T tl q then wi T tl q + 1 else 0
def sgE (T : Nat → Nat) (tl q : Nat) : Nat := ps T tl (qw T tl q) (mny T tl q) + 1
theorem mny_le (T : Nat → Nat) (tl q : Nat) : 1 ≤ mny T tl q ∧ mny T tl q ≤ 3 := by
  unfold mny
  split <;> omega
theorem kdT_le (T : Nat → Nat) (tl q : Nat) : kdT T tl q ≤ 3 := by
  unfold kdT kdF
  split
  · omega
  · split
    · omega
    · split <;> omega
theorem rngB_1 (k i x : Nat) : rngB k i x ≤ 1 := by
  unfold rngB
  repeat (first | split | omega)
theorem nI_m4 {k : Nat} (h : k < 2 ^ 31) : nI k ≠ -4 := fun z => nI_pos h (by rw [z]; decide)
theorem wl_le (T : Nat → Nat) (tl q : Nat) : wl T tl q ≤ tl - q := ft_le _ _ _
theorem wi_at {T : Nat → Nat} {tl q u : Nat} (h : u < mny T tl q) (h2 : ∀ j, j < u → wiN T tl q j < 1) (h3 : rngB (kdT T tl q) u (numV T tl (qw T tl q) u) = 0) : wi T tl q = u := ft_at h h2 (by
  unfold wiN
  rw [h3, if_neg (by decide)]
  exact Nat.le_refl _)
theorem wi_all {T : Nat → Nat} {tl q : Nat} (h2 : ∀ j, j < mny T tl q → wiN T tl q j < 1) : wi T tl q = mny T tl q := ft_all h2
theorem wiN_1 {T : Nat → Nat} {tl q u : Nat} (h : ¬ rngB (kdT T tl q) u (numV T tl (qw T tl q) u) = 0) : wiN T tl q u < 1 := by
  have := rngB_1 (kdT T tl q) u (numV T tl (qw T tl q) u)
  unfold wiN
  rw [if_pos (by omega)]
  decide
