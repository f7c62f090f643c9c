/-! ===== a whole text ===== -/
/-- where the segment after j segments begins -/
def qj (T : Nat → Nat) (tl : Nat) : Nat → Nat
  | 0 => 0
  | j + 1 => sgE T tl (qj T tl j)
def gdN (T : Nat → Nat) (tl n j : Nat) : Nat := if qj T tl j < tl ∧ sgR T tl (qj T tl j) (n + j) = 0 then 0 else 1
/-- how many segments are read before the text ends or one isn't a segment; n lie below -/
def lj (T : Nat → Nat) (tl n : Nat) : Nat := ft (gdN T tl n) 1 21
/-- why the text isn't one of segments; 0 if it is -/
def txR (T : Nat → Nat) (tl n : Nat) : Nat := if qj T tl (lj T tl n) < tl then sgR T tl (qj T tl (lj T tl n)) (n + lj T tl n) else 0
theorem gdN_lt {T : Nat → Nat} {tl n j : Nat} : gdN T tl n j < 1 ↔ (qj T tl j < tl ∧ sgR T tl (qj T tl j) (n + j) = 0) := by
  unfold gdN
  split
  · exact ⟨fun _ => by assumption, fun _ => by decide⟩
  · exact ⟨fun h => absurd h (by decide), fun h => absurd h (by assumption)⟩
theorem sgR_0 {T : Nat → Nat} {tl q n : Nat} (h : sgR T tl q n = 0) : kdT T tl q ≤ 2 ∧ ¬ mq T tl q < mny T tl q ∧ ¬ wi T tl q < mny T tl q ∧ n < 20 ∧ chT T tl (ps T tl (qw T tl q) (mny T tl q)) = 59 := by
  have hk := kdT_le T tl q
  unfold sgR at h
  split at h
  · exact absurd h (by decide)
  · split at h
    · exact absurd h (by decide)
    · split at h
      · exact absurd h (by decide)
      · split at h
        · exact absurd h (by decide)
        · split at h
          · exact ⟨by omega, by assumption, by assumption, by omega, by assumption⟩
          · exact absurd h (by decide)
theorem sgE_in {T : Nat → Nat} {tl q n : Nat} (h : sgR T tl q n = 0) : sgE T tl q ≤ tl := by
  have := chT_in (T := T) (tl := tl) (i := ps T tl (qw T tl q) (mny T tl q)) (by rw [(sgR_0 h).2.2.2.2]; decide)
  unfold sgE
  omega
theorem gd_20 {T : Nat → Nat} {tl n j : Nat} (h : gdN T tl n j < 1) : n + j < 20 := (sgR_0 (gdN_lt.mp h).2).2.2.2.1
theorem lj_at {T : Nat → Nat} {tl n k : Nat} (h : ∀ j, j < k → gdN T tl n j < 1) (h2 : ¬ (qj T tl k < tl ∧ sgR T tl (qj T tl k) (n + k) = 0)) : lj T tl n = k := by
  have hk : k ≤ 20 := by
    rcases Nat.eq_zero_or_pos k with z | z
    · omega
    · have := gd_20 (h (k - 1) (by omega)); omega
  exact ft_at (by omega) h (by
    by_cases z : gdN T tl n k < 1
    · exact absurd (gdN_lt.mp z) h2
    · omega)
theorem sgR_le (T : Nat → Nat) (tl q n : Nat) : sgR T tl q n ≤ 5 := by
  unfold sgR
  repeat (first | split | omega)
