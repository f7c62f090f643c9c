/-! ===== the mathematical words: a page of numbers, its segments ===== -/
def low (ln : Nat → Nat) : Nat → Nat
  | 0 => 0
  | k + 1 => low ln k + ln k
/-- the first of n segments above whose upper end a depth isn't; n if there is none -/
def sg (ln : Nat → Nat) (d : Nat) : Nat → Nat
  | 0 => 0
  | n + 1 => if sg ln d n < n then sg ln d n else if low ln (n + 1) ≤ d then n + 1 else n
theorem sg_le (ln : Nat → Nat) (d : Nat) : ∀ n, sg ln d n ≤ n
  | 0 => Nat.le_refl _
  | n + 1 => by
    have := sg_le ln d n
    unfold sg
    split
    · omega
    · split <;> omega
theorem sg_all {ln : Nat → Nat} {d : Nat} : ∀ {n : Nat}, (∀ j, j < n → low ln (j + 1) ≤ d) → sg ln d n = n
  | 0, _ => rfl
  | n + 1, h => by
    have h1 := sg_all (n := n) (fun j hj => h j (by omega))
    unfold sg
    rw [if_neg (by omega), if_pos (h n (by omega))]
theorem sg_at {ln : Nat → Nat} {d s : Nat} : ∀ {n : Nat}, s < n → (∀ j, j < s → low ln (j + 1) ≤ d) → d < low ln (s + 1) → sg ln d n = s
  | 0, hs, _, _ => absurd hs (Nat.not_lt_zero _)
  | n + 1, hs, h, hd => by
    unfold sg
    by_cases e : s = n
    · subst e
      rw [sg_all h, if_neg (Nat.lt_irrefl _), if_neg (by omega)]
    · have h1 := sg_at (n := n) (by omega) h hd
      rw [h1, if_pos (by omega)]
abbrev kdP (P : Nat → Nat) : Nat → Nat := fun k => P (46 + 4 * k)
abbrev lnP (P : Nat → Nat) : Nat → Nat := fun k => P (46 + 4 * k + 1)
abbrev dnP (P : Nat → Nat) : Nat → Nat := fun k => P (46 + 4 * k + 2)
abbrev moP (P : Nat → Nat) : Nat → Nat := fun k => P (46 + 4 * k + 3)

