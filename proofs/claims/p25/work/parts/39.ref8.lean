def dfN (Q S : Nat → Nat) (k : Nat) : Int32 := if k = 0 then nI (toldF Q) else if k = 1 then nI (Q 9) else if k = 2 then nI (Q 20) - nI (S 20) else if k = 3 then nI (Q 21) - nI (S 21) else if k = 4 then nI (Q 14) - nI (S 14) else if k = 5 then nI (stuckN Q) else nI (Q 18) - nI (S 18)
theorem br_back (P S : Nat → Nat) (Q : Nat → Nat) : ∀ t, t < 246 → brF Q 0 (brF S 0 P 0) 0 t = P t := fun t ht => by
  unfold brF brK
  rw [if_pos (by omega), if_pos (by omega)]
  exact congrArg P (by omega)
theorem br_sp (P S : Nat → Nat) {k : Nat} (h : k < 246) : brF S 0 P 0 k = P k := by
  unfold brF brK
  rw [if_pos (by omega)]
  exact congrArg P (by omega)
theorem dif_if (P S : Nat → Nat) (q k : Nat) : dfN (itF P q) (brF S 0 P 0) k = ifN P q k := by
  unfold dfN ifN
  rw [br_sp P S (by decide), br_sp P S (by decide), br_sp P S (by decide), br_sp P S (by decide)]
theorem fl_nonneg (P : Nat → Nat) (q : Nat) : (-1 : Int32) < nI (flP P q 0 20) ∨ ¬ flP P q 0 20 < 2 ^ 31 := by
  by_cases h : flP P q 0 20 < 2 ^ 31
  · exact Or.inl (Int32.lt_of_lt_of_le (by decide) (Int32.not_lt.mp (nI_pos h)))
  · exact Or.inr h
/-- the reference's best: nothing before the first flow -/
def flC (P : Nat → Nat) (q : Nat) : Nat → Int32
  | 0 => nI 0
  | k + 1 => if flM P q k < nI (flP P q k 20) then nI (10 * k + 10) else flC P q k
theorem flC_B (P : Nat → Nat) (q : Nat) (h : flP P q 0 20 < 2 ^ 31) : ∀ k, flC P q (k + 1) = flB P q (k + 1)
  | 0 => by
    have h1 : (-1 : Int32) < nI (flP P q 0 20) := (fl_nonneg P q).resolve_right (fun z => z h)
    show (if (-1 : Int32) < nI (flP P q 0 20) then nI (10 * 0 + 10) else nI 0) = if (-1 : Int32) < nI (flP P q 0 20) then nI (10 * 0 + 10) else nI 10
    rw [if_pos h1, if_pos h1]
  | k + 1 => by
    have h1 := flC_B P q h k
    show (if _ < _ then _ else flC P q (k + 1)) = if _ < _ then _ else flB P q (k + 1)
    rw [h1]
theorem cT_0 : True := trivial
