theorem told_iff {P : Nat → Nat} (hI : Inv P) {k : Nat} (h : k ≤ P 9) : wat (lnP P) (dnP P) k (P 8) ≤ P 20 + P 21 ↔ k ≤ toldF P := by
  have h2 : k ≤ low (lnP P) (P 8) := Nat.le_trans h hI.2.2.1.1
  rw [dep_iff _ _ _ _ _ h2]
  unfold toldF
  omega
theorem told_1 {P : Nat → Nat} (hI : Inv P) {k : Nat} (h1 : toldF P ≤ k) (c : P 20 + P 21 < wat (lnP P) (dnP P) k (P 8)) : 1 ≤ k := by
  rcases Nat.eq_zero_or_pos k with q | q
  · subst q
    exact absurd ((told_iff hI (Nat.zero_le _)).mpr (Nat.zero_le _)) (by omega)
  · exact q
theorem told_dn {P : Nat → Nat} (hI : Inv P) {k : Nat} (h : k ≤ P 9) (h1 : toldF P ≤ k) (c : P 20 + P 21 < wat (lnP P) (dnP P) k (P 8)) : toldF P ≤ k - 1 := by
  have := told_iff hI h
  omega
theorem told_eq {P : Nat → Nat} (hI : Inv P) {k : Nat} (h1 : toldF P ≤ k) (h : k ≤ P 9) (c : ¬ P 20 + P 21 < wat (lnP P) (dnP P) k (P 8)) : k = toldF P := by
  have := told_iff hI h
  omega
theorem yn_c {q r : Prop} [Decidable q] [Decidable r] (h : q ↔ r) : yn q = yn r := by unfold yn; simp only [h]
theorem in0_pos {i n : Nat} (hi : i < 2 ^ 31) (hn : n < 2 ^ 31) : (nI 0 ≤ nI i ∧ nI i ≤ nI n - nI 1) ↔ i < n := by
  rcases Nat.eq_zero_or_pos n with h | h
  · subst h
    constructor
    · intro q
      have h1 : nI i ≤ -1 := q.2
      exact absurd (Int32.lt_of_le_of_lt h1 (by decide)) (nI_pos hi)
    · intro q; exact absurd q (Nat.not_lt_zero _)
  · rw [pk_sub (show 1 ≤ n from h), nI_leI (by decide) hi, nI_leI hi (by omega)]
    omega
theorem nI_sub_neg {a b : Nat} (h : a < b) (hb : b < 2 ^ 31) : nI a - nI b < 0 := by
  rw [Int32.lt_iff_toInt_lt, Int32.toInt_sub, nI_toInt (by omega), nI_toInt hb, Int32.toInt_zero]
  unfold Int.bmod
  simp only []
  split <;> omega
theorem sg_lt_top {P : Nat → Nat} {d : Nat} (h8 : P 8 = P 8) : sg (lnP P) d (P 8) < P 8 ↔ d < top P := by
  constructor
  · intro h
    by_cases q : d < top P
    · exact q
    · exact absurd h (by rw [sg_all (fun j hj => Nat.le_trans (low_mono _ hj) (Nat.not_lt.mp q))]; exact Nat.lt_irrefl _)
  · intro h; exact (sg_lt h).1
theorem vialAt_hit {P : Nat → Nat} {i k : Nat} (h2 : ∀ j, j < k → P (126 + 3 * j + 1) ≤ i) (h : k < P 14) (hd : i < P (126 + 3 * k + 1)) : nI k = vialAtN P i := by
  have e := fb_at (f := fun k => P (126 + 3 * k + 1)) (d := i) h h2 hd
  unfold vialAtN
  rw [e, if_pos h]
theorem vialAt_miss {P : Nat → Nat} {i : Nat} (h2 : ∀ j, j < P 14 → P (126 + 3 * j + 1) ≤ i) : (-4 : Int32) = vialAtN P i := by
  have e := fb_all (f := fun k => P (126 + 3 * k + 1)) (d := i) (n := P 14) h2
  unfold vialAtN
  rw [e, if_neg (Nat.lt_irrefl _)]
theorem nI_dec {k : Nat} (h : 1 ≤ k) : nI k + Int32.ofInt (-1) = nI (k - 1) := by
  rw [← pk_sub h, Int32.sub_eq_add_neg]
  rfl
theorem in0_neg {x y : Int32} (h : x < 0) : ¬ (nI 0 ≤ x ∧ x ≤ y) := fun q => absurd h (Int32.not_lt.mpr q.1)
