def brK (g : Nat → Nat) (j : Nat) (f : Nat → Nat) (i k : Nat) : Nat → Nat := fun t => if j ≤ t ∧ t < j + k then f (i + (t - j)) else g t
abbrev brF (g : Nat → Nat) (j : Nat) (f : Nat → Nat) (i : Nat) : Nat → Nat := brK g j f i 246
theorem brK_0 (g : Nat → Nat) (j : Nat) (f : Nat → Nat) (i : Nat) : brK g j f i 0 = g := by
  funext t
  exact if_neg (by omega)
theorem brK_s (g : Nat → Nat) (j : Nat) (f : Nat → Nat) (i k : Nat) : up (brK g j f i k) (j + k) (f (i + k)) = brK g j f i (k + 1) := by
  funext t
  unfold up brK
  by_cases q : t = j + k
  · subst q
    rw [if_pos rfl, if_pos (by omega), Nat.add_sub_cancel_left]
  · rw [if_neg q]
    by_cases q2 : j ≤ t ∧ t < j + k
    · rw [if_pos q2, if_pos (by omega)]
    · rw [if_neg q2, if_neg (by omega)]
/-- the first cells of the states moved down by one state -/
def shK (g : Nat → Nat) (k : Nat) : Nat → Nat := fun t => if t < k then g (t + 246) else g t
theorem shK_0 (g : Nat → Nat) : shK g 0 = g := by
  funext t
  exact if_neg (by omega)
theorem shK_r (g : Nat → Nat) (k : Nat) : shK g k (k + 246) = g (k + 246) := if_neg (by omega)
theorem shK_s (g : Nat → Nat) (k : Nat) : up (shK g k) k (g (k + 246)) = shK g (k + 1) := by
  funext t
  unfold up shK
  by_cases q : t = k
  · subst q
    rw [if_pos rfl, if_pos (by omega)]
  · rw [if_neg q]
    by_cases q2 : t < k
    · rw [if_pos q2, if_pos (by omega)]
    · rw [if_neg q2, if_neg (by omega)]
def h0F (g : Nat → Nat) (n : Nat) : Nat → Nat := if n = 5 then shK g 984 else g
def recF (g : Nat → Nat) (n : Nat) (P : Nat → Nat) : Nat → Nat := brF (h0F g n) (246 * min n 4) P 0
def KIND (k d m : Int32) : Prop := (k = nI 0 ∧ (nI 60 ≤ d ∧ d ≤ nI 92) ∧ (nI 0 ≤ m ∧ m ≤ nI 50)) ∨ (k = nI 1 ∧ d = 0 ∧ m = 0) ∨ (k = nI 2 ∧ (nI 60 ≤ d ∧ d ≤ nI 92) ∧ (nI 1 ≤ m ∧ m ≤ nI 100))
theorem segI_of2 {k l d m : Int32} (h1 : nI 1 ≤ l ∧ l ≤ nI 300) (h : KIND k d m) : segI k l d m := by
  obtain ⟨b, hb, rfl⟩ := i_of (n := 300) (Int32.le_trans (by decide) h1.1) h1.2 (by decide)
  have hb1 := (nI_leI (a := 1) (by decide) (by omega)).mp h1.1
  rcases h with ⟨rfl, ⟨q1, q2⟩, q3, q4⟩ | ⟨rfl, rfl, rfl⟩ | ⟨rfl, ⟨q1, q2⟩, q3, q4⟩
  · obtain ⟨c, hc, rfl⟩ := i_of (n := 92) (Int32.le_trans (by decide) q1) q2 (by decide)
    obtain ⟨e, he, rfl⟩ := i_of q3 q4 (by decide)
    have hc1 := (nI_leI (a := 60) (by decide) (by omega)).mp q1
    exact ⟨0, b, c, e, rfl, rfl, rfl, rfl, hb1, hb, Or.inl ⟨rfl, hc1, hc, he⟩⟩
  · exact ⟨1, b, 0, 0, rfl, rfl, rfl, rfl, hb1, hb, Or.inr (Or.inl ⟨rfl, rfl, rfl⟩)⟩
  · obtain ⟨c, hc, rfl⟩ := i_of (n := 92) (Int32.le_trans (by decide) q1) q2 (by decide)
    obtain ⟨e, he, rfl⟩ := i_of (n := 100) (Int32.le_trans (by decide) q3) q4 (by decide)
    have hc1 := (nI_leI (a := 60) (by decide) (by omega)).mp q1
    have he1 := (nI_leI (a := 1) (by decide) (by omega)).mp q3
    exact ⟨2, b, c, e, rfl, rfl, rfl, rfl, hb1, hb, Or.inr (Or.inr ⟨rfl, hc1, hc, he1, he⟩)⟩
theorem kind_ok {k l d m : Nat} (h : SegK k l d m) : KIND (nI k) (nI d) (nI m) := by
  have b := segK_lt h
  rcases h.2.2 with ⟨rfl, q⟩ | ⟨rfl, rfl, rfl⟩ | ⟨rfl, q⟩
  · exact Or.inl ⟨rfl, ⟨(nI_leI (by decide) (by omega)).mpr q.1, (nI_leI (by omega) (by decide)).mpr q.2.1⟩, (nI_leI (by decide) (by omega)).mpr (Nat.zero_le _), (nI_leI (by omega) (by decide)).mpr q.2.2⟩
  · exact Or.inr (Or.inl ⟨rfl, rfl, rfl⟩)
  · exact Or.inr (Or.inr ⟨rfl, ⟨(nI_leI (by decide) (by omega)).mpr q.1, (nI_leI (by omega) (by decide)).mpr q.2.1⟩, (nI_leI (by decide) (by omega)).mpr q.2.2.1, (nI_leI (by omega) (by decide)).mpr q.2.2.2⟩)
def zrK (P : Nat → Nat) (k : Nat) : Nat → Nat := fun t => if 9 ≤ t ∧ t < k then 0 else P t
theorem zrK_0 (P : Nat → Nat) : zrK P 9 = P := by
  funext t
  exact if_neg (by omega)
theorem zrK_s (P : Nat → Nat) {k : Nat} (h : 9 ≤ k) : up (zrK P k) k 0 = zrK P (k + 1) := by
  funext t
  unfold up zrK
  by_cases q : t = k
  · subst q
    rw [if_pos rfl, if_pos (by omega)]
  · rw [if_neg q]
    by_cases q2 : 9 ≤ t ∧ t < k
    · rw [if_pos q2, if_pos (by omega)]
    · rw [if_neg q2, if_neg (by omega)]
def clnK (P : Nat → Nat) (i : Nat) : Nat → (Nat → Nat)
  | 0 => P
  | j + 1 => up (clnK P i j) (26 + 5 * i + j) 0
theorem clnK_3 (P : Nat → Nat) (i : Nat) : clnK P i 3 = clnF P i := rfl
