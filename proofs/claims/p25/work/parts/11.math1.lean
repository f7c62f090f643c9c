/-! ===== the mathematics of a page: bounds, melting, drawing, telling ===== -/
def SegK (kd ln dn mo : Nat) : Prop := 1 ≤ ln ∧ ln ≤ 300 ∧ ((kd = 0 ∧ 60 ≤ dn ∧ dn ≤ 92 ∧ mo ≤ 50) ∨ (kd = 1 ∧ dn = 0 ∧ mo = 0) ∨ (kd = 2 ∧ 60 ≤ dn ∧ dn ≤ 92 ∧ 1 ≤ mo ∧ mo ≤ 100))
def SegOk (P : Nat → Nat) : Prop := P 8 ≤ 20 ∧ ∀ k, k < P 8 → SegK (P (46 + 4 * k)) (P (46 + 4 * k + 1)) (P (46 + 4 * k + 2)) (P (46 + 4 * k + 3))
def SetOk (P : Nat → Nat) : Prop := P 0 ≤ 200 ∧ 10 ≤ P 1 ∧ P 1 ≤ 200 ∧ 100 ≤ P 2 ∧ P 2 ≤ 20000 ∧ 1 ≤ P 3 ∧ P 3 ≤ 500 ∧ 50 ≤ P 4 ∧ P 4 ≤ 5000 ∧ 5 ≤ P 5 ∧ P 5 ≤ 200 ∧ 50 ≤ P 6 ∧ P 6 ≤ 5000 ∧ P 7 ≤ 50
def top (P : Nat → Nat) : Nat := low (lnP P) (P 8)
theorem low_mono (ln : Nat → Nat) : ∀ {i j : Nat}, i ≤ j → low ln i ≤ low ln j := by
  intro i j h
  induction h with
  | refl => exact Nat.le_refl _
  | step h ih => exact Nat.le_trans ih (Nat.le_add_right _ _)
theorem low_bound {ln : Nat → Nat} : ∀ {n : Nat}, (∀ k, k < n → ln k ≤ 300) → low ln n ≤ 300 * n
  | 0, _ => Nat.le_refl _
  | n + 1, h => by
    have h1 := low_bound (n := n) (fun k hk => h k (by omega))
    have h2 := h n (Nat.lt_succ_self n)
    show low ln n + ln n ≤ 300 * (n + 1)
    omega
theorem low_congr {f g : Nat → Nat} : ∀ {n : Nat}, (∀ k, k < n → f k = g k) → low f n = low g n
  | 0, _ => rfl
  | n + 1, h => by
    show low f n + f n = low g n + g n
    rw [low_congr (fun k hk => h k (by omega)), h n (Nat.lt_succ_self n)]
theorem sg_lt {ln : Nat → Nat} {d : Nat} : ∀ {n : Nat}, d < low ln n → sg ln d n < n ∧ low ln (sg ln d n) ≤ d ∧ d < low ln (sg ln d n + 1)
  | 0, h => absurd h (Nat.not_lt_zero _)
  | n + 1, h => by
    by_cases hd : d < low ln n
    · obtain ⟨h1, h2, h3⟩ := sg_lt (n := n) hd
      have e : sg ln d (n + 1) = sg ln d n := by
        show (if sg ln d n < n then sg ln d n else _) = _
        rw [if_pos h1]
      rw [e]
      exact ⟨by omega, h2, h3⟩
    · have e0 : sg ln d n = n := sg_all (fun j hj => Nat.le_trans (low_mono ln (show j + 1 ≤ n by omega)) (by omega))
      have e : sg ln d (n + 1) = n := by
        show (if sg ln d n < n then sg ln d n else if low ln (n + 1) ≤ d then n + 1 else n) = n
        rw [if_neg (by omega), if_neg (by omega)]
      rw [e]
      exact ⟨Nat.lt_succ_self n, by omega, h⟩
/-- the water of all below a depth, of the whole segments, and the depth that so much water reaches -/
def wat (ln dn : Nat → Nat) (d : Nat) : Nat → Nat
  | 0 => 0
  | k + 1 => wat ln dn d k + min (ln k) (d - low ln k) * dn k
def wsm (ln dn : Nat → Nat) : Nat → Nat
  | 0 => 0
  | k + 1 => wsm ln dn k + ln k * dn k
def dep (ln dn : Nat → Nat) (w : Nat) : Nat → Nat
  | 0 => 0
  | k + 1 => if wsm ln dn k ≤ w then low ln k + (if dn k = 0 then ln k else min (ln k) ((w - wsm ln dn k) / dn k)) else dep ln dn w k
theorem wsm_mono (ln dn : Nat → Nat) : ∀ {i j : Nat}, i ≤ j → wsm ln dn i ≤ wsm ln dn j := by
  intro i j h
  induction h with
  | refl => exact Nat.le_refl _
  | step h ih => exact Nat.le_trans ih (Nat.le_add_right _ _)
theorem wat_full (ln dn : Nat → Nat) {d : Nat} : ∀ {n : Nat}, low ln n ≤ d → wat ln dn d n = wsm ln dn n
  | 0, _ => rfl
  | n + 1, h => by
    have h0 : low ln n + ln n ≤ d := h
    show wat ln dn d n + min (ln n) (d - low ln n) * dn n = wsm ln dn n + ln n * dn n
    rw [wat_full ln dn (n := n) (by omega), Nat.min_eq_left (by omega)]
theorem wat_le (ln dn : Nat → Nat) (d : Nat) : ∀ n, wat ln dn d n ≤ wsm ln dn n
  | 0 => Nat.le_refl _
  | n + 1 => Nat.add_le_add (wat_le ln dn d n) (Nat.mul_le_mul_right _ (Nat.min_le_left _ _))
theorem wat_more (ln dn : Nat → Nat) {d : Nat} : ∀ {n k : Nat}, d ≤ low ln n → n ≤ k → wat ln dn d k = wat ln dn d n := by
  intro n k hd h
  induction h with
  | refl => rfl
  | step h ih =>
    rename_i m
    show wat ln dn d m + min (ln m) (d - low ln m) * dn m = _
    rw [ih, Nat.sub_eq_zero_of_le (Nat.le_trans hd (low_mono ln h)), Nat.min_zero, Nat.zero_mul, Nat.add_zero]
theorem dep_le (ln dn : Nat → Nat) (w : Nat) : ∀ n, dep ln dn w n ≤ low ln n
  | 0 => Nat.le_refl _
  | n + 1 => by
    have h := dep_le ln dn w n
    show (if wsm ln dn n ≤ w then low ln n + (if dn n = 0 then ln n else min (ln n) ((w - wsm ln dn n) / dn n)) else dep ln dn w n) ≤ low ln n + ln n
    split
    · split
      · omega
      · have := Nat.min_le_left (ln n) ((w - wsm ln dn n) / dn n)
        omega
    · omega
theorem dep_iff (ln dn : Nat → Nat) (w d : Nat) : ∀ n, d ≤ low ln n → (wat ln dn d n ≤ w ↔ d ≤ dep ln dn w n)
  | 0, h => by
    have h : d ≤ 0 := h
    exact ⟨fun _ => h, fun _ => Nat.zero_le _⟩
  | n + 1, h => by
    have h : d ≤ low ln n + ln n := h
    have hl := dep_le ln dn w n
    show wat ln dn d n + min (ln n) (d - low ln n) * dn n ≤ w ↔ d ≤ (if wsm ln dn n ≤ w then low ln n + (if dn n = 0 then ln n else min (ln n) ((w - wsm ln dn n) / dn n)) else dep ln dn w n)
    by_cases hd : d ≤ low ln n
    · rw [Nat.sub_eq_zero_of_le hd, Nat.min_zero, Nat.zero_mul, Nat.add_zero]
      by_cases hw : wsm ln dn n ≤ w
      · rw [if_pos hw]
        have := wat_le ln dn d n
        exact ⟨fun _ => by omega, fun _ => by omega⟩
      · rw [if_neg hw]
        exact dep_iff ln dn w d n hd
    · rw [wat_full ln dn (n := n) (by omega), Nat.min_eq_right (by omega)]
      by_cases hw : wsm ln dn n ≤ w
      · rw [if_pos hw]
        by_cases h0 : dn n = 0
        · rw [if_pos h0, h0]
          exact ⟨fun _ => h, fun _ => by omega⟩
        · rw [if_neg h0]
          have h1 : d - low ln n ≤ (w - wsm ln dn n) / dn n ↔ (d - low ln n) * dn n ≤ w - wsm ln dn n := Nat.le_div_iff_mul_le (by omega)
          have h2 : min (ln n) ((w - wsm ln dn n) / dn n) = ln n ∨ min (ln n) ((w - wsm ln dn n) / dn n) = (w - wsm ln dn n) / dn n := by omega
          generalize (d - low ln n) * dn n = z at h1 ⊢
          generalize (w - wsm ln dn n) / dn n = y at h1 h2 ⊢
          constructor
          · intro hz
            have := h1.mpr (by omega)
            omega
          · intro hz
            have := h1.mp (by omega)
            omega
      · rw [if_neg hw]
        constructor
        · intro hz; omega
        · intro hz; omega
theorem dep_stop (ln dn : Nat → Nat) {w k : Nat} : ∀ {n : Nat}, k ≤ n → w < wsm ln dn k → dep ln dn w n = dep ln dn w k := by
  intro n h hw
  induction h with
  | refl => rfl
  | step h ih =>
    rename_i m
    show (if wsm ln dn m ≤ w then _ else dep ln dn w m) = _
    have := wsm_mono ln dn h
    rw [if_neg (by omega), ih]
/-- the depth that is told: the greatest one, at most the front, below which there is at most so much water -/
theorem told_is {ln dn : Nat → Nat} {w d fr n : Nat} (hf : fr ≤ low ln n) (hd : d ≤ fr) (h1 : wat ln dn d n ≤ w) (h2 : d = fr ∨ w < wat ln dn (d + 1) n) : min (dep ln dn w n) fr = d := by
  have h3 := (dep_iff ln dn w d n (by omega)).mp h1
  rcases h2 with h2 | h2
  · omega
  · by_cases e : d = fr
    · omega
    · have h4 := dep_iff ln dn w (d + 1) n (by omega)
      omega
theorem wat_bound {ln dn : Nat → Nat} {d : Nat} : ∀ {n : Nat}, (∀ k, k < n → dn k ≤ 92) → wat ln dn d n ≤ 92 * min d (low ln n)
  | 0, _ => by show 0 ≤ _; omega
  | n + 1, h => by
    have h1 := wat_bound (ln := ln) (d := d) (n := n) (fun k hk => h k (by omega))
    have h2 := h n (Nat.lt_succ_self n)
    show wat ln dn d n + min (ln n) (d - low ln n) * dn n ≤ 92 * min d (low ln n + ln n)
    have h3 : min (ln n) (d - low ln n) * dn n ≤ min (ln n) (d - low ln n) * 92 := Nat.mul_le_mul_left _ h2
    generalize min (ln n) (d - low ln n) * dn n = z at h3 ⊢
    omega
def toldF (P : Nat → Nat) : Nat := min (dep (lnP P) (dnP P) (P 20 + P 21) (P 8)) (P 9)
def stuckN (P : Nat → Nat) : Nat := P 26 + P 31 + P 36 + P 41
def reasonF (P : Nat → Nat) : Nat := if P 9 = top P then 1 else if stuckN P = 4 then 2 else if P 2 ≤ P 11 then 3 else 0
def gasU (P : Nat → Nat) (i : Nat) : Nat := if P (46 + 4 * i) = 0 then P (46 + 4 * i + 2) * P (46 + 4 * i + 3) / 100 else 0
def dirtU (P : Nat → Nat) (i : Nat) : Nat := if P (46 + 4 * i) = 2 then P (46 + 4 * i + 3) else 0
def unitG (P : Nat → Nat) (h d g t : Nat) : Nat → Nat := up (up (up (up (up (up (up (up P 10 (P 10 - h)) 9 (P 9 + 1)) 11 (P 11 + d)) 12 (P 12 + g)) 13 (P 13 + t)) 19 (P 19 + d)) 22 (P 22 + g)) 24 (P 24 + t)
def unitF (P : Nat → Nat) (i : Nat) : Nat → Nat := unitG P (P 1 * P (46 + 4 * i + 2) / 100) (P (46 + 4 * i + 2)) (gasU P i) (dirtU P i)
/-- the segment in which the front is -/
def sgF (P : Nat → Nat) : Nat := sg (lnP P) (P 9) (P 8)
def melL : Nat → (Nat → Nat) → (Nat → Nat)
  | 0, P => P
  | f + 1, P => if P 9 < top P ∧ P 11 < P 2 then
      if P (46 + 4 * sgF P) = 1 then melL f (up P 9 (low (lnP P) (sgF P + 1)))
      else if P 1 * P (46 + 4 * sgF P + 2) / 100 ≤ P 10 then melL f (unitF P (sgF P)) else P
    else P
def meltF (P : Nat → Nat) : Nat → Nat := up (melL 6001 (up P 10 (P 10 + P 0))) 10 (if melL 6001 (up P 10 (P 10 + P 0)) 9 = top P then 0 else melL 6001 (up P 10 (P 10 + P 0)) 10)
theorem melL_stop1 {P : Nat → Nat} (h : ¬ P 9 < top P) : ∀ f, melL f P = P
  | 0 => rfl
  | f + 1 => by rw [melL, if_neg (fun q => h q.1)]
theorem melL_stop2 {P : Nat → Nat} (h : ¬ P 11 < P 2) : ∀ f, melL f P = P
  | 0 => rfl
  | f + 1 => by rw [melL, if_neg (fun q => h q.2)]
theorem melL_stop3 {P : Nat → Nat} (hk : ¬ P (46 + 4 * sgF P) = 1) (h : ¬ P 1 * P (46 + 4 * sgF P + 2) / 100 ≤ P 10) : ∀ f, melL f P = P
  | 0 => rfl
  | f + 1 => by
    rw [melL, if_neg hk, if_neg h]
    split <;> rfl
theorem melL_crack {P : Nat → Nat} (h1 : P 9 < top P) (h2 : P 11 < P 2) (hk : P (46 + 4 * sgF P) = 1) (f : Nat) : melL (f + 1) P = melL f (up P 9 (low (lnP P) (sgF P + 1))) := by
  rw [melL, if_pos ⟨h1, h2⟩, if_pos hk]
theorem melL_unit {P : Nat → Nat} (h1 : P 9 < top P) (h2 : P 11 < P 2) (hk : ¬ P (46 + 4 * sgF P) = 1) (h : P 1 * P (46 + 4 * sgF P + 2) / 100 ≤ P 10) (f : Nat) : melL (f + 1) P = melL f (unitF P (sgF P)) := by
  rw [melL, if_pos ⟨h1, h2⟩, if_neg hk, if_pos h]
/-- where a unit or a leap changes a page -/
theorem unitG_o (P : Nat → Nat) (h d g t : Nat) {k : Nat} (h1 : k ≠ 9) (h2 : k ≠ 10) (h3 : k ≠ 11) (h4 : k ≠ 12) (h5 : k ≠ 13) (h6 : k ≠ 19) (h7 : k ≠ 22) (h8 : k ≠ 24) : unitG P h d g t k = P k := by
  simp [unitG, up, h1, h2, h3, h4, h5, h6, h7, h8]
theorem unitF_o (P : Nat → Nat) (i : Nat) {k : Nat} (h : k < 9 ∨ (13 < k ∧ k < 19) ∨ k = 20 ∨ k = 21 ∨ k = 23 ∨ 24 < k) : unitF P i k = P k := unitG_o _ _ _ _ _ (by omega) (by omega) (by omega) (by omega) (by omega) (by omega) (by omega) (by omega)
def MelOk (P : Nat → Nat) : Prop := P 9 ≤ top P ∧ P 19 = wat (lnP P) (dnP P) (P 9) (P 8) ∧ P 22 ≤ 46 * P 9 ∧ P 24 ≤ 100 * P 9
def DrOk (P : Nat → Nat) : Prop := P 19 = P 11 + P 20 + P 21 ∧ P 22 = P 12 + P 23 ∧ P 24 = P 13 + P 25 ∧ P 15 ≤ P 20
def LinOk (P : Nat → Nat) : Prop := ∀ i, i < 4 → P (26 + 5 * i) ≤ 1 ∧ P (26 + 5 * i + 1) ≤ P 25 ∧ P (26 + 5 * i + 2) ≤ 51
def VialOk (P : Nat → Nat) : Prop := P 14 ≤ 40 ∧ ∀ v, v < P 14 → P (126 + 3 * v + 1) ≤ 6000
def CntOk (P : Nat → Nat) : Prop := P 16 ≤ 20000 ∧ P 10 ≤ 200 * P 16 ∧ P 17 ≤ 3 ∧ P 18 ≤ P 16
def Inv (P : Nat → Nat) : Prop := SegOk P ∧ SetOk P ∧ MelOk P ∧ DrOk P ∧ LinOk P ∧ VialOk P ∧ CntOk P
theorem SegOk.top_le {P : Nat → Nat} (h : SegOk P) : top P ≤ 6000 := by
  have := low_bound (ln := lnP P) (n := P 8) (fun k hk => (h.2 k hk).2.1)
  have := h.1
  show low (lnP P) (P 8) ≤ 6000
  omega
theorem SegOk.dn_le {P : Nat → Nat} (h : SegOk P) : ∀ k, k < P 8 → dnP P k ≤ 92 := fun k hk => by
  have := (h.2 k hk).2.2
  show P (46 + 4 * k + 2) ≤ 92
  omega

