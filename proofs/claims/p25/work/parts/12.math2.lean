/-! ===== melting keeps the bounds ===== -/
theorem wat_in {ln dn : Nat → Nat} {d i n : Nat} (hi : i < n) (h1 : low ln i ≤ d) (h2 : d ≤ low ln (i + 1)) : wat ln dn d n = wsm ln dn i + (d - low ln i) * dn i := by
  rw [wat_more ln dn h2 (show i + 1 ≤ n from hi)]
  have h2 : d ≤ low ln i + ln i := h2
  show wat ln dn d i + min (ln i) (d - low ln i) * dn i = _
  rw [wat_full ln dn h1, Nat.min_eq_right (by omega)]
theorem wat_step {ln dn : Nat → Nat} {d i n : Nat} (hi : i < n) (h1 : low ln i ≤ d) (h2 : d < low ln (i + 1)) : wat ln dn (d + 1) n = wat ln dn d n + dn i := by
  rw [wat_in hi h1 (Nat.le_of_lt h2), wat_in (d := d + 1) hi (by omega) h2, show d + 1 - low ln i = (d - low ln i) + 1 by omega, Nat.succ_mul]
  omega
theorem wat_leap {ln dn : Nat → Nat} {d i n : Nat} (hi : i < n) (h1 : low ln i ≤ d) (h2 : d ≤ low ln (i + 1)) (h0 : dn i = 0) : wat ln dn (low ln (i + 1)) n = wat ln dn d n := by
  rw [wat_in hi h1 h2, wat_in hi (low_mono ln (Nat.le_succ i)) (Nat.le_refl _), h0, Nat.mul_zero, Nat.mul_zero]
/-- pages that agree but where melting writes -/
def AgM (P Q : Nat → Nat) : Prop := ∀ k, (k < 9 ∨ (13 < k ∧ k < 19) ∨ k = 20 ∨ k = 21 ∨ k = 23 ∨ 24 < k) → Q k = P k
theorem AgM.rf (P : Nat → Nat) : AgM P P := fun _ _ => rfl
theorem AgM.tr {P Q R : Nat → Nat} (h : AgM P Q) (g : AgM Q R) : AgM P R := fun k hk => (g k hk).trans (h k hk)
theorem AgM.ln {P Q : Nat → Nat} (h : AgM P Q) : lnP Q = lnP P := funext fun k => h _ (by omega)
theorem AgM.dn {P Q : Nat → Nat} (h : AgM P Q) : dnP Q = dnP P := funext fun k => h _ (by omega)
theorem AgM.top {P Q : Nat → Nat} (h : AgM P Q) : top Q = top P := by
  show low (lnP Q) (Q 8) = low (lnP P) (P 8)
  rw [h.ln, h 8 (by omega)]
theorem AgM.seg {P Q : Nat → Nat} (h : AgM P Q) (hS : SegOk P) : SegOk Q := by
  refine ⟨by rw [h 8 (by omega)]; exact hS.1, fun k hk => ?_⟩
  rw [h 8 (by omega)] at hk
  rw [h _ (by omega), h (46 + 4 * k + 1) (by omega), h (46 + 4 * k + 2) (by omega), h (46 + 4 * k + 3) (by omega)]
  exact hS.2 k hk
theorem AgM.set {P Q : Nat → Nat} (h : AgM P Q) (hS : SetOk P) : SetOk Q := by
  unfold SetOk at hS ⊢
  rw [h 0 (by omega), h 1 (by omega), h 2 (by omega), h 3 (by omega), h 4 (by omega), h 5 (by omega), h 6 (by omega), h 7 (by omega)]
  exact hS
theorem AgM.unit (P : Nat → Nat) (i : Nat) : AgM P (unitF P i) := fun _ h => unitF_o P i h
theorem AgM.up9 (P : Nat → Nat) (x : Nat) : AgM P (up P 9 x) := fun _ h => up_n _ _ (by omega)
theorem AgM.up10 (P : Nat → Nat) (x : Nat) : AgM P (up P 10 x) := fun _ h => up_n _ _ (by omega)
theorem gasU_le {P : Nat → Nat} (hS : SegOk P) {i : Nat} (hi : i < P 8) : gasU P i ≤ 46 := by
  unfold gasU
  split
  · rename_i h0
    have h := (hS.2 i hi).2.2
    have h1 : P (46 + 4 * i + 2) ≤ 92 ∧ P (46 + 4 * i + 3) ≤ 50 := by omega
    have h2 := Nat.mul_le_mul h1.1 h1.2
    omega
  · exact Nat.zero_le _
theorem dirtU_le {P : Nat → Nat} (hS : SegOk P) {i : Nat} (hi : i < P 8) : dirtU P i ≤ 100 := by
  unfold dirtU
  split
  · have h := (hS.2 i hi).2.2
    omega
  · exact Nat.zero_le _
theorem sgF_lt {P : Nat → Nat} (h : P 9 < top P) : sgF P < P 8 ∧ low (lnP P) (sgF P) ≤ P 9 ∧ P 9 < low (lnP P) (sgF P + 1) := sg_lt h
theorem unitF_9 (P : Nat → Nat) (i : Nat) : unitF P i 9 = P 9 + 1 := by simp [unitF, unitG, up]
theorem unitF_10 (P : Nat → Nat) (i : Nat) : unitF P i 10 = P 10 - P 1 * P (46 + 4 * i + 2) / 100 := by simp [unitF, unitG, up]
theorem unitF_11 (P : Nat → Nat) (i : Nat) : unitF P i 11 = P 11 + P (46 + 4 * i + 2) := by simp [unitF, unitG, up]
theorem unitF_12 (P : Nat → Nat) (i : Nat) : unitF P i 12 = P 12 + gasU P i := by simp [unitF, unitG, up]
theorem unitF_13 (P : Nat → Nat) (i : Nat) : unitF P i 13 = P 13 + dirtU P i := by simp [unitF, unitG, up]
theorem unitF_19 (P : Nat → Nat) (i : Nat) : unitF P i 19 = P 19 + P (46 + 4 * i + 2) := by simp [unitF, unitG, up]
theorem unitF_22 (P : Nat → Nat) (i : Nat) : unitF P i 22 = P 22 + gasU P i := by simp [unitF, unitG, up]
theorem unitF_24 (P : Nat → Nat) (i : Nat) : unitF P i 24 = P 24 + dirtU P i := by simp [unitF, unitG, up]
theorem unit_mel {P : Nat → Nat} (hS : SegOk P) (hM : MelOk P) {i : Nat} (hi : i < P 8) (h1 : low (lnP P) i ≤ P 9) (h2 : P 9 < low (lnP P) (i + 1)) : MelOk (unitF P i) := by
  obtain ⟨m1, m2, m3, m4⟩ := hM
  have hA := AgM.unit P i
  have hg := gasU_le hS hi
  have hd := dirtU_le hS hi
  have hm := low_mono (lnP P) (show i + 1 ≤ P 8 from hi)
  refine ⟨?_, ?_, ?_, ?_⟩
  · rw [hA.top, unitF_9]
    show P 9 + 1 ≤ low (lnP P) (P 8)
    omega
  · rw [hA.ln, hA.dn, hA 8 (by omega), unitF_9, unitF_19, wat_step hi h1 h2, ← m2]
  · rw [unitF_22, unitF_9]; omega
  · rw [unitF_24, unitF_9]; omega
theorem unit_dr {P : Nat → Nat} (hD : DrOk P) (i : Nat) : DrOk (unitF P i) := by
  obtain ⟨d1, d2, d3, d4⟩ := hD
  have hA := AgM.unit P i
  refine ⟨?_, ?_, ?_, ?_⟩
  · rw [unitF_19, unitF_11, hA 20 (by omega), hA 21 (by omega)]; omega
  · rw [unitF_22, unitF_12, hA 23 (by omega)]; omega
  · rw [unitF_24, unitF_13, hA 25 (by omega)]; omega
  · rw [hA 15 (by omega), hA 20 (by omega)]; exact d4
theorem leap_mel {P : Nat → Nat} (hS : SegOk P) (hM : MelOk P) {i : Nat} (hi : i < P 8) (hk : P (46 + 4 * i) = 1) (h1 : low (lnP P) i ≤ P 9) (h2 : P 9 < low (lnP P) (i + 1)) : MelOk (up P 9 (low (lnP P) (i + 1))) := by
  obtain ⟨m1, m2, m3, m4⟩ := hM
  have hA := AgM.up9 P (low (lnP P) (i + 1))
  have hm := low_mono (lnP P) (show i + 1 ≤ P 8 from hi)
  have h0 : dnP P i = 0 := by
    have h := (hS.2 i hi).2.2
    show P (46 + 4 * i + 2) = 0
    omega
  refine ⟨?_, ?_, ?_, ?_⟩
  · rw [hA.top, up_s]; exact hm
  · rw [hA.ln, hA.dn, hA 8 (by omega), up_s, up_n _ _ (by decide), wat_leap hi h1 (Nat.le_of_lt h2) h0]; exact m2
  · rw [up_n _ _ (by decide), up_s]; omega
  · rw [up_n _ _ (by decide), up_s]; omega
theorem up9_dr {P : Nat → Nat} (hD : DrOk P) (x : Nat) : DrOk (up P 9 x) := hD
theorem up10_dr {P : Nat → Nat} (hD : DrOk P) (x : Nat) : DrOk (up P 10 x) := hD
theorem up10_mel {P : Nat → Nat} (hM : MelOk P) (x : Nat) : MelOk (up P 10 x) := by
  have hA := AgM.up10 P x
  unfold MelOk
  rw [hA.ln, hA.dn, hA.top, hA 8 (by omega)]
  exact hM
theorem melL_ok : ∀ (f : Nat) (P : Nat → Nat), SegOk P → MelOk P → DrOk P → AgM P (melL f P) ∧ MelOk (melL f P) ∧ DrOk (melL f P) ∧ melL f P 10 ≤ P 10
  | 0, P, _, hM, hD => ⟨AgM.rf P, hM, hD, Nat.le_refl _⟩
  | f + 1, P, hS, hM, hD => by
    rw [melL]
    split
    · rename_i h
      obtain ⟨g1, g2, g3⟩ := sgF_lt h.1
      split
      · rename_i hk
        obtain ⟨a, b, c, d⟩ := melL_ok f _ ((AgM.up9 P _).seg hS) (leap_mel hS hM g1 hk g2 g3) (up9_dr hD _)
        exact ⟨(AgM.up9 P _).tr a, b, c, by rw [up_n _ _ (by decide)] at d; exact d⟩
      · split
        · obtain ⟨a, b, c, d⟩ := melL_ok f _ ((AgM.unit P _).seg hS) (unit_mel hS hM g1 g2 g3) (unit_dr hD _)
          exact ⟨(AgM.unit P _).tr a, b, c, by rw [unitF_10] at d; omega⟩
        · exact ⟨AgM.rf P, hM, hD, Nat.le_refl _⟩
    · exact ⟨AgM.rf P, hM, hD, Nat.le_refl _⟩
theorem meltF_ok {P : Nat → Nat} (hS : SegOk P) (hM : MelOk P) (hD : DrOk P) : AgM P (meltF P) ∧ MelOk (meltF P) ∧ DrOk (meltF P) ∧ meltF P 10 ≤ P 10 + P 0 := by
  obtain ⟨a, b, c, d⟩ := melL_ok 6001 (up P 10 (P 10 + P 0)) ((AgM.up10 P _).seg hS) (up10_mel hM _) (up10_dr hD _)
  rw [up_s] at d
  refine ⟨((AgM.up10 P _).tr a).tr (AgM.up10 _ _), up10_mel b _, up10_dr c _, ?_⟩
  show up _ 10 _ 10 ≤ _
  rw [up_s]
  split <;> omega

