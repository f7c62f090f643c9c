/-! ===== p25: what the calls answer, over numbers ===== -/
def wF (P : Nat → Nat) (d : Nat) : Nat := wat (lnP P) (dnP P) d (P 8)
section AN
variable {P : Nat → Nat} {n : Nat}
theorem a_cset {k : Nat} (h : k < 8) : on1 (countN P n 0) (nI k) = nI (P k) := by
  rw [on1_nat (by omega)]
  unfold countN
  rw [if_pos h]
theorem a_c8 : on1 (countN P n 0) (nI 8) = nI (P 8) := by
  rw [on1_nat (by decide)]
  simp [countN]
theorem a_c9 : on1 (countN P n 0) (nI 9) = nI (top P) := by
  rw [on1_nat (by decide)]
  simp [countN]
theorem a_c10 : on1 (countN P n 0) (nI 10) = nI (P 9) := by
  rw [on1_nat (by decide)]
  simp [countN]
theorem a_c11 : on1 (countN P n 0) (nI 11) = nI (P 10) := by
  rw [on1_nat (by decide)]
  simp [countN]
theorem a_c12 : on1 (countN P n 0) (nI 12) = nI (P 11) := by
  rw [on1_nat (by decide)]
  simp [countN]
theorem a_c13 : on1 (countN P n 0) (nI 13) = nI (P 12) := by
  rw [on1_nat (by decide)]
  simp [countN]
theorem a_c14 : on1 (countN P n 0) (nI 14) = nI (P 13) := by
  rw [on1_nat (by decide)]
  simp [countN]
theorem a_c15 : on1 (countN P n 0) (nI 15) = nI (toldF P) := by
  rw [on1_nat (by decide)]
  simp [countN]
theorem a_c16 : on1 (countN P n 0) (nI 16) = nI (P 14) := by
  rw [on1_nat (by decide)]
  simp [countN]
theorem a_c17 : on1 (countN P n 0) (nI 17) = nI (P 15) := by
  rw [on1_nat (by decide)]
  simp [countN]
theorem a_c18 : on1 (countN P n 0) (nI 18) = nI (P 16) := by
  rw [on1_nat (by decide)]
  simp [countN]
theorem a_c19 : on1 (countN P n 0) (nI 19) = nI (P 17) := by
  rw [on1_nat (by decide)]
  simp [countN]
theorem a_c20 : on1 (countN P n 0) (nI 20) = nI (P 18) := by
  rw [on1_nat (by decide)]
  simp [countN]
theorem a_c21 : on1 (countN P n 0) (nI 21) = nI (stuckN P) := by
  rw [on1_nat (by decide)]
  simp [countN]
theorem a_c22 : on1 (countN P n 0) (nI 22) = nI (n) := by
  rw [on1_nat (by decide)]
  simp [countN]
theorem a_cX : on1 (countN P n 0) (nI 24) = -1 := by
  rw [on1_nat (by decide)]
  simp [countN]
theorem a_cM : on1 (countN P n 0) (-1) = -1 := on1_neg (by decide)
theorem a_acc {k : Nat} (h : k < 7) : on1 (accN P) (nI k) = nI (P (19 + k)) := by
  rw [on1_nat (by omega)]
  exact if_pos h
theorem a_a0 : on1 (accN P) (nI 0) = nI (P 19) := a_acc (k := 0) (by decide)
theorem a_a1 : on1 (accN P) (nI 1) = nI (P 20) := a_acc (k := 1) (by decide)
theorem a_a2 : on1 (accN P) (nI 2) = nI (P 21) := a_acc (k := 2) (by decide)
theorem a_a3 : on1 (accN P) (nI 3) = nI (P 22) := a_acc (k := 3) (by decide)
theorem a_a4 : on1 (accN P) (nI 4) = nI (P 23) := a_acc (k := 4) (by decide)
theorem a_a5 : on1 (accN P) (nI 5) = nI (P 24) := a_acc (k := 5) (by decide)
theorem a_a6 : on1 (accN P) (nI 6) = nI (P 25) := a_acc (k := 6) (by decide)
theorem a_aX : on1 (accN P) (nI 7) = -1 := by
  rw [on1_nat (by decide)]
  exact if_neg (by decide)
theorem a_line {i k : Nat} (hi : i < 4) (hk : k < 5) : on2 (lineN P) (nI i) (nI k) = nI (P (26 + 5 * i + k)) := by
  rw [on2_nat (by omega) (by omega)]
  exact if_pos ⟨hi, hk⟩
theorem a_l0 {i : Nat} (hi : i < 4) : on2 (lineN P) (nI i) (nI 0) = nI (P (26 + 5 * i)) := a_line hi (by decide)
theorem a_l1 {i : Nat} (hi : i < 4) : on2 (lineN P) (nI i) (nI 1) = nI (P (26 + 5 * i + 1)) := a_line hi (by decide)
theorem a_l2 {i : Nat} (hi : i < 4) : on2 (lineN P) (nI i) (nI 2) = nI (P (26 + 5 * i + 2)) := a_line hi (by decide)
theorem a_l3 {i : Nat} (hi : i < 4) : on2 (lineN P) (nI i) (nI 3) = nI (P (26 + 5 * i + 3)) := a_line hi (by decide)
theorem a_l4 {i : Nat} (hi : i < 4) : on2 (lineN P) (nI i) (nI 4) = nI (P (26 + 5 * i + 4)) := a_line hi (by decide)
theorem a_lX : on2 (lineN P) (nI 4) (nI 0) = -1 := by
  rw [on2_nat (by decide) (by decide)]
  exact if_neg (by omega)
theorem a_lY : on2 (lineN P) (nI 0) (nI 5) = -1 := by
  rw [on2_nat (by decide) (by decide)]
  exact if_neg (by omega)
theorem a_w {d : Nat} (h : d ≤ top P) (h2 : d < 2 ^ 31) : on1 (watN P) (nI d) = nI (wF P d) := by
  rw [on1_nat h2]
  exact if_pos h
theorem a_wX {d : Nat} (h : top P < d) (h2 : d < 2 ^ 31) : on1 (watN P) (nI d) = -1 := by
  rw [on1_nat h2]
  exact if_neg (by omega)
theorem a_wM : on1 (watN P) (-1) = -1 := on1_neg (by decide)
theorem a_v0 {v : Nat} (h : v < P 14) (h2 : P 14 ≤ 40) : on2 (vialN P) (nI v) (nI 0) = nI (P (126 + 3 * v)) := by
  rw [on2_nat (by omega) (by decide)]
  unfold vialN
  rw [if_pos ⟨h, by decide⟩, if_pos rfl]
theorem a_v1 {v : Nat} (h : v < P 14) (h2 : P 14 ≤ 40) : on2 (vialN P) (nI v) (nI 1) = nI (P (126 + 3 * v + 1)) := by
  rw [on2_nat (by omega) (by decide)]
  unfold vialN
  rw [if_pos ⟨h, by decide⟩, if_neg (by decide), if_pos rfl]
theorem a_v2 {v : Nat} (h : v < P 14) (h2 : P 14 ≤ 40) : on2 (vialN P) (nI v) (nI 2) = nI (pdF P v) := by
  rw [on2_nat (by omega) (by decide)]
  unfold vialN pdF
  rw [if_pos ⟨h, by decide⟩, if_neg (by decide), if_neg (by decide), if_pos rfl]
  split <;> rfl
theorem a_v3 {v : Nat} (h : v < P 14) (h2 : P 14 ≤ 40) : on2 (vialN P) (nI v) (nI 3) = nI (P (126 + 3 * v + 2)) := by
  rw [on2_nat (by omega) (by decide)]
  unfold vialN
  rw [if_pos ⟨h, by decide⟩, if_neg (by decide), if_neg (by decide), if_neg (by decide)]
theorem a_vX (h2 : P 14 ≤ 40) : on2 (vialN P) (nI (P 14)) (nI 0) = -1 := by
  rw [on2_nat (by omega) (by decide)]
  exact if_neg (by omega)
theorem a_vM : on2 (vialN P) (-1) (nI 0) = -1 := on2_neg1 (by decide)
theorem a_s0 {i : Nat} (h : i < P 8) (h2 : P 8 ≤ 20) : on2 (segN P) (nI i) (nI 0) = nI (P (46 + 4 * i)) := by
  rw [on2_nat (by omega) (by decide)]
  unfold segN
  rw [if_pos ⟨h, by decide⟩, if_neg (by decide), if_neg (by decide)]
  rfl
theorem a_s1 {i : Nat} (h : i < P 8) (h2 : P 8 ≤ 20) : on2 (segN P) (nI i) (nI 1) = nI (P (46 + 4 * i + 1)) := by
  rw [on2_nat (by omega) (by decide)]
  unfold segN
  rw [if_pos ⟨h, by decide⟩, if_neg (by decide), if_neg (by decide)]
theorem a_s2 {i : Nat} (h : i < P 8) (h2 : P 8 ≤ 20) : on2 (segN P) (nI i) (nI 2) = nI (P (46 + 4 * i + 2)) := by
  rw [on2_nat (by omega) (by decide)]
  unfold segN
  rw [if_pos ⟨h, by decide⟩, if_neg (by decide), if_neg (by decide)]
theorem a_s3 {i : Nat} (h : i < P 8) (h2 : P 8 ≤ 20) : on2 (segN P) (nI i) (nI 3) = nI (P (46 + 4 * i + 3)) := by
  rw [on2_nat (by omega) (by decide)]
  unfold segN
  rw [if_pos ⟨h, by decide⟩, if_neg (by decide), if_neg (by decide)]
theorem a_s4 {i : Nat} (h : i < P 8) (h2 : P 8 ≤ 20) : on2 (segN P) (nI i) (nI 4) = nI (low (lnP P) i) := by
  rw [on2_nat (by omega) (by decide)]
  unfold segN
  rw [if_pos ⟨h, by decide⟩, if_pos rfl]
theorem a_s5 {i : Nat} (h : i < P 8) (h2 : P 8 ≤ 20) : on2 (segN P) (nI i) (nI 5) = nI (min (P 9 - low (lnP P) i) (P (46 + 4 * i + 1))) := by
  rw [on2_nat (by omega) (by decide)]
  unfold segN
  rw [if_pos ⟨h, by decide⟩, if_neg (by decide), if_pos rfl]
theorem a_sX (h2 : P 8 ≤ 20) : on2 (segN P) (nI (P 8)) (nI 0) = -1 := by
  rw [on2_nat (by omega) (by decide)]
  exact if_neg (by omega)
theorem a_sY : on2 (segN P) (nI 0) (nI 6) = -1 := by
  rw [on2_nat (by decide) (by decide)]
  exact if_neg (by omega)
theorem a_sM : on2 (segN P) (-1) (nI 0) = -1 := on2_neg1 (by decide)
theorem a_sa {d : Nat} (h : d < top P) (h2 : d < 2 ^ 31) : on1 (segAtN P) (nI d) = nI (sg (lnP P) d (P 8)) := by
  rw [on1_nat h2]
  exact if_pos h
theorem a_saX {d : Nat} (h : top P ≤ d) (h2 : d < 2 ^ 31) : on1 (segAtN P) (nI d) = -4 := by
  rw [on1_nat h2]
  exact if_neg (by omega)
theorem a_saM : on1 (segAtN P) (-1) = -1 := on1_neg (by decide)
theorem a_va {d : Nat} (h2 : d < 2 ^ 31) (h : fb (fun k => P (126 + 3 * k + 1)) d (P 14) < P 14) : on1 (vialAtN P) (nI d) = nI (fb (fun k => P (126 + 3 * k + 1)) d (P 14)) := by
  rw [on1_nat h2]
  exact if_pos h
theorem a_vaX {d : Nat} (h2 : d < 2 ^ 31) (h : ¬ fb (fun k => P (126 + 3 * k + 1)) d (P 14) < P 14) : on1 (vialAtN P) (nI d) = -4 := by
  rw [on1_nat h2]
  exact if_neg h
theorem a_vaM : on1 (vialAtN P) (-1) = -1 := on1_neg (by decide)
theorem a_if0 (q : Nat) : ifN P q 0 = nI (toldF (itF P q)) := if_pos rfl
theorem a_if1 (q : Nat) : ifN P q 1 = nI (itF P q 9) := by
  unfold ifN
  rw [if_neg (by decide), if_pos rfl]
theorem a_if2 {q : Nat} (h : P 20 ≤ itF P q 20) : ifN P q 2 = nI (itF P q 20 - P 20) := by
  unfold ifN
  rw [if_neg (by decide), if_neg (by decide), if_pos rfl, pk_sub h]
theorem a_if6 {q : Nat} (h : P 18 ≤ itF P q 18) : ifN P q 6 = nI (itF P q 18 - P 18) := by
  unfold ifN
  rw [if_neg (by decide), if_neg (by decide), if_neg (by decide), if_neg (by decide), if_neg (by decide), if_neg (by decide), pk_sub h]
end AN
theorem segI_nat {a b c d : Nat} (ha : a < 2 ^ 31) (hb : b < 2 ^ 31) (hc : c < 2 ^ 31) (hd : d < 2 ^ 31) (hs : segI (nI a) (nI b) (nI c) (nI d)) : SegK a b c d := by
  obtain ⟨a', b', c', d', e1, e2, e3, e4, hk⟩ := hs
  obtain ⟨g1, g2, g3, g4⟩ := segK_lt hk
  rw [(nI_eq ha (by omega)).mp e1, (nI_eq hb (by omega)).mp e2, (nI_eq hc (by omega)).mp e3, (nI_eq hd (by omega)).mp e4]
  exact hk
def lowF (v : Int32) (n : Nat) : Nat := v.toBitVec.toNat % 2 ^ 31 % n
theorem lowF_lt (v : Int32) {n : Nat} (h : 0 < n) : lowF v n < n := Nat.mod_lt _ h
