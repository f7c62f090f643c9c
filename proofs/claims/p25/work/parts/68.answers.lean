/-! ===== p25: what the calls answer, over numbers ===== -/
def wF (P : Nat → Nat) (d : Nat) : Nat := wat (lnP P) (dnP P) d (P 8)
section AN
variable {P : Nat → Nat} {n : Nat}
theorem a_cset {k : Nat} (h : k < 8) : on1 (countN P n 0) (nI k) = nI (P k) := by
  rw [on1_nat (by omega)]
  unfold countN
  rw [if_pos h]
theorem a_c8 : on1 (countN P n 0) (nI 8) = nI (P 8) := by
  rw [on1_nat (by decide)]
  simp [countN]
theorem a_c9 : on1 (countN P n 0) (nI 9) = nI (top P) := by
  rw [on1_nat (by decide)]
  simp [countN]
theorem a_c10 : on1 (countN P n 0) (nI 10) = nI (P 9) := by
  rw [on1_nat (by decide)]
  simp [countN]
theorem a_c11 : on1 (countN P n 0) (nI 11) = nI (P 10) := by
  rw [on1_nat (by decide)]
  simp [countN]
theorem a_c12 : on1 (countN P n 0) (nI 12) = nI (P 11) := by
  rw [on1_nat (by decide)]
  simp [countN]
theorem a_c13 : on1 (countN P n 0) (nI 13) = nI (P 12) := by
  rw [on1_nat (by decide)]
  simp [countN]
theorem a_c14 : on1 (countN P n 0) (nI 14) = nI (P 13) := by
  rw [on1_nat (by decide)]
  simp [countN]
theorem a_c15 : on1 (countN P n 0) (nI 15) = nI (toldF P) := by
  rw [on1_nat (by decide)]
  simp [countN]
theorem a_c16 : on1 (countN P n 0) (nI 16) = nI (P 14) := by
  rw [on1_nat (by decide)]
  simp [countN]
theorem a_c17 : on1 (countN P n 0) (nI 17) = nI (P 15) := by
  rw [on1_nat (by decide)]
  simp [countN]
theorem a_c18 : on1 (countN P n 0) (nI 18) = nI (P 16) := by
  rw [on1_nat (by decide)]
  simp [countN]
theorem a_c19 : on1 (countN P n 0) (nI 19) = nI (P 17) := by
  rw [on1_nat (by decide)]
  simp [countN]
theorem a_c20 : on1 (countN P n 0) (nI 20) = nI (P 18) := by
  rw [on1_nat (by decide)]
  simp [countN]
theorem a_c21 : on1 (countN P n 0) (nI 21) = nI (stuckN P) := by
  rw [on1_nat (by decide)]
  simp [countN]
theorem a_c22 : on1 (countN P n 0) (nI 22) = nI (n) := by
  rw [on1_nat (by decide)]
  simp [countN]
theorem a_cX : on1 (countN P n 0) (nI 24) = -1 := by
  rw [on1_nat (by decide)]
  simp [countN]
theorem a_cM : on1 (countN P n 0) (-1) = -1 := on1_neg (by decide)
theorem a_acc {k : Nat} (h : k < 7) : on1 (accN P) (nI k) = nI (P (19 + k)) := by
  rw [on1_nat (by omega)]
  exact if_pos h
theorem a_a0 : on1 (accN P) (nI 0) = nI (P 19) := a_acc (k := 0) (by decide)
theorem a_a1 : on1 (accN P) (nI 1) = nI (P 20) := a_acc (k := 1) (by decide)
theorem a_a2 : on1 (accN P) (nI 2) = nI (P 21) := a_acc (k := 2) (by decide)
theorem a_a3 : on1 (accN P) (nI 3) = nI (P 22) := a_acc (k := 3) (by decide)
theorem a_a4 : on1 (accN P) (nI 4) = nI (P 23) := a_acc (k := 4) (by decide)
theorem a_a5 : on1 (accN P) (nI 5) = nI (P 24) := a_acc (k := 5) (by decide)
theorem a_a6 : on1 (accN P) (nI 6) = nI (P 25) := a_acc (k := 6) (by decide)
theorem a_aX : on1 (accN P) (nI 7) = -1 := by
  rw [on1_nat (by decide)]
  exact if_neg (by decide)
theorem a_line {i k : Nat} (hi : i < 4) (hk : k < 5) : on2 (lineN P) (nI i) (nI k) = nI (P (26 + 5 * i + k)) := by
  rw [on2_nat (by omega) (by omega)]
  exact if_pos ⟨hi, hk⟩
theorem a_l0 {i : Nat} (hi : i < 4) : on2 (lineN P) (nI i) (nI 0) = nI (P (26 + 5 * i)) := a_line hi (by decide)
theorem a_l1 {i : Nat} (hi : i < 4) : on2 (lineN P) (nI i) (nI 1) = nI (P (26 + 5 * i + 1)) := a_line hi (by decide)
theorem a_l2 {i : Nat} (hi : i < 4) : on2 (lineN P) (nI i) (nI 2) = nI (P (26 + 5 * i + 2)) := a_line hi (by decide)
theorem a_l3 {i : Nat} (hi : i < 4) : on2 (lineN P) (nI i) (nI 3) = nI (P (26 + 5 * i + 3)) := a_line hi (by decide)
theorem a_l4 {i : Nat} (hi : i < 4) : on2 (lineN P) (nI i) (nI 4) = nI (P (26 + 5 * i + 4)) := a_line hi (by decide)
theorem a_lX : on2 (lineN P) (nI 4) (nI 0) = -1 := by
  rw [on2_nat (by decide) (by decide)]
  exact if_neg (by omega)
theorem a_lY : on2 (lineN P) (nI 0) (nI 5) = -1 := by
  rw [on2_nat (by decide) (by decide)]
  exact if_neg (by omega)
theorem a_w {d : Nat} (h : d ≤ top P) (h2 : d < 2 ^ 31) : on1 (watN P) (nI d) = nI (wF P d) := by
  rw [on1_nat h2]
  exact if_pos h
theorem a_wX {d : Nat} (h : top P < d) (h2 : d < 2 ^ 31) : on1 (watN P) (nI d) = -1 := by
  rw [on1_nat h2]
  exact if_neg (by omega)
theorem a_wM : on1 (watN P) (-1) = -1 := on1_neg (by decide)
theorem a_v0 {v : Nat} (h : v < P 14) (h2 : P 14 ≤ 40) : on2 (vialN P) (nI v) (nI 0) = nI (P (126 + 3 * v)) := by
  rw [on2_nat (by omega) (by decide)]
  unfold vialN
  rw [if_pos ⟨h, by decide⟩, if_pos rfl]
theorem a_v1 {v : Nat} (h : v < P 14) (h2 : P 14 ≤ 40) : on2 (vialN P) (nI v) (nI 1) = nI (P (126 + 3 * v + 1)) := by
  rw [on2_nat (by omega) (by decide)]
  unfold vialN
  rw [if_pos ⟨h, by decide⟩, if_neg (by decide), if_pos rfl]
theorem a_v2 {v : Nat} (h : v < P 14) (h2 : P 14 ≤ 40) : on2 (vialN P) (nI v) (nI 2) = nI (pdF P v) := by
  rw [on2_nat (by omega) (by decide)]
  unfold vialN pdF
  rw [if_pos ⟨h, by decide⟩, if_neg (by decide), if_neg (by decide), if_pos rfl]
  split <;> rfl
theorem a_v3 {v : Nat} (h : v < P 14) (h2 : P 14 ≤ 40) : on2 (vialN P) (nI v) (nI 3) = nI (P (126 + 3 * v + 2)) := by
  rw [on2_nat (by omega) (by decide)]
  unfold vialN
  rw [if_pos ⟨h, by decide⟩, if_neg (by decide), if_neg (by decide), if_neg (by decide)]
theorem a_vX (h2 : P 14 ≤ 40) : on2 (vialN P) (nI (P 14)) (nI 0) = -1 := by
  rw [on2_nat (by omega) (by decide)]
  exact if_neg (by omega)
theorem a_vM : on2 (vialN P) (-1) (nI 0) = -1 := on2_neg1 (by decide)
theorem a_s0 {i : Nat} (h : i < P 8) (h2 : P 8 ≤ 20) : on2 (segN P) (nI i) (nI 0) = nI (P (46 + 4 * i)) := by
  rw [on2_nat (by omega) (by decide)]
  unfold segN
  rw [if_pos ⟨h, by decide⟩, if_neg (by decide), if_neg (by decide)]
  rfl
theorem a_s1 {i : Nat} (h : i < P 8) (h2 : P 8 ≤ 20) : on2 (segN P) (nI i) (nI 1) = nI (P (46 + 4 * i + 1)) := by
  rw [on2_nat (by omega) (by decide)]
  unfold segN
  rw [if_pos ⟨h, by decide⟩, if_neg (by decide), if_neg (by decide)]
theorem a_s2 {i : Nat} (h : i < P 8) (h2 : P 8 ≤ 20) : on2 (segN P) (nI i) (nI 2) = nI (P (46 + 4 * i + 2)) := by
  rw [on2_nat (by omega) (by decide)]
  unfold segN
  rw [if_pos ⟨h, by decide⟩, if_neg (by decide), if_neg (by decide)]
theorem a_s3 {i : Nat} (h : i < P 8) (h2 : P 8 ≤ 20) : on2 (segN P) (nI i) (nI 3) = nI (P (46 + 4 * i + 3)) := by
  rw [on2_nat (by omega) (by decide)]
  unfold segN
  rw [if_pos ⟨h, by decide⟩, if_neg (by decide), if_neg (by decide)]
theorem a_s4 {i : Nat} (h : i < P 8) (h2 : P 8 ≤ 20) : on2 (segN P) (nI i) (nI 4) = nI (low (lnP P) i) := by
  rw [on2_nat (by omega) (by decide)]
  unfold segN
  rw [if_pos ⟨h, by decide⟩, if_pos rfl]
theorem a_s5 {i : Nat} (h : i < P 8) (h2 : P 8 ≤ 20) : on2 (segN P) (nI i) (nI 5) = nI (min (P 9 - low (lnP P) i) (P (46 + 4 * i + 1))) := by
  rw [on2_nat (by omega) (by decide)]
  unfold segN
  rw [if_pos ⟨h, by decide⟩, if_neg (by decide), if_pos rfl]
theorem a_sX (h2 : P 8 ≤ 20) : on2 (segN P) (nI (P 8)) (nI 0) = -1 := by
  rw [on2_nat (by omega) (by decide)]
  exact if_neg (by omega)
theorem a_sY : on2 (segN P) (nI 0) (nI 6) = -1 := by
  rw [on2_nat (by decide) (by decide)]
  exact if_neg (by omega)
theorem a_sM : on2 (segN P) (-1) (nI 0) = -1 := on2_neg1 (by decide)
theorem a_sa {d : Nat} (h : d < top P) (h2 : d < 2 ^ 31) : on1 (segAtN P) (nI d) = nI (sg (lnP P) d (P 8)) := by
  rw [on1_nat h2]
  exact if_pos h
theorem a_saX {d : Nat} (h : top P ≤ d) (h2 : d < 2 ^ 31) : on1 (segAtN P) (nI d) = -4 := by
  rw [on1_nat h2]
  exact if_neg (by omega)
theorem a_saM : on1 (segAtN P) (-1) = -1 := on1_neg (by decide)
theorem a_va {d : Nat} (h2 : d < 2 ^ 31) (h : fb (fun k => P (126 + 3 * k + 1)) d (P 14) < P 14) : on1 (vialAtN P) (nI d) = nI (fb (fun k => P (126 + 3 * k + 1)) d (P 14)) := by
  rw [on1_nat h2]
  exact if_pos h
theorem a_vaX {d : Nat} (h2 : d < 2 ^ 31) (h : ¬ fb (fun k => P (126 + 3 * k + 1)) d (P 14) < P 14) : on1 (vialAtN P) (nI d) = -4 := by
  rw [on1_nat h2]
  exact if_neg h
theorem a_vaM : on1 (vialAtN P) (-1) = -1 := on1_neg (by decide)
theorem a_if0 (q : Nat) : ifN P q 0 = nI (toldF (itF P q)) := if_pos rfl
theorem a_if1 (q : Nat) : ifN P q 1 = nI (itF P q 9) := by
  unfold ifN
  rw [if_neg (by decide), if_pos rfl]
theorem a_if2 {q : Nat} (h : P 20 ≤ itF P q 20) : ifN P q 2 = nI (itF P q 20 - P 20) := by
  unfold ifN
  rw [if_neg (by decide), if_neg (by decide), if_pos rfl, pk_sub h]
theorem a_if6 {q : Nat} (h : P 18 ≤ itF P q 18) : ifN P q 6 = nI (itF P q 18 - P 18) := by
  unfold ifN
  rw [if_neg (by decide), if_neg (by decide), if_neg (by decide), if_neg (by decide), if_neg (by decide), if_neg (by decide), pk_sub h]
end AN
theorem segI_nat {a b c d : Nat} (ha : a < 2 ^ 31) (hb : b < 2 ^ 31) (hc : c < 2 ^ 31) (hd : d < 2 ^ 31) (hs : segI (nI a) (nI b) (nI c) (nI d)) : SegK a b c d := by
  obtain ⟨a', b', c', d', e1, e2, e3, e4, hk⟩ := hs
  obtain ⟨g1, g2, g3, g4⟩ := segK_lt hk
  rw [(nI_eq ha (by omega)).mp e1, (nI_eq hb (by omega)).mp e2, (nI_eq hc (by omega)).mp e3, (nI_eq hd (by omega)).mp e4]
  exact hk
def lowF (v : Int32) (n : Nat) : Nat := v.toBitVec.toNat % 2 ^ 31 % n
theorem lowF_lt (v : Int32) {n : Nat} (h : 0 < n) : lowF v n < n := Nat.mod_lt _ h
/-! ===== p25: what is known of a state ===== -/
theorem wF_b {P : Nat → Nat} (hI : Inv P) (d : Nat) : wF P d ≤ 552000 := by
  have h1 := wat_bound (ln := lnP P) (dn := dnP P) (d := d) (n := P 8) hI.1.dn_le
  have h2 := hI.1.top_le
  have h3 : min d (low (lnP P) (P 8)) ≤ top P := Nat.min_le_right _ _
  show wat (lnP P) (dnP P) d (P 8) ≤ 552000
  omega
theorem told_b {P : Nat → Nat} (hI : Inv P) : toldF P ≤ 6000 := by
  have h1 := toldF_le P
  have h2 : P 9 ≤ top P := hI.2.2.1.1
  have h3 := hI.1.top_le
  omega
theorem S_facts {P : Nat → Nat} {n : Nat} {h : Nat → Nat → Nat} (hS : SI P n h) (hJ : JI P) : P 8 ≤ 20 ∧ P 14 ≤ 40 ∧ toldF P ≤ P 9 ∧ P 9 ≤ top P ∧ top P ≤ 6000 ∧ P 19 = P 11 + P 20 + P 21 ∧ P 22 = P 12 + P 23 ∧ P 24 = P 13 + P 25 ∧ wF P (P 9) = P 19 ∧ wF P (toldF P) ≤ P 20 + P 21 ∧ (toldF P = P 9 ∨ P 20 + P 21 < wF P (toldF P + 1)) ∧ P 11 ≤ 552000 ∧ P 20 + P 21 ≤ 552000 ∧ P 12 ≤ 276000 ∧ P 13 ≤ 600000 ∧ P 25 ≤ 600000 ∧ P 23 ≤ 276000 ∧ P 16 ≤ 20000 ∧ P 10 ≤ 200 * P 16 ∧ P 17 ≤ 3 ∧ P 18 ≤ P 16 ∧ n ≤ 5 ∧ stuckN P = P 26 + P 31 + P 36 + P 41 ∧ stuckN P ≤ 4 := by
  obtain ⟨b1, b2, b3, b4, b5, b6, b7⟩ := hS.1.d.bnd
  have hI := hS.1
  have h5 := hS.2.2.2.1
  obtain ⟨i1, -, ⟨m1, m2, m3, m4⟩, ⟨d1, d2, d3, d4⟩, hL, ⟨v1, -⟩, c1, c2, c3, c4⟩ := hS.1
  have t1 := toldF_le P
  have t2 := hI.1.top_le
  have l0 : P 26 ≤ 1 := (hL 0 (by decide)).1
  have l1 : P 31 ≤ 1 := (hL 1 (by decide)).1
  have l2 : P 36 ≤ 1 := (hL 2 (by decide)).1
  have l3 : P 41 ≤ 1 := (hL 3 (by decide)).1
  refine ⟨i1.1, v1, t1, m1, t2, d1, d2, d3, m2.symm, toldF_wat hI.2.2.1, ?_, b2, b3, b4, b5, b6, b7, c1, c2, c3, c4, h5, rfl, by show P 26 + P 31 + P 36 + P 41 ≤ 4; omega⟩
  by_cases q : toldF P = P 9
  · exact Or.inl q
  · right
    have q2 : toldF P = dep (lnP P) (dnP P) (P 20 + P 21) (P 8) := by
      have e : toldF P = min (dep (lnP P) (dnP P) (P 20 + P 21) (P 8)) (P 9) := rfl
      omega
    have q3 := dep_iff (lnP P) (dnP P) (P 20 + P 21) (toldF P + 1) (P 8) (by have e : top P = low (lnP P) (P 8) := rfl; omega)
    exact Nat.not_le.mp (fun z => by have z2 := q3.mp z; omega)
theorem L_facts {P : Nat → Nat} {n : Nat} {h : Nat → Nat → Nat} (hS : SI P n h) (hJ : JI P) {i : Nat} (hi : i < 4) : P (26 + 5 * i) ≤ 1 ∧ P (26 + 5 * i + 1) ≤ 600000 ∧ P (26 + 5 * i + 2) ≤ 51 ∧ P (26 + 5 * i + 4) ≤ P (26 + 5 * i + 3) ∧ P (26 + 5 * i + 3) ≤ 552000 := by
  obtain ⟨b1, b2, b3, b4, b5, b6, b7⟩ := hS.1.d.bnd
  obtain ⟨l1, l2, l3⟩ := hS.1.2.2.2.2.1 i hi
  have j1 := hJ.1.1
  have j3 := hJ.1.2.2 i hi
  refine ⟨l1, by omega, l3, j3, ?_⟩
  rcases (show i = 0 ∨ i = 1 ∨ i = 2 ∨ i = 3 by omega) with rfl | rfl | rfl | rfl
  · show P 29 ≤ 552000; omega
  · show P 34 ≤ 552000; omega
  · show P 39 ≤ 552000; omega
  · show P 44 ≤ 552000; omega
def lsF (P : Nat → Nat) (q : Nat) : Nat → Nat
  | 0 => 0
  | k + 1 => lsF P q k + P (26 + 5 * k + q)
theorem ls_4 (P : Nat → Nat) : lsF P 3 4 = P 29 + P 34 + P 39 + P 44 ∧ lsF P 4 4 = P 30 + P 35 + P 40 + P 45 ∧ lsF P 0 4 = P 26 + P 31 + P 36 + P 41 := by
  refine ⟨?_, ?_, ?_⟩
  · show 0 + P 29 + P 34 + P 39 + P 44 = _; omega
  · show 0 + P 30 + P 35 + P 40 + P 45 = _; omega
  · show 0 + P 26 + P 31 + P 36 + P 41 = _; omega
theorem vsF_le (P : Nat → Nat) : ∀ {k v : Nat}, v < k → P (126 + 3 * v) ≤ vsF P k
  | 0, v, hv => absurd hv (Nat.not_lt_zero _)
  | k + 1, v, hv => by
    show P (126 + 3 * v) ≤ vsF P k + P (126 + 3 * k)
    rcases Nat.lt_succ_iff_lt_or_eq.mp hv with z | z
    · exact Nat.le_trans (vsF_le P z) (Nat.le_add_right _ _)
    · rw [z]; exact Nat.le_add_left _ _
theorem pdF_s (P : Nat → Nat) (v : Nat) : pdF P (v + 1) = P (126 + 3 * v + 1) := if_neg (Nat.succ_ne_zero v)
theorem ptF_s (P : Nat → Nat) (v : Nat) : ptF P (v + 1) = P (126 + 3 * v + 2) := if_neg (Nat.succ_ne_zero v)
theorem V_facts {P : Nat → Nat} {n : Nat} {h : Nat → Nat → Nat} (hS : SI P n h) (hJ : JI P) {v : Nat} (hv : v < P 14) : 50 ≤ P (126 + 3 * v) ∧ P (126 + 3 * v) ≤ 552000 ∧ pdF P v ≤ P (126 + 3 * v + 1) ∧ P (126 + 3 * v + 1) ≤ toldF P ∧ ptF P v < P (126 + 3 * v + 2) ∧ P (126 + 3 * v + 2) ≤ P 16 := by
  obtain ⟨b1, b2, b3, b4, b5, b6, b7⟩ := hS.1.d.bnd
  obtain ⟨a1, a2, a3, a4, a5⟩ := hJ.2.2 v hv
  have s1 := vsF_le P hv
  have s2 := hJ.2.1
  exact ⟨a1, by omega, a2, a3, a4, a5⟩
theorem a_v1s {P : Nat → Nat} {v : Nat} (hv : v < P 14) (h2 : P 14 ≤ 40) : on2 (vialN P) (nI v) (nI 1) = nI (pdF P (v + 1)) := by rw [pdF_s]; exact a_v1 hv h2
theorem a_v3s {P : Nat → Nat} {v : Nat} (hv : v < P 14) (h2 : P 14 ≤ 40) : on2 (vialN P) (nI v) (nI 3) = nI (ptF P (v + 1)) := by rw [ptF_s]; exact a_v3 hv h2
theorem G_facts {P : Nat → Nat} {n : Nat} {h : Nat → Nat → Nat} (hS : SI P n h) {k : Nat} (hk : k < P 8) : P (46 + 4 * k) ≤ 2 ∧ 1 ≤ P (46 + 4 * k + 1) ∧ P (46 + 4 * k + 1) ≤ 300 ∧ P (46 + 4 * k + 2) ≤ 92 ∧ P (46 + 4 * k + 3) ≤ 100 ∧ (P (46 + 4 * k) = 1 ↔ P (46 + 4 * k + 2) = 0) ∧ low (lnP P) k + P (46 + 4 * k + 1) ≤ top P ∧ sg (lnP P) (low (lnP P) k) (P 8) = k ∧ sg (lnP P) (low (lnP P) k + P (46 + 4 * k + 1) - 1) (P 8) = k ∧ wF P (low (lnP P) k + P (46 + 4 * k + 1)) = wF P (low (lnP P) k) + P (46 + 4 * k + 1) * P (46 + 4 * k + 2) := by
  have hs := hS.1.1.2 k hk
  have e1 : low (lnP P) (k + 1) = low (lnP P) k + P (46 + 4 * k + 1) := rfl
  have m1 : low (lnP P) (k + 1) ≤ top P := low_mono (lnP P) hk
  have hs2 := hs
  unfold SegK at hs2
  refine ⟨by omega, by omega, by omega, by omega, by omega, by omega, by omega, ?_, ?_, ?_⟩
  · exact sg_at hk (fun j hj => low_mono (lnP P) (show j + 1 ≤ k from hj)) (by omega)
  · exact sg_at hk (fun j hj => Nat.le_trans (low_mono (lnP P) (show j + 1 ≤ k from hj)) (by omega)) (by omega)
  · show wat (lnP P) (dnP P) (low (lnP P) k + P (46 + 4 * k + 1)) (P 8) = wat (lnP P) (dnP P) (low (lnP P) k) (P 8) + P (46 + 4 * k + 1) * P (46 + 4 * k + 2)
    rw [wat_in hk (by omega) (by omega), wat_in hk (Nat.le_refl _) (by omega), Nat.sub_self, Nat.zero_mul, Nat.add_zero, Nat.add_sub_cancel_left]
    rfl
theorem rec_two {n : Nat} (h : Nat → Nat → Nat) (P P1 : Nat → Nat) (h5 : n ≤ 5) : 0 < sizeN (sizeN n) - 1 ∧ recH (recH h n P) (sizeN n) P1 (sizeN (sizeN n) - 1 - 1) = P := by
  rcases (show n = 0 ∨ n = 1 ∨ n = 2 ∨ n = 3 ∨ n = 4 ∨ n = 5 by omega) with rfl | rfl | rfl | rfl | rfl | rfl <;> simp [recH, sizeN]
