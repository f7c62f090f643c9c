/-! ===== a tick keeps the bounds ===== -/
theorem drawG_11 (P : Nat → Nat) {i : Nat} (w g t : Nat) (hi : i < 4) : drawG P i w g t (11) = P 11 - w := by
  have hx : (11) ≠ 19 + (if wasQ P i w g then 2 else 1) := by split <;> omega
  unfold drawG
  rw [up_n _ _ (by omega), up_n _ _ (by omega), up_n _ _ (by omega), up_n _ _ hx, up_n _ _ (by omega), up_n _ _ (by omega), up_n _ _ (by omega), up_n _ _ (by omega), up_n _ _ (by omega), up_n _ _ (by omega), up_n _ _ (by omega), up_s]
theorem drawG_12 (P : Nat → Nat) {i : Nat} (w g t : Nat) (hi : i < 4) : drawG P i w g t (12) = P 12 - g := by
  have hx : (12) ≠ 19 + (if wasQ P i w g then 2 else 1) := by split <;> omega
  unfold drawG
  rw [up_n _ _ (by omega), up_n _ _ (by omega), up_n _ _ (by omega), up_n _ _ hx, up_n _ _ (by omega), up_n _ _ (by omega), up_n _ _ (by omega), up_n _ _ (by omega), up_n _ _ (by omega), up_n _ _ (by omega), up_s]
theorem drawG_13 (P : Nat → Nat) {i : Nat} (w g t : Nat) (hi : i < 4) : drawG P i w g t (13) = P 13 - t := by
  have hx : (13) ≠ 19 + (if wasQ P i w g then 2 else 1) := by split <;> omega
  unfold drawG
  rw [up_n _ _ (by omega), up_n _ _ (by omega), up_n _ _ (by omega), up_n _ _ hx, up_n _ _ (by omega), up_n _ _ (by omega), up_n _ _ (by omega), up_n _ _ (by omega), up_n _ _ (by omega), up_s]
theorem drawG_23 (P : Nat → Nat) {i : Nat} (w g t : Nat) (hi : i < 4) : drawG P i w g t (23) = P 23 + g := by
  have hx : (23) ≠ 19 + (if wasQ P i w g then 2 else 1) := by split <;> omega
  unfold drawG
  rw [up_n _ _ (by omega), up_n _ _ (by omega), up_n _ _ (by omega), up_n _ _ hx, up_n _ _ (by omega), up_n _ _ (by omega), up_n _ _ (by omega), up_n _ _ (by omega), up_s]
theorem drawG_25 (P : Nat → Nat) {i : Nat} (w g t : Nat) (hi : i < 4) : drawG P i w g t (25) = P 25 + t := by
  have hx : (25) ≠ 19 + (if wasQ P i w g then 2 else 1) := by split <;> omega
  unfold drawG
  rw [up_n _ _ (by omega), up_n _ _ (by omega), up_n _ _ (by omega), up_n _ _ hx, up_n _ _ (by omega), up_n _ _ (by omega), up_n _ _ (by omega), up_s]
theorem drawG_s0 (P : Nat → Nat) {i : Nat} (w g t : Nat) (hi : i < 4) : drawG P i w g t (26 + 5 * i) = (if P 4 ≤ P (26 + 5 * i + 1) + t then 1 else 0) := by
  have hx : (26 + 5 * i) ≠ 19 + (if wasQ P i w g then 2 else 1) := by split <;> omega
  unfold drawG
  rw [up_s]
theorem drawG_s1 (P : Nat → Nat) {i : Nat} (w g t : Nat) (hi : i < 4) : drawG P i w g t (26 + 5 * i + 1) = P (26 + 5 * i + 1) + t := by
  have hx : (26 + 5 * i + 1) ≠ 19 + (if wasQ P i w g then 2 else 1) := by split <;> omega
  unfold drawG
  rw [up_n _ _ (by omega), up_s]
theorem drawG_s2 (P : Nat → Nat) {i : Nat} (w g t : Nat) (hi : i < 4) : drawG P i w g t (26 + 5 * i + 2) = gapG P i w g := by
  have hx : (26 + 5 * i + 2) ≠ 19 + (if wasQ P i w g then 2 else 1) := by split <;> omega
  unfold drawG
  rw [up_n _ _ (by omega), up_n _ _ (by omega), up_n _ _ (by omega), up_n _ _ hx, up_n _ _ (by omega), up_n _ _ (by omega), up_s]
theorem drawG_s3 (P : Nat → Nat) {i : Nat} (w g t : Nat) (hi : i < 4) : drawG P i w g t (26 + 5 * i + 3) = P (26 + 5 * i + 3) + w := by
  have hx : (26 + 5 * i + 3) ≠ 19 + (if wasQ P i w g then 2 else 1) := by split <;> omega
  unfold drawG
  rw [up_n _ _ (by omega), up_n _ _ (by omega), up_n _ _ (by omega), up_n _ _ hx, up_n _ _ (by omega), up_s]
theorem drawG_s4 (P : Nat → Nat) {i : Nat} (w g t : Nat) (hi : i < 4) : drawG P i w g t (26 + 5 * i + 4) = P (26 + 5 * i + 4) + (if wasQ P i w g then w else 0) := by
  have hx : (26 + 5 * i + 4) ≠ 19 + (if wasQ P i w g then 2 else 1) := by split <;> omega
  unfold drawG
  rw [up_n _ _ (by omega), up_n _ _ (by omega), up_n _ _ (by omega), up_n _ _ hx, up_s]
theorem drawG_15 (P : Nat → Nat) {i : Nat} (w g t : Nat) (hi : i < 4) : drawG P i w g t (15) = P 15 + (if wasQ P i w g then 0 else w) := by
  have hx : (15) ≠ 19 + (if wasQ P i w g then 2 else 1) := by split <;> omega
  unfold drawG
  rw [up_n _ _ (by omega), up_n _ _ (by omega), up_s]
theorem drawG_cnt (P : Nat → Nat) {i : Nat} (w g t : Nat) (hi : i < 4) : drawG P i w g t 20 = P 20 + (if wasQ P i w g then 0 else w) ∧ drawG P i w g t 21 = P 21 + (if wasQ P i w g then w else 0) := by
  by_cases hw : wasQ P i w g
  · have hx : (20 : Nat) ≠ 19 + (if wasQ P i w g then 2 else 1) := by rw [if_pos hw]; decide
    refine ⟨?_, ?_⟩
    · unfold drawG
      rw [up_n _ _ (by omega), up_n _ _ (by omega), up_n _ _ (by omega), up_n _ _ hx, up_n _ _ (by omega), up_n _ _ (by omega), up_n _ _ (by omega), up_n _ _ (by omega), up_n _ _ (by omega), up_n _ _ (by omega), up_n _ _ (by omega), up_n _ _ (by omega), if_pos hw, Nat.add_zero]
    · unfold drawG
      simp only [if_pos hw]
      rw [up_n _ _ (by omega), up_n _ _ (by omega), up_n _ _ (by omega), up_s]
  · have hx : (21 : Nat) ≠ 19 + (if wasQ P i w g then 2 else 1) := by rw [if_neg hw]; decide
    refine ⟨?_, ?_⟩
    · unfold drawG
      simp only [if_neg hw]
      rw [up_n _ _ (by omega), up_n _ _ (by omega), up_n _ _ (by omega), up_s]
    · unfold drawG
      rw [up_n _ _ (by omega), up_n _ _ (by omega), up_n _ _ (by omega), up_n _ _ hx, up_n _ _ (by omega), up_n _ _ (by omega), up_n _ _ (by omega), up_n _ _ (by omega), up_n _ _ (by omega), up_n _ _ (by omega), up_n _ _ (by omega), up_n _ _ (by omega), if_neg hw, Nat.add_zero]
theorem drawG_ol (P : Nat → Nat) {i j q : Nat} (w g t : Nat) (hi : i < 4) (hj : j < 4) (hq : q < 5) (hn : j ≠ i) : drawG P i w g t (26 + 5 * j + q) = P (26 + 5 * j + q) := by
  have hx : 26 + 5 * j + q ≠ 19 + (if wasQ P i w g then 2 else 1) := by split <;> omega
  unfold drawG
  rw [up_n _ _ (by omega), up_n _ _ (by omega), up_n _ _ (by omega), up_n _ _ hx, up_n _ _ (by omega), up_n _ _ (by omega), up_n _ _ (by omega), up_n _ _ (by omega), up_n _ _ (by omega), up_n _ _ (by omega), up_n _ _ (by omega), up_n _ _ (by omega)]
theorem drawF_ok {P : Nat → Nat} (hD : DInv P) {i : Nat} (hi : i < 4) : DInv (drawF P i) := by
  have hA := drawF_ag P hi
  obtain ⟨hS, hT, hM, hR, hL⟩ := hD
  have h7 := hT.2.2.2.2.2.2.2.2.2.2.2.2.2
  refine ⟨hA.seg hS, hA.set hT, hA.mel hM, ?_, ?_⟩
  · unfold drawF
    split
    · exact hR
    · have hg := share_le (x := P 12) (show min (P 3) (P 11) ≤ P 11 from Nat.min_le_right _ _)
      have ht := share_le (x := P 13) (show min (P 3) (P 11) ≤ P 11 from Nat.min_le_right _ _)
      have hw := show min (P 3) (P 11) ≤ P 11 from Nat.min_le_right _ _
      generalize min (P 3) (P 11) = w at *
      generalize P 12 * w / P 11 = g at *
      generalize P 13 * w / P 11 = t at *
      obtain ⟨r1, r2, r3, r4⟩ := hR
      have hG := drawG_ag P w g t hi
      obtain ⟨c1, c2⟩ := drawG_cnt P w g t hi
      refine ⟨?_, ?_, ?_, ?_⟩
      · rw [hG 19 (by omega), drawG_11 P w g t hi, c1, c2]
        split <;> omega
      · rw [hG 22 (by omega), drawG_12 P w g t hi, drawG_23 P w g t hi]; omega
      · rw [hG 24 (by omega), drawG_13 P w g t hi, drawG_25 P w g t hi]; omega
      · rw [drawG_15 P w g t hi, c1]; omega
  · intro j hj
    unfold drawF
    split
    · exact hL j hj
    · generalize min (P 3) (P 11) = w
      generalize P 12 * w / P 11 = g
      generalize P 13 * w / P 11 = t
      obtain ⟨l0, l1, l2⟩ := hL j hj
      rw [drawG_25 P w g t hi]
      by_cases e : j = i
      · subst e
        rw [drawG_s0 P w g t hi, drawG_s1 P w g t hi, drawG_s2 P w g t hi]
        exact ⟨by split <;> omega, by omega, gapG_le h7⟩
      · rw [show 26 + 5 * j = 26 + 5 * j + 0 from rfl, drawG_ol P w g t hi hj (by omega) e, drawG_ol P w g t hi hj (q := 0 + 1) (by omega) e, drawG_ol P w g t hi hj (q := 0 + 2) (by omega) e]
        exact ⟨l0, by show P (26 + 5 * j + 1) ≤ _; omega, l2⟩
theorem drO_ok {P : Nat → Nat} (hD : DInv P) {i : Nat} (hi : i < 4) : DInv (drO P i) ∧ AgD P (drO P i) := by
  unfold drO
  split
  · exact ⟨drawF_ok hD hi, drawF_ag P hi⟩
  · exact ⟨hD, AgD.rf P⟩
theorem drs_ok {P : Nat → Nat} (hD : DInv P) : ∀ k, k ≤ 4 → DInv (drs P k) ∧ AgD P (drs P k)
  | 0, _ => ⟨hD, AgD.rf P⟩
  | k + 1, h => by
    obtain ⟨h1, h2⟩ := drs_ok hD k (by omega)
    obtain ⟨h3, h4⟩ := drO_ok h1 (i := k) (by omega)
    exact ⟨h3, h2.tr h4⟩
theorem DInv_cg {P Q : Nat → Nat} (hD : DInv P) (h : ∀ k, (k ≤ 9 ∨ (11 ≤ k ∧ k ≤ 13) ∨ (19 ≤ k ∧ k < 126)) → Q k = P k) (h15 : Q 15 ≤ P 15) : DInv Q := by
  obtain ⟨hS, hT, hM, hR, hL⟩ := hD
  have h8 := hS.1
  have e8 := h 8 (by omega)
  refine ⟨⟨by rw [e8]; exact h8, fun k hk => ?_⟩, ?_, ?_, ?_, ?_⟩
  · rw [e8] at hk
    rw [h _ (by omega), h (46 + 4 * k + 1) (by omega), h (46 + 4 * k + 2) (by omega), h (46 + 4 * k + 3) (by omega)]
    exact hS.2 k hk
  · unfold SetOk at hT ⊢
    rw [h 0 (by omega), h 1 (by omega), h 2 (by omega), h 3 (by omega), h 4 (by omega), h 5 (by omega), h 6 (by omega), h 7 (by omega)]
    exact hT
  · unfold MelOk top at hM ⊢
    rw [e8, low_congr (f := lnP Q) (g := lnP P) (n := P 8) (fun k hk => h _ (by omega)), wat_cg (f := lnP Q) (g := dnP Q) (f' := lnP P) (g' := dnP P) (n := P 8) (fun k hk => ⟨h _ (by omega), h _ (by omega)⟩), h 9 (by omega), h 19 (by omega), h 22 (by omega), h 24 (by omega)]
    exact hM
  · unfold DrOk at hR ⊢
    rw [h 19 (by omega), h 11 (by omega), h 20 (by omega), h 21 (by omega), h 22 (by omega), h 12 (by omega), h 23 (by omega), h 24 (by omega), h 13 (by omega), h 25 (by omega)]
    exact ⟨hR.1, hR.2.1, hR.2.2.1, Nat.le_trans h15 hR.2.2.2⟩
  · intro j hj
    rw [h _ (by omega), h (26 + 5 * j + 1) (by omega), h (26 + 5 * j + 2) (by omega), h 25 (by omega)]
    exact hL j hj
theorem reasonF_le (P : Nat → Nat) : reasonF P ≤ 3 := by
  unfold reasonF
  split
  · omega
  · split
    · omega
    · split <;> omega
theorem Inv.d {P : Nat → Nat} (h : Inv P) : DInv P := ⟨h.1, h.2.1, h.2.2.1, h.2.2.2.1, h.2.2.2.2.1⟩
theorem tk1_o (P : Nat → Nat) {k : Nat} (h1 : k ≠ 17) (h2 : k ≠ 18) : tk1 P k = P k := by unfold tk1; rw [up_n _ _ h2, up_n _ _ h1]
theorem tk1_17 (P : Nat → Nat) : tk1 P 17 = reasonF P := by unfold tk1; rw [up_n _ _ (by decide), up_s]
theorem tk1_18 (P : Nat → Nat) : tk1 P 18 = P 18 + (if 0 < reasonF P then 1 else 0) := by unfold tk1; rw [up_s]
theorem tk1_d {P : Nat → Nat} (h : DInv P) : DInv (tk1 P) := DInv_cg h (fun k hk => tk1_o P (by omega) (by omega)) (by rw [tk1_o P (by decide) (by decide)]; exact Nat.le_refl _)
theorem tk2_d {P : Nat → Nat} (h : DInv P) : DInv (tk2 P) ∧ AgM (tk1 P) (tk2 P) ∧ tk2 P 10 ≤ P 10 + P 0 := by
  have h1 := tk1_d h
  unfold tk2
  split
  · obtain ⟨a, b, c, d⟩ := meltF_ok h1.1 h1.2.2.1 h1.2.2.2.1
    rw [tk1_o P (by decide) (by decide), tk1_o P (by decide) (by decide)] at d
    exact ⟨⟨a.seg h1.1, a.set h1.2.1, b, c, fun j hj => by rw [a _ (by omega), a (26 + 5 * j + 1) (by omega), a (26 + 5 * j + 2) (by omega), a 25 (by omega)]; exact h1.2.2.2.2 j hj⟩, a, d⟩
  · exact ⟨h1, AgM.rf _, by rw [tk1_o P (by decide) (by decide)]; omega⟩
theorem tk3_d {P : Nat → Nat} (h : DInv P) : DInv (drs (tk2 P) 4) ∧ AgD (tk2 P) (drs (tk2 P) 4) := drs_ok (tk2_d h).1 4 (Nat.le_refl _)
theorem tk4_o (P : Nat → Nat) {k : Nat} (h : k ≠ 16) : tk4 P k = drs (tk2 P) 4 k := by unfold tk4; rw [up_n _ _ h]
theorem tk4_d {P : Nat → Nat} (h : DInv P) : DInv (tk4 P) := DInv_cg (tk3_d h).1 (fun k hk => tk4_o P (by omega)) (by rw [tk4_o P (by decide)]; exact Nat.le_refl _)
theorem tk4_same {P : Nat → Nat} (h : DInv P) {k : Nat} (hk : k < 9 ∨ k = 14 ∨ 45 < k) : tk4 P k = P k := by
  rw [tk4_o P (by omega), (tk3_d h).2 k (by omega), (tk2_d h).2.1 k (by omega), tk1_o P (by omega) (by omega)]
theorem tk4_16 {P : Nat → Nat} (h : DInv P) : tk4 P 16 = P 16 + 1 := by
  unfold tk4
  rw [up_s, (tk3_d h).2 16 (by omega), (tk2_d h).2.1 16 (by omega), tk1_o P (by omega) (by omega)]
theorem tk4_17 {P : Nat → Nat} (h : DInv P) : tk4 P 17 = reasonF P := by rw [tk4_o P (by omega), (tk3_d h).2 17 (by omega), (tk2_d h).2.1 17 (by omega), tk1_17]
theorem tk4_18 {P : Nat → Nat} (h : DInv P) : tk4 P 18 = P 18 + (if 0 < reasonF P then 1 else 0) := by rw [tk4_o P (by omega), (tk3_d h).2 18 (by omega), (tk2_d h).2.1 18 (by omega), tk1_18]
theorem tk4_10 {P : Nat → Nat} (h : DInv P) : tk4 P 10 ≤ P 10 + P 0 := by rw [tk4_o P (by omega), (tk3_d h).2 10 (by omega)]; exact (tk2_d h).2.2
theorem toldF_le (P : Nat → Nat) : toldF P ≤ P 9 := Nat.min_le_right _ _
theorem sealF_o (P : Nat → Nat) {k : Nat} (h1 : k < 126) (h2 : k ≠ 14) (h3 : k ≠ 15) : sealF P k = P k := by
  unfold sealF
  split
  · rfl
  · rw [up_n _ _ h3, up_n _ _ h2, up_n _ _ (by omega), up_n _ _ (by omega), up_n _ _ (by omega)]
theorem sealF_d {P : Nat → Nat} (h : DInv P) : DInv (sealF P) := by
  refine DInv_cg h (fun k hk => sealF_o P (by omega) (by omega) (by omega)) ?_
  unfold sealF
  split
  · exact Nat.le_refl _
  · rw [up_s]; exact Nat.zero_le _
theorem sealF_v {P : Nat → Nat} (h : VialOk P) (h9 : P 9 ≤ 6000) : VialOk (sealF P) := by
  unfold sealF
  split
  · exact h
  · rename_i hc
    obtain ⟨v1, v2⟩ := h
    have h14 : ¬ P 14 = 40 := fun q => hc (Or.inr q)
    have e14 : up (up (up (up (up P (126 + 3 * P 14) (P 15)) (126 + 3 * P 14 + 1) (toldF P)) (126 + 3 * P 14 + 2) (P 16)) 14 (P 14 + 1)) 15 0 14 = P 14 + 1 := by rw [up_n _ _ (by decide), up_s]
    refine ⟨by rw [e14]; omega, fun v hv => ?_⟩
    rw [e14] at hv
    rw [up_n _ _ (by omega), up_n _ _ (by omega), up_n _ _ (by omega)]
    by_cases e : v = P 14
    · subst e
      rw [up_s]
      have := toldF_le P
      omega
    · rw [up_n _ _ (by omega), up_n _ _ (by omega)]
      exact v2 v (by omega)
theorem tick_ok {P : Nat → Nat} (h : Inv P) (h16 : P 16 < 20000) : Inv (tickF P) ∧ tickF P 16 = P 16 + 1 ∧ ∀ k, (k < 9 ∨ (45 < k ∧ k < 126)) → tickF P k = P k := by
  have hd := h.d
  have h4 := tk4_d hd
  have h0 := hd.2.1.1
  obtain ⟨-, -, -, -, -, hv, c1, c2, c3, c4⟩ := h
  have hv4 : VialOk (tk4 P) := by
    unfold VialOk
    rw [tk4_same hd (k := 14) (by omega)]
    exact ⟨hv.1, fun v hv2 => by rw [tk4_same hd (by omega)]; exact hv.2 v hv2⟩
  have h5 := sealF_d h4
  have o10 := sealF_o (tk4 P) (k := 10) (by decide) (by decide) (by decide)
  have o16 := sealF_o (tk4 P) (k := 16) (by decide) (by decide) (by decide)
  have o17 := sealF_o (tk4 P) (k := 17) (by decide) (by decide) (by decide)
  have o18 := sealF_o (tk4 P) (k := 18) (by decide) (by decide) (by decide)
  have e10 := tk4_10 hd
  have e16 := tk4_16 hd
  have e17 := tk4_17 hd
  have e18 := tk4_18 hd
  have hr := reasonF_le P
  have hi : (if 0 < reasonF P then 1 else 0) ≤ 1 := by split <;> omega
  refine ⟨⟨h5.1, h5.2.1, h5.2.2.1, h5.2.2.2.1, h5.2.2.2.2, sealF_v hv4 h4.bnd.1, ?_, ?_, ?_, ?_⟩, ?_, fun k hk => ?_⟩
  · show sealF (tk4 P) 16 ≤ 20000
    omega
  · show sealF (tk4 P) 10 ≤ 200 * sealF (tk4 P) 16
    omega
  · show sealF (tk4 P) 17 ≤ 3
    omega
  · show sealF (tk4 P) 18 ≤ sealF (tk4 P) 16
    omega
  · show sealF (tk4 P) 16 = P 16 + 1
    omega
  · show sealF (tk4 P) k = P k
    rw [sealF_o _ (by omega) (by omega) (by omega), tk4_same hd (by omega)]
theorem it_ok {P : Nat → Nat} (h : Inv P) : ∀ k, P 16 + k ≤ 20000 → Inv (itF P k) ∧ itF P k 16 = P 16 + k ∧ ∀ j, (j < 9 ∨ (45 < j ∧ j < 126)) → itF P k j = P j
  | 0, _ => ⟨h, rfl, fun _ _ => rfl⟩
  | k + 1, hk => by
    obtain ⟨h1, h2, h3⟩ := it_ok h k (by omega)
    obtain ⟨g1, g2, g3⟩ := tick_ok h1 (by omega)
    exact ⟨g1, by show tickF _ 16 = _; omega, fun j hj => (g3 j hj).trans (h3 j hj)⟩

