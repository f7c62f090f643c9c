/-! ===== a plate's page: what drawing and telling make of it ===== -/
theorem sg_ok {ln : Nat → Nat} {d n : Nat} : low ln (sg ln d n) ≤ d ∧ (sg ln d n < n → d < low ln (sg ln d n + 1)) ∨ low ln n ≤ d ∧ sg ln d n = n := by
  by_cases h : d < low ln n
  · obtain ⟨-, h2, h3⟩ := sg_lt h
    exact Or.inl ⟨h2, fun _ => h3⟩
  · exact Or.inr ⟨by omega, sg_all (fun j hj => Nat.le_trans (low_mono ln (show j + 1 ≤ n by omega)) (by omega))⟩
theorem melL_mono : ∀ (f : Nat) (P : Nat → Nat), P 9 ≤ melL f P 9
  | 0, P => Nat.le_refl _
  | f + 1, P => by
    rw [melL]
    split
    · rename_i h
      split
      · have h1 := melL_mono f (up P 9 (low (lnP P) (sgF P + 1)))
        rw [up_s] at h1
        have := (sgF_lt h.1).2.2
        omega
      · split
        · have h1 := melL_mono f (unitF P (sgF P))
          rw [unitF_9] at h1
          omega
        · exact Nat.le_refl _
    · exact Nat.le_refl _
theorem meltF_9 (P : Nat → Nat) : P 9 ≤ meltF P 9 := by
  unfold meltF
  rw [up_n _ _ (by decide)]
  exact melL_mono 6001 (up P 10 (P 10 + P 0))
theorem drawF_cnt (P : Nat → Nat) {i : Nat} (hi : i < 4) : P 20 + P 21 ≤ drawF P i 20 + drawF P i 21 := by
  unfold drawF
  split
  · exact Nat.le_refl _
  · obtain ⟨c1, c2⟩ := drawG_cnt P (min (P 3) (P 11)) (P 12 * min (P 3) (P 11) / P 11) (P 13 * min (P 3) (P 11) / P 11) hi
    omega
theorem drO_cnt (P : Nat → Nat) {i : Nat} (hi : i < 4) : P 20 + P 21 ≤ drO P i 20 + drO P i 21 := by
  unfold drO
  split
  · exact drawF_cnt P hi
  · exact Nat.le_refl _
theorem drs_cnt (P : Nat → Nat) : ∀ k, k ≤ 4 → P 20 + P 21 ≤ drs P k 20 + drs P k 21
  | 0, _ => Nat.le_refl _
  | k + 1, h => Nat.le_trans (drs_cnt P k (by omega)) (drO_cnt (drs P k) (by omega))
theorem drO_same {P : Nat → Nat} {i : Nat} (h : ¬ P (26 + 5 * i) = 0 ∨ min (P 3) (P 11) = 0) : drO P i = P := by
  unfold drO
  split
  · rename_i h0
    unfold drawF
    rw [if_pos (h.resolve_left (fun q => q h0))]
  · rfl
theorem drO_at {P : Nat → Nat} {i w g t : Nat} (h0 : P (26 + 5 * i) = 0) (h : ¬ w = 0) (e1 : w = min (P 3) (P 11)) (e2 : g = P 12 * w / P 11) (e3 : t = P 13 * w / P 11) : drO P i = drawG P i w g t := by
  unfold drO
  rw [if_pos h0, drawF_at h e1 e2 e3]
theorem gapB_eq (P : Nat → Nat) (i w g : Nat) : gapB (P (26 + 5 * i + 2)) i (P 7) (bubQ P w g) = gapG P i w g := by
  by_cases hb : bubQ P w g
  · rw [gapG_b hb]
    unfold gapB gapN
    rw [if_pos hb, if_pos hb]
  · by_cases h0 : P (26 + 5 * i + 2) = 0
    · have hn : gapN P i w g = 0 := by unfold gapN; rw [if_neg hb, if_neg (by omega)]
      rw [gapG_l (by omega), hn]
      unfold gapB
      rw [if_neg hb, if_pos h0]
    · have hn : gapN P i w g = P (26 + 5 * i + 2) + 1 := by unfold gapN; rw [if_neg hb, if_pos (by omega)]
      unfold gapB
      rw [if_neg hb, if_neg h0]
      split
      · rw [gapG_z hb (by omega)]
      · rw [gapG_l (by omega), hn]
section DL
variable {P : Nat → Nat} {i w g t : Nat}
theorem dl_up {f : Nat → Nat} {x q : Nat} (hi : i < 4) (hq : q < 5) (hf : ∀ k, k < 4 → f k = P (26 + 5 * k + q)) (hx : x = drawG P i w g t (26 + 5 * i + q)) : ∀ k, k < 4 → up f i x k = drawG P i w g t (26 + 5 * k + q) := by
  intro k hk
  by_cases e : k = i
  · subst e
    rw [up_s, hx]
  · rw [up_n _ _ e, drawG_ol P w g t hi hk hq e, hf k hk]
theorem dl_st (hi : i < 4) : ∀ k, k < 4 → up (fun k => P (26 + 5 * k)) i (if P 4 ≤ P (26 + 5 * i + 1) + t then 1 else 0) k = drawG P i w g t (26 + 5 * k) := dl_up (q := 0) hi (by decide) (fun _ _ => rfl) (drawG_s0 P w g t hi).symm
theorem dl_di (hi : i < 4) : ∀ k, k < 4 → up (fun k => P (26 + 5 * k + 1)) i (P (26 + 5 * i + 1) + t) k = drawG P i w g t (26 + 5 * k + 1) := dl_up (q := 1) hi (by decide) (fun _ _ => rfl) (drawG_s1 P w g t hi).symm
theorem dl_ga (hi : i < 4) : ∀ k, k < 4 → up (fun k => P (26 + 5 * k + 2)) i (gapB (P (26 + 5 * i + 2)) i (P 7) (bubQ P w g)) k = drawG P i w g t (26 + 5 * k + 2) := dl_up (q := 2) hi (by decide) (fun _ _ => rfl) ((gapB_eq P i w g).trans (drawG_s2 P w g t hi).symm)
theorem dl_dr (hi : i < 4) : ∀ k, k < 4 → up (fun k => P (26 + 5 * k + 3)) i (P (26 + 5 * i + 3) + w) k = drawG P i w g t (26 + 5 * k + 3) := dl_up (q := 3) hi (by decide) (fun _ _ => rfl) (drawG_s3 P w g t hi).symm
theorem dl_wa (hi : i < 4) (h : wasQ P i w g) : ∀ k, k < 4 → up (fun k => P (26 + 5 * k + 4)) i (P (26 + 5 * i + 4) + w) k = drawG P i w g t (26 + 5 * k + 4) := dl_up (q := 4) hi (by decide) (fun _ _ => rfl) (by rw [drawG_s4 P w g t hi, if_pos h])
theorem dl_wn (hi : i < 4) (h : ¬ wasQ P i w g) : ∀ k, k < 4 → P (26 + 5 * k + 4) = drawG P i w g t (26 + 5 * k + 4) := fun k hk => by
  by_cases e : k = i
  · subst e
    exact ((drawG_s4 P w g t hi).trans (by rw [if_neg h]; exact Nat.add_zero _)).symm
  · rw [drawG_ol P w g t hi hk (by decide) e]
theorem dl_ac (hi : i < 4) (h : wasQ P i w g) : ∀ k, k < 7 → up (up (up (fun k => P (19 + k)) 4 (P (19 + 4) + g)) 6 (P (19 + 6) + t)) 2 (P (19 + 2) + w) k = drawG P i w g t (19 + k) := by
  have hG := drawG_ag P w g t hi
  obtain ⟨c1, c2⟩ := drawG_cnt P w g t hi
  rw [if_pos h] at c1 c2
  exact lt7 (hG 19 (by omega)).symm c1.symm c2.symm (hG 22 (by omega)).symm (drawG_23 P w g t hi).symm (hG 24 (by omega)).symm (drawG_25 P w g t hi).symm
theorem dl_an (hi : i < 4) (h : ¬ wasQ P i w g) : ∀ k, k < 7 → up (up (up (fun k => P (19 + k)) 4 (P (19 + 4) + g)) 6 (P (19 + 6) + t)) 1 (P (19 + 1) + w) k = drawG P i w g t (19 + k) := by
  have hG := drawG_ag P w g t hi
  obtain ⟨c1, c2⟩ := drawG_cnt P w g t hi
  rw [if_neg h] at c1 c2
  exact lt7 (hG 19 (by omega)).symm c1.symm c2.symm (hG 22 (by omega)).symm (drawG_23 P w g t hi).symm (hG 24 (by omega)).symm (drawG_25 P w g t hi).symm
end DL
theorem toldF_wat {P : Nat → Nat} (hM : MelOk P) : wat (lnP P) (dnP P) (toldF P) (P 8) ≤ P 20 + P 21 := by
  have h1 : toldF P ≤ P 9 := Nat.min_le_right _ _
  have h2 : toldF P ≤ dep (lnP P) (dnP P) (P 20 + P 21) (P 8) := Nat.min_le_left _ _
  exact (dep_iff (lnP P) (dnP P) (P 20 + P 21) (toldF P) (P 8) (Nat.le_trans h1 hM.1)).mpr h2
theorem tick_told {P : Nat → Nat} (h : DInv P) : toldF (tickF P) = toldF (drs (tk2 P) 4) := by
  have h8 := (tk3_d h).1.1.1
  refine toldF_cg h8 (fun k hk => ?_)
  show sealF (tk4 P) k = _
  rw [sealF_o _ (by omega) (by omega) (by omega), tk4_o P (by omega)]
theorem tk3_9 {P : Nat → Nat} (h : DInv P) : P 9 ≤ drs (tk2 P) 4 9 := by
  rw [(tk3_d h).2 9 (by omega)]
  unfold tk2
  split
  · exact Nat.le_trans (by rw [tk1_o P (by decide) (by decide)]; exact Nat.le_refl _) (meltF_9 (tk1 P))
  · rw [tk1_o P (by decide) (by decide)]; exact Nat.le_refl _
theorem tk3_cnt {P : Nat → Nat} (h : DInv P) : P 20 + P 21 ≤ drs (tk2 P) 4 20 + drs (tk2 P) 4 21 := by
  have h1 := drs_cnt (tk2 P) 4 (Nat.le_refl _)
  have h2 := (tk2_d h).2.1
  rw [h2 20 (by omega), h2 21 (by omega), tk1_o P (by decide) (by decide), tk1_o P (by decide) (by decide)] at h1
  exact h1
theorem tk3_geo {P : Nat → Nat} (h : DInv P) {k : Nat} (hk : k < 9 ∨ 45 < k) : drs (tk2 P) 4 k = P k := by
  rw [(tk3_d h).2 k (by omega), (tk2_d h).2.1 k (by omega), tk1_o P (by omega) (by omega)]

