/-! ===== p25: what the lines, the vials and the depth told keep ===== -/
def LJ (P : Nat → Nat) : Prop := P 29 + P 34 + P 39 + P 44 = P 20 + P 21 ∧ P 30 + P 35 + P 40 + P 45 = P 21 ∧ ∀ i, i < 4 → P (26 + 5 * i + 4) ≤ P (26 + 5 * i + 3)
def pdF (P : Nat → Nat) (v : Nat) : Nat := if v = 0 then 0 else P (126 + 3 * (v - 1) + 1)
def ptF (P : Nat → Nat) (v : Nat) : Nat := if v = 0 then 0 else P (126 + 3 * (v - 1) + 2)
def vsF (P : Nat → Nat) : Nat → Nat
  | 0 => 0
  | k + 1 => vsF P k + P (126 + 3 * k)
def VJ (P : Nat → Nat) : Prop := P 15 + vsF P (P 14) = P 20 ∧ ∀ v, v < P 14 → 50 ≤ P (126 + 3 * v) ∧ pdF P v ≤ P (126 + 3 * v + 1) ∧ P (126 + 3 * v + 1) ≤ toldF P ∧ ptF P v < P (126 + 3 * v + 2) ∧ P (126 + 3 * v + 2) ≤ P 16
def JI (P : Nat → Nat) : Prop := LJ P ∧ VJ P
theorem vsF_cg {P Q : Nat → Nat} : ∀ {n : Nat}, (∀ v, v < n → Q (126 + 3 * v) = P (126 + 3 * v)) → vsF Q n = vsF P n
  | 0, _ => rfl
  | n + 1, h => by
    show vsF Q n + Q (126 + 3 * n) = vsF P n + P (126 + 3 * n)
    rw [vsF_cg (n := n) (fun v hv => h v (by omega)), h n (Nat.lt_succ_self n)]
theorem LJ_cg {P Q : Nat → Nat} (h : LJ P) (hk : ∀ k, k = 20 ∨ k = 21 ∨ (28 < k ∧ k < 46 ∧ (k - 26) % 5 ≠ 0 ∧ (k - 26) % 5 ≠ 1 ∧ (k - 26) % 5 ≠ 2) → Q k = P k) : LJ Q := by
  obtain ⟨h1, h2, h3⟩ := h
  refine ⟨?_, ?_, fun i hi => ?_⟩
  · rw [hk 29 (by omega), hk 34 (by omega), hk 39 (by omega), hk 44 (by omega), hk 20 (by omega), hk 21 (by omega)]; exact h1
  · rw [hk 30 (by omega), hk 35 (by omega), hk 40 (by omega), hk 45 (by omega), hk 21 (by omega)]; exact h2
  · rw [hk (26 + 5 * i + 4) (by omega), hk (26 + 5 * i + 3) (by omega)]; exact h3 i hi
theorem VJ_cg {P Q : Nat → Nat} (h : VJ P) (ht : toldF Q = toldF P) (h14 : Q 14 = P 14) (h15 : Q 15 = P 15) (h16 : Q 16 = P 16) (h20 : Q 20 = P 20) (hk : ∀ k, 126 ≤ k → Q k = P k) : VJ Q := by
  obtain ⟨h1, h2⟩ := h
  refine ⟨?_, fun v hv => ?_⟩
  · rw [h15, h14, h20, vsF_cg (fun v _ => hk _ (by omega))]; exact h1
  · rw [h14] at hv
    have e1 : pdF Q v = pdF P v := by unfold pdF; rw [hk (126 + 3 * (v - 1) + 1) (by omega)]
    have e2 : ptF Q v = ptF P v := by unfold ptF; rw [hk (126 + 3 * (v - 1) + 2) (by omega)]
    rw [e1, e2, ht, h16, hk (126 + 3 * v) (by omega), hk (126 + 3 * v + 1) (by omega), hk (126 + 3 * v + 2) (by omega)]
    exact h2 v hv
theorem four_if {i w : Nat} (hi : i < 4) : (if 0 = i then w else 0) + (if 1 = i then w else 0) + (if 2 = i then w else 0) + (if 3 = i then w else 0) = w := by
  rcases (show i = 0 ∨ i = 1 ∨ i = 2 ∨ i = 3 by omega) with rfl | rfl | rfl | rfl <;> simp
theorem drawG_LJ {P : Nat → Nat} {i : Nat} (w g t : Nat) (hi : i < 4) (h : LJ P) : LJ (drawG P i w g t) := by
  obtain ⟨h1, h2, h3⟩ := h
  obtain ⟨c1, c2⟩ := drawG_cnt P w g t hi
  have hu : (if wasQ P i w g then 0 else w) + (if wasQ P i w g then w else 0) = w := by split <;> omega
  have hv : (if wasQ P i w g then w else 0) ≤ w := by split <;> omega
  generalize hx : (if wasQ P i w g then 0 else w) = x at c1 hu
  have s4 := drawG_s4 P w g t hi
  generalize hy : (if wasQ P i w g then w else 0) = y at c2 hu hv s4
  have a3 : ∀ j, j < 4 → drawG P i w g t (26 + 5 * j + 3) = P (26 + 5 * j + 3) + (if j = i then w else 0) := fun j hj => by
    by_cases e : j = i
    · subst e; rw [if_pos rfl]; exact drawG_s3 P w g t hi
    · rw [if_neg e, Nat.add_zero]; exact drawG_ol P w g t hi hj (by decide) e
  have a4 : ∀ j, j < 4 → drawG P i w g t (26 + 5 * j + 4) = P (26 + 5 * j + 4) + (if j = i then y else 0) := fun j hj => by
    by_cases e : j = i
    · subst e; rw [if_pos rfl]; exact s4
    · rw [if_neg e, Nat.add_zero]; exact drawG_ol P w g t hi hj (by decide) e
  have f1 := four_if (w := w) hi
  have f2 := four_if (w := y) hi
  have b0 : drawG P i w g t 29 = P 29 + (if 0 = i then w else 0) := a3 0 (by decide)
  have b1 : drawG P i w g t 34 = P 34 + (if 1 = i then w else 0) := a3 1 (by decide)
  have b2 : drawG P i w g t 39 = P 39 + (if 2 = i then w else 0) := a3 2 (by decide)
  have b3 : drawG P i w g t 44 = P 44 + (if 3 = i then w else 0) := a3 3 (by decide)
  have d0 : drawG P i w g t 30 = P 30 + (if 0 = i then y else 0) := a4 0 (by decide)
  have d1 : drawG P i w g t 35 = P 35 + (if 1 = i then y else 0) := a4 1 (by decide)
  have d2 : drawG P i w g t 40 = P 40 + (if 2 = i then y else 0) := a4 2 (by decide)
  have d3 : drawG P i w g t 45 = P 45 + (if 3 = i then y else 0) := a4 3 (by decide)
  refine ⟨?_, ?_, fun j hj => ?_⟩
  · rw [b0, b1, b2, b3, c1, c2]
    generalize (if 0 = i then w else 0) = z0 at f1 ⊢
    generalize (if 1 = i then w else 0) = z1 at f1 ⊢
    generalize (if 2 = i then w else 0) = z2 at f1 ⊢
    generalize (if 3 = i then w else 0) = z3 at f1 ⊢
    omega
  · rw [d0, d1, d2, d3, c2]
    generalize (if 0 = i then y else 0) = z0 at f2 ⊢
    generalize (if 1 = i then y else 0) = z1 at f2 ⊢
    generalize (if 2 = i then y else 0) = z2 at f2 ⊢
    generalize (if 3 = i then y else 0) = z3 at f2 ⊢
    omega
  · rw [a3 j hj, a4 j hj]
    have := h3 j hj
    by_cases e : j = i
    · rw [if_pos e, if_pos e]; omega
    · rw [if_neg e, if_neg e]; exact this
theorem drO_LJ {P : Nat → Nat} {i : Nat} (hi : i < 4) (h : LJ P) : LJ (drO P i) := by
  unfold drO
  split
  · unfold drawF
    split
    · exact h
    · exact drawG_LJ _ _ _ hi h
  · exact h
theorem drs_LJ {P : Nat → Nat} (h : LJ P) : ∀ k, k ≤ 4 → LJ (drs P k)
  | 0, _ => h
  | k + 1, hk => drO_LJ (by omega) (drs_LJ h k (by omega))
theorem drO_15 (P : Nat → Nat) {i : Nat} (hi : i < 4) : drO P i 15 + P 20 = P 15 + drO P i 20 ∧ P 20 ≤ drO P i 20 := by
  unfold drO
  split
  · unfold drawF
    split
    · exact ⟨rfl, Nat.le_refl _⟩
    · have a := drawG_15 P (min (P 3) (P 11)) (P 12 * min (P 3) (P 11) / P 11) (P 13 * min (P 3) (P 11) / P 11) hi
      obtain ⟨b, -⟩ := drawG_cnt P (min (P 3) (P 11)) (P 12 * min (P 3) (P 11) / P 11) (P 13 * min (P 3) (P 11) / P 11) hi
      rw [a, b]
      generalize (if wasQ P i (min (P 3) (P 11)) (P 12 * min (P 3) (P 11) / P 11) then 0 else min (P 3) (P 11)) = z
      omega
  · exact ⟨rfl, Nat.le_refl _⟩
theorem drs_15 (P : Nat → Nat) : ∀ k, k ≤ 4 → drs P k 15 + P 20 = P 15 + drs P k 20 ∧ P 20 ≤ drs P k 20
  | 0, _ => ⟨rfl, Nat.le_refl _⟩
  | k + 1, h => by
    obtain ⟨a, b⟩ := drs_15 P k (by omega)
    obtain ⟨c, d⟩ := drO_15 (drs P k) (i := k) (by omega)
    show drO (drs P k) k 15 + P 20 = P 15 + drO (drs P k) k 20 ∧ P 20 ≤ drO (drs P k) k 20
    exact ⟨by omega, by omega⟩
theorem tk2_o {P : Nat → Nat} (h : DInv P) {k : Nat} (hk : k = 14 ∨ k = 15 ∨ k = 20 ∨ k = 21 ∨ 24 < k) : tk2 P k = P k := by
  rw [(tk2_d h).2.1 k (by omega), tk1_o P (by omega) (by omega)]
theorem tk4_15 {P : Nat → Nat} (h : DInv P) : tk4 P 15 + P 20 = P 15 + tk4 P 20 ∧ P 20 ≤ tk4 P 20 := by
  have a := drs_15 (tk2 P) 4 (Nat.le_refl _)
  rw [tk2_o h (k := 20) (by omega), tk2_o h (k := 15) (by omega)] at a
  rw [tk4_o P (show (15 : Nat) ≠ 16 by decide), tk4_o P (show (20 : Nat) ≠ 16 by decide)]
  exact a
theorem tk4_LJ {P : Nat → Nat} (h : DInv P) (hl : LJ P) : LJ (tk4 P) :=
  LJ_cg (drs_LJ (LJ_cg hl (fun k hk => tk2_o h (by omega))) 4 (Nat.le_refl _)) (fun k hk => tk4_o P (by omega))
theorem told_mono {P Q : Nat → Nat} (hM : MelOk P) (hg : ∀ k, (k = 8 ∨ 45 < k) → Q k = P k) (h9 : P 9 ≤ Q 9) (hw : P 20 + P 21 ≤ Q 20 + Q 21) : toldF P ≤ toldF Q := by
  have e1 : lnP Q = lnP P := funext fun k => hg _ (by omega)
  have e2 : dnP Q = dnP P := funext fun k => hg _ (by omega)
  have h2 : toldF P ≤ P 9 := toldF_le P
  have h3 := (dep_iff (lnP P) (dnP P) (Q 20 + Q 21) (toldF P) (P 8) (Nat.le_trans h2 hM.1)).mp (Nat.le_trans (toldF_wat hM) hw)
  show toldF P ≤ min (dep (lnP Q) (dnP Q) (Q 20 + Q 21) (Q 8)) (Q 9)
  rw [e1, e2, hg 8 (Or.inl rfl)]
  exact Nat.le_min.mpr ⟨h3, Nat.le_trans h2 h9⟩
theorem tk4_told {P : Nat → Nat} (h : DInv P) : toldF P ≤ toldF (tk4 P) := by
  refine told_mono h.2.2.1 (fun k hk => tk4_same h (by omega)) ?_ ?_
  · rw [tk4_o P (by decide)]; exact tk3_9 h
  · rw [tk4_o P (by decide), tk4_o P (by decide)]; exact tk3_cnt h
theorem seal_VJ {Q : Nat → Nat} (h8 : Q 8 ≤ 20) (h6 : 50 ≤ Q 6) (h16 : 0 < Q 16) (h15 : Q 15 + vsF Q (Q 14) = Q 20)
    (hv : ∀ v, v < Q 14 → 50 ≤ Q (126 + 3 * v) ∧ pdF Q v ≤ Q (126 + 3 * v + 1) ∧ Q (126 + 3 * v + 1) ≤ toldF Q ∧ ptF Q v < Q (126 + 3 * v + 2) ∧ Q (126 + 3 * v + 2) < Q 16) : VJ (sealF Q) := by
  unfold sealF
  split
  · exact ⟨h15, fun v hq => ⟨(hv v hq).1, (hv v hq).2.1, (hv v hq).2.2.1, (hv v hq).2.2.2.1, Nat.le_of_lt (hv v hq).2.2.2.2⟩⟩
  · rename_i hc
    have hc1 : ¬ Q 15 < Q 6 := fun q => hc (Or.inl q)
    generalize hR : up (up (up (up (up Q (126 + 3 * Q 14) (Q 15)) (126 + 3 * Q 14 + 1) (toldF Q)) (126 + 3 * Q 14 + 2) (Q 16)) 14 (Q 14 + 1)) 15 0 = R
    have r0 : ∀ k, k ≠ 14 → k ≠ 15 → k ≠ 126 + 3 * Q 14 → k ≠ 126 + 3 * Q 14 + 1 → k ≠ 126 + 3 * Q 14 + 2 → R k = Q k := fun k a1 a2 a3 a4 a5 => by
      rw [← hR, up_n _ _ a2, up_n _ _ a1, up_n _ _ a5, up_n _ _ a4, up_n _ _ a3]
    have r14 : R 14 = Q 14 + 1 := by rw [← hR, up_n _ _ (by decide), up_s]
    have r15 : R 15 = 0 := by rw [← hR, up_s]
    have ra : R (126 + 3 * Q 14) = Q 15 := by rw [← hR, up_n _ _ (by omega), up_n _ _ (by omega), up_n _ _ (by omega), up_n _ _ (by omega), up_s]
    have rb : R (126 + 3 * Q 14 + 1) = toldF Q := by rw [← hR, up_n _ _ (by omega), up_n _ _ (by omega), up_n _ _ (by omega), up_s]
    have rc : R (126 + 3 * Q 14 + 2) = Q 16 := by rw [← hR, up_n _ _ (by omega), up_n _ _ (by omega), up_s]
    have ht : toldF R = toldF Q := toldF_cg h8 (fun k hk => r0 k (by omega) (by omega) (by omega) (by omega) (by omega))
    have r16 : R 16 = Q 16 := r0 16 (by decide) (by decide) (by omega) (by omega) (by omega)
    have r20 : R 20 = Q 20 := r0 20 (by decide) (by decide) (by omega) (by omega) (by omega)
    clear hR
    refine ⟨?_, fun v hq => ?_⟩
    · rw [r14, r15, r20]
      show 0 + (vsF R (Q 14) + R (126 + 3 * Q 14)) = Q 20
      rw [ra, vsF_cg (P := Q) (fun v hv2 => r0 _ (by omega) (by omega) (by omega) (by omega) (by omega))]
      omega
    · rw [r14] at hq
      by_cases e : v = Q 14
      · subst e
        rw [ra, rb, rc, ht, r16]
        refine ⟨by omega, ?_, Nat.le_refl _, ?_, Nat.le_refl _⟩
        · unfold pdF
          split
          · exact Nat.zero_le _
          · rename_i hz
            rw [r0 _ (by omega) (by omega) (by omega) (by omega) (by omega)]
            exact (hv (Q 14 - 1) (by omega)).2.2.1
        · unfold ptF
          split
          · exact h16
          · rename_i hz
            rw [r0 _ (by omega) (by omega) (by omega) (by omega) (by omega)]
            exact (hv (Q 14 - 1) (by omega)).2.2.2.2
      · obtain ⟨v1, v2, v3, v4, v5⟩ := hv v (by omega)
        have e1 : pdF R v = pdF Q v := by
          unfold pdF
          split
          · rfl
          · exact r0 _ (by omega) (by omega) (by omega) (by omega) (by omega)
        have e2 : ptF R v = ptF Q v := by
          unfold ptF
          split
          · rfl
          · exact r0 _ (by omega) (by omega) (by omega) (by omega) (by omega)
        rw [e1, e2, ht, r16, r0 (126 + 3 * v) (by omega) (by omega) (by omega) (by omega) (by omega), r0 (126 + 3 * v + 1) (by omega) (by omega) (by omega) (by omega) (by omega), r0 (126 + 3 * v + 2) (by omega) (by omega) (by omega) (by omega) (by omega)]
        exact ⟨v1, v2, v3, v4, Nat.le_of_lt v5⟩
theorem wat_mono (ln dn : Nat → Nat) {d e : Nat} (h : d ≤ e) : ∀ n, wat ln dn d n ≤ wat ln dn e n
  | 0 => Nat.le_refl _
  | n + 1 => Nat.add_le_add (wat_mono ln dn h n) (Nat.mul_le_mul_right _ (by omega))
/-- what a tick makes of a page, as the law asks -/
theorem tick_J {P : Nat → Nat} (h : Inv P) (h16 : P 16 < 20000) (hj : JI P) : JI (tickF P) ∧ toldF P ≤ toldF (tickF P) ∧ P 9 ≤ tickF P 9 ∧ P 19 ≤ tickF P 19 ∧ P 20 ≤ tickF P 20 ∧ (P 18 ≤ tickF P 18 ∧ tickF P 18 ≤ P 18 + 1) ∧ tickF P 17 = reasonF P ∧ (0 < reasonF P → P 18 < tickF P 18) := by
  have hd := h.d
  have h4 := tk4_d hd
  obtain ⟨hl, hv1, hv2⟩ := hj
  have t1 := tk4_told hd
  have o14 := tk4_same hd (k := 14) (by omega)
  have o6 := tk4_same hd (k := 6) (by omega)
  have o8 := tk4_same hd (k := 8) (by omega)
  have o16 := tk4_16 hd
  obtain ⟨o15, o20⟩ := tk4_15 hd
  have hs : ∀ k, k < 126 → k ≠ 14 → k ≠ 15 → tickF P k = tk4 P k := fun k a b c => sealF_o (tk4 P) a b c
  have tt : toldF (tickF P) = toldF (tk4 P) := toldF_cg (by rw [o8]; exact h.1.1) (fun k hk => hs k (by omega) (by omega) (by omega))
  have o9 : P 9 ≤ tickF P 9 := by
    rw [hs 9 (by decide) (by decide) (by decide), tk4_o P (by decide)]
    exact tk3_9 hd
  obtain ⟨hT, e16, geo⟩ := tick_ok h h16
  have hr := reasonF_le P
  refine ⟨⟨LJ_cg (tk4_LJ hd hl) (fun k hk => hs k (by omega) (by omega) (by omega)), seal_VJ (by rw [o8]; exact h.1.1) (by rw [o6]; have := hd.2.1; unfold SetOk at this; omega) (by omega) ?_ (fun v hv => ?_)⟩, by rw [tt]; exact t1, o9, ?_, ?_, ?_, ?_, ?_⟩
  · rw [o14, vsF_cg (P := P) (fun v _ => tk4_same hd (by omega))]
    omega
  · rw [o14] at hv
    obtain ⟨v1, v2, v3, v4, v5⟩ := hv2 v hv
    have e1 : pdF (tk4 P) v = pdF P v := by unfold pdF; rw [tk4_same hd (k := 126 + 3 * (v - 1) + 1) (by omega)]
    have e2 : ptF (tk4 P) v = ptF P v := by unfold ptF; rw [tk4_same hd (k := 126 + 3 * (v - 1) + 2) (by omega)]
    rw [e1, e2, tk4_same hd (k := 126 + 3 * v) (by omega), tk4_same hd (k := 126 + 3 * v + 1) (by omega), tk4_same hd (k := 126 + 3 * v + 2) (by omega)]
    exact ⟨v1, v2, by omega, v4, by omega⟩
  · have h8 := h.1.1
    rw [h.2.2.1.2.1, hT.2.2.1.2.1, geo 8 (by omega), wat_cg (f := lnP (tickF P)) (g := dnP (tickF P)) (f' := lnP P) (g' := dnP P) (n := P 8) (fun k hk => ⟨geo _ (by omega), geo _ (by omega)⟩)]
    exact wat_mono _ _ o9 _
  · rw [hs 20 (by decide) (by decide) (by decide)]; exact o20
  · rw [hs 18 (by decide) (by decide) (by decide), tk4_18 hd]
    have : (if 0 < reasonF P then 1 else 0) ≤ 1 := by split <;> omega
    exact ⟨Nat.le_add_right _ _, by omega⟩
  · rw [hs 17 (by decide) (by decide) (by decide), tk4_17 hd]
  · intro hr0
    rw [hs 18 (by decide) (by decide) (by decide), tk4_18 hd, if_pos hr0]
    exact Nat.lt_succ_self _
theorem it_J {P : Nat → Nat} (h : Inv P) (hj : JI P) : ∀ k, P 16 + k ≤ 20000 → JI (itF P k) ∧ toldF P ≤ toldF (itF P k) ∧ P 9 ≤ itF P k 9 ∧ P 19 ≤ itF P k 19 ∧ P 20 ≤ itF P k 20 ∧ P 18 ≤ itF P k 18 ∧ itF P k 18 ≤ P 18 + k
  | 0, _ => ⟨hj, Nat.le_refl _, Nat.le_refl _, Nat.le_refl _, Nat.le_refl _, Nat.le_refl _, Nat.le_refl _⟩
  | k + 1, hk => by
    obtain ⟨a0, a1, a2, a3, a4, a5, a6⟩ := it_J h hj k (by omega)
    obtain ⟨hi, e16, -⟩ := it_ok h k (by omega)
    obtain ⟨b0, b1, b2, b3, b4, b5, -, -⟩ := tick_J hi (by omega) a0
    show JI (tickF (itF P k)) ∧ toldF P ≤ toldF (tickF (itF P k)) ∧ P 9 ≤ tickF (itF P k) 9 ∧ P 19 ≤ tickF (itF P k) 19 ∧ P 20 ≤ tickF (itF P k) 20 ∧ P 18 ≤ tickF (itF P k) 18 ∧ tickF (itF P k) 18 ≤ P 18 + (k + 1)
    exact ⟨b0, by omega, by omega, by omega, by omega, by omega, by omega⟩
/-- the reason of the latest tick -/
theorem it_end {P : Nat → Nat} (h : Inv P) (hj : JI P) {q : Nat} (hq : 1 ≤ q) (hz : P 16 + q ≤ 20000) : (itF P q 17 = 0 ∨ P 18 < itF P q 18) ∧ (itF P q 17 ≠ 1 ∨ itF P q 9 = top (itF P q)) := by
  obtain ⟨k, rfl⟩ : ∃ k, q = k + 1 := ⟨q - 1, by omega⟩
  obtain ⟨a0, -, -, -, -, a5, -⟩ := it_J h hj k (by omega)
  obtain ⟨hi, e16, -⟩ := it_ok h k (by omega)
  obtain ⟨-, -, b2, -, -, -, b6, b7⟩ := tick_J hi (by omega) a0
  obtain ⟨hT, -, geo⟩ := tick_ok hi (show itF P k 16 < 20000 by omega)
  have e17 : itF P (k + 1) 17 = reasonF (itF P k) := b6
  have h8 := hi.1.1
  refine ⟨?_, ?_⟩
  · by_cases e : itF P (k + 1) 17 = 0
    · exact Or.inl e
    · have b8 : itF P k 18 < itF P (k + 1) 18 := b7 (by omega)
      exact Or.inr (by omega)
  · by_cases e : itF P (k + 1) 17 = 1
    · right
      have e9 : itF P k 9 = top (itF P k) := by
        rw [e17] at e
        unfold reasonF at e
        split at e
        · assumption
        · split at e
          · exact absurd e (by decide)
          · split at e <;> exact absurd e (by decide)
      have et : top (itF P (k + 1)) = top (itF P k) := by
        show low (lnP (tickF (itF P k))) (tickF (itF P k) 8) = low (lnP (itF P k)) (itF P k 8)
        rw [geo 8 (by omega)]
        exact low_congr (fun j hj => geo _ (by omega))
      have h9 : itF P (k + 1) 9 ≤ top (itF P (k + 1)) := hT.2.2.1.1
      have b2 : itF P k 9 ≤ itF P (k + 1) 9 := b2
      omega
    · exact Or.inl e
/-- what ticksTo tells -/
theorem ticks_is (P : Nat → Nat) (x : Nat) : (ticksN P (toldF P + x) = -4 ∧ 0 < x) ∨ ∃ j, ticksN P (toldF P + x) = nI j ∧ j ≤ 2000 ∧ (P 16 ≤ 20000 → P 16 + j ≤ 20000) ∧ toldF P + x ≤ toldF (itF P j) ∧ (∀ i, i < j → toldF (itF P i) < toldF P + x) ∧ (j = 0 ↔ x = 0) := by
  have h1 : toN P (toldF P + x) ≤ min 2000 (20000 - P 16) := ft_le _ _ _
  have h2 : ∀ i, i < toN P (toldF P + x) → toldF (itF P i) < toldF P + x := ft_lt _ _ _
  unfold ticksN
  by_cases h : toldF (itF P (toN P (toldF P + x))) < toldF P + x
  · rw [if_pos h]
    refine Or.inl ⟨rfl, ?_⟩
    by_cases hx : x = 0
    · exfalso
      have h3 : toN P (toldF P + x) = 0 := Classical.byContradiction (fun q => by
        have h4 : toldF P < toldF P + x := h2 0 (by omega)
        omega)
      rw [h3] at h
      have h : toldF P < toldF P + x := h
      omega
    · omega
  · rw [if_neg h]
    refine Or.inr ⟨_, rfl, by omega, fun h16 => by omega, by omega, h2, ?_, ?_⟩
    · intro h0
      rw [h0] at h
      have h : ¬ toldF P < toldF P + x := h
      omega
    · intro h0
      exact Classical.byContradiction (fun q => by
        have h4 : toldF P < toldF P + x := h2 0 (by omega)
        omega)
theorem up_upx (P : Nat → Nat) (i x y : Nat) : up (up P i x) i y = up P i y := by
  funext k
  unfold up
  by_cases e : k = i
  · rw [if_pos e, if_pos e]
  · rw [if_neg e, if_neg e, if_neg e]
theorem set_J {P : Nat → Nat} (h : Inv P) (hj : JI P) {w v : Nat} (hw : w < 8) : JI (up P w v) :=
  ⟨LJ_cg hj.1 (fun k hk => up_n _ _ (by omega)), VJ_cg hj.2 (set_told h.1.1 hw) (up_n _ _ (by omega)) (up_n _ _ (by omega)) (up_n _ _ (by omega)) (up_n _ _ (by omega)) (fun k hk => up_n _ _ (by omega))⟩
theorem cln_J {P : Nat → Nat} (h : Inv P) (hj : JI P) {i : Nat} (hi : i < 4) : JI (clnF P i) := by
  refine ⟨LJ_cg hj.1 (fun k hk => ?_), VJ_cg hj.2 (cln_told h.1.1 hi) (clnF_o P i (by omega)) (clnF_o P i (by omega)) (clnF_o P i (by omega)) (clnF_o P i (by omega)) (fun k hk => clnF_o P i (by omega))⟩
  exact clnF_o P i (by omega)
theorem add_J {P : Nat → Nat} (h : Inv P) (hj : JI P) {k l d m : Nat} (hs : SegK k l d m) (h8 : P 8 < 20) : JI (addF P k l d m) :=
  ⟨LJ_cg hj.1 (fun j hk => addF_hi _ _ _ _ _ (by omega) (by omega)), VJ_cg hj.2 (add_told h hs h8) (addF_hi _ _ _ _ _ (by omega) (by omega)) (addF_hi _ _ _ _ _ (by omega) (by omega)) (addF_hi _ _ _ _ _ (by omega) (by omega)) (addF_hi _ _ _ _ _ (by omega) (by omega)) (fun k hk => addF_hi _ _ _ _ _ (by omega) (by omega))⟩
theorem zero_J {P : Nat → Nat} (h : ∀ k, 9 ≤ k → k < 46 → P k = 0) : JI P := by
  refine ⟨⟨?_, ?_, fun i hi => ?_⟩, ?_, fun v hv => ?_⟩
  · rw [h 29 (by omega) (by omega), h 34 (by omega) (by omega), h 39 (by omega) (by omega), h 44 (by omega) (by omega), h 20 (by omega) (by omega), h 21 (by omega) (by omega)]
  · rw [h 30 (by omega) (by omega), h 35 (by omega) (by omega), h 40 (by omega) (by omega), h 45 (by omega) (by omega), h 21 (by omega) (by omega)]
  · rw [h (26 + 5 * i + 4) (by omega) (by omega)]; exact Nat.zero_le _
  · rw [h 15 (by omega) (by omega), h 14 (by omega) (by omega), h 20 (by omega) (by omega)]
    rfl
  · rw [h 14 (by omega) (by omega)] at hv; exact absurd hv (Nat.not_lt_zero _)
theorem newF_zx (P : Nat → Nat) {k : Nat} (h1 : 9 ≤ k) (h2 : k < 46) : newF P k = 0 := if_pos ⟨h1, h2⟩
theorem new_J (P : Nat → Nat) : JI (newF P) := zero_J (fun _ a b => newF_zx P a b)
/-- the best flow -/
theorem fl_is {P : Nat → Nat} {q : Nat} (hb : ∀ k, k < 50 → flP P q k 20 < 2 ^ 31) : ∀ n, n + 1 ≤ 50 → ∃ k, k < n + 1 ∧ flB P q (n + 1) = nI (10 * k + 10) ∧ flM P q (n + 1) = nI (flP P q k 20) ∧ (∀ j, j < n + 1 → flP P q j 20 ≤ flP P q k 20) ∧ ∀ j, j < k → flP P q j 20 < flP P q k 20
  | 0, _ => by
    have h : flM P q 0 < nI (flP P q 0 20) := Int32.lt_of_lt_of_le (show (-1 : Int32) < 0 by decide) (nI_pos' (hb 0 (by omega)))
    refine ⟨0, by omega, ?_, ?_, fun j hj => ?_, fun j hj => absurd hj (Nat.not_lt_zero _)⟩
    · show (if flM P q 0 < nI (flP P q 0 20) then _ else _) = _
      rw [if_pos h]
    · show (if flM P q 0 < nI (flP P q 0 20) then _ else _) = _
      rw [if_pos h]
    · rw [show j = 0 by omega]; exact Nat.le_refl _
  | n + 1, hn => by
    obtain ⟨k, k1, k2, k3, k4, k5⟩ := fl_is hb n (by omega)
    have e1 : flB P q (n + 1 + 1) = (if flM P q (n + 1) < nI (flP P q (n + 1) 20) then nI (10 * (n + 1) + 10) else flB P q (n + 1)) := rfl
    have e2 : flM P q (n + 1 + 1) = (if flM P q (n + 1) < nI (flP P q (n + 1) 20) then nI (flP P q (n + 1) 20) else flM P q (n + 1)) := rfl
    rw [e1, e2, k3]
    have hlt := nI_ltI (hb k (by omega)) (hb (n + 1) (by omega))
    by_cases h : flP P q k 20 < flP P q (n + 1) 20
    · rw [if_pos (hlt.mpr h), if_pos (hlt.mpr h)]
      refine ⟨n + 1, by omega, rfl, rfl, fun j hj => ?_, fun j hj => ?_⟩
      · rcases Nat.lt_succ_iff_lt_or_eq.mp hj with z | z
        · have := k4 j z; omega
        · rw [z]; exact Nat.le_refl _
      · have := k4 j hj; omega
    · rw [if_neg (fun z => h (hlt.mp z)), if_neg (fun z => h (hlt.mp z))]
      refine ⟨k, by omega, k2, rfl, fun j hj => ?_, k5⟩
      rcases Nat.lt_succ_iff_lt_or_eq.mp hj with z | z
      · exact k4 j z
      · rw [z]; omega
theorem fb_lt (f : Nat → Nat) (d : Nat) : ∀ n, ∀ j, j < fb f d n → f j ≤ d
  | 0, j, h => absurd h (Nat.not_lt_zero _)
  | n + 1, j, h => by
    have h1 := fb_lt f d n
    unfold fb at h
    split at h
    · exact h1 j h
    · rename_i q
      have q2 : fb f d n = n := Nat.le_antisymm (fb_le _ _ _) (Nat.not_lt.mp q)
      rw [q2] at h1
      split at h
      · rename_i q3
        rcases Nat.lt_succ_iff_lt_or_eq.mp h with z | z
        · exact h1 j z
        · rw [z]; exact q3
      · exact h1 j h
theorem fb_gt (f : Nat → Nat) (d : Nat) : ∀ n, fb f d n < n → d < f (fb f d n)
  | 0, h => absurd h (Nat.not_lt_zero _)
  | n + 1, h => by
    have e : fb f d (n + 1) = if fb f d n < n then fb f d n else if f n ≤ d then n + 1 else n := rfl
    rw [e] at h ⊢
    by_cases q : fb f d n < n
    · rw [if_pos q]; exact fb_gt f d n q
    · rw [if_neg q] at h ⊢
      by_cases q2 : f n ≤ d
      · rw [if_pos q2] at h; exact absurd h (Nat.lt_irrefl _)
      · rw [if_neg q2]; omega
