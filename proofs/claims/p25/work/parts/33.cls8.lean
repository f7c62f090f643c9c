theorem plate_app {G : KG} {pn : Nat → Nat → Nat} {P lo : Nat → Nat} {X : va_W} : plateW G pn P lo ++ X = plH G (pn 0) (pn 1) (pn 2) (pn 3) (fun k => P k) (fun k => P (19 + k)) (P 9) (P 10) (P 11) (P 12) (P 13) (toldF P) (watF P) (P 16) (P 17) (P 18) ++ (coreW G (pn 1) (P 8) (top P) (kdP P) (lnP P) (dnP P) (moP P) lo ++ (linesW G (pn 2) (fun k => P (26 + 5 * k)) (fun k => P (26 + 5 * k + 1)) (fun k => P (26 + 5 * k + 2)) (fun k => P (26 + 5 * k + 3)) (fun k => P (26 + 5 * k + 4)) ++ (vialsW G (pn 3) (P 14) (P 15) (fun k => P (126 + 3 * k)) (fun k => P (126 + 3 * k + 1)) (fun k => P (126 + 3 * k + 2)) ++ X))) := by
  unfold plateW plateX
  rw [List.append_assoc, List.append_assoc, List.append_assoc]
def addF (P : Nat → Nat) (k l d m : Nat) : Nat → Nat := up (up (up (up (up P (46 + 4 * P 8) k) (46 + 4 * P 8 + 1) l) (46 + 4 * P 8 + 2) d) (46 + 4 * P 8 + 3) m) 8 (P 8 + 1)
def segI (k l d m : Int32) : Prop := ∃ a b c e : Nat, k = nI a ∧ l = nI b ∧ d = nI c ∧ m = nI e ∧ SegK a b c e
theorem i_of {x : Int32} {n : Nat} (h0 : nI 0 ≤ x) (h : x ≤ nI n) (hn : n < 2 ^ 31) : ∃ i, i ≤ n ∧ x = nI i := by
  obtain ⟨i, hi, rfl⟩ := nI_of (show ¬ x < 0 from Int32.not_lt.mpr h0)
  exact ⟨i, (nI_leI hi hn).mp h, rfl⟩
theorem segK_lt {k l d m : Nat} (h : SegK k l d m) : k ≤ 2 ∧ l ≤ 300 ∧ d ≤ 92 ∧ m ≤ 100 := by unfold SegK at h; omega
theorem fwI_ok {k l d m : Nat} (h : SegK k l d m) : fwI (nI k) (nI l) (nI d) (nI m) = 0 := by
  obtain ⟨b1, b2, b3, b4⟩ := segK_lt h
  have e1 : ¬ (nI l < 1 ∨ 300 < nI l) := fun q => q.elim (fun q => absurd ((nI_ltI (b := 1) (by omega) (by decide)).mp q) (by unfold SegK at h; omega)) (fun q => absurd ((nI_ltI (a := 300) (by decide) (by omega)).mp q) (by omega))
  unfold fwI
  rw [if_neg e1]
  have hd := nI_ltI (show d < 2 ^ 31 by omega) (show 60 < 2 ^ 31 by decide)
  have hd2 := nI_ltI (show 92 < 2 ^ 31 by decide) (show d < 2 ^ 31 by omega)
  have hm := nI_ltI (show 50 < 2 ^ 31 by decide) (show m < 2 ^ 31 by omega)
  have hm2 := nI_ltI (show 100 < 2 ^ 31 by decide) (show m < 2 ^ 31 by omega)
  have hm3 := nI_ltI (show m < 2 ^ 31 by omega) (show 1 < 2 ^ 31 by decide)
  have hm4 : ¬ nI m < 0 := nI_pos (by omega)
  rcases h.2.2 with ⟨rfl, q⟩ | ⟨rfl, rfl, rfl⟩ | ⟨rfl, q⟩
  · show (if nI d < nI 60 ∨ nI 92 < nI d then (2 : Int32) else if nI m < 0 ∨ nI 50 < nI m then 3 else 0) = 0
    rw [if_neg (by rw [hd, hd2]; omega), if_neg (fun z => z.elim hm4 (by rw [hm]; omega))]
  · decide +kernel
  · show (if nI d < nI 60 ∨ nI 92 < nI d then (2 : Int32) else if nI m < nI 1 ∨ nI 100 < nI m then 3 else 0) = 0
    rw [if_neg (by rw [hd, hd2]; omega), if_neg (by rw [hm2, hm3]; omega)]
theorem fwI_0 {k l d m : Int32} (h : fwI k l d m = 0) : (1 ≤ l ∧ l ≤ 300) ∧ (lDI k ≤ d ∧ d ≤ mDI k) ∧ (lMI k ≤ m ∧ m ≤ mMI k) := by
  unfold fwI at h
  split at h
  · exact absurd h (by decide)
  · split at h
    · exact absurd h (by decide)
    · split at h
      · exact absurd h (by decide)
      · rename_i h1 h2 h3
        refine ⟨⟨?_, ?_⟩, ⟨?_, ?_⟩, ⟨?_, ?_⟩⟩ <;> exact Int32.not_lt.mp (fun q => by first | exact h1 (Or.inl q) | exact h1 (Or.inr q) | exact h2 (Or.inl q) | exact h2 (Or.inr q) | exact h3 (Or.inl q) | exact h3 (Or.inr q))
theorem segI_of {k l d m : Int32} (h0 : nI 0 ≤ k) (h2 : k ≤ nI 2) (h : fwI k l d m = 0) : segI k l d m := by
  obtain ⟨⟨l1, l2⟩, ⟨d1, d2⟩, ⟨m1, m2⟩⟩ := fwI_0 h
  obtain ⟨b, hb, rfl⟩ := i_of (n := 300) (Int32.le_trans (by decide) l1) l2 (by decide)
  have hb1 := (nI_leI (a := 1) (by decide) (by omega)).mp l1
  obtain ⟨a, ha, rfl⟩ := i_of h0 h2 (by decide)
  rcases (show a = 0 ∨ a = 1 ∨ a = 2 by omega) with rfl | rfl | rfl
  · obtain ⟨c, hc, rfl⟩ := i_of (n := 92) (Int32.le_trans (by decide) (show nI 60 ≤ d from d1)) d2 (by decide)
    obtain ⟨e, he, rfl⟩ := i_of (n := 50) (show nI 0 ≤ m from m1) m2 (by decide)
    have hc1 := (nI_leI (a := 60) (by decide) (by omega)).mp d1
    exact ⟨0, b, c, e, rfl, rfl, rfl, rfl, hb1, hb, Or.inl ⟨rfl, hc1, hc, he⟩⟩
  · obtain ⟨c, hc, rfl⟩ := i_of (n := 0) (show nI 0 ≤ d from d1) d2 (by decide)
    obtain ⟨e, he, rfl⟩ := i_of (n := 0) (show nI 0 ≤ m from m1) m2 (by decide)
    exact ⟨1, b, c, e, rfl, rfl, rfl, rfl, hb1, hb, Or.inr (Or.inl ⟨rfl, by omega, by omega⟩)⟩
  · obtain ⟨c, hc, rfl⟩ := i_of (n := 92) (Int32.le_trans (by decide) (show nI 60 ≤ d from d1)) d2 (by decide)
    obtain ⟨e, he, rfl⟩ := i_of (n := 100) (Int32.le_trans (by decide) (show nI 1 ≤ m from m1)) m2 (by decide)
    have hc1 := (nI_leI (a := 60) (by decide) (by omega)).mp d1
    have he1 := (nI_leI (a := 1) (by decide) (by omega)).mp m1
    exact ⟨2, b, c, e, rfl, rfl, rfl, rfl, hb1, hb, Or.inr (Or.inr ⟨rfl, hc1, hc, he1, he⟩)⟩
theorem addF_hi (P : Nat → Nat) (k l d m : Nat) {j : Nat} (h : j ≠ 8) (h2 : j < 46 + 4 * P 8 ∨ 46 + 4 * P 8 + 3 < j) : addF P k l d m j = P j := by
  unfold addF
  rw [up_n _ _ h, up_n _ _ (by omega), up_n _ _ (by omega), up_n _ _ (by omega), up_n _ _ (by omega)]
theorem addF_8 (P : Nat → Nat) (k l d m : Nat) : addF P k l d m 8 = P 8 + 1 := up_s _ _ _
theorem addF_0 (P : Nat → Nat) (k l d m : Nat) : addF P k l d m (46 + 4 * P 8) = k := by
  unfold addF
  rw [up_n _ _ (by omega), up_n _ _ (by omega), up_n _ _ (by omega), up_n _ _ (by omega), up_s]
theorem addF_1 (P : Nat → Nat) (k l d m : Nat) : addF P k l d m (46 + 4 * P 8 + 1) = l := by
  unfold addF
  rw [up_n _ _ (by omega), up_n _ _ (by omega), up_n _ _ (by omega), up_s]
theorem addF_2 (P : Nat → Nat) (k l d m : Nat) : addF P k l d m (46 + 4 * P 8 + 2) = d := by
  unfold addF
  rw [up_n _ _ (by omega), up_n _ _ (by omega), up_s]
theorem addF_3 (P : Nat → Nat) (k l d m : Nat) : addF P k l d m (46 + 4 * P 8 + 3) = m := by
  unfold addF
  rw [up_n _ _ (by omega), up_s]
theorem addF_seg (P : Nat → Nat) (k l d m j : Nat) : addF P k l d m (46 + 4 * j) = up (kdP P) (P 8) k j ∧ addF P k l d m (46 + 4 * j + 1) = up (lnP P) (P 8) l j ∧ addF P k l d m (46 + 4 * j + 2) = up (dnP P) (P 8) d j ∧ addF P k l d m (46 + 4 * j + 3) = up (moP P) (P 8) m j := by
  by_cases q : j = P 8
  · subst q
    rw [addF_0, addF_1, addF_2, addF_3, up_s, up_s, up_s, up_s]
    exact ⟨rfl, rfl, rfl, rfl⟩
  · rw [up_n _ _ q, up_n _ _ q, up_n _ _ q, up_n _ _ q, addF_hi _ _ _ _ _ (by omega) (by omega), addF_hi _ _ _ _ _ (by omega) (by omega), addF_hi _ _ _ _ _ (by omega) (by omega), addF_hi _ _ _ _ _ (by omega) (by omega)]
    exact ⟨rfl, rfl, rfl, rfl⟩
theorem addF_low (P : Nat → Nat) (k l d m : Nat) {i : Nat} (h : i ≤ P 8) : low (lnP (addF P k l d m)) i = low (lnP P) i := low_congr (fun j hj => ((addF_seg P k l d m j).2.1).trans (up_n _ _ (by omega)))
theorem addF_top (P : Nat → Nat) (k l d m : Nat) : top (addF P k l d m) = top P + l := by
  unfold top
  rw [addF_8]
  show low (lnP (addF P k l d m)) (P 8) + addF P k l d m (46 + 4 * P 8 + 1) = _
  rw [addF_low P k l d m (Nat.le_refl _), addF_1]
theorem seg_cg {P Q : Nat → Nat} (h8 : Q 8 = P 8) (h : ∀ k, 46 ≤ k → k < 126 → Q k = P k) (hS : SegOk P) : SegOk Q ∧ top Q = top P ∧ ∀ d, wat (lnP Q) (dnP Q) d (Q 8) = wat (lnP P) (dnP P) d (P 8) := by
  have g8 := hS.1
  refine ⟨⟨by omega, fun k hk => ?_⟩, ?_, fun d => ?_⟩
  · rw [h8] at hk
    rw [h _ (by omega) (by omega), h _ (by omega) (by omega), h _ (by omega) (by omega), h _ (by omega) (by omega)]
    exact hS.2 k hk
  · unfold top
    rw [h8]
    exact low_congr (fun k hk => h _ (by omega) (by omega))
  · rw [h8]
    exact wat_cg (fun k hk => ⟨h _ (by omega) (by omega), h _ (by omega) (by omega)⟩)
theorem Inv_cg {P Q : Nat → Nat} (hI : Inv P) (h : ∀ k, 8 ≤ k → (k < 26 ∨ 46 ≤ k) → Q k = P k) (hT : SetOk Q) (hL : LinOk Q) : Inv Q := by
  obtain ⟨hS, -, hM, hD, -, hV, hC⟩ := hI
  obtain ⟨s1, s2, s3⟩ := seg_cg (h 8 (by omega) (by omega)) (fun k h1 h2 => h k (by omega) (by omega)) hS
  have v := hV.1
  refine ⟨s1, hT, ?_, ?_, hL, ⟨?_, fun j hj => ?_⟩, ?_⟩
  · unfold MelOk at hM ⊢
    rw [s2, h 9 (by omega) (by omega), h 19 (by omega) (by omega), h 22 (by omega) (by omega), h 24 (by omega) (by omega), s3]
    exact hM
  · unfold DrOk at hD ⊢
    rw [h 19 (by omega) (by omega), h 11 (by omega) (by omega), h 20 (by omega) (by omega), h 21 (by omega) (by omega), h 22 (by omega) (by omega), h 12 (by omega) (by omega), h 23 (by omega) (by omega), h 24 (by omega) (by omega), h 13 (by omega) (by omega), h 25 (by omega) (by omega), h 15 (by omega) (by omega)]
    exact hD
  · rw [h 14 (by omega) (by omega)]; exact v
  · rw [h 14 (by omega) (by omega)] at hj
    rw [h _ (by omega) (by omega)]
    exact hV.2 j hj
  · unfold CntOk at hC ⊢
    rw [h 16 (by omega) (by omega), h 10 (by omega) (by omega), h 17 (by omega) (by omega), h 18 (by omega) (by omega)]
    exact hC
/-- a line cleaned -/
def clnF (P : Nat → Nat) (i : Nat) : Nat → Nat := up (up (up P (26 + 5 * i) 0) (26 + 5 * i + 1) 0) (26 + 5 * i + 2) 0
theorem clnF_o (P : Nat → Nat) (i : Nat) {k : Nat} (h : k < 26 + 5 * i ∨ 26 + 5 * i + 2 < k) : clnF P i k = P k := by
  unfold clnF
  rw [up_n _ _ (by omega), up_n _ _ (by omega), up_n _ _ (by omega)]
theorem clnF_0 (P : Nat → Nat) (i : Nat) : clnF P i (26 + 5 * i) = 0 := by
  unfold clnF
  rw [up_n _ _ (by omega), up_n _ _ (by omega), up_s]
theorem clnF_1 (P : Nat → Nat) (i : Nat) : clnF P i (26 + 5 * i + 1) = 0 := by
  unfold clnF
  rw [up_n _ _ (by omega), up_s]
theorem clnF_2 (P : Nat → Nat) (i : Nat) : clnF P i (26 + 5 * i + 2) = 0 := up_s _ _ _
theorem clnF_lin (P : Nat → Nat) (i k : Nat) : clnF P i (26 + 5 * k) = up (fun j => P (26 + 5 * j)) i 0 k ∧ clnF P i (26 + 5 * k + 1) = up (fun j => P (26 + 5 * j + 1)) i 0 k ∧ clnF P i (26 + 5 * k + 2) = up (fun j => P (26 + 5 * j + 2)) i 0 k ∧ clnF P i (26 + 5 * k + 3) = P (26 + 5 * k + 3) ∧ clnF P i (26 + 5 * k + 4) = P (26 + 5 * k + 4) := by
  by_cases q : k = i
  · subst q
    rw [clnF_0, clnF_1, clnF_2, up_s, up_s, up_s, clnF_o _ _ (by omega), clnF_o _ _ (by omega)]
    exact ⟨rfl, rfl, rfl, rfl, rfl⟩
  · rw [up_n _ _ q, up_n _ _ q, up_n _ _ q, clnF_o _ _ (by omega), clnF_o _ _ (by omega), clnF_o _ _ (by omega), clnF_o _ _ (by omega), clnF_o _ _ (by omega)]
    exact ⟨rfl, rfl, rfl, rfl, rfl⟩
theorem cln_inv {P : Nat → Nat} (hI : Inv P) {i : Nat} (hi : i < 4) : Inv (clnF P i) := by
  refine Inv_cg hI (fun k h1 h2 => clnF_o P i (by omega)) ?_ (fun k hk => ?_)
  · have hT := hI.2.1
    unfold SetOk at hT ⊢
    rw [clnF_o P i (k := 0) (by omega), clnF_o P i (k := 1) (by omega), clnF_o P i (k := 2) (by omega), clnF_o P i (k := 3) (by omega), clnF_o P i (k := 4) (by omega), clnF_o P i (k := 5) (by omega), clnF_o P i (k := 6) (by omega), clnF_o P i (k := 7) (by omega)]
    exact hT
  · obtain ⟨e0, e1, e2, -, -⟩ := clnF_lin P i k
    have := hI.2.2.2.2.1 k hk
    rw [e0, e1, e2, clnF_o P i (k := 25) (by omega)]
    by_cases q : k = i
    · subst q
      rw [up_s, up_s, up_s]; omega
    · rw [up_n _ _ q, up_n _ _ q, up_n _ _ q]; exact this
theorem cln_told {P : Nat → Nat} (h8 : P 8 ≤ 20) {i : Nat} (hi : i < 4) : toldF (clnF P i) = toldF P := toldF_cg h8 (fun k hk => clnF_o P i (by omega))
theorem cln_wat {P : Nat → Nat} (h8 : P 8 ≤ 20) {i : Nat} (hi : i < 4) : watF (clnF P i) = watF P := by
  unfold watF
  rw [cln_told h8 hi, clnF_o P i (k := 8) (by omega)]
  exact wat_cg (fun k hk => ⟨clnF_o P i (by omega), clnF_o P i (by omega)⟩)
theorem cln_top {P : Nat → Nat} {i : Nat} (h8 : P 8 ≤ 20) (hi : i < 4) : top (clnF P i) = top P := by
  unfold top
  rw [clnF_o P i (k := 8) (by omega)]
  exact low_congr (fun k hk => clnF_o P i (by omega))
/-- a setting set -/
theorem set_inv {P : Nat → Nat} (hI : Inv P) {w v : Nat} (hw : w < 8) (hT : SetOk (up P w v)) : Inv (up P w v) :=
  Inv_cg hI (fun k h1 h2 => up_n _ _ (by omega)) hT (fun k hk => by rw [up_n _ _ (by omega), up_n _ _ (by omega), up_n _ _ (by omega), up_n _ _ (by omega)]; exact hI.2.2.2.2.1 k hk)
/-- a segment added -/
theorem add_wat (P : Nat → Nat) (k l d m : Nat) {h : Nat} (hh : h ≤ top P) : wat (lnP (addF P k l d m)) (dnP (addF P k l d m)) h (addF P k l d m 8) = wat (lnP P) (dnP P) h (P 8) := by
  rw [addF_8, wat_more (n := P 8) (k := P 8 + 1) _ _ (by rw [addF_low P k l d m (Nat.le_refl _)]; exact hh) (Nat.le_succ _)]
  exact wat_cg (fun j hj => ⟨((addF_seg P k l d m j).2.1).trans (up_n _ _ (by omega)), ((addF_seg P k l d m j).2.2.1).trans (up_n _ _ (by omega))⟩)
theorem add_inv {P : Nat → Nat} {k l d m : Nat} (hI : Inv P) (hs : SegK k l d m) (h8 : P 8 < 20) : Inv (addF P k l d m) := by
  have o : ∀ {j : Nat}, j ≠ 8 → j < 46 ∨ 126 ≤ j → addF P k l d m j = P j := fun h h2 => addF_hi P k l d m h (by omega)
  obtain ⟨hS, hT, hM, hD, hL, hV, hC⟩ := hI
  have v := hV.1
  refine ⟨⟨by rw [addF_8]; omega, fun j hj => ?_⟩, ?_, ?_, ?_, fun j hj => ?_, ⟨?_, fun j hj => ?_⟩, ?_⟩
  · rw [addF_8] at hj
    obtain ⟨e0, e1, e2, e3⟩ := addF_seg P k l d m j
    rw [e0, e1, e2, e3]
    by_cases q : j = P 8
    · subst q
      rw [up_s, up_s, up_s, up_s]; exact hs
    · rw [up_n _ _ q, up_n _ _ q, up_n _ _ q, up_n _ _ q]; exact hS.2 j (by omega)
  · unfold SetOk at hT ⊢
    rw [o (j := 0) (by omega) (by omega), o (j := 1) (by omega) (by omega), o (j := 2) (by omega) (by omega), o (j := 3) (by omega) (by omega), o (j := 4) (by omega) (by omega), o (j := 5) (by omega) (by omega), o (j := 6) (by omega) (by omega), o (j := 7) (by omega) (by omega)]
    exact hT
  · unfold MelOk at hM ⊢
    rw [addF_top, o (j := 9) (by omega) (by omega), o (j := 19) (by omega) (by omega), o (j := 22) (by omega) (by omega), o (j := 24) (by omega) (by omega), add_wat P k l d m hM.1]
    exact ⟨by omega, hM.2⟩
  · unfold DrOk at hD ⊢
    rw [o (j := 19) (by omega) (by omega), o (j := 11) (by omega) (by omega), o (j := 20) (by omega) (by omega), o (j := 21) (by omega) (by omega), o (j := 22) (by omega) (by omega), o (j := 12) (by omega) (by omega), o (j := 23) (by omega) (by omega), o (j := 24) (by omega) (by omega), o (j := 13) (by omega) (by omega), o (j := 25) (by omega) (by omega), o (j := 15) (by omega) (by omega)]
    exact hD
  · rw [o (j := 26 + 5 * j) (by omega) (by omega), o (j := 26 + 5 * j + 1) (by omega) (by omega), o (j := 26 + 5 * j + 2) (by omega) (by omega), o (j := 25) (by omega) (by omega)]
    exact hL j hj
  · rw [o (j := 14) (by omega) (by omega)]; exact v
  · rw [o (j := 14) (by omega) (by omega)] at hj
    rw [o (by omega) (by omega)]
    exact hV.2 j hj
  · unfold CntOk at hC ⊢
    rw [o (j := 16) (by omega) (by omega), o (j := 10) (by omega) (by omega), o (j := 17) (by omega) (by omega), o (j := 18) (by omega) (by omega)]
    exact hC
theorem add_told {P : Nat → Nat} {k l d m : Nat} (hI : Inv P) (hs : SegK k l d m) (h8 : P 8 < 20) : toldF (addF P k l d m) = toldF P := by
  have o : ∀ {j : Nat}, j ≠ 8 → j < 46 → addF P k l d m j = P j := fun h h2 => addF_hi P k l d m h (by omega)
  have hM := hI.2.2.1.1
  have e9 := o (j := 9) (by omega) (by omega)
  have e20 := o (j := 20) (by omega) (by omega)
  have e21 := o (j := 21) (by omega) (by omega)
  have a1 := toldF_le P
  have a2 := toldF_le (addF P k l d m)
  rw [e9] at a2
  have i1 := told_iff hI a1
  have i2 := told_iff hI a2
  have i3 := told_iff (add_inv hI hs h8) (k := toldF P) (by rw [e9]; exact a1)
  have i4 := told_iff (add_inv hI hs h8) (k := toldF (addF P k l d m)) (by rw [e9]; exact a2)
  rw [add_wat P k l d m (Nat.le_trans a1 hM), e20, e21] at i3
  rw [add_wat P k l d m (Nat.le_trans a2 hM), e20, e21] at i4
  have b1 := i3.mp (i1.mpr (Nat.le_refl _))
  have b2 := i2.mp (i4.mpr (Nat.le_refl _))
  omega
theorem add_watF {P : Nat → Nat} {k l d m : Nat} (hI : Inv P) (hs : SegK k l d m) (h8 : P 8 < 20) : watF (addF P k l d m) = watF P := by
  unfold watF
  rw [add_told hI hs h8]
  exact add_wat P k l d m (Nat.le_trans (toldF_le P) hI.2.2.1.1)
theorem add_lo {P lo : Nat → Nat} {k l d m : Nat} (h : LoOk P lo) : LoOk (addF P k l d m) (up lo (P 8) (top P)) := by
  intro j hj
  rw [addF_8] at hj
  rw [addF_low P k l d m (by omega)]
  by_cases q : j = P 8
  · subst q; exact up_s _ _ _
  · rw [up_n _ _ q]; exact h j (by omega)

