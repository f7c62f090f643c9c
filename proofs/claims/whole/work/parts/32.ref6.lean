theorem told_iff {P : Nat → Nat} (hI : Inv P) {k : Nat} (h : k ≤ P 9) : wat (lnP P) (dnP P) k (P 8) ≤ P 20 + P 21 ↔ k ≤ toldF P := by
  have h2 : k ≤ low (lnP P) (P 8) := Nat.le_trans h hI.2.2.1.1
  rw [dep_iff _ _ _ _ _ h2]
  unfold toldF
  omega
theorem told_1 {P : Nat → Nat} (hI : Inv P) {k : Nat} (h1 : toldF P ≤ k) (c : P 20 + P 21 < wat (lnP P) (dnP P) k (P 8)) : 1 ≤ k := by
  rcases Nat.eq_zero_or_pos k with q | q
  · subst q
    exact absurd ((told_iff hI (Nat.zero_le _)).mpr (Nat.zero_le _)) (by omega)
  · exact q
theorem told_dn {P : Nat → Nat} (hI : Inv P) {k : Nat} (h : k ≤ P 9) (h1 : toldF P ≤ k) (c : P 20 + P 21 < wat (lnP P) (dnP P) k (P 8)) : toldF P ≤ k - 1 := by
  have := told_iff hI h
  omega
theorem told_eq {P : Nat → Nat} (hI : Inv P) {k : Nat} (h1 : toldF P ≤ k) (h : k ≤ P 9) (c : ¬ P 20 + P 21 < wat (lnP P) (dnP P) k (P 8)) : k = toldF P := by
  have := told_iff hI h
  omega
theorem yn_c {q r : Prop} [Decidable q] [Decidable r] (h : q ↔ r) : yn q = yn r := by unfold yn; simp only [h]
theorem in0_pos {i n : Nat} (hi : i < 2 ^ 31) (hn : n < 2 ^ 31) : (nI 0 ≤ nI i ∧ nI i ≤ nI n - nI 1) ↔ i < n := by
  rcases Nat.eq_zero_or_pos n with h | h
  · subst h
    constructor
    · intro q
      have h1 : nI i ≤ -1 := q.2
      exact absurd (Int32.lt_of_le_of_lt h1 (by decide)) (nI_pos hi)
    · intro q; exact absurd q (Nat.not_lt_zero _)
  · rw [pk_sub (show 1 ≤ n from h), nI_leI (by decide) hi, nI_leI hi (by omega)]
    omega
theorem nI_sub_neg {a b : Nat} (h : a < b) (hb : b < 2 ^ 31) : nI a - nI b < 0 := by
  rw [Int32.lt_iff_toInt_lt, Int32.toInt_sub, nI_toInt (by omega), nI_toInt hb, Int32.toInt_zero]
  unfold Int.bmod
  simp only []
  split <;> omega
theorem sg_lt_top {P : Nat → Nat} {d : Nat} (h8 : P 8 = P 8) : sg (lnP P) d (P 8) < P 8 ↔ d < top P := by
  constructor
  · intro h
    by_cases q : d < top P
    · exact q
    · exact absurd h (by rw [sg_all (fun j hj => Nat.le_trans (low_mono _ hj) (Nat.not_lt.mp q))]; exact Nat.lt_irrefl _)
  · intro h; exact (sg_lt h).1
theorem vialAt_hit {P : Nat → Nat} {i k : Nat} (h2 : ∀ j, j < k → P (126 + 3 * j + 1) ≤ i) (h : k < P 14) (hd : i < P (126 + 3 * k + 1)) : nI k = vialAtN P i := by
  have e := fb_at (f := fun k => P (126 + 3 * k + 1)) (d := i) h h2 hd
  unfold vialAtN
  rw [e, if_pos h]
theorem vialAt_miss {P : Nat → Nat} {i : Nat} (h2 : ∀ j, j < P 14 → P (126 + 3 * j + 1) ≤ i) : (-4 : Int32) = vialAtN P i := by
  have e := fb_all (f := fun k => P (126 + 3 * k + 1)) (d := i) (n := P 14) h2
  unfold vialAtN
  rw [e, if_neg (Nat.lt_irrefl _)]
theorem nI_dec {k : Nat} (h : 1 ≤ k) : nI k + Int32.ofInt (-1) = nI (k - 1) := by
  rw [← pk_sub h, Int32.sub_eq_add_neg]
  rfl
theorem in0_neg {x y : Int32} (h : x < 0) : ¬ (nI 0 ≤ x ∧ x ≤ y) := fun q => absurd h (Int32.not_lt.mpr q.1)
set_option maxRecDepth 100000 in
set_option maxHeartbeats 4000000 in
theorem c_X8_isSegmentM (l : Launch) (G : KG) (a P Sp Hs T N : Nat → Nat) (sc tl tp fa fr fn : Nat) (x : Int32) (hx : x < 0) : MetI l yX8_isSegment wsX8_isSegment 1 G (mW G a P Sp Hs sc T tl tp fa fr fn N) [.ref (a 0), .int x] (fun r v => r = yn (False) ∧ v = mW G a P Sp Hs sc T tl tp fa fr fn N) := by
  refine MetI.by (cc := cX8_isSegment) (nL := 2) (ret := some .boolean) (by decide +kernel) rfl (Nat.le_of_ble_eq_true rfl) ?_
  intro p e s m args below meth c F w ls hl
  have hl : lv_has ls 2 [(0, .ref (a 0)), (1, .int x)] := hl
  have hts := F.ts
  have iX8 : ∀ w ∈ wsX80, w ∈ wsX8_isSegment := by decide +kernel
  have f7 := hts (.fieldLink RX8 7 "CoreMelterModel" "m" "[I") (by decide +kernel)
  refine lv_iload_n F.1 F.2.1 dX8_isSegment_0 rfl (lv_at hl 1 rfl) ?_
  refine lv_iconst (v := nI 0) F.1 F.2.1 dX8_isSegment_1 (by decide) ?_
  refine lv_aload_n F.1 F.2.1 dX8_isSegment_2 rfl (lv_at hl 0 rfl) ?_
  refine r_get F w 0 0 iX8 f7 rfl rfl rfl (by decide) rfl dX8_isSegment_3 ?_
  refine lv_bipush (v := nI 8) F.1 F.2.1 dX8_isSegment_6 (by decide) ?_
  refine r_iald F w 1 rfl (by omega) (by decide) dX8_isSegment_8 ?_
  refine lv_iconst (v := nI 1) F.1 F.2.1 dX8_isSegment_9 (by decide) ?_
  refine lv_isub F.1 F.2.1 dX8_isSegment_10 ?_
  refine r_callS0 (rest := []) F w (c_X8_in l G x (nI 0) ((nI (P 8)) - (nI 1))) gX8_isSegment_X8_in (nA0 := 3) rfl (by decide +kernel) rfl ⟨Nat.le_of_ble_eq_true rfl, Nat.le_of_ble_eq_true rfl⟩ ⟨Nat.le_of_ble_eq_true rfl, Nat.le_of_ble_eq_true rfl⟩ hl rfl (Nat.le_of_ble_eq_true rfl) dX8_isSegment_11 (fun r_11 w1 H locs hp w => ?_)
  obtain ⟨rfl, rfl⟩ := hp
  exact r_zreturn F w dX8_isSegment_14 (yn_nar _) (⟨yn_c (iff_of_false (in0_neg hx) id), rfl⟩)
set_option maxRecDepth 100000 in
set_option maxHeartbeats 4000000 in
theorem c_X8_isSegmentN (l : Launch) (G : KG) (a P Sp Hs T N : Nat → Nat) (sc tl tp fa fr fn : Nat) (i : Nat) (hi31 : i < 2 ^ 31) (hk : P 8 < 2 ^ 31) : MetI l yX8_isSegment wsX8_isSegment 1 G (mW G a P Sp Hs sc T tl tp fa fr fn N) [.ref (a 0), .int (nI i)] (fun r v => r = yn (i < P 8) ∧ v = mW G a P Sp Hs sc T tl tp fa fr fn N) := by
  refine MetI.by (cc := cX8_isSegment) (nL := 2) (ret := some .boolean) (by decide +kernel) rfl (Nat.le_of_ble_eq_true rfl) ?_
  intro p e s m args below meth c F w ls hl
  have hl : lv_has ls 2 [(0, .ref (a 0)), (1, .int (nI i))] := hl
  have hts := F.ts
  have iX8 : ∀ w ∈ wsX80, w ∈ wsX8_isSegment := by decide +kernel
  have f7 := hts (.fieldLink RX8 7 "CoreMelterModel" "m" "[I") (by decide +kernel)
  refine lv_iload_n F.1 F.2.1 dX8_isSegment_0 rfl (lv_at hl 1 rfl) ?_
  refine lv_iconst (v := nI 0) F.1 F.2.1 dX8_isSegment_1 (by decide) ?_
  refine lv_aload_n F.1 F.2.1 dX8_isSegment_2 rfl (lv_at hl 0 rfl) ?_
  refine r_get F w 0 0 iX8 f7 rfl rfl rfl (by decide) rfl dX8_isSegment_3 ?_
  refine lv_bipush (v := nI 8) F.1 F.2.1 dX8_isSegment_6 (by decide) ?_
  refine r_iald F w 1 rfl (by omega) (by decide) dX8_isSegment_8 ?_
  refine lv_iconst (v := nI 1) F.1 F.2.1 dX8_isSegment_9 (by decide) ?_
  refine lv_isub F.1 F.2.1 dX8_isSegment_10 ?_
  refine r_callS0 (rest := []) F w (c_X8_in l G (nI i) (nI 0) ((nI (P 8)) - (nI 1))) gX8_isSegment_X8_in (nA0 := 3) rfl (by decide +kernel) rfl ⟨Nat.le_of_ble_eq_true rfl, Nat.le_of_ble_eq_true rfl⟩ ⟨Nat.le_of_ble_eq_true rfl, Nat.le_of_ble_eq_true rfl⟩ hl rfl (Nat.le_of_ble_eq_true rfl) dX8_isSegment_11 (fun r_11 w1 H locs hp w => ?_)
  obtain ⟨rfl, rfl⟩ := hp
  exact r_zreturn F w dX8_isSegment_14 (yn_nar _) (⟨yn_c (in0_pos hi31 hk), rfl⟩)
set_option maxRecDepth 100000 in
set_option maxHeartbeats 4000000 in
theorem c_X8_isVialM (l : Launch) (G : KG) (a P Sp Hs T N : Nat → Nat) (sc tl tp fa fr fn : Nat) (x : Int32) (hx : x < 0) : MetI l yX8_isVial wsX8_isVial 1 G (mW G a P Sp Hs sc T tl tp fa fr fn N) [.ref (a 0), .int x] (fun r v => r = yn (False) ∧ v = mW G a P Sp Hs sc T tl tp fa fr fn N) := by
  refine MetI.by (cc := cX8_isVial) (nL := 2) (ret := some .boolean) (by decide +kernel) rfl (Nat.le_of_ble_eq_true rfl) ?_
  intro p e s m args below meth c F w ls hl
  have hl : lv_has ls 2 [(0, .ref (a 0)), (1, .int x)] := hl
  have hts := F.ts
  have iX8 : ∀ w ∈ wsX80, w ∈ wsX8_isVial := by decide +kernel
  have f7 := hts (.fieldLink RX8 7 "CoreMelterModel" "m" "[I") (by decide +kernel)
  refine lv_iload_n F.1 F.2.1 dX8_isVial_0 rfl (lv_at hl 1 rfl) ?_
  refine lv_iconst (v := nI 0) F.1 F.2.1 dX8_isVial_1 (by decide) ?_
  refine lv_aload_n F.1 F.2.1 dX8_isVial_2 rfl (lv_at hl 0 rfl) ?_
  refine r_get F w 0 0 iX8 f7 rfl rfl rfl (by decide) rfl dX8_isVial_3 ?_
  refine lv_bipush (v := nI 14) F.1 F.2.1 dX8_isVial_6 (by decide) ?_
  refine r_iald F w 1 rfl (by omega) (by decide) dX8_isVial_8 ?_
  refine lv_iconst (v := nI 1) F.1 F.2.1 dX8_isVial_9 (by decide) ?_
  refine lv_isub F.1 F.2.1 dX8_isVial_10 ?_
  refine r_callS0 (rest := []) F w (c_X8_in l G x (nI 0) ((nI (P 14)) - (nI 1))) gX8_isVial_X8_in (nA0 := 3) rfl (by decide +kernel) rfl ⟨Nat.le_of_ble_eq_true rfl, Nat.le_of_ble_eq_true rfl⟩ ⟨Nat.le_of_ble_eq_true rfl, Nat.le_of_ble_eq_true rfl⟩ hl rfl (Nat.le_of_ble_eq_true rfl) dX8_isVial_11 (fun r_11 w1 H locs hp w => ?_)
  obtain ⟨rfl, rfl⟩ := hp
  exact r_zreturn F w dX8_isVial_14 (yn_nar _) (⟨yn_c (iff_of_false (in0_neg hx) id), rfl⟩)
set_option maxRecDepth 100000 in
set_option maxHeartbeats 4000000 in
theorem c_X8_isVialN (l : Launch) (G : KG) (a P Sp Hs T N : Nat → Nat) (sc tl tp fa fr fn : Nat) (i : Nat) (hi31 : i < 2 ^ 31) (hk : P 14 < 2 ^ 31) : MetI l yX8_isVial wsX8_isVial 1 G (mW G a P Sp Hs sc T tl tp fa fr fn N) [.ref (a 0), .int (nI i)] (fun r v => r = yn (i < P 14) ∧ v = mW G a P Sp Hs sc T tl tp fa fr fn N) := by
  refine MetI.by (cc := cX8_isVial) (nL := 2) (ret := some .boolean) (by decide +kernel) rfl (Nat.le_of_ble_eq_true rfl) ?_
  intro p e s m args below meth c F w ls hl
  have hl : lv_has ls 2 [(0, .ref (a 0)), (1, .int (nI i))] := hl
  have hts := F.ts
  have iX8 : ∀ w ∈ wsX80, w ∈ wsX8_isVial := by decide +kernel
  have f7 := hts (.fieldLink RX8 7 "CoreMelterModel" "m" "[I") (by decide +kernel)
  refine lv_iload_n F.1 F.2.1 dX8_isVial_0 rfl (lv_at hl 1 rfl) ?_
  refine lv_iconst (v := nI 0) F.1 F.2.1 dX8_isVial_1 (by decide) ?_
  refine lv_aload_n F.1 F.2.1 dX8_isVial_2 rfl (lv_at hl 0 rfl) ?_
  refine r_get F w 0 0 iX8 f7 rfl rfl rfl (by decide) rfl dX8_isVial_3 ?_
  refine lv_bipush (v := nI 14) F.1 F.2.1 dX8_isVial_6 (by decide) ?_
  refine r_iald F w 1 rfl (by omega) (by decide) dX8_isVial_8 ?_
  refine lv_iconst (v := nI 1) F.1 F.2.1 dX8_isVial_9 (by decide) ?_
  refine lv_isub F.1 F.2.1 dX8_isVial_10 ?_
  refine r_callS0 (rest := []) F w (c_X8_in l G (nI i) (nI 0) ((nI (P 14)) - (nI 1))) gX8_isVial_X8_in (nA0 := 3) rfl (by decide +kernel) rfl ⟨Nat.le_of_ble_eq_true rfl, Nat.le_of_ble_eq_true rfl⟩ ⟨Nat.le_of_ble_eq_true rfl, Nat.le_of_ble_eq_true rfl⟩ hl rfl (Nat.le_of_ble_eq_true rfl) dX8_isVial_11 (fun r_11 w1 H locs hp w => ?_)
  obtain ⟨rfl, rfl⟩ := hp
  exact r_zreturn F w dX8_isVial_14 (yn_nar _) (⟨yn_c (in0_pos hi31 hk), rfl⟩)
set_option maxRecDepth 100000 in
set_option maxHeartbeats 4000000 in
theorem c_X8_meltedA (l : Launch) (G : KG) (a P Sp Hs T N : Nat → Nat) (sc tl tp fa fr fn : Nat) (hS : SegOk P) (h9 : P 9 ≤ 6000) (i : Nat) (hi : i < P 8) (hz : low (lnP P) i ≤ P 9) : MetI l yX8_melted wsX8_melted 2 G (mW G a P Sp Hs sc T tl tp fa fr fn N) [.ref (a 0), .int (nI i)] (fun r v => r = nI (min (P 9 - low (lnP P) i) (P (46 + 4 * i + 1))) ∧ v = mW G a P Sp Hs sc T tl tp fa fr fn N) := by
  refine MetI.by (cc := cX8_melted) (nL := 3) (ret := some .int) (by decide +kernel) rfl (Nat.le_of_ble_eq_true rfl) ?_
  intro p e s m args below meth c F w ls hl
  have hl : lv_has ls 3 [(0, .ref (a 0)), (1, .int (nI i))] := hl
  have hts := F.ts
  have iX8 : ∀ w ∈ wsX80, w ∈ wsX8_melted := by decide +kernel
  have f7 := hts (.fieldLink RX8 7 "CoreMelterModel" "m" "[I") (by decide +kernel)
  have h8 := hS.1
  have hbl : ∀ j, j ≤ P 8 → low (lnP P) j ≤ 6000 := fun j hj => Nat.le_trans (low_mono _ hj) hS.top_le
  have hb0 := hbl i (by omega)
  obtain ⟨q1, q2, q3⟩ := hS.2 i hi
  refine lv_aload_n F.1 F.2.1 dX8_melted_0 rfl (lv_at hl 0 rfl) ?_
  refine r_get F w 0 0 iX8 f7 rfl rfl rfl (by decide) rfl dX8_melted_1 ?_
  refine lv_bipush (v := nI 9) F.1 F.2.1 dX8_melted_4 (by decide) ?_
  refine r_iald F w 1 rfl (by omega) (by decide) dX8_melted_6 ?_
  refine lv_aload_n F.1 F.2.1 dX8_melted_7 rfl (lv_at hl 0 rfl) ?_
  refine lv_iload_n F.1 F.2.1 dX8_melted_8 rfl (lv_at hl 1 rfl) ?_
  refine r_callVI (rest := [.int (nI (P 9))]) F w (c_X8_lower l G a P Sp Hs T N sc tl tp fa fr fn i (by omega)) gX8_melted_X8_lower [0, 1, 2, 3, 4, 5] [] (nA0 := 1) rfl (by decide +kernel) rfl ⟨Nat.le_of_ble_eq_true rfl, Nat.le_of_ble_eq_true rfl⟩ ⟨Nat.le_of_ble_eq_true rfl, Nat.le_of_ble_eq_true rfl⟩ rfl rfl rfl rfl rfl rfl rfl hl rfl (Nat.le_of_ble_eq_true rfl) dX8_melted_9 (fun r_9 w1 H locs hp w => ?_)
  obtain ⟨rfl, rfl⟩ := hp
  have w := w.sub (ws' := mW G a P Sp Hs sc T tl tp fa fr fn N) [0, 1, 2, 3, 4, 5] (by decide) rfl
  refine r_isub F dX8_melted_12 (by omega) ?_
  refine lv_istore_n (lv' := [(2, .int (nI ((P 9) - (low (lnP P) i)))), (0, .ref (a 0)), (1, .int (nI i))]) F.1 F.2.1 dX8_melted_13 rfl hl (by decide) rfl (fun ls hl => ?_)
  refine lv_iload_n F.1 F.2.1 dX8_melted_14 rfl (lv_at hl 0 rfl) ?_
  refine r_zge (tgt := 22) F dX8_melted_15 (by decide) (by omega) ?_
  refine lv_iload_n F.1 F.2.1 dX8_melted_22 rfl (lv_at hl 0 rfl) ?_
  refine lv_aload_n F.1 F.2.1 dX8_melted_23 rfl (lv_at hl 1 rfl) ?_
  refine lv_iload_n F.1 F.2.1 dX8_melted_24 rfl (lv_at hl 2 rfl) ?_
  refine lv_iconst (v := nI 1) F.1 F.2.1 dX8_melted_25 (by decide) ?_
  refine r_callVI (rest := [.int (nI ((P 9) - (low (lnP P) i)))]) F w (c_X8_of l G a P Sp Hs T N sc tl tp fa fr fn i 1 (by omega)) gX8_melted_X8_of [0, 1, 2, 3, 4, 5] [] (nA0 := 2) rfl (by decide +kernel) rfl ⟨Nat.le_of_ble_eq_true rfl, Nat.le_of_ble_eq_true rfl⟩ ⟨Nat.le_of_ble_eq_true rfl, Nat.le_of_ble_eq_true rfl⟩ rfl rfl rfl rfl rfl rfl rfl hl rfl (Nat.le_of_ble_eq_true rfl) dX8_melted_26 (fun r_26 w1 H locs hp w => ?_)
  obtain ⟨rfl, rfl⟩ := hp
  have w := w.sub (ws' := mW G a P Sp Hs sc T tl tp fa fr fn N) [0, 1, 2, 3, 4, 5] (by decide) rfl
  refine r_callS0 (rest := []) F w (c_X8_lesser l G ((P 9) - (low (lnP P) i)) (P (46 + 4 * i + 1)) (by omega) (by omega)) gX8_melted_X8_lesser (nA0 := 2) rfl (by decide +kernel) rfl ⟨Nat.le_of_ble_eq_true rfl, Nat.le_of_ble_eq_true rfl⟩ ⟨Nat.le_of_ble_eq_true rfl, Nat.le_of_ble_eq_true rfl⟩ hl rfl (Nat.le_of_ble_eq_true rfl) dX8_melted_29 (fun r_29 w1 H locs hp w => ?_)
  obtain ⟨rfl, rfl⟩ := hp
  exact r_ireturn F w dX8_melted_32 (⟨rfl, rfl⟩)
set_option maxRecDepth 100000 in
set_option maxHeartbeats 4000000 in
theorem c_X8_meltedB (l : Launch) (G : KG) (a P Sp Hs T N : Nat → Nat) (sc tl tp fa fr fn : Nat) (hS : SegOk P) (h9 : P 9 ≤ 6000) (i : Nat) (hi : i < P 8) (hz : P 9 < low (lnP P) i) : MetI l yX8_melted wsX8_melted 2 G (mW G a P Sp Hs sc T tl tp fa fr fn N) [.ref (a 0), .int (nI i)] (fun r v => r = nI (min (P 9 - low (lnP P) i) (P (46 + 4 * i + 1))) ∧ v = mW G a P Sp Hs sc T tl tp fa fr fn N) := by
  refine MetI.by (cc := cX8_melted) (nL := 3) (ret := some .int) (by decide +kernel) rfl (Nat.le_of_ble_eq_true rfl) ?_
  intro p e s m args below meth c F w ls hl
  have hl : lv_has ls 3 [(0, .ref (a 0)), (1, .int (nI i))] := hl
  have hts := F.ts
  have iX8 : ∀ w ∈ wsX80, w ∈ wsX8_melted := by decide +kernel
  have f7 := hts (.fieldLink RX8 7 "CoreMelterModel" "m" "[I") (by decide +kernel)
  have h8 := hS.1
  have hbl : ∀ j, j ≤ P 8 → low (lnP P) j ≤ 6000 := fun j hj => Nat.le_trans (low_mono _ hj) hS.top_le
  have hb0 := hbl i (by omega)
  refine lv_aload_n F.1 F.2.1 dX8_melted_0 rfl (lv_at hl 0 rfl) ?_
  refine r_get F w 0 0 iX8 f7 rfl rfl rfl (by decide) rfl dX8_melted_1 ?_
  refine lv_bipush (v := nI 9) F.1 F.2.1 dX8_melted_4 (by decide) ?_
  refine r_iald F w 1 rfl (by omega) (by decide) dX8_melted_6 ?_
  refine lv_aload_n F.1 F.2.1 dX8_melted_7 rfl (lv_at hl 0 rfl) ?_
  refine lv_iload_n F.1 F.2.1 dX8_melted_8 rfl (lv_at hl 1 rfl) ?_
  refine r_callVI (rest := [.int (nI (P 9))]) F w (c_X8_lower l G a P Sp Hs T N sc tl tp fa fr fn i (by omega)) gX8_melted_X8_lower [0, 1, 2, 3, 4, 5] [] (nA0 := 1) rfl (by decide +kernel) rfl ⟨Nat.le_of_ble_eq_true rfl, Nat.le_of_ble_eq_true rfl⟩ ⟨Nat.le_of_ble_eq_true rfl, Nat.le_of_ble_eq_true rfl⟩ rfl rfl rfl rfl rfl rfl rfl hl rfl (Nat.le_of_ble_eq_true rfl) dX8_melted_9 (fun r_9 w1 H locs hp w => ?_)
  obtain ⟨rfl, rfl⟩ := hp
  have w := w.sub (ws' := mW G a P Sp Hs sc T tl tp fa fr fn N) [0, 1, 2, 3, 4, 5] (by decide) rfl
  refine lv_isub F.1 F.2.1 dX8_melted_12 ?_
  refine lv_istore_n (lv' := [(2, .int ((nI (P 9)) - (nI (low (lnP P) i)))), (0, .ref (a 0)), (1, .int (nI i))]) F.1 F.2.1 dX8_melted_13 rfl hl (by decide) rfl (fun ls hl => ?_)
  refine lv_iload_n F.1 F.2.1 dX8_melted_14 rfl (lv_at hl 0 rfl) ?_
  refine lv_if_ge (tgt := 22) F.1 F.2.1 dX8_melted_15 (by decide) (fun c15 => ?_) (fun c15 => ?_)
  · exact absurd (nI_sub_neg hz (by omega)) (Int32.not_lt.mpr c15)
  · skip
    refine lv_iconst (v := nI 0) F.1 F.2.1 dX8_melted_18 (by decide) ?_
    refine lv_goto (tgt := 32) F.1 F.2.1 dX8_melted_19 (by decide) ?_
    exact r_ireturn F w dX8_melted_32 (⟨congrArg nI (by omega), rfl⟩)
theorem c_X8_melted (l : Launch) (G : KG) (a P Sp Hs T N : Nat → Nat) (sc tl tp fa fr fn : Nat) (hS : SegOk P) (h9 : P 9 ≤ 6000) (i : Nat) (hi : i < P 8) : MetI l yX8_melted wsX8_melted 2 G (mW G a P Sp Hs sc T tl tp fa fr fn N) [.ref (a 0), .int (nI i)] (fun r v => r = nI (min (P 9 - low (lnP P) i) (P (46 + 4 * i + 1))) ∧ v = mW G a P Sp Hs sc T tl tp fa fr fn N) := by
  by_cases hz : low (lnP P) i ≤ P 9
  · exact c_X8_meltedA l G a P Sp Hs T N sc tl tp fa fr fn hS h9 i hi hz
  · exact c_X8_meltedB l G a P Sp Hs T N sc tl tp fa fr fn hS h9 i hi (by omega)
set_option maxRecDepth 100000 in
set_option maxHeartbeats 4000000 in
theorem c_X8_accountM (l : Launch) (G : KG) (a P Sp Hs T N : Nat → Nat) (sc tl tp fa fr fn : Nat) (hI : Inv P) (x : Int32) (hx : x < 0) : MetI l yX8_account wsX8_account 1 G (mW G a P Sp Hs sc T tl tp fa fr fn N) [.ref (a 0), .int x] (fun r v => r = -1 ∧ v = mW G a P Sp Hs sc T tl tp fa fr fn N) := by
  refine MetI.by (cc := cX8_account) (nL := 2) (ret := some .int) (by decide +kernel) rfl (Nat.le_of_ble_eq_true rfl) ?_
  intro p e s m args below meth c F w ls hl
  have hl : lv_has ls 2 [(0, .ref (a 0)), (1, .int x)] := hl
  have hts := F.ts
  refine lv_iload_n F.1 F.2.1 dX8_account_0 rfl (lv_at hl 1 rfl) ?_
  refine lv_iconst (v := nI 0) F.1 F.2.1 dX8_account_1 (by decide) ?_
  refine lv_bipush (v := nI 6) F.1 F.2.1 dX8_account_2 (by decide) ?_
  refine r_callS0 (rest := []) F w (c_X8_in l G x (nI 0) (nI 6)) gX8_account_X8_in (nA0 := 3) rfl (by decide +kernel) rfl ⟨Nat.le_of_ble_eq_true rfl, Nat.le_of_ble_eq_true rfl⟩ ⟨Nat.le_of_ble_eq_true rfl, Nat.le_of_ble_eq_true rfl⟩ hl rfl (Nat.le_of_ble_eq_true rfl) dX8_account_4 (fun r_4 w1 H locs hp w => ?_)
  obtain ⟨rfl, rfl⟩ := hp
  refine r_yeq (tgt := 22) F dX8_account_7 (by decide) (fun c7 => ?_) (fun c7 => ?_)
  · skip
    refine lv_iconst (v := (-1)) F.1 F.2.1 dX8_account_22 (by decide) ?_
    exact r_ireturn F w dX8_account_23 (⟨rfl, rfl⟩)
  · exact absurd c7 (in0_neg hx)
set_option maxRecDepth 100000 in
set_option maxHeartbeats 4000000 in
theorem c_X8_accountN (l : Launch) (G : KG) (a P Sp Hs T N : Nat → Nat) (sc tl tp fa fr fn : Nat) (hI : Inv P) (i : Nat) (hi31 : i < 2 ^ 31) : MetI l yX8_account wsX8_account 1 G (mW G a P Sp Hs sc T tl tp fa fr fn N) [.ref (a 0), .int (nI i)] (fun r v => r = accN P i ∧ v = mW G a P Sp Hs sc T tl tp fa fr fn N) := by
  refine MetI.by (cc := cX8_account) (nL := 2) (ret := some .int) (by decide +kernel) rfl (Nat.le_of_ble_eq_true rfl) ?_
  intro p e s m args below meth c F w ls hl
  have hl : lv_has ls 2 [(0, .ref (a 0)), (1, .int (nI i))] := hl
  have hts := F.ts
  have iX8 : ∀ w ∈ wsX80, w ∈ wsX8_account := by decide +kernel
  have f7 := hts (.fieldLink RX8 7 "CoreMelterModel" "m" "[I") (by decide +kernel)
  have hD := hI.d
  obtain ⟨b9, b11, b20, b12, b13, b25, b23⟩ := hD.bnd
  have h8 := hD.1.1
  have ht := hD.1.top_le
  have h14 := hI.2.2.2.2.2.1.1
  refine lv_iload_n F.1 F.2.1 dX8_account_0 rfl (lv_at hl 1 rfl) ?_
  refine lv_iconst (v := nI 0) F.1 F.2.1 dX8_account_1 (by decide) ?_
  refine lv_bipush (v := nI 6) F.1 F.2.1 dX8_account_2 (by decide) ?_
  refine r_callS0 (rest := []) F w (c_X8_inN l G i 0 6 (by omega) (by omega) (by omega)) gX8_account_X8_in (nA0 := 3) rfl (by decide +kernel) rfl ⟨Nat.le_of_ble_eq_true rfl, Nat.le_of_ble_eq_true rfl⟩ ⟨Nat.le_of_ble_eq_true rfl, Nat.le_of_ble_eq_true rfl⟩ hl rfl (Nat.le_of_ble_eq_true rfl) dX8_account_4 (fun r_4 w1 H locs hp w => ?_)
  obtain ⟨rfl, rfl⟩ := hp
  refine r_yeq (tgt := 22) F dX8_account_7 (by decide) (fun c7 => ?_) (fun c7 => ?_)
  · skip
    refine lv_iconst (v := (-1)) F.1 F.2.1 dX8_account_22 (by decide) ?_
    exact r_ireturn F w dX8_account_23 (⟨by first | exact (if_pos (by omega)).symm | exact (if_neg (by omega)).symm, rfl⟩)
  · skip
    refine lv_aload_n F.1 F.2.1 dX8_account_10 rfl (lv_at hl 0 rfl) ?_
    refine r_get F w 0 0 iX8 f7 rfl rfl rfl (by decide) rfl dX8_account_11 ?_
    refine lv_bipush (v := nI 19) F.1 F.2.1 dX8_account_14 (by decide) ?_
    refine lv_iload_n F.1 F.2.1 dX8_account_16 rfl (lv_at hl 1 rfl) ?_
    refine r_iadd F dX8_account_17 ?_
    refine r_iald F w 1 rfl (by omega) (by decide) dX8_account_18 ?_
    refine lv_goto (tgt := 23) F.1 F.2.1 dX8_account_19 (by decide) ?_
    exact r_ireturn F w dX8_account_23 (⟨by first | exact (if_pos (by omega)).symm | exact (if_neg (by omega)).symm, rfl⟩)
theorem c_X8_account (l : Launch) (G : KG) (a P Sp Hs T N : Nat → Nat) (sc tl tp fa fr fn : Nat) (hI : Inv P) (x : Int32) : MetI l yX8_account wsX8_account 1 G (mW G a P Sp Hs sc T tl tp fa fr fn N) [.ref (a 0), .int x] (fun r v => r = on1 (accN P) x ∧ v = mW G a P Sp Hs sc T tl tp fa fr fn N) := by
  by_cases h : x < 0
  · rw [on1_neg h]; exact c_X8_accountM l G a P Sp Hs T N sc tl tp fa fr fn hI x h
  · obtain ⟨i, hi, rfl⟩ := nI_of h
    rw [on1_nat hi]
    exact c_X8_accountN l G a P Sp Hs T N sc tl tp fa fr fn hI i hi
set_option maxRecDepth 100000 in
set_option maxHeartbeats 4000000 in
theorem c_X8_segmentAtM (l : Launch) (G : KG) (a P Sp Hs T N : Nat → Nat) (sc tl tp fa fr fn : Nat) (hI : Inv P) (x : Int32) (hx : x < 0) : MetI l yX8_segmentAt wsX8_segmentAt 3 G (mW G a P Sp Hs sc T tl tp fa fr fn N) [.ref (a 0), .int x] (fun r v => r = -1 ∧ v = mW G a P Sp Hs sc T tl tp fa fr fn N) := by
  refine MetI.by (cc := cX8_segmentAt) (nL := 2) (ret := some .int) (by decide +kernel) rfl (Nat.le_of_ble_eq_true rfl) ?_
  intro p e s m args below meth c F w ls hl
  have hl : lv_has ls 2 [(0, .ref (a 0)), (1, .int x)] := hl
  have hts := F.ts
  refine lv_iload_n F.1 F.2.1 dX8_segmentAt_0 rfl (lv_at hl 1 rfl) ?_
  refine lv_if_ge (tgt := 8) F.1 F.2.1 dX8_segmentAt_1 (by decide) (fun c1 => ?_) (fun c1 => ?_)
  · exact absurd hx (Int32.not_lt.mpr c1)
  · skip
    refine lv_iconst (v := (-1)) F.1 F.2.1 dX8_segmentAt_4 (by decide) ?_
    refine lv_goto (tgt := 13) F.1 F.2.1 dX8_segmentAt_5 (by decide) ?_
    exact r_ireturn F w dX8_segmentAt_13 (⟨rfl, rfl⟩)
set_option maxRecDepth 100000 in
set_option maxHeartbeats 4000000 in
theorem c_X8_segmentAtN (l : Launch) (G : KG) (a P Sp Hs T N : Nat → Nat) (sc tl tp fa fr fn : Nat) (hI : Inv P) (i : Nat) (hi31 : i < 2 ^ 31) : MetI l yX8_segmentAt wsX8_segmentAt 3 G (mW G a P Sp Hs sc T tl tp fa fr fn N) [.ref (a 0), .int (nI i)] (fun r v => r = segAtN P i ∧ v = mW G a P Sp Hs sc T tl tp fa fr fn N) := by
  refine MetI.by (cc := cX8_segmentAt) (nL := 2) (ret := some .int) (by decide +kernel) rfl (Nat.le_of_ble_eq_true rfl) ?_
  intro p e s m args below meth c F w ls hl
  have hl : lv_has ls 2 [(0, .ref (a 0)), (1, .int (nI i))] := hl
  have hts := F.ts
  have hD := hI.d
  obtain ⟨b9, b11, b20, b12, b13, b25, b23⟩ := hD.bnd
  have h8 := hD.1.1
  have ht := hD.1.top_le
  have h14 := hI.2.2.2.2.2.1.1
  refine lv_iload_n F.1 F.2.1 dX8_segmentAt_0 rfl (lv_at hl 1 rfl) ?_
  refine r_zge (tgt := 8) F dX8_segmentAt_1 (by decide) (by omega) ?_
  refine lv_aload_n F.1 F.2.1 dX8_segmentAt_8 rfl (lv_at hl 0 rfl) ?_
  refine lv_iload_n F.1 F.2.1 dX8_segmentAt_9 rfl (lv_at hl 1 rfl) ?_
  refine r_callVI (rest := []) F w (c_X8_segmentOf l G a P Sp Hs T N sc tl tp fa fr fn i hi31 hD.1) gX8_segmentAt_X8_segmentOf [0, 1, 2, 3, 4, 5] [] (nA0 := 1) rfl (by decide +kernel) rfl ⟨Nat.le_of_ble_eq_true rfl, Nat.le_of_ble_eq_true rfl⟩ ⟨Nat.le_of_ble_eq_true rfl, Nat.le_of_ble_eq_true rfl⟩ rfl rfl rfl rfl rfl rfl rfl hl rfl (Nat.le_of_ble_eq_true rfl) dX8_segmentAt_10 (fun r_10 w1 H locs hp w => ?_)
  obtain ⟨rfl, rfl⟩ := hp
  have w := w.sub (ws' := mW G a P Sp Hs sc T tl tp fa fr fn N) [0, 1, 2, 3, 4, 5] (by decide) rfl
  exact r_ireturn F w dX8_segmentAt_13 (⟨by unfold segAtN; simp only [sg_lt_top rfl], rfl⟩)
theorem c_X8_segmentAt (l : Launch) (G : KG) (a P Sp Hs T N : Nat → Nat) (sc tl tp fa fr fn : Nat) (hI : Inv P) (x : Int32) : MetI l yX8_segmentAt wsX8_segmentAt 3 G (mW G a P Sp Hs sc T tl tp fa fr fn N) [.ref (a 0), .int x] (fun r v => r = on1 (segAtN P) x ∧ v = mW G a P Sp Hs sc T tl tp fa fr fn N) := by
  by_cases h : x < 0
  · rw [on1_neg h]; exact c_X8_segmentAtM l G a P Sp Hs T N sc tl tp fa fr fn hI x h
  · obtain ⟨i, hi, rfl⟩ := nI_of h
    rw [on1_nat hi]
    exact c_X8_segmentAtN l G a P Sp Hs T N sc tl tp fa fr fn hI i hi
set_option maxRecDepth 100000 in
set_option maxHeartbeats 4000000 in
theorem c_X8_waterBelowM (l : Launch) (G : KG) (a P Sp Hs T N : Nat → Nat) (sc tl tp fa fr fn : Nat) (hI : Inv P) (x : Int32) (hx : x < 0) : MetI l yX8_waterBelow wsX8_waterBelow 3 G (mW G a P Sp Hs sc T tl tp fa fr fn N) [.ref (a 0), .int x] (fun r v => r = -1 ∧ v = mW G a P Sp Hs sc T tl tp fa fr fn N) := by
  refine MetI.by (cc := cX8_waterBelow) (nL := 2) (ret := some .int) (by decide +kernel) rfl (Nat.le_of_ble_eq_true rfl) ?_
  intro p e s m args below meth c F w ls hl
  have hl : lv_has ls 2 [(0, .ref (a 0)), (1, .int x)] := hl
  have hts := F.ts
  refine lv_iload_n F.1 F.2.1 dX8_waterBelow_0 rfl (lv_at hl 1 rfl) ?_
  refine lv_iconst (v := nI 0) F.1 F.2.1 dX8_waterBelow_1 (by decide) ?_
  refine lv_aload_n F.1 F.2.1 dX8_waterBelow_2 rfl (lv_at hl 0 rfl) ?_
  refine r_callVI (rest := [.int (nI 0), .int x]) F w (c_X8_length l G a P Sp Hs T N sc tl tp fa fr fn  (hI.d.1.1)) gX8_waterBelow_X8_length [0, 1, 2, 3, 4, 5] [] (nA0 := 0) rfl (by decide +kernel) rfl ⟨Nat.le_of_ble_eq_true rfl, Nat.le_of_ble_eq_true rfl⟩ ⟨Nat.le_of_ble_eq_true rfl, Nat.le_of_ble_eq_true rfl⟩ rfl rfl rfl rfl rfl rfl rfl hl rfl (Nat.le_of_ble_eq_true rfl) dX8_waterBelow_3 (fun r_3 w1 H locs hp w => ?_)
  obtain ⟨rfl, rfl⟩ := hp
  have w := w.sub (ws' := mW G a P Sp Hs sc T tl tp fa fr fn N) [0, 1, 2, 3, 4, 5] (by decide) rfl
  refine r_callS0 (rest := []) F w (c_X8_in l G x (nI 0) (nI (low (lnP P) (P 8)))) gX8_waterBelow_X8_in (nA0 := 3) rfl (by decide +kernel) rfl ⟨Nat.le_of_ble_eq_true rfl, Nat.le_of_ble_eq_true rfl⟩ ⟨Nat.le_of_ble_eq_true rfl, Nat.le_of_ble_eq_true rfl⟩ hl rfl (Nat.le_of_ble_eq_true rfl) dX8_waterBelow_6 (fun r_6 w1 H locs hp w => ?_)
  obtain ⟨rfl, rfl⟩ := hp
  refine r_yeq (tgt := 20) F dX8_waterBelow_9 (by decide) (fun c9 => ?_) (fun c9 => ?_)
  · skip
    refine lv_iconst (v := (-1)) F.1 F.2.1 dX8_waterBelow_20 (by decide) ?_
    exact r_ireturn F w dX8_waterBelow_21 (⟨rfl, rfl⟩)
  · exact absurd c9 (in0_neg hx)
set_option maxRecDepth 100000 in
set_option maxHeartbeats 4000000 in
theorem c_X8_waterBelowN (l : Launch) (G : KG) (a P Sp Hs T N : Nat → Nat) (sc tl tp fa fr fn : Nat) (hI : Inv P) (i : Nat) (hi31 : i < 2 ^ 31) : MetI l yX8_waterBelow wsX8_waterBelow 3 G (mW G a P Sp Hs sc T tl tp fa fr fn N) [.ref (a 0), .int (nI i)] (fun r v => r = watN P i ∧ v = mW G a P Sp Hs sc T tl tp fa fr fn N) := by
  refine MetI.by (cc := cX8_waterBelow) (nL := 2) (ret := some .int) (by decide +kernel) rfl (Nat.le_of_ble_eq_true rfl) ?_
  intro p e s m args below meth c F w ls hl
  have hl : lv_has ls 2 [(0, .ref (a 0)), (1, .int (nI i))] := hl
  have hts := F.ts
  have hD := hI.d
  obtain ⟨b9, b11, b20, b12, b13, b25, b23⟩ := hD.bnd
  have h8 := hD.1.1
  have ht := hD.1.top_le
  have h14 := hI.2.2.2.2.2.1.1
  refine lv_iload_n F.1 F.2.1 dX8_waterBelow_0 rfl (lv_at hl 1 rfl) ?_
  refine lv_iconst (v := nI 0) F.1 F.2.1 dX8_waterBelow_1 (by decide) ?_
  refine lv_aload_n F.1 F.2.1 dX8_waterBelow_2 rfl (lv_at hl 0 rfl) ?_
  refine r_callVI (rest := [.int (nI 0), .int (nI i)]) F w (c_X8_length l G a P Sp Hs T N sc tl tp fa fr fn  h8) gX8_waterBelow_X8_length [0, 1, 2, 3, 4, 5] [] (nA0 := 0) rfl (by decide +kernel) rfl ⟨Nat.le_of_ble_eq_true rfl, Nat.le_of_ble_eq_true rfl⟩ ⟨Nat.le_of_ble_eq_true rfl, Nat.le_of_ble_eq_true rfl⟩ rfl rfl rfl rfl rfl rfl rfl hl rfl (Nat.le_of_ble_eq_true rfl) dX8_waterBelow_3 (fun r_3 w1 H locs hp w => ?_)
  obtain ⟨rfl, rfl⟩ := hp
  have w := w.sub (ws' := mW G a P Sp Hs sc T tl tp fa fr fn N) [0, 1, 2, 3, 4, 5] (by decide) rfl
  refine r_callS0 (rest := []) F w (c_X8_inN l G i 0 (low (lnP P) (P 8)) (by omega) (by omega) (by show low (lnP P) (P 8) < 2 ^ 31; have : low (lnP P) (P 8) ≤ 6000 := ht; omega)) gX8_waterBelow_X8_in (nA0 := 3) rfl (by decide +kernel) rfl ⟨Nat.le_of_ble_eq_true rfl, Nat.le_of_ble_eq_true rfl⟩ ⟨Nat.le_of_ble_eq_true rfl, Nat.le_of_ble_eq_true rfl⟩ hl rfl (Nat.le_of_ble_eq_true rfl) dX8_waterBelow_6 (fun r_6 w1 H locs hp w => ?_)
  obtain ⟨rfl, rfl⟩ := hp
  refine r_yeq (tgt := 20) F dX8_waterBelow_9 (by decide) (fun c9 => ?_) (fun c9 => ?_)
  · skip
    refine lv_iconst (v := (-1)) F.1 F.2.1 dX8_waterBelow_20 (by decide) ?_
    exact r_ireturn F w dX8_waterBelow_21 (⟨by first | exact (if_pos (show i ≤ top P from c9.2)).symm | exact (if_neg (fun q => c9 ⟨Nat.zero_le _, q⟩)).symm, rfl⟩)
  · skip
    refine lv_aload_n F.1 F.2.1 dX8_waterBelow_12 rfl (lv_at hl 0 rfl) ?_
    refine lv_iload_n F.1 F.2.1 dX8_waterBelow_13 rfl (lv_at hl 1 rfl) ?_
    refine r_callVI (rest := []) F w (c_X8_water l G a P Sp Hs T N sc tl tp fa fr fn i hi31 hD.1) gX8_waterBelow_X8_water [0, 1, 2, 3, 4, 5] [] (nA0 := 1) rfl (by decide +kernel) rfl ⟨Nat.le_of_ble_eq_true rfl, Nat.le_of_ble_eq_true rfl⟩ ⟨Nat.le_of_ble_eq_true rfl, Nat.le_of_ble_eq_true rfl⟩ rfl rfl rfl rfl rfl rfl rfl hl rfl (Nat.le_of_ble_eq_true rfl) dX8_waterBelow_14 (fun r_14 w1 H locs hp w => ?_)
    obtain ⟨rfl, rfl⟩ := hp
    have w := w.sub (ws' := mW G a P Sp Hs sc T tl tp fa fr fn N) [0, 1, 2, 3, 4, 5] (by decide) rfl
    refine lv_goto (tgt := 21) F.1 F.2.1 dX8_waterBelow_17 (by decide) ?_
    exact r_ireturn F w dX8_waterBelow_21 (⟨by first | exact (if_pos (show i ≤ top P from c9.2)).symm | exact (if_neg (fun q => c9 ⟨Nat.zero_le _, q⟩)).symm, rfl⟩)
theorem c_X8_waterBelow (l : Launch) (G : KG) (a P Sp Hs T N : Nat → Nat) (sc tl tp fa fr fn : Nat) (hI : Inv P) (x : Int32) : MetI l yX8_waterBelow wsX8_waterBelow 3 G (mW G a P Sp Hs sc T tl tp fa fr fn N) [.ref (a 0), .int x] (fun r v => r = on1 (watN P) x ∧ v = mW G a P Sp Hs sc T tl tp fa fr fn N) := by
  by_cases h : x < 0
  · rw [on1_neg h]; exact c_X8_waterBelowM l G a P Sp Hs T N sc tl tp fa fr fn hI x h
  · obtain ⟨i, hi, rfl⟩ := nI_of h
    rw [on1_nat hi]
    exact c_X8_waterBelowN l G a P Sp Hs T N sc tl tp fa fr fn hI i hi
set_option maxRecDepth 100000 in
set_option maxHeartbeats 4000000 in
theorem c_X8_vialAtM (l : Launch) (G : KG) (a P Sp Hs T N : Nat → Nat) (sc tl tp fa fr fn : Nat) (hI : Inv P) (x : Int32) (hx : x < 0) : MetI l yX8_vialAt wsX8_vialAt 0 G (mW G a P Sp Hs sc T tl tp fa fr fn N) [.ref (a 0), .int x] (fun r v => r = -1 ∧ v = mW G a P Sp Hs sc T tl tp fa fr fn N) := by
  refine MetI.by (cc := cX8_vialAt) (nL := 3) (ret := some .int) (by decide +kernel) rfl (Nat.le_of_ble_eq_true rfl) ?_
  intro p e s m args below meth c F w ls hl
  have hl : lv_has ls 3 [(0, .ref (a 0)), (1, .int x)] := hl
  have hts := F.ts
  refine lv_iload_n F.1 F.2.1 dX8_vialAt_0 rfl (lv_at hl 1 rfl) ?_
  refine lv_if_ge (tgt := 6) F.1 F.2.1 dX8_vialAt_1 (by decide) (fun c1 => ?_) (fun c1 => ?_)
  · exact absurd hx (Int32.not_lt.mpr c1)
  · skip
    refine lv_iconst (v := (-1)) F.1 F.2.1 dX8_vialAt_4 (by decide) ?_
    exact r_ireturn F w dX8_vialAt_5 (⟨rfl, rfl⟩)
set_option maxRecDepth 100000 in
set_option maxHeartbeats 4000000 in
theorem c_X8_vialAtN (l : Launch) (G : KG) (a P Sp Hs T N : Nat → Nat) (sc tl tp fa fr fn : Nat) (hI : Inv P) (i : Nat) (hi31 : i < 2 ^ 31) : MetI l yX8_vialAt wsX8_vialAt 0 G (mW G a P Sp Hs sc T tl tp fa fr fn N) [.ref (a 0), .int (nI i)] (fun r v => r = vialAtN P i ∧ v = mW G a P Sp Hs sc T tl tp fa fr fn N) := by
  refine MetI.by (cc := cX8_vialAt) (nL := 3) (ret := some .int) (by decide +kernel) rfl (Nat.le_of_ble_eq_true rfl) ?_
  intro p e s m args below meth c F w ls hl
  have hl : lv_has ls 3 [(0, .ref (a 0)), (1, .int (nI i))] := hl
  have hts := F.ts
  have iX8 : ∀ w ∈ wsX80, w ∈ wsX8_vialAt := by decide +kernel
  have f7 := hts (.fieldLink RX8 7 "CoreMelterModel" "m" "[I") (by decide +kernel)
  have hD := hI.d
  obtain ⟨b9, b11, b20, b12, b13, b25, b23⟩ := hD.bnd
  have h8 := hD.1.1
  have ht := hD.1.top_le
  have h14 := hI.2.2.2.2.2.1.1
  have h15 := hI.2.2.2.2.2.1
  refine lv_iload_n F.1 F.2.1 dX8_vialAt_0 rfl (lv_at hl 1 rfl) ?_
  refine r_zge (tgt := 6) F dX8_vialAt_1 (by decide) (by omega) ?_
  refine lv_iconst (v := nI 0) F.1 F.2.1 dX8_vialAt_6 (by decide) ?_
  refine lv_istore_n (lv' := [(2, .int (nI 0)), (0, .ref (a 0)), (1, .int (nI i))]) F.1 F.2.1 dX8_vialAt_7 rfl hl (by decide) rfl (fun ls hl => ?_)
  have L8 : ∀ n : Nat, ∀ (k : Nat), (k ≤ P 14) → (∀ j, j < k → P (126 + 3 * j + 1) ≤ i) → P 14 - k < n → ∀ (H : Heap) (locs : List Loc), Wd G s (va_A (mW G a P Sp Hs sc T tl tp fa fr fn N) s.heap.size) (mW G a P Sp Hs sc T tl tp fa fr fn N) H locs → ∀ ls : Array Slot, lv_has ls 3 [(0, .ref (a 0)), (1, .int (nI i)), (2, .int (nI k))] → W p l e (rmK 0 0 0) s m args below meth c H locs 0 0 (MQ below (QI G (mW G a P Sp Hs sc T tl tp fa fr fn N) s.heap.size (fun r v => r = vialAtN P i ∧ v = mW G a P Sp Hs sc T tl tp fa fr fn N)) args s 0 0 (va_A (mW G a P Sp Hs sc T tl tp fa fr fn N) s.heap.size)) (F0 m 8 ls []) := by
    intro n
    induction n with
    | zero => intro k h1 h2 hm; exact absurd hm (Nat.not_lt_zero _)
    | succ n ih8 =>
      intro k h1 h2 hm8 H locs w ls hl
      refine lv_iload_n F.1 F.2.1 dX8_vialAt_8 rfl (lv_at hl 2 rfl) ?_
      refine lv_aload_n F.1 F.2.1 dX8_vialAt_9 rfl (lv_at hl 0 rfl) ?_
      refine r_get F w 0 0 iX8 f7 rfl rfl rfl (by decide) rfl dX8_vialAt_10 ?_
      refine lv_bipush (v := nI 14) F.1 F.2.1 dX8_vialAt_13 (by decide) ?_
      refine r_iald F w 1 rfl (by omega) (by decide) dX8_vialAt_15 ?_
      refine r_cge (tgt := 44) F dX8_vialAt_16 (by decide) (by omega) (by omega) (fun c16 => ?_) (fun c16 => ?_)
      · skip
        refine lv_bipush (v := (-4)) F.1 F.2.1 dX8_vialAt_44 (by decide) ?_
        exact r_ireturn F w dX8_vialAt_46 (⟨vialAt_miss (fun j hj => h2 j (by omega)), rfl⟩)
      · skip
        refine lv_aload_n F.1 F.2.1 dX8_vialAt_19 rfl (lv_at hl 0 rfl) ?_
        refine r_get F w 0 0 iX8 f7 rfl rfl rfl (by decide) rfl dX8_vialAt_20 ?_
        refine lv_bipush (v := nI 126) F.1 F.2.1 dX8_vialAt_23 (by decide) ?_
        refine lv_iconst (v := nI 3) F.1 F.2.1 dX8_vialAt_25 (by decide) ?_
        refine lv_iload_n F.1 F.2.1 dX8_vialAt_26 rfl (lv_at hl 2 rfl) ?_
        refine r_imul F dX8_vialAt_27 ?_
        refine r_iadd F dX8_vialAt_28 ?_
        refine lv_iconst (v := nI 1) F.1 F.2.1 dX8_vialAt_29 (by decide) ?_
        refine r_iadd F dX8_vialAt_30 ?_
        refine r_iald F w 1 rfl (by omega) (by decide) dX8_vialAt_31 ?_
        refine lv_iload_n F.1 F.2.1 dX8_vialAt_32 rfl (lv_at hl 1 rfl) ?_
        refine r_cle (tgt := 38) F dX8_vialAt_33 (by decide) (by have := h15.2 k (by omega); omega) (by omega) (fun c33 => ?_) (fun c33 => ?_)
        · skip
          refine lv_iinc (v := nI (k + 1)) (lv' := [(2, .int (nI (k + 1))), (0, .ref (a 0)), (1, .int (nI i))]) F.1 F.2.1 dX8_vialAt_38 hl (k := 2) rfl (nI_add _ _) (by decide) rfl (fun ls hl => ?_)
          refine lv_goto (tgt := 8) F.1 F.2.1 dX8_vialAt_41 (by decide) ?_
          exact ih8 (k + 1) (by omega) (fun j hj => by rcases Nat.lt_succ_iff_lt_or_eq.mp hj with q | q; exact h2 j q; rw [q]; omega) (by omega) _ _ w ls (lv_sub hl [1, 2, 0] rfl)
        · skip
          refine lv_iload_n F.1 F.2.1 dX8_vialAt_36 rfl (lv_at hl 2 rfl) ?_
          exact r_ireturn F w dX8_vialAt_37 (⟨vialAt_hit h2 c16 (by omega), rfl⟩)
  exact L8 _ 0 (Nat.zero_le _) (fun j hj => absurd hj (Nat.not_lt_zero _)) (Nat.lt_succ_self _) _ _ w ls (lv_sub hl [1, 2, 0] rfl)
theorem c_X8_vialAt (l : Launch) (G : KG) (a P Sp Hs T N : Nat → Nat) (sc tl tp fa fr fn : Nat) (hI : Inv P) (x : Int32) : MetI l yX8_vialAt wsX8_vialAt 0 G (mW G a P Sp Hs sc T tl tp fa fr fn N) [.ref (a 0), .int x] (fun r v => r = on1 (vialAtN P) x ∧ v = mW G a P Sp Hs sc T tl tp fa fr fn N) := by
  by_cases h : x < 0
  · rw [on1_neg h]; exact c_X8_vialAtM l G a P Sp Hs T N sc tl tp fa fr fn hI x h
  · obtain ⟨i, hi, rfl⟩ := nI_of h
    rw [on1_nat hi]
    exact c_X8_vialAtN l G a P Sp Hs T N sc tl tp fa fr fn hI i hi
set_option maxRecDepth 100000 in
set_option maxHeartbeats 4000000 in
theorem c_X8_segmentM (l : Launch) (G : KG) (a P Sp Hs T N : Nat → Nat) (sc tl tp fa fr fn : Nat) (hI : Inv P) (x y : Int32) (hx : x < 0) : MetI l yX8_segment wsX8_segment 3 G (mW G a P Sp Hs sc T tl tp fa fr fn N) [.ref (a 0), .int x, .int y] (fun r v => r = -1 ∧ v = mW G a P Sp Hs sc T tl tp fa fr fn N) := by
  refine MetI.by (cc := cX8_segment) (nL := 3) (ret := some .int) (by decide +kernel) rfl (Nat.le_of_ble_eq_true rfl) ?_
  intro p e s m args below meth c F w ls hl
  have hl : lv_has ls 3 [(0, .ref (a 0)), (1, .int x), (2, .int y)] := hl
  have hts := F.ts
  have hD := hI.d
  obtain ⟨b9, b11, b20, b12, b13, b25, b23⟩ := hD.bnd
  have h8 := hD.1.1
  have ht := hD.1.top_le
  have h14 := hI.2.2.2.2.2.1.1
  refine lv_aload_n F.1 F.2.1 dX8_segment_0 rfl (lv_at hl 0 rfl) ?_
  refine lv_iload_n F.1 F.2.1 dX8_segment_1 rfl (lv_at hl 1 rfl) ?_
  refine r_callVI (rest := []) F w (c_X8_isSegmentM l G a P Sp Hs T N sc tl tp fa fr fn x hx) gX8_segment_X8_isSegment [0, 1, 2, 3, 4, 5] [] (nA0 := 1) rfl (by decide +kernel) rfl ⟨Nat.le_of_ble_eq_true rfl, Nat.le_of_ble_eq_true rfl⟩ ⟨Nat.le_of_ble_eq_true rfl, Nat.le_of_ble_eq_true rfl⟩ rfl rfl rfl rfl rfl rfl rfl hl rfl (Nat.le_of_ble_eq_true rfl) dX8_segment_2 (fun r_2 w1 H locs hp w => ?_)
  obtain ⟨rfl, rfl⟩ := hp
  have w := w.sub (ws' := mW G a P Sp Hs sc T tl tp fa fr fn N) [0, 1, 2, 3, 4, 5] (by decide) rfl
  refine r_yeq (tgt := 17) F dX8_segment_5 (by decide) (fun c5 => ?_) (fun c5 => ?_)
  · skip
    refine lv_iconst (v := (-1)) F.1 F.2.1 dX8_segment_17 (by decide) ?_
    exact r_ireturn F w dX8_segment_18 (⟨rfl, rfl⟩)
  · exact absurd c5 id
set_option maxRecDepth 100000 in
set_option maxHeartbeats 4000000 in
theorem c_X8_segmentK (l : Launch) (G : KG) (a P Sp Hs T N : Nat → Nat) (sc tl tp fa fr fn : Nat) (hI : Inv P) (i : Nat) (y : Int32) (hi31 : i < 2 ^ 31) (hy : y < 0) : MetI l yX8_segment wsX8_segment 3 G (mW G a P Sp Hs sc T tl tp fa fr fn N) [.ref (a 0), .int (nI i), .int y] (fun r v => r = -1 ∧ v = mW G a P Sp Hs sc T tl tp fa fr fn N) := by
  refine MetI.by (cc := cX8_segment) (nL := 3) (ret := some .int) (by decide +kernel) rfl (Nat.le_of_ble_eq_true rfl) ?_
  intro p e s m args below meth c F w ls hl
  have hl : lv_has ls 3 [(0, .ref (a 0)), (1, .int (nI i)), (2, .int y)] := hl
  have hts := F.ts
  have hD := hI.d
  obtain ⟨b9, b11, b20, b12, b13, b25, b23⟩ := hD.bnd
  have h8 := hD.1.1
  have ht := hD.1.top_le
  have h14 := hI.2.2.2.2.2.1.1
  refine lv_aload_n F.1 F.2.1 dX8_segment_0 rfl (lv_at hl 0 rfl) ?_
  refine lv_iload_n F.1 F.2.1 dX8_segment_1 rfl (lv_at hl 1 rfl) ?_
  refine r_callVI (rest := []) F w (c_X8_isSegmentN l G a P Sp Hs T N sc tl tp fa fr fn i hi31 (by omega)) gX8_segment_X8_isSegment [0, 1, 2, 3, 4, 5] [] (nA0 := 1) rfl (by decide +kernel) rfl ⟨Nat.le_of_ble_eq_true rfl, Nat.le_of_ble_eq_true rfl⟩ ⟨Nat.le_of_ble_eq_true rfl, Nat.le_of_ble_eq_true rfl⟩ rfl rfl rfl rfl rfl rfl rfl hl rfl (Nat.le_of_ble_eq_true rfl) dX8_segment_2 (fun r_2 w1 H locs hp w => ?_)
  obtain ⟨rfl, rfl⟩ := hp
  have w := w.sub (ws' := mW G a P Sp Hs sc T tl tp fa fr fn N) [0, 1, 2, 3, 4, 5] (by decide) rfl
  refine r_yeq (tgt := 17) F dX8_segment_5 (by decide) (fun c5 => ?_) (fun c5 => ?_)
  · skip
    refine lv_iconst (v := (-1)) F.1 F.2.1 dX8_segment_17 (by decide) ?_
    exact r_ireturn F w dX8_segment_18 (⟨rfl, rfl⟩)
  · skip
    refine lv_iload_n F.1 F.2.1 dX8_segment_8 rfl (lv_at hl 2 rfl) ?_
    refine lv_iconst (v := nI 0) F.1 F.2.1 dX8_segment_9 (by decide) ?_
    refine lv_iconst (v := nI 5) F.1 F.2.1 dX8_segment_10 (by decide) ?_
    refine r_callS0 (rest := []) F w (c_X8_in l G y (nI 0) (nI 5)) gX8_segment_X8_in (nA0 := 3) rfl (by decide +kernel) rfl ⟨Nat.le_of_ble_eq_true rfl, Nat.le_of_ble_eq_true rfl⟩ ⟨Nat.le_of_ble_eq_true rfl, Nat.le_of_ble_eq_true rfl⟩ hl rfl (Nat.le_of_ble_eq_true rfl) dX8_segment_11 (fun r_11 w1 H locs hp w => ?_)
    obtain ⟨rfl, rfl⟩ := hp
    refine r_yne (tgt := 19) F dX8_segment_14 (by decide) (fun c14 => ?_) (fun c14 => ?_)
    · exact absurd c14 (in0_neg hy)
    · skip
      refine lv_iconst (v := (-1)) F.1 F.2.1 dX8_segment_17 (by decide) ?_
      exact r_ireturn F w dX8_segment_18 (⟨rfl, rfl⟩)
set_option maxRecDepth 100000 in
set_option maxHeartbeats 4000000 in
theorem c_X8_segmentN (l : Launch) (G : KG) (a P Sp Hs T N : Nat → Nat) (sc tl tp fa fr fn : Nat) (hI : Inv P) (i j : Nat) (hi31 : i < 2 ^ 31) (hj31 : j < 2 ^ 31) : MetI l yX8_segment wsX8_segment 3 G (mW G a P Sp Hs sc T tl tp fa fr fn N) [.ref (a 0), .int (nI i), .int (nI j)] (fun r v => r = segN P i j ∧ v = mW G a P Sp Hs sc T tl tp fa fr fn N) := by
  refine MetI.by (cc := cX8_segment) (nL := 3) (ret := some .int) (by decide +kernel) rfl (Nat.le_of_ble_eq_true rfl) ?_
  intro p e s m args below meth c F w ls hl
  have hl : lv_has ls 3 [(0, .ref (a 0)), (1, .int (nI i)), (2, .int (nI j))] := hl
  have hts := F.ts
  have hD := hI.d
  obtain ⟨b9, b11, b20, b12, b13, b25, b23⟩ := hD.bnd
  have h8 := hD.1.1
  have ht := hD.1.top_le
  have h14 := hI.2.2.2.2.2.1.1
  refine lv_aload_n F.1 F.2.1 dX8_segment_0 rfl (lv_at hl 0 rfl) ?_
  refine lv_iload_n F.1 F.2.1 dX8_segment_1 rfl (lv_at hl 1 rfl) ?_
  refine r_callVI (rest := []) F w (c_X8_isSegmentN l G a P Sp Hs T N sc tl tp fa fr fn i hi31 (by omega)) gX8_segment_X8_isSegment [0, 1, 2, 3, 4, 5] [] (nA0 := 1) rfl (by decide +kernel) rfl ⟨Nat.le_of_ble_eq_true rfl, Nat.le_of_ble_eq_true rfl⟩ ⟨Nat.le_of_ble_eq_true rfl, Nat.le_of_ble_eq_true rfl⟩ rfl rfl rfl rfl rfl rfl rfl hl rfl (Nat.le_of_ble_eq_true rfl) dX8_segment_2 (fun r_2 w1 H locs hp w => ?_)
  obtain ⟨rfl, rfl⟩ := hp
  have w := w.sub (ws' := mW G a P Sp Hs sc T tl tp fa fr fn N) [0, 1, 2, 3, 4, 5] (by decide) rfl
  refine r_yeq (tgt := 17) F dX8_segment_5 (by decide) (fun c5 => ?_) (fun c5 => ?_)
  · skip
    refine lv_iconst (v := (-1)) F.1 F.2.1 dX8_segment_17 (by decide) ?_
    exact r_ireturn F w dX8_segment_18 (⟨(if_neg (by omega)).symm, rfl⟩)
  · skip
    refine lv_iload_n F.1 F.2.1 dX8_segment_8 rfl (lv_at hl 2 rfl) ?_
    refine lv_iconst (v := nI 0) F.1 F.2.1 dX8_segment_9 (by decide) ?_
    refine lv_iconst (v := nI 5) F.1 F.2.1 dX8_segment_10 (by decide) ?_
    refine r_callS0 (rest := []) F w (c_X8_inN l G j 0 5 (by omega) (by omega) (by omega)) gX8_segment_X8_in (nA0 := 3) rfl (by decide +kernel) rfl ⟨Nat.le_of_ble_eq_true rfl, Nat.le_of_ble_eq_true rfl⟩ ⟨Nat.le_of_ble_eq_true rfl, Nat.le_of_ble_eq_true rfl⟩ hl rfl (Nat.le_of_ble_eq_true rfl) dX8_segment_11 (fun r_11 w1 H locs hp w => ?_)
    obtain ⟨rfl, rfl⟩ := hp
    refine r_yne (tgt := 19) F dX8_segment_14 (by decide) (fun c14 => ?_) (fun c14 => ?_)
    · skip
      refine lv_iload_n F.1 F.2.1 dX8_segment_19 rfl (lv_at hl 2 rfl) ?_
      refine lv_iconst (v := nI 4) F.1 F.2.1 dX8_segment_20 (by decide) ?_
      refine r_cge (tgt := 33) F dX8_segment_21 (by decide) (by omega) (by omega) (fun c21 => ?_) (fun c21 => ?_)
      · skip
        refine lv_iload_n F.1 F.2.1 dX8_segment_33 rfl (lv_at hl 2 rfl) ?_
        refine lv_iconst (v := nI 4) F.1 F.2.1 dX8_segment_34 (by decide) ?_
        refine r_cne (tgt := 46) F dX8_segment_35 (by decide) (by omega) (by omega) (fun c35 => ?_) (fun c35 => ?_)
        · skip
          refine lv_aload_n F.1 F.2.1 dX8_segment_46 rfl (lv_at hl 0 rfl) ?_
          refine lv_iload_n F.1 F.2.1 dX8_segment_47 rfl (lv_at hl 1 rfl) ?_
          refine r_callVI (rest := []) F w (c_X8_melted l G a P Sp Hs T N sc tl tp fa fr fn hD.1 (by omega) i c5) gX8_segment_X8_melted [0, 1, 2, 3, 4, 5] [] (nA0 := 1) rfl (by decide +kernel) rfl ⟨Nat.le_of_ble_eq_true rfl, Nat.le_of_ble_eq_true rfl⟩ ⟨Nat.le_of_ble_eq_true rfl, Nat.le_of_ble_eq_true rfl⟩ rfl rfl rfl rfl rfl rfl rfl hl rfl (Nat.le_of_ble_eq_true rfl) dX8_segment_48 (fun r_48 w1 H locs hp w => ?_)
          obtain ⟨rfl, rfl⟩ := hp
          have w := w.sub (ws' := mW G a P Sp Hs sc T tl tp fa fr fn N) [0, 1, 2, 3, 4, 5] (by decide) rfl
          exact r_ireturn F w dX8_segment_51 (⟨by unfold segN; rw [if_pos (by omega)]; first | rw [if_neg (by omega), if_neg (by omega)] | rw [if_pos (by omega)] | rw [if_neg (by omega), if_pos (by omega)], rfl⟩)
        · skip
          refine lv_aload_n F.1 F.2.1 dX8_segment_38 rfl (lv_at hl 0 rfl) ?_
          refine lv_iload_n F.1 F.2.1 dX8_segment_39 rfl (lv_at hl 1 rfl) ?_
          refine r_callVI (rest := []) F w (c_X8_lower l G a P Sp Hs T N sc tl tp fa fr fn i (by omega)) gX8_segment_X8_lower [0, 1, 2, 3, 4, 5] [] (nA0 := 1) rfl (by decide +kernel) rfl ⟨Nat.le_of_ble_eq_true rfl, Nat.le_of_ble_eq_true rfl⟩ ⟨Nat.le_of_ble_eq_true rfl, Nat.le_of_ble_eq_true rfl⟩ rfl rfl rfl rfl rfl rfl rfl hl rfl (Nat.le_of_ble_eq_true rfl) dX8_segment_40 (fun r_40 w1 H locs hp w => ?_)
          obtain ⟨rfl, rfl⟩ := hp
          have w := w.sub (ws' := mW G a P Sp Hs sc T tl tp fa fr fn N) [0, 1, 2, 3, 4, 5] (by decide) rfl
          refine lv_goto (tgt := 51) F.1 F.2.1 dX8_segment_43 (by decide) ?_
          exact r_ireturn F w dX8_segment_51 (⟨by unfold segN; rw [if_pos (by omega)]; first | rw [if_neg (by omega), if_neg (by omega)] | rw [if_pos (by omega)] | rw [if_neg (by omega), if_pos (by omega)], rfl⟩)
      · skip
        refine lv_aload_n F.1 F.2.1 dX8_segment_24 rfl (lv_at hl 0 rfl) ?_
        refine lv_iload_n F.1 F.2.1 dX8_segment_25 rfl (lv_at hl 1 rfl) ?_
        refine lv_iload_n F.1 F.2.1 dX8_segment_26 rfl (lv_at hl 2 rfl) ?_
        refine r_callVI (rest := []) F w (c_X8_of l G a P Sp Hs T N sc tl tp fa fr fn i j (by omega)) gX8_segment_X8_of [0, 1, 2, 3, 4, 5] [] (nA0 := 2) rfl (by decide +kernel) rfl ⟨Nat.le_of_ble_eq_true rfl, Nat.le_of_ble_eq_true rfl⟩ ⟨Nat.le_of_ble_eq_true rfl, Nat.le_of_ble_eq_true rfl⟩ rfl rfl rfl rfl rfl rfl rfl hl rfl (Nat.le_of_ble_eq_true rfl) dX8_segment_27 (fun r_27 w1 H locs hp w => ?_)
        obtain ⟨rfl, rfl⟩ := hp
        have w := w.sub (ws' := mW G a P Sp Hs sc T tl tp fa fr fn N) [0, 1, 2, 3, 4, 5] (by decide) rfl
        refine lv_goto (tgt := 51) F.1 F.2.1 dX8_segment_30 (by decide) ?_
        exact r_ireturn F w dX8_segment_51 (⟨by unfold segN; rw [if_pos (by omega)]; first | rw [if_neg (by omega), if_neg (by omega)] | rw [if_pos (by omega)] | rw [if_neg (by omega), if_pos (by omega)], rfl⟩)
    · skip
      refine lv_iconst (v := (-1)) F.1 F.2.1 dX8_segment_17 (by decide) ?_
      exact r_ireturn F w dX8_segment_18 (⟨(if_neg (by omega)).symm, rfl⟩)
theorem c_X8_segment (l : Launch) (G : KG) (a P Sp Hs T N : Nat → Nat) (sc tl tp fa fr fn : Nat) (hI : Inv P) (x y : Int32) : MetI l yX8_segment wsX8_segment 3 G (mW G a P Sp Hs sc T tl tp fa fr fn N) [.ref (a 0), .int x, .int y] (fun r v => r = on2 (segN P) x y ∧ v = mW G a P Sp Hs sc T tl tp fa fr fn N) := by
  by_cases h : x < 0
  · rw [on2_neg1 h]; exact c_X8_segmentM l G a P Sp Hs T N sc tl tp fa fr fn hI x y h
  · obtain ⟨i, hi, rfl⟩ := nI_of h
    by_cases h2 : y < 0
    · rw [on2_neg2 h2]; exact c_X8_segmentK l G a P Sp Hs T N sc tl tp fa fr fn hI i y hi h2
    · obtain ⟨j, hj, rfl⟩ := nI_of h2
      rw [on2_nat hi hj]
      exact c_X8_segmentN l G a P Sp Hs T N sc tl tp fa fr fn hI i j hi hj
set_option maxRecDepth 100000 in
set_option maxHeartbeats 4000000 in
theorem c_X8_lineM (l : Launch) (G : KG) (a P Sp Hs T N : Nat → Nat) (sc tl tp fa fr fn : Nat) (hI : Inv P) (x y : Int32) (hx : x < 0) : MetI l yX8_line wsX8_line 1 G (mW G a P Sp Hs sc T tl tp fa fr fn N) [.ref (a 0), .int x, .int y] (fun r v => r = -1 ∧ v = mW G a P Sp Hs sc T tl tp fa fr fn N) := by
  refine MetI.by (cc := cX8_line) (nL := 3) (ret := some .int) (by decide +kernel) rfl (Nat.le_of_ble_eq_true rfl) ?_
  intro p e s m args below meth c F w ls hl
  have hl : lv_has ls 3 [(0, .ref (a 0)), (1, .int x), (2, .int y)] := hl
  have hts := F.ts
  have hD := hI.d
  obtain ⟨b9, b11, b20, b12, b13, b25, b23⟩ := hD.bnd
  have h8 := hD.1.1
  have ht := hD.1.top_le
  have h14 := hI.2.2.2.2.2.1.1
  refine lv_iload_n F.1 F.2.1 dX8_line_0 rfl (lv_at hl 1 rfl) ?_
  refine lv_iconst (v := nI 0) F.1 F.2.1 dX8_line_1 (by decide) ?_
  refine lv_iconst (v := nI 3) F.1 F.2.1 dX8_line_2 (by decide) ?_
  refine r_callS0 (rest := []) F w (c_X8_in l G x (nI 0) (nI 3)) gX8_line_X8_in (nA0 := 3) rfl (by decide +kernel) rfl ⟨Nat.le_of_ble_eq_true rfl, Nat.le_of_ble_eq_true rfl⟩ ⟨Nat.le_of_ble_eq_true rfl, Nat.le_of_ble_eq_true rfl⟩ hl rfl (Nat.le_of_ble_eq_true rfl) dX8_line_3 (fun r_3 w1 H locs hp w => ?_)
  obtain ⟨rfl, rfl⟩ := hp
  refine r_yeq (tgt := 27) F dX8_line_6 (by decide) (fun c6 => ?_) (fun c6 => ?_)
  · skip
    refine lv_iconst (v := (-1)) F.1 F.2.1 dX8_line_27 (by decide) ?_
    exact r_ireturn F w dX8_line_28 (⟨rfl, rfl⟩)
  · exact absurd c6 (in0_neg hx)
set_option maxRecDepth 100000 in
set_option maxHeartbeats 4000000 in
theorem c_X8_lineK (l : Launch) (G : KG) (a P Sp Hs T N : Nat → Nat) (sc tl tp fa fr fn : Nat) (hI : Inv P) (i : Nat) (y : Int32) (hi31 : i < 2 ^ 31) (hy : y < 0) : MetI l yX8_line wsX8_line 1 G (mW G a P Sp Hs sc T tl tp fa fr fn N) [.ref (a 0), .int (nI i), .int y] (fun r v => r = -1 ∧ v = mW G a P Sp Hs sc T tl tp fa fr fn N) := by
  refine MetI.by (cc := cX8_line) (nL := 3) (ret := some .int) (by decide +kernel) rfl (Nat.le_of_ble_eq_true rfl) ?_
  intro p e s m args below meth c F w ls hl
  have hl : lv_has ls 3 [(0, .ref (a 0)), (1, .int (nI i)), (2, .int y)] := hl
  have hts := F.ts
  have hD := hI.d
  obtain ⟨b9, b11, b20, b12, b13, b25, b23⟩ := hD.bnd
  have h8 := hD.1.1
  have ht := hD.1.top_le
  have h14 := hI.2.2.2.2.2.1.1
  refine lv_iload_n F.1 F.2.1 dX8_line_0 rfl (lv_at hl 1 rfl) ?_
  refine lv_iconst (v := nI 0) F.1 F.2.1 dX8_line_1 (by decide) ?_
  refine lv_iconst (v := nI 3) F.1 F.2.1 dX8_line_2 (by decide) ?_
  refine r_callS0 (rest := []) F w (c_X8_inN l G i 0 3 (by omega) (by omega) (by omega)) gX8_line_X8_in (nA0 := 3) rfl (by decide +kernel) rfl ⟨Nat.le_of_ble_eq_true rfl, Nat.le_of_ble_eq_true rfl⟩ ⟨Nat.le_of_ble_eq_true rfl, Nat.le_of_ble_eq_true rfl⟩ hl rfl (Nat.le_of_ble_eq_true rfl) dX8_line_3 (fun r_3 w1 H locs hp w => ?_)
  obtain ⟨rfl, rfl⟩ := hp
  refine r_yeq (tgt := 27) F dX8_line_6 (by decide) (fun c6 => ?_) (fun c6 => ?_)
  · skip
    refine lv_iconst (v := (-1)) F.1 F.2.1 dX8_line_27 (by decide) ?_
    exact r_ireturn F w dX8_line_28 (⟨rfl, rfl⟩)
  · skip
    refine lv_iload_n F.1 F.2.1 dX8_line_9 rfl (lv_at hl 2 rfl) ?_
    refine lv_iconst (v := nI 0) F.1 F.2.1 dX8_line_10 (by decide) ?_
    refine lv_iconst (v := nI 4) F.1 F.2.1 dX8_line_11 (by decide) ?_
    refine r_callS0 (rest := []) F w (c_X8_in l G y (nI 0) (nI 4)) gX8_line_X8_in (nA0 := 3) rfl (by decide +kernel) rfl ⟨Nat.le_of_ble_eq_true rfl, Nat.le_of_ble_eq_true rfl⟩ ⟨Nat.le_of_ble_eq_true rfl, Nat.le_of_ble_eq_true rfl⟩ hl rfl (Nat.le_of_ble_eq_true rfl) dX8_line_12 (fun r_12 w1 H locs hp w => ?_)
    obtain ⟨rfl, rfl⟩ := hp
    refine r_yeq (tgt := 27) F dX8_line_15 (by decide) (fun c15 => ?_) (fun c15 => ?_)
    · skip
      refine lv_iconst (v := (-1)) F.1 F.2.1 dX8_line_27 (by decide) ?_
      exact r_ireturn F w dX8_line_28 (⟨rfl, rfl⟩)
    · exact absurd c15 (in0_neg hy)
set_option maxRecDepth 100000 in
set_option maxHeartbeats 4000000 in
theorem c_X8_lineN (l : Launch) (G : KG) (a P Sp Hs T N : Nat → Nat) (sc tl tp fa fr fn : Nat) (hI : Inv P) (i j : Nat) (hi31 : i < 2 ^ 31) (hj31 : j < 2 ^ 31) : MetI l yX8_line wsX8_line 1 G (mW G a P Sp Hs sc T tl tp fa fr fn N) [.ref (a 0), .int (nI i), .int (nI j)] (fun r v => r = lineN P i j ∧ v = mW G a P Sp Hs sc T tl tp fa fr fn N) := by
  refine MetI.by (cc := cX8_line) (nL := 3) (ret := some .int) (by decide +kernel) rfl (Nat.le_of_ble_eq_true rfl) ?_
  intro p e s m args below meth c F w ls hl
  have hl : lv_has ls 3 [(0, .ref (a 0)), (1, .int (nI i)), (2, .int (nI j))] := hl
  have hts := F.ts
  have hD := hI.d
  obtain ⟨b9, b11, b20, b12, b13, b25, b23⟩ := hD.bnd
  have h8 := hD.1.1
  have ht := hD.1.top_le
  have h14 := hI.2.2.2.2.2.1.1
  refine lv_iload_n F.1 F.2.1 dX8_line_0 rfl (lv_at hl 1 rfl) ?_
  refine lv_iconst (v := nI 0) F.1 F.2.1 dX8_line_1 (by decide) ?_
  refine lv_iconst (v := nI 3) F.1 F.2.1 dX8_line_2 (by decide) ?_
  refine r_callS0 (rest := []) F w (c_X8_inN l G i 0 3 (by omega) (by omega) (by omega)) gX8_line_X8_in (nA0 := 3) rfl (by decide +kernel) rfl ⟨Nat.le_of_ble_eq_true rfl, Nat.le_of_ble_eq_true rfl⟩ ⟨Nat.le_of_ble_eq_true rfl, Nat.le_of_ble_eq_true rfl⟩ hl rfl (Nat.le_of_ble_eq_true rfl) dX8_line_3 (fun r_3 w1 H locs hp w => ?_)
  obtain ⟨rfl, rfl⟩ := hp
  refine r_yeq (tgt := 27) F dX8_line_6 (by decide) (fun c6 => ?_) (fun c6 => ?_)
  · skip
    refine lv_iconst (v := (-1)) F.1 F.2.1 dX8_line_27 (by decide) ?_
    exact r_ireturn F w dX8_line_28 (⟨by first | exact (if_pos (by omega)).symm | exact (if_neg (by omega)).symm, rfl⟩)
  · skip
    refine lv_iload_n F.1 F.2.1 dX8_line_9 rfl (lv_at hl 2 rfl) ?_
    refine lv_iconst (v := nI 0) F.1 F.2.1 dX8_line_10 (by decide) ?_
    refine lv_iconst (v := nI 4) F.1 F.2.1 dX8_line_11 (by decide) ?_
    refine r_callS0 (rest := []) F w (c_X8_inN l G j 0 4 (by omega) (by omega) (by omega)) gX8_line_X8_in (nA0 := 3) rfl (by decide +kernel) rfl ⟨Nat.le_of_ble_eq_true rfl, Nat.le_of_ble_eq_true rfl⟩ ⟨Nat.le_of_ble_eq_true rfl, Nat.le_of_ble_eq_true rfl⟩ hl rfl (Nat.le_of_ble_eq_true rfl) dX8_line_12 (fun r_12 w1 H locs hp w => ?_)
    obtain ⟨rfl, rfl⟩ := hp
    refine r_yeq (tgt := 27) F dX8_line_15 (by decide) (fun c15 => ?_) (fun c15 => ?_)
    · skip
      refine lv_iconst (v := (-1)) F.1 F.2.1 dX8_line_27 (by decide) ?_
      exact r_ireturn F w dX8_line_28 (⟨by first | exact (if_pos (by omega)).symm | exact (if_neg (by omega)).symm, rfl⟩)
    · skip
      refine lv_aload_n F.1 F.2.1 dX8_line_18 rfl (lv_at hl 0 rfl) ?_
      refine lv_iload_n F.1 F.2.1 dX8_line_19 rfl (lv_at hl 1 rfl) ?_
      refine lv_iload_n F.1 F.2.1 dX8_line_20 rfl (lv_at hl 2 rfl) ?_
      refine r_callVI (rest := []) F w (c_X8_ofLine l G a P Sp Hs T N sc tl tp fa fr fn i j (by omega)) gX8_line_X8_ofLine [0, 1, 2, 3, 4, 5] [] (nA0 := 2) rfl (by decide +kernel) rfl ⟨Nat.le_of_ble_eq_true rfl, Nat.le_of_ble_eq_true rfl⟩ ⟨Nat.le_of_ble_eq_true rfl, Nat.le_of_ble_eq_true rfl⟩ rfl rfl rfl rfl rfl rfl rfl hl rfl (Nat.le_of_ble_eq_true rfl) dX8_line_21 (fun r_21 w1 H locs hp w => ?_)
      obtain ⟨rfl, rfl⟩ := hp
      have w := w.sub (ws' := mW G a P Sp Hs sc T tl tp fa fr fn N) [0, 1, 2, 3, 4, 5] (by decide) rfl
      refine lv_goto (tgt := 28) F.1 F.2.1 dX8_line_24 (by decide) ?_
      exact r_ireturn F w dX8_line_28 (⟨by first | exact (if_pos (by omega)).symm | exact (if_neg (by omega)).symm, rfl⟩)
theorem c_X8_line (l : Launch) (G : KG) (a P Sp Hs T N : Nat → Nat) (sc tl tp fa fr fn : Nat) (hI : Inv P) (x y : Int32) : MetI l yX8_line wsX8_line 1 G (mW G a P Sp Hs sc T tl tp fa fr fn N) [.ref (a 0), .int x, .int y] (fun r v => r = on2 (lineN P) x y ∧ v = mW G a P Sp Hs sc T tl tp fa fr fn N) := by
  by_cases h : x < 0
  · rw [on2_neg1 h]; exact c_X8_lineM l G a P Sp Hs T N sc tl tp fa fr fn hI x y h
  · obtain ⟨i, hi, rfl⟩ := nI_of h
    by_cases h2 : y < 0
    · rw [on2_neg2 h2]; exact c_X8_lineK l G a P Sp Hs T N sc tl tp fa fr fn hI i y hi h2
    · obtain ⟨j, hj, rfl⟩ := nI_of h2
      rw [on2_nat hi hj]
      exact c_X8_lineN l G a P Sp Hs T N sc tl tp fa fr fn hI i j hi hj
set_option maxRecDepth 100000 in
set_option maxHeartbeats 4000000 in
theorem c_X8_vialM (l : Launch) (G : KG) (a P Sp Hs T N : Nat → Nat) (sc tl tp fa fr fn : Nat) (hI : Inv P) (x y : Int32) (hx : x < 0) : MetI l yX8_vial wsX8_vial 2 G (mW G a P Sp Hs sc T tl tp fa fr fn N) [.ref (a 0), .int x, .int y] (fun r v => r = -1 ∧ v = mW G a P Sp Hs sc T tl tp fa fr fn N) := by
  refine MetI.by (cc := cX8_vial) (nL := 3) (ret := some .int) (by decide +kernel) rfl (Nat.le_of_ble_eq_true rfl) ?_
  intro p e s m args below meth c F w ls hl
  have hl : lv_has ls 3 [(0, .ref (a 0)), (1, .int x), (2, .int y)] := hl
  have hts := F.ts
  have hD := hI.d
  obtain ⟨b9, b11, b20, b12, b13, b25, b23⟩ := hD.bnd
  have h8 := hD.1.1
  have ht := hD.1.top_le
  have h14 := hI.2.2.2.2.2.1.1
  refine lv_aload_n F.1 F.2.1 dX8_vial_0 rfl (lv_at hl 0 rfl) ?_
  refine lv_iload_n F.1 F.2.1 dX8_vial_1 rfl (lv_at hl 1 rfl) ?_
  refine r_callVI (rest := []) F w (c_X8_isVialM l G a P Sp Hs T N sc tl tp fa fr fn x hx) gX8_vial_X8_isVial [0, 1, 2, 3, 4, 5] [] (nA0 := 1) rfl (by decide +kernel) rfl ⟨Nat.le_of_ble_eq_true rfl, Nat.le_of_ble_eq_true rfl⟩ ⟨Nat.le_of_ble_eq_true rfl, Nat.le_of_ble_eq_true rfl⟩ rfl rfl rfl rfl rfl rfl rfl hl rfl (Nat.le_of_ble_eq_true rfl) dX8_vial_2 (fun r_2 w1 H locs hp w => ?_)
  obtain ⟨rfl, rfl⟩ := hp
  have w := w.sub (ws' := mW G a P Sp Hs sc T tl tp fa fr fn N) [0, 1, 2, 3, 4, 5] (by decide) rfl
  refine r_yeq (tgt := 17) F dX8_vial_5 (by decide) (fun c5 => ?_) (fun c5 => ?_)
  · skip
    refine lv_iconst (v := (-1)) F.1 F.2.1 dX8_vial_17 (by decide) ?_
    exact r_ireturn F w dX8_vial_18 (⟨rfl, rfl⟩)
  · exact absurd c5 id
set_option maxRecDepth 100000 in
set_option maxHeartbeats 4000000 in
theorem c_X8_vialK (l : Launch) (G : KG) (a P Sp Hs T N : Nat → Nat) (sc tl tp fa fr fn : Nat) (hI : Inv P) (i : Nat) (y : Int32) (hi31 : i < 2 ^ 31) (hy : y < 0) : MetI l yX8_vial wsX8_vial 2 G (mW G a P Sp Hs sc T tl tp fa fr fn N) [.ref (a 0), .int (nI i), .int y] (fun r v => r = -1 ∧ v = mW G a P Sp Hs sc T tl tp fa fr fn N) := by
  refine MetI.by (cc := cX8_vial) (nL := 3) (ret := some .int) (by decide +kernel) rfl (Nat.le_of_ble_eq_true rfl) ?_
  intro p e s m args below meth c F w ls hl
  have hl : lv_has ls 3 [(0, .ref (a 0)), (1, .int (nI i)), (2, .int y)] := hl
  have hts := F.ts
  have hD := hI.d
  obtain ⟨b9, b11, b20, b12, b13, b25, b23⟩ := hD.bnd
  have h8 := hD.1.1
  have ht := hD.1.top_le
  have h14 := hI.2.2.2.2.2.1.1
  refine lv_aload_n F.1 F.2.1 dX8_vial_0 rfl (lv_at hl 0 rfl) ?_
  refine lv_iload_n F.1 F.2.1 dX8_vial_1 rfl (lv_at hl 1 rfl) ?_
  refine r_callVI (rest := []) F w (c_X8_isVialN l G a P Sp Hs T N sc tl tp fa fr fn i hi31 (by omega)) gX8_vial_X8_isVial [0, 1, 2, 3, 4, 5] [] (nA0 := 1) rfl (by decide +kernel) rfl ⟨Nat.le_of_ble_eq_true rfl, Nat.le_of_ble_eq_true rfl⟩ ⟨Nat.le_of_ble_eq_true rfl, Nat.le_of_ble_eq_true rfl⟩ rfl rfl rfl rfl rfl rfl rfl hl rfl (Nat.le_of_ble_eq_true rfl) dX8_vial_2 (fun r_2 w1 H locs hp w => ?_)
  obtain ⟨rfl, rfl⟩ := hp
  have w := w.sub (ws' := mW G a P Sp Hs sc T tl tp fa fr fn N) [0, 1, 2, 3, 4, 5] (by decide) rfl
  refine r_yeq (tgt := 17) F dX8_vial_5 (by decide) (fun c5 => ?_) (fun c5 => ?_)
  · skip
    refine lv_iconst (v := (-1)) F.1 F.2.1 dX8_vial_17 (by decide) ?_
    exact r_ireturn F w dX8_vial_18 (⟨rfl, rfl⟩)
  · skip
    refine lv_iload_n F.1 F.2.1 dX8_vial_8 rfl (lv_at hl 2 rfl) ?_
    refine lv_iconst (v := nI 0) F.1 F.2.1 dX8_vial_9 (by decide) ?_
    refine lv_iconst (v := nI 3) F.1 F.2.1 dX8_vial_10 (by decide) ?_
    refine r_callS0 (rest := []) F w (c_X8_in l G y (nI 0) (nI 3)) gX8_vial_X8_in (nA0 := 3) rfl (by decide +kernel) rfl ⟨Nat.le_of_ble_eq_true rfl, Nat.le_of_ble_eq_true rfl⟩ ⟨Nat.le_of_ble_eq_true rfl, Nat.le_of_ble_eq_true rfl⟩ hl rfl (Nat.le_of_ble_eq_true rfl) dX8_vial_11 (fun r_11 w1 H locs hp w => ?_)
    obtain ⟨rfl, rfl⟩ := hp
    refine r_yne (tgt := 19) F dX8_vial_14 (by decide) (fun c14 => ?_) (fun c14 => ?_)
    · exact absurd c14 (in0_neg hy)
    · skip
      refine lv_iconst (v := (-1)) F.1 F.2.1 dX8_vial_17 (by decide) ?_
      exact r_ireturn F w dX8_vial_18 (⟨rfl, rfl⟩)
set_option maxRecDepth 100000 in
set_option maxHeartbeats 4000000 in
theorem c_X8_vialN (l : Launch) (G : KG) (a P Sp Hs T N : Nat → Nat) (sc tl tp fa fr fn : Nat) (hI : Inv P) (i j : Nat) (hi31 : i < 2 ^ 31) (hj31 : j < 2 ^ 31) : MetI l yX8_vial wsX8_vial 2 G (mW G a P Sp Hs sc T tl tp fa fr fn N) [.ref (a 0), .int (nI i), .int (nI j)] (fun r v => r = vialN P i j ∧ v = mW G a P Sp Hs sc T tl tp fa fr fn N) := by
  refine MetI.by (cc := cX8_vial) (nL := 3) (ret := some .int) (by decide +kernel) rfl (Nat.le_of_ble_eq_true rfl) ?_
  intro p e s m args below meth c F w ls hl
  have hl : lv_has ls 3 [(0, .ref (a 0)), (1, .int (nI i)), (2, .int (nI j))] := hl
  have hts := F.ts
  have iX8 : ∀ w ∈ wsX80, w ∈ wsX8_vial := by decide +kernel
  have f7 := hts (.fieldLink RX8 7 "CoreMelterModel" "m" "[I") (by decide +kernel)
  have hD := hI.d
  obtain ⟨b9, b11, b20, b12, b13, b25, b23⟩ := hD.bnd
  have h8 := hD.1.1
  have ht := hD.1.top_le
  have h14 := hI.2.2.2.2.2.1.1
  refine lv_aload_n F.1 F.2.1 dX8_vial_0 rfl (lv_at hl 0 rfl) ?_
  refine lv_iload_n F.1 F.2.1 dX8_vial_1 rfl (lv_at hl 1 rfl) ?_
  refine r_callVI (rest := []) F w (c_X8_isVialN l G a P Sp Hs T N sc tl tp fa fr fn i hi31 (by omega)) gX8_vial_X8_isVial [0, 1, 2, 3, 4, 5] [] (nA0 := 1) rfl (by decide +kernel) rfl ⟨Nat.le_of_ble_eq_true rfl, Nat.le_of_ble_eq_true rfl⟩ ⟨Nat.le_of_ble_eq_true rfl, Nat.le_of_ble_eq_true rfl⟩ rfl rfl rfl rfl rfl rfl rfl hl rfl (Nat.le_of_ble_eq_true rfl) dX8_vial_2 (fun r_2 w1 H locs hp w => ?_)
  obtain ⟨rfl, rfl⟩ := hp
  have w := w.sub (ws' := mW G a P Sp Hs sc T tl tp fa fr fn N) [0, 1, 2, 3, 4, 5] (by decide) rfl
  refine r_yeq (tgt := 17) F dX8_vial_5 (by decide) (fun c5 => ?_) (fun c5 => ?_)
  · skip
    refine lv_iconst (v := (-1)) F.1 F.2.1 dX8_vial_17 (by decide) ?_
    exact r_ireturn F w dX8_vial_18 (⟨(if_neg (by omega)).symm, rfl⟩)
  · skip
    refine lv_iload_n F.1 F.2.1 dX8_vial_8 rfl (lv_at hl 2 rfl) ?_
    refine lv_iconst (v := nI 0) F.1 F.2.1 dX8_vial_9 (by decide) ?_
    refine lv_iconst (v := nI 3) F.1 F.2.1 dX8_vial_10 (by decide) ?_
    refine r_callS0 (rest := []) F w (c_X8_inN l G j 0 3 (by omega) (by omega) (by omega)) gX8_vial_X8_in (nA0 := 3) rfl (by decide +kernel) rfl ⟨Nat.le_of_ble_eq_true rfl, Nat.le_of_ble_eq_true rfl⟩ ⟨Nat.le_of_ble_eq_true rfl, Nat.le_of_ble_eq_true rfl⟩ hl rfl (Nat.le_of_ble_eq_true rfl) dX8_vial_11 (fun r_11 w1 H locs hp w => ?_)
    obtain ⟨rfl, rfl⟩ := hp
    refine r_yne (tgt := 19) F dX8_vial_14 (by decide) (fun c14 => ?_) (fun c14 => ?_)
    · skip
      refine lv_iload_n F.1 F.2.1 dX8_vial_19 rfl (lv_at hl 2 rfl) ?_
      refine lv_iconst (v := nI 2) F.1 F.2.1 dX8_vial_20 (by decide) ?_
      refine r_cne (tgt := 48) F dX8_vial_21 (by decide) (by omega) (by omega) (fun c21 => ?_) (fun c21 => ?_)
      · skip
        refine lv_aload_n F.1 F.2.1 dX8_vial_48 rfl (lv_at hl 0 rfl) ?_
        refine r_get F w 0 0 iX8 f7 rfl rfl rfl (by decide) rfl dX8_vial_49 ?_
        refine lv_bipush (v := nI 126) F.1 F.2.1 dX8_vial_52 (by decide) ?_
        refine lv_iconst (v := nI 3) F.1 F.2.1 dX8_vial_54 (by decide) ?_
        refine lv_iload_n F.1 F.2.1 dX8_vial_55 rfl (lv_at hl 1 rfl) ?_
        refine r_imul F dX8_vial_56 ?_
        refine r_iadd F dX8_vial_57 ?_
        refine lv_iload_n F.1 F.2.1 dX8_vial_58 rfl (lv_at hl 2 rfl) ?_
        refine lv_iconst (v := nI 3) F.1 F.2.1 dX8_vial_59 (by decide) ?_
        refine r_cne (tgt := 67) F dX8_vial_60 (by decide) (by omega) (by omega) (fun c60 => ?_) (fun c60 => ?_)
        · skip
          refine lv_iload_n F.1 F.2.1 dX8_vial_67 rfl (lv_at hl 2 rfl) ?_
          refine r_iadd F dX8_vial_68 ?_
          refine r_iald F w 1 rfl (by omega) (by decide) dX8_vial_69 ?_
          exact r_ireturn F w dX8_vial_70 (⟨by unfold vialN; rw [if_pos (by omega)]; first | (rw [if_neg (by omega), if_neg (by omega), if_neg (by omega)]) | (rcases (show j = 0 ∨ j = 1 by omega) with q | q <;> subst q <;> rfl), rfl⟩)
        · skip
          refine lv_iconst (v := nI 2) F.1 F.2.1 dX8_vial_63 (by decide) ?_
          refine lv_goto (tgt := 68) F.1 F.2.1 dX8_vial_64 (by decide) ?_
          refine r_iadd F dX8_vial_68 ?_
          refine r_iald F w 1 rfl (by omega) (by decide) dX8_vial_69 ?_
          exact r_ireturn F w dX8_vial_70 (⟨by unfold vialN; rw [if_pos (by omega)]; first | (rw [if_neg (by omega), if_neg (by omega), if_neg (by omega)]) | (rcases (show j = 0 ∨ j = 1 by omega) with q | q <;> subst q <;> rfl), rfl⟩)
      · skip
        refine lv_iload_n F.1 F.2.1 dX8_vial_24 rfl (lv_at hl 1 rfl) ?_
        refine r_zne (tgt := 32) F dX8_vial_25 (by decide) (by omega) (fun c25 => ?_) (fun c25 => ?_)
        · skip
          refine lv_aload_n F.1 F.2.1 dX8_vial_32 rfl (lv_at hl 0 rfl) ?_
          refine r_get F w 0 0 iX8 f7 rfl rfl rfl (by decide) rfl dX8_vial_33 ?_
          refine lv_bipush (v := nI 126) F.1 F.2.1 dX8_vial_36 (by decide) ?_
          refine lv_iconst (v := nI 3) F.1 F.2.1 dX8_vial_38 (by decide) ?_
          refine lv_iload_n F.1 F.2.1 dX8_vial_39 rfl (lv_at hl 1 rfl) ?_
          refine lv_iconst (v := nI 1) F.1 F.2.1 dX8_vial_40 (by decide) ?_
          refine r_isub F dX8_vial_41 (by omega) ?_
          refine r_imul F dX8_vial_42 ?_
          refine r_iadd F dX8_vial_43 ?_
          refine lv_iconst (v := nI 1) F.1 F.2.1 dX8_vial_44 (by decide) ?_
          refine r_iadd F dX8_vial_45 ?_
          refine r_iald F w 1 rfl (by omega) (by decide) dX8_vial_46 ?_
          exact r_ireturn F w dX8_vial_47 (⟨by unfold vialN; rw [if_pos (by omega), if_neg (by omega), if_neg (by omega), if_pos (by omega)]; first | rw [if_pos c25] | rw [if_neg c25], rfl⟩)
        · skip
          refine lv_iconst (v := nI 0) F.1 F.2.1 dX8_vial_28 (by decide) ?_
          refine lv_goto (tgt := 47) F.1 F.2.1 dX8_vial_29 (by decide) ?_
          exact r_ireturn F w dX8_vial_47 (⟨by unfold vialN; rw [if_pos (by omega), if_neg (by omega), if_neg (by omega), if_pos (by omega)]; first | rw [if_pos c25] | rw [if_neg c25], rfl⟩)
    · skip
      refine lv_iconst (v := (-1)) F.1 F.2.1 dX8_vial_17 (by decide) ?_
      exact r_ireturn F w dX8_vial_18 (⟨(if_neg (by omega)).symm, rfl⟩)
theorem c_X8_vial (l : Launch) (G : KG) (a P Sp Hs T N : Nat → Nat) (sc tl tp fa fr fn : Nat) (hI : Inv P) (x y : Int32) : MetI l yX8_vial wsX8_vial 2 G (mW G a P Sp Hs sc T tl tp fa fr fn N) [.ref (a 0), .int x, .int y] (fun r v => r = on2 (vialN P) x y ∧ v = mW G a P Sp Hs sc T tl tp fa fr fn N) := by
  by_cases h : x < 0
  · rw [on2_neg1 h]; exact c_X8_vialM l G a P Sp Hs T N sc tl tp fa fr fn hI x y h
  · obtain ⟨i, hi, rfl⟩ := nI_of h
    by_cases h2 : y < 0
    · rw [on2_neg2 h2]; exact c_X8_vialK l G a P Sp Hs T N sc tl tp fa fr fn hI i y hi h2
    · obtain ⟨j, hj, rfl⟩ := nI_of h2
      rw [on2_nat hi hj]
      exact c_X8_vialN l G a P Sp Hs T N sc tl tp fa fr fn hI i j hi hj
set_option maxRecDepth 100000 in
set_option maxHeartbeats 4000000 in
theorem c_X8_countM (l : Launch) (G : KG) (a P Sp Hs T N : Nat → Nat) (sc tl tp fa fr fn : Nat) (hI : Inv P) (x : Int32) (hx : x < 0) : MetI l yX8_count wsX8_count 3 G (mW G a P Sp Hs sc T tl tp fa fr fn N) [.ref (a 0), .int x] (fun r v => r = -1 ∧ v = mW G a P Sp Hs sc T tl tp fa fr fn N) := by
  refine MetI.by (cc := cX8_count) (nL := 2) (ret := some .int) (by decide +kernel) rfl (Nat.le_of_ble_eq_true rfl) ?_
  intro p e s m args below meth c F w ls hl
  have hl : lv_has ls 2 [(0, .ref (a 0)), (1, .int x)] := hl
  have hts := F.ts
  refine lv_iload_n F.1 F.2.1 dX8_count_0 rfl (lv_at hl 1 rfl) ?_
  by_cases k1_8 : x = nI 8
  · refine r_swIn (k := nI 8) (tgt := 80) F dX8_count_1 k1_8 (by decide) (by decide) (off := 79) (by decide) (by decide) ?_
    exact absurd hx (by rw [k1_8]; decide)
  by_cases k1_9 : x = nI 9
  · refine r_swIn (k := nI 9) (tgt := 88) F dX8_count_1 k1_9 (by decide) (by decide) (off := 87) (by decide) (by decide) ?_
    exact absurd hx (by rw [k1_9]; decide)
  by_cases k1_10 : x = nI 10
  · refine r_swIn (k := nI 10) (tgt := 93) F dX8_count_1 k1_10 (by decide) (by decide) (off := 92) (by decide) (by decide) ?_
    exact absurd hx (by rw [k1_10]; decide)
  by_cases k1_11 : x = nI 11
  · refine r_swIn (k := nI 11) (tgt := 93) F dX8_count_1 k1_11 (by decide) (by decide) (off := 92) (by decide) (by decide) ?_
    exact absurd hx (by rw [k1_11]; decide)
  by_cases k1_12 : x = nI 12
  · refine r_swIn (k := nI 12) (tgt := 93) F dX8_count_1 k1_12 (by decide) (by decide) (off := 92) (by decide) (by decide) ?_
    exact absurd hx (by rw [k1_12]; decide)
  by_cases k1_13 : x = nI 13
  · refine r_swIn (k := nI 13) (tgt := 93) F dX8_count_1 k1_13 (by decide) (by decide) (off := 92) (by decide) (by decide) ?_
    exact absurd hx (by rw [k1_13]; decide)
  by_cases k1_14 : x = nI 14
  · refine r_swIn (k := nI 14) (tgt := 93) F dX8_count_1 k1_14 (by decide) (by decide) (off := 92) (by decide) (by decide) ?_
    exact absurd hx (by rw [k1_14]; decide)
  by_cases k1_15 : x = nI 15
  · refine r_swIn (k := nI 15) (tgt := 102) F dX8_count_1 k1_15 (by decide) (by decide) (off := 101) (by decide) (by decide) ?_
    exact absurd hx (by rw [k1_15]; decide)
  by_cases k1_16 : x = nI 16
  · refine r_swIn (k := nI 16) (tgt := 107) F dX8_count_1 k1_16 (by decide) (by decide) (off := 106) (by decide) (by decide) ?_
    exact absurd hx (by rw [k1_16]; decide)
  by_cases k1_17 : x = nI 17
  · refine r_swIn (k := nI 17) (tgt := 115) F dX8_count_1 k1_17 (by decide) (by decide) (off := 114) (by decide) (by decide) ?_
    exact absurd hx (by rw [k1_17]; decide)
  by_cases k1_18 : x = nI 18
  · refine r_swIn (k := nI 18) (tgt := 123) F dX8_count_1 k1_18 (by decide) (by decide) (off := 122) (by decide) (by decide) ?_
    exact absurd hx (by rw [k1_18]; decide)
  by_cases k1_19 : x = nI 19
  · refine r_swIn (k := nI 19) (tgt := 131) F dX8_count_1 k1_19 (by decide) (by decide) (off := 130) (by decide) (by decide) ?_
    exact absurd hx (by rw [k1_19]; decide)
  by_cases k1_20 : x = nI 20
  · refine r_swIn (k := nI 20) (tgt := 139) F dX8_count_1 k1_20 (by decide) (by decide) (off := 138) (by decide) (by decide) ?_
    exact absurd hx (by rw [k1_20]; decide)
  by_cases k1_21 : x = nI 21
  · refine r_swIn (k := nI 21) (tgt := 147) F dX8_count_1 k1_21 (by decide) (by decide) (off := 146) (by decide) (by decide) ?_
    exact absurd hx (by rw [k1_21]; decide)
  by_cases k1_22 : x = nI 22
  · refine r_swIn (k := nI 22) (tgt := 152) F dX8_count_1 k1_22 (by decide) (by decide) (off := 151) (by decide) (by decide) ?_
    exact absurd hx (by rw [k1_22]; decide)
  by_cases k1_23 : x = nI 23
  · refine r_swIn (k := nI 23) (tgt := 157) F dX8_count_1 k1_23 (by decide) (by decide) (off := 156) (by decide) (by decide) ?_
    exact absurd hx (by rw [k1_23]; decide)
  refine r_swOut (tgt := 162) F dX8_count_1 (by have q8 := lv_neT (a := 8) k1_8 (by decide); have q9 := lv_neT (a := 9) k1_9 (by decide); have q10 := lv_neT (a := 10) k1_10 (by decide); have q11 := lv_neT (a := 11) k1_11 (by decide); have q12 := lv_neT (a := 12) k1_12 (by decide); have q13 := lv_neT (a := 13) k1_13 (by decide); have q14 := lv_neT (a := 14) k1_14 (by decide); have q15 := lv_neT (a := 15) k1_15 (by decide); have q16 := lv_neT (a := 16) k1_16 (by decide); have q17 := lv_neT (a := 17) k1_17 (by decide); have q18 := lv_neT (a := 18) k1_18 (by decide); have q19 := lv_neT (a := 19) k1_19 (by decide); have q20 := lv_neT (a := 20) k1_20 (by decide); have q21 := lv_neT (a := 21) k1_21 (by decide); have q22 := lv_neT (a := 22) k1_22 (by decide); have q23 := lv_neT (a := 23) k1_23 (by decide); omega) (by decide) ?_
  refine lv_iload_n F.1 F.2.1 dX8_count_162 rfl (lv_at hl 1 rfl) ?_
  refine lv_iconst (v := nI 0) F.1 F.2.1 dX8_count_163 (by decide) ?_
  refine lv_bipush (v := nI 7) F.1 F.2.1 dX8_count_164 (by decide) ?_
  refine r_callS0 (rest := []) F w (c_X8_in l G x (nI 0) (nI 7)) gX8_count_X8_in (nA0 := 3) rfl (by decide +kernel) rfl ⟨Nat.le_of_ble_eq_true rfl, Nat.le_of_ble_eq_true rfl⟩ ⟨Nat.le_of_ble_eq_true rfl, Nat.le_of_ble_eq_true rfl⟩ hl rfl (Nat.le_of_ble_eq_true rfl) dX8_count_166 (fun r_166 w1 H locs hp w => ?_)
  obtain ⟨rfl, rfl⟩ := hp
  refine r_yeq (tgt := 181) F dX8_count_169 (by decide) (fun c169 => ?_) (fun c169 => ?_)
  · skip
    refine lv_iconst (v := (-1)) F.1 F.2.1 dX8_count_181 (by decide) ?_
    exact r_ireturn F w dX8_count_182 (⟨rfl, rfl⟩)
  · exact absurd c169 (in0_neg hx)
set_option maxRecDepth 100000 in
set_option maxHeartbeats 4000000 in
theorem c_X8_countN (l : Launch) (G : KG) (a P Sp Hs T N : Nat → Nat) (sc tl tp fa fr fn : Nat) (hI : Inv P) (i : Nat) (hi31 : i < 2 ^ 31) : MetI l yX8_count wsX8_count 3 G (mW G a P Sp Hs sc T tl tp fa fr fn N) [.ref (a 0), .int (nI i)] (fun r v => r = countN P sc tl i ∧ v = mW G a P Sp Hs sc T tl tp fa fr fn N) := by
  refine MetI.by (cc := cX8_count) (nL := 2) (ret := some .int) (by decide +kernel) rfl (Nat.le_of_ble_eq_true rfl) ?_
  intro p e s m args below meth c F w ls hl
  have hl : lv_has ls 2 [(0, .ref (a 0)), (1, .int (nI i))] := hl
  have hts := F.ts
  have iX8 : ∀ w ∈ wsX80, w ∈ wsX8_count := by decide +kernel
  have f7 := hts (.fieldLink RX8 7 "CoreMelterModel" "m" "[I") (by decide +kernel)
  have f25 := hts (.fieldLink RX8 25 "CoreMelterModel" "stateCount" "I") (by decide +kernel)
  have f113 := hts (.fieldLink RX8 113 "CoreMelterModel" "textLength" "I") (by decide +kernel)
  have hD := hI.d
  obtain ⟨b9, b11, b20, b12, b13, b25, b23⟩ := hD.bnd
  have h8 := hD.1.1
  have ht := hD.1.top_le
  have h14 := hI.2.2.2.2.2.1.1
  refine lv_iload_n F.1 F.2.1 dX8_count_0 rfl (lv_at hl 1 rfl) ?_
  by_cases k1_8 : i = 8
  · refine r_swIn (k := nI 8) (tgt := 80) F dX8_count_1 (congrArg nI k1_8) (by decide) (by decide) (off := 79) (by decide) (by decide) ?_
    refine lv_aload_n F.1 F.2.1 dX8_count_80 rfl (lv_at hl 0 rfl) ?_
    refine r_get F w 0 0 iX8 f7 rfl rfl rfl (by decide) rfl dX8_count_81 ?_
    refine lv_bipush (v := nI 8) F.1 F.2.1 dX8_count_84 (by decide) ?_
    refine r_iald F w 1 rfl (by omega) (by decide) dX8_count_86 ?_
    exact r_ireturn F w dX8_count_87 (⟨by first | (subst_vars; first | rfl | contradiction) | exact (if_pos (by omega)).symm | (unfold countN; repeat (rw [if_neg (by omega)])), rfl⟩)
  by_cases k1_9 : i = 9
  · refine r_swIn (k := nI 9) (tgt := 88) F dX8_count_1 (congrArg nI k1_9) (by decide) (by decide) (off := 87) (by decide) (by decide) ?_
    refine lv_aload_n F.1 F.2.1 dX8_count_88 rfl (lv_at hl 0 rfl) ?_
    refine r_callVI (rest := []) F w (c_X8_length l G a P Sp Hs T N sc tl tp fa fr fn  h8) gX8_count_X8_length [0, 1, 2, 3, 4, 5] [] (nA0 := 0) rfl (by decide +kernel) rfl ⟨Nat.le_of_ble_eq_true rfl, Nat.le_of_ble_eq_true rfl⟩ ⟨Nat.le_of_ble_eq_true rfl, Nat.le_of_ble_eq_true rfl⟩ rfl rfl rfl rfl rfl rfl rfl hl rfl (Nat.le_of_ble_eq_true rfl) dX8_count_89 (fun r_89 w1 H locs hp w => ?_)
    obtain ⟨rfl, rfl⟩ := hp
    have w := w.sub (ws' := mW G a P Sp Hs sc T tl tp fa fr fn N) [0, 1, 2, 3, 4, 5] (by decide) rfl
    exact r_ireturn F w dX8_count_92 (⟨by first | (subst_vars; first | rfl | contradiction) | exact (if_pos (by omega)).symm | (unfold countN; repeat (rw [if_neg (by omega)])), rfl⟩)
  by_cases k1_10 : i = 10
  · refine r_swIn (k := nI 10) (tgt := 93) F dX8_count_1 (congrArg nI k1_10) (by decide) (by decide) (off := 92) (by decide) (by decide) ?_
    refine lv_aload_n F.1 F.2.1 dX8_count_93 rfl (lv_at hl 0 rfl) ?_
    refine r_get F w 0 0 iX8 f7 rfl rfl rfl (by decide) rfl dX8_count_94 ?_
    refine lv_iload_n F.1 F.2.1 dX8_count_97 rfl (lv_at hl 1 rfl) ?_
    refine lv_iconst (v := nI 1) F.1 F.2.1 dX8_count_98 (by decide) ?_
    refine r_isub F dX8_count_99 (by omega) ?_
    refine r_iald F w 1 rfl (by omega) (by decide) dX8_count_100 ?_
    exact r_ireturn F w dX8_count_101 (⟨by first | (subst_vars; first | rfl | contradiction) | exact (if_pos (by omega)).symm | (unfold countN; repeat (rw [if_neg (by omega)])), rfl⟩)
  by_cases k1_11 : i = 11
  · refine r_swIn (k := nI 11) (tgt := 93) F dX8_count_1 (congrArg nI k1_11) (by decide) (by decide) (off := 92) (by decide) (by decide) ?_
    refine lv_aload_n F.1 F.2.1 dX8_count_93 rfl (lv_at hl 0 rfl) ?_
    refine r_get F w 0 0 iX8 f7 rfl rfl rfl (by decide) rfl dX8_count_94 ?_
    refine lv_iload_n F.1 F.2.1 dX8_count_97 rfl (lv_at hl 1 rfl) ?_
    refine lv_iconst (v := nI 1) F.1 F.2.1 dX8_count_98 (by decide) ?_
    refine r_isub F dX8_count_99 (by omega) ?_
    refine r_iald F w 1 rfl (by omega) (by decide) dX8_count_100 ?_
    exact r_ireturn F w dX8_count_101 (⟨by first | (subst_vars; first | rfl | contradiction) | exact (if_pos (by omega)).symm | (unfold countN; repeat (rw [if_neg (by omega)])), rfl⟩)
  by_cases k1_12 : i = 12
  · refine r_swIn (k := nI 12) (tgt := 93) F dX8_count_1 (congrArg nI k1_12) (by decide) (by decide) (off := 92) (by decide) (by decide) ?_
    refine lv_aload_n F.1 F.2.1 dX8_count_93 rfl (lv_at hl 0 rfl) ?_
    refine r_get F w 0 0 iX8 f7 rfl rfl rfl (by decide) rfl dX8_count_94 ?_
    refine lv_iload_n F.1 F.2.1 dX8_count_97 rfl (lv_at hl 1 rfl) ?_
    refine lv_iconst (v := nI 1) F.1 F.2.1 dX8_count_98 (by decide) ?_
    refine r_isub F dX8_count_99 (by omega) ?_
    refine r_iald F w 1 rfl (by omega) (by decide) dX8_count_100 ?_
    exact r_ireturn F w dX8_count_101 (⟨by first | (subst_vars; first | rfl | contradiction) | exact (if_pos (by omega)).symm | (unfold countN; repeat (rw [if_neg (by omega)])), rfl⟩)
  by_cases k1_13 : i = 13
  · refine r_swIn (k := nI 13) (tgt := 93) F dX8_count_1 (congrArg nI k1_13) (by decide) (by decide) (off := 92) (by decide) (by decide) ?_
    refine lv_aload_n F.1 F.2.1 dX8_count_93 rfl (lv_at hl 0 rfl) ?_
    refine r_get F w 0 0 iX8 f7 rfl rfl rfl (by decide) rfl dX8_count_94 ?_
    refine lv_iload_n F.1 F.2.1 dX8_count_97 rfl (lv_at hl 1 rfl) ?_
    refine lv_iconst (v := nI 1) F.1 F.2.1 dX8_count_98 (by decide) ?_
    refine r_isub F dX8_count_99 (by omega) ?_
    refine r_iald F w 1 rfl (by omega) (by decide) dX8_count_100 ?_
    exact r_ireturn F w dX8_count_101 (⟨by first | (subst_vars; first | rfl | contradiction) | exact (if_pos (by omega)).symm | (unfold countN; repeat (rw [if_neg (by omega)])), rfl⟩)
  by_cases k1_14 : i = 14
  · refine r_swIn (k := nI 14) (tgt := 93) F dX8_count_1 (congrArg nI k1_14) (by decide) (by decide) (off := 92) (by decide) (by decide) ?_
    refine lv_aload_n F.1 F.2.1 dX8_count_93 rfl (lv_at hl 0 rfl) ?_
    refine r_get F w 0 0 iX8 f7 rfl rfl rfl (by decide) rfl dX8_count_94 ?_
    refine lv_iload_n F.1 F.2.1 dX8_count_97 rfl (lv_at hl 1 rfl) ?_
    refine lv_iconst (v := nI 1) F.1 F.2.1 dX8_count_98 (by decide) ?_
    refine r_isub F dX8_count_99 (by omega) ?_
    refine r_iald F w 1 rfl (by omega) (by decide) dX8_count_100 ?_
    exact r_ireturn F w dX8_count_101 (⟨by first | (subst_vars; first | rfl | contradiction) | exact (if_pos (by omega)).symm | (unfold countN; repeat (rw [if_neg (by omega)])), rfl⟩)
  by_cases k1_15 : i = 15
  · refine r_swIn (k := nI 15) (tgt := 102) F dX8_count_1 (congrArg nI k1_15) (by decide) (by decide) (off := 101) (by decide) (by decide) ?_
    refine lv_aload_n F.1 F.2.1 dX8_count_102 rfl (lv_at hl 0 rfl) ?_
    refine r_callVI (rest := []) F w (c_X8_told l G a P Sp Hs T N sc tl tp fa fr fn hD.1 (by omega) (by omega)) gX8_count_X8_told [0, 1, 2, 3, 4, 5] [] (nA0 := 0) rfl (by decide +kernel) rfl ⟨Nat.le_of_ble_eq_true rfl, Nat.le_of_ble_eq_true rfl⟩ ⟨Nat.le_of_ble_eq_true rfl, Nat.le_of_ble_eq_true rfl⟩ rfl rfl rfl rfl rfl rfl rfl hl rfl (Nat.le_of_ble_eq_true rfl) dX8_count_103 (fun r_103 w1 H locs hp w => ?_)
    obtain ⟨rfl, rfl⟩ := hp
    have w := w.sub (ws' := mW G a P Sp Hs sc T tl tp fa fr fn N) [0, 1, 2, 3, 4, 5] (by decide) rfl
    exact r_ireturn F w dX8_count_106 (⟨by first | (subst_vars; first | rfl | contradiction) | exact (if_pos (by omega)).symm | (unfold countN; repeat (rw [if_neg (by omega)])), rfl⟩)
  by_cases k1_16 : i = 16
  · refine r_swIn (k := nI 16) (tgt := 107) F dX8_count_1 (congrArg nI k1_16) (by decide) (by decide) (off := 106) (by decide) (by decide) ?_
    refine lv_aload_n F.1 F.2.1 dX8_count_107 rfl (lv_at hl 0 rfl) ?_
    refine r_get F w 0 0 iX8 f7 rfl rfl rfl (by decide) rfl dX8_count_108 ?_
    refine lv_bipush (v := nI 14) F.1 F.2.1 dX8_count_111 (by decide) ?_
    refine r_iald F w 1 rfl (by omega) (by decide) dX8_count_113 ?_
    exact r_ireturn F w dX8_count_114 (⟨by first | (subst_vars; first | rfl | contradiction) | exact (if_pos (by omega)).symm | (unfold countN; repeat (rw [if_neg (by omega)])), rfl⟩)
  by_cases k1_17 : i = 17
  · refine r_swIn (k := nI 17) (tgt := 115) F dX8_count_1 (congrArg nI k1_17) (by decide) (by decide) (off := 114) (by decide) (by decide) ?_
    refine lv_aload_n F.1 F.2.1 dX8_count_115 rfl (lv_at hl 0 rfl) ?_
    refine r_get F w 0 0 iX8 f7 rfl rfl rfl (by decide) rfl dX8_count_116 ?_
    refine lv_bipush (v := nI 15) F.1 F.2.1 dX8_count_119 (by decide) ?_
    refine r_iald F w 1 rfl (by omega) (by decide) dX8_count_121 ?_
    exact r_ireturn F w dX8_count_122 (⟨by first | (subst_vars; first | rfl | contradiction) | exact (if_pos (by omega)).symm | (unfold countN; repeat (rw [if_neg (by omega)])), rfl⟩)
  by_cases k1_18 : i = 18
  · refine r_swIn (k := nI 18) (tgt := 123) F dX8_count_1 (congrArg nI k1_18) (by decide) (by decide) (off := 122) (by decide) (by decide) ?_
    refine lv_aload_n F.1 F.2.1 dX8_count_123 rfl (lv_at hl 0 rfl) ?_
    refine r_get F w 0 0 iX8 f7 rfl rfl rfl (by decide) rfl dX8_count_124 ?_
    refine lv_bipush (v := nI 16) F.1 F.2.1 dX8_count_127 (by decide) ?_
    refine r_iald F w 1 rfl (by omega) (by decide) dX8_count_129 ?_
    exact r_ireturn F w dX8_count_130 (⟨by first | (subst_vars; first | rfl | contradiction) | exact (if_pos (by omega)).symm | (unfold countN; repeat (rw [if_neg (by omega)])), rfl⟩)
  by_cases k1_19 : i = 19
  · refine r_swIn (k := nI 19) (tgt := 131) F dX8_count_1 (congrArg nI k1_19) (by decide) (by decide) (off := 130) (by decide) (by decide) ?_
    refine lv_aload_n F.1 F.2.1 dX8_count_131 rfl (lv_at hl 0 rfl) ?_
    refine r_get F w 0 0 iX8 f7 rfl rfl rfl (by decide) rfl dX8_count_132 ?_
    refine lv_bipush (v := nI 17) F.1 F.2.1 dX8_count_135 (by decide) ?_
    refine r_iald F w 1 rfl (by omega) (by decide) dX8_count_137 ?_
    exact r_ireturn F w dX8_count_138 (⟨by first | (subst_vars; first | rfl | contradiction) | exact (if_pos (by omega)).symm | (unfold countN; repeat (rw [if_neg (by omega)])), rfl⟩)
  by_cases k1_20 : i = 20
  · refine r_swIn (k := nI 20) (tgt := 139) F dX8_count_1 (congrArg nI k1_20) (by decide) (by decide) (off := 138) (by decide) (by decide) ?_
    refine lv_aload_n F.1 F.2.1 dX8_count_139 rfl (lv_at hl 0 rfl) ?_
    refine r_get F w 0 0 iX8 f7 rfl rfl rfl (by decide) rfl dX8_count_140 ?_
    refine lv_bipush (v := nI 18) F.1 F.2.1 dX8_count_143 (by decide) ?_
    refine r_iald F w 1 rfl (by omega) (by decide) dX8_count_145 ?_
    exact r_ireturn F w dX8_count_146 (⟨by first | (subst_vars; first | rfl | contradiction) | exact (if_pos (by omega)).symm | (unfold countN; repeat (rw [if_neg (by omega)])), rfl⟩)
  by_cases k1_21 : i = 21
  · refine r_swIn (k := nI 21) (tgt := 147) F dX8_count_1 (congrArg nI k1_21) (by decide) (by decide) (off := 146) (by decide) (by decide) ?_
    refine lv_aload_n F.1 F.2.1 dX8_count_147 rfl (lv_at hl 0 rfl) ?_
    refine r_callVI (rest := []) F w (c_X8_stuck l G a P Sp Hs T N sc tl tp fa fr fn  ) gX8_count_X8_stuck [0, 1, 2, 3, 4, 5] [] (nA0 := 0) rfl (by decide +kernel) rfl ⟨Nat.le_of_ble_eq_true rfl, Nat.le_of_ble_eq_true rfl⟩ ⟨Nat.le_of_ble_eq_true rfl, Nat.le_of_ble_eq_true rfl⟩ rfl rfl rfl rfl rfl rfl rfl hl rfl (Nat.le_of_ble_eq_true rfl) dX8_count_148 (fun r_148 w1 H locs hp w => ?_)
    obtain ⟨rfl, rfl⟩ := hp
    have w := w.sub (ws' := mW G a P Sp Hs sc T tl tp fa fr fn N) [0, 1, 2, 3, 4, 5] (by decide) rfl
    exact r_ireturn F w dX8_count_151 (⟨by first | (subst_vars; first | rfl | contradiction) | exact (if_pos (by omega)).symm | (unfold countN; repeat (rw [if_neg (by omega)])), rfl⟩)
  by_cases k1_22 : i = 22
  · refine r_swIn (k := nI 22) (tgt := 152) F dX8_count_1 (congrArg nI k1_22) (by decide) (by decide) (off := 151) (by decide) (by decide) ?_
    refine lv_aload_n F.1 F.2.1 dX8_count_152 rfl (lv_at hl 0 rfl) ?_
    refine r_get F w 0 3 iX8 f25 rfl rfl rfl (by decide) rfl dX8_count_153 ?_
    exact r_ireturn F w dX8_count_156 (⟨by first | (subst_vars; first | rfl | contradiction) | exact (if_pos (by omega)).symm | (unfold countN; repeat (rw [if_neg (by omega)])), rfl⟩)
  by_cases k1_23 : i = 23
  · refine r_swIn (k := nI 23) (tgt := 157) F dX8_count_1 (congrArg nI k1_23) (by decide) (by decide) (off := 156) (by decide) (by decide) ?_
    refine lv_aload_n F.1 F.2.1 dX8_count_157 rfl (lv_at hl 0 rfl) ?_
    refine r_get F w 0 5 iX8 f113 rfl rfl rfl (by decide) rfl dX8_count_158 ?_
    exact r_ireturn F w dX8_count_161 (⟨by first | (subst_vars; first | rfl | contradiction) | exact (if_pos (by omega)).symm | (unfold countN; repeat (rw [if_neg (by omega)])), rfl⟩)
  refine r_swOutN (tgt := 162) F dX8_count_1 hi31 (by omega) (by decide) ?_
  refine lv_iload_n F.1 F.2.1 dX8_count_162 rfl (lv_at hl 1 rfl) ?_
  refine lv_iconst (v := nI 0) F.1 F.2.1 dX8_count_163 (by decide) ?_
  refine lv_bipush (v := nI 7) F.1 F.2.1 dX8_count_164 (by decide) ?_
  refine r_callS0 (rest := []) F w (c_X8_inN l G i 0 7 (by omega) (by omega) (by omega)) gX8_count_X8_in (nA0 := 3) rfl (by decide +kernel) rfl ⟨Nat.le_of_ble_eq_true rfl, Nat.le_of_ble_eq_true rfl⟩ ⟨Nat.le_of_ble_eq_true rfl, Nat.le_of_ble_eq_true rfl⟩ hl rfl (Nat.le_of_ble_eq_true rfl) dX8_count_166 (fun r_166 w1 H locs hp w => ?_)
  obtain ⟨rfl, rfl⟩ := hp
  refine r_yeq (tgt := 181) F dX8_count_169 (by decide) (fun c169 => ?_) (fun c169 => ?_)
  · skip
    refine lv_iconst (v := (-1)) F.1 F.2.1 dX8_count_181 (by decide) ?_
    exact r_ireturn F w dX8_count_182 (⟨by first | (subst_vars; first | rfl | contradiction) | exact (if_pos (by omega)).symm | (unfold countN; repeat (rw [if_neg (by omega)])), rfl⟩)
  · skip
    refine lv_aload_n F.1 F.2.1 dX8_count_172 rfl (lv_at hl 0 rfl) ?_
    refine r_get F w 0 0 iX8 f7 rfl rfl rfl (by decide) rfl dX8_count_173 ?_
    refine lv_iload_n F.1 F.2.1 dX8_count_176 rfl (lv_at hl 1 rfl) ?_
    refine r_iald F w 1 rfl (by omega) (by decide) dX8_count_177 ?_
    refine lv_goto (tgt := 182) F.1 F.2.1 dX8_count_178 (by decide) ?_
    exact r_ireturn F w dX8_count_182 (⟨by first | (subst_vars; first | rfl | contradiction) | exact (if_pos (by omega)).symm | (unfold countN; repeat (rw [if_neg (by omega)])), rfl⟩)
theorem c_X8_count (l : Launch) (G : KG) (a P Sp Hs T N : Nat → Nat) (sc tl tp fa fr fn : Nat) (hI : Inv P) (x : Int32) : MetI l yX8_count wsX8_count 3 G (mW G a P Sp Hs sc T tl tp fa fr fn N) [.ref (a 0), .int x] (fun r v => r = on1 (countN P sc tl) x ∧ v = mW G a P Sp Hs sc T tl tp fa fr fn N) := by
  by_cases h : x < 0
  · rw [on1_neg h]; exact c_X8_countM l G a P Sp Hs T N sc tl tp fa fr fn hI x h
  · obtain ⟨i, hi, rfl⟩ := nI_of h
    rw [on1_nat hi]
    exact c_X8_countN l G a P Sp Hs T N sc tl tp fa fr fn hI i hi
set_option maxRecDepth 100000 in
set_option maxHeartbeats 4000000 in
theorem c_X8_again (l : Launch) (G : KG) (a P Sp Hs T N : Nat → Nat) (sc tl tp fa fr fn : Nat) (hI : Inv P) : MetI l yX8_again wsX8_again 2 G (mW G a P Sp Hs sc T tl tp fa fr fn N) [.ref (a 0)] (fun r v => r = nI (toldF P) ∧ v = mW G a P Sp Hs sc T tl tp fa fr fn N) := by
  refine MetI.by (cc := cX8_again) (nL := 3) (ret := some .int) (by decide +kernel) rfl (Nat.le_of_ble_eq_true rfl) ?_
  intro p e s m args below meth c F w ls hl
  have hl : lv_has ls 3 [(0, .ref (a 0))] := hl
  have hts := F.ts
  have iX8 : ∀ w ∈ wsX80, w ∈ wsX8_again := by decide +kernel
  have f7 := hts (.fieldLink RX8 7 "CoreMelterModel" "m" "[I") (by decide +kernel)
  have hD := hI.d
  obtain ⟨b9, b11, b20, b12, b13, b25, b23⟩ := hD.bnd
  have h8 := hD.1.1
  have ht := hD.1.top_le
  have h14 := hI.2.2.2.2.2.1.1
  refine lv_aload_n F.1 F.2.1 dX8_again_0 rfl (lv_at hl 0 rfl) ?_
  refine r_get F w 0 0 iX8 f7 rfl rfl rfl (by decide) rfl dX8_again_1 ?_
  refine lv_bipush (v := nI 20) F.1 F.2.1 dX8_again_4 (by decide) ?_
  refine r_iald F w 1 rfl (by omega) (by decide) dX8_again_6 ?_
  refine lv_aload_n F.1 F.2.1 dX8_again_7 rfl (lv_at hl 0 rfl) ?_
  refine r_get F w 0 0 iX8 f7 rfl rfl rfl (by decide) rfl dX8_again_8 ?_
  refine lv_bipush (v := nI 21) F.1 F.2.1 dX8_again_11 (by decide) ?_
  refine r_iald F w 1 rfl (by omega) (by decide) dX8_again_13 ?_
  refine r_iadd F dX8_again_14 ?_
  refine lv_istore_n (lv' := [(1, .int (nI ((P 20) + (P 21)))), (0, .ref (a 0))]) F.1 F.2.1 dX8_again_15 rfl hl (by decide) rfl (fun ls hl => ?_)
  refine lv_aload_n F.1 F.2.1 dX8_again_16 rfl (lv_at hl 1 rfl) ?_
  refine r_get F w 0 0 iX8 f7 rfl rfl rfl (by decide) rfl dX8_again_17 ?_
  refine lv_bipush (v := nI 9) F.1 F.2.1 dX8_again_20 (by decide) ?_
  refine r_iald F w 1 rfl (by omega) (by decide) dX8_again_22 ?_
  refine lv_istore_n (lv' := [(2, .int (nI (P 9))), (1, .int (nI ((P 20) + (P 21)))), (0, .ref (a 0))]) F.1 F.2.1 dX8_again_23 rfl hl (by decide) rfl (fun ls hl => ?_)
  have L24 : ∀ n : Nat, ∀ (k : Nat), (toldF P ≤ k) → (k ≤ P 9) → k < n → ∀ (H : Heap) (locs : List Loc), Wd G s (va_A (mW G a P Sp Hs sc T tl tp fa fr fn N) s.heap.size) (mW G a P Sp Hs sc T tl tp fa fr fn N) H locs → ∀ ls : Array Slot, lv_has ls 3 [(0, .ref (a 0)), (1, .int (nI (P 20 + P 21))), (2, .int (nI k))] → W p l e (rmK 2 0 0) s m args below meth c H locs 0 0 (MQ below (QI G (mW G a P Sp Hs sc T tl tp fa fr fn N) s.heap.size (fun r v => r = nI (toldF P) ∧ v = mW G a P Sp Hs sc T tl tp fa fr fn N)) args s 0 0 (va_A (mW G a P Sp Hs sc T tl tp fa fr fn N) s.heap.size)) (F0 m 24 ls []) := by
    intro n
    induction n with
    | zero => intro k h1 h2 hm; exact absurd hm (Nat.not_lt_zero _)
    | succ n ih24 =>
      intro k h1 h2 hm24 H locs w ls hl
      refine lv_aload_n F.1 F.2.1 dX8_again_24 rfl (lv_at hl 0 rfl) ?_
      refine lv_iload_n F.1 F.2.1 dX8_again_25 rfl (lv_at hl 2 rfl) ?_
      refine r_callVI (rest := []) F w (c_X8_water l G a P Sp Hs T N sc tl tp fa fr fn k (by omega) hD.1) gX8_again_X8_water [0, 1, 2, 3, 4, 5] [] (nA0 := 1) rfl (by decide +kernel) rfl ⟨Nat.le_of_ble_eq_true rfl, Nat.le_of_ble_eq_true rfl⟩ ⟨Nat.le_of_ble_eq_true rfl, Nat.le_of_ble_eq_true rfl⟩ rfl rfl rfl rfl rfl rfl rfl hl rfl (Nat.le_of_ble_eq_true rfl) dX8_again_26 (fun r_26 w1 H locs hp w => ?_)
      obtain ⟨rfl, rfl⟩ := hp
      have w := w.sub (ws' := mW G a P Sp Hs sc T tl tp fa fr fn N) [0, 1, 2, 3, 4, 5] (by decide) rfl
      refine lv_iload_n F.1 F.2.1 dX8_again_29 rfl (lv_at hl 1 rfl) ?_
      refine r_cle (tgt := 39) F dX8_again_30 (by decide) (by have h := wat_bound (ln := lnP P) (dn := dnP P) (d := k) (n := P 8) hD.1.dn_le; have h3 : min k (low (lnP P) (P 8)) ≤ k := Nat.min_le_left _ _; omega) (by omega) (fun c30 => ?_) (fun c30 => ?_)
      · skip
        refine lv_iload_n F.1 F.2.1 dX8_again_39 rfl (lv_at hl 2 rfl) ?_
        exact r_ireturn F w dX8_again_40 (⟨congrArg nI (told_eq hI h1 h2 c30), rfl⟩)
      · skip
        refine lv_iinc (v := nI (k - 1)) (lv' := [(2, .int (nI (k - 1))), (0, .ref (a 0)), (1, .int (nI (P 20 + P 21)))]) F.1 F.2.1 dX8_again_33 hl (k := 2) rfl ((nI_dec (told_1 hI h1 c30))) (by decide) rfl (fun ls hl => ?_)
        refine lv_goto (tgt := 24) F.1 F.2.1 dX8_again_36 (by decide) ?_
        exact ih24 (k - 1) (told_dn hI h2 h1 c30) (by omega) (by have := told_1 hI h1 c30; omega) _ _ w ls (lv_sub hl [1, 2, 0] rfl)
  exact L24 _ (P 9) (toldF_le P) (Nat.le_refl _) (Nat.lt_succ_self _) _ _ w ls (lv_sub hl [2, 1, 0] rfl)
