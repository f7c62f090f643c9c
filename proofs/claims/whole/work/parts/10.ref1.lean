set_option maxRecDepth 100000 in
set_option maxHeartbeats 4000000 in
theorem c_X8_in (l : Launch) (G : KG) (v least most : Int32) : MetI l yX8_in wsX8_in 0 G (([] : va_W)) [.int v, .int least, .int most] (fun r w => r = yn (least ≤ v ∧ v ≤ most) ∧ w = []) := by
  refine MetI.by (cc := cX8_in) (nL := 3) (ret := some .boolean) (by decide +kernel) rfl (Nat.le_of_ble_eq_true rfl) ?_
  intro p e s m args below meth c F w ls hl
  have hl : lv_has ls 3 [(0, .int v), (1, .int least), (2, .int most)] := hl
  have hts := F.ts
  refine lv_iload_n F.1 F.2.1 dX8_in_0 rfl (lv_at hl 0 rfl) ?_
  refine lv_iload_n F.1 F.2.1 dX8_in_1 rfl (lv_at hl 1 rfl) ?_
  refine lv_icmp_lt (tgt := 14) F.1 F.2.1 dX8_in_2 (by decide) (fun c2 => ?_) (fun c2 => ?_)
  · skip
    refine lv_iconst (v := nI 0) F.1 F.2.1 dX8_in_14 (by decide) ?_
    exact r_zreturn F w dX8_in_15 rfl (⟨by first | exact yn_t ⟨by simpa [Int32.not_lt] using c2, by simpa [Int32.not_lt] using c7⟩ | exact yn_f (fun q => absurd q.1 (by simpa [Int32.not_le] using c2)) | exact yn_f (fun q => absurd q.2 (by simpa [Int32.not_le] using c7)), rfl⟩)
  · skip
    refine lv_iload_n F.1 F.2.1 dX8_in_5 rfl (lv_at hl 0 rfl) ?_
    refine lv_iload_n F.1 F.2.1 dX8_in_6 rfl (lv_at hl 2 rfl) ?_
    refine lv_icmp_gt (tgt := 14) F.1 F.2.1 dX8_in_7 (by decide) (fun c7 => ?_) (fun c7 => ?_)
    · skip
      refine lv_iconst (v := nI 0) F.1 F.2.1 dX8_in_14 (by decide) ?_
      exact r_zreturn F w dX8_in_15 rfl (⟨by first | exact yn_t ⟨by simpa [Int32.not_lt] using c2, by simpa [Int32.not_lt] using c7⟩ | exact yn_f (fun q => absurd q.1 (by simpa [Int32.not_le] using c2)) | exact yn_f (fun q => absurd q.2 (by simpa [Int32.not_le] using c7)), rfl⟩)
    · skip
      refine lv_iconst (v := nI 1) F.1 F.2.1 dX8_in_10 (by decide) ?_
      refine lv_goto (tgt := 15) F.1 F.2.1 dX8_in_11 (by decide) ?_
      exact r_zreturn F w dX8_in_15 rfl (⟨by first | exact yn_t ⟨by simpa [Int32.not_lt] using c2, by simpa [Int32.not_lt] using c7⟩ | exact yn_f (fun q => absurd q.1 (by simpa [Int32.not_le] using c2)) | exact yn_f (fun q => absurd q.2 (by simpa [Int32.not_le] using c7)), rfl⟩)
theorem c_X8_inN (l : Launch) (G : KG) (v lo hi : Nat) (hv : v < 2 ^ 31) (h1 : lo < 2 ^ 31) (h2 : hi < 2 ^ 31) : MetI l yX8_in wsX8_in 0 G ([] : va_W) [.int (nI v), .int (nI lo), .int (nI hi)] (fun r w => r = yn (lo ≤ v ∧ v ≤ hi) ∧ w = []) := by
  have h := c_X8_in l G (nI v) (nI lo) (nI hi)
  have e : (nI lo ≤ nI v ∧ nI v ≤ nI hi) ↔ (lo ≤ v ∧ v ≤ hi) := by rw [nI_leI h1 hv, nI_leI hv h2]
  have e2 : yn (nI lo ≤ nI v ∧ nI v ≤ nI hi) = yn (lo ≤ v ∧ v ≤ hi) := by unfold yn; simp only [e]
  rw [e2] at h
  exact h
set_option maxRecDepth 100000 in
set_option maxHeartbeats 4000000 in
theorem c_X8_lesser (l : Launch) (G : KG) (x z : Nat) (hx : x < 2 ^ 31) (hz : z < 2 ^ 31) : MetI l yX8_lesser wsX8_lesser 0 G (([] : va_W)) [.int (nI x), .int (nI z)] (fun r w => r = nI (min x z) ∧ w = []) := by
  refine MetI.by (cc := cX8_lesser) (nL := 2) (ret := some .int) (by decide +kernel) rfl (Nat.le_of_ble_eq_true rfl) ?_
  intro p e s m args below meth c F w ls hl
  have hl : lv_has ls 2 [(0, .int (nI x)), (1, .int (nI z))] := hl
  have hts := F.ts
  refine lv_iload_n F.1 F.2.1 dX8_lesser_0 rfl (lv_at hl 0 rfl) ?_
  refine lv_iload_n F.1 F.2.1 dX8_lesser_1 rfl (lv_at hl 1 rfl) ?_
  refine r_cge (tgt := 9) F dX8_lesser_2 (by decide) (by omega) (by omega) (fun c2 => ?_) (fun c2 => ?_)
  · skip
    refine lv_iload_n F.1 F.2.1 dX8_lesser_9 rfl (lv_at hl 1 rfl) ?_
    exact r_ireturn F w dX8_lesser_10 (⟨congrArg nI (by omega), rfl⟩)
  · skip
    refine lv_iload_n F.1 F.2.1 dX8_lesser_5 rfl (lv_at hl 0 rfl) ?_
    refine lv_goto (tgt := 10) F.1 F.2.1 dX8_lesser_6 (by decide) ?_
    exact r_ireturn F w dX8_lesser_10 (⟨congrArg nI (by omega), rfl⟩)
set_option maxRecDepth 100000 in
set_option maxHeartbeats 4000000 in
theorem c_X8_of (l : Launch) (G : KG) (a P Sp Hs T N : Nat → Nat) (sc tl tp fa fr fn : Nat) (i j : Nat) (h : 46 + 4 * i + j < 246) : MetI l yX8_of wsX8_of 0 G (mW G a P Sp Hs sc T tl tp fa fr fn N) [.ref (a 0), .int (nI i), .int (nI j)] (fun r v => r = nI (P (46 + 4 * i + j)) ∧ v = mW G a P Sp Hs sc T tl tp fa fr fn N) := by
  refine MetI.by (cc := cX8_of) (nL := 3) (ret := some .int) (by decide +kernel) rfl (Nat.le_of_ble_eq_true rfl) ?_
  intro p e s m args below meth c F w ls hl
  have hl : lv_has ls 3 [(0, .ref (a 0)), (1, .int (nI i)), (2, .int (nI j))] := hl
  have hts := F.ts
  have iX8 : ∀ w ∈ wsX80, w ∈ wsX8_of := by decide +kernel
  have f7 := hts (.fieldLink RX8 7 "CoreMelterModel" "m" "[I") (by decide +kernel)
  refine lv_aload_n F.1 F.2.1 dX8_of_0 rfl (lv_at hl 0 rfl) ?_
  refine r_get F w 0 0 iX8 f7 rfl rfl rfl (by decide) rfl dX8_of_1 ?_
  refine lv_bipush (v := nI 46) F.1 F.2.1 dX8_of_4 (by decide) ?_
  refine lv_iconst (v := nI 4) F.1 F.2.1 dX8_of_6 (by decide) ?_
  refine lv_iload_n F.1 F.2.1 dX8_of_7 rfl (lv_at hl 1 rfl) ?_
  refine r_imul F dX8_of_8 ?_
  refine r_iadd F dX8_of_9 ?_
  refine lv_iload_n F.1 F.2.1 dX8_of_10 rfl (lv_at hl 2 rfl) ?_
  refine r_iadd F dX8_of_11 ?_
  refine r_iald F w 1 rfl (by omega) (by decide) dX8_of_12 ?_
  exact r_ireturn F w dX8_of_13 (⟨rfl, rfl⟩)
set_option maxRecDepth 100000 in
set_option maxHeartbeats 4000000 in
theorem c_X8_ofLine (l : Launch) (G : KG) (a P Sp Hs T N : Nat → Nat) (sc tl tp fa fr fn : Nat) (i j : Nat) (h : 26 + 5 * i + j < 246) : MetI l yX8_ofLine wsX8_ofLine 0 G (mW G a P Sp Hs sc T tl tp fa fr fn N) [.ref (a 0), .int (nI i), .int (nI j)] (fun r v => r = nI (P (26 + 5 * i + j)) ∧ v = mW G a P Sp Hs sc T tl tp fa fr fn N) := by
  refine MetI.by (cc := cX8_ofLine) (nL := 3) (ret := some .int) (by decide +kernel) rfl (Nat.le_of_ble_eq_true rfl) ?_
  intro p e s m args below meth c F w ls hl
  have hl : lv_has ls 3 [(0, .ref (a 0)), (1, .int (nI i)), (2, .int (nI j))] := hl
  have hts := F.ts
  have iX8 : ∀ w ∈ wsX80, w ∈ wsX8_ofLine := by decide +kernel
  have f7 := hts (.fieldLink RX8 7 "CoreMelterModel" "m" "[I") (by decide +kernel)
  refine lv_aload_n F.1 F.2.1 dX8_ofLine_0 rfl (lv_at hl 0 rfl) ?_
  refine r_get F w 0 0 iX8 f7 rfl rfl rfl (by decide) rfl dX8_ofLine_1 ?_
  refine lv_bipush (v := nI 26) F.1 F.2.1 dX8_ofLine_4 (by decide) ?_
  refine lv_iconst (v := nI 5) F.1 F.2.1 dX8_ofLine_6 (by decide) ?_
  refine lv_iload_n F.1 F.2.1 dX8_ofLine_7 rfl (lv_at hl 1 rfl) ?_
  refine r_imul F dX8_ofLine_8 ?_
  refine r_iadd F dX8_ofLine_9 ?_
  refine lv_iload_n F.1 F.2.1 dX8_ofLine_10 rfl (lv_at hl 2 rfl) ?_
  refine r_iadd F dX8_ofLine_11 ?_
  refine r_iald F w 1 rfl (by omega) (by decide) dX8_ofLine_12 ?_
  exact r_ireturn F w dX8_ofLine_13 (⟨rfl, rfl⟩)
set_option maxRecDepth 100000 in
set_option maxHeartbeats 4000000 in
theorem c_X8_lower (l : Launch) (G : KG) (a P Sp Hs T N : Nat → Nat) (sc tl tp fa fr fn : Nat) (i : Nat) (hs : i ≤ 20) : MetI l yX8_lower wsX8_lower 1 G (mW G a P Sp Hs sc T tl tp fa fr fn N) [.ref (a 0), .int (nI i)] (fun r v => r = nI (low (lnP P) i) ∧ v = mW G a P Sp Hs sc T tl tp fa fr fn N) := by
  refine MetI.by (cc := cX8_lower) (nL := 4) (ret := some .int) (by decide +kernel) rfl (Nat.le_of_ble_eq_true rfl) ?_
  intro p e s m args below meth c F w ls hl
  have hl : lv_has ls 4 [(0, .ref (a 0)), (1, .int (nI i))] := hl
  have hts := F.ts
  refine lv_iconst (v := nI 0) F.1 F.2.1 dX8_lower_0 (by decide) ?_
  refine lv_istore_n (lv' := [(2, .int (nI 0)), (0, .ref (a 0)), (1, .int (nI i))]) F.1 F.2.1 dX8_lower_1 rfl hl (by decide) rfl (fun ls hl => ?_)
  refine lv_iconst (v := nI 0) F.1 F.2.1 dX8_lower_2 (by decide) ?_
  refine lv_istore_n (lv' := [(3, .int (nI 0)), (2, .int (nI 0)), (0, .ref (a 0)), (1, .int (nI i))]) F.1 F.2.1 dX8_lower_3 rfl hl (by decide) rfl (fun ls hl => ?_)
  have L4 : ∀ n : Nat, ∀ (k : Nat), (k ≤ i) → i - k < n → ∀ (H : Heap) (locs : List Loc), Wd G s (va_A (mW G a P Sp Hs sc T tl tp fa fr fn N) s.heap.size) (mW G a P Sp Hs sc T tl tp fa fr fn N) H locs → ∀ ls : Array Slot, lv_has ls 4 [(0, .ref (a 0)), (1, .int (nI i)), (2, .int (nI (low (lnP P) k))), (3, .int (nI k))] → W p l e (rmK 1 0 0) s m args below meth c H locs 0 0 (MQ below (QI G (mW G a P Sp Hs sc T tl tp fa fr fn N) s.heap.size (fun r v => r = nI (low (lnP P) i) ∧ v = mW G a P Sp Hs sc T tl tp fa fr fn N)) args s 0 0 (va_A (mW G a P Sp Hs sc T tl tp fa fr fn N) s.heap.size)) (F0 m 4 ls []) := by
    intro n
    induction n with
    | zero => intro k h1 hm; exact absurd hm (Nat.not_lt_zero _)
    | succ n ih4 =>
      intro k h1 hm4 H locs w ls hl
      refine lv_iload_n F.1 F.2.1 dX8_lower_4 rfl (lv_at hl 3 rfl) ?_
      refine lv_iload_n F.1 F.2.1 dX8_lower_5 rfl (lv_at hl 1 rfl) ?_
      refine r_cge (tgt := 24) F dX8_lower_6 (by decide) (by omega) (by omega) (fun c6 => ?_) (fun c6 => ?_)
      · skip
        refine lv_iload_n F.1 F.2.1 dX8_lower_24 rfl (lv_at hl 2 rfl) ?_
        exact r_ireturn F w dX8_lower_25 (⟨congrArg (fun z => nI (low (lnP P) z)) (by omega), rfl⟩)
      · skip
        refine lv_iload_n F.1 F.2.1 dX8_lower_9 rfl (lv_at hl 2 rfl) ?_
        refine lv_aload_n F.1 F.2.1 dX8_lower_10 rfl (lv_at hl 0 rfl) ?_
        refine lv_iload_n F.1 F.2.1 dX8_lower_11 rfl (lv_at hl 3 rfl) ?_
        refine lv_iconst (v := nI 1) F.1 F.2.1 dX8_lower_12 (by decide) ?_
        refine r_callVI (rest := [.int (nI (low (lnP P) k))]) F w (c_X8_of l G a P Sp Hs T N sc tl tp fa fr fn k 1 (by omega)) gX8_lower_X8_of [0, 1, 2, 3, 4, 5] [] (nA0 := 2) rfl (by decide +kernel) rfl ⟨Nat.le_of_ble_eq_true rfl, Nat.le_of_ble_eq_true rfl⟩ ⟨Nat.le_of_ble_eq_true rfl, Nat.le_of_ble_eq_true rfl⟩ rfl rfl rfl rfl rfl rfl rfl hl rfl (Nat.le_of_ble_eq_true rfl) dX8_lower_13 (fun r_13 w1 H locs hp w => ?_)
        obtain ⟨rfl, rfl⟩ := hp
        have w := w.sub (ws' := mW G a P Sp Hs sc T tl tp fa fr fn N) [0, 1, 2, 3, 4, 5] (by decide) rfl
        refine r_iadd F dX8_lower_16 ?_
        refine lv_istore_n (lv' := [(2, .int (nI ((low (lnP P) k) + (P (46 + 4 * k + 1))))), (0, .ref (a 0)), (1, .int (nI i)), (3, .int (nI k))]) F.1 F.2.1 dX8_lower_17 rfl hl (by decide) rfl (fun ls hl => ?_)
        refine lv_iinc (v := nI (k + 1)) (lv' := [(3, .int (nI (k + 1))), (2, .int (nI ((low (lnP P) k) + (P (46 + 4 * k + 1))))), (0, .ref (a 0)), (1, .int (nI i))]) F.1 F.2.1 dX8_lower_18 hl (k := 3) rfl (nI_add _ _) (by decide) rfl (fun ls hl => ?_)
        refine lv_goto (tgt := 4) F.1 F.2.1 dX8_lower_21 (by decide) ?_
        exact ih4 (k + 1) (by omega) (by omega) _ _ w ls (lv_sub hl [2, 3, 1, 0] rfl)
  exact L4 _ 0 (Nat.zero_le _) (Nat.lt_succ_self _) _ _ w ls (lv_sub hl [2, 3, 1, 0] rfl)
set_option maxRecDepth 100000 in
set_option maxHeartbeats 4000000 in
theorem c_X8_length (l : Launch) (G : KG) (a P Sp Hs T N : Nat → Nat) (sc tl tp fa fr fn : Nat) (hP : P 8 ≤ 20) : MetI l yX8_length wsX8_length 2 G (mW G a P Sp Hs sc T tl tp fa fr fn N) [.ref (a 0)] (fun r v => r = nI (low (lnP P) (P 8)) ∧ v = mW G a P Sp Hs sc T tl tp fa fr fn N) := by
  refine MetI.by (cc := cX8_length) (nL := 1) (ret := some .int) (by decide +kernel) rfl (Nat.le_of_ble_eq_true rfl) ?_
  intro p e s m args below meth c F w ls hl
  have hl : lv_has ls 1 [(0, .ref (a 0))] := hl
  have hts := F.ts
  have iX8 : ∀ w ∈ wsX80, w ∈ wsX8_length := by decide +kernel
  have f7 := hts (.fieldLink RX8 7 "CoreMelterModel" "m" "[I") (by decide +kernel)
  refine lv_aload_n F.1 F.2.1 dX8_length_0 rfl (lv_at hl 0 rfl) ?_
  refine lv_aload_n F.1 F.2.1 dX8_length_1 rfl (lv_at hl 0 rfl) ?_
  refine r_get F w 0 0 iX8 f7 rfl rfl rfl (by decide) rfl dX8_length_2 ?_
  refine lv_bipush (v := nI 8) F.1 F.2.1 dX8_length_5 (by decide) ?_
  refine r_iald F w 1 rfl (by omega) (by decide) dX8_length_7 ?_
  refine r_callVI (rest := []) F w (c_X8_lower l G a P Sp Hs T N sc tl tp fa fr fn (P 8) (by omega)) gX8_length_X8_lower [0, 1, 2, 3, 4, 5] [] (nA0 := 1) rfl (by decide +kernel) rfl ⟨Nat.le_of_ble_eq_true rfl, Nat.le_of_ble_eq_true rfl⟩ ⟨Nat.le_of_ble_eq_true rfl, Nat.le_of_ble_eq_true rfl⟩ rfl rfl rfl rfl rfl rfl rfl hl rfl (Nat.le_of_ble_eq_true rfl) dX8_length_8 (fun r_8 w1 H locs hp w => ?_)
  obtain ⟨rfl, rfl⟩ := hp
  have w := w.sub (ws' := mW G a P Sp Hs sc T tl tp fa fr fn N) [0, 1, 2, 3, 4, 5] (by decide) rfl
  exact r_ireturn F w dX8_length_11 (⟨rfl, rfl⟩)
