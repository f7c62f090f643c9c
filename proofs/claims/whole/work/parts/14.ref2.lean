set_option maxRecDepth 100000 in
set_option maxHeartbeats 4000000 in
theorem c_X8_segmentOf (l : Launch) (G : KG) (a P Sp Hs T N : Nat → Nat) (sc tl tp fa fr fn : Nat) (d : Nat) (hd : d < 2 ^ 31) (hS : SegOk P) : MetI l yX8_segmentOf wsX8_segmentOf 2 G (mW G a P Sp Hs sc T tl tp fa fr fn N) [.ref (a 0), .int (nI d)] (fun r v => r = (if sg (lnP P) d (P 8) < P 8 then nI (sg (lnP P) d (P 8)) else -4) ∧ v = mW G a P Sp Hs sc T tl tp fa fr fn N) := by
  refine MetI.by (cc := cX8_segmentOf) (nL := 3) (ret := some .int) (by decide +kernel) rfl (Nat.le_of_ble_eq_true rfl) ?_
  intro p e s m args below meth c F w ls hl
  have hl : lv_has ls 3 [(0, .ref (a 0)), (1, .int (nI d))] := hl
  have hts := F.ts
  have iX8 : ∀ w ∈ wsX80, w ∈ wsX8_segmentOf := by decide +kernel
  have f7 := hts (.fieldLink RX8 7 "CoreMelterModel" "m" "[I") (by decide +kernel)
  have h8 := hS.1
  have hbl : ∀ j, j ≤ P 8 → low (lnP P) j ≤ 6000 := fun j hj => Nat.le_trans (low_mono _ hj) hS.top_le
  refine lv_iconst (v := nI 0) F.1 F.2.1 dX8_segmentOf_0 (by decide) ?_
  refine lv_istore_n (lv' := [(2, .int (nI 0)), (0, .ref (a 0)), (1, .int (nI d))]) F.1 F.2.1 dX8_segmentOf_1 rfl hl (by decide) rfl (fun ls hl => ?_)
  have L2 : ∀ n : Nat, ∀ (k : Nat), (k ≤ P 8) → (∀ j, j < k → low (lnP P) (j + 1) ≤ d) → P 8 - k < n → ∀ (H : Heap) (locs : List Loc), Wd G s (va_A (mW G a P Sp Hs sc T tl tp fa fr fn N) s.heap.size) (mW G a P Sp Hs sc T tl tp fa fr fn N) H locs → ∀ ls : Array Slot, lv_has ls 3 [(0, .ref (a 0)), (1, .int (nI d)), (2, .int (nI k))] → W p l e (rmK 2 0 0) s m args below meth c H locs 0 0 (MQ below (QI G (mW G a P Sp Hs sc T tl tp fa fr fn N) s.heap.size (fun r v => r = (if sg (lnP P) d (P 8) < P 8 then nI (sg (lnP P) d (P 8)) else -4) ∧ v = mW G a P Sp Hs sc T tl tp fa fr fn N)) args s 0 0 (va_A (mW G a P Sp Hs sc T tl tp fa fr fn N) s.heap.size)) (F0 m 2 ls []) := by
    intro n
    induction n with
    | zero => intro k h1 h2 hm; exact absurd hm (Nat.not_lt_zero _)
    | succ n ih2 =>
      intro k h1 h2 hm2 H locs w ls hl
      refine lv_iload_n F.1 F.2.1 dX8_segmentOf_2 rfl (lv_at hl 2 rfl) ?_
      refine lv_aload_n F.1 F.2.1 dX8_segmentOf_3 rfl (lv_at hl 0 rfl) ?_
      refine r_get F w 0 0 iX8 f7 rfl rfl rfl (by decide) rfl dX8_segmentOf_4 ?_
      refine lv_bipush (v := nI 8) F.1 F.2.1 dX8_segmentOf_7 (by decide) ?_
      refine r_iald F w 1 rfl (by omega) (by decide) dX8_segmentOf_9 ?_
      refine r_cge (tgt := 32) F dX8_segmentOf_10 (by decide) (by omega) (by omega) (fun c10 => ?_) (fun c10 => ?_)
      · skip
        refine lv_bipush (v := (-4)) F.1 F.2.1 dX8_segmentOf_32 (by decide) ?_
        exact r_ireturn F w dX8_segmentOf_34 (⟨by rw [sg_all (n := P 8) (fun j hj => h2 j (by omega)), if_neg (Nat.lt_irrefl _)], rfl⟩)
      · skip
        refine lv_iload_n F.1 F.2.1 dX8_segmentOf_13 rfl (lv_at hl 1 rfl) ?_
        refine lv_aload_n F.1 F.2.1 dX8_segmentOf_14 rfl (lv_at hl 0 rfl) ?_
        refine lv_iload_n F.1 F.2.1 dX8_segmentOf_15 rfl (lv_at hl 2 rfl) ?_
        refine lv_iconst (v := nI 1) F.1 F.2.1 dX8_segmentOf_16 (by decide) ?_
        refine r_iadd F dX8_segmentOf_17 ?_
        refine r_callVI (rest := [.int (nI d)]) F w (c_X8_lower l G a P Sp Hs T N sc tl tp fa fr fn (k + 1) (by omega)) gX8_segmentOf_X8_lower [0, 1, 2, 3, 4, 5] [] (nA0 := 1) rfl (by decide +kernel) rfl ⟨Nat.le_of_ble_eq_true rfl, Nat.le_of_ble_eq_true rfl⟩ ⟨Nat.le_of_ble_eq_true rfl, Nat.le_of_ble_eq_true rfl⟩ rfl rfl rfl rfl rfl rfl rfl hl rfl (Nat.le_of_ble_eq_true rfl) dX8_segmentOf_18 (fun r_18 w1 H locs hp w => ?_)
        obtain ⟨rfl, rfl⟩ := hp
        have w := w.sub (ws' := mW G a P Sp Hs sc T tl tp fa fr fn N) [0, 1, 2, 3, 4, 5] (by decide) rfl
        refine r_cge (tgt := 26) F dX8_segmentOf_21 (by decide) (by omega) (by have := hbl (k + 1) (by omega); omega) (fun c21 => ?_) (fun c21 => ?_)
        · skip
          refine lv_iinc (v := nI (k + 1)) (lv' := [(2, .int (nI (k + 1))), (0, .ref (a 0)), (1, .int (nI d))]) F.1 F.2.1 dX8_segmentOf_26 hl (k := 2) rfl (nI_add _ _) (by decide) rfl (fun ls hl => ?_)
          refine lv_goto (tgt := 2) F.1 F.2.1 dX8_segmentOf_29 (by decide) ?_
          exact ih2 (k + 1) (by omega) (fun j hj => by rcases Nat.lt_succ_iff_lt_or_eq.mp hj with q | q; exact h2 j q; rw [q]; omega) (by omega) _ _ w ls (lv_sub hl [1, 2, 0] rfl)
        · skip
          refine lv_iload_n F.1 F.2.1 dX8_segmentOf_24 rfl (lv_at hl 2 rfl) ?_
          exact r_ireturn F w dX8_segmentOf_25 (⟨by rw [sg_at c10 h2 (by omega), if_pos c10], rfl⟩)
  exact L2 _ 0 (Nat.zero_le _) (fun j hj => absurd hj (Nat.not_lt_zero _)) (Nat.lt_succ_self _) _ _ w ls (lv_sub hl [1, 2, 0] rfl)
theorem c_X8_segmentOfIn (l : Launch) (G : KG) (a P Sp Hs T N : Nat → Nat) (sc tl tp fa fr fn : Nat) (d : Nat) (hd : d < 2 ^ 31) (hS : SegOk P) (h : d < top P) : MetI l yX8_segmentOf wsX8_segmentOf 2 G (mW G a P Sp Hs sc T tl tp fa fr fn N) [.ref (a 0), .int (nI d)] (fun r v => r = nI (sg (lnP P) d (P 8)) ∧ v = mW G a P Sp Hs sc T tl tp fa fr fn N) := by
  have h1 := c_X8_segmentOf l G a P Sp Hs T N sc tl tp fa fr fn d hd hS
  rw [if_pos (sg_lt h).1] at h1
  exact h1
set_option maxRecDepth 100000 in
set_option maxHeartbeats 4000000 in
theorem c_X8_water (l : Launch) (G : KG) (a P Sp Hs T N : Nat → Nat) (sc tl tp fa fr fn : Nat) (d : Nat) (hd : d < 2 ^ 31) (hS : SegOk P) : MetI l yX8_water wsX8_water 1 G (mW G a P Sp Hs sc T tl tp fa fr fn N) [.ref (a 0), .int (nI d)] (fun r v => r = nI (wat (lnP P) (dnP P) d (P 8)) ∧ v = mW G a P Sp Hs sc T tl tp fa fr fn N) := by
  refine MetI.by (cc := cX8_water) (nL := 5) (ret := some .int) (by decide +kernel) rfl (Nat.le_of_ble_eq_true rfl) ?_
  intro p e s m args below meth c F w ls hl
  have hl : lv_has ls 5 [(0, .ref (a 0)), (1, .int (nI d))] := hl
  have hts := F.ts
  have iX8 : ∀ w ∈ wsX80, w ∈ wsX8_water := by decide +kernel
  have f7 := hts (.fieldLink RX8 7 "CoreMelterModel" "m" "[I") (by decide +kernel)
  have h8 := hS.1
  have hbl : ∀ j, j ≤ P 8 → low (lnP P) j ≤ 6000 := fun j hj => Nat.le_trans (low_mono _ hj) hS.top_le
  refine lv_iconst (v := nI 0) F.1 F.2.1 dX8_water_0 (by decide) ?_
  refine lv_istore_n (lv' := [(2, .int (nI 0)), (0, .ref (a 0)), (1, .int (nI d))]) F.1 F.2.1 dX8_water_1 rfl hl (by decide) rfl (fun ls hl => ?_)
  refine lv_iconst (v := nI 0) F.1 F.2.1 dX8_water_2 (by decide) ?_
  refine lv_istore_n (lv' := [(3, .int (nI 0)), (2, .int (nI 0)), (0, .ref (a 0)), (1, .int (nI d))]) F.1 F.2.1 dX8_water_3 rfl hl (by decide) rfl (fun ls hl => ?_)
  refine lv_iconst (v := nI 0) F.1 F.2.1 dX8_water_4 (by decide) ?_
  refine lv_istore (lv' := [(4, .int (nI 0)), (3, .int (nI 0)), (2, .int (nI 0)), (0, .ref (a 0)), (1, .int (nI d))]) F.1 F.2.1 dX8_water_5 hl (by decide) rfl (fun ls hl => ?_)
  have L7 : ∀ n : Nat, ∀ (k : Nat), (k ≤ P 8) → P 8 - k < n → ∀ (H : Heap) (locs : List Loc), Wd G s (va_A (mW G a P Sp Hs sc T tl tp fa fr fn N) s.heap.size) (mW G a P Sp Hs sc T tl tp fa fr fn N) H locs → ∀ ls : Array Slot, lv_has ls 5 [(0, .ref (a 0)), (1, .int (nI d)), (2, .int (nI (wat (lnP P) (dnP P) d k))), (3, .int (nI (low (lnP P) k))), (4, .int (nI k))] → W p l e (rmK 1 0 0) s m args below meth c H locs 0 0 (MQ below (QI G (mW G a P Sp Hs sc T tl tp fa fr fn N) s.heap.size (fun r v => r = nI (wat (lnP P) (dnP P) d (P 8)) ∧ v = mW G a P Sp Hs sc T tl tp fa fr fn N)) args s 0 0 (va_A (mW G a P Sp Hs sc T tl tp fa fr fn N) s.heap.size)) (F0 m 7 ls []) := by
    intro n
    induction n with
    | zero => intro k h1 hm; exact absurd hm (Nat.not_lt_zero _)
    | succ n ih7 =>
      intro k h1 hm7 H locs w ls hl
      refine lv_iload F.1 F.2.1 dX8_water_7 (lv_at hl 4 rfl) ?_
      refine lv_aload_n F.1 F.2.1 dX8_water_9 rfl (lv_at hl 0 rfl) ?_
      refine r_get F w 0 0 iX8 f7 rfl rfl rfl (by decide) rfl dX8_water_10 ?_
      refine lv_bipush (v := nI 8) F.1 F.2.1 dX8_water_13 (by decide) ?_
      refine r_iald F w 1 rfl (by omega) (by decide) dX8_water_15 ?_
      refine r_cge (tgt := 64) F dX8_water_16 (by decide) (by omega) (by omega) (fun c16 => ?_) (fun c16 => ?_)
      · skip
        refine lv_iload_n F.1 F.2.1 dX8_water_64 rfl (lv_at hl 2 rfl) ?_
        exact r_ireturn F w dX8_water_65 (⟨congrArg nI (by first | (rw [show k = P 8 by omega]) | (rw [wat_more (n := k) (k := P 8) (lnP P) (dnP P) (by omega) h1])), rfl⟩)
      · skip
        refine lv_iload_n F.1 F.2.1 dX8_water_19 rfl (lv_at hl 3 rfl) ?_
        refine lv_iload_n F.1 F.2.1 dX8_water_20 rfl (lv_at hl 1 rfl) ?_
        refine r_cge (tgt := 64) F dX8_water_21 (by decide) (by have := hbl k h1; omega) (by omega) (fun c21 => ?_) (fun c21 => ?_)
        · skip
          refine lv_iload_n F.1 F.2.1 dX8_water_64 rfl (lv_at hl 2 rfl) ?_
          exact r_ireturn F w dX8_water_65 (⟨congrArg nI (by first | (rw [show k = P 8 by omega]) | (rw [wat_more (n := k) (k := P 8) (lnP P) (dnP P) (by omega) h1])), rfl⟩)
        · skip
          refine lv_iload_n F.1 F.2.1 dX8_water_24 rfl (lv_at hl 2 rfl) ?_
          refine lv_aload_n F.1 F.2.1 dX8_water_25 rfl (lv_at hl 0 rfl) ?_
          refine lv_iload F.1 F.2.1 dX8_water_26 (lv_at hl 4 rfl) ?_
          refine lv_iconst (v := nI 1) F.1 F.2.1 dX8_water_28 (by decide) ?_
          refine r_callVI (rest := [.int (nI (wat (lnP P) (dnP P) d k))]) F w (c_X8_of l G a P Sp Hs T N sc tl tp fa fr fn k 1 (by omega)) gX8_water_X8_of [0, 1, 2, 3, 4, 5] [] (nA0 := 2) rfl (by decide +kernel) rfl ⟨Nat.le_of_ble_eq_true rfl, Nat.le_of_ble_eq_true rfl⟩ ⟨Nat.le_of_ble_eq_true rfl, Nat.le_of_ble_eq_true rfl⟩ rfl rfl rfl rfl rfl rfl rfl hl rfl (Nat.le_of_ble_eq_true rfl) dX8_water_29 (fun r_29 w1 H locs hp w => ?_)
          obtain ⟨rfl, rfl⟩ := hp
          have w := w.sub (ws' := mW G a P Sp Hs sc T tl tp fa fr fn N) [0, 1, 2, 3, 4, 5] (by decide) rfl
          refine lv_iload_n F.1 F.2.1 dX8_water_32 rfl (lv_at hl 1 rfl) ?_
          refine lv_iload_n F.1 F.2.1 dX8_water_33 rfl (lv_at hl 3 rfl) ?_
          refine r_isub F dX8_water_34 (by omega) ?_
          refine r_callS0 (rest := [.int (nI (wat (lnP P) (dnP P) d k))]) F w (c_X8_lesser l G (P (46 + 4 * k + 1)) (d - (low (lnP P) k)) (by have := (hS.2 k c16).2.1; omega) (by omega)) gX8_water_X8_lesser (nA0 := 2) rfl (by decide +kernel) rfl ⟨Nat.le_of_ble_eq_true rfl, Nat.le_of_ble_eq_true rfl⟩ ⟨Nat.le_of_ble_eq_true rfl, Nat.le_of_ble_eq_true rfl⟩ hl rfl (Nat.le_of_ble_eq_true rfl) dX8_water_35 (fun r_35 w1 H locs hp w => ?_)
          obtain ⟨rfl, rfl⟩ := hp
          refine lv_aload_n F.1 F.2.1 dX8_water_38 rfl (lv_at hl 0 rfl) ?_
          refine lv_iload F.1 F.2.1 dX8_water_39 (lv_at hl 4 rfl) ?_
          refine lv_iconst (v := nI 2) F.1 F.2.1 dX8_water_41 (by decide) ?_
          refine r_callVI (rest := [.int (nI (min (P (46 + 4 * k + 1)) (d - (low (lnP P) k)))), .int (nI (wat (lnP P) (dnP P) d k))]) F w (c_X8_of l G a P Sp Hs T N sc tl tp fa fr fn k 2 (by omega)) gX8_water_X8_of [0, 1, 2, 3, 4, 5] [] (nA0 := 2) rfl (by decide +kernel) rfl ⟨Nat.le_of_ble_eq_true rfl, Nat.le_of_ble_eq_true rfl⟩ ⟨Nat.le_of_ble_eq_true rfl, Nat.le_of_ble_eq_true rfl⟩ rfl rfl rfl rfl rfl rfl rfl hl rfl (Nat.le_of_ble_eq_true rfl) dX8_water_42 (fun r_42 w1 H locs hp w => ?_)
          obtain ⟨rfl, rfl⟩ := hp
          have w := w.sub (ws' := mW G a P Sp Hs sc T tl tp fa fr fn N) [0, 1, 2, 3, 4, 5] (by decide) rfl
          refine r_imul F dX8_water_45 ?_
          refine r_iadd F dX8_water_46 ?_
          refine lv_istore_n (lv' := [(2, .int (nI ((wat (lnP P) (dnP P) d k) + ((min (P (46 + 4 * k + 1)) (d - (low (lnP P) k))) * (P (46 + 4 * k + 2)))))), (0, .ref (a 0)), (1, .int (nI d)), (3, .int (nI (low (lnP P) k))), (4, .int (nI k))]) F.1 F.2.1 dX8_water_47 rfl hl (by decide) rfl (fun ls hl => ?_)
          refine lv_iload_n F.1 F.2.1 dX8_water_48 rfl (lv_at hl 3 rfl) ?_
          refine lv_aload_n F.1 F.2.1 dX8_water_49 rfl (lv_at hl 1 rfl) ?_
          refine lv_iload F.1 F.2.1 dX8_water_50 (lv_at hl 4 rfl) ?_
          refine lv_iconst (v := nI 1) F.1 F.2.1 dX8_water_52 (by decide) ?_
          refine r_callVI (rest := [.int (nI (low (lnP P) k))]) F w (c_X8_of l G a P Sp Hs T N sc tl tp fa fr fn k 1 (by omega)) gX8_water_X8_of [0, 1, 2, 3, 4, 5] [] (nA0 := 2) rfl (by decide +kernel) rfl ⟨Nat.le_of_ble_eq_true rfl, Nat.le_of_ble_eq_true rfl⟩ ⟨Nat.le_of_ble_eq_true rfl, Nat.le_of_ble_eq_true rfl⟩ rfl rfl rfl rfl rfl rfl rfl hl rfl (Nat.le_of_ble_eq_true rfl) dX8_water_53 (fun r_53 w1 H locs hp w => ?_)
          obtain ⟨rfl, rfl⟩ := hp
          have w := w.sub (ws' := mW G a P Sp Hs sc T tl tp fa fr fn N) [0, 1, 2, 3, 4, 5] (by decide) rfl
          refine r_iadd F dX8_water_56 ?_
          refine lv_istore_n (lv' := [(3, .int (nI ((low (lnP P) k) + (P (46 + 4 * k + 1))))), (2, .int (nI ((wat (lnP P) (dnP P) d k) + ((min (P (46 + 4 * k + 1)) (d - (low (lnP P) k))) * (P (46 + 4 * k + 2)))))), (0, .ref (a 0)), (1, .int (nI d)), (4, .int (nI k))]) F.1 F.2.1 dX8_water_57 rfl hl (by decide) rfl (fun ls hl => ?_)
          refine lv_iinc (v := nI (k + 1)) (lv' := [(4, .int (nI (k + 1))), (3, .int (nI ((low (lnP P) k) + (P (46 + 4 * k + 1))))), (2, .int (nI ((wat (lnP P) (dnP P) d k) + ((min (P (46 + 4 * k + 1)) (d - (low (lnP P) k))) * (P (46 + 4 * k + 2)))))), (0, .ref (a 0)), (1, .int (nI d))]) F.1 F.2.1 dX8_water_58 hl (k := 4) rfl (nI_add _ _) (by decide) rfl (fun ls hl => ?_)
          refine lv_goto (tgt := 7) F.1 F.2.1 dX8_water_61 (by decide) ?_
          exact ih7 (k + 1) (by omega) (by omega) _ _ w ls (lv_sub hl [3, 4, 2, 1, 0] rfl)
  exact L7 _ 0 (Nat.zero_le _) (Nat.lt_succ_self _) _ _ w ls (lv_sub hl [3, 4, 2, 1, 0] rfl)
set_option maxRecDepth 100000 in
set_option maxHeartbeats 4000000 in
theorem c_X8_unit (l : Launch) (G : KG) (a P Sp Hs T N : Nat → Nat) (sc tl tp fa fr fn : Nat) (i : Nat) (hi : i < P 8) (hS : SegOk P) (h1 : P 1 ≤ 200) (h10 : P 1 * P (46 + 4 * i + 2) / 100 ≤ P 10) : MetV l yX8_unit wsX8_unit 1 0 0 G (mW G a P Sp Hs sc T tl tp fa fr fn N) [.ref (a 0), .int (nI i)] (fun v => v = mW G a (unitF P i) Sp Hs sc T tl tp fa fr fn N) := by
  refine MetV.by (cc := cX8_unit) (nL := 5) (ret := none) (by decide +kernel) rfl (Nat.le_of_ble_eq_true rfl) ?_
  intro p e s m args below meth c F hname w ls hl
  have hl : lv_has ls 5 [(0, .ref (a 0)), (1, .int (nI i))] := hl
  have hts := F.ts
  have iX8 : ∀ w ∈ wsX80, w ∈ wsX8_unit := by decide +kernel
  have f7 := hts (.fieldLink RX8 7 "CoreMelterModel" "m" "[I") (by decide +kernel)
  have h8 := hS.1
  obtain ⟨q1, q2, q3⟩ := hS.2 i hi
  have hdn : P (46 + 4 * i + 2) ≤ 92 := by omega
  have hmo : P (46 + 4 * i + 3) ≤ 100 := by omega
  have hkd : P (46 + 4 * i) ≤ 2 := by omega
  have hm1 : P (46 + 4 * i + 2) * P (46 + 4 * i + 3) ≤ 92 * 100 := Nat.mul_le_mul hdn hmo
  have hm2 : P 1 * P (46 + 4 * i + 2) ≤ 200 * 92 := Nat.mul_le_mul h1 hdn
  refine lv_aload_n F.1 F.2.1 dX8_unit_0 rfl (lv_at hl 0 rfl) ?_
  refine lv_iload_n F.1 F.2.1 dX8_unit_1 rfl (lv_at hl 1 rfl) ?_
  refine lv_iconst (v := nI 2) F.1 F.2.1 dX8_unit_2 (by decide) ?_
  refine r_callVI (rest := []) F w (c_X8_of l G a P Sp Hs T N sc tl tp fa fr fn i 2 (by omega)) gX8_unit_X8_of [0, 1, 2, 3, 4, 5] [] (nA0 := 2) rfl (by decide +kernel) rfl ⟨Nat.le_of_ble_eq_true rfl, Nat.le_of_ble_eq_true rfl⟩ ⟨Nat.le_of_ble_eq_true rfl, Nat.le_of_ble_eq_true rfl⟩ rfl rfl rfl rfl rfl rfl rfl hl rfl (Nat.le_of_ble_eq_true rfl) dX8_unit_3 (fun r_3 w1 H locs hp w => ?_)
  obtain ⟨rfl, rfl⟩ := hp
  have w := w.sub (ws' := mW G a P Sp Hs sc T tl tp fa fr fn N) [0, 1, 2, 3, 4, 5] (by decide) rfl
  refine lv_istore_n (lv' := [(2, .int (nI (P (46 + 4 * i + 2)))), (0, .ref (a 0)), (1, .int (nI i))]) F.1 F.2.1 dX8_unit_6 rfl hl (by decide) rfl (fun ls hl => ?_)
  have L31 :  ∀ (H : Heap) (locs : List Loc), Wd G s (va_A (mW G a P Sp Hs sc T tl tp fa fr fn N) s.heap.size) (mW G a P Sp Hs sc T tl tp fa fr fn N) H locs → ∀ ls : Array Slot, lv_has ls 5 [(2, .int (nI (P (46 + 4 * i + 2)))), (0, .ref (a 0)), (1, .int (nI i))] → W p l e (rmK 1 0 0) s m args below meth c H locs 0 0 (MQ below (QV G (mW G a P Sp Hs sc T tl tp fa fr fn N) s.heap.size (fun v => v = mW G a (unitF P i) Sp Hs sc T tl tp fa fr fn N)) args s 0 0 (va_A (mW G a P Sp Hs sc T tl tp fa fr fn N) s.heap.size)) (F0 m 31 ls [.int (nI (gasU P i))]) := by
    intro  H locs w ls hl
    refine lv_istore_n (lv' := [(3, .int (nI (gasU P i))), (2, .int (nI (P (46 + 4 * i + 2)))), (0, .ref (a 0)), (1, .int (nI i))]) F.1 F.2.1 dX8_unit_31 rfl hl (by decide) rfl (fun ls hl => ?_)
    have L52 :  ∀ (H : Heap) (locs : List Loc), Wd G s (va_A (mW G a P Sp Hs sc T tl tp fa fr fn N) s.heap.size) (mW G a P Sp Hs sc T tl tp fa fr fn N) H locs → ∀ ls : Array Slot, lv_has ls 5 [(3, .int (nI (gasU P i))), (2, .int (nI (P (46 + 4 * i + 2)))), (0, .ref (a 0)), (1, .int (nI i))] → W p l e (rmK 1 0 0) s m args below meth c H locs 0 0 (MQ below (QV G (mW G a P Sp Hs sc T tl tp fa fr fn N) s.heap.size (fun v => v = mW G a (unitF P i) Sp Hs sc T tl tp fa fr fn N)) args s 0 0 (va_A (mW G a P Sp Hs sc T tl tp fa fr fn N) s.heap.size)) (F0 m 52 ls [.int (nI (dirtU P i))]) := by
      intro  H locs w ls hl
      refine lv_istore (lv' := [(4, .int (nI (dirtU P i))), (3, .int (nI (gasU P i))), (2, .int (nI (P (46 + 4 * i + 2)))), (0, .ref (a 0)), (1, .int (nI i))]) F.1 F.2.1 dX8_unit_52 hl (by decide) rfl (fun ls hl => ?_)
      refine lv_aload_n F.1 F.2.1 dX8_unit_54 rfl (lv_at hl 3 rfl) ?_
      refine r_get F w 0 0 iX8 f7 rfl rfl rfl (by decide) rfl dX8_unit_55 ?_
      refine lv_bipush (v := nI 10) F.1 F.2.1 dX8_unit_58 (by decide) ?_
      refine lv_dup2_11 F.1 F.2.1 dX8_unit_60 rfl rfl ?_
      refine r_iald F w 1 rfl (by omega) (by decide) dX8_unit_61 ?_
      refine lv_aload_n F.1 F.2.1 dX8_unit_62 rfl (lv_at hl 3 rfl) ?_
      refine r_get F w 0 0 iX8 f7 rfl rfl rfl (by decide) rfl dX8_unit_63 ?_
      refine lv_iconst (v := nI 1) F.1 F.2.1 dX8_unit_66 (by decide) ?_
      refine r_iald F w 1 rfl (by omega) (by decide) dX8_unit_67 ?_
      refine lv_iload_n F.1 F.2.1 dX8_unit_68 rfl (lv_at hl 2 rfl) ?_
      refine r_imul F dX8_unit_69 ?_
      refine lv_bipush (v := nI 100) F.1 F.2.1 dX8_unit_70 (by decide) ?_
      refine r_idiv F dX8_unit_72 (by omega) (by omega) (by omega) ?_
      refine r_isub F dX8_unit_73 (by omega) ?_
      refine r_iast (ws' := mW G a (up P 10 ((P 10) - (((P 1) * (P (46 + 4 * i + 2))) / 100))) Sp Hs sc T tl tp fa fr fn N) F w 1 rfl (by omega) (by decide) dX8_unit_74 rfl (fun H locs w => ?_)
      refine lv_aload_n F.1 F.2.1 dX8_unit_75 rfl (lv_at hl 3 rfl) ?_
      refine r_get F w 0 0 iX8 f7 rfl rfl rfl (by decide) rfl dX8_unit_76 ?_
      refine lv_bipush (v := nI 9) F.1 F.2.1 dX8_unit_79 (by decide) ?_
      refine lv_dup2_11 F.1 F.2.1 dX8_unit_81 rfl rfl ?_
      refine r_iald F w 1 rfl (by omega) (by decide) dX8_unit_82 ?_
      refine r_to (y := nI (P 9)) (congrArg nI (up_n _ _ (by decide))) ?_
      refine lv_iconst (v := nI 1) F.1 F.2.1 dX8_unit_83 (by decide) ?_
      refine r_iadd F dX8_unit_84 ?_
      refine r_iast (ws' := mW G a (up (up P 10 ((P 10) - (((P 1) * (P (46 + 4 * i + 2))) / 100))) 9 ((P 9) + 1)) Sp Hs sc T tl tp fa fr fn N) F w 1 rfl (by omega) (by decide) dX8_unit_85 rfl (fun H locs w => ?_)
      refine lv_aload_n F.1 F.2.1 dX8_unit_86 rfl (lv_at hl 3 rfl) ?_
      refine r_get F w 0 0 iX8 f7 rfl rfl rfl (by decide) rfl dX8_unit_87 ?_
      refine lv_bipush (v := nI 11) F.1 F.2.1 dX8_unit_90 (by decide) ?_
      refine lv_dup2_11 F.1 F.2.1 dX8_unit_92 rfl rfl ?_
      refine r_iald F w 1 rfl (by omega) (by decide) dX8_unit_93 ?_
      refine r_to (y := nI (P 11)) (congrArg nI ((up_n _ _ (by decide)).trans (up_n _ _ (by decide)))) ?_
      refine lv_iload_n F.1 F.2.1 dX8_unit_94 rfl (lv_at hl 2 rfl) ?_
      refine r_iadd F dX8_unit_95 ?_
      refine r_iast (ws' := mW G a (up (up (up P 10 ((P 10) - (((P 1) * (P (46 + 4 * i + 2))) / 100))) 9 ((P 9) + 1)) 11 ((P 11) + (P (46 + 4 * i + 2)))) Sp Hs sc T tl tp fa fr fn N) F w 1 rfl (by omega) (by decide) dX8_unit_96 rfl (fun H locs w => ?_)
      refine lv_aload_n F.1 F.2.1 dX8_unit_97 rfl (lv_at hl 3 rfl) ?_
      refine r_get F w 0 0 iX8 f7 rfl rfl rfl (by decide) rfl dX8_unit_98 ?_
      refine lv_bipush (v := nI 12) F.1 F.2.1 dX8_unit_101 (by decide) ?_
      refine lv_dup2_11 F.1 F.2.1 dX8_unit_103 rfl rfl ?_
      refine r_iald F w 1 rfl (by omega) (by decide) dX8_unit_104 ?_
      refine r_to (y := nI (P 12)) (congrArg nI ((up_n _ _ (by decide)).trans ((up_n _ _ (by decide)).trans (up_n _ _ (by decide))))) ?_
      refine lv_iload_n F.1 F.2.1 dX8_unit_105 rfl (lv_at hl 1 rfl) ?_
      refine r_iadd F dX8_unit_106 ?_
      refine r_iast (ws' := mW G a (up (up (up (up P 10 ((P 10) - (((P 1) * (P (46 + 4 * i + 2))) / 100))) 9 ((P 9) + 1)) 11 ((P 11) + (P (46 + 4 * i + 2)))) 12 ((P 12) + (gasU P i))) Sp Hs sc T tl tp fa fr fn N) F w 1 rfl (by omega) (by decide) dX8_unit_107 rfl (fun H locs w => ?_)
      refine lv_aload_n F.1 F.2.1 dX8_unit_108 rfl (lv_at hl 3 rfl) ?_
      refine r_get F w 0 0 iX8 f7 rfl rfl rfl (by decide) rfl dX8_unit_109 ?_
      refine lv_bipush (v := nI 13) F.1 F.2.1 dX8_unit_112 (by decide) ?_
      refine lv_dup2_11 F.1 F.2.1 dX8_unit_114 rfl rfl ?_
      refine r_iald F w 1 rfl (by omega) (by decide) dX8_unit_115 ?_
      refine r_to (y := nI (P 13)) (congrArg nI ((up_n _ _ (by decide)).trans ((up_n _ _ (by decide)).trans ((up_n _ _ (by decide)).trans (up_n _ _ (by decide)))))) ?_
      refine lv_iload F.1 F.2.1 dX8_unit_116 (lv_at hl 0 rfl) ?_
      refine r_iadd F dX8_unit_118 ?_
      refine r_iast (ws' := mW G a (up (up (up (up (up P 10 ((P 10) - (((P 1) * (P (46 + 4 * i + 2))) / 100))) 9 ((P 9) + 1)) 11 ((P 11) + (P (46 + 4 * i + 2)))) 12 ((P 12) + (gasU P i))) 13 ((P 13) + (dirtU P i))) Sp Hs sc T tl tp fa fr fn N) F w 1 rfl (by omega) (by decide) dX8_unit_119 rfl (fun H locs w => ?_)
      refine lv_aload_n F.1 F.2.1 dX8_unit_120 rfl (lv_at hl 3 rfl) ?_
      refine r_get F w 0 0 iX8 f7 rfl rfl rfl (by decide) rfl dX8_unit_121 ?_
      refine lv_bipush (v := nI 19) F.1 F.2.1 dX8_unit_124 (by decide) ?_
      refine lv_dup2_11 F.1 F.2.1 dX8_unit_126 rfl rfl ?_
      refine r_iald F w 1 rfl (by omega) (by decide) dX8_unit_127 ?_
      refine r_to (y := nI (P 19)) (congrArg nI ((up_n _ _ (by decide)).trans ((up_n _ _ (by decide)).trans ((up_n _ _ (by decide)).trans ((up_n _ _ (by decide)).trans (up_n _ _ (by decide))))))) ?_
      refine lv_iload_n F.1 F.2.1 dX8_unit_128 rfl (lv_at hl 2 rfl) ?_
      refine r_iadd F dX8_unit_129 ?_
      refine r_iast (ws' := mW G a (up (up (up (up (up (up P 10 ((P 10) - (((P 1) * (P (46 + 4 * i + 2))) / 100))) 9 ((P 9) + 1)) 11 ((P 11) + (P (46 + 4 * i + 2)))) 12 ((P 12) + (gasU P i))) 13 ((P 13) + (dirtU P i))) 19 ((P 19) + (P (46 + 4 * i + 2)))) Sp Hs sc T tl tp fa fr fn N) F w 1 rfl (by omega) (by decide) dX8_unit_130 rfl (fun H locs w => ?_)
      refine lv_aload_n F.1 F.2.1 dX8_unit_131 rfl (lv_at hl 3 rfl) ?_
      refine r_get F w 0 0 iX8 f7 rfl rfl rfl (by decide) rfl dX8_unit_132 ?_
      refine lv_bipush (v := nI 22) F.1 F.2.1 dX8_unit_135 (by decide) ?_
      refine lv_dup2_11 F.1 F.2.1 dX8_unit_137 rfl rfl ?_
      refine r_iald F w 1 rfl (by omega) (by decide) dX8_unit_138 ?_
      refine r_to (y := nI (P 22)) (congrArg nI ((up_n _ _ (by decide)).trans ((up_n _ _ (by decide)).trans ((up_n _ _ (by decide)).trans ((up_n _ _ (by decide)).trans ((up_n _ _ (by decide)).trans (up_n _ _ (by decide)))))))) ?_
      refine lv_iload_n F.1 F.2.1 dX8_unit_139 rfl (lv_at hl 1 rfl) ?_
      refine r_iadd F dX8_unit_140 ?_
      refine r_iast (ws' := mW G a (up (up (up (up (up (up (up P 10 ((P 10) - (((P 1) * (P (46 + 4 * i + 2))) / 100))) 9 ((P 9) + 1)) 11 ((P 11) + (P (46 + 4 * i + 2)))) 12 ((P 12) + (gasU P i))) 13 ((P 13) + (dirtU P i))) 19 ((P 19) + (P (46 + 4 * i + 2)))) 22 ((P 22) + (gasU P i))) Sp Hs sc T tl tp fa fr fn N) F w 1 rfl (by omega) (by decide) dX8_unit_141 rfl (fun H locs w => ?_)
      refine lv_aload_n F.1 F.2.1 dX8_unit_142 rfl (lv_at hl 3 rfl) ?_
      refine r_get F w 0 0 iX8 f7 rfl rfl rfl (by decide) rfl dX8_unit_143 ?_
      refine lv_bipush (v := nI 24) F.1 F.2.1 dX8_unit_146 (by decide) ?_
      refine lv_dup2_11 F.1 F.2.1 dX8_unit_148 rfl rfl ?_
      refine r_iald F w 1 rfl (by omega) (by decide) dX8_unit_149 ?_
      refine r_to (y := nI (P 24)) (congrArg nI ((up_n _ _ (by decide)).trans ((up_n _ _ (by decide)).trans ((up_n _ _ (by decide)).trans ((up_n _ _ (by decide)).trans ((up_n _ _ (by decide)).trans ((up_n _ _ (by decide)).trans (up_n _ _ (by decide))))))))) ?_
      refine lv_iload F.1 F.2.1 dX8_unit_150 (lv_at hl 0 rfl) ?_
      refine r_iadd F dX8_unit_152 ?_
      refine r_iast (ws' := mW G a (up (up (up (up (up (up (up (up P 10 ((P 10) - (((P 1) * (P (46 + 4 * i + 2))) / 100))) 9 ((P 9) + 1)) 11 ((P 11) + (P (46 + 4 * i + 2)))) 12 ((P 12) + (gasU P i))) 13 ((P 13) + (dirtU P i))) 19 ((P 19) + (P (46 + 4 * i + 2)))) 22 ((P 22) + (gasU P i))) 24 ((P 24) + (dirtU P i))) Sp Hs sc T tl tp fa fr fn N) F w 1 rfl (by omega) (by decide) dX8_unit_153 rfl (fun H locs w => ?_)
      exact r_return F w dX8_unit_154 (rfl)
    refine lv_aload_n F.1 F.2.1 dX8_unit_32 rfl (lv_at hl 2 rfl) ?_
    refine lv_iload_n F.1 F.2.1 dX8_unit_33 rfl (lv_at hl 3 rfl) ?_
    refine lv_iconst (v := nI 0) F.1 F.2.1 dX8_unit_34 (by decide) ?_
    refine r_callVI (rest := []) F w (c_X8_of l G a P Sp Hs T N sc tl tp fa fr fn i 0 (by omega)) gX8_unit_X8_of [0, 1, 2, 3, 4, 5] [] (nA0 := 2) rfl (by decide +kernel) rfl ⟨Nat.le_of_ble_eq_true rfl, Nat.le_of_ble_eq_true rfl⟩ ⟨Nat.le_of_ble_eq_true rfl, Nat.le_of_ble_eq_true rfl⟩ rfl rfl rfl rfl rfl rfl rfl hl rfl (Nat.le_of_ble_eq_true rfl) dX8_unit_35 (fun r_35 w1 H locs hp w => ?_)
    obtain ⟨rfl, rfl⟩ := hp
    have w := w.sub (ws' := mW G a P Sp Hs sc T tl tp fa fr fn N) [0, 1, 2, 3, 4, 5] (by decide) rfl
    refine r_to (y := (nI (P (46 + 4 * i)))) (rfl) ?_
    refine lv_iconst (v := nI 2) F.1 F.2.1 dX8_unit_38 (by decide) ?_
    refine r_cne (tgt := 51) F dX8_unit_39 (by decide) (by omega) (by omega) (fun c39 => ?_) (fun c39 => ?_)
    · skip
      refine lv_iconst (v := nI 0) F.1 F.2.1 dX8_unit_51 (by decide) ?_
      refine r_to (y := (nI (dirtU P i))) (congrArg nI (by unfold dirtU; first | rw [if_pos c39] | rw [if_neg c39])) ?_
      exact L52  _ _ w ls (lv_sub hl [0, 1, 2, 3] rfl)
    · skip
      refine lv_aload_n F.1 F.2.1 dX8_unit_42 rfl (lv_at hl 2 rfl) ?_
      refine lv_iload_n F.1 F.2.1 dX8_unit_43 rfl (lv_at hl 3 rfl) ?_
      refine lv_iconst (v := nI 3) F.1 F.2.1 dX8_unit_44 (by decide) ?_
      refine r_callVI (rest := []) F w (c_X8_of l G a P Sp Hs T N sc tl tp fa fr fn i 3 (by omega)) gX8_unit_X8_of [0, 1, 2, 3, 4, 5] [] (nA0 := 2) rfl (by decide +kernel) rfl ⟨Nat.le_of_ble_eq_true rfl, Nat.le_of_ble_eq_true rfl⟩ ⟨Nat.le_of_ble_eq_true rfl, Nat.le_of_ble_eq_true rfl⟩ rfl rfl rfl rfl rfl rfl rfl hl rfl (Nat.le_of_ble_eq_true rfl) dX8_unit_45 (fun r_45 w1 H locs hp w => ?_)
      obtain ⟨rfl, rfl⟩ := hp
      have w := w.sub (ws' := mW G a P Sp Hs sc T tl tp fa fr fn N) [0, 1, 2, 3, 4, 5] (by decide) rfl
      refine lv_goto (tgt := 52) F.1 F.2.1 dX8_unit_48 (by decide) ?_
      refine r_to (y := (nI (dirtU P i))) (congrArg nI (by unfold dirtU; first | rw [if_pos c39] | rw [if_neg c39])) ?_
      exact L52  _ _ w ls (lv_sub hl [0, 1, 2, 3] rfl)
  refine lv_aload_n F.1 F.2.1 dX8_unit_7 rfl (lv_at hl 1 rfl) ?_
  refine lv_iload_n F.1 F.2.1 dX8_unit_8 rfl (lv_at hl 2 rfl) ?_
  refine lv_iconst (v := nI 0) F.1 F.2.1 dX8_unit_9 (by decide) ?_
  refine r_callVI (rest := []) F w (c_X8_of l G a P Sp Hs T N sc tl tp fa fr fn i 0 (by omega)) gX8_unit_X8_of [0, 1, 2, 3, 4, 5] [] (nA0 := 2) rfl (by decide +kernel) rfl ⟨Nat.le_of_ble_eq_true rfl, Nat.le_of_ble_eq_true rfl⟩ ⟨Nat.le_of_ble_eq_true rfl, Nat.le_of_ble_eq_true rfl⟩ rfl rfl rfl rfl rfl rfl rfl hl rfl (Nat.le_of_ble_eq_true rfl) dX8_unit_10 (fun r_10 w1 H locs hp w => ?_)
  obtain ⟨rfl, rfl⟩ := hp
  have w := w.sub (ws' := mW G a P Sp Hs sc T tl tp fa fr fn N) [0, 1, 2, 3, 4, 5] (by decide) rfl
  refine r_to (y := (nI (P (46 + 4 * i)))) (rfl) ?_
  refine r_zne (tgt := 30) F dX8_unit_13 (by decide) (by omega) (fun c13 => ?_) (fun c13 => ?_)
  · skip
    refine lv_iconst (v := nI 0) F.1 F.2.1 dX8_unit_30 (by decide) ?_
    refine r_to (y := (nI (gasU P i))) (congrArg nI (by unfold gasU; first | rw [if_pos c13] | rw [if_neg c13])) ?_
    exact L31  _ _ w ls (lv_sub hl [0, 1, 2] rfl)
  · skip
    refine lv_iload_n F.1 F.2.1 dX8_unit_16 rfl (lv_at hl 0 rfl) ?_
    refine lv_aload_n F.1 F.2.1 dX8_unit_17 rfl (lv_at hl 1 rfl) ?_
    refine lv_iload_n F.1 F.2.1 dX8_unit_18 rfl (lv_at hl 2 rfl) ?_
    refine lv_iconst (v := nI 3) F.1 F.2.1 dX8_unit_19 (by decide) ?_
    refine r_callVI (rest := [.int (nI (P (46 + 4 * i + 2)))]) F w (c_X8_of l G a P Sp Hs T N sc tl tp fa fr fn i 3 (by omega)) gX8_unit_X8_of [0, 1, 2, 3, 4, 5] [] (nA0 := 2) rfl (by decide +kernel) rfl ⟨Nat.le_of_ble_eq_true rfl, Nat.le_of_ble_eq_true rfl⟩ ⟨Nat.le_of_ble_eq_true rfl, Nat.le_of_ble_eq_true rfl⟩ rfl rfl rfl rfl rfl rfl rfl hl rfl (Nat.le_of_ble_eq_true rfl) dX8_unit_20 (fun r_20 w1 H locs hp w => ?_)
    obtain ⟨rfl, rfl⟩ := hp
    have w := w.sub (ws' := mW G a P Sp Hs sc T tl tp fa fr fn N) [0, 1, 2, 3, 4, 5] (by decide) rfl
    refine r_imul F dX8_unit_23 ?_
    refine lv_bipush (v := nI 100) F.1 F.2.1 dX8_unit_24 (by decide) ?_
    refine r_idiv F dX8_unit_26 (by omega) (by omega) (by omega) ?_
    refine lv_goto (tgt := 31) F.1 F.2.1 dX8_unit_27 (by decide) ?_
    refine r_to (y := (nI (gasU P i))) (congrArg nI (by unfold gasU; first | rw [if_pos c13] | rw [if_neg c13])) ?_
    exact L31  _ _ w ls (lv_sub hl [0, 1, 2] rfl)
