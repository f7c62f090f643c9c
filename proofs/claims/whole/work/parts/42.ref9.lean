set_option maxRecDepth 100000 in
set_option maxHeartbeats 4000000 in
theorem c_X8_here (l : Launch) (G : KG) (a P Sp Hs T N : Nat → Nat) (sc tl tp fa fr fn : Nat) (hT : TxtOk T) (h1 : tl ≤ 100) (hp : tp < 2 ^ 31) : MetI l yX8_here wsX8_here 0 G (mW G a P Sp Hs sc T tl tp fa fr fn N) [.ref (a 0)] (fun r v => r = nI (chT T tl tp) ∧ v = mW G a P Sp Hs sc T tl tp fa fr fn N) := by
  refine MetI.by (cc := cX8_here) (nL := 1) (ret := some .int) (by decide +kernel) rfl (Nat.le_of_ble_eq_true rfl) ?_
  intro p e s m args below meth c F w ls hl
  have hl : lv_has ls 1 [(0, .ref (a 0))] := hl
  have hts := F.ts
  have iX8 : ∀ w ∈ wsX80, w ∈ wsX8_here := by decide +kernel
  have f19 := hts (.fieldLink RX8 19 "CoreMelterModel" "text" "[I") (by decide +kernel)
  have f113 := hts (.fieldLink RX8 113 "CoreMelterModel" "textLength" "I") (by decide +kernel)
  have f122 := hts (.fieldLink RX8 122 "CoreMelterModel" "at" "I") (by decide +kernel)
  refine lv_aload_n F.1 F.2.1 dX8_here_0 rfl (lv_at hl 0 rfl) ?_
  refine r_get F w 0 6 iX8 f122 rfl rfl rfl (by decide) rfl dX8_here_1 ?_
  refine lv_aload_n F.1 F.2.1 dX8_here_4 rfl (lv_at hl 0 rfl) ?_
  refine r_get F w 0 5 iX8 f113 rfl rfl rfl (by decide) rfl dX8_here_5 ?_
  refine r_cge (tgt := 23) F dX8_here_8 (by decide) (by omega) (by omega) (fun c8 => ?_) (fun c8 => ?_)
  · skip
    refine lv_iconst (v := nI 0) F.1 F.2.1 dX8_here_23 (by decide) ?_
    exact r_ireturn F w dX8_here_24 (⟨congrArg nI (by unfold chT; first | exact (if_pos (by omega)).symm | exact (if_neg (by omega)).symm), rfl⟩)
  · skip
    refine lv_aload_n F.1 F.2.1 dX8_here_11 rfl (lv_at hl 0 rfl) ?_
    refine r_get F w 0 4 iX8 f19 rfl rfl rfl (by decide) rfl dX8_here_12 ?_
    refine lv_aload_n F.1 F.2.1 dX8_here_15 rfl (lv_at hl 0 rfl) ?_
    refine r_get F w 0 6 iX8 f122 rfl rfl rfl (by decide) rfl dX8_here_16 ?_
    refine r_iald F w 4 rfl (by omega) (by decide) dX8_here_19 ?_
    refine lv_goto (tgt := 24) F.1 F.2.1 dX8_here_20 (by decide) ?_
    exact r_ireturn F w dX8_here_24 (⟨congrArg nI (by unfold chT; first | exact (if_pos (by omega)).symm | exact (if_neg (by omega)).symm), rfl⟩)
set_option maxRecDepth 100000 in
set_option maxHeartbeats 4000000 in
theorem c_X8_readNumber (l : Launch) (G : KG) (a P Sp Hs T N : Nat → Nat) (sc tl tp fa fr fn : Nat) (hT : TxtOk T) (h1 : tl ≤ 100) (hp : tp ≤ 100) (i : Nat) (hi : i < 3) : MetI l yX8_readNumber wsX8_readNumber 1 G (mW G a P Sp Hs sc T tl tp fa fr fn N) [.ref (a 0), .int (nI i)] (fun r v => r = yn (chT T tl tp = 32 ∧ 48 ≤ chT T tl (tp + 1) ∧ chT T tl (tp + 1) ≤ 57) ∧ ∃ (t2 : Nat) (N2 : Nat → Nat), v = mW G a P Sp Hs sc T tl t2 fa fr fn N2 ∧ (numOk T tl tp 0 → t2 = ps T tl tp 1 ∧ N2 = up N i (numV T tl tp 0))) := by
  refine MetI.by (cc := cX8_readNumber) (nL := 4) (ret := some .boolean) (by decide +kernel) rfl (Nat.le_of_ble_eq_true rfl) ?_
  intro p e s m args below meth c F w ls hl
  have hl : lv_has ls 4 [(0, .ref (a 0)), (1, .int (nI i))] := hl
  have hts := F.ts
  have iX8 : ∀ w ∈ wsX80, w ∈ wsX8_readNumber := by decide +kernel
  have f22 := hts (.fieldLink RX8 22 "CoreMelterModel" "numbers" "[I") (by decide +kernel)
  have f122 := hts (.fieldLink RX8 122 "CoreMelterModel" "at" "I") (by decide +kernel)
  have hct := chT_lt hT tl
  refine lv_aload_n F.1 F.2.1 dX8_readNumber_0 rfl (lv_at hl 0 rfl) ?_
  refine r_callVI (rest := []) F w (c_X8_here l G a P Sp Hs T N sc tl tp fa fr fn hT h1 (by omega)) gX8_readNumber_X8_here [0, 1, 2, 3, 4, 5] [] (nA0 := 0) rfl (by decide +kernel) rfl ⟨Nat.le_of_ble_eq_true rfl, Nat.le_of_ble_eq_true rfl⟩ ⟨Nat.le_of_ble_eq_true rfl, Nat.le_of_ble_eq_true rfl⟩ rfl rfl rfl rfl rfl rfl rfl hl rfl (Nat.le_of_ble_eq_true rfl) dX8_readNumber_1 (fun r_1 w1 H locs hp w => ?_)
  obtain ⟨rfl, rfl⟩ := hp
  have w := w.sub (ws' := mW G a P Sp Hs sc T tl tp fa fr fn N) [0, 1, 2, 3, 4, 5] (by decide) rfl
  refine lv_bipush (v := nI 32) F.1 F.2.1 dX8_readNumber_4 (by decide) ?_
  refine r_ceq (tgt := 11) F dX8_readNumber_6 (by decide) (by have := hct tp; omega) (by omega) (fun c6 => ?_) (fun c6 => ?_)
  · skip
    refine lv_aload_n F.1 F.2.1 dX8_readNumber_11 rfl (lv_at hl 0 rfl) ?_
    refine lv_dup F.1 F.2.1 dX8_readNumber_12 rfl ?_
    refine r_get F w 0 6 iX8 f122 rfl rfl rfl (by decide) rfl dX8_readNumber_13 ?_
    refine lv_iconst (v := nI 1) F.1 F.2.1 dX8_readNumber_16 (by decide) ?_
    refine r_iadd F dX8_readNumber_17 ?_
    refine r_put (ws' := mW G a P Sp Hs sc T tl (tp + 1) fa fr fn N) F w 0 6 iX8 okX8 f122 rfl rfl rfl (by decide) (by decide +kernel) (Nat.le_of_ble_eq_true rfl) dX8_readNumber_18 rfl (fun H locs w => ?_)
    refine lv_aload_n F.1 F.2.1 dX8_readNumber_21 rfl (lv_at hl 0 rfl) ?_
    refine r_get F w 0 6 iX8 f122 rfl rfl rfl (by decide) rfl dX8_readNumber_22 ?_
    refine lv_istore_n (lv' := [(2, .int (nI (tp + 1))), (0, .ref (a 0)), (1, .int (nI i))]) F.1 F.2.1 dX8_readNumber_25 rfl hl (by decide) rfl (fun ls hl => ?_)
    refine lv_iconst (v := nI 0) F.1 F.2.1 dX8_readNumber_26 (by decide) ?_
    refine lv_istore_n (lv' := [(3, .int (nI 0)), (2, .int (nI (tp + 1))), (0, .ref (a 0)), (1, .int (nI i))]) F.1 F.2.1 dX8_readNumber_27 rfl hl (by decide) rfl (fun ls hl => ?_)
    have L28 : ∀ n : Nat, ∀ (k : Nat), (k ≤ 3) → (∀ j, j < k → dgN T tl (tp + 1) j < 1) → 3 - k < n → ∀ (H : Heap) (locs : List Loc), Wd G s (va_A (mW G a P Sp Hs sc T tl tp fa fr fn N) s.heap.size) (mW G a P Sp Hs sc T tl (tp + 1 + k) fa fr fn N) H locs → ∀ ls : Array Slot, lv_has ls 4 [(0, .ref (a 0)), (1, .int (nI i)), (2, .int (nI (tp + 1))), (3, .int (nI (nv T tl (tp + 1) k)))] → W p l e (rmK 1 0 0) s m args below meth c H locs 0 0 (MQ below (QI G (mW G a P Sp Hs sc T tl tp fa fr fn N) s.heap.size (fun r v => r = yn (chT T tl tp = 32 ∧ 48 ≤ chT T tl (tp + 1) ∧ chT T tl (tp + 1) ≤ 57) ∧ ∃ (t2 : Nat) (N2 : Nat → Nat), v = mW G a P Sp Hs sc T tl t2 fa fr fn N2 ∧ (numOk T tl tp 0 → t2 = ps T tl tp 1 ∧ N2 = up N i (numV T tl tp 0)))) args s 0 0 (va_A (mW G a P Sp Hs sc T tl tp fa fr fn N) s.heap.size)) (F0 m 28 ls []) := by
      intro n
      induction n with
      | zero => intro k h2 h3 hm; exact absurd hm (Nat.not_lt_zero _)
      | succ n ih28 =>
        intro k h2 h3 hm28 H locs w ls hl
        refine lv_aload_n F.1 F.2.1 dX8_readNumber_28 rfl (lv_at hl 0 rfl) ?_
        refine r_get F w 0 6 iX8 f122 rfl rfl rfl (by decide) rfl dX8_readNumber_29 ?_
        refine lv_iload_n F.1 F.2.1 dX8_readNumber_32 rfl (lv_at hl 2 rfl) ?_
        refine lv_iconst (v := nI 3) F.1 F.2.1 dX8_readNumber_33 (by decide) ?_
        refine r_iadd F dX8_readNumber_34 ?_
        refine r_cge (tgt := 78) F dX8_readNumber_35 (by decide) (by omega) (by omega) (fun c35 => ?_) (fun c35 => ?_)
        · skip
          have hkn : k = nd T tl (tp + 1) := by first | exact (ft_at (show k < 3 by omega) h3 (by have := dgN_lt (T := T) (tl := tl) (i := tp + 1) (k := k); omega)).symm | (rw [show k = 3 by omega] at h3 ⊢; exact (ft_all h3).symm)
          refine lv_aload_n F.1 F.2.1 dX8_readNumber_78 rfl (lv_at hl 0 rfl) ?_
          refine r_get F w 0 10 iX8 f22 rfl rfl rfl (by decide) rfl dX8_readNumber_79 ?_
          refine lv_iload_n F.1 F.2.1 dX8_readNumber_82 rfl (lv_at hl 1 rfl) ?_
          refine lv_iload_n F.1 F.2.1 dX8_readNumber_83 rfl (lv_at hl 3 rfl) ?_
          refine r_iast (ws' := mW G a P Sp Hs sc T tl (tp + 1 + k) fa fr fn (up N i (nv T tl (tp + 1) k))) F w 5 rfl (by omega) (by decide) dX8_readNumber_84 rfl (fun H locs w => ?_)
          refine lv_aload_n F.1 F.2.1 dX8_readNumber_85 rfl (lv_at hl 0 rfl) ?_
          refine r_get F w 0 6 iX8 f122 rfl rfl rfl (by decide) rfl dX8_readNumber_86 ?_
          refine lv_iload_n F.1 F.2.1 dX8_readNumber_89 rfl (lv_at hl 2 rfl) ?_
          refine r_cle (tgt := 97) F dX8_readNumber_90 (by decide) (by omega) (by omega) (fun c90 => ?_) (fun c90 => ?_)
          · skip
            refine lv_iconst (v := nI 0) F.1 F.2.1 dX8_readNumber_97 (by decide) ?_
            exact r_zreturn F w dX8_readNumber_98 rfl (⟨yn_f (fun z => by have h5 := nd_pos (i := tp + 1) z.2; omega), _, _, rfl, fun z => by have h5 := nd_pos (i := tp + 1) z.2; omega⟩)
          · skip
            refine lv_iconst (v := nI 1) F.1 F.2.1 dX8_readNumber_93 (by decide) ?_
            refine lv_goto (tgt := 98) F.1 F.2.1 dX8_readNumber_94 (by decide) ?_
            exact r_zreturn F w dX8_readNumber_98 rfl (⟨yn_t ⟨c6, dgN_lt.mp (h3 0 (by omega))⟩, _, _, rfl, fun _ => ⟨by rw [hkn]; rfl, by rw [hkn]; rfl⟩⟩)
        · skip
          refine lv_aload_n F.1 F.2.1 dX8_readNumber_38 rfl (lv_at hl 0 rfl) ?_
          refine r_callVI (rest := []) F w (c_X8_here l G a P Sp Hs T N sc tl (tp + 1 + k) fa fr fn hT h1 (by omega)) gX8_readNumber_X8_here [0, 1, 2, 3, 4, 5] [] (nA0 := 0) rfl (by decide +kernel) rfl ⟨Nat.le_of_ble_eq_true rfl, Nat.le_of_ble_eq_true rfl⟩ ⟨Nat.le_of_ble_eq_true rfl, Nat.le_of_ble_eq_true rfl⟩ rfl rfl rfl rfl rfl rfl rfl hl rfl (Nat.le_of_ble_eq_true rfl) dX8_readNumber_39 (fun r_39 w1 H locs hp w => ?_)
          obtain ⟨rfl, rfl⟩ := hp
          have w := w.sub (ws' := mW G a P Sp Hs sc T tl (tp + 1 + k) fa fr fn N) [0, 1, 2, 3, 4, 5] (by decide) rfl
          refine lv_bipush (v := nI 48) F.1 F.2.1 dX8_readNumber_42 (by decide) ?_
          refine lv_bipush (v := nI 57) F.1 F.2.1 dX8_readNumber_44 (by decide) ?_
          refine r_callS0 (rest := []) F w (c_X8_inN l G (chT T tl (tp + 1 + k)) 48 57 (by have := hct (tp + 1 + k); omega) (by omega) (by omega)) gX8_readNumber_X8_in (nA0 := 3) rfl (by decide +kernel) rfl ⟨Nat.le_of_ble_eq_true rfl, Nat.le_of_ble_eq_true rfl⟩ ⟨Nat.le_of_ble_eq_true rfl, Nat.le_of_ble_eq_true rfl⟩ hl rfl (Nat.le_of_ble_eq_true rfl) dX8_readNumber_46 (fun r_46 w1 H locs hp w => ?_)
          obtain ⟨rfl, rfl⟩ := hp
          refine r_yeq (tgt := 78) F dX8_readNumber_49 (by decide) (fun c49 => ?_) (fun c49 => ?_)
          · skip
            have hkn : k = nd T tl (tp + 1) := by first | exact (ft_at (show k < 3 by omega) h3 (by have := dgN_lt (T := T) (tl := tl) (i := tp + 1) (k := k); omega)).symm | (rw [show k = 3 by omega] at h3 ⊢; exact (ft_all h3).symm)
            refine lv_aload_n F.1 F.2.1 dX8_readNumber_78 rfl (lv_at hl 0 rfl) ?_
            refine r_get F w 0 10 iX8 f22 rfl rfl rfl (by decide) rfl dX8_readNumber_79 ?_
            refine lv_iload_n F.1 F.2.1 dX8_readNumber_82 rfl (lv_at hl 1 rfl) ?_
            refine lv_iload_n F.1 F.2.1 dX8_readNumber_83 rfl (lv_at hl 3 rfl) ?_
            refine r_iast (ws' := mW G a P Sp Hs sc T tl (tp + 1 + k) fa fr fn (up N i (nv T tl (tp + 1) k))) F w 5 rfl (by omega) (by decide) dX8_readNumber_84 rfl (fun H locs w => ?_)
            refine lv_aload_n F.1 F.2.1 dX8_readNumber_85 rfl (lv_at hl 0 rfl) ?_
            refine r_get F w 0 6 iX8 f122 rfl rfl rfl (by decide) rfl dX8_readNumber_86 ?_
            refine lv_iload_n F.1 F.2.1 dX8_readNumber_89 rfl (lv_at hl 2 rfl) ?_
            refine r_cle (tgt := 97) F dX8_readNumber_90 (by decide) (by omega) (by omega) (fun c90 => ?_) (fun c90 => ?_)
            · skip
              refine lv_iconst (v := nI 0) F.1 F.2.1 dX8_readNumber_97 (by decide) ?_
              exact r_zreturn F w dX8_readNumber_98 rfl (⟨yn_f (fun z => by have h5 := nd_pos (i := tp + 1) z.2; omega), _, _, rfl, fun z => by have h5 := nd_pos (i := tp + 1) z.2; omega⟩)
            · skip
              refine lv_iconst (v := nI 1) F.1 F.2.1 dX8_readNumber_93 (by decide) ?_
              refine lv_goto (tgt := 98) F.1 F.2.1 dX8_readNumber_94 (by decide) ?_
              exact r_zreturn F w dX8_readNumber_98 rfl (⟨yn_t ⟨c6, dgN_lt.mp (h3 0 (by omega))⟩, _, _, rfl, fun _ => ⟨by rw [hkn]; rfl, by rw [hkn]; rfl⟩⟩)
          · skip
            refine lv_bipush (v := nI 10) F.1 F.2.1 dX8_readNumber_52 (by decide) ?_
            refine lv_iload_n F.1 F.2.1 dX8_readNumber_54 rfl (lv_at hl 3 rfl) ?_
            refine r_imul F dX8_readNumber_55 ?_
            refine lv_aload_n F.1 F.2.1 dX8_readNumber_56 rfl (lv_at hl 0 rfl) ?_
            refine r_callVI (rest := [.int (nI (10 * (nv T tl (tp + 1) k)))]) F w (c_X8_here l G a P Sp Hs T N sc tl (tp + 1 + k) fa fr fn hT h1 (by omega)) gX8_readNumber_X8_here [0, 1, 2, 3, 4, 5] [] (nA0 := 0) rfl (by decide +kernel) rfl ⟨Nat.le_of_ble_eq_true rfl, Nat.le_of_ble_eq_true rfl⟩ ⟨Nat.le_of_ble_eq_true rfl, Nat.le_of_ble_eq_true rfl⟩ rfl rfl rfl rfl rfl rfl rfl hl rfl (Nat.le_of_ble_eq_true rfl) dX8_readNumber_57 (fun r_57 w1 H locs hp w => ?_)
            obtain ⟨rfl, rfl⟩ := hp
            have w := w.sub (ws' := mW G a P Sp Hs sc T tl (tp + 1 + k) fa fr fn N) [0, 1, 2, 3, 4, 5] (by decide) rfl
            refine r_iadd F dX8_readNumber_60 ?_
            refine lv_bipush (v := nI 48) F.1 F.2.1 dX8_readNumber_61 (by decide) ?_
            refine r_isub F dX8_readNumber_63 (by omega) ?_
            refine lv_istore_n (lv' := [(3, .int (nI (((10 * (nv T tl (tp + 1) k)) + (chT T tl (tp + 1 + k))) - 48))), (0, .ref (a 0)), (1, .int (nI i)), (2, .int (nI (tp + 1)))]) F.1 F.2.1 dX8_readNumber_64 rfl hl (by decide) rfl (fun ls hl => ?_)
            refine lv_aload_n F.1 F.2.1 dX8_readNumber_65 rfl (lv_at hl 1 rfl) ?_
            refine lv_dup F.1 F.2.1 dX8_readNumber_66 rfl ?_
            refine r_get F w 0 6 iX8 f122 rfl rfl rfl (by decide) rfl dX8_readNumber_67 ?_
            refine lv_iconst (v := nI 1) F.1 F.2.1 dX8_readNumber_70 (by decide) ?_
            refine r_iadd F dX8_readNumber_71 ?_
            refine r_put (ws' := mW G a P Sp Hs sc T tl ((tp + 1 + k) + 1) fa fr fn N) F w 0 6 iX8 okX8 f122 rfl rfl rfl (by decide) (by decide +kernel) (Nat.le_of_ble_eq_true rfl) dX8_readNumber_72 rfl (fun H locs w => ?_)
            refine lv_goto (tgt := 28) F.1 F.2.1 dX8_readNumber_75 (by decide) ?_
            exact ih28 (k + 1) (by omega) (fun j hj => by rcases Nat.lt_succ_iff_lt_or_eq.mp hj with q | q; exact h3 j q; rw [q]; exact dgN_lt.mpr c49) (by omega) _ _ w ls (lv_sub hl [1, 2, 3, 0] rfl)
    exact L28 _ 0 (Nat.zero_le _) (fun j hj => absurd hj (Nat.not_lt_zero _)) (Nat.lt_succ_self _) _ _ w ls (lv_sub hl [2, 3, 1, 0] rfl)
  · skip
    refine lv_iconst (v := nI 0) F.1 F.2.1 dX8_readNumber_9 (by decide) ?_
    exact r_zreturn F w dX8_readNumber_10 rfl (⟨yn_f (fun z => c6 z.1), tp, N, rfl, fun z => absurd z.1 c6⟩)
def RNG (k i x : Nat) : Prop := if i = 0 then 1 ≤ x ∧ x ≤ 300 else if i = 1 then 60 ≤ x ∧ x ≤ 92 else if k = 0 then x ≤ 50 else 1 ≤ x ∧ x ≤ 100
def rngB (k i x : Nat) : Nat := if i = 0 then (if 1 ≤ x ∧ x ≤ 300 then 1 else 0) else if i = 1 then (if 60 ≤ x ∧ x ≤ 92 then 1 else 0) else if k = 0 then (if x ≤ 50 then 1 else 0) else if 1 ≤ x ∧ x ≤ 100 then 1 else 0
theorem yn_rng {q : Prop} [Decidable q] {n : Nat} (h : n = if q then 1 else 0) : yn q = nI n := by
  rw [h]
  unfold yn
  split <;> rfl
set_option maxRecDepth 100000 in
set_option maxHeartbeats 4000000 in
theorem c_X8_isRanged (l : Launch) (G : KG) (k i x : Nat) (hk : k ≤ 2) (hi : i < 3) (hx : x ≤ 999) : MetI l yX8_isRanged wsX8_isRanged 2 G (([] : va_W)) [.int (nI k), .int (nI i), .int (nI x)] (fun r w => r = nI (rngB k i x) ∧ w = []) := by
  refine MetI.by (cc := cX8_isRanged) (nL := 3) (ret := some .boolean) (by decide +kernel) rfl (Nat.le_of_ble_eq_true rfl) ?_
  intro p e s m args below meth c F w ls hl
  have hl : lv_has ls 3 [(0, .int (nI k)), (1, .int (nI i)), (2, .int (nI x))] := hl
  have hts := F.ts
  refine lv_iload_n F.1 F.2.1 dX8_isRanged_0 rfl (lv_at hl 1 rfl) ?_
  by_cases k1_0 : i = 0
  · refine r_lkIn (k := nI 0) (tgt := 28) F dX8_isRanged_1 (congrArg nI k1_0) (by decide) (off := 27) (by decide) (by decide) ?_
    refine lv_iload_n F.1 F.2.1 dX8_isRanged_28 rfl (lv_at hl 2 rfl) ?_
    refine lv_iconst (v := nI 1) F.1 F.2.1 dX8_isRanged_29 (by decide) ?_
    refine lv_sipush (v := nI 300) F.1 F.2.1 dX8_isRanged_30 (by decide) ?_
    refine r_callS0 (rest := []) F w (c_X8_inN l G x 1 300 (by omega) (by omega) (by omega)) gX8_isRanged_X8_in (nA0 := 3) rfl (by decide +kernel) rfl ⟨Nat.le_of_ble_eq_true rfl, Nat.le_of_ble_eq_true rfl⟩ ⟨Nat.le_of_ble_eq_true rfl, Nat.le_of_ble_eq_true rfl⟩ hl rfl (Nat.le_of_ble_eq_true rfl) dX8_isRanged_33 (fun r_33 w1 H locs hp w => ?_)
    obtain ⟨rfl, rfl⟩ := hp
    exact r_zreturn F w dX8_isRanged_36 (yn_nar _) (⟨yn_rng (by subst k1_0; rfl), rfl⟩)
  by_cases k1_1 : i = 1
  · refine r_lkIn (k := nI 1) (tgt := 37) F dX8_isRanged_1 (congrArg nI k1_1) (by decide) (off := 36) (by decide) (by decide) ?_
    refine lv_iload_n F.1 F.2.1 dX8_isRanged_37 rfl (lv_at hl 2 rfl) ?_
    refine r_callS0 (rest := []) F w (c_X8_isDensity l G (nI x)) gX8_isRanged_X8_isDensity (nA0 := 1) rfl (by decide +kernel) rfl ⟨Nat.le_of_ble_eq_true rfl, Nat.le_of_ble_eq_true rfl⟩ ⟨Nat.le_of_ble_eq_true rfl, Nat.le_of_ble_eq_true rfl⟩ hl rfl (Nat.le_of_ble_eq_true rfl) dX8_isRanged_38 (fun r_38 w1 H locs hp w => ?_)
    obtain ⟨rfl, rfl⟩ := hp
    exact r_zreturn F w dX8_isRanged_41 (yn_nar _) (⟨(yn_c (by rw [nI_leI (by decide) (by omega), nI_leI (by omega) (by decide)])).trans (yn_rng (q := 60 ≤ x ∧ x ≤ 92) (by subst k1_1; rfl)), rfl⟩)
  refine r_lkOut2 (tgt := 42) F dX8_isRanged_1 (fun z => k1_0 ((nI_eq (by omega) (by decide)).mp z)) (fun z => k1_1 ((nI_eq (by omega) (by decide)).mp z)) (by decide) (by decide) (by decide) (by decide) ?_
  refine lv_iload_n F.1 F.2.1 dX8_isRanged_42 rfl (lv_at hl 2 rfl) ?_
  refine lv_iload_n F.1 F.2.1 dX8_isRanged_43 rfl (lv_at hl 0 rfl) ?_
  refine r_zne (tgt := 51) F dX8_isRanged_44 (by decide) (by omega) (fun c44 => ?_) (fun c44 => ?_)
  · skip
    refine lv_iconst (v := nI 1) F.1 F.2.1 dX8_isRanged_51 (by decide) ?_
    refine lv_iload_n F.1 F.2.1 dX8_isRanged_52 rfl (lv_at hl 0 rfl) ?_
    refine r_zne (tgt := 61) F dX8_isRanged_53 (by decide) (by omega) (fun c53 => ?_) (fun c53 => ?_)
    · skip
      refine lv_bipush (v := nI 100) F.1 F.2.1 dX8_isRanged_61 (by decide) ?_
      refine r_callS0 (rest := []) F w (c_X8_inN l G x 1 100 (by omega) (by omega) (by omega)) gX8_isRanged_X8_in (nA0 := 3) rfl (by decide +kernel) rfl ⟨Nat.le_of_ble_eq_true rfl, Nat.le_of_ble_eq_true rfl⟩ ⟨Nat.le_of_ble_eq_true rfl, Nat.le_of_ble_eq_true rfl⟩ hl rfl (Nat.le_of_ble_eq_true rfl) dX8_isRanged_63 (fun r_63 w1 H locs hp w => ?_)
      obtain ⟨rfl, rfl⟩ := hp
      exact r_zreturn F w dX8_isRanged_66 (yn_nar _) (⟨by first | exact absurd c53 c44 | exact absurd c44 c53 | exact yn_rng (by unfold rngB; rw [if_neg k1_0, if_neg k1_1]; first | (rw [if_pos c44]; simp only [Nat.zero_le, true_and]) | (rw [if_neg c44])), rfl⟩)
    · skip
      refine lv_bipush (v := nI 50) F.1 F.2.1 dX8_isRanged_56 (by decide) ?_
      refine lv_goto (tgt := 63) F.1 F.2.1 dX8_isRanged_58 (by decide) ?_
      refine r_callS0 (rest := []) F w (c_X8_inN l G x 1 50 (by omega) (by omega) (by omega)) gX8_isRanged_X8_in (nA0 := 3) rfl (by decide +kernel) rfl ⟨Nat.le_of_ble_eq_true rfl, Nat.le_of_ble_eq_true rfl⟩ ⟨Nat.le_of_ble_eq_true rfl, Nat.le_of_ble_eq_true rfl⟩ hl rfl (Nat.le_of_ble_eq_true rfl) dX8_isRanged_63 (fun r_63 w1 H locs hp w => ?_)
      obtain ⟨rfl, rfl⟩ := hp
      exact r_zreturn F w dX8_isRanged_66 (yn_nar _) (⟨by first | exact absurd c53 c44 | exact absurd c44 c53 | exact yn_rng (by unfold rngB; rw [if_neg k1_0, if_neg k1_1]; first | (rw [if_pos c44]; simp only [Nat.zero_le, true_and]) | (rw [if_neg c44])), rfl⟩)
  · skip
    refine lv_iconst (v := nI 0) F.1 F.2.1 dX8_isRanged_47 (by decide) ?_
    refine lv_goto (tgt := 52) F.1 F.2.1 dX8_isRanged_48 (by decide) ?_
    refine lv_iload_n F.1 F.2.1 dX8_isRanged_52 rfl (lv_at hl 0 rfl) ?_
    refine r_zne (tgt := 61) F dX8_isRanged_53 (by decide) (by omega) (fun c53 => ?_) (fun c53 => ?_)
    · skip
      refine lv_bipush (v := nI 100) F.1 F.2.1 dX8_isRanged_61 (by decide) ?_
      refine r_callS0 (rest := []) F w (c_X8_inN l G x 0 100 (by omega) (by omega) (by omega)) gX8_isRanged_X8_in (nA0 := 3) rfl (by decide +kernel) rfl ⟨Nat.le_of_ble_eq_true rfl, Nat.le_of_ble_eq_true rfl⟩ ⟨Nat.le_of_ble_eq_true rfl, Nat.le_of_ble_eq_true rfl⟩ hl rfl (Nat.le_of_ble_eq_true rfl) dX8_isRanged_63 (fun r_63 w1 H locs hp w => ?_)
      obtain ⟨rfl, rfl⟩ := hp
      exact r_zreturn F w dX8_isRanged_66 (yn_nar _) (⟨by first | exact absurd c53 c44 | exact absurd c44 c53 | exact yn_rng (by unfold rngB; rw [if_neg k1_0, if_neg k1_1]; first | (rw [if_pos c44]; simp only [Nat.zero_le, true_and]) | (rw [if_neg c44])), rfl⟩)
    · skip
      refine lv_bipush (v := nI 50) F.1 F.2.1 dX8_isRanged_56 (by decide) ?_
      refine lv_goto (tgt := 63) F.1 F.2.1 dX8_isRanged_58 (by decide) ?_
      refine r_callS0 (rest := []) F w (c_X8_inN l G x 0 50 (by omega) (by omega) (by omega)) gX8_isRanged_X8_in (nA0 := 3) rfl (by decide +kernel) rfl ⟨Nat.le_of_ble_eq_true rfl, Nat.le_of_ble_eq_true rfl⟩ ⟨Nat.le_of_ble_eq_true rfl, Nat.le_of_ble_eq_true rfl⟩ hl rfl (Nat.le_of_ble_eq_true rfl) dX8_isRanged_63 (fun r_63 w1 H locs hp w => ?_)
      obtain ⟨rfl, rfl⟩ := hp
      exact r_zreturn F w dX8_isRanged_66 (yn_nar _) (⟨by first | exact absurd c53 c44 | exact absurd c44 c53 | exact yn_rng (by unfold rngB; rw [if_neg k1_0, if_neg k1_1]; first | (rw [if_pos c44]; simp only [Nat.zero_le, true_and]) | (rw [if_neg c44])), rfl⟩)
set_option maxRecDepth 100000 in
set_option maxHeartbeats 4000000 in
theorem c_X8_fails (l : Launch) (G : KG) (a P Sp Hs T N : Nat → Nat) (sc tl tp fa fr fn : Nat) (x1 x2 : Nat) : MetI l yX8_fails wsX8_fails 0 G (mW G a P Sp Hs sc T tl tp fa fr fn N) [.ref (a 0), .int (nI x1), .int (nI x2)] (fun r v => r = -4 ∧ v = mW G a P Sp Hs sc T tl tp fa x1 x2 N) := by
  refine MetI.by (cc := cX8_fails) (nL := 3) (ret := some .int) (by decide +kernel) rfl (Nat.le_of_ble_eq_true rfl) ?_
  intro p e s m args below meth c F w ls hl
  have hl : lv_has ls 3 [(0, .ref (a 0)), (1, .int (nI x1)), (2, .int (nI x2))] := hl
  have hts := F.ts
  have iX8 : ∀ w ∈ wsX80, w ∈ wsX8_fails := by decide +kernel
  have f140 := hts (.fieldLink RX8 140 "CoreMelterModel" "faultReason" "I") (by decide +kernel)
  have f143 := hts (.fieldLink RX8 143 "CoreMelterModel" "faultNumber" "I") (by decide +kernel)
  refine lv_aload_n F.1 F.2.1 dX8_fails_0 rfl (lv_at hl 0 rfl) ?_
  refine lv_iload_n F.1 F.2.1 dX8_fails_1 rfl (lv_at hl 1 rfl) ?_
  refine r_put (ws' := mW G a P Sp Hs sc T tl tp fa x1 fn N) F w 0 8 iX8 okX8 f140 rfl rfl rfl (by decide) (by decide +kernel) (Nat.le_of_ble_eq_true rfl) dX8_fails_2 rfl (fun H locs w => ?_)
  refine lv_aload_n F.1 F.2.1 dX8_fails_5 rfl (lv_at hl 0 rfl) ?_
  refine lv_iload_n F.1 F.2.1 dX8_fails_6 rfl (lv_at hl 2 rfl) ?_
  refine r_put (ws' := mW G a P Sp Hs sc T tl tp fa x1 x2 N) F w 0 9 iX8 okX8 f143 rfl rfl rfl (by decide) (by decide +kernel) (Nat.le_of_ble_eq_true rfl) dX8_fails_7 rfl (fun H locs w => ?_)
  refine lv_bipush (v := (-4)) F.1 F.2.1 dX8_fails_10 (by decide) ?_
  exact r_ireturn F w dX8_fails_12 (⟨rfl, rfl⟩)
