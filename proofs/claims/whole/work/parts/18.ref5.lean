set_option maxRecDepth 100000 in
set_option maxHeartbeats 4000000 in
theorem c_X8_seals (l : Launch) (G : KG) (a P Sp Hs T N : Nat → Nat) (sc tl tp fa fr fn : Nat) (hD : DInv P) (h14 : P 14 ≤ 40) : MetV l yX8_seals wsX8_seals 2 0 0 G (mW G a P Sp Hs sc T tl tp fa fr fn N) [.ref (a 0)] (fun v => v = mW G a (sealF P) Sp Hs sc T tl tp fa fr fn N) := by
  refine MetV.by (cc := cX8_seals) (nL := 2) (ret := none) (by decide +kernel) rfl (Nat.le_of_ble_eq_true rfl) ?_
  intro p e s m args below meth c F hname w ls hl
  have hl : lv_has ls 2 [(0, .ref (a 0))] := hl
  have hts := F.ts
  have iX8 : ∀ w ∈ wsX80, w ∈ wsX8_seals := by decide +kernel
  have f7 := hts (.fieldLink RX8 7 "CoreMelterModel" "m" "[I") (by decide +kernel)
  obtain ⟨b9, b11, b20, b12, b13, b25, b23⟩ := hD.bnd
  obtain ⟨t0, t1, t2, t3, t4, t5, t6, t7, t8, t9, t10, t11, t12, t13⟩ := hD.2.1
  have h8 := hD.1.1
  have h15 := hD.2.2.2.1.2.2.2
  refine lv_aload_n F.1 F.2.1 dX8_seals_0 rfl (lv_at hl 0 rfl) ?_
  refine r_get F w 0 0 iX8 f7 rfl rfl rfl (by decide) rfl dX8_seals_1 ?_
  refine lv_bipush (v := nI 15) F.1 F.2.1 dX8_seals_4 (by decide) ?_
  refine r_iald F w 1 rfl (by omega) (by decide) dX8_seals_6 ?_
  refine lv_aload_n F.1 F.2.1 dX8_seals_7 rfl (lv_at hl 0 rfl) ?_
  refine r_get F w 0 0 iX8 f7 rfl rfl rfl (by decide) rfl dX8_seals_8 ?_
  refine lv_bipush (v := nI 6) F.1 F.2.1 dX8_seals_11 (by decide) ?_
  refine r_iald F w 1 rfl (by omega) (by decide) dX8_seals_13 ?_
  refine r_clt (tgt := 29) F dX8_seals_14 (by decide) (by omega) (by omega) (fun c14 => ?_) (fun c14 => ?_)
  · skip
    exact r_return F w dX8_seals_29 (by unfold sealF; first | rw [if_pos (Or.inl c14)] | rw [if_pos (Or.inr c26)])
  · skip
    refine lv_aload_n F.1 F.2.1 dX8_seals_17 rfl (lv_at hl 0 rfl) ?_
    refine r_get F w 0 0 iX8 f7 rfl rfl rfl (by decide) rfl dX8_seals_18 ?_
    refine lv_bipush (v := nI 14) F.1 F.2.1 dX8_seals_21 (by decide) ?_
    refine r_iald F w 1 rfl (by omega) (by decide) dX8_seals_23 ?_
    refine lv_bipush (v := nI 40) F.1 F.2.1 dX8_seals_24 (by decide) ?_
    refine r_cne (tgt := 30) F dX8_seals_26 (by decide) (by omega) (by omega) (fun c26 => ?_) (fun c26 => ?_)
    · skip
      refine lv_bipush (v := nI 126) F.1 F.2.1 dX8_seals_30 (by decide) ?_
      refine lv_iconst (v := nI 3) F.1 F.2.1 dX8_seals_32 (by decide) ?_
      refine lv_aload_n F.1 F.2.1 dX8_seals_33 rfl (lv_at hl 0 rfl) ?_
      refine r_get F w 0 0 iX8 f7 rfl rfl rfl (by decide) rfl dX8_seals_34 ?_
      refine lv_bipush (v := nI 14) F.1 F.2.1 dX8_seals_37 (by decide) ?_
      refine r_iald F w 1 rfl (by omega) (by decide) dX8_seals_39 ?_
      refine r_imul F dX8_seals_40 ?_
      refine r_iadd F dX8_seals_41 ?_
      refine lv_istore_n (lv' := [(1, .int (nI (126 + (3 * (P 14))))), (0, .ref (a 0))]) F.1 F.2.1 dX8_seals_42 rfl hl (by decide) rfl (fun ls hl => ?_)
      refine lv_aload_n F.1 F.2.1 dX8_seals_43 rfl (lv_at hl 1 rfl) ?_
      refine r_get F w 0 0 iX8 f7 rfl rfl rfl (by decide) rfl dX8_seals_44 ?_
      refine lv_iload_n F.1 F.2.1 dX8_seals_47 rfl (lv_at hl 0 rfl) ?_
      refine lv_aload_n F.1 F.2.1 dX8_seals_48 rfl (lv_at hl 1 rfl) ?_
      refine r_get F w 0 0 iX8 f7 rfl rfl rfl (by decide) rfl dX8_seals_49 ?_
      refine lv_bipush (v := nI 15) F.1 F.2.1 dX8_seals_52 (by decide) ?_
      refine r_iald F w 1 rfl (by omega) (by decide) dX8_seals_54 ?_
      refine r_iast (ws' := mW G a (up P (126 + (3 * (P 14))) (P 15)) Sp Hs sc T tl tp fa fr fn N) F w 1 rfl (by omega) (by decide) dX8_seals_55 rfl (fun H locs w => ?_)
      refine lv_aload_n F.1 F.2.1 dX8_seals_56 rfl (lv_at hl 1 rfl) ?_
      refine r_get F w 0 0 iX8 f7 rfl rfl rfl (by decide) rfl dX8_seals_57 ?_
      refine lv_iload_n F.1 F.2.1 dX8_seals_60 rfl (lv_at hl 0 rfl) ?_
      refine lv_iconst (v := nI 1) F.1 F.2.1 dX8_seals_61 (by decide) ?_
      refine r_iadd F dX8_seals_62 ?_
      refine lv_aload_n F.1 F.2.1 dX8_seals_63 rfl (lv_at hl 1 rfl) ?_
      refine r_callVI (rest := [.int (nI ((126 + (3 * (P 14))) + 1)), .ref (a 1)]) F w (c_X8_told l G a (up P (126 + (3 * (P 14))) (P 15)) Sp Hs T N sc tl tp fa fr fn (DInv_cg hD (fun k hk => up_n _ _ (by omega)) (by rw [up_n _ _ (by omega)]; exact Nat.le_refl _)).1 (by rw [up_n _ _ (by omega)]; exact b9) (by rw [up_n _ _ (by omega), up_n _ _ (by omega)]; omega)) gX8_seals_X8_told [0, 1, 2, 3, 4, 5] [] (nA0 := 0) rfl (by decide +kernel) rfl ⟨Nat.le_of_ble_eq_true rfl, Nat.le_of_ble_eq_true rfl⟩ ⟨Nat.le_of_ble_eq_true rfl, Nat.le_of_ble_eq_true rfl⟩ rfl rfl rfl rfl rfl rfl rfl hl rfl (Nat.le_of_ble_eq_true rfl) dX8_seals_64 (fun r_64 w1 H locs hp w => ?_)
      obtain ⟨rfl, rfl⟩ := hp
      have w := w.sub (ws' := mW G a (up P (126 + (3 * (P 14))) (P 15)) Sp Hs sc T tl tp fa fr fn N) [0, 1, 2, 3, 4, 5] (by decide) rfl
      refine r_to (y := (nI (toldF P))) (congrArg nI (toldF_cg h8 (fun k hk => up_n _ _ (by omega)))) ?_
      refine r_iast (ws' := mW G a (up (up P (126 + (3 * (P 14))) (P 15)) ((126 + (3 * (P 14))) + 1) (toldF P)) Sp Hs sc T tl tp fa fr fn N) F w 1 rfl (by omega) (by decide) dX8_seals_67 rfl (fun H locs w => ?_)
      refine lv_aload_n F.1 F.2.1 dX8_seals_68 rfl (lv_at hl 1 rfl) ?_
      refine r_get F w 0 0 iX8 f7 rfl rfl rfl (by decide) rfl dX8_seals_69 ?_
      refine lv_iload_n F.1 F.2.1 dX8_seals_72 rfl (lv_at hl 0 rfl) ?_
      refine lv_iconst (v := nI 2) F.1 F.2.1 dX8_seals_73 (by decide) ?_
      refine r_iadd F dX8_seals_74 ?_
      refine lv_aload_n F.1 F.2.1 dX8_seals_75 rfl (lv_at hl 1 rfl) ?_
      refine r_get F w 0 0 iX8 f7 rfl rfl rfl (by decide) rfl dX8_seals_76 ?_
      refine lv_bipush (v := nI 16) F.1 F.2.1 dX8_seals_79 (by decide) ?_
      refine r_iald F w 1 rfl (by omega) (by decide) dX8_seals_81 ?_
      refine r_to (y := nI (P 16)) (congrArg nI ((up_n _ _ (by omega)).trans (up_n _ _ (by omega)))) ?_
      refine r_iast (ws' := mW G a (up (up (up P (126 + (3 * (P 14))) (P 15)) ((126 + (3 * (P 14))) + 1) (toldF P)) ((126 + (3 * (P 14))) + 2) (P 16)) Sp Hs sc T tl tp fa fr fn N) F w 1 rfl (by omega) (by decide) dX8_seals_82 rfl (fun H locs w => ?_)
      refine lv_aload_n F.1 F.2.1 dX8_seals_83 rfl (lv_at hl 1 rfl) ?_
      refine r_get F w 0 0 iX8 f7 rfl rfl rfl (by decide) rfl dX8_seals_84 ?_
      refine lv_bipush (v := nI 14) F.1 F.2.1 dX8_seals_87 (by decide) ?_
      refine lv_dup2_11 F.1 F.2.1 dX8_seals_89 rfl rfl ?_
      refine r_iald F w 1 rfl (by omega) (by decide) dX8_seals_90 ?_
      refine r_to (y := nI (P 14)) (congrArg nI ((up_n _ _ (by omega)).trans ((up_n _ _ (by omega)).trans (up_n _ _ (by omega))))) ?_
      refine lv_iconst (v := nI 1) F.1 F.2.1 dX8_seals_91 (by decide) ?_
      refine r_iadd F dX8_seals_92 ?_
      refine r_iast (ws' := mW G a (up (up (up (up P (126 + (3 * (P 14))) (P 15)) ((126 + (3 * (P 14))) + 1) (toldF P)) ((126 + (3 * (P 14))) + 2) (P 16)) 14 ((P 14) + 1)) Sp Hs sc T tl tp fa fr fn N) F w 1 rfl (by omega) (by decide) dX8_seals_93 rfl (fun H locs w => ?_)
      refine lv_aload_n F.1 F.2.1 dX8_seals_94 rfl (lv_at hl 1 rfl) ?_
      refine r_get F w 0 0 iX8 f7 rfl rfl rfl (by decide) rfl dX8_seals_95 ?_
      refine lv_bipush (v := nI 15) F.1 F.2.1 dX8_seals_98 (by decide) ?_
      refine lv_iconst (v := nI 0) F.1 F.2.1 dX8_seals_100 (by decide) ?_
      refine r_iast (ws' := mW G a (up (up (up (up (up P (126 + (3 * (P 14))) (P 15)) ((126 + (3 * (P 14))) + 1) (toldF P)) ((126 + (3 * (P 14))) + 2) (P 16)) 14 ((P 14) + 1)) 15 0) Sp Hs sc T tl tp fa fr fn N) F w 1 rfl (by omega) (by decide) dX8_seals_101 rfl (fun H locs w => ?_)
      exact r_return F w dX8_seals_102 (by unfold sealF; rw [if_neg (fun q => q.elim c14 c26)])
    · skip
      exact r_return F w dX8_seals_29 (by unfold sealF; first | rw [if_pos (Or.inl c14)] | rw [if_pos (Or.inr c26)])
set_option maxRecDepth 100000 in
set_option maxHeartbeats 4000000 in
theorem c_X8_tick (l : Launch) (G : KG) (a P Sp Hs T N : Nat → Nat) (sc tl tp fa fr fn : Nat) (hI : Inv P) : MetV l yX8_tick wsX8_tick 4 0 0 G (mW G a P Sp Hs sc T tl tp fa fr fn N) [.ref (a 0)] (fun v => v = mW G a (tickF P) Sp Hs sc T tl tp fa fr fn N) := by
  refine MetV.by (cc := cX8_tick) (nL := 3) (ret := none) (by decide +kernel) rfl (Nat.le_of_ble_eq_true rfl) ?_
  intro p e s m args below meth c F hname w ls hl
  have hl : lv_has ls 3 [(0, .ref (a 0))] := hl
  have hts := F.ts
  have iX8 : ∀ w ∈ wsX80, w ∈ wsX8_tick := by decide +kernel
  have f7 := hts (.fieldLink RX8 7 "CoreMelterModel" "m" "[I") (by decide +kernel)
  have hD := hI.d
  have h8 := hD.1.1
  obtain ⟨b9, b11, b20, b12, b13, b25, b23⟩ := hD.bnd
  have ht := hD.1.top_le
  obtain ⟨t0, t1, t2, t3, t4, t5, t6, t7, t8, t9, t10, t11, t12, t13⟩ := hD.2.1
  have hc := hI.2.2.2.2.2.2
  have hrl := reasonF_le P
  obtain ⟨hc1, hc2, hc3, hc4⟩ := hc
  refine lv_aload_n F.1 F.2.1 dX8_tick_0 rfl (lv_at hl 0 rfl) ?_
  refine r_callVI (rest := []) F w (c_X8_length l G a P Sp Hs T N sc tl tp fa fr fn  (by omega)) gX8_tick_X8_length [0, 1, 2, 3, 4, 5] [] (nA0 := 0) rfl (by decide +kernel) rfl ⟨Nat.le_of_ble_eq_true rfl, Nat.le_of_ble_eq_true rfl⟩ ⟨Nat.le_of_ble_eq_true rfl, Nat.le_of_ble_eq_true rfl⟩ rfl rfl rfl rfl rfl rfl rfl hl rfl (Nat.le_of_ble_eq_true rfl) dX8_tick_1 (fun r_1 w1 H locs hp w => ?_)
  obtain ⟨rfl, rfl⟩ := hp
  have w := w.sub (ws' := mW G a P Sp Hs sc T tl tp fa fr fn N) [0, 1, 2, 3, 4, 5] (by decide) rfl
  refine r_to (y := (nI (top P))) (rfl) ?_
  refine lv_istore_n (lv' := [(1, .int (nI (top P))), (0, .ref (a 0))]) F.1 F.2.1 dX8_tick_4 rfl hl (by decide) rfl (fun ls hl => ?_)
  refine lv_aload_n F.1 F.2.1 dX8_tick_5 rfl (lv_at hl 1 rfl) ?_
  refine r_get F w 0 0 iX8 f7 rfl rfl rfl (by decide) rfl dX8_tick_6 ?_
  refine lv_bipush (v := nI 17) F.1 F.2.1 dX8_tick_9 (by decide) ?_
  refine lv_aload_n F.1 F.2.1 dX8_tick_11 rfl (lv_at hl 1 rfl) ?_
  refine lv_iload_n F.1 F.2.1 dX8_tick_12 rfl (lv_at hl 0 rfl) ?_
  refine r_callVI (rest := [.int (nI 17), .ref (a 1)]) F w (c_X8_reasonNow l G a P Sp Hs T N sc tl tp fa fr fn (by omega) ht (by omega) (by omega) hD.2.2.2.2) gX8_tick_X8_reasonNow [0, 1, 2, 3, 4, 5] [] (nA0 := 1) rfl (by decide +kernel) rfl ⟨Nat.le_of_ble_eq_true rfl, Nat.le_of_ble_eq_true rfl⟩ ⟨Nat.le_of_ble_eq_true rfl, Nat.le_of_ble_eq_true rfl⟩ rfl rfl rfl rfl rfl rfl rfl hl rfl (Nat.le_of_ble_eq_true rfl) dX8_tick_13 (fun r_13 w1 H locs hp w => ?_)
  obtain ⟨rfl, rfl⟩ := hp
  have w := w.sub (ws' := mW G a P Sp Hs sc T tl tp fa fr fn N) [0, 1, 2, 3, 4, 5] (by decide) rfl
  refine r_top (fun rs e_rs => ?_)
  refine r_iast (ws' := mW G a (up P 17 rs) Sp Hs sc T tl tp fa fr fn N) F w 1 rfl (by omega) (by decide) dX8_tick_16 rfl (fun H locs w => ?_)
  refine lv_aload_n F.1 F.2.1 dX8_tick_17 rfl (lv_at hl 1 rfl) ?_
  refine r_get F w 0 0 iX8 f7 rfl rfl rfl (by decide) rfl dX8_tick_18 ?_
  refine lv_bipush (v := nI 18) F.1 F.2.1 dX8_tick_21 (by decide) ?_
  refine lv_dup2_11 F.1 F.2.1 dX8_tick_23 rfl rfl ?_
  refine r_iald F w 1 rfl (by omega) (by decide) dX8_tick_24 ?_
  refine r_to (y := nI (P 18)) (congrArg nI (up_n _ _ (by decide))) ?_
  have L40 :  ∀ (H : Heap) (locs : List Loc), Wd G s (va_A (mW G a P Sp Hs sc T tl tp fa fr fn N) s.heap.size) (mW G a (up P 17 rs) Sp Hs sc T tl tp fa fr fn N) H locs → ∀ ls : Array Slot, lv_has ls 3 [(1, .int (nI (top P))), (0, .ref (a 0))] → W p l e (rmK 4 0 0) s m args below meth c H locs 0 0 (MQ below (QV G (mW G a P Sp Hs sc T tl tp fa fr fn N) s.heap.size (fun v => v = mW G a (tickF P) Sp Hs sc T tl tp fa fr fn N)) args s 0 0 (va_A (mW G a P Sp Hs sc T tl tp fa fr fn N) s.heap.size)) (F0 m 40 ls [.int (nI (if 0 < rs then 1 else 0)), .int (nI (P 18)), .int (nI 18), .ref (a 1)]) := by
    intro  H locs w ls hl
    refine r_iadd F dX8_tick_40 ?_
    refine r_iast (ws' := mW G a (up (up P 17 rs) 18 ((P 18) + (if 0 < rs then 1 else 0))) Sp Hs sc T tl tp fa fr fn N) F w 1 rfl (by omega) (by decide) dX8_tick_41 rfl (fun H locs w => ?_)
    have w := w.is (ws' := mW G a (tk1 P) Sp Hs sc T tl tp fa fr fn N) (by rw [e_rs]; rfl)
    have L57 :  ∀ (H : Heap) (locs : List Loc), Wd G s (va_A (mW G a P Sp Hs sc T tl tp fa fr fn N) s.heap.size) (mW G a (tk2 P) Sp Hs sc T tl tp fa fr fn N) H locs → ∀ ls : Array Slot, lv_has ls 3 [(1, .int (nI (top P))), (0, .ref (a 0))] → W p l e (rmK 4 0 0) s m args below meth c H locs 0 0 (MQ below (QV G (mW G a P Sp Hs sc T tl tp fa fr fn N) s.heap.size (fun v => v = mW G a (tickF P) Sp Hs sc T tl tp fa fr fn N)) args s 0 0 (va_A (mW G a P Sp Hs sc T tl tp fa fr fn N) s.heap.size)) (F0 m 57 ls []) := by
      intro  H locs w ls hl
      refine lv_iconst (v := nI 0) F.1 F.2.1 dX8_tick_57 (by decide) ?_
      refine lv_istore_n (lv' := [(2, .int (nI 0)), (1, .int (nI (top P))), (0, .ref (a 0))]) F.1 F.2.1 dX8_tick_58 rfl hl (by decide) rfl (fun ls hl => ?_)
      have L59 : ∀ n : Nat, ∀ (k : Nat), (k ≤ 4) → 4 - k < n → ∀ (H : Heap) (locs : List Loc), Wd G s (va_A (mW G a P Sp Hs sc T tl tp fa fr fn N) s.heap.size) (mW G a (drs (tk2 P) k) Sp Hs sc T tl tp fa fr fn N) H locs → ∀ ls : Array Slot, lv_has ls 3 [(0, .ref (a 0)), (2, .int (nI k))] → W p l e (rmK 4 0 0) s m args below meth c H locs 0 0 (MQ below (QV G (mW G a P Sp Hs sc T tl tp fa fr fn N) s.heap.size (fun v => v = mW G a (tickF P) Sp Hs sc T tl tp fa fr fn N)) args s 0 0 (va_A (mW G a P Sp Hs sc T tl tp fa fr fn N) s.heap.size)) (F0 m 59 ls []) := by
        intro n
        induction n with
        | zero => intro k h1 hm; exact absurd hm (Nat.not_lt_zero _)
        | succ n ih59 =>
          intro k h1 hm59 H locs w ls hl
          refine lv_iload_n F.1 F.2.1 dX8_tick_59 rfl (lv_at hl 1 rfl) ?_
          refine lv_iconst (v := nI 4) F.1 F.2.1 dX8_tick_60 (by decide) ?_
          refine r_cge (tgt := 84) F dX8_tick_61 (by decide) (by omega) (by omega) (fun c61 => ?_) (fun c61 => ?_)
          · skip
            have w := w.is (ws' := mW G a (drs (tk2 P) 4) Sp Hs sc T tl tp fa fr fn N) (by rw [show k = 4 by omega])
            refine lv_aload_n F.1 F.2.1 dX8_tick_84 rfl (lv_at hl 0 rfl) ?_
            refine r_get F w 0 0 iX8 f7 rfl rfl rfl (by decide) rfl dX8_tick_85 ?_
            refine lv_bipush (v := nI 16) F.1 F.2.1 dX8_tick_88 (by decide) ?_
            refine lv_dup2_11 F.1 F.2.1 dX8_tick_90 rfl rfl ?_
            refine r_iald F w 1 rfl (by omega) (by decide) dX8_tick_91 ?_
            refine lv_iconst (v := nI 1) F.1 F.2.1 dX8_tick_92 (by decide) ?_
            refine r_iadd F dX8_tick_93 ?_
            refine r_iast (ws' := mW G a (up (drs (tk2 P) 4) 16 (((drs (tk2 P) 4) 16) + 1)) Sp Hs sc T tl tp fa fr fn N) F w 1 rfl (by omega) (by decide) dX8_tick_94 rfl (fun H locs w => ?_)
            have w := w.is (ws' := mW G a (tk4 P) Sp Hs sc T tl tp fa fr fn N) (rfl)
            refine lv_aload_n F.1 F.2.1 dX8_tick_95 rfl (lv_at hl 0 rfl) ?_
            refine r_callVV (rest := []) F w (c_X8_seals l G a (tk4 P) Sp Hs T N sc tl tp fa fr fn (tk4_d hD) (by rw [tk4_same hD (by omega)]; exact hI.2.2.2.2.2.1.1)) gX8_tick_X8_seals [0, 1, 2, 3, 4, 5] [] (nA0 := 0) rfl (by decide +kernel) rfl ⟨Nat.le_of_ble_eq_true rfl, Nat.le_of_ble_eq_true rfl⟩ ⟨Nat.le_of_ble_eq_true rfl, Nat.le_of_ble_eq_true rfl⟩ rfl rfl rfl rfl rfl rfl rfl hl rfl (Nat.le_of_ble_eq_true rfl) dX8_tick_96 (fun w1 H locs hp w => ?_)
            obtain rfl := hp
            have w := w.sub (ws' := mW G a (sealF (tk4 P)) Sp Hs sc T tl tp fa fr fn N) [0, 1, 2, 3, 4, 5] (by decide) rfl
            exact r_return F w dX8_tick_99 (rfl)
          · skip
            refine lv_aload_n F.1 F.2.1 dX8_tick_64 rfl (lv_at hl 0 rfl) ?_
            refine lv_iload_n F.1 F.2.1 dX8_tick_65 rfl (lv_at hl 1 rfl) ?_
            refine lv_iconst (v := nI 0) F.1 F.2.1 dX8_tick_66 (by decide) ?_
            refine r_callVI (rest := []) F w (c_X8_ofLine l G a (drs (tk2 P) k) Sp Hs T N sc tl tp fa fr fn k 0 (by omega)) gX8_tick_X8_ofLine [0, 1, 2, 3, 4, 5] [] (nA0 := 2) rfl (by decide +kernel) rfl ⟨Nat.le_of_ble_eq_true rfl, Nat.le_of_ble_eq_true rfl⟩ ⟨Nat.le_of_ble_eq_true rfl, Nat.le_of_ble_eq_true rfl⟩ rfl rfl rfl rfl rfl rfl rfl hl rfl (Nat.le_of_ble_eq_true rfl) dX8_tick_67 (fun r_67 w1 H locs hp w => ?_)
            obtain ⟨rfl, rfl⟩ := hp
            have w := w.sub (ws' := mW G a (drs (tk2 P) k) Sp Hs sc T tl tp fa fr fn N) [0, 1, 2, 3, 4, 5] (by decide) rfl
            refine r_to (y := (nI ((drs (tk2 P) k) (26 + 5 * k)))) (rfl) ?_
            refine r_zne (tgt := 78) F dX8_tick_70 (by decide) (by have := ((drs_ok (tk2_d hD).1 k h1).1.2.2.2.2 k c61).1; omega) (fun c70 => ?_) (fun c70 => ?_)
            · skip
              refine lv_iinc (v := nI (k + 1)) (lv' := [(2, .int (nI (k + 1))), (0, .ref (a 0))]) F.1 F.2.1 dX8_tick_78 hl (k := 1) rfl (nI_add _ _) (by decide) rfl (fun ls hl => ?_)
              refine lv_goto (tgt := 59) F.1 F.2.1 dX8_tick_81 (by decide) ?_
              have w := w.is (ws' := mW G a (drs (tk2 P) (k + 1)) Sp Hs sc T tl tp fa fr fn N) (by show _ = mW G a (drO (drs (tk2 P) k) k) Sp Hs sc T tl tp fa fr fn N; unfold drO; first | rw [if_pos c70] | rw [if_neg c70])
              exact ih59 (k + 1) (by omega) (by omega) _ _ w ls (lv_sub hl [1, 0] rfl)
            · skip
              refine lv_aload_n F.1 F.2.1 dX8_tick_73 rfl (lv_at hl 0 rfl) ?_
              refine lv_iload_n F.1 F.2.1 dX8_tick_74 rfl (lv_at hl 1 rfl) ?_
              refine r_callVV (rest := []) F w (c_X8_draws l G a (drs (tk2 P) k) Sp Hs T N sc tl tp fa fr fn k c61 (drs_ok (tk2_d hD).1 k h1).1) gX8_tick_X8_draws [0, 1, 2, 3, 4, 5] [] (nA0 := 1) rfl (by decide +kernel) rfl ⟨Nat.le_of_ble_eq_true rfl, Nat.le_of_ble_eq_true rfl⟩ ⟨Nat.le_of_ble_eq_true rfl, Nat.le_of_ble_eq_true rfl⟩ rfl rfl rfl rfl rfl rfl rfl hl rfl (Nat.le_of_ble_eq_true rfl) dX8_tick_75 (fun w1 H locs hp w => ?_)
              obtain rfl := hp
              have w := w.sub (ws' := mW G a (drawF (drs (tk2 P) k) k) Sp Hs sc T tl tp fa fr fn N) [0, 1, 2, 3, 4, 5] (by decide) rfl
              refine lv_iinc (v := nI (k + 1)) (lv' := [(2, .int (nI (k + 1))), (0, .ref (a 0))]) F.1 F.2.1 dX8_tick_78 hl (k := 1) rfl (nI_add _ _) (by decide) rfl (fun ls hl => ?_)
              refine lv_goto (tgt := 59) F.1 F.2.1 dX8_tick_81 (by decide) ?_
              have w := w.is (ws' := mW G a (drs (tk2 P) (k + 1)) Sp Hs sc T tl tp fa fr fn N) (by show _ = mW G a (drO (drs (tk2 P) k) k) Sp Hs sc T tl tp fa fr fn N; unfold drO; first | rw [if_pos c70] | rw [if_neg c70])
              exact ih59 (k + 1) (by omega) (by omega) _ _ w ls (lv_sub hl [1, 0] rfl)
      exact L59 _ 0 (Nat.zero_le _) (Nat.lt_succ_self _) _ _ w ls (lv_sub hl [2, 0] rfl)
    refine lv_aload_n F.1 F.2.1 dX8_tick_42 rfl (lv_at hl 1 rfl) ?_
    refine r_get F w 0 0 iX8 f7 rfl rfl rfl (by decide) rfl dX8_tick_43 ?_
    refine lv_bipush (v := nI 17) F.1 F.2.1 dX8_tick_46 (by decide) ?_
    refine r_iald F w 1 rfl (by omega) (by decide) dX8_tick_48 ?_
    refine r_to (y := (nI rs)) (congrArg nI ((tk1_17 P).trans e_rs.symm)) ?_
    refine r_zne (tgt := 57) F dX8_tick_49 (by decide) (by omega) (fun c49 => ?_) (fun c49 => ?_)
    · skip
      have w := w.is (ws' := mW G a (tk2 P) Sp Hs sc T tl tp fa fr fn N) (by unfold tk2; first | rw [if_pos (by omega)] | rw [if_neg (by omega)])
      exact L57  _ _ w ls (lv_sub hl [0, 1] rfl)
    · skip
      refine lv_aload_n F.1 F.2.1 dX8_tick_52 rfl (lv_at hl 1 rfl) ?_
      refine lv_iload_n F.1 F.2.1 dX8_tick_53 rfl (lv_at hl 0 rfl) ?_
      refine r_callVV (rest := []) F w (c_X8_meltsT l G a (tk1 P) Sp Hs T N sc tl tp fa fr fn (top P) (tk1_d hD).1 (tk1_d hD).2.1 (tk1_d hD).2.2.1 (tk1_d hD).2.2.2.1 (by rw [tk1_o P (by decide) (by decide)]; omega) (low_congr (fun k hk => (tk1_o P (by omega) (by omega)).symm))) gX8_tick_X8_melts [0, 1, 2, 3, 4, 5] [] (nA0 := 1) rfl (by decide +kernel) rfl ⟨Nat.le_of_ble_eq_true rfl, Nat.le_of_ble_eq_true rfl⟩ ⟨Nat.le_of_ble_eq_true rfl, Nat.le_of_ble_eq_true rfl⟩ rfl rfl rfl rfl rfl rfl rfl hl rfl (Nat.le_of_ble_eq_true rfl) dX8_tick_54 (fun w1 H locs hp w => ?_)
      obtain rfl := hp
      have w := w.sub (ws' := mW G a (meltF (tk1 P)) Sp Hs sc T tl tp fa fr fn N) [0, 1, 2, 3, 4, 5] (by decide) rfl
      have w := w.is (ws' := mW G a (tk2 P) Sp Hs sc T tl tp fa fr fn N) (by unfold tk2; first | rw [if_pos (by omega)] | rw [if_neg (by omega)])
      exact L57  _ _ w ls (lv_sub hl [0, 1] rfl)
  refine lv_aload_n F.1 F.2.1 dX8_tick_25 rfl (lv_at hl 1 rfl) ?_
  refine r_get F w 0 0 iX8 f7 rfl rfl rfl (by decide) rfl dX8_tick_26 ?_
  refine lv_bipush (v := nI 17) F.1 F.2.1 dX8_tick_29 (by decide) ?_
  refine r_iald F w 1 rfl (by omega) (by decide) dX8_tick_31 ?_
  refine r_to (y := nI rs) (congrArg nI (up_s _ _ _)) ?_
  refine r_zle (tgt := 39) F dX8_tick_32 (by decide) (by omega) (fun c32 => ?_) (fun c32 => ?_)
  · skip
    refine lv_iconst (v := nI 0) F.1 F.2.1 dX8_tick_39 (by decide) ?_
    refine r_to (y := (nI (if 0 < rs then 1 else 0))) (congrArg nI (by first | rw [if_pos (by omega)] | rw [if_neg (by omega)])) ?_
    exact L40  _ _ w ls (lv_sub hl [0, 1] rfl)
  · skip
    refine lv_iconst (v := nI 1) F.1 F.2.1 dX8_tick_35 (by decide) ?_
    refine lv_goto (tgt := 40) F.1 F.2.1 dX8_tick_36 (by decide) ?_
    refine r_to (y := (nI (if 0 < rs then 1 else 0))) (congrArg nI (by first | rw [if_pos (by omega)] | rw [if_neg (by omega)])) ?_
    exact L40  _ _ w ls (lv_sub hl [0, 1] rfl)
set_option maxRecDepth 100000 in
set_option maxHeartbeats 4000000 in
theorem c_X8_goBy (l : Launch) (G : KG) (a P Sp Hs T N : Nat → Nat) (sc tl tp fa fr fn : Nat) (q : Nat) (hI : Inv P) (hn : P 16 + q ≤ 20000) : MetV l yX8_goBy wsX8_goBy 5 0 0 G (mW G a P Sp Hs sc T tl tp fa fr fn N) [.ref (a 0), .int (nI q)] (fun v => v = mW G a (itF P q) Sp Hs sc T tl tp fa fr fn N) := by
  refine MetV.by (cc := cX8_goBy) (nL := 3) (ret := none) (by decide +kernel) rfl (Nat.le_of_ble_eq_true rfl) ?_
  intro p e s m args below meth c F hname w ls hl
  have hl : lv_has ls 3 [(0, .ref (a 0)), (1, .int (nI q))] := hl
  have hts := F.ts
  refine lv_iconst (v := nI 0) F.1 F.2.1 dX8_goBy_0 (by decide) ?_
  refine lv_istore_n (lv' := [(2, .int (nI 0)), (0, .ref (a 0)), (1, .int (nI q))]) F.1 F.2.1 dX8_goBy_1 rfl hl (by decide) rfl (fun ls hl => ?_)
  have L2 : ∀ n : Nat, ∀ (k : Nat), (k ≤ q) → q - k < n → ∀ (H : Heap) (locs : List Loc), Wd G s (va_A (mW G a P Sp Hs sc T tl tp fa fr fn N) s.heap.size) (mW G a (itF P k) Sp Hs sc T tl tp fa fr fn N) H locs → ∀ ls : Array Slot, lv_has ls 3 [(0, .ref (a 0)), (1, .int (nI q)), (2, .int (nI k))] → W p l e (rmK 5 0 0) s m args below meth c H locs 0 0 (MQ below (QV G (mW G a P Sp Hs sc T tl tp fa fr fn N) s.heap.size (fun v => v = mW G a (itF P q) Sp Hs sc T tl tp fa fr fn N)) args s 0 0 (va_A (mW G a P Sp Hs sc T tl tp fa fr fn N) s.heap.size)) (F0 m 2 ls []) := by
    intro n
    induction n with
    | zero => intro k h1 hm; exact absurd hm (Nat.not_lt_zero _)
    | succ n ih2 =>
      intro k h1 hm2 H locs w ls hl
      refine lv_iload_n F.1 F.2.1 dX8_goBy_2 rfl (lv_at hl 2 rfl) ?_
      refine lv_iload_n F.1 F.2.1 dX8_goBy_3 rfl (lv_at hl 1 rfl) ?_
      refine r_cge (tgt := 17) F dX8_goBy_4 (by decide) (by omega) (by omega) (fun c4 => ?_) (fun c4 => ?_)
      · skip
        exact r_return F w dX8_goBy_17 (by rw [show k = q by omega])
      · skip
        refine lv_aload_n F.1 F.2.1 dX8_goBy_7 rfl (lv_at hl 0 rfl) ?_
        refine r_callVV (rest := []) F w (c_X8_tick l G a (itF P k) Sp Hs T N sc tl tp fa fr fn (it_ok hI k (by omega)).1) gX8_goBy_X8_tick [0, 1, 2, 3, 4, 5] [] (nA0 := 0) rfl (by decide +kernel) rfl ⟨Nat.le_of_ble_eq_true rfl, Nat.le_of_ble_eq_true rfl⟩ ⟨Nat.le_of_ble_eq_true rfl, Nat.le_of_ble_eq_true rfl⟩ rfl rfl rfl rfl rfl rfl rfl hl rfl (Nat.le_of_ble_eq_true rfl) dX8_goBy_8 (fun w1 H locs hp w => ?_)
        obtain rfl := hp
        have w := w.sub (ws' := mW G a (tickF (itF P k)) Sp Hs sc T tl tp fa fr fn N) [0, 1, 2, 3, 4, 5] (by decide) rfl
        refine lv_iinc (v := nI (k + 1)) (lv' := [(2, .int (nI (k + 1))), (0, .ref (a 0)), (1, .int (nI q))]) F.1 F.2.1 dX8_goBy_11 hl (k := 2) rfl (nI_add _ _) (by decide) rfl (fun ls hl => ?_)
        refine lv_goto (tgt := 2) F.1 F.2.1 dX8_goBy_14 (by decide) ?_
        exact ih2 (k + 1) (by omega) (by omega) _ _ w ls (lv_sub hl [1, 2, 0] rfl)
  exact L2 _ 0 (Nat.zero_le _) (Nat.lt_succ_self _) _ _ w ls (lv_sub hl [1, 2, 0] rfl)
