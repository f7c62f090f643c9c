set_option maxRecDepth 100000 in
set_option maxHeartbeats 4000000 in
theorem c_X8_stuck (l : Launch) (G : KG) (a P Sp Hs T N : Nat → Nat) (sc tl tp fa fr fn : Nat) : MetI l yX8_stuck wsX8_stuck 1 G (mW G a P Sp Hs sc T tl tp fa fr fn N) [.ref (a 0)] (fun r v => r = nI (stuckN P) ∧ v = mW G a P Sp Hs sc T tl tp fa fr fn N) := by
  refine MetI.by (cc := cX8_stuck) (nL := 3) (ret := some .int) (by decide +kernel) rfl (Nat.le_of_ble_eq_true rfl) ?_
  intro p e s m args below meth c F w ls hl
  have hl : lv_has ls 3 [(0, .ref (a 0))] := hl
  have hts := F.ts
  refine lv_iconst (v := nI 0) F.1 F.2.1 dX8_stuck_0 (by decide) ?_
  refine lv_istore_n (lv' := [(1, .int (nI 0)), (0, .ref (a 0))]) F.1 F.2.1 dX8_stuck_1 rfl hl (by decide) rfl (fun ls hl => ?_)
  refine lv_iconst (v := nI 0) F.1 F.2.1 dX8_stuck_2 (by decide) ?_
  refine lv_istore_n (lv' := [(2, .int (nI 0)), (1, .int (nI 0)), (0, .ref (a 0))]) F.1 F.2.1 dX8_stuck_3 rfl hl (by decide) rfl (fun ls hl => ?_)
  have L4 : ∀ n : Nat, ∀ (k : Nat), (k ≤ 4) → 4 - k < n → ∀ (H : Heap) (locs : List Loc), Wd G s (va_A (mW G a P Sp Hs sc T tl tp fa fr fn N) s.heap.size) (mW G a P Sp Hs sc T tl tp fa fr fn N) H locs → ∀ ls : Array Slot, lv_has ls 3 [(0, .ref (a 0)), (1, .int (nI (low (fun j => P (26 + 5 * j)) k))), (2, .int (nI k))] → W p l e (rmK 1 0 0) s m args below meth c H locs 0 0 (MQ below (QI G (mW G a P Sp Hs sc T tl tp fa fr fn N) s.heap.size (fun r v => r = nI (stuckN P) ∧ v = mW G a P Sp Hs sc T tl tp fa fr fn N)) args s 0 0 (va_A (mW G a P Sp Hs sc T tl tp fa fr fn N) s.heap.size)) (F0 m 4 ls []) := by
    intro n
    induction n with
    | zero => intro k h1 hm; exact absurd hm (Nat.not_lt_zero _)
    | succ n ih4 =>
      intro k h1 hm4 H locs w ls hl
      refine lv_iload_n F.1 F.2.1 dX8_stuck_4 rfl (lv_at hl 2 rfl) ?_
      refine lv_iconst (v := nI 4) F.1 F.2.1 dX8_stuck_5 (by decide) ?_
      refine r_cge (tgt := 24) F dX8_stuck_6 (by decide) (by omega) (by omega) (fun c6 => ?_) (fun c6 => ?_)
      · skip
        refine lv_iload_n F.1 F.2.1 dX8_stuck_24 rfl (lv_at hl 1 rfl) ?_
        exact r_ireturn F w dX8_stuck_25 (⟨by rw [show k = 4 by omega]; exact congrArg nI (by simp [low, stuckN]), rfl⟩)
      · skip
        refine lv_iload_n F.1 F.2.1 dX8_stuck_9 rfl (lv_at hl 1 rfl) ?_
        refine lv_aload_n F.1 F.2.1 dX8_stuck_10 rfl (lv_at hl 0 rfl) ?_
        refine lv_iload_n F.1 F.2.1 dX8_stuck_11 rfl (lv_at hl 2 rfl) ?_
        refine lv_iconst (v := nI 0) F.1 F.2.1 dX8_stuck_12 (by decide) ?_
        refine r_callVI (rest := [.int (nI (low (fun j => P (26 + 5 * j)) k))]) F w (c_X8_ofLine l G a P Sp Hs T N sc tl tp fa fr fn k 0 (by omega)) gX8_stuck_X8_ofLine [0, 1, 2, 3, 4, 5] [] (nA0 := 2) rfl (by decide +kernel) rfl ⟨Nat.le_of_ble_eq_true rfl, Nat.le_of_ble_eq_true rfl⟩ ⟨Nat.le_of_ble_eq_true rfl, Nat.le_of_ble_eq_true rfl⟩ rfl rfl rfl rfl rfl rfl rfl hl rfl (Nat.le_of_ble_eq_true rfl) dX8_stuck_13 (fun r_13 w1 H locs hp w => ?_)
        obtain ⟨rfl, rfl⟩ := hp
        have w := w.sub (ws' := mW G a P Sp Hs sc T tl tp fa fr fn N) [0, 1, 2, 3, 4, 5] (by decide) rfl
        refine r_to (y := (nI (P (26 + 5 * k)))) (rfl) ?_
        refine r_iadd F dX8_stuck_16 ?_
        refine lv_istore_n (lv' := [(1, .int (nI ((low (fun j => P (26 + 5 * j)) k) + (P (26 + 5 * k))))), (0, .ref (a 0)), (2, .int (nI k))]) F.1 F.2.1 dX8_stuck_17 rfl hl (by decide) rfl (fun ls hl => ?_)
        refine lv_iinc (v := nI (k + 1)) (lv' := [(2, .int (nI (k + 1))), (1, .int (nI ((low (fun j => P (26 + 5 * j)) k) + (P (26 + 5 * k))))), (0, .ref (a 0))]) F.1 F.2.1 dX8_stuck_18 hl (k := 2) rfl (nI_add _ _) (by decide) rfl (fun ls hl => ?_)
        refine lv_goto (tgt := 4) F.1 F.2.1 dX8_stuck_21 (by decide) ?_
        exact ih4 (k + 1) (by omega) (by omega) _ _ w ls (lv_sub hl [2, 1, 0] rfl)
  exact L4 _ 0 (Nat.zero_le _) (Nat.lt_succ_self _) _ _ w ls (lv_sub hl [2, 1, 0] rfl)
set_option maxRecDepth 100000 in
set_option maxHeartbeats 4000000 in
theorem c_X8_reasonNow (l : Launch) (G : KG) (a P Sp Hs T N : Nat → Nat) (sc tl tp fa fr fn : Nat) (h9 : P 9 ≤ 6000) (ht : top P ≤ 6000) (h11 : P 11 ≤ 1000000) (h2 : P 2 ≤ 20000) (hL : LinOk P) : MetI l yX8_reasonNow wsX8_reasonNow 2 G (mW G a P Sp Hs sc T tl tp fa fr fn N) [.ref (a 0), .int (nI (top P))] (fun r v => r = nI (reasonF P) ∧ v = mW G a P Sp Hs sc T tl tp fa fr fn N) := by
  refine MetI.by (cc := cX8_reasonNow) (nL := 2) (ret := some .int) (by decide +kernel) rfl (Nat.le_of_ble_eq_true rfl) ?_
  intro p e s m args below meth c F w ls hl
  have hl : lv_has ls 2 [(0, .ref (a 0)), (1, .int (nI (top P)))] := hl
  have hts := F.ts
  have iX8 : ∀ w ∈ wsX80, w ∈ wsX8_reasonNow := by decide +kernel
  have f7 := hts (.fieldLink RX8 7 "CoreMelterModel" "m" "[I") (by decide +kernel)
  have e0 := (hL 0 (by decide)).1
  have e1 := (hL 1 (by decide)).1
  have e2 := (hL 2 (by decide)).1
  have e3 := (hL 3 (by decide)).1
  have hsn : stuckN P ≤ 4 := by show P 26 + P 31 + P 36 + P 41 ≤ 4; simp only [Nat.mul_zero, Nat.add_zero, Nat.reduceMul, Nat.reduceAdd] at e0 e1 e2 e3; omega
  refine lv_aload_n F.1 F.2.1 dX8_reasonNow_0 rfl (lv_at hl 0 rfl) ?_
  refine r_get F w 0 0 iX8 f7 rfl rfl rfl (by decide) rfl dX8_reasonNow_1 ?_
  refine lv_bipush (v := nI 9) F.1 F.2.1 dX8_reasonNow_4 (by decide) ?_
  refine r_iald F w 1 rfl (by omega) (by decide) dX8_reasonNow_6 ?_
  refine lv_iload_n F.1 F.2.1 dX8_reasonNow_7 rfl (lv_at hl 1 rfl) ?_
  refine r_cne (tgt := 15) F dX8_reasonNow_8 (by decide) (by omega) (by omega) (fun c8 => ?_) (fun c8 => ?_)
  · skip
    refine lv_aload_n F.1 F.2.1 dX8_reasonNow_15 rfl (lv_at hl 0 rfl) ?_
    refine r_callVI (rest := []) F w (c_X8_stuck l G a P Sp Hs T N sc tl tp fa fr fn  ) gX8_reasonNow_X8_stuck [0, 1, 2, 3, 4, 5] [] (nA0 := 0) rfl (by decide +kernel) rfl ⟨Nat.le_of_ble_eq_true rfl, Nat.le_of_ble_eq_true rfl⟩ ⟨Nat.le_of_ble_eq_true rfl, Nat.le_of_ble_eq_true rfl⟩ rfl rfl rfl rfl rfl rfl rfl hl rfl (Nat.le_of_ble_eq_true rfl) dX8_reasonNow_16 (fun r_16 w1 H locs hp w => ?_)
    obtain ⟨rfl, rfl⟩ := hp
    have w := w.sub (ws' := mW G a P Sp Hs sc T tl tp fa fr fn N) [0, 1, 2, 3, 4, 5] (by decide) rfl
    refine lv_iconst (v := nI 4) F.1 F.2.1 dX8_reasonNow_19 (by decide) ?_
    refine r_cne (tgt := 27) F dX8_reasonNow_20 (by decide) (by omega) (by omega) (fun c20 => ?_) (fun c20 => ?_)
    · skip
      refine lv_aload_n F.1 F.2.1 dX8_reasonNow_27 rfl (lv_at hl 0 rfl) ?_
      refine r_get F w 0 0 iX8 f7 rfl rfl rfl (by decide) rfl dX8_reasonNow_28 ?_
      refine lv_bipush (v := nI 11) F.1 F.2.1 dX8_reasonNow_31 (by decide) ?_
      refine r_iald F w 1 rfl (by omega) (by decide) dX8_reasonNow_33 ?_
      refine lv_aload_n F.1 F.2.1 dX8_reasonNow_34 rfl (lv_at hl 0 rfl) ?_
      refine r_get F w 0 0 iX8 f7 rfl rfl rfl (by decide) rfl dX8_reasonNow_35 ?_
      refine lv_iconst (v := nI 2) F.1 F.2.1 dX8_reasonNow_38 (by decide) ?_
      refine r_iald F w 1 rfl (by omega) (by decide) dX8_reasonNow_39 ?_
      refine r_clt (tgt := 47) F dX8_reasonNow_40 (by decide) (by omega) (by omega) (fun c40 => ?_) (fun c40 => ?_)
      · skip
        refine lv_iconst (v := nI 0) F.1 F.2.1 dX8_reasonNow_47 (by decide) ?_
        exact r_ireturn F w dX8_reasonNow_48 (⟨congrArg nI (by unfold reasonF; first | rw [if_pos c8] | rw [if_neg c8, if_pos c20] | rw [if_neg c8, if_neg c20, if_pos (by omega)] | rw [if_neg c8, if_neg c20, if_neg (by omega)]), rfl⟩)
      · skip
        refine lv_iconst (v := nI 3) F.1 F.2.1 dX8_reasonNow_43 (by decide) ?_
        refine lv_goto (tgt := 48) F.1 F.2.1 dX8_reasonNow_44 (by decide) ?_
        exact r_ireturn F w dX8_reasonNow_48 (⟨congrArg nI (by unfold reasonF; first | rw [if_pos c8] | rw [if_neg c8, if_pos c20] | rw [if_neg c8, if_neg c20, if_pos (by omega)] | rw [if_neg c8, if_neg c20, if_neg (by omega)]), rfl⟩)
    · skip
      refine lv_iconst (v := nI 2) F.1 F.2.1 dX8_reasonNow_23 (by decide) ?_
      refine lv_goto (tgt := 48) F.1 F.2.1 dX8_reasonNow_24 (by decide) ?_
      exact r_ireturn F w dX8_reasonNow_48 (⟨congrArg nI (by unfold reasonF; first | rw [if_pos c8] | rw [if_neg c8, if_pos c20] | rw [if_neg c8, if_neg c20, if_pos (by omega)] | rw [if_neg c8, if_neg c20, if_neg (by omega)]), rfl⟩)
  · skip
    refine lv_iconst (v := nI 1) F.1 F.2.1 dX8_reasonNow_11 (by decide) ?_
    refine lv_goto (tgt := 48) F.1 F.2.1 dX8_reasonNow_12 (by decide) ?_
    exact r_ireturn F w dX8_reasonNow_48 (⟨congrArg nI (by unfold reasonF; first | rw [if_pos c8] | rw [if_neg c8, if_pos c20] | rw [if_neg c8, if_neg c20, if_pos (by omega)] | rw [if_neg c8, if_neg c20, if_neg (by omega)]), rfl⟩)
set_option maxRecDepth 100000 in
set_option maxHeartbeats 4000000 in
theorem c_X8_melts (l : Launch) (G : KG) (a P Sp Hs T N : Nat → Nat) (sc tl tp fa fr fn : Nat) (hS : SegOk P) (hT : SetOk P) (hM0 : MelOk P) (hD0 : DrOk P) (hb : P 10 ≤ 5000000) : MetV l yX8_melts wsX8_melts 3 0 0 G (mW G a P Sp Hs sc T tl tp fa fr fn N) [.ref (a 0), .int (nI (top P))] (fun v => v = mW G a (meltF P) Sp Hs sc T tl tp fa fr fn N) := by
  refine MetV.by (cc := cX8_melts) (nL := 4) (ret := none) (by decide +kernel) rfl (Nat.le_of_ble_eq_true rfl) ?_
  intro p e s m args below meth c F hname w ls hl
  have hl : lv_has ls 4 [(0, .ref (a 0)), (1, .int (nI (top P)))] := hl
  have hts := F.ts
  have iX8 : ∀ w ∈ wsX80, w ∈ wsX8_melts := by decide +kernel
  have f7 := hts (.fieldLink RX8 7 "CoreMelterModel" "m" "[I") (by decide +kernel)
  have ht := hS.top_le
  have hP0 := hT.1
  refine lv_aload_n F.1 F.2.1 dX8_melts_0 rfl (lv_at hl 0 rfl) ?_
  refine r_get F w 0 0 iX8 f7 rfl rfl rfl (by decide) rfl dX8_melts_1 ?_
  refine lv_bipush (v := nI 10) F.1 F.2.1 dX8_melts_4 (by decide) ?_
  refine lv_dup2_11 F.1 F.2.1 dX8_melts_6 rfl rfl ?_
  refine r_iald F w 1 rfl (by omega) (by decide) dX8_melts_7 ?_
  refine lv_aload_n F.1 F.2.1 dX8_melts_8 rfl (lv_at hl 0 rfl) ?_
  refine r_get F w 0 0 iX8 f7 rfl rfl rfl (by decide) rfl dX8_melts_9 ?_
  refine lv_iconst (v := nI 0) F.1 F.2.1 dX8_melts_12 (by decide) ?_
  refine r_iald F w 1 rfl (by omega) (by decide) dX8_melts_13 ?_
  refine r_iadd F dX8_melts_14 ?_
  refine r_iast (ws' := mW G a (up P 10 ((P 10) + (P 0))) Sp Hs sc T tl tp fa fr fn N) F w 1 rfl (by omega) (by decide) dX8_melts_15 rfl (fun H locs w => ?_)
  refine lv_iconst (v := nI 1) F.1 F.2.1 dX8_melts_16 (by decide) ?_
  refine lv_istore_n (lv' := [(2, .int (nI 1)), (0, .ref (a 0)), (1, .int (nI (top P)))]) F.1 F.2.1 dX8_melts_17 rfl hl (by decide) rfl (fun ls hl => ?_)
  have L18 : ∀ n : Nat, ∀ (Z : Nat → Nat) (f : Nat), (AgM P Z) → (MelOk Z) → (DrOk Z) → (Z 10 ≤ P 10 + P 0) → (melL f Z = melL 6001 (up P 10 (P 10 + P 0))) → (top P - Z 9 < f) → top P - Z 9 < n → ∀ (H : Heap) (locs : List Loc), Wd G s (va_A (mW G a P Sp Hs sc T tl tp fa fr fn N) s.heap.size) (mW G a Z Sp Hs sc T tl tp fa fr fn N) H locs → ∀ ls : Array Slot, lv_has ls 4 [(0, .ref (a 0)), (1, .int (nI (top P))), (2, .int (nI 1))] → W p l e (rmK 3 0 0) s m args below meth c H locs 0 0 (MQ below (QV G (mW G a P Sp Hs sc T tl tp fa fr fn N) s.heap.size (fun v => v = mW G a (meltF P) Sp Hs sc T tl tp fa fr fn N)) args s 0 0 (va_A (mW G a P Sp Hs sc T tl tp fa fr fn N) s.heap.size)) (F0 m 18 ls []) := by
    intro n
    induction n with
    | zero => intro Z f hA hM hD h10 hR hf hm; exact absurd hm (Nat.not_lt_zero _)
    | succ n ih18 =>
      intro Z f hA hM hD h10 hR hf hm18 H locs w ls hl
      refine lv_iload_n F.1 F.2.1 dX8_melts_18 rfl (lv_at hl 2 rfl) ?_
      refine r_zeq (tgt := 127) F dX8_melts_19 (by decide) (by omega) (fun c19 => ?_) (fun c19 => ?_)
      · exact absurd c19 (by decide)
      · skip
        have hSZ := hA.seg hS
        have hTZ := hA.set hT
        have hbZ : DInv Z ∨ True := Or.inr trivial
        have h9 : Z 9 ≤ 6000 := by have := hM.1; rw [hA.top] at this; omega
        have h11 : Z 11 ≤ 552000 := by have := wat_bound (ln := lnP Z) (dn := dnP Z) (d := Z 9) (n := Z 8) hSZ.dn_le; have h3 : min (Z 9) (low (lnP Z) (Z 8)) ≤ Z 9 := Nat.min_le_left _ _; have := hM.2.1; have := hD.1; omega
        obtain ⟨t0, t1, t2, t3, t4, t5, t6, t7, t8, t9, t10, t11, t12, t13⟩ := hTZ
        refine lv_aload_n F.1 F.2.1 dX8_melts_22 rfl (lv_at hl 0 rfl) ?_
        refine r_get F w 0 0 iX8 f7 rfl rfl rfl (by decide) rfl dX8_melts_23 ?_
        refine lv_bipush (v := nI 9) F.1 F.2.1 dX8_melts_26 (by decide) ?_
        refine r_iald F w 1 rfl (by omega) (by decide) dX8_melts_28 ?_
        refine lv_iload_n F.1 F.2.1 dX8_melts_29 rfl (lv_at hl 1 rfl) ?_
        refine r_cge (tgt := 127) F dX8_melts_30 (by decide) (by omega) (by omega) (fun c30 => ?_) (fun c30 => ?_)
        · skip
          have hZR : Z = melL 6001 (up P 10 (P 10 + P 0)) := by rw [← hR]; exact (melL_stop1 (by rw [hA.top]; exact c30) f).symm
          refine lv_aload_n F.1 F.2.1 dX8_melts_127 rfl (lv_at hl 0 rfl) ?_
          refine r_get F w 0 0 iX8 f7 rfl rfl rfl (by decide) rfl dX8_melts_128 ?_
          refine lv_bipush (v := nI 10) F.1 F.2.1 dX8_melts_131 (by decide) ?_
          refine lv_aload_n F.1 F.2.1 dX8_melts_133 rfl (lv_at hl 0 rfl) ?_
          refine r_get F w 0 0 iX8 f7 rfl rfl rfl (by decide) rfl dX8_melts_134 ?_
          refine lv_bipush (v := nI 9) F.1 F.2.1 dX8_melts_137 (by decide) ?_
          refine r_iald F w 1 rfl (by omega) (by decide) dX8_melts_139 ?_
          refine lv_iload_n F.1 F.2.1 dX8_melts_140 rfl (lv_at hl 1 rfl) ?_
          refine r_cne (tgt := 148) F dX8_melts_141 (by decide) (by omega) (by omega) (fun c141 => ?_) (fun c141 => ?_)
          · skip
            refine lv_aload_n F.1 F.2.1 dX8_melts_148 rfl (lv_at hl 0 rfl) ?_
            refine r_get F w 0 0 iX8 f7 rfl rfl rfl (by decide) rfl dX8_melts_149 ?_
            refine lv_bipush (v := nI 10) F.1 F.2.1 dX8_melts_152 (by decide) ?_
            refine r_iald F w 1 rfl (by omega) (by decide) dX8_melts_154 ?_
            refine r_iast (ws' := mW G a (up Z 10 (Z 10)) Sp Hs sc T tl tp fa fr fn N) F w 1 rfl (by omega) (by decide) dX8_melts_155 rfl (fun H locs w => ?_)
            exact r_return F w dX8_melts_156 (by unfold meltF; rw [← hZR]; first | rw [if_pos c141] | rw [if_neg c141])
          · skip
            refine lv_iconst (v := nI 0) F.1 F.2.1 dX8_melts_144 (by decide) ?_
            refine lv_goto (tgt := 155) F.1 F.2.1 dX8_melts_145 (by decide) ?_
            refine r_iast (ws' := mW G a (up Z 10 0) Sp Hs sc T tl tp fa fr fn N) F w 1 rfl (by omega) (by decide) dX8_melts_155 rfl (fun H locs w => ?_)
            exact r_return F w dX8_melts_156 (by unfold meltF; rw [← hZR]; first | rw [if_pos c141] | rw [if_neg c141])
        · skip
          refine lv_aload_n F.1 F.2.1 dX8_melts_33 rfl (lv_at hl 0 rfl) ?_
          refine r_get F w 0 0 iX8 f7 rfl rfl rfl (by decide) rfl dX8_melts_34 ?_
          refine lv_bipush (v := nI 11) F.1 F.2.1 dX8_melts_37 (by decide) ?_
          refine r_iald F w 1 rfl (by omega) (by decide) dX8_melts_39 ?_
          refine lv_aload_n F.1 F.2.1 dX8_melts_40 rfl (lv_at hl 0 rfl) ?_
          refine r_get F w 0 0 iX8 f7 rfl rfl rfl (by decide) rfl dX8_melts_41 ?_
          refine lv_iconst (v := nI 2) F.1 F.2.1 dX8_melts_44 (by decide) ?_
          refine r_iald F w 1 rfl (by omega) (by decide) dX8_melts_45 ?_
          refine r_cge (tgt := 127) F dX8_melts_46 (by decide) (by omega) (by omega) (fun c46 => ?_) (fun c46 => ?_)
          · skip
            have hZR : Z = melL 6001 (up P 10 (P 10 + P 0)) := by rw [← hR]; exact (melL_stop2 c46 f).symm
            refine lv_aload_n F.1 F.2.1 dX8_melts_127 rfl (lv_at hl 0 rfl) ?_
            refine r_get F w 0 0 iX8 f7 rfl rfl rfl (by decide) rfl dX8_melts_128 ?_
            refine lv_bipush (v := nI 10) F.1 F.2.1 dX8_melts_131 (by decide) ?_
            refine lv_aload_n F.1 F.2.1 dX8_melts_133 rfl (lv_at hl 0 rfl) ?_
            refine r_get F w 0 0 iX8 f7 rfl rfl rfl (by decide) rfl dX8_melts_134 ?_
            refine lv_bipush (v := nI 9) F.1 F.2.1 dX8_melts_137 (by decide) ?_
            refine r_iald F w 1 rfl (by omega) (by decide) dX8_melts_139 ?_
            refine lv_iload_n F.1 F.2.1 dX8_melts_140 rfl (lv_at hl 1 rfl) ?_
            refine r_cne (tgt := 148) F dX8_melts_141 (by decide) (by omega) (by omega) (fun c141 => ?_) (fun c141 => ?_)
            · skip
              refine lv_aload_n F.1 F.2.1 dX8_melts_148 rfl (lv_at hl 0 rfl) ?_
              refine r_get F w 0 0 iX8 f7 rfl rfl rfl (by decide) rfl dX8_melts_149 ?_
              refine lv_bipush (v := nI 10) F.1 F.2.1 dX8_melts_152 (by decide) ?_
              refine r_iald F w 1 rfl (by omega) (by decide) dX8_melts_154 ?_
              refine r_iast (ws' := mW G a (up Z 10 (Z 10)) Sp Hs sc T tl tp fa fr fn N) F w 1 rfl (by omega) (by decide) dX8_melts_155 rfl (fun H locs w => ?_)
              exact r_return F w dX8_melts_156 (by unfold meltF; rw [← hZR]; first | rw [if_pos c141] | rw [if_neg c141])
            · skip
              refine lv_iconst (v := nI 0) F.1 F.2.1 dX8_melts_144 (by decide) ?_
              refine lv_goto (tgt := 155) F.1 F.2.1 dX8_melts_145 (by decide) ?_
              refine r_iast (ws' := mW G a (up Z 10 0) Sp Hs sc T tl tp fa fr fn N) F w 1 rfl (by omega) (by decide) dX8_melts_155 rfl (fun H locs w => ?_)
              exact r_return F w dX8_melts_156 (by unfold meltF; rw [← hZR]; first | rw [if_pos c141] | rw [if_neg c141])
          · skip
            have hlt : Z 9 < top Z := by rw [hA.top]; exact c30
            obtain ⟨g1, g2, g3⟩ := sgF_lt hlt
            have h8 := hSZ.1
            obtain ⟨q1, q2, q3⟩ := hSZ.2 (sgF Z) g1
            have hm2 : Z 1 * Z (46 + 4 * sgF Z + 2) ≤ 200 * 92 := Nat.mul_le_mul (by omega) (by omega)
            refine lv_aload_n F.1 F.2.1 dX8_melts_49 rfl (lv_at hl 0 rfl) ?_
            refine lv_aload_n F.1 F.2.1 dX8_melts_50 rfl (lv_at hl 0 rfl) ?_
            refine r_get F w 0 0 iX8 f7 rfl rfl rfl (by decide) rfl dX8_melts_51 ?_
            refine lv_bipush (v := nI 9) F.1 F.2.1 dX8_melts_54 (by decide) ?_
            refine r_iald F w 1 rfl (by omega) (by decide) dX8_melts_56 ?_
            refine r_callVI (rest := []) F w (c_X8_segmentOfIn l G a Z Sp Hs T N sc tl tp fa fr fn (Z 9) (by omega) hSZ hlt) gX8_melts_X8_segmentOf [0, 1, 2, 3, 4, 5] [] (nA0 := 1) rfl (by decide +kernel) rfl ⟨Nat.le_of_ble_eq_true rfl, Nat.le_of_ble_eq_true rfl⟩ ⟨Nat.le_of_ble_eq_true rfl, Nat.le_of_ble_eq_true rfl⟩ rfl rfl rfl rfl rfl rfl rfl hl rfl (Nat.le_of_ble_eq_true rfl) dX8_melts_57 (fun r_57 w1 H locs hp w => ?_)
            obtain ⟨rfl, rfl⟩ := hp
            have w := w.sub (ws' := mW G a Z Sp Hs sc T tl tp fa fr fn N) [0, 1, 2, 3, 4, 5] (by decide) rfl
            refine r_to (y := (nI (sgF Z))) (rfl) ?_
            refine lv_istore_n (lv' := [(3, .int (nI (sgF Z))), (0, .ref (a 0)), (1, .int (nI (top P))), (2, .int (nI 1))]) F.1 F.2.1 dX8_melts_60 rfl hl (by decide) rfl (fun ls hl => ?_)
            refine lv_aload_n F.1 F.2.1 dX8_melts_61 rfl (lv_at hl 1 rfl) ?_
            refine lv_iload_n F.1 F.2.1 dX8_melts_62 rfl (lv_at hl 0 rfl) ?_
            refine lv_iconst (v := nI 0) F.1 F.2.1 dX8_melts_63 (by decide) ?_
            refine r_callVI (rest := []) F w (c_X8_of l G a Z Sp Hs T N sc tl tp fa fr fn (sgF Z) 0 (by omega)) gX8_melts_X8_of [0, 1, 2, 3, 4, 5] [] (nA0 := 2) rfl (by decide +kernel) rfl ⟨Nat.le_of_ble_eq_true rfl, Nat.le_of_ble_eq_true rfl⟩ ⟨Nat.le_of_ble_eq_true rfl, Nat.le_of_ble_eq_true rfl⟩ rfl rfl rfl rfl rfl rfl rfl hl rfl (Nat.le_of_ble_eq_true rfl) dX8_melts_64 (fun r_64 w1 H locs hp w => ?_)
            obtain ⟨rfl, rfl⟩ := hp
            have w := w.sub (ws' := mW G a Z Sp Hs sc T tl tp fa fr fn N) [0, 1, 2, 3, 4, 5] (by decide) rfl
            refine r_to (y := (nI (Z (46 + 4 * (sgF Z))))) (rfl) ?_
            refine lv_iconst (v := nI 1) F.1 F.2.1 dX8_melts_67 (by decide) ?_
            refine r_cne (tgt := 88) F dX8_melts_68 (by decide) (by omega) (by omega) (fun c68 => ?_) (fun c68 => ?_)
            · skip
              refine lv_aload_n F.1 F.2.1 dX8_melts_88 rfl (lv_at hl 1 rfl) ?_
              refine r_get F w 0 0 iX8 f7 rfl rfl rfl (by decide) rfl dX8_melts_89 ?_
              refine lv_bipush (v := nI 10) F.1 F.2.1 dX8_melts_92 (by decide) ?_
              refine r_iald F w 1 rfl (by omega) (by decide) dX8_melts_94 ?_
              refine lv_aload_n F.1 F.2.1 dX8_melts_95 rfl (lv_at hl 1 rfl) ?_
              refine r_get F w 0 0 iX8 f7 rfl rfl rfl (by decide) rfl dX8_melts_96 ?_
              refine lv_iconst (v := nI 1) F.1 F.2.1 dX8_melts_99 (by decide) ?_
              refine r_iald F w 1 rfl (by omega) (by decide) dX8_melts_100 ?_
              refine lv_aload_n F.1 F.2.1 dX8_melts_101 rfl (lv_at hl 1 rfl) ?_
              refine lv_iload_n F.1 F.2.1 dX8_melts_102 rfl (lv_at hl 0 rfl) ?_
              refine lv_iconst (v := nI 2) F.1 F.2.1 dX8_melts_103 (by decide) ?_
              refine r_callVI (rest := [.int (nI (Z 1)), .int (nI (Z 10))]) F w (c_X8_of l G a Z Sp Hs T N sc tl tp fa fr fn (sgF Z) 2 (by omega)) gX8_melts_X8_of [0, 1, 2, 3, 4, 5] [] (nA0 := 2) rfl (by decide +kernel) rfl ⟨Nat.le_of_ble_eq_true rfl, Nat.le_of_ble_eq_true rfl⟩ ⟨Nat.le_of_ble_eq_true rfl, Nat.le_of_ble_eq_true rfl⟩ rfl rfl rfl rfl rfl rfl rfl hl rfl (Nat.le_of_ble_eq_true rfl) dX8_melts_104 (fun r_104 w1 H locs hp w => ?_)
              obtain ⟨rfl, rfl⟩ := hp
              have w := w.sub (ws' := mW G a Z Sp Hs sc T tl tp fa fr fn N) [0, 1, 2, 3, 4, 5] (by decide) rfl
              refine r_imul F dX8_melts_107 ?_
              refine lv_bipush (v := nI 100) F.1 F.2.1 dX8_melts_108 (by decide) ?_
              refine r_idiv F dX8_melts_110 (by omega) (by omega) (by omega) ?_
              refine r_clt (tgt := 122) F dX8_melts_111 (by decide) (by omega) (by omega) (fun c111 => ?_) (fun c111 => ?_)
              · skip
                have hZR : Z = melL 6001 (up P 10 (P 10 + P 0)) := by rw [← hR]; exact (melL_stop3 c68 (Nat.not_le.mpr c111) f).symm
                refine lv_iconst (v := nI 0) F.1 F.2.1 dX8_melts_122 (by decide) ?_
                refine lv_istore_n (lv' := [(2, .int (nI 0)), (3, .int (nI (sgF Z))), (0, .ref (a 0)), (1, .int (nI (top P)))]) F.1 F.2.1 dX8_melts_123 rfl hl (by decide) rfl (fun ls hl => ?_)
                refine lv_goto (tgt := 18) F.1 F.2.1 dX8_melts_124 (by decide) ?_
                refine lv_iload_n F.1 F.2.1 dX8_melts_18 rfl (lv_at hl 0 rfl) ?_
                refine r_zeq (tgt := 127) F dX8_melts_19 (by decide) (by omega) (fun c19 => ?_) (fun c19 => ?_)
                · skip
                  refine lv_aload_n F.1 F.2.1 dX8_melts_127 rfl (lv_at hl 2 rfl) ?_
                  refine r_get F w 0 0 iX8 f7 rfl rfl rfl (by decide) rfl dX8_melts_128 ?_
                  refine lv_bipush (v := nI 10) F.1 F.2.1 dX8_melts_131 (by decide) ?_
                  refine lv_aload_n F.1 F.2.1 dX8_melts_133 rfl (lv_at hl 2 rfl) ?_
                  refine r_get F w 0 0 iX8 f7 rfl rfl rfl (by decide) rfl dX8_melts_134 ?_
                  refine lv_bipush (v := nI 9) F.1 F.2.1 dX8_melts_137 (by decide) ?_
                  refine r_iald F w 1 rfl (by omega) (by decide) dX8_melts_139 ?_
                  refine lv_iload_n F.1 F.2.1 dX8_melts_140 rfl (lv_at hl 3 rfl) ?_
                  refine r_cne (tgt := 148) F dX8_melts_141 (by decide) (by omega) (by omega) (fun c141 => ?_) (fun c141 => ?_)
                  · skip
                    refine lv_aload_n F.1 F.2.1 dX8_melts_148 rfl (lv_at hl 2 rfl) ?_
                    refine r_get F w 0 0 iX8 f7 rfl rfl rfl (by decide) rfl dX8_melts_149 ?_
                    refine lv_bipush (v := nI 10) F.1 F.2.1 dX8_melts_152 (by decide) ?_
                    refine r_iald F w 1 rfl (by omega) (by decide) dX8_melts_154 ?_
                    refine r_iast (ws' := mW G a (up Z 10 (Z 10)) Sp Hs sc T tl tp fa fr fn N) F w 1 rfl (by omega) (by decide) dX8_melts_155 rfl (fun H locs w => ?_)
                    exact r_return F w dX8_melts_156 (by unfold meltF; rw [← hZR]; first | rw [if_pos c141] | rw [if_neg c141])
                  · skip
                    refine lv_iconst (v := nI 0) F.1 F.2.1 dX8_melts_144 (by decide) ?_
                    refine lv_goto (tgt := 155) F.1 F.2.1 dX8_melts_145 (by decide) ?_
                    refine r_iast (ws' := mW G a (up Z 10 0) Sp Hs sc T tl tp fa fr fn N) F w 1 rfl (by omega) (by decide) dX8_melts_155 rfl (fun H locs w => ?_)
                    exact r_return F w dX8_melts_156 (by unfold meltF; rw [← hZR]; first | rw [if_pos c141] | rw [if_neg c141])
                · exact absurd rfl c19
              · skip
                refine lv_aload_n F.1 F.2.1 dX8_melts_114 rfl (lv_at hl 1 rfl) ?_
                refine lv_iload_n F.1 F.2.1 dX8_melts_115 rfl (lv_at hl 0 rfl) ?_
                refine r_callVV (rest := []) F w (c_X8_unit l G a Z Sp Hs T N sc tl tp fa fr fn (sgF Z) g1 hSZ (by omega) (Nat.not_lt.mp c111)) gX8_melts_X8_unit [0, 1, 2, 3, 4, 5] [] (nA0 := 1) rfl (by decide +kernel) rfl ⟨Nat.le_of_ble_eq_true rfl, Nat.le_of_ble_eq_true rfl⟩ ⟨Nat.le_of_ble_eq_true rfl, Nat.le_of_ble_eq_true rfl⟩ rfl rfl rfl rfl rfl rfl rfl hl rfl (Nat.le_of_ble_eq_true rfl) dX8_melts_116 (fun w1 H locs hp w => ?_)
                obtain rfl := hp
                have w := w.sub (ws' := mW G a (unitF Z (sgF Z)) Sp Hs sc T tl tp fa fr fn N) [0, 1, 2, 3, 4, 5] (by decide) rfl
                refine lv_goto (tgt := 124) F.1 F.2.1 dX8_melts_119 (by decide) ?_
                refine lv_goto (tgt := 18) F.1 F.2.1 dX8_melts_124 (by decide) ?_
                exact ih18 (unitF Z (sgF Z)) (f - 1) (hA.tr (AgM.unit Z _)) (unit_mel hSZ hM g1 g2 g3) (unit_dr hD _) (by rw [unitF_10]; omega) ((melL_unit hlt c46 c68 (Nat.not_lt.mp c111) _).symm.trans (by rw [show f - 1 + 1 = f by omega]; exact hR)) (by rw [unitF_9]; omega) (by first | (rw [up_s]; omega) | (rw [unitF_9]; omega)) _ _ w ls (lv_sub hl [1, 2, 3] rfl)
            · skip
              refine lv_aload_n F.1 F.2.1 dX8_melts_71 rfl (lv_at hl 1 rfl) ?_
              refine r_get F w 0 0 iX8 f7 rfl rfl rfl (by decide) rfl dX8_melts_72 ?_
              refine lv_bipush (v := nI 9) F.1 F.2.1 dX8_melts_75 (by decide) ?_
              refine lv_aload_n F.1 F.2.1 dX8_melts_77 rfl (lv_at hl 1 rfl) ?_
              refine lv_iload_n F.1 F.2.1 dX8_melts_78 rfl (lv_at hl 0 rfl) ?_
              refine lv_iconst (v := nI 1) F.1 F.2.1 dX8_melts_79 (by decide) ?_
              refine r_iadd F dX8_melts_80 ?_
              refine r_callVI (rest := [.int (nI 9), .ref (a 1)]) F w (c_X8_lower l G a Z Sp Hs T N sc tl tp fa fr fn ((sgF Z) + 1) (by omega)) gX8_melts_X8_lower [0, 1, 2, 3, 4, 5] [] (nA0 := 1) rfl (by decide +kernel) rfl ⟨Nat.le_of_ble_eq_true rfl, Nat.le_of_ble_eq_true rfl⟩ ⟨Nat.le_of_ble_eq_true rfl, Nat.le_of_ble_eq_true rfl⟩ rfl rfl rfl rfl rfl rfl rfl hl rfl (Nat.le_of_ble_eq_true rfl) dX8_melts_81 (fun r_81 w1 H locs hp w => ?_)
              obtain ⟨rfl, rfl⟩ := hp
              have w := w.sub (ws' := mW G a Z Sp Hs sc T tl tp fa fr fn N) [0, 1, 2, 3, 4, 5] (by decide) rfl
              refine r_iast (ws' := mW G a (up Z 9 (low (lnP Z) ((sgF Z) + 1))) Sp Hs sc T tl tp fa fr fn N) F w 1 rfl (by omega) (by decide) dX8_melts_84 rfl (fun H locs w => ?_)
              refine lv_goto (tgt := 124) F.1 F.2.1 dX8_melts_85 (by decide) ?_
              refine lv_goto (tgt := 18) F.1 F.2.1 dX8_melts_124 (by decide) ?_
              exact ih18 (up Z 9 (low (lnP Z) ((sgF Z) + 1))) (f - 1) (hA.tr (AgM.up9 Z _)) (leap_mel hSZ hM g1 c68 g2 g3) (up9_dr hD _) (by rw [up_n _ _ (by decide)]; exact h10) ((melL_crack hlt c46 c68 _).symm.trans (by rw [show f - 1 + 1 = f by omega]; exact hR)) (by rw [up_s]; omega) (by first | (rw [up_s]; omega) | (rw [unitF_9]; omega)) _ _ w ls (lv_sub hl [1, 2, 3] rfl)
  exact L18 _ (up P 10 (P 10 + P 0)) 6001 (AgM.up10 P _) (up10_mel hM0 _) (up10_dr hD0 _) (by rw [up_s]; exact Nat.le_refl _) rfl (by omega) (Nat.lt_succ_self _) _ _ w ls (lv_sub hl [1, 2, 0] rfl)
theorem c_X8_meltsT (l : Launch) (G : KG) (a P Sp Hs T N : Nat → Nat) (sc tl tp fa fr fn : Nat) (t : Nat) (hS : SegOk P) (hT : SetOk P) (hM0 : MelOk P) (hD0 : DrOk P) (hb : P 10 ≤ 5000000) (ht : t = top P) : MetV l yX8_melts wsX8_melts 3 0 0 G (mW G a P Sp Hs sc T tl tp fa fr fn N) [.ref (a 0), .int (nI t)] (fun v => v = mW G a (meltF P) Sp Hs sc T tl tp fa fr fn N) := by
  subst ht
  exact c_X8_melts l G a P Sp Hs T N sc tl tp fa fr fn hS hT hM0 hD0 hb
