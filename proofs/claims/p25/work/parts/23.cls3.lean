set_option maxRecDepth 100000 in
set_option maxHeartbeats 4000000 in
theorem c_X3_ticksLeft (l : Launch) (G : KG) (a ca la va S Ac : Nat → Nat) (fr sto stk gas drt tol wbt tks rsn stp : Nat) (h : tks ≤ 20000) : MetI l yX3_ticksLeft wsX3_ticksLeft 0 G (plH G a ca la va S Ac fr sto stk gas drt tol wbt tks rsn stp) [.ref (a 0)] (fun r v => r = nI (20000 - tks) ∧ v = plH G a ca la va S Ac fr sto stk gas drt tol wbt tks rsn stp) := by
  refine MetI.by (cc := cX3_ticksLeft) (nL := 1) (ret := some .int) (by decide +kernel) rfl (Nat.le_of_ble_eq_true rfl) ?_
  intro p e s m args below meth c F w ls hl
  have hl : lv_has ls 1 [(0, .ref (a 0))] := hl
  have hts := F.ts
  have iX3 : ∀ w ∈ wsX30, w ∈ wsX3_ticksLeft := by decide +kernel
  have f78 := hts (.fieldLink RX3 78 "CoreMelter$Plate" "ticks" "I") (by decide +kernel)
  refine lv_sipush (v := nI 20000) F.1 F.2.1 dX3_ticksLeft_0 (by decide) ?_
  refine lv_aload_n F.1 F.2.1 dX3_ticksLeft_3 rfl (lv_at hl 0 rfl) ?_
  refine r_get F w 0 12 iX3 f78 rfl rfl rfl (by decide) rfl dX3_ticksLeft_4 ?_
  refine r_isub F dX3_ticksLeft_7 (by omega) ?_
  exact r_ireturn F w dX3_ticksLeft_8 (⟨rfl, rfl⟩)
set_option maxRecDepth 100000 in
set_option maxHeartbeats 4000000 in
theorem c_X3_drawn (l : Launch) (G : KG) (a ca la va S Ac : Nat → Nat) (fr sto stk gas drt tol wbt tks rsn stp : Nat) : MetI l yX3_drawn wsX3_drawn 0 G (plH G a ca la va S Ac fr sto stk gas drt tol wbt tks rsn stp) [.ref (a 0)] (fun r v => r = nI (Ac 1 + Ac 2) ∧ v = plH G a ca la va S Ac fr sto stk gas drt tol wbt tks rsn stp) := by
  refine MetI.by (cc := cX3_drawn) (nL := 1) (ret := some .int) (by decide +kernel) rfl (Nat.le_of_ble_eq_true rfl) ?_
  intro p e s m args below meth c F w ls hl
  have hl : lv_has ls 1 [(0, .ref (a 0))] := hl
  have hts := F.ts
  have iX3 : ∀ w ∈ wsX30, w ∈ wsX3_drawn := by decide +kernel
  have f34 := hts (.fieldLink RX3 34 "CoreMelter$Plate" "accounts" "[I") (by decide +kernel)
  refine lv_aload_n F.1 F.2.1 dX3_drawn_0 rfl (lv_at hl 0 rfl) ?_
  refine r_get F w 0 4 iX3 f34 rfl rfl rfl (by decide) rfl dX3_drawn_1 ?_
  refine lv_iconst (v := nI 1) F.1 F.2.1 dX3_drawn_4 (by decide) ?_
  refine r_iald F w 2 rfl (by omega) (by decide) dX3_drawn_5 ?_
  refine lv_aload_n F.1 F.2.1 dX3_drawn_6 rfl (lv_at hl 0 rfl) ?_
  refine r_get F w 0 4 iX3 f34 rfl rfl rfl (by decide) rfl dX3_drawn_7 ?_
  refine lv_iconst (v := nI 2) F.1 F.2.1 dX3_drawn_10 (by decide) ?_
  refine r_iald F w 2 rfl (by omega) (by decide) dX3_drawn_11 ?_
  refine r_iadd F dX3_drawn_12 ?_
  exact r_ireturn F w dX3_drawn_13 (⟨rfl, rfl⟩)
set_option maxRecDepth 100000 in
set_option maxHeartbeats 4000000 in
theorem c_X3_reasonToStop (l : Launch) (G : KG) (pa : Nat → Nat → Nat) (P lo : Nat → Nat) (tol wbt tk rs st : Nat) (hD : DInv P) : MetI l yX3_reasonToStop wsX3_reasonToStop 1 G (plH G (pa 0) (pa 1) (pa 2) (pa 3) (fun k => P k) (fun k => P (19 + k)) (P 9) (P 10) (P 11) (P 12) (P 13) tol wbt tk rs st ++ (coreW G (pa 1) (P 8) (top P) (kdP P) (lnP P) (dnP P) (moP P) lo ++ (linesW G (pa 2) (fun k => P (26 + 5 * k)) (fun k => P (26 + 5 * k + 1)) (fun k => P (26 + 5 * k + 2)) (fun k => P (26 + 5 * k + 3)) (fun k => P (26 + 5 * k + 4))))) [.ref ((pa 0) 0)] (fun r v => r = nI (reasonF P) ∧ v = plH G (pa 0) (pa 1) (pa 2) (pa 3) (fun k => P k) (fun k => P (19 + k)) (P 9) (P 10) (P 11) (P 12) (P 13) tol wbt tk rs st ++ (coreW G (pa 1) (P 8) (top P) (kdP P) (lnP P) (dnP P) (moP P) lo ++ (linesW G (pa 2) (fun k => P (26 + 5 * k)) (fun k => P (26 + 5 * k + 1)) (fun k => P (26 + 5 * k + 2)) (fun k => P (26 + 5 * k + 3)) (fun k => P (26 + 5 * k + 4))))) := by
  refine MetI.by (cc := cX3_reasonToStop) (nL := 1) (ret := some .int) (by decide +kernel) rfl (Nat.le_of_ble_eq_true rfl) ?_
  intro p e s m args below meth c F w ls hl
  have hl : lv_has ls 1 [(0, .ref ((pa 0) 0))] := hl
  have hts := F.ts
  have iX0 : ∀ w ∈ wsX00, w ∈ wsX3_reasonToStop := by decide +kernel
  have iX3 : ∀ w ∈ wsX30, w ∈ wsX3_reasonToStop := by decide +kernel
  have f10 := hts (.fieldLink RX3 10 "CoreMelter$Plate" "core" "LCoreMelter$Core;") (by decide +kernel)
  have f19 := hts (.fieldLink RX3 19 "CoreMelter$Plate" "lines" "LCoreMelter$Lines;") (by decide +kernel)
  have f30 := hts (.fieldLink RX3 30 "CoreMelter$Plate" "settings" "[I") (by decide +kernel)
  have f56 := hts (.fieldLink RX3 56 "CoreMelter$Plate" "front" "I") (by decide +kernel)
  have f63 := hts (.fieldLink RX3 63 "CoreMelter$Plate" "stock" "I") (by decide +kernel)
  have f118 := hts (.fieldLink RX3 118 "CoreMelter$Core" "height" "I") (by decide +kernel)
  obtain ⟨b9, b11, b20, b12, b13, b25, b23⟩ := hD.bnd
  have ht := hD.1.top_le
  have hm9 := hD.2.2.1.1
  obtain ⟨t0, t1, t2, t3, t4, t5, t6, t7, t8, t9, t10, t11, t12, t13⟩ := hD.2.1
  have hL := hD.2.2.2.2
  have e0 := (hL 0 (by decide)).1
  have e1 := (hL 1 (by decide)).1
  have e2 := (hL 2 (by decide)).1
  have e3 := (hL 3 (by decide)).1
  have hsn : stuckN P ≤ 4 := by show P 26 + P 31 + P 36 + P 41 ≤ 4; simp only [Nat.mul_zero, Nat.add_zero, Nat.reduceMul, Nat.reduceAdd] at e0 e1 e2 e3; omega
  refine lv_aload_n F.1 F.2.1 dX3_reasonToStop_0 rfl (lv_at hl 0 rfl) ?_
  refine r_get F w 0 5 iX3 f56 rfl rfl rfl (by decide) rfl dX3_reasonToStop_1 ?_
  refine lv_aload_n F.1 F.2.1 dX3_reasonToStop_4 rfl (lv_at hl 0 rfl) ?_
  refine r_get F w 0 0 iX3 f10 rfl rfl rfl (by decide) rfl dX3_reasonToStop_5 ?_
  refine r_get F w 3 1 iX0 f118 rfl rfl rfl (by decide) rfl dX3_reasonToStop_8 ?_
  refine r_clt (tgt := 16) F dX3_reasonToStop_11 (by decide) (by omega) (by omega) (fun c11 => ?_) (fun c11 => ?_)
  · skip
    refine lv_aload_n F.1 F.2.1 dX3_reasonToStop_16 rfl (lv_at hl 0 rfl) ?_
    refine r_get F w 0 1 iX3 f19 rfl rfl rfl (by decide) rfl dX3_reasonToStop_17 ?_
    refine r_callVI (rest := []) F w (c_X2_stuckOnes l G (pa 2) (fun k => P (26 + 5 * k)) (fun k => P (26 + 5 * k + 1)) (fun k => P (26 + 5 * k + 2)) (fun k => P (26 + 5 * k + 3)) (fun k => P (26 + 5 * k + 4))  ) gX3_reasonToStop_X2_stuckOnes [9, 10, 11, 12, 13, 14] [0, 1, 2, 3, 4, 5, 6, 7, 8] (nA0 := 0) rfl (by decide +kernel) rfl ⟨Nat.le_of_ble_eq_true rfl, Nat.le_of_ble_eq_true rfl⟩ ⟨Nat.le_of_ble_eq_true rfl, Nat.le_of_ble_eq_true rfl⟩ rfl rfl rfl rfl rfl rfl rfl hl rfl (Nat.le_of_ble_eq_true rfl) dX3_reasonToStop_20 (fun r_20 w1 H locs hp w => ?_)
    obtain ⟨rfl, rfl⟩ := hp
    have w := w.sub (ws' := plH G (pa 0) (pa 1) (pa 2) (pa 3) (fun k => P k) (fun k => P (19 + k)) (P 9) (P 10) (P 11) (P 12) (P 13) tol wbt tk rs st ++ (coreW G (pa 1) (P 8) (top P) (kdP P) (lnP P) (dnP P) (moP P) lo ++ (linesW G (pa 2) (fun k => P (26 + 5 * k)) (fun k => P (26 + 5 * k + 1)) (fun k => P (26 + 5 * k + 2)) (fun k => P (26 + 5 * k + 3)) (fun k => P (26 + 5 * k + 4))))) [0, 1, 2, 3, 4, 5, 6, 7, 8, 9, 10, 11, 12, 13, 14] (by decide) rfl
    refine r_to (y := (nI (stuckN P))) (congrArg nI (by simp [low, stuckN])) ?_
    refine lv_iconst (v := nI 4) F.1 F.2.1 dX3_reasonToStop_23 (by decide) ?_
    refine r_cne (tgt := 29) F dX3_reasonToStop_24 (by decide) (by omega) (by omega) (fun c24 => ?_) (fun c24 => ?_)
    · skip
      refine lv_aload_n F.1 F.2.1 dX3_reasonToStop_29 rfl (lv_at hl 0 rfl) ?_
      refine r_get F w 0 7 iX3 f63 rfl rfl rfl (by decide) rfl dX3_reasonToStop_30 ?_
      refine lv_aload_n F.1 F.2.1 dX3_reasonToStop_33 rfl (lv_at hl 0 rfl) ?_
      refine r_get F w 0 3 iX3 f30 rfl rfl rfl (by decide) rfl dX3_reasonToStop_34 ?_
      refine lv_iconst (v := nI 2) F.1 F.2.1 dX3_reasonToStop_37 (by decide) ?_
      refine r_iald F w 1 rfl (by omega) (by decide) dX3_reasonToStop_38 ?_
      refine r_clt (tgt := 46) F dX3_reasonToStop_39 (by decide) (by omega) (by omega) (fun c39 => ?_) (fun c39 => ?_)
      · skip
        refine lv_iconst (v := nI 0) F.1 F.2.1 dX3_reasonToStop_46 (by decide) ?_
        exact r_ireturn F w dX3_reasonToStop_47 (⟨congrArg nI (by unfold reasonF; first | rw [if_pos (by omega)] | rw [if_neg (by omega), if_pos (by omega)] | rw [if_neg (by omega), if_neg (by omega), if_pos (by omega)] | rw [if_neg (by omega), if_neg (by omega), if_neg (by omega)]), rfl⟩)
      · skip
        refine lv_iconst (v := nI 3) F.1 F.2.1 dX3_reasonToStop_42 (by decide) ?_
        refine lv_goto (tgt := 47) F.1 F.2.1 dX3_reasonToStop_43 (by decide) ?_
        exact r_ireturn F w dX3_reasonToStop_47 (⟨congrArg nI (by unfold reasonF; first | rw [if_pos (by omega)] | rw [if_neg (by omega), if_pos (by omega)] | rw [if_neg (by omega), if_neg (by omega), if_pos (by omega)] | rw [if_neg (by omega), if_neg (by omega), if_neg (by omega)]), rfl⟩)
    · skip
      refine lv_iconst (v := nI 2) F.1 F.2.1 dX3_reasonToStop_27 (by decide) ?_
      exact r_ireturn F w dX3_reasonToStop_28 (⟨congrArg nI (by unfold reasonF; first | rw [if_pos (by omega)] | rw [if_neg (by omega), if_pos (by omega)] | rw [if_neg (by omega), if_neg (by omega), if_pos (by omega)] | rw [if_neg (by omega), if_neg (by omega), if_neg (by omega)]), rfl⟩)
  · skip
    refine lv_iconst (v := nI 1) F.1 F.2.1 dX3_reasonToStop_14 (by decide) ?_
    exact r_ireturn F w dX3_reasonToStop_15 (⟨congrArg nI (by unfold reasonF; first | rw [if_pos (by omega)] | rw [if_neg (by omega), if_pos (by omega)] | rw [if_neg (by omega), if_neg (by omega), if_pos (by omega)] | rw [if_neg (by omega), if_neg (by omega), if_neg (by omega)]), rfl⟩)
set_option maxRecDepth 100000 in
set_option maxHeartbeats 4000000 in
theorem c_X3_meltIn (l : Launch) (G : KG) (pa : Nat → Nat → Nat) (P lo : Nat → Nat) (tol wbt tk rs st : Nat) (i : Nat) (R0 : Nat → Nat) (f0 : Nat) (hi : i < P 8) (hS : SegOk P) (hT : SetOk P) (hlk : LoOk P lo) (hM0 : MelOk P) (hD0 : DrOk P) (hb : P 10 ≤ 6000000) (hk : ¬ P (46 + 4 * i) = 1) (hR0 : melL f0 P = R0) (hf0 : top P - P 9 < f0) (h1 : low (lnP P) i ≤ P 9) (h2 : P 9 < low (lnP P) (i + 1)) : MetV l yX3_meltIn wsX3_meltIn 2 0 0 G (plH G (pa 0) (pa 1) (pa 2) (pa 3) (fun k => P k) (fun k => P (19 + k)) (P 9) (P 10) (P 11) (P 12) (P 13) tol wbt tk rs st ++ (coreW G (pa 1) (P 8) (top P) (kdP P) (lnP P) (dnP P) (moP P) lo)) [.ref ((pa 0) 0), .int (nI i)] (fun v => ∃ (Z : Nat → Nat) (f : Nat), AgM P Z ∧ MelOk Z ∧ DrOk Z ∧ Z 10 ≤ P 10 ∧ melL f Z = R0 ∧ top P - Z 9 < f ∧ low (lnP P) i ≤ Z 9 ∧ Z 9 ≤ low (lnP P) (i + 1) ∧ (Z 9 < low (lnP P) (i + 1) → Z = R0) ∧ v = plH G (pa 0) (pa 1) (pa 2) (pa 3) (fun k => P k) (fun k => Z (19 + k)) (Z 9) (Z 10) (Z 11) (Z 12) (Z 13) tol wbt tk rs st ++ (coreW G (pa 1) (P 8) (top P) (kdP P) (lnP P) (dnP P) (moP P) lo)) := by
  refine MetV.by (cc := cX3_meltIn) (nL := 7) (ret := none) (by decide +kernel) rfl (Nat.le_of_ble_eq_true rfl) ?_
  intro p e s m args below meth c F hname w ls hl
  have hl : lv_has ls 7 [(0, .ref ((pa 0) 0)), (1, .int (nI i))] := hl
  have hts := F.ts
  have iX0 : ∀ w ∈ wsX00, w ∈ wsX3_meltIn := by decide +kernel
  have iX3 : ∀ w ∈ wsX30, w ∈ wsX3_meltIn := by decide +kernel
  have f10 := hts (.fieldLink RX3 10 "CoreMelter$Plate" "core" "LCoreMelter$Core;") (by decide +kernel)
  have f30 := hts (.fieldLink RX3 30 "CoreMelter$Plate" "settings" "[I") (by decide +kernel)
  have f34 := hts (.fieldLink RX3 34 "CoreMelter$Plate" "accounts" "[I") (by decide +kernel)
  have f56 := hts (.fieldLink RX3 56 "CoreMelter$Plate" "front" "I") (by decide +kernel)
  have f60 := hts (.fieldLink RX3 60 "CoreMelter$Plate" "store" "I") (by decide +kernel)
  have f63 := hts (.fieldLink RX3 63 "CoreMelter$Plate" "stock" "I") (by decide +kernel)
  have f66 := hts (.fieldLink RX3 66 "CoreMelter$Plate" "stockGas" "I") (by decide +kernel)
  have f69 := hts (.fieldLink RX3 69 "CoreMelter$Plate" "stockDirt" "I") (by decide +kernel)
  have f140 := hts (.fieldLink RX3 140 "CoreMelter$Core" "densities" "[I") (by decide +kernel)
  have h8 := hS.1
  have ht := hS.top_le
  have hco := core_ok hS hlk
  have hbe := hco.bnd (i + 1) hi
  obtain ⟨t0, t1, t2, t3, t4, t5, t6, t7, t8, t9, t10, t11, t12, t13⟩ := hT
  obtain ⟨q1, q2, q3⟩ := hS.2 i hi
  have hm1 : P 1 * P (46 + 4 * i + 2) ≤ 200 * 92 := Nat.mul_le_mul (by omega) (by omega)
  refine lv_aload_n F.1 F.2.1 dX3_meltIn_0 rfl (lv_at hl 0 rfl) ?_
  refine r_get F w 0 0 iX3 f10 rfl rfl rfl (by decide) rfl dX3_meltIn_1 ?_
  refine lv_iload_n F.1 F.2.1 dX3_meltIn_4 rfl (lv_at hl 1 rfl) ?_
  refine r_callVI (rest := []) F w (c_X0_end l G (pa 1) (P 8) (top P) (kdP P) (lnP P) (dnP P) (moP P) lo i (by omega)) gX3_meltIn_X0_end [3, 4, 5, 6, 7, 8] [0, 1, 2] (nA0 := 1) rfl (by decide +kernel) rfl ⟨Nat.le_of_ble_eq_true rfl, Nat.le_of_ble_eq_true rfl⟩ ⟨Nat.le_of_ble_eq_true rfl, Nat.le_of_ble_eq_true rfl⟩ rfl rfl rfl rfl rfl rfl rfl hl rfl (Nat.le_of_ble_eq_true rfl) dX3_meltIn_5 (fun r_5 w1 H locs hp w => ?_)
  obtain ⟨rfl, rfl⟩ := hp
  have w := w.sub (ws' := plH G (pa 0) (pa 1) (pa 2) (pa 3) (fun k => P k) (fun k => P (19 + k)) (P 9) (P 10) (P 11) (P 12) (P 13) tol wbt tk rs st ++ (coreW G (pa 1) (P 8) (top P) (kdP P) (lnP P) (dnP P) (moP P) lo)) [0, 1, 2, 3, 4, 5, 6, 7, 8] (by decide) rfl
  refine r_to (y := (nI (low (lnP P) (i + 1)))) (congrArg nI (hco.endk hi)) ?_
  refine lv_istore_n (lv' := [(2, .int (nI (low (lnP P) (i + 1)))), (0, .ref ((pa 0) 0)), (1, .int (nI i))]) F.1 F.2.1 dX3_meltIn_8 rfl hl (by decide) rfl (fun ls hl => ?_)
  refine lv_aload_n F.1 F.2.1 dX3_meltIn_9 rfl (lv_at hl 1 rfl) ?_
  refine r_get F w 0 0 iX3 f10 rfl rfl rfl (by decide) rfl dX3_meltIn_10 ?_
  refine r_get F w 3 4 iX0 f140 rfl rfl rfl (by decide) rfl dX3_meltIn_13 ?_
  refine lv_iload_n F.1 F.2.1 dX3_meltIn_16 rfl (lv_at hl 2 rfl) ?_
  refine r_iald F w 6 rfl (by omega) (by decide) dX3_meltIn_17 ?_
  refine r_to (y := (nI (P (46 + 4 * i + 2)))) (rfl) ?_
  refine lv_istore_n (lv' := [(3, .int (nI (P (46 + 4 * i + 2)))), (2, .int (nI (low (lnP P) (i + 1)))), (0, .ref ((pa 0) 0)), (1, .int (nI i))]) F.1 F.2.1 dX3_meltIn_18 rfl hl (by decide) rfl (fun ls hl => ?_)
  refine lv_aload_n F.1 F.2.1 dX3_meltIn_19 rfl (lv_at hl 2 rfl) ?_
  refine r_get F w 0 0 iX3 f10 rfl rfl rfl (by decide) rfl dX3_meltIn_20 ?_
  refine lv_iload_n F.1 F.2.1 dX3_meltIn_23 rfl (lv_at hl 3 rfl) ?_
  refine r_callVI (rest := []) F w (c_X0_gasOfUnit l G (pa 1) (P 8) (top P) (kdP P) (lnP P) (dnP P) (moP P) lo i hi hco) gX3_meltIn_X0_gasOfUnit [3, 4, 5, 6, 7, 8] [0, 1, 2] (nA0 := 1) rfl (by decide +kernel) rfl ⟨Nat.le_of_ble_eq_true rfl, Nat.le_of_ble_eq_true rfl⟩ ⟨Nat.le_of_ble_eq_true rfl, Nat.le_of_ble_eq_true rfl⟩ rfl rfl rfl rfl rfl rfl rfl hl rfl (Nat.le_of_ble_eq_true rfl) dX3_meltIn_24 (fun r_24 w1 H locs hp w => ?_)
  obtain ⟨rfl, rfl⟩ := hp
  have w := w.sub (ws' := plH G (pa 0) (pa 1) (pa 2) (pa 3) (fun k => P k) (fun k => P (19 + k)) (P 9) (P 10) (P 11) (P 12) (P 13) tol wbt tk rs st ++ (coreW G (pa 1) (P 8) (top P) (kdP P) (lnP P) (dnP P) (moP P) lo)) [0, 1, 2, 3, 4, 5, 6, 7, 8] (by decide) rfl
  refine r_to (y := (nI (gasU P i))) (rfl) ?_
  refine lv_istore (lv' := [(4, .int (nI (gasU P i))), (3, .int (nI (P (46 + 4 * i + 2)))), (2, .int (nI (low (lnP P) (i + 1)))), (0, .ref ((pa 0) 0)), (1, .int (nI i))]) F.1 F.2.1 dX3_meltIn_27 hl (by decide) rfl (fun ls hl => ?_)
  refine lv_aload_n F.1 F.2.1 dX3_meltIn_29 rfl (lv_at hl 3 rfl) ?_
  refine r_get F w 0 0 iX3 f10 rfl rfl rfl (by decide) rfl dX3_meltIn_30 ?_
  refine lv_iload_n F.1 F.2.1 dX3_meltIn_33 rfl (lv_at hl 4 rfl) ?_
  refine r_callVI (rest := []) F w (c_X0_dirtOfUnit l G (pa 1) (P 8) (top P) (kdP P) (lnP P) (dnP P) (moP P) lo i hi hco) gX3_meltIn_X0_dirtOfUnit [3, 4, 5, 6, 7, 8] [0, 1, 2] (nA0 := 1) rfl (by decide +kernel) rfl ⟨Nat.le_of_ble_eq_true rfl, Nat.le_of_ble_eq_true rfl⟩ ⟨Nat.le_of_ble_eq_true rfl, Nat.le_of_ble_eq_true rfl⟩ rfl rfl rfl rfl rfl rfl rfl hl rfl (Nat.le_of_ble_eq_true rfl) dX3_meltIn_34 (fun r_34 w1 H locs hp w => ?_)
  obtain ⟨rfl, rfl⟩ := hp
  have w := w.sub (ws' := plH G (pa 0) (pa 1) (pa 2) (pa 3) (fun k => P k) (fun k => P (19 + k)) (P 9) (P 10) (P 11) (P 12) (P 13) tol wbt tk rs st ++ (coreW G (pa 1) (P 8) (top P) (kdP P) (lnP P) (dnP P) (moP P) lo)) [0, 1, 2, 3, 4, 5, 6, 7, 8] (by decide) rfl
  refine r_to (y := (nI (dirtU P i))) (rfl) ?_
  refine lv_istore (lv' := [(5, .int (nI (dirtU P i))), (4, .int (nI (gasU P i))), (3, .int (nI (P (46 + 4 * i + 2)))), (2, .int (nI (low (lnP P) (i + 1)))), (0, .ref ((pa 0) 0)), (1, .int (nI i))]) F.1 F.2.1 dX3_meltIn_37 hl (by decide) rfl (fun ls hl => ?_)
  refine lv_aload_n F.1 F.2.1 dX3_meltIn_39 rfl (lv_at hl 4 rfl) ?_
  refine r_get F w 0 3 iX3 f30 rfl rfl rfl (by decide) rfl dX3_meltIn_40 ?_
  refine lv_iconst (v := nI 1) F.1 F.2.1 dX3_meltIn_43 (by decide) ?_
  refine r_iald F w 1 rfl (by omega) (by decide) dX3_meltIn_44 ?_
  refine lv_iload_n F.1 F.2.1 dX3_meltIn_45 rfl (lv_at hl 2 rfl) ?_
  refine r_imul F dX3_meltIn_46 ?_
  refine lv_bipush (v := nI 100) F.1 F.2.1 dX3_meltIn_47 (by decide) ?_
  refine r_idiv F dX3_meltIn_49 (by omega) (by omega) (by omega) ?_
  refine lv_istore (lv' := [(6, .int (nI (((P 1) * (P (46 + 4 * i + 2))) / 100))), (5, .int (nI (dirtU P i))), (4, .int (nI (gasU P i))), (3, .int (nI (P (46 + 4 * i + 2)))), (2, .int (nI (low (lnP P) (i + 1)))), (0, .ref ((pa 0) 0)), (1, .int (nI i))]) F.1 F.2.1 dX3_meltIn_50 hl (by decide) rfl (fun ls hl => ?_)
  have L52 : ∀ n : Nat, ∀ (Z : Nat → Nat) (f : Nat), (AgM P Z) → (MelOk Z) → (DrOk Z) → (Z 10 ≤ P 10) → (melL f Z = R0) → (top P - Z 9 < f) → (low (lnP P) i ≤ Z 9) → (Z 9 ≤ low (lnP P) (i + 1)) → top P - Z 9 < n → ∀ (H : Heap) (locs : List Loc), Wd G s (va_A (plH G (pa 0) (pa 1) (pa 2) (pa 3) (fun k => P k) (fun k => P (19 + k)) (P 9) (P 10) (P 11) (P 12) (P 13) tol wbt tk rs st ++ (coreW G (pa 1) (P 8) (top P) (kdP P) (lnP P) (dnP P) (moP P) lo)) s.heap.size) (plH G (pa 0) (pa 1) (pa 2) (pa 3) (fun k => P k) (fun k => Z (19 + k)) (Z 9) (Z 10) (Z 11) (Z 12) (Z 13) tol wbt tk rs st ++ (coreW G (pa 1) (P 8) (top P) (kdP P) (lnP P) (dnP P) (moP P) lo)) H locs → ∀ ls : Array Slot, lv_has ls 7 [(0, .ref ((pa 0) 0)), (1, .int (nI i)), (2, .int (nI (low (lnP P) (i + 1)))), (3, .int (nI (P (46 + 4 * i + 2)))), (4, .int (nI (gasU P i))), (5, .int (nI (dirtU P i))), (6, .int (nI (P 1 * P (46 + 4 * i + 2) / 100)))] → W p l e (rmK 2 0 0) s m args below meth c H locs 0 0 (MQ below (QV G (plH G (pa 0) (pa 1) (pa 2) (pa 3) (fun k => P k) (fun k => P (19 + k)) (P 9) (P 10) (P 11) (P 12) (P 13) tol wbt tk rs st ++ (coreW G (pa 1) (P 8) (top P) (kdP P) (lnP P) (dnP P) (moP P) lo)) s.heap.size (fun v => ∃ (Z : Nat → Nat) (f : Nat), AgM P Z ∧ MelOk Z ∧ DrOk Z ∧ Z 10 ≤ P 10 ∧ melL f Z = R0 ∧ top P - Z 9 < f ∧ low (lnP P) i ≤ Z 9 ∧ Z 9 ≤ low (lnP P) (i + 1) ∧ (Z 9 < low (lnP P) (i + 1) → Z = R0) ∧ v = plH G (pa 0) (pa 1) (pa 2) (pa 3) (fun k => P k) (fun k => Z (19 + k)) (Z 9) (Z 10) (Z 11) (Z 12) (Z 13) tol wbt tk rs st ++ (coreW G (pa 1) (P 8) (top P) (kdP P) (lnP P) (dnP P) (moP P) lo))) args s 0 0 (va_A (plH G (pa 0) (pa 1) (pa 2) (pa 3) (fun k => P k) (fun k => P (19 + k)) (P 9) (P 10) (P 11) (P 12) (P 13) tol wbt tk rs st ++ (coreW G (pa 1) (P 8) (top P) (kdP P) (lnP P) (dnP P) (moP P) lo)) s.heap.size)) (F0 m 52 ls []) := by
    intro n
    induction n with
    | zero => intro Z f hA hM hD h10 hR hf hlo hen hm; exact absurd hm (Nat.not_lt_zero _)
    | succ n ih52 =>
      intro Z f hA hM hD h10 hR hf hlo hen hm52 H locs w ls hl
      refine lv_aload_n F.1 F.2.1 dX3_meltIn_52 rfl (lv_at hl 0 rfl) ?_
      have hSZ := hA.seg hS
      have hz8 : Z 8 = P 8 := hA 8 (by omega)
      have hiZ : i < Z 8 := by rw [hz8]; exact hi
      have hloZ : low (lnP Z) i ≤ Z 9 := by rw [hA.ln]; exact hlo
      have hkZ : ¬ Z (46 + 4 * i) = 1 := by rw [hA _ (by omega)]; exact hk
      have h9 : Z 9 ≤ 6000 := by have := hM.1; rw [hA.top] at this; omega
      have h11 : Z 11 ≤ 552000 := by have := wat_bound (ln := lnP Z) (dn := dnP Z) (d := Z 9) (n := Z 8) hSZ.dn_le; have h3 : min (Z 9) (low (lnP Z) (Z 8)) ≤ Z 9 := Nat.min_le_left _ _; have := hM.2.1; have := hD.1; omega
      refine r_get F w 0 5 iX3 f56 rfl rfl rfl (by decide) rfl dX3_meltIn_53 ?_
      refine lv_iload_n F.1 F.2.1 dX3_meltIn_56 rfl (lv_at hl 2 rfl) ?_
      refine r_cge (tgt := 170) F dX3_meltIn_57 (by decide) (by omega) (by omega) (fun c57 => ?_) (fun c57 => ?_)
      · skip
        have hst : Z 9 < low (lnP P) (i + 1) → Z = R0 := fun q => absurd q c57
        exact r_return F w dX3_meltIn_170 (⟨Z, f, hA, hM, hD, h10, hR, hf, hlo, hen, hst, rfl⟩)
      · skip
        refine lv_aload_n F.1 F.2.1 dX3_meltIn_60 rfl (lv_at hl 0 rfl) ?_
        refine r_get F w 0 7 iX3 f63 rfl rfl rfl (by decide) rfl dX3_meltIn_61 ?_
        refine lv_aload_n F.1 F.2.1 dX3_meltIn_64 rfl (lv_at hl 0 rfl) ?_
        refine r_get F w 0 3 iX3 f30 rfl rfl rfl (by decide) rfl dX3_meltIn_65 ?_
        refine lv_iconst (v := nI 2) F.1 F.2.1 dX3_meltIn_68 (by decide) ?_
        refine r_iald F w 1 rfl (by omega) (by decide) dX3_meltIn_69 ?_
        refine r_cge (tgt := 170) F dX3_meltIn_70 (by decide) (by omega) (by omega) (fun c70 => ?_) (fun c70 => ?_)
        · skip
          have hst : Z 9 < low (lnP P) (i + 1) → Z = R0 := fun _ => by rw [← hR]; exact (melL_stop2 (by rw [hA 2 (by omega)]; exact c70) f).symm
          exact r_return F w dX3_meltIn_170 (⟨Z, f, hA, hM, hD, h10, hR, hf, hlo, hen, hst, rfl⟩)
        · skip
          refine lv_aload_n F.1 F.2.1 dX3_meltIn_73 rfl (lv_at hl 0 rfl) ?_
          refine r_get F w 0 6 iX3 f60 rfl rfl rfl (by decide) rfl dX3_meltIn_74 ?_
          refine lv_iload F.1 F.2.1 dX3_meltIn_77 (lv_at hl 6 rfl) ?_
          refine r_clt (tgt := 170) F dX3_meltIn_79 (by decide) (by omega) (by omega) (fun c79 => ?_) (fun c79 => ?_)
          · skip
            have hst : Z 9 < low (lnP P) (i + 1) → Z = R0 := fun _ => by rw [← hR]; exact (melL_stopAt hiZ hloZ (by rw [hA.ln]; exact c57) hkZ (by rw [hA 1 (by omega), hA (46 + 4 * i + 2) (by omega)]; exact Nat.not_le.mpr c79) f).symm
            exact r_return F w dX3_meltIn_170 (⟨Z, f, hA, hM, hD, h10, hR, hf, hlo, hen, hst, rfl⟩)
          · skip
            have hgu : gasU Z i = gasU P i := by unfold gasU; rw [hA (46 + 4 * i) (by omega), hA (46 + 4 * i + 2) (by omega), hA (46 + 4 * i + 3) (by omega)]
            have hdu : dirtU Z i = dirtU P i := by unfold dirtU; rw [hA (46 + 4 * i) (by omega), hA (46 + 4 * i + 3) (by omega)]
            have hdn : Z (46 + 4 * i + 2) = P (46 + 4 * i + 2) := hA _ (by omega)
            have hz1 : Z 1 = P 1 := hA 1 (by omega)
            have hlt9 : Z 9 < top P := Nat.lt_of_lt_of_le c57 (low_mono (lnP P) (show i + 1 ≤ P 8 from hi))
            have hltZ : Z 9 < low (lnP Z) (i + 1) := by rw [hA.ln]; exact c57
            have c70Z : Z 11 < Z 2 := by rw [hA 2 (by omega)]; exact c70
            have c79Z : Z 1 * Z (46 + 4 * i + 2) / 100 ≤ Z 10 := by rw [hz1, hdn]; exact Nat.not_lt.mp c79
            refine lv_aload_n F.1 F.2.1 dX3_meltIn_82 rfl (lv_at hl 0 rfl) ?_
            refine lv_dup F.1 F.2.1 dX3_meltIn_83 rfl ?_
            refine r_get F w 0 5 iX3 f56 rfl rfl rfl (by decide) rfl dX3_meltIn_84 ?_
            refine lv_iconst (v := nI 1) F.1 F.2.1 dX3_meltIn_87 (by decide) ?_
            refine r_iadd F dX3_meltIn_88 ?_
            refine r_put (ws' := plH G (pa 0) (pa 1) (pa 2) (pa 3) (fun k => P k) (fun k => Z (19 + k)) ((Z 9) + 1) (Z 10) (Z 11) (Z 12) (Z 13) tol wbt tk rs st ++ (coreW G (pa 1) (P 8) (top P) (kdP P) (lnP P) (dnP P) (moP P) lo)) F w 0 5 iX3 okX3 f56 rfl rfl rfl (by decide) (by decide +kernel) (Nat.le_of_ble_eq_true rfl) dX3_meltIn_89 rfl (fun H locs w => ?_)
            refine lv_aload_n F.1 F.2.1 dX3_meltIn_92 rfl (lv_at hl 0 rfl) ?_
            refine lv_dup F.1 F.2.1 dX3_meltIn_93 rfl ?_
            refine r_get F w 0 6 iX3 f60 rfl rfl rfl (by decide) rfl dX3_meltIn_94 ?_
            refine lv_iload F.1 F.2.1 dX3_meltIn_97 (lv_at hl 6 rfl) ?_
            refine r_isub F dX3_meltIn_99 (by omega) ?_
            refine r_put (ws' := plH G (pa 0) (pa 1) (pa 2) (pa 3) (fun k => P k) (fun k => Z (19 + k)) ((Z 9) + 1) ((Z 10) - (P 1 * P (46 + 4 * i + 2) / 100)) (Z 11) (Z 12) (Z 13) tol wbt tk rs st ++ (coreW G (pa 1) (P 8) (top P) (kdP P) (lnP P) (dnP P) (moP P) lo)) F w 0 6 iX3 okX3 f60 rfl rfl rfl (by decide) (by decide +kernel) (Nat.le_of_ble_eq_true rfl) dX3_meltIn_100 rfl (fun H locs w => ?_)
            refine lv_aload_n F.1 F.2.1 dX3_meltIn_103 rfl (lv_at hl 0 rfl) ?_
            refine lv_dup F.1 F.2.1 dX3_meltIn_104 rfl ?_
            refine r_get F w 0 7 iX3 f63 rfl rfl rfl (by decide) rfl dX3_meltIn_105 ?_
            refine lv_iload_n F.1 F.2.1 dX3_meltIn_108 rfl (lv_at hl 3 rfl) ?_
            refine r_iadd F dX3_meltIn_109 ?_
            refine r_put (ws' := plH G (pa 0) (pa 1) (pa 2) (pa 3) (fun k => P k) (fun k => Z (19 + k)) ((Z 9) + 1) ((Z 10) - (P 1 * P (46 + 4 * i + 2) / 100)) ((Z 11) + (P (46 + 4 * i + 2))) (Z 12) (Z 13) tol wbt tk rs st ++ (coreW G (pa 1) (P 8) (top P) (kdP P) (lnP P) (dnP P) (moP P) lo)) F w 0 7 iX3 okX3 f63 rfl rfl rfl (by decide) (by decide +kernel) (Nat.le_of_ble_eq_true rfl) dX3_meltIn_110 rfl (fun H locs w => ?_)
            refine lv_aload_n F.1 F.2.1 dX3_meltIn_113 rfl (lv_at hl 0 rfl) ?_
            refine lv_dup F.1 F.2.1 dX3_meltIn_114 rfl ?_
            refine r_get F w 0 8 iX3 f66 rfl rfl rfl (by decide) rfl dX3_meltIn_115 ?_
            refine lv_iload F.1 F.2.1 dX3_meltIn_118 (lv_at hl 4 rfl) ?_
            refine r_iadd F dX3_meltIn_120 ?_
            refine r_put (ws' := plH G (pa 0) (pa 1) (pa 2) (pa 3) (fun k => P k) (fun k => Z (19 + k)) ((Z 9) + 1) ((Z 10) - (P 1 * P (46 + 4 * i + 2) / 100)) ((Z 11) + (P (46 + 4 * i + 2))) ((Z 12) + (gasU P i)) (Z 13) tol wbt tk rs st ++ (coreW G (pa 1) (P 8) (top P) (kdP P) (lnP P) (dnP P) (moP P) lo)) F w 0 8 iX3 okX3 f66 rfl rfl rfl (by decide) (by decide +kernel) (Nat.le_of_ble_eq_true rfl) dX3_meltIn_121 rfl (fun H locs w => ?_)
            refine lv_aload_n F.1 F.2.1 dX3_meltIn_124 rfl (lv_at hl 0 rfl) ?_
            refine lv_dup F.1 F.2.1 dX3_meltIn_125 rfl ?_
            refine r_get F w 0 9 iX3 f69 rfl rfl rfl (by decide) rfl dX3_meltIn_126 ?_
            refine lv_iload F.1 F.2.1 dX3_meltIn_129 (lv_at hl 5 rfl) ?_
            refine r_iadd F dX3_meltIn_131 ?_
            refine r_put (ws' := plH G (pa 0) (pa 1) (pa 2) (pa 3) (fun k => P k) (fun k => Z (19 + k)) ((Z 9) + 1) ((Z 10) - (P 1 * P (46 + 4 * i + 2) / 100)) ((Z 11) + (P (46 + 4 * i + 2))) ((Z 12) + (gasU P i)) ((Z 13) + (dirtU P i)) tol wbt tk rs st ++ (coreW G (pa 1) (P 8) (top P) (kdP P) (lnP P) (dnP P) (moP P) lo)) F w 0 9 iX3 okX3 f69 rfl rfl rfl (by decide) (by decide +kernel) (Nat.le_of_ble_eq_true rfl) dX3_meltIn_132 rfl (fun H locs w => ?_)
            refine lv_aload_n F.1 F.2.1 dX3_meltIn_135 rfl (lv_at hl 0 rfl) ?_
            refine r_get F w 0 4 iX3 f34 rfl rfl rfl (by decide) rfl dX3_meltIn_136 ?_
            refine lv_iconst (v := nI 0) F.1 F.2.1 dX3_meltIn_139 (by decide) ?_
            refine lv_dup2_11 F.1 F.2.1 dX3_meltIn_140 rfl rfl ?_
            refine r_iald F w 2 rfl (by omega) (by decide) dX3_meltIn_141 ?_
            refine lv_iload_n F.1 F.2.1 dX3_meltIn_142 rfl (lv_at hl 3 rfl) ?_
            refine r_iadd F dX3_meltIn_143 ?_
            refine r_iast (ws' := plH G (pa 0) (pa 1) (pa 2) (pa 3) (fun k => P k) (up (fun k => Z (19 + k)) 0 ((Z (19 + 0)) + (P (46 + 4 * i + 2)))) ((Z 9) + 1) ((Z 10) - (P 1 * P (46 + 4 * i + 2) / 100)) ((Z 11) + (P (46 + 4 * i + 2))) ((Z 12) + (gasU P i)) ((Z 13) + (dirtU P i)) tol wbt tk rs st ++ (coreW G (pa 1) (P 8) (top P) (kdP P) (lnP P) (dnP P) (moP P) lo)) F w 2 rfl (by omega) (by decide) dX3_meltIn_144 rfl (fun H locs w => ?_)
            refine lv_aload_n F.1 F.2.1 dX3_meltIn_145 rfl (lv_at hl 0 rfl) ?_
            refine r_get F w 0 4 iX3 f34 rfl rfl rfl (by decide) rfl dX3_meltIn_146 ?_
            refine lv_iconst (v := nI 3) F.1 F.2.1 dX3_meltIn_149 (by decide) ?_
            refine lv_dup2_11 F.1 F.2.1 dX3_meltIn_150 rfl rfl ?_
            refine r_iald F w 2 rfl (by omega) (by decide) dX3_meltIn_151 ?_
            refine r_to (y := nI (Z (19 + 3))) (congrArg nI (up_n _ _ (by decide))) ?_
            refine lv_iload F.1 F.2.1 dX3_meltIn_152 (lv_at hl 4 rfl) ?_
            refine r_iadd F dX3_meltIn_154 ?_
            refine r_iast (ws' := plH G (pa 0) (pa 1) (pa 2) (pa 3) (fun k => P k) (up (up (fun k => Z (19 + k)) 0 ((Z (19 + 0)) + (P (46 + 4 * i + 2)))) 3 ((Z (19 + 3)) + (gasU P i))) ((Z 9) + 1) ((Z 10) - (P 1 * P (46 + 4 * i + 2) / 100)) ((Z 11) + (P (46 + 4 * i + 2))) ((Z 12) + (gasU P i)) ((Z 13) + (dirtU P i)) tol wbt tk rs st ++ (coreW G (pa 1) (P 8) (top P) (kdP P) (lnP P) (dnP P) (moP P) lo)) F w 2 rfl (by omega) (by decide) dX3_meltIn_155 rfl (fun H locs w => ?_)
            refine lv_aload_n F.1 F.2.1 dX3_meltIn_156 rfl (lv_at hl 0 rfl) ?_
            refine r_get F w 0 4 iX3 f34 rfl rfl rfl (by decide) rfl dX3_meltIn_157 ?_
            refine lv_iconst (v := nI 5) F.1 F.2.1 dX3_meltIn_160 (by decide) ?_
            refine lv_dup2_11 F.1 F.2.1 dX3_meltIn_161 rfl rfl ?_
            refine r_iald F w 2 rfl (by omega) (by decide) dX3_meltIn_162 ?_
            refine r_to (y := nI (Z (19 + 5))) (congrArg nI ((up_n _ _ (by decide)).trans (up_n _ _ (by decide)))) ?_
            refine lv_iload F.1 F.2.1 dX3_meltIn_163 (lv_at hl 5 rfl) ?_
            refine r_iadd F dX3_meltIn_165 ?_
            refine r_iast (ws' := plH G (pa 0) (pa 1) (pa 2) (pa 3) (fun k => P k) (up (up (up (fun k => Z (19 + k)) 0 ((Z (19 + 0)) + (P (46 + 4 * i + 2)))) 3 ((Z (19 + 3)) + (gasU P i))) 5 ((Z (19 + 5)) + (dirtU P i))) ((Z 9) + 1) ((Z 10) - (P 1 * P (46 + 4 * i + 2) / 100)) ((Z 11) + (P (46 + 4 * i + 2))) ((Z 12) + (gasU P i)) ((Z 13) + (dirtU P i)) tol wbt tk rs st ++ (coreW G (pa 1) (P 8) (top P) (kdP P) (lnP P) (dnP P) (moP P) lo)) F w 2 rfl (by omega) (by decide) dX3_meltIn_166 rfl (fun H locs w => ?_)
            have w := w.eq (ws' := plH G (pa 0) (pa 1) (pa 2) (pa 3) (fun k => P k) (fun k => (unitF Z i) (19 + k)) ((unitF Z i) 9) ((unitF Z i) 10) ((unitF Z i) 11) ((unitF Z i) 12) ((unitF Z i) 13) tol wbt tk rs st ++ (coreW G (pa 1) (P 8) (top P) (kdP P) (lnP P) (dnP P) (moP P) lo)) (eqW.app (plH_eq (unitF_9 Z i).symm (by rw [unitF_10, hz1, hdn]) (by rw [unitF_11, hdn]) (by rw [unitF_12, hgu]) (by rw [unitF_13, hdu]) rfl rfl rfl rfl rfl (fun _ _ => rfl) (lt7 (by rw [unitF_19, hdn]; rfl) (unitF_o Z i (by omega)).symm (unitF_o Z i (by omega)).symm (by rw [unitF_22, hgu]; rfl) (unitF_o Z i (by omega)).symm (by rw [unitF_24, hdu]; rfl) (unitF_o Z i (by omega)).symm)) (eqW.rf _))
            refine lv_goto (tgt := 52) F.1 F.2.1 dX3_meltIn_167 (by decide) ?_
            exact ih52 (unitF Z i) (f - 1) (hA.tr (AgM.unit Z i)) (unit_mel hSZ hM hiZ hloZ hltZ) (unit_dr hD i) (by rw [unitF_10]; omega) ((melL_unitAt hiZ hloZ hltZ c70Z hkZ c79Z (f - 1)).symm.trans (by rw [show f - 1 + 1 = f by omega]; exact hR)) (by rw [unitF_9]; omega) (by rw [unitF_9]; omega) (by rw [unitF_9]; omega) (by rw [unitF_9]; omega) _ _ w ls (lv_sub hl [0, 1, 2, 3, 4, 5, 6] rfl)
  exact L52 _ P f0 (AgM.rf P) hM0 hD0 (Nat.le_refl _) hR0 hf0 h1 (Nat.le_of_lt h2) (Nat.lt_succ_self _) _ _ w ls (lv_sub hl [5, 6, 4, 3, 2, 1, 0] rfl)

