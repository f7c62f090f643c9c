set_option maxRecDepth 100000 in
set_option maxHeartbeats 4000000 in
theorem c_X7_accountM (l : Launch) (G : KG) (ma hb xa ra : Nat → Nat) (pn pt : Nat → Nat → Nat) (P lo : Nat → Nat) (hI : Inv P) (hlk : LoOk P lo) (x : Int32) (hx : x < 0) : MetI l yX7_account wsX7_account 0 G (mainW G ma ((pn 0) 0) ((pt 0) 0) (hb 0) (xa 0) (ra 0) ++ (plH G (pn 0) (pn 1) (pn 2) (pn 3) (fun k => P k) (fun k => P (19 + k)) (P 9) (P 10) (P 11) (P 12) (P 13) (toldF P) (watF P) (P 16) (P 17) (P 18) ++ (coreW G (pn 1) (P 8) (top P) (kdP P) (lnP P) (dnP P) (moP P) lo ++ (linesW G (pn 2) (fun k => P (26 + 5 * k)) (fun k => P (26 + 5 * k + 1)) (fun k => P (26 + 5 * k + 2)) (fun k => P (26 + 5 * k + 3)) (fun k => P (26 + 5 * k + 4)) ++ (vialsW G (pn 3) (P 14) (P 15) (fun k => P (126 + 3 * k)) (fun k => P (126 + 3 * k + 1)) (fun k => P (126 + 3 * k + 2))))))) [.ref (ma 0), .int x] (fun r v => r = -1 ∧ v = mainW G ma ((pn 0) 0) ((pt 0) 0) (hb 0) (xa 0) (ra 0) ++ (plH G (pn 0) (pn 1) (pn 2) (pn 3) (fun k => P k) (fun k => P (19 + k)) (P 9) (P 10) (P 11) (P 12) (P 13) (toldF P) (watF P) (P 16) (P 17) (P 18) ++ (coreW G (pn 1) (P 8) (top P) (kdP P) (lnP P) (dnP P) (moP P) lo ++ (linesW G (pn 2) (fun k => P (26 + 5 * k)) (fun k => P (26 + 5 * k + 1)) (fun k => P (26 + 5 * k + 2)) (fun k => P (26 + 5 * k + 3)) (fun k => P (26 + 5 * k + 4)) ++ (vialsW G (pn 3) (P 14) (P 15) (fun k => P (126 + 3 * k)) (fun k => P (126 + 3 * k + 1)) (fun k => P (126 + 3 * k + 2))))))) := by
  refine MetI.by (cc := cX7_account) (nL := 2) (ret := some .int) (by decide +kernel) rfl (Nat.le_of_ble_eq_true rfl) ?_
  intro p e s m args below meth c F w ls hl
  have hl : lv_has ls 2 [(0, .ref (ma 0)), (1, .int x)] := hl
  have hts := F.ts
  refine lv_iload_n F.1 F.2.1 dX7_account_0 rfl (lv_at hl 1 rfl) ?_
  refine lv_if_lt (tgt := 10) F.1 F.2.1 dX7_account_1 (by decide) (fun c1 => ?_) (fun c1 => ?_)
  · skip
    refine lv_iconst (v := (-1)) F.1 F.2.1 dX7_account_10 (by decide) ?_
    exact r_ireturn F w dX7_account_11 (⟨rfl, rfl⟩)
  · exact absurd hx c1
set_option maxRecDepth 100000 in
set_option maxHeartbeats 4000000 in
theorem c_X7_accountN (l : Launch) (G : KG) (ma hb xa ra : Nat → Nat) (pn pt : Nat → Nat → Nat) (P lo : Nat → Nat) (hI : Inv P) (hlk : LoOk P lo) (i : Nat) (hi31 : i < 2 ^ 31) : MetI l yX7_account wsX7_account 0 G (mainW G ma ((pn 0) 0) ((pt 0) 0) (hb 0) (xa 0) (ra 0) ++ (plH G (pn 0) (pn 1) (pn 2) (pn 3) (fun k => P k) (fun k => P (19 + k)) (P 9) (P 10) (P 11) (P 12) (P 13) (toldF P) (watF P) (P 16) (P 17) (P 18) ++ (coreW G (pn 1) (P 8) (top P) (kdP P) (lnP P) (dnP P) (moP P) lo ++ (linesW G (pn 2) (fun k => P (26 + 5 * k)) (fun k => P (26 + 5 * k + 1)) (fun k => P (26 + 5 * k + 2)) (fun k => P (26 + 5 * k + 3)) (fun k => P (26 + 5 * k + 4)) ++ (vialsW G (pn 3) (P 14) (P 15) (fun k => P (126 + 3 * k)) (fun k => P (126 + 3 * k + 1)) (fun k => P (126 + 3 * k + 2))))))) [.ref (ma 0), .int (nI i)] (fun r v => r = accN P i ∧ v = mainW G ma ((pn 0) 0) ((pt 0) 0) (hb 0) (xa 0) (ra 0) ++ (plH G (pn 0) (pn 1) (pn 2) (pn 3) (fun k => P k) (fun k => P (19 + k)) (P 9) (P 10) (P 11) (P 12) (P 13) (toldF P) (watF P) (P 16) (P 17) (P 18) ++ (coreW G (pn 1) (P 8) (top P) (kdP P) (lnP P) (dnP P) (moP P) lo ++ (linesW G (pn 2) (fun k => P (26 + 5 * k)) (fun k => P (26 + 5 * k + 1)) (fun k => P (26 + 5 * k + 2)) (fun k => P (26 + 5 * k + 3)) (fun k => P (26 + 5 * k + 4)) ++ (vialsW G (pn 3) (P 14) (P 15) (fun k => P (126 + 3 * k)) (fun k => P (126 + 3 * k + 1)) (fun k => P (126 + 3 * k + 2))))))) := by
  refine MetI.by (cc := cX7_account) (nL := 2) (ret := some .int) (by decide +kernel) rfl (Nat.le_of_ble_eq_true rfl) ?_
  intro p e s m args below meth c F w ls hl
  have hl : lv_has ls 2 [(0, .ref (ma 0)), (1, .int (nI i))] := hl
  have hts := F.ts
  have iX3 : ∀ w ∈ wsX30, w ∈ wsX7_account := by decide +kernel
  have iX7 : ∀ w ∈ wsX70, w ∈ wsX7_account := by decide +kernel
  have f10 := hts (.fieldLink RX7 10 "CoreMelter" "now" "LCoreMelter$Plate;") (by decide +kernel)
  have f180 := hts (.fieldLink RX7 180 "CoreMelter$Plate" "accounts" "[I") (by decide +kernel)
  have hD := hI.d
  obtain ⟨b9, b11, b20, b12, b13, b25, b23⟩ := hD.bnd
  have h8 := hD.1.1
  have ht := hD.1.top_le
  have hco := core_ok hD.1 hlk
  have h14 := hI.2.2.2.2.2.1.1
  refine lv_iload_n F.1 F.2.1 dX7_account_0 rfl (lv_at hl 1 rfl) ?_
  refine r_zlt (tgt := 10) F dX7_account_1 (by decide) (by omega) ?_
  refine lv_iload_n F.1 F.2.1 dX7_account_4 rfl (lv_at hl 1 rfl) ?_
  refine lv_bipush (v := nI 7) F.1 F.2.1 dX7_account_5 (by decide) ?_
  refine r_clt (tgt := 12) F dX7_account_7 (by decide) (by omega) (by omega) (fun c7 => ?_) (fun c7 => ?_)
  · skip
    refine lv_aload_n F.1 F.2.1 dX7_account_12 rfl (lv_at hl 0 rfl) ?_
    refine r_get F w 0 0 iX7 f10 rfl rfl rfl (by decide) rfl dX7_account_13 ?_
    refine r_get F w 1 4 iX3 f180 rfl rfl rfl (by decide) rfl dX7_account_16 ?_
    refine lv_iload_n F.1 F.2.1 dX7_account_19 rfl (lv_at hl 1 rfl) ?_
    refine r_iald F w 3 rfl (by omega) (by decide) dX7_account_20 ?_
    exact r_ireturn F w dX7_account_21 (⟨(if_pos c7).symm, rfl⟩)
  · skip
    refine lv_iconst (v := (-1)) F.1 F.2.1 dX7_account_10 (by decide) ?_
    exact r_ireturn F w dX7_account_11 (⟨(if_neg c7).symm, rfl⟩)
theorem c_X7_account (l : Launch) (G : KG) (ma hb xa ra : Nat → Nat) (pn pt : Nat → Nat → Nat) (P lo : Nat → Nat) (hI : Inv P) (hlk : LoOk P lo) (x : Int32) : MetI l yX7_account wsX7_account 0 G (mainW G ma ((pn 0) 0) ((pt 0) 0) (hb 0) (xa 0) (ra 0) ++ (plH G (pn 0) (pn 1) (pn 2) (pn 3) (fun k => P k) (fun k => P (19 + k)) (P 9) (P 10) (P 11) (P 12) (P 13) (toldF P) (watF P) (P 16) (P 17) (P 18) ++ (coreW G (pn 1) (P 8) (top P) (kdP P) (lnP P) (dnP P) (moP P) lo ++ (linesW G (pn 2) (fun k => P (26 + 5 * k)) (fun k => P (26 + 5 * k + 1)) (fun k => P (26 + 5 * k + 2)) (fun k => P (26 + 5 * k + 3)) (fun k => P (26 + 5 * k + 4)) ++ (vialsW G (pn 3) (P 14) (P 15) (fun k => P (126 + 3 * k)) (fun k => P (126 + 3 * k + 1)) (fun k => P (126 + 3 * k + 2))))))) [.ref (ma 0), .int x] (fun r v => r = on1 (accN P) x ∧ v = mainW G ma ((pn 0) 0) ((pt 0) 0) (hb 0) (xa 0) (ra 0) ++ (plH G (pn 0) (pn 1) (pn 2) (pn 3) (fun k => P k) (fun k => P (19 + k)) (P 9) (P 10) (P 11) (P 12) (P 13) (toldF P) (watF P) (P 16) (P 17) (P 18) ++ (coreW G (pn 1) (P 8) (top P) (kdP P) (lnP P) (dnP P) (moP P) lo ++ (linesW G (pn 2) (fun k => P (26 + 5 * k)) (fun k => P (26 + 5 * k + 1)) (fun k => P (26 + 5 * k + 2)) (fun k => P (26 + 5 * k + 3)) (fun k => P (26 + 5 * k + 4)) ++ (vialsW G (pn 3) (P 14) (P 15) (fun k => P (126 + 3 * k)) (fun k => P (126 + 3 * k + 1)) (fun k => P (126 + 3 * k + 2))))))) := by
  by_cases h : x < 0
  · rw [on1_neg h]; exact c_X7_accountM l G ma hb xa ra pn pt P lo hI hlk x h
  · obtain ⟨i, hi, rfl⟩ := nI_of h
    rw [on1_nat hi]
    exact c_X7_accountN l G ma hb xa ra pn pt P lo hI hlk i hi
set_option maxRecDepth 100000 in
set_option maxHeartbeats 4000000 in
theorem c_X7_segmentAtM (l : Launch) (G : KG) (ma hb xa ra : Nat → Nat) (pn pt : Nat → Nat → Nat) (P lo : Nat → Nat) (hI : Inv P) (hlk : LoOk P lo) (x : Int32) (hx : x < 0) : MetI l yX7_segmentAt wsX7_segmentAt 3 G (mainW G ma ((pn 0) 0) ((pt 0) 0) (hb 0) (xa 0) (ra 0) ++ (plH G (pn 0) (pn 1) (pn 2) (pn 3) (fun k => P k) (fun k => P (19 + k)) (P 9) (P 10) (P 11) (P 12) (P 13) (toldF P) (watF P) (P 16) (P 17) (P 18) ++ (coreW G (pn 1) (P 8) (top P) (kdP P) (lnP P) (dnP P) (moP P) lo ++ (linesW G (pn 2) (fun k => P (26 + 5 * k)) (fun k => P (26 + 5 * k + 1)) (fun k => P (26 + 5 * k + 2)) (fun k => P (26 + 5 * k + 3)) (fun k => P (26 + 5 * k + 4)) ++ (vialsW G (pn 3) (P 14) (P 15) (fun k => P (126 + 3 * k)) (fun k => P (126 + 3 * k + 1)) (fun k => P (126 + 3 * k + 2))))))) [.ref (ma 0), .int x] (fun r v => r = -1 ∧ v = mainW G ma ((pn 0) 0) ((pt 0) 0) (hb 0) (xa 0) (ra 0) ++ (plH G (pn 0) (pn 1) (pn 2) (pn 3) (fun k => P k) (fun k => P (19 + k)) (P 9) (P 10) (P 11) (P 12) (P 13) (toldF P) (watF P) (P 16) (P 17) (P 18) ++ (coreW G (pn 1) (P 8) (top P) (kdP P) (lnP P) (dnP P) (moP P) lo ++ (linesW G (pn 2) (fun k => P (26 + 5 * k)) (fun k => P (26 + 5 * k + 1)) (fun k => P (26 + 5 * k + 2)) (fun k => P (26 + 5 * k + 3)) (fun k => P (26 + 5 * k + 4)) ++ (vialsW G (pn 3) (P 14) (P 15) (fun k => P (126 + 3 * k)) (fun k => P (126 + 3 * k + 1)) (fun k => P (126 + 3 * k + 2))))))) := by
  refine MetI.by (cc := cX7_segmentAt) (nL := 2) (ret := some .int) (by decide +kernel) rfl (Nat.le_of_ble_eq_true rfl) ?_
  intro p e s m args below meth c F w ls hl
  have hl : lv_has ls 2 [(0, .ref (ma 0)), (1, .int x)] := hl
  have hts := F.ts
  refine lv_iload_n F.1 F.2.1 dX7_segmentAt_0 rfl (lv_at hl 1 rfl) ?_
  refine lv_if_ge (tgt := 6) F.1 F.2.1 dX7_segmentAt_1 (by decide) (fun c1 => ?_) (fun c1 => ?_)
  · exact absurd hx (Int32.not_lt.mpr c1)
  · skip
    refine lv_iconst (v := (-1)) F.1 F.2.1 dX7_segmentAt_4 (by decide) ?_
    exact r_ireturn F w dX7_segmentAt_5 (⟨rfl, rfl⟩)
set_option maxRecDepth 100000 in
set_option maxHeartbeats 4000000 in
theorem c_X7_segmentAtN (l : Launch) (G : KG) (ma hb xa ra : Nat → Nat) (pn pt : Nat → Nat → Nat) (P lo : Nat → Nat) (hI : Inv P) (hlk : LoOk P lo) (i : Nat) (hi31 : i < 2 ^ 31) : MetI l yX7_segmentAt wsX7_segmentAt 3 G (mainW G ma ((pn 0) 0) ((pt 0) 0) (hb 0) (xa 0) (ra 0) ++ (plH G (pn 0) (pn 1) (pn 2) (pn 3) (fun k => P k) (fun k => P (19 + k)) (P 9) (P 10) (P 11) (P 12) (P 13) (toldF P) (watF P) (P 16) (P 17) (P 18) ++ (coreW G (pn 1) (P 8) (top P) (kdP P) (lnP P) (dnP P) (moP P) lo ++ (linesW G (pn 2) (fun k => P (26 + 5 * k)) (fun k => P (26 + 5 * k + 1)) (fun k => P (26 + 5 * k + 2)) (fun k => P (26 + 5 * k + 3)) (fun k => P (26 + 5 * k + 4)) ++ (vialsW G (pn 3) (P 14) (P 15) (fun k => P (126 + 3 * k)) (fun k => P (126 + 3 * k + 1)) (fun k => P (126 + 3 * k + 2))))))) [.ref (ma 0), .int (nI i)] (fun r v => r = segAtN P i ∧ v = mainW G ma ((pn 0) 0) ((pt 0) 0) (hb 0) (xa 0) (ra 0) ++ (plH G (pn 0) (pn 1) (pn 2) (pn 3) (fun k => P k) (fun k => P (19 + k)) (P 9) (P 10) (P 11) (P 12) (P 13) (toldF P) (watF P) (P 16) (P 17) (P 18) ++ (coreW G (pn 1) (P 8) (top P) (kdP P) (lnP P) (dnP P) (moP P) lo ++ (linesW G (pn 2) (fun k => P (26 + 5 * k)) (fun k => P (26 + 5 * k + 1)) (fun k => P (26 + 5 * k + 2)) (fun k => P (26 + 5 * k + 3)) (fun k => P (26 + 5 * k + 4)) ++ (vialsW G (pn 3) (P 14) (P 15) (fun k => P (126 + 3 * k)) (fun k => P (126 + 3 * k + 1)) (fun k => P (126 + 3 * k + 2))))))) := by
  refine MetI.by (cc := cX7_segmentAt) (nL := 2) (ret := some .int) (by decide +kernel) rfl (Nat.le_of_ble_eq_true rfl) ?_
  intro p e s m args below meth c F w ls hl
  have hl : lv_has ls 2 [(0, .ref (ma 0)), (1, .int (nI i))] := hl
  have hts := F.ts
  have iX0 : ∀ w ∈ wsX00, w ∈ wsX7_segmentAt := by decide +kernel
  have iX3 : ∀ w ∈ wsX30, w ∈ wsX7_segmentAt := by decide +kernel
  have iX7 : ∀ w ∈ wsX70, w ∈ wsX7_segmentAt := by decide +kernel
  have f10 := hts (.fieldLink RX7 10 "CoreMelter" "now" "LCoreMelter$Plate;") (by decide +kernel)
  have f46 := hts (.fieldLink RX7 46 "CoreMelter$Plate" "core" "LCoreMelter$Core;") (by decide +kernel)
  have f89 := hts (.fieldLink RX7 89 "CoreMelter$Core" "height" "I") (by decide +kernel)
  have hD := hI.d
  obtain ⟨b9, b11, b20, b12, b13, b25, b23⟩ := hD.bnd
  have h8 := hD.1.1
  have ht := hD.1.top_le
  have hco := core_ok hD.1 hlk
  have h14 := hI.2.2.2.2.2.1.1
  refine lv_iload_n F.1 F.2.1 dX7_segmentAt_0 rfl (lv_at hl 1 rfl) ?_
  refine r_zge (tgt := 6) F dX7_segmentAt_1 (by decide) (by omega) ?_
  refine lv_iload_n F.1 F.2.1 dX7_segmentAt_6 rfl (lv_at hl 1 rfl) ?_
  refine lv_aload_n F.1 F.2.1 dX7_segmentAt_7 rfl (lv_at hl 0 rfl) ?_
  refine r_get F w 0 0 iX7 f10 rfl rfl rfl (by decide) rfl dX7_segmentAt_8 ?_
  refine r_get F w 1 0 iX3 f46 rfl rfl rfl (by decide) rfl dX7_segmentAt_11 ?_
  refine r_get F w 4 1 iX0 f89 rfl rfl rfl (by decide) rfl dX7_segmentAt_14 ?_
  refine r_clt (tgt := 23) F dX7_segmentAt_17 (by decide) (by omega) (by omega) (fun c17 => ?_) (fun c17 => ?_)
  · skip
    refine lv_aload_n F.1 F.2.1 dX7_segmentAt_23 rfl (lv_at hl 0 rfl) ?_
    refine r_get F w 0 0 iX7 f10 rfl rfl rfl (by decide) rfl dX7_segmentAt_24 ?_
    refine r_get F w 1 0 iX3 f46 rfl rfl rfl (by decide) rfl dX7_segmentAt_27 ?_
    refine lv_iload_n F.1 F.2.1 dX7_segmentAt_30 rfl (lv_at hl 1 rfl) ?_
    refine r_callVI (rest := []) F w (c_X0_holding l G (pn 1) (P 8) (top P) (kdP P) (lnP P) (dnP P) (moP P) lo i hi31 hco) gX7_segmentAt_X0_holding [4, 5, 6, 7, 8, 9] [0, 1, 2, 3, 10, 11, 12, 13, 14, 15, 16, 17, 18, 19] (nA0 := 1) rfl (by decide +kernel) rfl ⟨Nat.le_of_ble_eq_true rfl, Nat.le_of_ble_eq_true rfl⟩ ⟨Nat.le_of_ble_eq_true rfl, Nat.le_of_ble_eq_true rfl⟩ rfl rfl rfl rfl rfl rfl rfl hl rfl (Nat.le_of_ble_eq_true rfl) dX7_segmentAt_31 (fun r_31 w1 H locs hp w => ?_)
    obtain ⟨rfl, rfl⟩ := hp
    have w := w.sub (ws' := mainW G ma ((pn 0) 0) ((pt 0) 0) (hb 0) (xa 0) (ra 0) ++ (plH G (pn 0) (pn 1) (pn 2) (pn 3) (fun k => P k) (fun k => P (19 + k)) (P 9) (P 10) (P 11) (P 12) (P 13) (toldF P) (watF P) (P 16) (P 17) (P 18) ++ (coreW G (pn 1) (P 8) (top P) (kdP P) (lnP P) (dnP P) (moP P) lo ++ (linesW G (pn 2) (fun k => P (26 + 5 * k)) (fun k => P (26 + 5 * k + 1)) (fun k => P (26 + 5 * k + 2)) (fun k => P (26 + 5 * k + 3)) (fun k => P (26 + 5 * k + 4)) ++ (vialsW G (pn 3) (P 14) (P 15) (fun k => P (126 + 3 * k)) (fun k => P (126 + 3 * k + 1)) (fun k => P (126 + 3 * k + 2))))))) [0, 1, 2, 3, 14, 15, 16, 17, 18, 19, 4, 5, 6, 7, 8, 9, 10, 11, 12, 13] (by decide) rfl
    exact r_ireturn F w dX7_segmentAt_34 (⟨(if_pos c17).symm, rfl⟩)
  · skip
    refine lv_bipush (v := (-4)) F.1 F.2.1 dX7_segmentAt_20 (by decide) ?_
    exact r_ireturn F w dX7_segmentAt_22 (⟨(if_neg c17).symm, rfl⟩)
theorem c_X7_segmentAt (l : Launch) (G : KG) (ma hb xa ra : Nat → Nat) (pn pt : Nat → Nat → Nat) (P lo : Nat → Nat) (hI : Inv P) (hlk : LoOk P lo) (x : Int32) : MetI l yX7_segmentAt wsX7_segmentAt 3 G (mainW G ma ((pn 0) 0) ((pt 0) 0) (hb 0) (xa 0) (ra 0) ++ (plH G (pn 0) (pn 1) (pn 2) (pn 3) (fun k => P k) (fun k => P (19 + k)) (P 9) (P 10) (P 11) (P 12) (P 13) (toldF P) (watF P) (P 16) (P 17) (P 18) ++ (coreW G (pn 1) (P 8) (top P) (kdP P) (lnP P) (dnP P) (moP P) lo ++ (linesW G (pn 2) (fun k => P (26 + 5 * k)) (fun k => P (26 + 5 * k + 1)) (fun k => P (26 + 5 * k + 2)) (fun k => P (26 + 5 * k + 3)) (fun k => P (26 + 5 * k + 4)) ++ (vialsW G (pn 3) (P 14) (P 15) (fun k => P (126 + 3 * k)) (fun k => P (126 + 3 * k + 1)) (fun k => P (126 + 3 * k + 2))))))) [.ref (ma 0), .int x] (fun r v => r = on1 (segAtN P) x ∧ v = mainW G ma ((pn 0) 0) ((pt 0) 0) (hb 0) (xa 0) (ra 0) ++ (plH G (pn 0) (pn 1) (pn 2) (pn 3) (fun k => P k) (fun k => P (19 + k)) (P 9) (P 10) (P 11) (P 12) (P 13) (toldF P) (watF P) (P 16) (P 17) (P 18) ++ (coreW G (pn 1) (P 8) (top P) (kdP P) (lnP P) (dnP P) (moP P) lo ++ (linesW G (pn 2) (fun k => P (26 + 5 * k)) (fun k => P (26 + 5 * k + 1)) (fun k => P (26 + 5 * k + 2)) (fun k => P (26 + 5 * k + 3)) (fun k => P (26 + 5 * k + 4)) ++ (vialsW G (pn 3) (P 14) (P 15) (fun k => P (126 + 3 * k)) (fun k => P (126 + 3 * k + 1)) (fun k => P (126 + 3 * k + 2))))))) := by
  by_cases h : x < 0
  · rw [on1_neg h]; exact c_X7_segmentAtM l G ma hb xa ra pn pt P lo hI hlk x h
  · obtain ⟨i, hi, rfl⟩ := nI_of h
    rw [on1_nat hi]
    exact c_X7_segmentAtN l G ma hb xa ra pn pt P lo hI hlk i hi
set_option maxRecDepth 100000 in
set_option maxHeartbeats 4000000 in
theorem c_X7_waterBelowM (l : Launch) (G : KG) (ma hb xa ra : Nat → Nat) (pn pt : Nat → Nat → Nat) (P lo : Nat → Nat) (hI : Inv P) (hlk : LoOk P lo) (x : Int32) (hx : x < 0) : MetI l yX7_waterBelow wsX7_waterBelow 3 G (mainW G ma ((pn 0) 0) ((pt 0) 0) (hb 0) (xa 0) (ra 0) ++ (plH G (pn 0) (pn 1) (pn 2) (pn 3) (fun k => P k) (fun k => P (19 + k)) (P 9) (P 10) (P 11) (P 12) (P 13) (toldF P) (watF P) (P 16) (P 17) (P 18) ++ (coreW G (pn 1) (P 8) (top P) (kdP P) (lnP P) (dnP P) (moP P) lo ++ (linesW G (pn 2) (fun k => P (26 + 5 * k)) (fun k => P (26 + 5 * k + 1)) (fun k => P (26 + 5 * k + 2)) (fun k => P (26 + 5 * k + 3)) (fun k => P (26 + 5 * k + 4)) ++ (vialsW G (pn 3) (P 14) (P 15) (fun k => P (126 + 3 * k)) (fun k => P (126 + 3 * k + 1)) (fun k => P (126 + 3 * k + 2))))))) [.ref (ma 0), .int x] (fun r v => r = -1 ∧ v = mainW G ma ((pn 0) 0) ((pt 0) 0) (hb 0) (xa 0) (ra 0) ++ (plH G (pn 0) (pn 1) (pn 2) (pn 3) (fun k => P k) (fun k => P (19 + k)) (P 9) (P 10) (P 11) (P 12) (P 13) (toldF P) (watF P) (P 16) (P 17) (P 18) ++ (coreW G (pn 1) (P 8) (top P) (kdP P) (lnP P) (dnP P) (moP P) lo ++ (linesW G (pn 2) (fun k => P (26 + 5 * k)) (fun k => P (26 + 5 * k + 1)) (fun k => P (26 + 5 * k + 2)) (fun k => P (26 + 5 * k + 3)) (fun k => P (26 + 5 * k + 4)) ++ (vialsW G (pn 3) (P 14) (P 15) (fun k => P (126 + 3 * k)) (fun k => P (126 + 3 * k + 1)) (fun k => P (126 + 3 * k + 2))))))) := by
  refine MetI.by (cc := cX7_waterBelow) (nL := 2) (ret := some .int) (by decide +kernel) rfl (Nat.le_of_ble_eq_true rfl) ?_
  intro p e s m args below meth c F w ls hl
  have hl : lv_has ls 2 [(0, .ref (ma 0)), (1, .int x)] := hl
  have hts := F.ts
  refine lv_iload_n F.1 F.2.1 dX7_waterBelow_0 rfl (lv_at hl 1 rfl) ?_
  refine lv_if_lt (tgt := 18) F.1 F.2.1 dX7_waterBelow_1 (by decide) (fun c1 => ?_) (fun c1 => ?_)
  · skip
    refine lv_iconst (v := (-1)) F.1 F.2.1 dX7_waterBelow_18 (by decide) ?_
    exact r_ireturn F w dX7_waterBelow_19 (⟨rfl, rfl⟩)
  · exact absurd hx c1
set_option maxRecDepth 100000 in
set_option maxHeartbeats 4000000 in
theorem c_X7_waterBelowN (l : Launch) (G : KG) (ma hb xa ra : Nat → Nat) (pn pt : Nat → Nat → Nat) (P lo : Nat → Nat) (hI : Inv P) (hlk : LoOk P lo) (i : Nat) (hi31 : i < 2 ^ 31) : MetI l yX7_waterBelow wsX7_waterBelow 3 G (mainW G ma ((pn 0) 0) ((pt 0) 0) (hb 0) (xa 0) (ra 0) ++ (plH G (pn 0) (pn 1) (pn 2) (pn 3) (fun k => P k) (fun k => P (19 + k)) (P 9) (P 10) (P 11) (P 12) (P 13) (toldF P) (watF P) (P 16) (P 17) (P 18) ++ (coreW G (pn 1) (P 8) (top P) (kdP P) (lnP P) (dnP P) (moP P) lo ++ (linesW G (pn 2) (fun k => P (26 + 5 * k)) (fun k => P (26 + 5 * k + 1)) (fun k => P (26 + 5 * k + 2)) (fun k => P (26 + 5 * k + 3)) (fun k => P (26 + 5 * k + 4)) ++ (vialsW G (pn 3) (P 14) (P 15) (fun k => P (126 + 3 * k)) (fun k => P (126 + 3 * k + 1)) (fun k => P (126 + 3 * k + 2))))))) [.ref (ma 0), .int (nI i)] (fun r v => r = watN P i ∧ v = mainW G ma ((pn 0) 0) ((pt 0) 0) (hb 0) (xa 0) (ra 0) ++ (plH G (pn 0) (pn 1) (pn 2) (pn 3) (fun k => P k) (fun k => P (19 + k)) (P 9) (P 10) (P 11) (P 12) (P 13) (toldF P) (watF P) (P 16) (P 17) (P 18) ++ (coreW G (pn 1) (P 8) (top P) (kdP P) (lnP P) (dnP P) (moP P) lo ++ (linesW G (pn 2) (fun k => P (26 + 5 * k)) (fun k => P (26 + 5 * k + 1)) (fun k => P (26 + 5 * k + 2)) (fun k => P (26 + 5 * k + 3)) (fun k => P (26 + 5 * k + 4)) ++ (vialsW G (pn 3) (P 14) (P 15) (fun k => P (126 + 3 * k)) (fun k => P (126 + 3 * k + 1)) (fun k => P (126 + 3 * k + 2))))))) := by
  refine MetI.by (cc := cX7_waterBelow) (nL := 2) (ret := some .int) (by decide +kernel) rfl (Nat.le_of_ble_eq_true rfl) ?_
  intro p e s m args below meth c F w ls hl
  have hl : lv_has ls 2 [(0, .ref (ma 0)), (1, .int (nI i))] := hl
  have hts := F.ts
  have iX0 : ∀ w ∈ wsX00, w ∈ wsX7_waterBelow := by decide +kernel
  have iX3 : ∀ w ∈ wsX30, w ∈ wsX7_waterBelow := by decide +kernel
  have iX7 : ∀ w ∈ wsX70, w ∈ wsX7_waterBelow := by decide +kernel
  have f10 := hts (.fieldLink RX7 10 "CoreMelter" "now" "LCoreMelter$Plate;") (by decide +kernel)
  have f46 := hts (.fieldLink RX7 46 "CoreMelter$Plate" "core" "LCoreMelter$Core;") (by decide +kernel)
  have f89 := hts (.fieldLink RX7 89 "CoreMelter$Core" "height" "I") (by decide +kernel)
  have hD := hI.d
  obtain ⟨b9, b11, b20, b12, b13, b25, b23⟩ := hD.bnd
  have h8 := hD.1.1
  have ht := hD.1.top_le
  have hco := core_ok hD.1 hlk
  have h14 := hI.2.2.2.2.2.1.1
  refine lv_iload_n F.1 F.2.1 dX7_waterBelow_0 rfl (lv_at hl 1 rfl) ?_
  refine r_zlt (tgt := 18) F dX7_waterBelow_1 (by decide) (by omega) ?_
  refine lv_iload_n F.1 F.2.1 dX7_waterBelow_4 rfl (lv_at hl 1 rfl) ?_
  refine lv_aload_n F.1 F.2.1 dX7_waterBelow_5 rfl (lv_at hl 0 rfl) ?_
  refine r_get F w 0 0 iX7 f10 rfl rfl rfl (by decide) rfl dX7_waterBelow_6 ?_
  refine r_get F w 1 0 iX3 f46 rfl rfl rfl (by decide) rfl dX7_waterBelow_9 ?_
  refine r_get F w 4 1 iX0 f89 rfl rfl rfl (by decide) rfl dX7_waterBelow_12 ?_
  refine r_cle (tgt := 20) F dX7_waterBelow_15 (by decide) (by omega) (by omega) (fun c15 => ?_) (fun c15 => ?_)
  · skip
    refine lv_aload_n F.1 F.2.1 dX7_waterBelow_20 rfl (lv_at hl 0 rfl) ?_
    refine r_get F w 0 0 iX7 f10 rfl rfl rfl (by decide) rfl dX7_waterBelow_21 ?_
    refine r_get F w 1 0 iX3 f46 rfl rfl rfl (by decide) rfl dX7_waterBelow_24 ?_
    refine lv_iload_n F.1 F.2.1 dX7_waterBelow_27 rfl (lv_at hl 1 rfl) ?_
    refine r_callVI (rest := []) F w (c_X0_waterUpTo l G (pn 1) (P 8) (top P) (kdP P) (lnP P) (dnP P) (moP P) lo i (by omega) hco) gX7_waterBelow_X0_waterUpTo [4, 5, 6, 7, 8, 9] [0, 1, 2, 3, 10, 11, 12, 13, 14, 15, 16, 17, 18, 19] (nA0 := 1) rfl (by decide +kernel) rfl ⟨Nat.le_of_ble_eq_true rfl, Nat.le_of_ble_eq_true rfl⟩ ⟨Nat.le_of_ble_eq_true rfl, Nat.le_of_ble_eq_true rfl⟩ rfl rfl rfl rfl rfl rfl rfl hl rfl (Nat.le_of_ble_eq_true rfl) dX7_waterBelow_28 (fun r_28 w1 H locs hp w => ?_)
    obtain ⟨rfl, rfl⟩ := hp
    have w := w.sub (ws' := mainW G ma ((pn 0) 0) ((pt 0) 0) (hb 0) (xa 0) (ra 0) ++ (plH G (pn 0) (pn 1) (pn 2) (pn 3) (fun k => P k) (fun k => P (19 + k)) (P 9) (P 10) (P 11) (P 12) (P 13) (toldF P) (watF P) (P 16) (P 17) (P 18) ++ (coreW G (pn 1) (P 8) (top P) (kdP P) (lnP P) (dnP P) (moP P) lo ++ (linesW G (pn 2) (fun k => P (26 + 5 * k)) (fun k => P (26 + 5 * k + 1)) (fun k => P (26 + 5 * k + 2)) (fun k => P (26 + 5 * k + 3)) (fun k => P (26 + 5 * k + 4)) ++ (vialsW G (pn 3) (P 14) (P 15) (fun k => P (126 + 3 * k)) (fun k => P (126 + 3 * k + 1)) (fun k => P (126 + 3 * k + 2))))))) [0, 1, 2, 3, 14, 15, 16, 17, 18, 19, 4, 5, 6, 7, 8, 9, 10, 11, 12, 13] (by decide) rfl
    exact r_ireturn F w dX7_waterBelow_31 (⟨(if_pos (by omega)).symm, rfl⟩)
  · skip
    refine lv_iconst (v := (-1)) F.1 F.2.1 dX7_waterBelow_18 (by decide) ?_
    exact r_ireturn F w dX7_waterBelow_19 (⟨(if_neg (by omega)).symm, rfl⟩)
theorem c_X7_waterBelow (l : Launch) (G : KG) (ma hb xa ra : Nat → Nat) (pn pt : Nat → Nat → Nat) (P lo : Nat → Nat) (hI : Inv P) (hlk : LoOk P lo) (x : Int32) : MetI l yX7_waterBelow wsX7_waterBelow 3 G (mainW G ma ((pn 0) 0) ((pt 0) 0) (hb 0) (xa 0) (ra 0) ++ (plH G (pn 0) (pn 1) (pn 2) (pn 3) (fun k => P k) (fun k => P (19 + k)) (P 9) (P 10) (P 11) (P 12) (P 13) (toldF P) (watF P) (P 16) (P 17) (P 18) ++ (coreW G (pn 1) (P 8) (top P) (kdP P) (lnP P) (dnP P) (moP P) lo ++ (linesW G (pn 2) (fun k => P (26 + 5 * k)) (fun k => P (26 + 5 * k + 1)) (fun k => P (26 + 5 * k + 2)) (fun k => P (26 + 5 * k + 3)) (fun k => P (26 + 5 * k + 4)) ++ (vialsW G (pn 3) (P 14) (P 15) (fun k => P (126 + 3 * k)) (fun k => P (126 + 3 * k + 1)) (fun k => P (126 + 3 * k + 2))))))) [.ref (ma 0), .int x] (fun r v => r = on1 (watN P) x ∧ v = mainW G ma ((pn 0) 0) ((pt 0) 0) (hb 0) (xa 0) (ra 0) ++ (plH G (pn 0) (pn 1) (pn 2) (pn 3) (fun k => P k) (fun k => P (19 + k)) (P 9) (P 10) (P 11) (P 12) (P 13) (toldF P) (watF P) (P 16) (P 17) (P 18) ++ (coreW G (pn 1) (P 8) (top P) (kdP P) (lnP P) (dnP P) (moP P) lo ++ (linesW G (pn 2) (fun k => P (26 + 5 * k)) (fun k => P (26 + 5 * k + 1)) (fun k => P (26 + 5 * k + 2)) (fun k => P (26 + 5 * k + 3)) (fun k => P (26 + 5 * k + 4)) ++ (vialsW G (pn 3) (P 14) (P 15) (fun k => P (126 + 3 * k)) (fun k => P (126 + 3 * k + 1)) (fun k => P (126 + 3 * k + 2))))))) := by
  by_cases h : x < 0
  · rw [on1_neg h]; exact c_X7_waterBelowM l G ma hb xa ra pn pt P lo hI hlk x h
  · obtain ⟨i, hi, rfl⟩ := nI_of h
    rw [on1_nat hi]
    exact c_X7_waterBelowN l G ma hb xa ra pn pt P lo hI hlk i hi
set_option maxRecDepth 100000 in
set_option maxHeartbeats 4000000 in
theorem c_X7_vialAtM (l : Launch) (G : KG) (ma hb xa ra : Nat → Nat) (pn pt : Nat → Nat → Nat) (P lo : Nat → Nat) (hI : Inv P) (hlk : LoOk P lo) (x : Int32) (hx : x < 0) : MetI l yX7_vialAt wsX7_vialAt 1 G (mainW G ma ((pn 0) 0) ((pt 0) 0) (hb 0) (xa 0) (ra 0) ++ (plH G (pn 0) (pn 1) (pn 2) (pn 3) (fun k => P k) (fun k => P (19 + k)) (P 9) (P 10) (P 11) (P 12) (P 13) (toldF P) (watF P) (P 16) (P 17) (P 18) ++ (coreW G (pn 1) (P 8) (top P) (kdP P) (lnP P) (dnP P) (moP P) lo ++ (linesW G (pn 2) (fun k => P (26 + 5 * k)) (fun k => P (26 + 5 * k + 1)) (fun k => P (26 + 5 * k + 2)) (fun k => P (26 + 5 * k + 3)) (fun k => P (26 + 5 * k + 4)) ++ (vialsW G (pn 3) (P 14) (P 15) (fun k => P (126 + 3 * k)) (fun k => P (126 + 3 * k + 1)) (fun k => P (126 + 3 * k + 2))))))) [.ref (ma 0), .int x] (fun r v => r = -1 ∧ v = mainW G ma ((pn 0) 0) ((pt 0) 0) (hb 0) (xa 0) (ra 0) ++ (plH G (pn 0) (pn 1) (pn 2) (pn 3) (fun k => P k) (fun k => P (19 + k)) (P 9) (P 10) (P 11) (P 12) (P 13) (toldF P) (watF P) (P 16) (P 17) (P 18) ++ (coreW G (pn 1) (P 8) (top P) (kdP P) (lnP P) (dnP P) (moP P) lo ++ (linesW G (pn 2) (fun k => P (26 + 5 * k)) (fun k => P (26 + 5 * k + 1)) (fun k => P (26 + 5 * k + 2)) (fun k => P (26 + 5 * k + 3)) (fun k => P (26 + 5 * k + 4)) ++ (vialsW G (pn 3) (P 14) (P 15) (fun k => P (126 + 3 * k)) (fun k => P (126 + 3 * k + 1)) (fun k => P (126 + 3 * k + 2))))))) := by
  refine MetI.by (cc := cX7_vialAt) (nL := 3) (ret := some .int) (by decide +kernel) rfl (Nat.le_of_ble_eq_true rfl) ?_
  intro p e s m args below meth c F w ls hl
  have hl : lv_has ls 3 [(0, .ref (ma 0)), (1, .int x)] := hl
  have hts := F.ts
  refine lv_iload_n F.1 F.2.1 dX7_vialAt_0 rfl (lv_at hl 1 rfl) ?_
  refine lv_if_ge (tgt := 6) F.1 F.2.1 dX7_vialAt_1 (by decide) (fun c1 => ?_) (fun c1 => ?_)
  · exact absurd hx (Int32.not_lt.mpr c1)
  · skip
    refine lv_iconst (v := (-1)) F.1 F.2.1 dX7_vialAt_4 (by decide) ?_
    exact r_ireturn F w dX7_vialAt_5 (⟨rfl, rfl⟩)
set_option maxRecDepth 100000 in
set_option maxHeartbeats 4000000 in
theorem c_X7_vialAtN (l : Launch) (G : KG) (ma hb xa ra : Nat → Nat) (pn pt : Nat → Nat → Nat) (P lo : Nat → Nat) (hI : Inv P) (hlk : LoOk P lo) (i : Nat) (hi31 : i < 2 ^ 31) : MetI l yX7_vialAt wsX7_vialAt 1 G (mainW G ma ((pn 0) 0) ((pt 0) 0) (hb 0) (xa 0) (ra 0) ++ (plH G (pn 0) (pn 1) (pn 2) (pn 3) (fun k => P k) (fun k => P (19 + k)) (P 9) (P 10) (P 11) (P 12) (P 13) (toldF P) (watF P) (P 16) (P 17) (P 18) ++ (coreW G (pn 1) (P 8) (top P) (kdP P) (lnP P) (dnP P) (moP P) lo ++ (linesW G (pn 2) (fun k => P (26 + 5 * k)) (fun k => P (26 + 5 * k + 1)) (fun k => P (26 + 5 * k + 2)) (fun k => P (26 + 5 * k + 3)) (fun k => P (26 + 5 * k + 4)) ++ (vialsW G (pn 3) (P 14) (P 15) (fun k => P (126 + 3 * k)) (fun k => P (126 + 3 * k + 1)) (fun k => P (126 + 3 * k + 2))))))) [.ref (ma 0), .int (nI i)] (fun r v => r = vialAtN P i ∧ v = mainW G ma ((pn 0) 0) ((pt 0) 0) (hb 0) (xa 0) (ra 0) ++ (plH G (pn 0) (pn 1) (pn 2) (pn 3) (fun k => P k) (fun k => P (19 + k)) (P 9) (P 10) (P 11) (P 12) (P 13) (toldF P) (watF P) (P 16) (P 17) (P 18) ++ (coreW G (pn 1) (P 8) (top P) (kdP P) (lnP P) (dnP P) (moP P) lo ++ (linesW G (pn 2) (fun k => P (26 + 5 * k)) (fun k => P (26 + 5 * k + 1)) (fun k => P (26 + 5 * k + 2)) (fun k => P (26 + 5 * k + 3)) (fun k => P (26 + 5 * k + 4)) ++ (vialsW G (pn 3) (P 14) (P 15) (fun k => P (126 + 3 * k)) (fun k => P (126 + 3 * k + 1)) (fun k => P (126 + 3 * k + 2))))))) := by
  refine MetI.by (cc := cX7_vialAt) (nL := 3) (ret := some .int) (by decide +kernel) rfl (Nat.le_of_ble_eq_true rfl) ?_
  intro p e s m args below meth c F w ls hl
  have hl : lv_has ls 3 [(0, .ref (ma 0)), (1, .int (nI i))] := hl
  have hts := F.ts
  have iX3 : ∀ w ∈ wsX30, w ∈ wsX7_vialAt := by decide +kernel
  have iX6 : ∀ w ∈ wsX60, w ∈ wsX7_vialAt := by decide +kernel
  have iX7 : ∀ w ∈ wsX70, w ∈ wsX7_vialAt := by decide +kernel
  have f10 := hts (.fieldLink RX7 10 "CoreMelter" "now" "LCoreMelter$Plate;") (by decide +kernel)
  have f153 := hts (.fieldLink RX7 153 "CoreMelter$Plate" "vials" "LCoreMelter$Vials;") (by decide +kernel)
  have f157 := hts (.fieldLink RX7 157 "CoreMelter$Vials" "sealed" "I") (by decide +kernel)
  have hD := hI.d
  obtain ⟨b9, b11, b20, b12, b13, b25, b23⟩ := hD.bnd
  have h8 := hD.1.1
  have ht := hD.1.top_le
  have hco := core_ok hD.1 hlk
  have h14 := hI.2.2.2.2.2.1.1
  have hfl := fb_le (fun k => P (126 + 3 * k + 1)) i (P 14)
  refine lv_iload_n F.1 F.2.1 dX7_vialAt_0 rfl (lv_at hl 1 rfl) ?_
  refine r_zge (tgt := 6) F dX7_vialAt_1 (by decide) (by omega) ?_
  refine lv_aload_n F.1 F.2.1 dX7_vialAt_6 rfl (lv_at hl 0 rfl) ?_
  refine r_get F w 0 0 iX7 f10 rfl rfl rfl (by decide) rfl dX7_vialAt_7 ?_
  refine r_get F w 1 2 iX3 f153 rfl rfl rfl (by decide) rfl dX7_vialAt_10 ?_
  refine lv_iload_n F.1 F.2.1 dX7_vialAt_13 rfl (lv_at hl 1 rfl) ?_
  refine r_callVI (rest := []) F w (c_X6_firstBeyond l G (pn 3) (P 14) (P 15) (fun k => P (126 + 3 * k)) (fun k => P (126 + 3 * k + 1)) (fun k => P (126 + 3 * k + 2)) i h14 hi31 hI.2.2.2.2.2.1.2) gX7_vialAt_X6_firstBeyond [16, 17, 18, 19] [0, 1, 2, 3, 4, 5, 6, 7, 8, 9, 10, 11, 12, 13, 14, 15] (nA0 := 1) rfl (by decide +kernel) rfl ⟨Nat.le_of_ble_eq_true rfl, Nat.le_of_ble_eq_true rfl⟩ ⟨Nat.le_of_ble_eq_true rfl, Nat.le_of_ble_eq_true rfl⟩ rfl rfl rfl rfl rfl rfl rfl hl rfl (Nat.le_of_ble_eq_true rfl) dX7_vialAt_14 (fun r_14 w1 H locs hp w => ?_)
  obtain ⟨rfl, rfl⟩ := hp
  have w := w.sub (ws' := mainW G ma ((pn 0) 0) ((pt 0) 0) (hb 0) (xa 0) (ra 0) ++ (plH G (pn 0) (pn 1) (pn 2) (pn 3) (fun k => P k) (fun k => P (19 + k)) (P 9) (P 10) (P 11) (P 12) (P 13) (toldF P) (watF P) (P 16) (P 17) (P 18) ++ (coreW G (pn 1) (P 8) (top P) (kdP P) (lnP P) (dnP P) (moP P) lo ++ (linesW G (pn 2) (fun k => P (26 + 5 * k)) (fun k => P (26 + 5 * k + 1)) (fun k => P (26 + 5 * k + 2)) (fun k => P (26 + 5 * k + 3)) (fun k => P (26 + 5 * k + 4)) ++ (vialsW G (pn 3) (P 14) (P 15) (fun k => P (126 + 3 * k)) (fun k => P (126 + 3 * k + 1)) (fun k => P (126 + 3 * k + 2))))))) [0, 1, 2, 3, 4, 5, 6, 7, 8, 9, 10, 11, 12, 13, 14, 15, 16, 17, 18, 19] (by decide) rfl
  refine lv_istore_n (lv' := [(2, .int (nI (fb (fun k => P (126 + 3 * k + 1)) i (P 14)))), (0, .ref (ma 0)), (1, .int (nI i))]) F.1 F.2.1 dX7_vialAt_17 rfl hl (by decide) rfl (fun ls hl => ?_)
  refine lv_iload_n F.1 F.2.1 dX7_vialAt_18 rfl (lv_at hl 0 rfl) ?_
  refine lv_aload_n F.1 F.2.1 dX7_vialAt_19 rfl (lv_at hl 1 rfl) ?_
  refine r_get F w 0 0 iX7 f10 rfl rfl rfl (by decide) rfl dX7_vialAt_20 ?_
  refine r_get F w 1 2 iX3 f153 rfl rfl rfl (by decide) rfl dX7_vialAt_23 ?_
  refine r_get F w 16 0 iX6 f157 rfl rfl rfl (by decide) rfl dX7_vialAt_26 ?_
  refine r_cge (tgt := 36) F dX7_vialAt_29 (by decide) (by omega) (by omega) (fun c29 => ?_) (fun c29 => ?_)
  · skip
    refine lv_bipush (v := (-4)) F.1 F.2.1 dX7_vialAt_36 (by decide) ?_
    exact r_ireturn F w dX7_vialAt_38 (⟨by first | exact (if_pos (by omega)).symm | exact (if_neg (by omega)).symm, rfl⟩)
  · skip
    refine lv_iload_n F.1 F.2.1 dX7_vialAt_32 rfl (lv_at hl 0 rfl) ?_
    refine lv_goto (tgt := 38) F.1 F.2.1 dX7_vialAt_33 (by decide) ?_
    exact r_ireturn F w dX7_vialAt_38 (⟨by first | exact (if_pos (by omega)).symm | exact (if_neg (by omega)).symm, rfl⟩)
theorem c_X7_vialAt (l : Launch) (G : KG) (ma hb xa ra : Nat → Nat) (pn pt : Nat → Nat → Nat) (P lo : Nat → Nat) (hI : Inv P) (hlk : LoOk P lo) (x : Int32) : MetI l yX7_vialAt wsX7_vialAt 1 G (mainW G ma ((pn 0) 0) ((pt 0) 0) (hb 0) (xa 0) (ra 0) ++ (plH G (pn 0) (pn 1) (pn 2) (pn 3) (fun k => P k) (fun k => P (19 + k)) (P 9) (P 10) (P 11) (P 12) (P 13) (toldF P) (watF P) (P 16) (P 17) (P 18) ++ (coreW G (pn 1) (P 8) (top P) (kdP P) (lnP P) (dnP P) (moP P) lo ++ (linesW G (pn 2) (fun k => P (26 + 5 * k)) (fun k => P (26 + 5 * k + 1)) (fun k => P (26 + 5 * k + 2)) (fun k => P (26 + 5 * k + 3)) (fun k => P (26 + 5 * k + 4)) ++ (vialsW G (pn 3) (P 14) (P 15) (fun k => P (126 + 3 * k)) (fun k => P (126 + 3 * k + 1)) (fun k => P (126 + 3 * k + 2))))))) [.ref (ma 0), .int x] (fun r v => r = on1 (vialAtN P) x ∧ v = mainW G ma ((pn 0) 0) ((pt 0) 0) (hb 0) (xa 0) (ra 0) ++ (plH G (pn 0) (pn 1) (pn 2) (pn 3) (fun k => P k) (fun k => P (19 + k)) (P 9) (P 10) (P 11) (P 12) (P 13) (toldF P) (watF P) (P 16) (P 17) (P 18) ++ (coreW G (pn 1) (P 8) (top P) (kdP P) (lnP P) (dnP P) (moP P) lo ++ (linesW G (pn 2) (fun k => P (26 + 5 * k)) (fun k => P (26 + 5 * k + 1)) (fun k => P (26 + 5 * k + 2)) (fun k => P (26 + 5 * k + 3)) (fun k => P (26 + 5 * k + 4)) ++ (vialsW G (pn 3) (P 14) (P 15) (fun k => P (126 + 3 * k)) (fun k => P (126 + 3 * k + 1)) (fun k => P (126 + 3 * k + 2))))))) := by
  by_cases h : x < 0
  · rw [on1_neg h]; exact c_X7_vialAtM l G ma hb xa ra pn pt P lo hI hlk x h
  · obtain ⟨i, hi, rfl⟩ := nI_of h
    rw [on1_nat hi]
    exact c_X7_vialAtN l G ma hb xa ra pn pt P lo hI hlk i hi
set_option maxRecDepth 100000 in
set_option maxHeartbeats 4000000 in
theorem c_X7_segmentM (l : Launch) (G : KG) (ma hb xa ra : Nat → Nat) (pn pt : Nat → Nat → Nat) (P lo : Nat → Nat) (hI : Inv P) (hlk : LoOk P lo) (x y : Int32) (hx : x < 0) : MetI l yX7_segment wsX7_segment 2 G (mainW G ma ((pn 0) 0) ((pt 0) 0) (hb 0) (xa 0) (ra 0) ++ (plH G (pn 0) (pn 1) (pn 2) (pn 3) (fun k => P k) (fun k => P (19 + k)) (P 9) (P 10) (P 11) (P 12) (P 13) (toldF P) (watF P) (P 16) (P 17) (P 18) ++ (coreW G (pn 1) (P 8) (top P) (kdP P) (lnP P) (dnP P) (moP P) lo ++ (linesW G (pn 2) (fun k => P (26 + 5 * k)) (fun k => P (26 + 5 * k + 1)) (fun k => P (26 + 5 * k + 2)) (fun k => P (26 + 5 * k + 3)) (fun k => P (26 + 5 * k + 4)) ++ (vialsW G (pn 3) (P 14) (P 15) (fun k => P (126 + 3 * k)) (fun k => P (126 + 3 * k + 1)) (fun k => P (126 + 3 * k + 2))))))) [.ref (ma 0), .int x, .int y] (fun r v => r = -1 ∧ v = mainW G ma ((pn 0) 0) ((pt 0) 0) (hb 0) (xa 0) (ra 0) ++ (plH G (pn 0) (pn 1) (pn 2) (pn 3) (fun k => P k) (fun k => P (19 + k)) (P 9) (P 10) (P 11) (P 12) (P 13) (toldF P) (watF P) (P 16) (P 17) (P 18) ++ (coreW G (pn 1) (P 8) (top P) (kdP P) (lnP P) (dnP P) (moP P) lo ++ (linesW G (pn 2) (fun k => P (26 + 5 * k)) (fun k => P (26 + 5 * k + 1)) (fun k => P (26 + 5 * k + 2)) (fun k => P (26 + 5 * k + 3)) (fun k => P (26 + 5 * k + 4)) ++ (vialsW G (pn 3) (P 14) (P 15) (fun k => P (126 + 3 * k)) (fun k => P (126 + 3 * k + 1)) (fun k => P (126 + 3 * k + 2))))))) := by
  refine MetI.by (cc := cX7_segment) (nL := 3) (ret := some .int) (by decide +kernel) rfl (Nat.le_of_ble_eq_true rfl) ?_
  intro p e s m args below meth c F w ls hl
  have hl : lv_has ls 3 [(0, .ref (ma 0)), (1, .int x), (2, .int y)] := hl
  have hts := F.ts
  refine lv_iload_n F.1 F.2.1 dX7_segment_0 rfl (lv_at hl 1 rfl) ?_
  refine lv_if_lt (tgt := 18) F.1 F.2.1 dX7_segment_1 (by decide) (fun c1 => ?_) (fun c1 => ?_)
  · skip
    refine lv_iconst (v := (-1)) F.1 F.2.1 dX7_segment_18 (by decide) ?_
    exact r_ireturn F w dX7_segment_19 (⟨rfl, rfl⟩)
  · exact absurd hx c1
set_option maxRecDepth 100000 in
set_option maxHeartbeats 4000000 in
theorem c_X7_segmentK (l : Launch) (G : KG) (ma hb xa ra : Nat → Nat) (pn pt : Nat → Nat → Nat) (P lo : Nat → Nat) (hI : Inv P) (hlk : LoOk P lo) (i : Nat) (y : Int32) (hi31 : i < 2 ^ 31) (hy : y < 0) : MetI l yX7_segment wsX7_segment 2 G (mainW G ma ((pn 0) 0) ((pt 0) 0) (hb 0) (xa 0) (ra 0) ++ (plH G (pn 0) (pn 1) (pn 2) (pn 3) (fun k => P k) (fun k => P (19 + k)) (P 9) (P 10) (P 11) (P 12) (P 13) (toldF P) (watF P) (P 16) (P 17) (P 18) ++ (coreW G (pn 1) (P 8) (top P) (kdP P) (lnP P) (dnP P) (moP P) lo ++ (linesW G (pn 2) (fun k => P (26 + 5 * k)) (fun k => P (26 + 5 * k + 1)) (fun k => P (26 + 5 * k + 2)) (fun k => P (26 + 5 * k + 3)) (fun k => P (26 + 5 * k + 4)) ++ (vialsW G (pn 3) (P 14) (P 15) (fun k => P (126 + 3 * k)) (fun k => P (126 + 3 * k + 1)) (fun k => P (126 + 3 * k + 2))))))) [.ref (ma 0), .int (nI i), .int y] (fun r v => r = -1 ∧ v = mainW G ma ((pn 0) 0) ((pt 0) 0) (hb 0) (xa 0) (ra 0) ++ (plH G (pn 0) (pn 1) (pn 2) (pn 3) (fun k => P k) (fun k => P (19 + k)) (P 9) (P 10) (P 11) (P 12) (P 13) (toldF P) (watF P) (P 16) (P 17) (P 18) ++ (coreW G (pn 1) (P 8) (top P) (kdP P) (lnP P) (dnP P) (moP P) lo ++ (linesW G (pn 2) (fun k => P (26 + 5 * k)) (fun k => P (26 + 5 * k + 1)) (fun k => P (26 + 5 * k + 2)) (fun k => P (26 + 5 * k + 3)) (fun k => P (26 + 5 * k + 4)) ++ (vialsW G (pn 3) (P 14) (P 15) (fun k => P (126 + 3 * k)) (fun k => P (126 + 3 * k + 1)) (fun k => P (126 + 3 * k + 2))))))) := by
  refine MetI.by (cc := cX7_segment) (nL := 3) (ret := some .int) (by decide +kernel) rfl (Nat.le_of_ble_eq_true rfl) ?_
  intro p e s m args below meth c F w ls hl
  have hl : lv_has ls 3 [(0, .ref (ma 0)), (1, .int (nI i)), (2, .int y)] := hl
  have hts := F.ts
  have iX0 : ∀ w ∈ wsX00, w ∈ wsX7_segment := by decide +kernel
  have iX3 : ∀ w ∈ wsX30, w ∈ wsX7_segment := by decide +kernel
  have iX7 : ∀ w ∈ wsX70, w ∈ wsX7_segment := by decide +kernel
  have f10 := hts (.fieldLink RX7 10 "CoreMelter" "now" "LCoreMelter$Plate;") (by decide +kernel)
  have f46 := hts (.fieldLink RX7 46 "CoreMelter$Plate" "core" "LCoreMelter$Core;") (by decide +kernel)
  have f62 := hts (.fieldLink RX7 62 "CoreMelter$Core" "size" "I") (by decide +kernel)
  have hD := hI.d
  obtain ⟨b9, b11, b20, b12, b13, b25, b23⟩ := hD.bnd
  have h8 := hD.1.1
  have ht := hD.1.top_le
  have hco := core_ok hD.1 hlk
  have h14 := hI.2.2.2.2.2.1.1
  refine lv_iload_n F.1 F.2.1 dX7_segment_0 rfl (lv_at hl 1 rfl) ?_
  refine r_zlt (tgt := 18) F dX7_segment_1 (by decide) (by omega) ?_
  refine lv_iload_n F.1 F.2.1 dX7_segment_4 rfl (lv_at hl 1 rfl) ?_
  refine lv_aload_n F.1 F.2.1 dX7_segment_5 rfl (lv_at hl 0 rfl) ?_
  refine r_get F w 0 0 iX7 f10 rfl rfl rfl (by decide) rfl dX7_segment_6 ?_
  refine r_get F w 1 0 iX3 f46 rfl rfl rfl (by decide) rfl dX7_segment_9 ?_
  refine r_get F w 4 0 iX0 f62 rfl rfl rfl (by decide) rfl dX7_segment_12 ?_
  refine r_clt (tgt := 20) F dX7_segment_15 (by decide) (by omega) (by omega) (fun c15 => ?_) (fun c15 => ?_)
  · skip
    refine lv_iload_n F.1 F.2.1 dX7_segment_20 rfl (lv_at hl 2 rfl) ?_
    by_cases k21_0 : y = nI 0
    · refine r_swIn (k := nI 0) (tgt := 60) F dX7_segment_21 k21_0 (by decide) (by decide) (off := 39) (by decide) (by decide) ?_
      exact absurd hy (by rw [k21_0]; decide)
    by_cases k21_1 : y = nI 1
    · refine r_swIn (k := nI 1) (tgt := 73) F dX7_segment_21 k21_1 (by decide) (by decide) (off := 52) (by decide) (by decide) ?_
      exact absurd hy (by rw [k21_1]; decide)
    by_cases k21_2 : y = nI 2
    · refine r_swIn (k := nI 2) (tgt := 86) F dX7_segment_21 k21_2 (by decide) (by decide) (off := 65) (by decide) (by decide) ?_
      exact absurd hy (by rw [k21_2]; decide)
    by_cases k21_3 : y = nI 3
    · refine r_swIn (k := nI 3) (tgt := 99) F dX7_segment_21 k21_3 (by decide) (by decide) (off := 78) (by decide) (by decide) ?_
      exact absurd hy (by rw [k21_3]; decide)
    by_cases k21_4 : y = nI 4
    · refine r_swIn (k := nI 4) (tgt := 112) F dX7_segment_21 k21_4 (by decide) (by decide) (off := 91) (by decide) (by decide) ?_
      exact absurd hy (by rw [k21_4]; decide)
    by_cases k21_5 : y = nI 5
    · refine r_swIn (k := nI 5) (tgt := 125) F dX7_segment_21 k21_5 (by decide) (by decide) (off := 104) (by decide) (by decide) ?_
      exact absurd hy (by rw [k21_5]; decide)
    refine r_swOut (tgt := 144) F dX7_segment_21 (by have q0 := lv_neT (a := 0) k21_0 (by decide); have q1 := lv_neT (a := 1) k21_1 (by decide); have q2 := lv_neT (a := 2) k21_2 (by decide); have q3 := lv_neT (a := 3) k21_3 (by decide); have q4 := lv_neT (a := 4) k21_4 (by decide); have q5 := lv_neT (a := 5) k21_5 (by decide); omega) (by decide) ?_
    refine lv_iconst (v := (-1)) F.1 F.2.1 dX7_segment_144 (by decide) ?_
    exact r_ireturn F w dX7_segment_145 (⟨rfl, rfl⟩)
  · skip
    refine lv_iconst (v := (-1)) F.1 F.2.1 dX7_segment_18 (by decide) ?_
    exact r_ireturn F w dX7_segment_19 (⟨rfl, rfl⟩)
set_option maxRecDepth 100000 in
set_option maxHeartbeats 4000000 in
theorem c_X7_segmentN (l : Launch) (G : KG) (ma hb xa ra : Nat → Nat) (pn pt : Nat → Nat → Nat) (P lo : Nat → Nat) (hI : Inv P) (hlk : LoOk P lo) (i j : Nat) (hi31 : i < 2 ^ 31) (hj31 : j < 2 ^ 31) : MetI l yX7_segment wsX7_segment 2 G (mainW G ma ((pn 0) 0) ((pt 0) 0) (hb 0) (xa 0) (ra 0) ++ (plH G (pn 0) (pn 1) (pn 2) (pn 3) (fun k => P k) (fun k => P (19 + k)) (P 9) (P 10) (P 11) (P 12) (P 13) (toldF P) (watF P) (P 16) (P 17) (P 18) ++ (coreW G (pn 1) (P 8) (top P) (kdP P) (lnP P) (dnP P) (moP P) lo ++ (linesW G (pn 2) (fun k => P (26 + 5 * k)) (fun k => P (26 + 5 * k + 1)) (fun k => P (26 + 5 * k + 2)) (fun k => P (26 + 5 * k + 3)) (fun k => P (26 + 5 * k + 4)) ++ (vialsW G (pn 3) (P 14) (P 15) (fun k => P (126 + 3 * k)) (fun k => P (126 + 3 * k + 1)) (fun k => P (126 + 3 * k + 2))))))) [.ref (ma 0), .int (nI i), .int (nI j)] (fun r v => r = segN P i j ∧ v = mainW G ma ((pn 0) 0) ((pt 0) 0) (hb 0) (xa 0) (ra 0) ++ (plH G (pn 0) (pn 1) (pn 2) (pn 3) (fun k => P k) (fun k => P (19 + k)) (P 9) (P 10) (P 11) (P 12) (P 13) (toldF P) (watF P) (P 16) (P 17) (P 18) ++ (coreW G (pn 1) (P 8) (top P) (kdP P) (lnP P) (dnP P) (moP P) lo ++ (linesW G (pn 2) (fun k => P (26 + 5 * k)) (fun k => P (26 + 5 * k + 1)) (fun k => P (26 + 5 * k + 2)) (fun k => P (26 + 5 * k + 3)) (fun k => P (26 + 5 * k + 4)) ++ (vialsW G (pn 3) (P 14) (P 15) (fun k => P (126 + 3 * k)) (fun k => P (126 + 3 * k + 1)) (fun k => P (126 + 3 * k + 2))))))) := by
  refine MetI.by (cc := cX7_segment) (nL := 3) (ret := some .int) (by decide +kernel) rfl (Nat.le_of_ble_eq_true rfl) ?_
  intro p e s m args below meth c F w ls hl
  have hl : lv_has ls 3 [(0, .ref (ma 0)), (1, .int (nI i)), (2, .int (nI j))] := hl
  have hts := F.ts
  have iX0 : ∀ w ∈ wsX00, w ∈ wsX7_segment := by decide +kernel
  have iX3 : ∀ w ∈ wsX30, w ∈ wsX7_segment := by decide +kernel
  have iX7 : ∀ w ∈ wsX70, w ∈ wsX7_segment := by decide +kernel
  have f10 := hts (.fieldLink RX7 10 "CoreMelter" "now" "LCoreMelter$Plate;") (by decide +kernel)
  have f46 := hts (.fieldLink RX7 46 "CoreMelter$Plate" "core" "LCoreMelter$Core;") (by decide +kernel)
  have f62 := hts (.fieldLink RX7 62 "CoreMelter$Core" "size" "I") (by decide +kernel)
  have f66 := hts (.fieldLink RX7 66 "CoreMelter$Core" "kinds" "[I") (by decide +kernel)
  have f70 := hts (.fieldLink RX7 70 "CoreMelter$Core" "lengths" "[I") (by decide +kernel)
  have f73 := hts (.fieldLink RX7 73 "CoreMelter$Core" "densities" "[I") (by decide +kernel)
  have f76 := hts (.fieldLink RX7 76 "CoreMelter$Core" "mores" "[I") (by decide +kernel)
  have f79 := hts (.fieldLink RX7 79 "CoreMelter$Core" "lowers" "[I") (by decide +kernel)
  have f82 := hts (.fieldLink RX7 82 "CoreMelter$Plate" "front" "I") (by decide +kernel)
  have hD := hI.d
  obtain ⟨b9, b11, b20, b12, b13, b25, b23⟩ := hD.bnd
  have h8 := hD.1.1
  have ht := hD.1.top_le
  have hco := core_ok hD.1 hlk
  have h14 := hI.2.2.2.2.2.1.1
  refine lv_iload_n F.1 F.2.1 dX7_segment_0 rfl (lv_at hl 1 rfl) ?_
  refine r_zlt (tgt := 18) F dX7_segment_1 (by decide) (by omega) ?_
  refine lv_iload_n F.1 F.2.1 dX7_segment_4 rfl (lv_at hl 1 rfl) ?_
  refine lv_aload_n F.1 F.2.1 dX7_segment_5 rfl (lv_at hl 0 rfl) ?_
  refine r_get F w 0 0 iX7 f10 rfl rfl rfl (by decide) rfl dX7_segment_6 ?_
  refine r_get F w 1 0 iX3 f46 rfl rfl rfl (by decide) rfl dX7_segment_9 ?_
  refine r_get F w 4 0 iX0 f62 rfl rfl rfl (by decide) rfl dX7_segment_12 ?_
  refine r_clt (tgt := 20) F dX7_segment_15 (by decide) (by omega) (by omega) (fun c15 => ?_) (fun c15 => ?_)
  · skip
    refine lv_iload_n F.1 F.2.1 dX7_segment_20 rfl (lv_at hl 2 rfl) ?_
    by_cases k21_0 : j = 0
    · refine r_swIn (k := nI 0) (tgt := 60) F dX7_segment_21 (congrArg nI k21_0) (by decide) (by decide) (off := 39) (by decide) (by decide) ?_
      refine lv_aload_n F.1 F.2.1 dX7_segment_60 rfl (lv_at hl 0 rfl) ?_
      refine r_get F w 0 0 iX7 f10 rfl rfl rfl (by decide) rfl dX7_segment_61 ?_
      refine r_get F w 1 0 iX3 f46 rfl rfl rfl (by decide) rfl dX7_segment_64 ?_
      refine r_get F w 4 2 iX0 f66 rfl rfl rfl (by decide) rfl dX7_segment_67 ?_
      refine lv_iload_n F.1 F.2.1 dX7_segment_70 rfl (lv_at hl 1 rfl) ?_
      refine r_iald F w 5 rfl (by omega) (by decide) dX7_segment_71 ?_
      exact r_ireturn F w dX7_segment_72 (⟨((if_pos ⟨c15, by omega⟩).trans (by subst k21_0; rfl)).symm, rfl⟩)
    by_cases k21_1 : j = 1
    · refine r_swIn (k := nI 1) (tgt := 73) F dX7_segment_21 (congrArg nI k21_1) (by decide) (by decide) (off := 52) (by decide) (by decide) ?_
      refine lv_aload_n F.1 F.2.1 dX7_segment_73 rfl (lv_at hl 0 rfl) ?_
      refine r_get F w 0 0 iX7 f10 rfl rfl rfl (by decide) rfl dX7_segment_74 ?_
      refine r_get F w 1 0 iX3 f46 rfl rfl rfl (by decide) rfl dX7_segment_77 ?_
      refine r_get F w 4 3 iX0 f70 rfl rfl rfl (by decide) rfl dX7_segment_80 ?_
      refine lv_iload_n F.1 F.2.1 dX7_segment_83 rfl (lv_at hl 1 rfl) ?_
      refine r_iald F w 6 rfl (by omega) (by decide) dX7_segment_84 ?_
      exact r_ireturn F w dX7_segment_85 (⟨((if_pos ⟨c15, by omega⟩).trans (by subst k21_1; rfl)).symm, rfl⟩)
    by_cases k21_2 : j = 2
    · refine r_swIn (k := nI 2) (tgt := 86) F dX7_segment_21 (congrArg nI k21_2) (by decide) (by decide) (off := 65) (by decide) (by decide) ?_
      refine lv_aload_n F.1 F.2.1 dX7_segment_86 rfl (lv_at hl 0 rfl) ?_
      refine r_get F w 0 0 iX7 f10 rfl rfl rfl (by decide) rfl dX7_segment_87 ?_
      refine r_get F w 1 0 iX3 f46 rfl rfl rfl (by decide) rfl dX7_segment_90 ?_
      refine r_get F w 4 4 iX0 f73 rfl rfl rfl (by decide) rfl dX7_segment_93 ?_
      refine lv_iload_n F.1 F.2.1 dX7_segment_96 rfl (lv_at hl 1 rfl) ?_
      refine r_iald F w 7 rfl (by omega) (by decide) dX7_segment_97 ?_
      exact r_ireturn F w dX7_segment_98 (⟨((if_pos ⟨c15, by omega⟩).trans (by subst k21_2; rfl)).symm, rfl⟩)
    by_cases k21_3 : j = 3
    · refine r_swIn (k := nI 3) (tgt := 99) F dX7_segment_21 (congrArg nI k21_3) (by decide) (by decide) (off := 78) (by decide) (by decide) ?_
      refine lv_aload_n F.1 F.2.1 dX7_segment_99 rfl (lv_at hl 0 rfl) ?_
      refine r_get F w 0 0 iX7 f10 rfl rfl rfl (by decide) rfl dX7_segment_100 ?_
      refine r_get F w 1 0 iX3 f46 rfl rfl rfl (by decide) rfl dX7_segment_103 ?_
      refine r_get F w 4 5 iX0 f76 rfl rfl rfl (by decide) rfl dX7_segment_106 ?_
      refine lv_iload_n F.1 F.2.1 dX7_segment_109 rfl (lv_at hl 1 rfl) ?_
      refine r_iald F w 8 rfl (by omega) (by decide) dX7_segment_110 ?_
      exact r_ireturn F w dX7_segment_111 (⟨((if_pos ⟨c15, by omega⟩).trans (by subst k21_3; rfl)).symm, rfl⟩)
    by_cases k21_4 : j = 4
    · refine r_swIn (k := nI 4) (tgt := 112) F dX7_segment_21 (congrArg nI k21_4) (by decide) (by decide) (off := 91) (by decide) (by decide) ?_
      refine lv_aload_n F.1 F.2.1 dX7_segment_112 rfl (lv_at hl 0 rfl) ?_
      refine r_get F w 0 0 iX7 f10 rfl rfl rfl (by decide) rfl dX7_segment_113 ?_
      refine r_get F w 1 0 iX3 f46 rfl rfl rfl (by decide) rfl dX7_segment_116 ?_
      refine r_get F w 4 6 iX0 f79 rfl rfl rfl (by decide) rfl dX7_segment_119 ?_
      refine lv_iload_n F.1 F.2.1 dX7_segment_122 rfl (lv_at hl 1 rfl) ?_
      refine r_iald F w 9 rfl (by omega) (by decide) dX7_segment_123 ?_
      exact r_ireturn F w dX7_segment_124 (⟨((if_pos ⟨c15, by omega⟩).trans (by subst k21_4; exact congrArg nI (hlk i c15).symm)).symm, rfl⟩)
    by_cases k21_5 : j = 5
    · refine r_swIn (k := nI 5) (tgt := 125) F dX7_segment_21 (congrArg nI k21_5) (by decide) (by decide) (off := 104) (by decide) (by decide) ?_
      refine lv_aload_n F.1 F.2.1 dX7_segment_125 rfl (lv_at hl 0 rfl) ?_
      refine r_get F w 0 0 iX7 f10 rfl rfl rfl (by decide) rfl dX7_segment_126 ?_
      refine r_get F w 1 0 iX3 f46 rfl rfl rfl (by decide) rfl dX7_segment_129 ?_
      refine lv_aload_n F.1 F.2.1 dX7_segment_132 rfl (lv_at hl 0 rfl) ?_
      refine r_get F w 0 0 iX7 f10 rfl rfl rfl (by decide) rfl dX7_segment_133 ?_
      refine r_get F w 1 5 iX3 f82 rfl rfl rfl (by decide) rfl dX7_segment_136 ?_
      refine lv_iload_n F.1 F.2.1 dX7_segment_139 rfl (lv_at hl 1 rfl) ?_
      refine r_callVI (rest := []) F w (c_X0_partBelow l G (pn 1) (P 8) (top P) (kdP P) (lnP P) (dnP P) (moP P) lo (P 9) i c15 (by omega) hco) gX7_segment_X0_partBelow [4, 5, 6, 7, 8, 9] [0, 1, 2, 3, 10, 11, 12, 13, 14, 15, 16, 17, 18, 19] (nA0 := 2) rfl (by decide +kernel) rfl ⟨Nat.le_of_ble_eq_true rfl, Nat.le_of_ble_eq_true rfl⟩ ⟨Nat.le_of_ble_eq_true rfl, Nat.le_of_ble_eq_true rfl⟩ rfl rfl rfl rfl rfl rfl rfl hl rfl (Nat.le_of_ble_eq_true rfl) dX7_segment_140 (fun r_140 w1 H locs hp w => ?_)
      obtain ⟨rfl, rfl⟩ := hp
      have w := w.sub (ws' := mainW G ma ((pn 0) 0) ((pt 0) 0) (hb 0) (xa 0) (ra 0) ++ (plH G (pn 0) (pn 1) (pn 2) (pn 3) (fun k => P k) (fun k => P (19 + k)) (P 9) (P 10) (P 11) (P 12) (P 13) (toldF P) (watF P) (P 16) (P 17) (P 18) ++ (coreW G (pn 1) (P 8) (top P) (kdP P) (lnP P) (dnP P) (moP P) lo ++ (linesW G (pn 2) (fun k => P (26 + 5 * k)) (fun k => P (26 + 5 * k + 1)) (fun k => P (26 + 5 * k + 2)) (fun k => P (26 + 5 * k + 3)) (fun k => P (26 + 5 * k + 4)) ++ (vialsW G (pn 3) (P 14) (P 15) (fun k => P (126 + 3 * k)) (fun k => P (126 + 3 * k + 1)) (fun k => P (126 + 3 * k + 2))))))) [0, 1, 2, 3, 14, 15, 16, 17, 18, 19, 4, 5, 6, 7, 8, 9, 10, 11, 12, 13] (by decide) rfl
      exact r_ireturn F w dX7_segment_143 (⟨((if_pos ⟨c15, by omega⟩).trans (by subst k21_5; rfl)).symm, rfl⟩)
    refine r_swOutN (tgt := 144) F dX7_segment_21 hj31 (by omega) (by decide) ?_
    refine lv_iconst (v := (-1)) F.1 F.2.1 dX7_segment_144 (by decide) ?_
    exact r_ireturn F w dX7_segment_145 (⟨(if_neg (fun q => by omega)).symm, rfl⟩)
  · skip
    refine lv_iconst (v := (-1)) F.1 F.2.1 dX7_segment_18 (by decide) ?_
    exact r_ireturn F w dX7_segment_19 (⟨(if_neg (fun q => c15 q.1)).symm, rfl⟩)
theorem c_X7_segment (l : Launch) (G : KG) (ma hb xa ra : Nat → Nat) (pn pt : Nat → Nat → Nat) (P lo : Nat → Nat) (hI : Inv P) (hlk : LoOk P lo) (x y : Int32) : MetI l yX7_segment wsX7_segment 2 G (mainW G ma ((pn 0) 0) ((pt 0) 0) (hb 0) (xa 0) (ra 0) ++ (plH G (pn 0) (pn 1) (pn 2) (pn 3) (fun k => P k) (fun k => P (19 + k)) (P 9) (P 10) (P 11) (P 12) (P 13) (toldF P) (watF P) (P 16) (P 17) (P 18) ++ (coreW G (pn 1) (P 8) (top P) (kdP P) (lnP P) (dnP P) (moP P) lo ++ (linesW G (pn 2) (fun k => P (26 + 5 * k)) (fun k => P (26 + 5 * k + 1)) (fun k => P (26 + 5 * k + 2)) (fun k => P (26 + 5 * k + 3)) (fun k => P (26 + 5 * k + 4)) ++ (vialsW G (pn 3) (P 14) (P 15) (fun k => P (126 + 3 * k)) (fun k => P (126 + 3 * k + 1)) (fun k => P (126 + 3 * k + 2))))))) [.ref (ma 0), .int x, .int y] (fun r v => r = on2 (segN P) x y ∧ v = mainW G ma ((pn 0) 0) ((pt 0) 0) (hb 0) (xa 0) (ra 0) ++ (plH G (pn 0) (pn 1) (pn 2) (pn 3) (fun k => P k) (fun k => P (19 + k)) (P 9) (P 10) (P 11) (P 12) (P 13) (toldF P) (watF P) (P 16) (P 17) (P 18) ++ (coreW G (pn 1) (P 8) (top P) (kdP P) (lnP P) (dnP P) (moP P) lo ++ (linesW G (pn 2) (fun k => P (26 + 5 * k)) (fun k => P (26 + 5 * k + 1)) (fun k => P (26 + 5 * k + 2)) (fun k => P (26 + 5 * k + 3)) (fun k => P (26 + 5 * k + 4)) ++ (vialsW G (pn 3) (P 14) (P 15) (fun k => P (126 + 3 * k)) (fun k => P (126 + 3 * k + 1)) (fun k => P (126 + 3 * k + 2))))))) := by
  by_cases h : x < 0
  · rw [on2_neg1 h]; exact c_X7_segmentM l G ma hb xa ra pn pt P lo hI hlk x y h
  · obtain ⟨i, hi, rfl⟩ := nI_of h
    by_cases h2 : y < 0
    · rw [on2_neg2 h2]; exact c_X7_segmentK l G ma hb xa ra pn pt P lo hI hlk i y hi h2
    · obtain ⟨j, hj, rfl⟩ := nI_of h2
      rw [on2_nat hi hj]
      exact c_X7_segmentN l G ma hb xa ra pn pt P lo hI hlk i j hi hj
set_option maxRecDepth 100000 in
set_option maxHeartbeats 4000000 in
theorem c_X7_lineM (l : Launch) (G : KG) (ma hb xa ra : Nat → Nat) (pn pt : Nat → Nat → Nat) (P lo : Nat → Nat) (hI : Inv P) (hlk : LoOk P lo) (x y : Int32) (hx : x < 0) : MetI l yX7_line wsX7_line 0 G (mainW G ma ((pn 0) 0) ((pt 0) 0) (hb 0) (xa 0) (ra 0) ++ (plH G (pn 0) (pn 1) (pn 2) (pn 3) (fun k => P k) (fun k => P (19 + k)) (P 9) (P 10) (P 11) (P 12) (P 13) (toldF P) (watF P) (P 16) (P 17) (P 18) ++ (coreW G (pn 1) (P 8) (top P) (kdP P) (lnP P) (dnP P) (moP P) lo ++ (linesW G (pn 2) (fun k => P (26 + 5 * k)) (fun k => P (26 + 5 * k + 1)) (fun k => P (26 + 5 * k + 2)) (fun k => P (26 + 5 * k + 3)) (fun k => P (26 + 5 * k + 4)) ++ (vialsW G (pn 3) (P 14) (P 15) (fun k => P (126 + 3 * k)) (fun k => P (126 + 3 * k + 1)) (fun k => P (126 + 3 * k + 2))))))) [.ref (ma 0), .int x, .int y] (fun r v => r = -1 ∧ v = mainW G ma ((pn 0) 0) ((pt 0) 0) (hb 0) (xa 0) (ra 0) ++ (plH G (pn 0) (pn 1) (pn 2) (pn 3) (fun k => P k) (fun k => P (19 + k)) (P 9) (P 10) (P 11) (P 12) (P 13) (toldF P) (watF P) (P 16) (P 17) (P 18) ++ (coreW G (pn 1) (P 8) (top P) (kdP P) (lnP P) (dnP P) (moP P) lo ++ (linesW G (pn 2) (fun k => P (26 + 5 * k)) (fun k => P (26 + 5 * k + 1)) (fun k => P (26 + 5 * k + 2)) (fun k => P (26 + 5 * k + 3)) (fun k => P (26 + 5 * k + 4)) ++ (vialsW G (pn 3) (P 14) (P 15) (fun k => P (126 + 3 * k)) (fun k => P (126 + 3 * k + 1)) (fun k => P (126 + 3 * k + 2))))))) := by
  refine MetI.by (cc := cX7_line) (nL := 3) (ret := some .int) (by decide +kernel) rfl (Nat.le_of_ble_eq_true rfl) ?_
  intro p e s m args below meth c F w ls hl
  have hl : lv_has ls 3 [(0, .ref (ma 0)), (1, .int x), (2, .int y)] := hl
  have hts := F.ts
  refine lv_iload_n F.1 F.2.1 dX7_line_0 rfl (lv_at hl 1 rfl) ?_
  refine lv_if_lt (tgt := 9) F.1 F.2.1 dX7_line_1 (by decide) (fun c1 => ?_) (fun c1 => ?_)
  · skip
    refine lv_iconst (v := (-1)) F.1 F.2.1 dX7_line_9 (by decide) ?_
    exact r_ireturn F w dX7_line_10 (⟨rfl, rfl⟩)
  · exact absurd hx c1
set_option maxRecDepth 100000 in
set_option maxHeartbeats 4000000 in
theorem c_X7_lineK (l : Launch) (G : KG) (ma hb xa ra : Nat → Nat) (pn pt : Nat → Nat → Nat) (P lo : Nat → Nat) (hI : Inv P) (hlk : LoOk P lo) (i : Nat) (y : Int32) (hi31 : i < 2 ^ 31) (hy : y < 0) : MetI l yX7_line wsX7_line 0 G (mainW G ma ((pn 0) 0) ((pt 0) 0) (hb 0) (xa 0) (ra 0) ++ (plH G (pn 0) (pn 1) (pn 2) (pn 3) (fun k => P k) (fun k => P (19 + k)) (P 9) (P 10) (P 11) (P 12) (P 13) (toldF P) (watF P) (P 16) (P 17) (P 18) ++ (coreW G (pn 1) (P 8) (top P) (kdP P) (lnP P) (dnP P) (moP P) lo ++ (linesW G (pn 2) (fun k => P (26 + 5 * k)) (fun k => P (26 + 5 * k + 1)) (fun k => P (26 + 5 * k + 2)) (fun k => P (26 + 5 * k + 3)) (fun k => P (26 + 5 * k + 4)) ++ (vialsW G (pn 3) (P 14) (P 15) (fun k => P (126 + 3 * k)) (fun k => P (126 + 3 * k + 1)) (fun k => P (126 + 3 * k + 2))))))) [.ref (ma 0), .int (nI i), .int y] (fun r v => r = -1 ∧ v = mainW G ma ((pn 0) 0) ((pt 0) 0) (hb 0) (xa 0) (ra 0) ++ (plH G (pn 0) (pn 1) (pn 2) (pn 3) (fun k => P k) (fun k => P (19 + k)) (P 9) (P 10) (P 11) (P 12) (P 13) (toldF P) (watF P) (P 16) (P 17) (P 18) ++ (coreW G (pn 1) (P 8) (top P) (kdP P) (lnP P) (dnP P) (moP P) lo ++ (linesW G (pn 2) (fun k => P (26 + 5 * k)) (fun k => P (26 + 5 * k + 1)) (fun k => P (26 + 5 * k + 2)) (fun k => P (26 + 5 * k + 3)) (fun k => P (26 + 5 * k + 4)) ++ (vialsW G (pn 3) (P 14) (P 15) (fun k => P (126 + 3 * k)) (fun k => P (126 + 3 * k + 1)) (fun k => P (126 + 3 * k + 2))))))) := by
  refine MetI.by (cc := cX7_line) (nL := 3) (ret := some .int) (by decide +kernel) rfl (Nat.le_of_ble_eq_true rfl) ?_
  intro p e s m args below meth c F w ls hl
  have hl : lv_has ls 3 [(0, .ref (ma 0)), (1, .int (nI i)), (2, .int y)] := hl
  have hts := F.ts
  have hD := hI.d
  obtain ⟨b9, b11, b20, b12, b13, b25, b23⟩ := hD.bnd
  have h8 := hD.1.1
  have ht := hD.1.top_le
  have hco := core_ok hD.1 hlk
  have h14 := hI.2.2.2.2.2.1.1
  refine lv_iload_n F.1 F.2.1 dX7_line_0 rfl (lv_at hl 1 rfl) ?_
  refine r_zlt (tgt := 9) F dX7_line_1 (by decide) (by omega) ?_
  refine lv_iload_n F.1 F.2.1 dX7_line_4 rfl (lv_at hl 1 rfl) ?_
  refine lv_iconst (v := nI 4) F.1 F.2.1 dX7_line_5 (by decide) ?_
  refine r_clt (tgt := 11) F dX7_line_6 (by decide) (by omega) (by omega) (fun c6 => ?_) (fun c6 => ?_)
  · skip
    refine lv_iload_n F.1 F.2.1 dX7_line_11 rfl (lv_at hl 2 rfl) ?_
    by_cases k12_0 : y = nI 0
    · refine r_swIn (k := nI 0) (tgt := 48) F dX7_line_12 k12_0 (by decide) (by decide) (off := 36) (by decide) (by decide) ?_
      exact absurd hy (by rw [k12_0]; decide)
    by_cases k12_1 : y = nI 1
    · refine r_swIn (k := nI 1) (tgt := 61) F dX7_line_12 k12_1 (by decide) (by decide) (off := 49) (by decide) (by decide) ?_
      exact absurd hy (by rw [k12_1]; decide)
    by_cases k12_2 : y = nI 2
    · refine r_swIn (k := nI 2) (tgt := 74) F dX7_line_12 k12_2 (by decide) (by decide) (off := 62) (by decide) (by decide) ?_
      exact absurd hy (by rw [k12_2]; decide)
    by_cases k12_3 : y = nI 3
    · refine r_swIn (k := nI 3) (tgt := 87) F dX7_line_12 k12_3 (by decide) (by decide) (off := 75) (by decide) (by decide) ?_
      exact absurd hy (by rw [k12_3]; decide)
    by_cases k12_4 : y = nI 4
    · refine r_swIn (k := nI 4) (tgt := 100) F dX7_line_12 k12_4 (by decide) (by decide) (off := 88) (by decide) (by decide) ?_
      exact absurd hy (by rw [k12_4]; decide)
    refine r_swOut (tgt := 113) F dX7_line_12 (by have q0 := lv_neT (a := 0) k12_0 (by decide); have q1 := lv_neT (a := 1) k12_1 (by decide); have q2 := lv_neT (a := 2) k12_2 (by decide); have q3 := lv_neT (a := 3) k12_3 (by decide); have q4 := lv_neT (a := 4) k12_4 (by decide); omega) (by decide) ?_
    refine lv_iconst (v := (-1)) F.1 F.2.1 dX7_line_113 (by decide) ?_
    exact r_ireturn F w dX7_line_114 (⟨rfl, rfl⟩)
  · skip
    refine lv_iconst (v := (-1)) F.1 F.2.1 dX7_line_9 (by decide) ?_
    exact r_ireturn F w dX7_line_10 (⟨rfl, rfl⟩)
set_option maxRecDepth 100000 in
set_option maxHeartbeats 4000000 in
theorem c_X7_lineN (l : Launch) (G : KG) (ma hb xa ra : Nat → Nat) (pn pt : Nat → Nat → Nat) (P lo : Nat → Nat) (hI : Inv P) (hlk : LoOk P lo) (i j : Nat) (hi31 : i < 2 ^ 31) (hj31 : j < 2 ^ 31) : MetI l yX7_line wsX7_line 0 G (mainW G ma ((pn 0) 0) ((pt 0) 0) (hb 0) (xa 0) (ra 0) ++ (plH G (pn 0) (pn 1) (pn 2) (pn 3) (fun k => P k) (fun k => P (19 + k)) (P 9) (P 10) (P 11) (P 12) (P 13) (toldF P) (watF P) (P 16) (P 17) (P 18) ++ (coreW G (pn 1) (P 8) (top P) (kdP P) (lnP P) (dnP P) (moP P) lo ++ (linesW G (pn 2) (fun k => P (26 + 5 * k)) (fun k => P (26 + 5 * k + 1)) (fun k => P (26 + 5 * k + 2)) (fun k => P (26 + 5 * k + 3)) (fun k => P (26 + 5 * k + 4)) ++ (vialsW G (pn 3) (P 14) (P 15) (fun k => P (126 + 3 * k)) (fun k => P (126 + 3 * k + 1)) (fun k => P (126 + 3 * k + 2))))))) [.ref (ma 0), .int (nI i), .int (nI j)] (fun r v => r = lineN P i j ∧ v = mainW G ma ((pn 0) 0) ((pt 0) 0) (hb 0) (xa 0) (ra 0) ++ (plH G (pn 0) (pn 1) (pn 2) (pn 3) (fun k => P k) (fun k => P (19 + k)) (P 9) (P 10) (P 11) (P 12) (P 13) (toldF P) (watF P) (P 16) (P 17) (P 18) ++ (coreW G (pn 1) (P 8) (top P) (kdP P) (lnP P) (dnP P) (moP P) lo ++ (linesW G (pn 2) (fun k => P (26 + 5 * k)) (fun k => P (26 + 5 * k + 1)) (fun k => P (26 + 5 * k + 2)) (fun k => P (26 + 5 * k + 3)) (fun k => P (26 + 5 * k + 4)) ++ (vialsW G (pn 3) (P 14) (P 15) (fun k => P (126 + 3 * k)) (fun k => P (126 + 3 * k + 1)) (fun k => P (126 + 3 * k + 2))))))) := by
  refine MetI.by (cc := cX7_line) (nL := 3) (ret := some .int) (by decide +kernel) rfl (Nat.le_of_ble_eq_true rfl) ?_
  intro p e s m args below meth c F w ls hl
  have hl : lv_has ls 3 [(0, .ref (ma 0)), (1, .int (nI i)), (2, .int (nI j))] := hl
  have hts := F.ts
  have iX2 : ∀ w ∈ wsX20, w ∈ wsX7_line := by decide +kernel
  have iX3 : ∀ w ∈ wsX30, w ∈ wsX7_line := by decide +kernel
  have iX7 : ∀ w ∈ wsX70, w ∈ wsX7_line := by decide +kernel
  have f10 := hts (.fieldLink RX7 10 "CoreMelter" "now" "LCoreMelter$Plate;") (by decide +kernel)
  have f117 := hts (.fieldLink RX7 117 "CoreMelter$Plate" "lines" "LCoreMelter$Lines;") (by decide +kernel)
  have f121 := hts (.fieldLink RX7 121 "CoreMelter$Lines" "stuck" "[I") (by decide +kernel)
  have f124 := hts (.fieldLink RX7 124 "CoreMelter$Lines" "dirt" "[I") (by decide +kernel)
  have f183 := hts (.fieldLink RX7 183 "CoreMelter$Lines" "gap" "[I") (by decide +kernel)
  have f186 := hts (.fieldLink RX7 186 "CoreMelter$Lines" "drawn" "[I") (by decide +kernel)
  have f189 := hts (.fieldLink RX7 189 "CoreMelter$Lines" "wasted" "[I") (by decide +kernel)
  have hD := hI.d
  obtain ⟨b9, b11, b20, b12, b13, b25, b23⟩ := hD.bnd
  have h8 := hD.1.1
  have ht := hD.1.top_le
  have hco := core_ok hD.1 hlk
  have h14 := hI.2.2.2.2.2.1.1
  refine lv_iload_n F.1 F.2.1 dX7_line_0 rfl (lv_at hl 1 rfl) ?_
  refine r_zlt (tgt := 9) F dX7_line_1 (by decide) (by omega) ?_
  refine lv_iload_n F.1 F.2.1 dX7_line_4 rfl (lv_at hl 1 rfl) ?_
  refine lv_iconst (v := nI 4) F.1 F.2.1 dX7_line_5 (by decide) ?_
  refine r_clt (tgt := 11) F dX7_line_6 (by decide) (by omega) (by omega) (fun c6 => ?_) (fun c6 => ?_)
  · skip
    refine lv_iload_n F.1 F.2.1 dX7_line_11 rfl (lv_at hl 2 rfl) ?_
    by_cases k12_0 : j = 0
    · refine r_swIn (k := nI 0) (tgt := 48) F dX7_line_12 (congrArg nI k12_0) (by decide) (by decide) (off := 36) (by decide) (by decide) ?_
      refine lv_aload_n F.1 F.2.1 dX7_line_48 rfl (lv_at hl 0 rfl) ?_
      refine r_get F w 0 0 iX7 f10 rfl rfl rfl (by decide) rfl dX7_line_49 ?_
      refine r_get F w 1 1 iX3 f117 rfl rfl rfl (by decide) rfl dX7_line_52 ?_
      refine r_get F w 10 0 iX2 f121 rfl rfl rfl (by decide) rfl dX7_line_55 ?_
      refine lv_iload_n F.1 F.2.1 dX7_line_58 rfl (lv_at hl 1 rfl) ?_
      refine r_iald F w 11 rfl (by omega) (by decide) dX7_line_59 ?_
      exact r_ireturn F w dX7_line_60 (⟨((if_pos ⟨c6, by omega⟩).trans (by subst k12_0; rfl)).symm, rfl⟩)
    by_cases k12_1 : j = 1
    · refine r_swIn (k := nI 1) (tgt := 61) F dX7_line_12 (congrArg nI k12_1) (by decide) (by decide) (off := 49) (by decide) (by decide) ?_
      refine lv_aload_n F.1 F.2.1 dX7_line_61 rfl (lv_at hl 0 rfl) ?_
      refine r_get F w 0 0 iX7 f10 rfl rfl rfl (by decide) rfl dX7_line_62 ?_
      refine r_get F w 1 1 iX3 f117 rfl rfl rfl (by decide) rfl dX7_line_65 ?_
      refine r_get F w 10 1 iX2 f124 rfl rfl rfl (by decide) rfl dX7_line_68 ?_
      refine lv_iload_n F.1 F.2.1 dX7_line_71 rfl (lv_at hl 1 rfl) ?_
      refine r_iald F w 12 rfl (by omega) (by decide) dX7_line_72 ?_
      exact r_ireturn F w dX7_line_73 (⟨((if_pos ⟨c6, by omega⟩).trans (by subst k12_1; rfl)).symm, rfl⟩)
    by_cases k12_2 : j = 2
    · refine r_swIn (k := nI 2) (tgt := 74) F dX7_line_12 (congrArg nI k12_2) (by decide) (by decide) (off := 62) (by decide) (by decide) ?_
      refine lv_aload_n F.1 F.2.1 dX7_line_74 rfl (lv_at hl 0 rfl) ?_
      refine r_get F w 0 0 iX7 f10 rfl rfl rfl (by decide) rfl dX7_line_75 ?_
      refine r_get F w 1 1 iX3 f117 rfl rfl rfl (by decide) rfl dX7_line_78 ?_
      refine r_get F w 10 2 iX2 f183 rfl rfl rfl (by decide) rfl dX7_line_81 ?_
      refine lv_iload_n F.1 F.2.1 dX7_line_84 rfl (lv_at hl 1 rfl) ?_
      refine r_iald F w 13 rfl (by omega) (by decide) dX7_line_85 ?_
      exact r_ireturn F w dX7_line_86 (⟨((if_pos ⟨c6, by omega⟩).trans (by subst k12_2; rfl)).symm, rfl⟩)
    by_cases k12_3 : j = 3
    · refine r_swIn (k := nI 3) (tgt := 87) F dX7_line_12 (congrArg nI k12_3) (by decide) (by decide) (off := 75) (by decide) (by decide) ?_
      refine lv_aload_n F.1 F.2.1 dX7_line_87 rfl (lv_at hl 0 rfl) ?_
      refine r_get F w 0 0 iX7 f10 rfl rfl rfl (by decide) rfl dX7_line_88 ?_
      refine r_get F w 1 1 iX3 f117 rfl rfl rfl (by decide) rfl dX7_line_91 ?_
      refine r_get F w 10 3 iX2 f186 rfl rfl rfl (by decide) rfl dX7_line_94 ?_
      refine lv_iload_n F.1 F.2.1 dX7_line_97 rfl (lv_at hl 1 rfl) ?_
      refine r_iald F w 14 rfl (by omega) (by decide) dX7_line_98 ?_
      exact r_ireturn F w dX7_line_99 (⟨((if_pos ⟨c6, by omega⟩).trans (by subst k12_3; rfl)).symm, rfl⟩)
    by_cases k12_4 : j = 4
    · refine r_swIn (k := nI 4) (tgt := 100) F dX7_line_12 (congrArg nI k12_4) (by decide) (by decide) (off := 88) (by decide) (by decide) ?_
      refine lv_aload_n F.1 F.2.1 dX7_line_100 rfl (lv_at hl 0 rfl) ?_
      refine r_get F w 0 0 iX7 f10 rfl rfl rfl (by decide) rfl dX7_line_101 ?_
      refine r_get F w 1 1 iX3 f117 rfl rfl rfl (by decide) rfl dX7_line_104 ?_
      refine r_get F w 10 4 iX2 f189 rfl rfl rfl (by decide) rfl dX7_line_107 ?_
      refine lv_iload_n F.1 F.2.1 dX7_line_110 rfl (lv_at hl 1 rfl) ?_
      refine r_iald F w 15 rfl (by omega) (by decide) dX7_line_111 ?_
      exact r_ireturn F w dX7_line_112 (⟨((if_pos ⟨c6, by omega⟩).trans (by subst k12_4; rfl)).symm, rfl⟩)
    refine r_swOutN (tgt := 113) F dX7_line_12 hj31 (by omega) (by decide) ?_
    refine lv_iconst (v := (-1)) F.1 F.2.1 dX7_line_113 (by decide) ?_
    exact r_ireturn F w dX7_line_114 (⟨(if_neg (fun q => by omega)).symm, rfl⟩)
  · skip
    refine lv_iconst (v := (-1)) F.1 F.2.1 dX7_line_9 (by decide) ?_
    exact r_ireturn F w dX7_line_10 (⟨(if_neg (fun q => c6 q.1)).symm, rfl⟩)
theorem c_X7_line (l : Launch) (G : KG) (ma hb xa ra : Nat → Nat) (pn pt : Nat → Nat → Nat) (P lo : Nat → Nat) (hI : Inv P) (hlk : LoOk P lo) (x y : Int32) : MetI l yX7_line wsX7_line 0 G (mainW G ma ((pn 0) 0) ((pt 0) 0) (hb 0) (xa 0) (ra 0) ++ (plH G (pn 0) (pn 1) (pn 2) (pn 3) (fun k => P k) (fun k => P (19 + k)) (P 9) (P 10) (P 11) (P 12) (P 13) (toldF P) (watF P) (P 16) (P 17) (P 18) ++ (coreW G (pn 1) (P 8) (top P) (kdP P) (lnP P) (dnP P) (moP P) lo ++ (linesW G (pn 2) (fun k => P (26 + 5 * k)) (fun k => P (26 + 5 * k + 1)) (fun k => P (26 + 5 * k + 2)) (fun k => P (26 + 5 * k + 3)) (fun k => P (26 + 5 * k + 4)) ++ (vialsW G (pn 3) (P 14) (P 15) (fun k => P (126 + 3 * k)) (fun k => P (126 + 3 * k + 1)) (fun k => P (126 + 3 * k + 2))))))) [.ref (ma 0), .int x, .int y] (fun r v => r = on2 (lineN P) x y ∧ v = mainW G ma ((pn 0) 0) ((pt 0) 0) (hb 0) (xa 0) (ra 0) ++ (plH G (pn 0) (pn 1) (pn 2) (pn 3) (fun k => P k) (fun k => P (19 + k)) (P 9) (P 10) (P 11) (P 12) (P 13) (toldF P) (watF P) (P 16) (P 17) (P 18) ++ (coreW G (pn 1) (P 8) (top P) (kdP P) (lnP P) (dnP P) (moP P) lo ++ (linesW G (pn 2) (fun k => P (26 + 5 * k)) (fun k => P (26 + 5 * k + 1)) (fun k => P (26 + 5 * k + 2)) (fun k => P (26 + 5 * k + 3)) (fun k => P (26 + 5 * k + 4)) ++ (vialsW G (pn 3) (P 14) (P 15) (fun k => P (126 + 3 * k)) (fun k => P (126 + 3 * k + 1)) (fun k => P (126 + 3 * k + 2))))))) := by
  by_cases h : x < 0
  · rw [on2_neg1 h]; exact c_X7_lineM l G ma hb xa ra pn pt P lo hI hlk x y h
  · obtain ⟨i, hi, rfl⟩ := nI_of h
    by_cases h2 : y < 0
    · rw [on2_neg2 h2]; exact c_X7_lineK l G ma hb xa ra pn pt P lo hI hlk i y hi h2
    · obtain ⟨j, hj, rfl⟩ := nI_of h2
      rw [on2_nat hi hj]
      exact c_X7_lineN l G ma hb xa ra pn pt P lo hI hlk i j hi hj
set_option maxRecDepth 100000 in
set_option maxHeartbeats 4000000 in
theorem c_X7_vialM (l : Launch) (G : KG) (ma hb xa ra : Nat → Nat) (pn pt : Nat → Nat → Nat) (P lo : Nat → Nat) (hI : Inv P) (hlk : LoOk P lo) (x y : Int32) (hx : x < 0) : MetI l yX7_vial wsX7_vial 0 G (mainW G ma ((pn 0) 0) ((pt 0) 0) (hb 0) (xa 0) (ra 0) ++ (plH G (pn 0) (pn 1) (pn 2) (pn 3) (fun k => P k) (fun k => P (19 + k)) (P 9) (P 10) (P 11) (P 12) (P 13) (toldF P) (watF P) (P 16) (P 17) (P 18) ++ (coreW G (pn 1) (P 8) (top P) (kdP P) (lnP P) (dnP P) (moP P) lo ++ (linesW G (pn 2) (fun k => P (26 + 5 * k)) (fun k => P (26 + 5 * k + 1)) (fun k => P (26 + 5 * k + 2)) (fun k => P (26 + 5 * k + 3)) (fun k => P (26 + 5 * k + 4)) ++ (vialsW G (pn 3) (P 14) (P 15) (fun k => P (126 + 3 * k)) (fun k => P (126 + 3 * k + 1)) (fun k => P (126 + 3 * k + 2))))))) [.ref (ma 0), .int x, .int y] (fun r v => r = -1 ∧ v = mainW G ma ((pn 0) 0) ((pt 0) 0) (hb 0) (xa 0) (ra 0) ++ (plH G (pn 0) (pn 1) (pn 2) (pn 3) (fun k => P k) (fun k => P (19 + k)) (P 9) (P 10) (P 11) (P 12) (P 13) (toldF P) (watF P) (P 16) (P 17) (P 18) ++ (coreW G (pn 1) (P 8) (top P) (kdP P) (lnP P) (dnP P) (moP P) lo ++ (linesW G (pn 2) (fun k => P (26 + 5 * k)) (fun k => P (26 + 5 * k + 1)) (fun k => P (26 + 5 * k + 2)) (fun k => P (26 + 5 * k + 3)) (fun k => P (26 + 5 * k + 4)) ++ (vialsW G (pn 3) (P 14) (P 15) (fun k => P (126 + 3 * k)) (fun k => P (126 + 3 * k + 1)) (fun k => P (126 + 3 * k + 2))))))) := by
  refine MetI.by (cc := cX7_vial) (nL := 3) (ret := some .int) (by decide +kernel) rfl (Nat.le_of_ble_eq_true rfl) ?_
  intro p e s m args below meth c F w ls hl
  have hl : lv_has ls 3 [(0, .ref (ma 0)), (1, .int x), (2, .int y)] := hl
  have hts := F.ts
  refine lv_iload_n F.1 F.2.1 dX7_vial_0 rfl (lv_at hl 1 rfl) ?_
  refine lv_if_lt (tgt := 18) F.1 F.2.1 dX7_vial_1 (by decide) (fun c1 => ?_) (fun c1 => ?_)
  · skip
    refine lv_iconst (v := (-1)) F.1 F.2.1 dX7_vial_18 (by decide) ?_
    exact r_ireturn F w dX7_vial_19 (⟨rfl, rfl⟩)
  · exact absurd hx c1
set_option maxRecDepth 100000 in
set_option maxHeartbeats 4000000 in
theorem c_X7_vialK (l : Launch) (G : KG) (ma hb xa ra : Nat → Nat) (pn pt : Nat → Nat → Nat) (P lo : Nat → Nat) (hI : Inv P) (hlk : LoOk P lo) (i : Nat) (y : Int32) (hi31 : i < 2 ^ 31) (hy : y < 0) : MetI l yX7_vial wsX7_vial 0 G (mainW G ma ((pn 0) 0) ((pt 0) 0) (hb 0) (xa 0) (ra 0) ++ (plH G (pn 0) (pn 1) (pn 2) (pn 3) (fun k => P k) (fun k => P (19 + k)) (P 9) (P 10) (P 11) (P 12) (P 13) (toldF P) (watF P) (P 16) (P 17) (P 18) ++ (coreW G (pn 1) (P 8) (top P) (kdP P) (lnP P) (dnP P) (moP P) lo ++ (linesW G (pn 2) (fun k => P (26 + 5 * k)) (fun k => P (26 + 5 * k + 1)) (fun k => P (26 + 5 * k + 2)) (fun k => P (26 + 5 * k + 3)) (fun k => P (26 + 5 * k + 4)) ++ (vialsW G (pn 3) (P 14) (P 15) (fun k => P (126 + 3 * k)) (fun k => P (126 + 3 * k + 1)) (fun k => P (126 + 3 * k + 2))))))) [.ref (ma 0), .int (nI i), .int y] (fun r v => r = -1 ∧ v = mainW G ma ((pn 0) 0) ((pt 0) 0) (hb 0) (xa 0) (ra 0) ++ (plH G (pn 0) (pn 1) (pn 2) (pn 3) (fun k => P k) (fun k => P (19 + k)) (P 9) (P 10) (P 11) (P 12) (P 13) (toldF P) (watF P) (P 16) (P 17) (P 18) ++ (coreW G (pn 1) (P 8) (top P) (kdP P) (lnP P) (dnP P) (moP P) lo ++ (linesW G (pn 2) (fun k => P (26 + 5 * k)) (fun k => P (26 + 5 * k + 1)) (fun k => P (26 + 5 * k + 2)) (fun k => P (26 + 5 * k + 3)) (fun k => P (26 + 5 * k + 4)) ++ (vialsW G (pn 3) (P 14) (P 15) (fun k => P (126 + 3 * k)) (fun k => P (126 + 3 * k + 1)) (fun k => P (126 + 3 * k + 2))))))) := by
  refine MetI.by (cc := cX7_vial) (nL := 3) (ret := some .int) (by decide +kernel) rfl (Nat.le_of_ble_eq_true rfl) ?_
  intro p e s m args below meth c F w ls hl
  have hl : lv_has ls 3 [(0, .ref (ma 0)), (1, .int (nI i)), (2, .int y)] := hl
  have hts := F.ts
  have iX3 : ∀ w ∈ wsX30, w ∈ wsX7_vial := by decide +kernel
  have iX6 : ∀ w ∈ wsX60, w ∈ wsX7_vial := by decide +kernel
  have iX7 : ∀ w ∈ wsX70, w ∈ wsX7_vial := by decide +kernel
  have f10 := hts (.fieldLink RX7 10 "CoreMelter" "now" "LCoreMelter$Plate;") (by decide +kernel)
  have f153 := hts (.fieldLink RX7 153 "CoreMelter$Plate" "vials" "LCoreMelter$Vials;") (by decide +kernel)
  have f157 := hts (.fieldLink RX7 157 "CoreMelter$Vials" "sealed" "I") (by decide +kernel)
  have hD := hI.d
  obtain ⟨b9, b11, b20, b12, b13, b25, b23⟩ := hD.bnd
  have h8 := hD.1.1
  have ht := hD.1.top_le
  have hco := core_ok hD.1 hlk
  have h14 := hI.2.2.2.2.2.1.1
  refine lv_iload_n F.1 F.2.1 dX7_vial_0 rfl (lv_at hl 1 rfl) ?_
  refine r_zlt (tgt := 18) F dX7_vial_1 (by decide) (by omega) ?_
  refine lv_iload_n F.1 F.2.1 dX7_vial_4 rfl (lv_at hl 1 rfl) ?_
  refine lv_aload_n F.1 F.2.1 dX7_vial_5 rfl (lv_at hl 0 rfl) ?_
  refine r_get F w 0 0 iX7 f10 rfl rfl rfl (by decide) rfl dX7_vial_6 ?_
  refine r_get F w 1 2 iX3 f153 rfl rfl rfl (by decide) rfl dX7_vial_9 ?_
  refine r_get F w 16 0 iX6 f157 rfl rfl rfl (by decide) rfl dX7_vial_12 ?_
  refine r_clt (tgt := 20) F dX7_vial_15 (by decide) (by omega) (by omega) (fun c15 => ?_) (fun c15 => ?_)
  · skip
    refine lv_iload_n F.1 F.2.1 dX7_vial_20 rfl (lv_at hl 2 rfl) ?_
    by_cases k21_0 : y = nI 0
    · refine r_swIn (k := nI 0) (tgt := 52) F dX7_vial_21 k21_0 (by decide) (by decide) (off := 31) (by decide) (by decide) ?_
      exact absurd hy (by rw [k21_0]; decide)
    by_cases k21_1 : y = nI 1
    · refine r_swIn (k := nI 1) (tgt := 65) F dX7_vial_21 k21_1 (by decide) (by decide) (off := 44) (by decide) (by decide) ?_
      exact absurd hy (by rw [k21_1]; decide)
    by_cases k21_2 : y = nI 2
    · refine r_swIn (k := nI 2) (tgt := 78) F dX7_vial_21 k21_2 (by decide) (by decide) (off := 57) (by decide) (by decide) ?_
      exact absurd hy (by rw [k21_2]; decide)
    by_cases k21_3 : y = nI 3
    · refine r_swIn (k := nI 3) (tgt := 101) F dX7_vial_21 k21_3 (by decide) (by decide) (off := 80) (by decide) (by decide) ?_
      exact absurd hy (by rw [k21_3]; decide)
    refine r_swOut (tgt := 114) F dX7_vial_21 (by have q0 := lv_neT (a := 0) k21_0 (by decide); have q1 := lv_neT (a := 1) k21_1 (by decide); have q2 := lv_neT (a := 2) k21_2 (by decide); have q3 := lv_neT (a := 3) k21_3 (by decide); omega) (by decide) ?_
    refine lv_iconst (v := (-1)) F.1 F.2.1 dX7_vial_114 (by decide) ?_
    exact r_ireturn F w dX7_vial_115 (⟨rfl, rfl⟩)
  · skip
    refine lv_iconst (v := (-1)) F.1 F.2.1 dX7_vial_18 (by decide) ?_
    exact r_ireturn F w dX7_vial_19 (⟨rfl, rfl⟩)
set_option maxRecDepth 100000 in
set_option maxHeartbeats 4000000 in
theorem c_X7_vialN (l : Launch) (G : KG) (ma hb xa ra : Nat → Nat) (pn pt : Nat → Nat → Nat) (P lo : Nat → Nat) (hI : Inv P) (hlk : LoOk P lo) (i j : Nat) (hi31 : i < 2 ^ 31) (hj31 : j < 2 ^ 31) : MetI l yX7_vial wsX7_vial 0 G (mainW G ma ((pn 0) 0) ((pt 0) 0) (hb 0) (xa 0) (ra 0) ++ (plH G (pn 0) (pn 1) (pn 2) (pn 3) (fun k => P k) (fun k => P (19 + k)) (P 9) (P 10) (P 11) (P 12) (P 13) (toldF P) (watF P) (P 16) (P 17) (P 18) ++ (coreW G (pn 1) (P 8) (top P) (kdP P) (lnP P) (dnP P) (moP P) lo ++ (linesW G (pn 2) (fun k => P (26 + 5 * k)) (fun k => P (26 + 5 * k + 1)) (fun k => P (26 + 5 * k + 2)) (fun k => P (26 + 5 * k + 3)) (fun k => P (26 + 5 * k + 4)) ++ (vialsW G (pn 3) (P 14) (P 15) (fun k => P (126 + 3 * k)) (fun k => P (126 + 3 * k + 1)) (fun k => P (126 + 3 * k + 2))))))) [.ref (ma 0), .int (nI i), .int (nI j)] (fun r v => r = vialN P i j ∧ v = mainW G ma ((pn 0) 0) ((pt 0) 0) (hb 0) (xa 0) (ra 0) ++ (plH G (pn 0) (pn 1) (pn 2) (pn 3) (fun k => P k) (fun k => P (19 + k)) (P 9) (P 10) (P 11) (P 12) (P 13) (toldF P) (watF P) (P 16) (P 17) (P 18) ++ (coreW G (pn 1) (P 8) (top P) (kdP P) (lnP P) (dnP P) (moP P) lo ++ (linesW G (pn 2) (fun k => P (26 + 5 * k)) (fun k => P (26 + 5 * k + 1)) (fun k => P (26 + 5 * k + 2)) (fun k => P (26 + 5 * k + 3)) (fun k => P (26 + 5 * k + 4)) ++ (vialsW G (pn 3) (P 14) (P 15) (fun k => P (126 + 3 * k)) (fun k => P (126 + 3 * k + 1)) (fun k => P (126 + 3 * k + 2))))))) := by
  refine MetI.by (cc := cX7_vial) (nL := 3) (ret := some .int) (by decide +kernel) rfl (Nat.le_of_ble_eq_true rfl) ?_
  intro p e s m args below meth c F w ls hl
  have hl : lv_has ls 3 [(0, .ref (ma 0)), (1, .int (nI i)), (2, .int (nI j))] := hl
  have hts := F.ts
  have iX3 : ∀ w ∈ wsX30, w ∈ wsX7_vial := by decide +kernel
  have iX6 : ∀ w ∈ wsX60, w ∈ wsX7_vial := by decide +kernel
  have iX7 : ∀ w ∈ wsX70, w ∈ wsX7_vial := by decide +kernel
  have f10 := hts (.fieldLink RX7 10 "CoreMelter" "now" "LCoreMelter$Plate;") (by decide +kernel)
  have f153 := hts (.fieldLink RX7 153 "CoreMelter$Plate" "vials" "LCoreMelter$Vials;") (by decide +kernel)
  have f157 := hts (.fieldLink RX7 157 "CoreMelter$Vials" "sealed" "I") (by decide +kernel)
  have f202 := hts (.fieldLink RX7 202 "CoreMelter$Vials" "water" "[I") (by decide +kernel)
  have f205 := hts (.fieldLink RX7 205 "CoreMelter$Vials" "depth" "[I") (by decide +kernel)
  have f208 := hts (.fieldLink RX7 208 "CoreMelter$Vials" "ticks" "[I") (by decide +kernel)
  have hD := hI.d
  obtain ⟨b9, b11, b20, b12, b13, b25, b23⟩ := hD.bnd
  have h8 := hD.1.1
  have ht := hD.1.top_le
  have hco := core_ok hD.1 hlk
  have h14 := hI.2.2.2.2.2.1.1
  refine lv_iload_n F.1 F.2.1 dX7_vial_0 rfl (lv_at hl 1 rfl) ?_
  refine r_zlt (tgt := 18) F dX7_vial_1 (by decide) (by omega) ?_
  refine lv_iload_n F.1 F.2.1 dX7_vial_4 rfl (lv_at hl 1 rfl) ?_
  refine lv_aload_n F.1 F.2.1 dX7_vial_5 rfl (lv_at hl 0 rfl) ?_
  refine r_get F w 0 0 iX7 f10 rfl rfl rfl (by decide) rfl dX7_vial_6 ?_
  refine r_get F w 1 2 iX3 f153 rfl rfl rfl (by decide) rfl dX7_vial_9 ?_
  refine r_get F w 16 0 iX6 f157 rfl rfl rfl (by decide) rfl dX7_vial_12 ?_
  refine r_clt (tgt := 20) F dX7_vial_15 (by decide) (by omega) (by omega) (fun c15 => ?_) (fun c15 => ?_)
  · skip
    refine lv_iload_n F.1 F.2.1 dX7_vial_20 rfl (lv_at hl 2 rfl) ?_
    by_cases k21_0 : j = 0
    · refine r_swIn (k := nI 0) (tgt := 52) F dX7_vial_21 (congrArg nI k21_0) (by decide) (by decide) (off := 31) (by decide) (by decide) ?_
      refine lv_aload_n F.1 F.2.1 dX7_vial_52 rfl (lv_at hl 0 rfl) ?_
      refine r_get F w 0 0 iX7 f10 rfl rfl rfl (by decide) rfl dX7_vial_53 ?_
      refine r_get F w 1 2 iX3 f153 rfl rfl rfl (by decide) rfl dX7_vial_56 ?_
      refine r_get F w 16 2 iX6 f202 rfl rfl rfl (by decide) rfl dX7_vial_59 ?_
      refine lv_iload_n F.1 F.2.1 dX7_vial_62 rfl (lv_at hl 1 rfl) ?_
      refine r_iald F w 17 rfl (by omega) (by decide) dX7_vial_63 ?_
      exact r_ireturn F w dX7_vial_64 (⟨((if_pos ⟨c15, by omega⟩).trans (by subst k21_0; rfl)).symm, rfl⟩)
    by_cases k21_1 : j = 1
    · refine r_swIn (k := nI 1) (tgt := 65) F dX7_vial_21 (congrArg nI k21_1) (by decide) (by decide) (off := 44) (by decide) (by decide) ?_
      refine lv_aload_n F.1 F.2.1 dX7_vial_65 rfl (lv_at hl 0 rfl) ?_
      refine r_get F w 0 0 iX7 f10 rfl rfl rfl (by decide) rfl dX7_vial_66 ?_
      refine r_get F w 1 2 iX3 f153 rfl rfl rfl (by decide) rfl dX7_vial_69 ?_
      refine r_get F w 16 3 iX6 f205 rfl rfl rfl (by decide) rfl dX7_vial_72 ?_
      refine lv_iload_n F.1 F.2.1 dX7_vial_75 rfl (lv_at hl 1 rfl) ?_
      refine r_iald F w 18 rfl (by omega) (by decide) dX7_vial_76 ?_
      exact r_ireturn F w dX7_vial_77 (⟨((if_pos ⟨c15, by omega⟩).trans (by subst k21_1; rfl)).symm, rfl⟩)
    by_cases k21_2 : j = 2
    · refine r_swIn (k := nI 2) (tgt := 78) F dX7_vial_21 (congrArg nI k21_2) (by decide) (by decide) (off := 57) (by decide) (by decide) ?_
      refine lv_iload_n F.1 F.2.1 dX7_vial_78 rfl (lv_at hl 1 rfl) ?_
      refine r_zne (tgt := 86) F dX7_vial_79 (by decide) (by omega) (fun c79 => ?_) (fun c79 => ?_)
      · skip
        refine lv_aload_n F.1 F.2.1 dX7_vial_86 rfl (lv_at hl 0 rfl) ?_
        refine r_get F w 0 0 iX7 f10 rfl rfl rfl (by decide) rfl dX7_vial_87 ?_
        refine r_get F w 1 2 iX3 f153 rfl rfl rfl (by decide) rfl dX7_vial_90 ?_
        refine r_get F w 16 3 iX6 f205 rfl rfl rfl (by decide) rfl dX7_vial_93 ?_
        refine lv_iload_n F.1 F.2.1 dX7_vial_96 rfl (lv_at hl 1 rfl) ?_
        refine lv_iconst (v := nI 1) F.1 F.2.1 dX7_vial_97 (by decide) ?_
        refine r_isub F dX7_vial_98 (by omega) ?_
        refine r_iald F w 18 rfl (by omega) (by decide) dX7_vial_99 ?_
        exact r_ireturn F w dX7_vial_100 (⟨((if_pos ⟨c15, by omega⟩).trans (by subst k21_2; first | exact if_pos c79 | exact if_neg c79)).symm, rfl⟩)
      · skip
        refine lv_iconst (v := nI 0) F.1 F.2.1 dX7_vial_82 (by decide) ?_
        refine lv_goto (tgt := 100) F.1 F.2.1 dX7_vial_83 (by decide) ?_
        exact r_ireturn F w dX7_vial_100 (⟨((if_pos ⟨c15, by omega⟩).trans (by subst k21_2; first | exact if_pos c79 | exact if_neg c79)).symm, rfl⟩)
    by_cases k21_3 : j = 3
    · refine r_swIn (k := nI 3) (tgt := 101) F dX7_vial_21 (congrArg nI k21_3) (by decide) (by decide) (off := 80) (by decide) (by decide) ?_
      refine lv_aload_n F.1 F.2.1 dX7_vial_101 rfl (lv_at hl 0 rfl) ?_
      refine r_get F w 0 0 iX7 f10 rfl rfl rfl (by decide) rfl dX7_vial_102 ?_
      refine r_get F w 1 2 iX3 f153 rfl rfl rfl (by decide) rfl dX7_vial_105 ?_
      refine r_get F w 16 4 iX6 f208 rfl rfl rfl (by decide) rfl dX7_vial_108 ?_
      refine lv_iload_n F.1 F.2.1 dX7_vial_111 rfl (lv_at hl 1 rfl) ?_
      refine r_iald F w 19 rfl (by omega) (by decide) dX7_vial_112 ?_
      exact r_ireturn F w dX7_vial_113 (⟨((if_pos ⟨c15, by omega⟩).trans (by subst k21_3; rfl)).symm, rfl⟩)
    refine r_swOutN (tgt := 114) F dX7_vial_21 hj31 (by omega) (by decide) ?_
    refine lv_iconst (v := (-1)) F.1 F.2.1 dX7_vial_114 (by decide) ?_
    exact r_ireturn F w dX7_vial_115 (⟨(if_neg (fun q => by omega)).symm, rfl⟩)
  · skip
    refine lv_iconst (v := (-1)) F.1 F.2.1 dX7_vial_18 (by decide) ?_
    exact r_ireturn F w dX7_vial_19 (⟨(if_neg (fun q => c15 q.1)).symm, rfl⟩)
theorem c_X7_vial (l : Launch) (G : KG) (ma hb xa ra : Nat → Nat) (pn pt : Nat → Nat → Nat) (P lo : Nat → Nat) (hI : Inv P) (hlk : LoOk P lo) (x y : Int32) : MetI l yX7_vial wsX7_vial 0 G (mainW G ma ((pn 0) 0) ((pt 0) 0) (hb 0) (xa 0) (ra 0) ++ (plH G (pn 0) (pn 1) (pn 2) (pn 3) (fun k => P k) (fun k => P (19 + k)) (P 9) (P 10) (P 11) (P 12) (P 13) (toldF P) (watF P) (P 16) (P 17) (P 18) ++ (coreW G (pn 1) (P 8) (top P) (kdP P) (lnP P) (dnP P) (moP P) lo ++ (linesW G (pn 2) (fun k => P (26 + 5 * k)) (fun k => P (26 + 5 * k + 1)) (fun k => P (26 + 5 * k + 2)) (fun k => P (26 + 5 * k + 3)) (fun k => P (26 + 5 * k + 4)) ++ (vialsW G (pn 3) (P 14) (P 15) (fun k => P (126 + 3 * k)) (fun k => P (126 + 3 * k + 1)) (fun k => P (126 + 3 * k + 2))))))) [.ref (ma 0), .int x, .int y] (fun r v => r = on2 (vialN P) x y ∧ v = mainW G ma ((pn 0) 0) ((pt 0) 0) (hb 0) (xa 0) (ra 0) ++ (plH G (pn 0) (pn 1) (pn 2) (pn 3) (fun k => P k) (fun k => P (19 + k)) (P 9) (P 10) (P 11) (P 12) (P 13) (toldF P) (watF P) (P 16) (P 17) (P 18) ++ (coreW G (pn 1) (P 8) (top P) (kdP P) (lnP P) (dnP P) (moP P) lo ++ (linesW G (pn 2) (fun k => P (26 + 5 * k)) (fun k => P (26 + 5 * k + 1)) (fun k => P (26 + 5 * k + 2)) (fun k => P (26 + 5 * k + 3)) (fun k => P (26 + 5 * k + 4)) ++ (vialsW G (pn 3) (P 14) (P 15) (fun k => P (126 + 3 * k)) (fun k => P (126 + 3 * k + 1)) (fun k => P (126 + 3 * k + 2))))))) := by
  by_cases h : x < 0
  · rw [on2_neg1 h]; exact c_X7_vialM l G ma hb xa ra pn pt P lo hI hlk x y h
  · obtain ⟨i, hi, rfl⟩ := nI_of h
    by_cases h2 : y < 0
    · rw [on2_neg2 h2]; exact c_X7_vialK l G ma hb xa ra pn pt P lo hI hlk i y hi h2
    · obtain ⟨j, hj, rfl⟩ := nI_of h2
      rw [on2_nat hi hj]
      exact c_X7_vialN l G ma hb xa ra pn pt P lo hI hlk i j hi hj
set_option maxRecDepth 100000 in
set_option maxHeartbeats 4000000 in
theorem c_X7_again (l : Launch) (G : KG) (ma hb xa ra : Nat → Nat) (pn pt : Nat → Nat → Nat) (P lo : Nat → Nat) (hI : Inv P) (hlk : LoOk P lo) : MetI l yX7_again wsX7_again 2 G (mainW G ma ((pn 0) 0) ((pt 0) 0) (hb 0) (xa 0) (ra 0) ++ (plH G (pn 0) (pn 1) (pn 2) (pn 3) (fun k => P k) (fun k => P (19 + k)) (P 9) (P 10) (P 11) (P 12) (P 13) (toldF P) (watF P) (P 16) (P 17) (P 18) ++ (coreW G (pn 1) (P 8) (top P) (kdP P) (lnP P) (dnP P) (moP P) lo ++ (linesW G (pn 2) (fun k => P (26 + 5 * k)) (fun k => P (26 + 5 * k + 1)) (fun k => P (26 + 5 * k + 2)) (fun k => P (26 + 5 * k + 3)) (fun k => P (26 + 5 * k + 4)) ++ (vialsW G (pn 3) (P 14) (P 15) (fun k => P (126 + 3 * k)) (fun k => P (126 + 3 * k + 1)) (fun k => P (126 + 3 * k + 2))))))) [.ref (ma 0)] (fun r v => r = nI (toldF P) ∧ v = mainW G ma ((pn 0) 0) ((pt 0) 0) (hb 0) (xa 0) (ra 0) ++ (plH G (pn 0) (pn 1) (pn 2) (pn 3) (fun k => P k) (fun k => P (19 + k)) (P 9) (P 10) (P 11) (P 12) (P 13) (toldF P) (watF P) (P 16) (P 17) (P 18) ++ (coreW G (pn 1) (P 8) (top P) (kdP P) (lnP P) (dnP P) (moP P) lo ++ (linesW G (pn 2) (fun k => P (26 + 5 * k)) (fun k => P (26 + 5 * k + 1)) (fun k => P (26 + 5 * k + 2)) (fun k => P (26 + 5 * k + 3)) (fun k => P (26 + 5 * k + 4)) ++ (vialsW G (pn 3) (P 14) (P 15) (fun k => P (126 + 3 * k)) (fun k => P (126 + 3 * k + 1)) (fun k => P (126 + 3 * k + 2))))))) := by
  refine MetI.by (cc := cX7_again) (nL := 1) (ret := some .int) (by decide +kernel) rfl (Nat.le_of_ble_eq_true rfl) ?_
  intro p e s m args below meth c F w ls hl
  have hl : lv_has ls 1 [(0, .ref (ma 0))] := hl
  have hts := F.ts
  have iX3 : ∀ w ∈ wsX30, w ∈ wsX7_again := by decide +kernel
  have iX7 : ∀ w ∈ wsX70, w ∈ wsX7_again := by decide +kernel
  have f10 := hts (.fieldLink RX7 10 "CoreMelter" "now" "LCoreMelter$Plate;") (by decide +kernel)
  have f46 := hts (.fieldLink RX7 46 "CoreMelter$Plate" "core" "LCoreMelter$Core;") (by decide +kernel)
  have f82 := hts (.fieldLink RX7 82 "CoreMelter$Plate" "front" "I") (by decide +kernel)
  have hm1 := hts (.methodLink RX7 197 Lib.Math.min.name) (by decide +kernel)
  have hm2 := hts (.static Lib.Math.min.name) (by decide +kernel)
  have hm3 := hts (.initialized "java/lang/Math") (by decide +kernel)
  have hm4 := hts (.code Lib.Math.min.name Lib.Math.min.code 2 (some .int)) (by decide +kernel)
  have hD := hI.d
  obtain ⟨b9, b11, b20, b12, b13, b25, b23⟩ := hD.bnd
  have h8 := hD.1.1
  have ht := hD.1.top_le
  have hco := core_ok hD.1 hlk
  have h14 := hI.2.2.2.2.2.1.1
  refine lv_aload_n F.1 F.2.1 dX7_again_0 rfl (lv_at hl 0 rfl) ?_
  refine r_get F w 0 0 iX7 f10 rfl rfl rfl (by decide) rfl dX7_again_1 ?_
  refine r_get F w 1 0 iX3 f46 rfl rfl rfl (by decide) rfl dX7_again_4 ?_
  refine lv_aload_n F.1 F.2.1 dX7_again_7 rfl (lv_at hl 0 rfl) ?_
  refine r_get F w 0 0 iX7 f10 rfl rfl rfl (by decide) rfl dX7_again_8 ?_
  refine r_callVI (rest := [.ref ((pn 1) 0)]) F w (c_X3_drawn l G (pn 0) (pn 1) (pn 2) (pn 3) (fun k => P k) (fun k => P (19 + k)) (P 9) (P 10) (P 11) (P 12) (P 13) (toldF P) (watF P) (P 16) (P 17) (P 18)  ) gX7_again_X3_drawn [1, 2, 3] [0, 4, 5, 6, 7, 8, 9, 10, 11, 12, 13, 14, 15, 16, 17, 18, 19] (nA0 := 0) rfl (by decide +kernel) rfl ⟨Nat.le_of_ble_eq_true rfl, Nat.le_of_ble_eq_true rfl⟩ ⟨Nat.le_of_ble_eq_true rfl, Nat.le_of_ble_eq_true rfl⟩ rfl rfl rfl rfl rfl rfl rfl hl rfl (Nat.le_of_ble_eq_true rfl) dX7_again_11 (fun r_11 w1 H locs hp w => ?_)
  obtain ⟨rfl, rfl⟩ := hp
  have w := w.sub (ws' := mainW G ma ((pn 0) 0) ((pt 0) 0) (hb 0) (xa 0) (ra 0) ++ (plH G (pn 0) (pn 1) (pn 2) (pn 3) (fun k => P k) (fun k => P (19 + k)) (P 9) (P 10) (P 11) (P 12) (P 13) (toldF P) (watF P) (P 16) (P 17) (P 18) ++ (coreW G (pn 1) (P 8) (top P) (kdP P) (lnP P) (dnP P) (moP P) lo ++ (linesW G (pn 2) (fun k => P (26 + 5 * k)) (fun k => P (26 + 5 * k + 1)) (fun k => P (26 + 5 * k + 2)) (fun k => P (26 + 5 * k + 3)) (fun k => P (26 + 5 * k + 4)) ++ (vialsW G (pn 3) (P 14) (P 15) (fun k => P (126 + 3 * k)) (fun k => P (126 + 3 * k + 1)) (fun k => P (126 + 3 * k + 2))))))) [0, 17, 18, 19, 1, 2, 3, 4, 5, 6, 7, 8, 9, 10, 11, 12, 13, 14, 15, 16] (by decide) rfl
  refine r_callVI (rest := []) F w (c_X0_depthOf l G (pn 1) (P 8) (top P) (kdP P) (lnP P) (dnP P) (moP P) lo ((P (19 + 1)) + (P (19 + 2))) (by show P 20 + P 21 ≤ 1000000; omega) hco) gX7_again_X0_depthOf [4, 5, 6, 7, 8, 9] [0, 1, 2, 3, 10, 11, 12, 13, 14, 15, 16, 17, 18, 19] (nA0 := 1) rfl (by decide +kernel) rfl ⟨Nat.le_of_ble_eq_true rfl, Nat.le_of_ble_eq_true rfl⟩ ⟨Nat.le_of_ble_eq_true rfl, Nat.le_of_ble_eq_true rfl⟩ rfl rfl rfl rfl rfl rfl rfl hl rfl (Nat.le_of_ble_eq_true rfl) dX7_again_14 (fun r_14 w1 H locs hp w => ?_)
  obtain ⟨rfl, rfl⟩ := hp
  have w := w.sub (ws' := mainW G ma ((pn 0) 0) ((pt 0) 0) (hb 0) (xa 0) (ra 0) ++ (plH G (pn 0) (pn 1) (pn 2) (pn 3) (fun k => P k) (fun k => P (19 + k)) (P 9) (P 10) (P 11) (P 12) (P 13) (toldF P) (watF P) (P 16) (P 17) (P 18) ++ (coreW G (pn 1) (P 8) (top P) (kdP P) (lnP P) (dnP P) (moP P) lo ++ (linesW G (pn 2) (fun k => P (26 + 5 * k)) (fun k => P (26 + 5 * k + 1)) (fun k => P (26 + 5 * k + 2)) (fun k => P (26 + 5 * k + 3)) (fun k => P (26 + 5 * k + 4)) ++ (vialsW G (pn 3) (P 14) (P 15) (fun k => P (126 + 3 * k)) (fun k => P (126 + 3 * k + 1)) (fun k => P (126 + 3 * k + 2))))))) [0, 1, 2, 3, 14, 15, 16, 17, 18, 19, 4, 5, 6, 7, 8, 9, 10, 11, 12, 13] (by decide) rfl
  refine lv_aload_n F.1 F.2.1 dX7_again_17 rfl (lv_at hl 0 rfl) ?_
  refine r_get F w 0 0 iX7 f10 rfl rfl rfl (by decide) rfl dX7_again_18 ?_
  refine r_get F w 1 5 iX3 f82 rfl rfl rfl (by decide) rfl dX7_again_21 ?_
  refine r_min F hm1 hm2 hm3 hm4 (by decide) (Nat.le_of_ble_eq_true rfl) ⟨Nat.le_of_ble_eq_true rfl, Nat.le_of_ble_eq_true rfl⟩ (by have := dep_le (lnP P) (dnP P) (P (19 + 1) + P (19 + 2)) (P 8); have : low (lnP P) (P 8) ≤ 6000 := ht; omega) (by omega) hl dX7_again_24 ?_
  exact r_ireturn F w dX7_again_27 (⟨rfl, rfl⟩)
set_option maxRecDepth 100000 in
set_option maxHeartbeats 4000000 in
theorem c_X7_countM (l : Launch) (G : KG) (ma hb xa ra : Nat → Nat) (pn pt : Nat → Nat → Nat) (P lo : Nat → Nat) (ha : Nat → Nat → Nat → Nat) (hs old tl : Nat) (T : Nat → Nat) (hI : Inv P) (hlk : LoOk P lo) (x : Int32) (hx : x < 0) : MetI l yX7_count wsX7_count 1 G (mainW G ma ((pn 0) 0) ((pt 0) 0) (hb 0) (xa 0) (ra 0) ++ (plH G (pn 0) (pn 1) (pn 2) (pn 3) (fun k => P k) (fun k => P (19 + k)) (P 9) (P 10) (P 11) (P 12) (P 13) (toldF P) (watF P) (P 16) (P 17) (P 18) ++ (coreW G (pn 1) (P 8) (top P) (kdP P) (lnP P) (dnP P) (moP P) lo ++ (linesW G (pn 2) (fun k => P (26 + 5 * k)) (fun k => P (26 + 5 * k + 1)) (fun k => P (26 + 5 * k + 2)) (fun k => P (26 + 5 * k + 3)) (fun k => P (26 + 5 * k + 4)) ++ (vialsW G (pn 3) (P 14) (P 15) (fun k => P (126 + 3 * k)) (fun k => P (126 + 3 * k + 1)) (fun k => P (126 + 3 * k + 2)) ++ (histH G hb hs old (fun k => some (((ha k) 0) 0)) ++ (textW G xa tl T))))))) [.ref (ma 0), .int x] (fun r v => r = -1 ∧ v = mainW G ma ((pn 0) 0) ((pt 0) 0) (hb 0) (xa 0) (ra 0) ++ (plH G (pn 0) (pn 1) (pn 2) (pn 3) (fun k => P k) (fun k => P (19 + k)) (P 9) (P 10) (P 11) (P 12) (P 13) (toldF P) (watF P) (P 16) (P 17) (P 18) ++ (coreW G (pn 1) (P 8) (top P) (kdP P) (lnP P) (dnP P) (moP P) lo ++ (linesW G (pn 2) (fun k => P (26 + 5 * k)) (fun k => P (26 + 5 * k + 1)) (fun k => P (26 + 5 * k + 2)) (fun k => P (26 + 5 * k + 3)) (fun k => P (26 + 5 * k + 4)) ++ (vialsW G (pn 3) (P 14) (P 15) (fun k => P (126 + 3 * k)) (fun k => P (126 + 3 * k + 1)) (fun k => P (126 + 3 * k + 2)) ++ (histH G hb hs old (fun k => some (((ha k) 0) 0)) ++ (textW G xa tl T))))))) := by
  refine MetI.by (cc := cX7_count) (nL := 2) (ret := some .int) (by decide +kernel) rfl (Nat.le_of_ble_eq_true rfl) ?_
  intro p e s m args below meth c F w ls hl
  have hl : lv_has ls 2 [(0, .ref (ma 0)), (1, .int x)] := hl
  have hts := F.ts
  refine lv_iload_n F.1 F.2.1 dX7_count_0 rfl (lv_at hl 1 rfl) ?_
  refine lv_if_lt (tgt := 20) F.1 F.2.1 dX7_count_1 (by decide) (fun c1 => ?_) (fun c1 => ?_)
  · skip
    refine lv_iload_n F.1 F.2.1 dX7_count_20 rfl (lv_at hl 1 rfl) ?_
    by_cases k21_8 : x = nI 8
    · refine r_swIn (k := nI 8) (tgt := 100) F dX7_count_21 k21_8 (by decide) (by decide) (off := 79) (by decide) (by decide) ?_
      exact absurd hx (by rw [k21_8]; decide)
    by_cases k21_9 : x = nI 9
    · refine r_swIn (k := nI 9) (tgt := 111) F dX7_count_21 k21_9 (by decide) (by decide) (off := 90) (by decide) (by decide) ?_
      exact absurd hx (by rw [k21_9]; decide)
    by_cases k21_10 : x = nI 10
    · refine r_swIn (k := nI 10) (tgt := 122) F dX7_count_21 k21_10 (by decide) (by decide) (off := 101) (by decide) (by decide) ?_
      exact absurd hx (by rw [k21_10]; decide)
    by_cases k21_11 : x = nI 11
    · refine r_swIn (k := nI 11) (tgt := 130) F dX7_count_21 k21_11 (by decide) (by decide) (off := 109) (by decide) (by decide) ?_
      exact absurd hx (by rw [k21_11]; decide)
    by_cases k21_12 : x = nI 12
    · refine r_swIn (k := nI 12) (tgt := 138) F dX7_count_21 k21_12 (by decide) (by decide) (off := 117) (by decide) (by decide) ?_
      exact absurd hx (by rw [k21_12]; decide)
    by_cases k21_13 : x = nI 13
    · refine r_swIn (k := nI 13) (tgt := 146) F dX7_count_21 k21_13 (by decide) (by decide) (off := 125) (by decide) (by decide) ?_
      exact absurd hx (by rw [k21_13]; decide)
    by_cases k21_14 : x = nI 14
    · refine r_swIn (k := nI 14) (tgt := 154) F dX7_count_21 k21_14 (by decide) (by decide) (off := 133) (by decide) (by decide) ?_
      exact absurd hx (by rw [k21_14]; decide)
    by_cases k21_15 : x = nI 15
    · refine r_swIn (k := nI 15) (tgt := 162) F dX7_count_21 k21_15 (by decide) (by decide) (off := 141) (by decide) (by decide) ?_
      exact absurd hx (by rw [k21_15]; decide)
    by_cases k21_16 : x = nI 16
    · refine r_swIn (k := nI 16) (tgt := 170) F dX7_count_21 k21_16 (by decide) (by decide) (off := 149) (by decide) (by decide) ?_
      exact absurd hx (by rw [k21_16]; decide)
    by_cases k21_17 : x = nI 17
    · refine r_swIn (k := nI 17) (tgt := 181) F dX7_count_21 k21_17 (by decide) (by decide) (off := 160) (by decide) (by decide) ?_
      exact absurd hx (by rw [k21_17]; decide)
    by_cases k21_18 : x = nI 18
    · refine r_swIn (k := nI 18) (tgt := 192) F dX7_count_21 k21_18 (by decide) (by decide) (off := 171) (by decide) (by decide) ?_
      exact absurd hx (by rw [k21_18]; decide)
    by_cases k21_19 : x = nI 19
    · refine r_swIn (k := nI 19) (tgt := 200) F dX7_count_21 k21_19 (by decide) (by decide) (off := 179) (by decide) (by decide) ?_
      exact absurd hx (by rw [k21_19]; decide)
    by_cases k21_20 : x = nI 20
    · refine r_swIn (k := nI 20) (tgt := 208) F dX7_count_21 k21_20 (by decide) (by decide) (off := 187) (by decide) (by decide) ?_
      exact absurd hx (by rw [k21_20]; decide)
    by_cases k21_21 : x = nI 21
    · refine r_swIn (k := nI 21) (tgt := 216) F dX7_count_21 k21_21 (by decide) (by decide) (off := 195) (by decide) (by decide) ?_
      exact absurd hx (by rw [k21_21]; decide)
    by_cases k21_22 : x = nI 22
    · refine r_swIn (k := nI 22) (tgt := 227) F dX7_count_21 k21_22 (by decide) (by decide) (off := 206) (by decide) (by decide) ?_
      exact absurd hx (by rw [k21_22]; decide)
    by_cases k21_23 : x = nI 23
    · refine r_swIn (k := nI 23) (tgt := 235) F dX7_count_21 k21_23 (by decide) (by decide) (off := 214) (by decide) (by decide) ?_
      exact absurd hx (by rw [k21_23]; decide)
    refine r_swOut (tgt := 243) F dX7_count_21 (by have q8 := lv_neT (a := 8) k21_8 (by decide); have q9 := lv_neT (a := 9) k21_9 (by decide); have q10 := lv_neT (a := 10) k21_10 (by decide); have q11 := lv_neT (a := 11) k21_11 (by decide); have q12 := lv_neT (a := 12) k21_12 (by decide); have q13 := lv_neT (a := 13) k21_13 (by decide); have q14 := lv_neT (a := 14) k21_14 (by decide); have q15 := lv_neT (a := 15) k21_15 (by decide); have q16 := lv_neT (a := 16) k21_16 (by decide); have q17 := lv_neT (a := 17) k21_17 (by decide); have q18 := lv_neT (a := 18) k21_18 (by decide); have q19 := lv_neT (a := 19) k21_19 (by decide); have q20 := lv_neT (a := 20) k21_20 (by decide); have q21 := lv_neT (a := 21) k21_21 (by decide); have q22 := lv_neT (a := 22) k21_22 (by decide); have q23 := lv_neT (a := 23) k21_23 (by decide); omega) (by decide) ?_
    refine lv_iconst (v := (-1)) F.1 F.2.1 dX7_count_243 (by decide) ?_
    exact r_ireturn F w dX7_count_244 (⟨rfl, rfl⟩)
  · exact absurd hx c1
set_option maxRecDepth 100000 in
set_option maxHeartbeats 4000000 in
theorem c_X7_countN (l : Launch) (G : KG) (ma hb xa ra : Nat → Nat) (pn pt : Nat → Nat → Nat) (P lo : Nat → Nat) (ha : Nat → Nat → Nat → Nat) (hs old tl : Nat) (T : Nat → Nat) (hI : Inv P) (hlk : LoOk P lo) (i : Nat) (hi31 : i < 2 ^ 31) : MetI l yX7_count wsX7_count 1 G (mainW G ma ((pn 0) 0) ((pt 0) 0) (hb 0) (xa 0) (ra 0) ++ (plH G (pn 0) (pn 1) (pn 2) (pn 3) (fun k => P k) (fun k => P (19 + k)) (P 9) (P 10) (P 11) (P 12) (P 13) (toldF P) (watF P) (P 16) (P 17) (P 18) ++ (coreW G (pn 1) (P 8) (top P) (kdP P) (lnP P) (dnP P) (moP P) lo ++ (linesW G (pn 2) (fun k => P (26 + 5 * k)) (fun k => P (26 + 5 * k + 1)) (fun k => P (26 + 5 * k + 2)) (fun k => P (26 + 5 * k + 3)) (fun k => P (26 + 5 * k + 4)) ++ (vialsW G (pn 3) (P 14) (P 15) (fun k => P (126 + 3 * k)) (fun k => P (126 + 3 * k + 1)) (fun k => P (126 + 3 * k + 2)) ++ (histH G hb hs old (fun k => some (((ha k) 0) 0)) ++ (textW G xa tl T))))))) [.ref (ma 0), .int (nI i)] (fun r v => r = countN P hs tl i ∧ v = mainW G ma ((pn 0) 0) ((pt 0) 0) (hb 0) (xa 0) (ra 0) ++ (plH G (pn 0) (pn 1) (pn 2) (pn 3) (fun k => P k) (fun k => P (19 + k)) (P 9) (P 10) (P 11) (P 12) (P 13) (toldF P) (watF P) (P 16) (P 17) (P 18) ++ (coreW G (pn 1) (P 8) (top P) (kdP P) (lnP P) (dnP P) (moP P) lo ++ (linesW G (pn 2) (fun k => P (26 + 5 * k)) (fun k => P (26 + 5 * k + 1)) (fun k => P (26 + 5 * k + 2)) (fun k => P (26 + 5 * k + 3)) (fun k => P (26 + 5 * k + 4)) ++ (vialsW G (pn 3) (P 14) (P 15) (fun k => P (126 + 3 * k)) (fun k => P (126 + 3 * k + 1)) (fun k => P (126 + 3 * k + 2)) ++ (histH G hb hs old (fun k => some (((ha k) 0) 0)) ++ (textW G xa tl T))))))) := by
  refine MetI.by (cc := cX7_count) (nL := 2) (ret := some .int) (by decide +kernel) rfl (Nat.le_of_ble_eq_true rfl) ?_
  intro p e s m args below meth c F w ls hl
  have hl : lv_has ls 2 [(0, .ref (ma 0)), (1, .int (nI i))] := hl
  have hts := F.ts
  have iX0 : ∀ w ∈ wsX00, w ∈ wsX7_count := by decide +kernel
  have iX1 : ∀ w ∈ wsX10, w ∈ wsX7_count := by decide +kernel
  have iX3 : ∀ w ∈ wsX30, w ∈ wsX7_count := by decide +kernel
  have iX5 : ∀ w ∈ wsX50, w ∈ wsX7_count := by decide +kernel
  have iX6 : ∀ w ∈ wsX60, w ∈ wsX7_count := by decide +kernel
  have iX7 : ∀ w ∈ wsX70, w ∈ wsX7_count := by decide +kernel
  have f10 := hts (.fieldLink RX7 10 "CoreMelter" "now" "LCoreMelter$Plate;") (by decide +kernel)
  have f22 := hts (.fieldLink RX7 22 "CoreMelter" "history" "LCoreMelter$History;") (by decide +kernel)
  have f29 := hts (.fieldLink RX7 29 "CoreMelter" "text" "LCoreMelter$Text;") (by decide +kernel)
  have f46 := hts (.fieldLink RX7 46 "CoreMelter$Plate" "core" "LCoreMelter$Core;") (by decide +kernel)
  have f62 := hts (.fieldLink RX7 62 "CoreMelter$Core" "size" "I") (by decide +kernel)
  have f82 := hts (.fieldLink RX7 82 "CoreMelter$Plate" "front" "I") (by decide +kernel)
  have f89 := hts (.fieldLink RX7 89 "CoreMelter$Core" "height" "I") (by decide +kernel)
  have f102 := hts (.fieldLink RX7 102 "CoreMelter$History" "size" "I") (by decide +kernel)
  have f112 := hts (.fieldLink RX7 112 "CoreMelter$Plate" "settings" "[I") (by decide +kernel)
  have f117 := hts (.fieldLink RX7 117 "CoreMelter$Plate" "lines" "LCoreMelter$Lines;") (by decide +kernel)
  have f138 := hts (.fieldLink RX7 138 "CoreMelter$Plate" "told" "I") (by decide +kernel)
  have f141 := hts (.fieldLink RX7 141 "CoreMelter$Plate" "store" "I") (by decide +kernel)
  have f144 := hts (.fieldLink RX7 144 "CoreMelter$Plate" "stock" "I") (by decide +kernel)
  have f147 := hts (.fieldLink RX7 147 "CoreMelter$Plate" "stockGas" "I") (by decide +kernel)
  have f150 := hts (.fieldLink RX7 150 "CoreMelter$Plate" "stockDirt" "I") (by decide +kernel)
  have f153 := hts (.fieldLink RX7 153 "CoreMelter$Plate" "vials" "LCoreMelter$Vials;") (by decide +kernel)
  have f157 := hts (.fieldLink RX7 157 "CoreMelter$Vials" "sealed" "I") (by decide +kernel)
  have f162 := hts (.fieldLink RX7 162 "CoreMelter$Vials" "present" "I") (by decide +kernel)
  have f165 := hts (.fieldLink RX7 165 "CoreMelter$Plate" "ticks" "I") (by decide +kernel)
  have f168 := hts (.fieldLink RX7 168 "CoreMelter$Plate" "reason" "I") (by decide +kernel)
  have f171 := hts (.fieldLink RX7 171 "CoreMelter$Plate" "stopped" "I") (by decide +kernel)
  have f177 := hts (.fieldLink RX7 177 "CoreMelter$Text" "length" "I") (by decide +kernel)
  have hD := hI.d
  obtain ⟨b9, b11, b20, b12, b13, b25, b23⟩ := hD.bnd
  have h8 := hD.1.1
  have ht := hD.1.top_le
  have hco := core_ok hD.1 hlk
  have h14 := hI.2.2.2.2.2.1.1
  refine lv_iload_n F.1 F.2.1 dX7_count_0 rfl (lv_at hl 1 rfl) ?_
  refine r_zlt (tgt := 20) F dX7_count_1 (by decide) (by omega) ?_
  refine lv_iload_n F.1 F.2.1 dX7_count_4 rfl (lv_at hl 1 rfl) ?_
  refine lv_bipush (v := nI 8) F.1 F.2.1 dX7_count_5 (by decide) ?_
  refine r_cge (tgt := 20) F dX7_count_7 (by decide) (by omega) (by omega) (fun c7 => ?_) (fun c7 => ?_)
  · skip
    refine lv_iload_n F.1 F.2.1 dX7_count_20 rfl (lv_at hl 1 rfl) ?_
    by_cases k21_8 : i = 8
    · refine r_swIn (k := nI 8) (tgt := 100) F dX7_count_21 (congrArg nI k21_8) (by decide) (by decide) (off := 79) (by decide) (by decide) ?_
      refine lv_aload_n F.1 F.2.1 dX7_count_100 rfl (lv_at hl 0 rfl) ?_
      refine r_get F w 0 0 iX7 f10 rfl rfl rfl (by decide) rfl dX7_count_101 ?_
      refine r_get F w 1 0 iX3 f46 rfl rfl rfl (by decide) rfl dX7_count_104 ?_
      refine r_get F w 4 0 iX0 f62 rfl rfl rfl (by decide) rfl dX7_count_107 ?_
      exact r_ireturn F w dX7_count_110 (⟨by subst k21_8; rfl, rfl⟩)
    by_cases k21_9 : i = 9
    · refine r_swIn (k := nI 9) (tgt := 111) F dX7_count_21 (congrArg nI k21_9) (by decide) (by decide) (off := 90) (by decide) (by decide) ?_
      refine lv_aload_n F.1 F.2.1 dX7_count_111 rfl (lv_at hl 0 rfl) ?_
      refine r_get F w 0 0 iX7 f10 rfl rfl rfl (by decide) rfl dX7_count_112 ?_
      refine r_get F w 1 0 iX3 f46 rfl rfl rfl (by decide) rfl dX7_count_115 ?_
      refine r_get F w 4 1 iX0 f89 rfl rfl rfl (by decide) rfl dX7_count_118 ?_
      exact r_ireturn F w dX7_count_121 (⟨by subst k21_9; rfl, rfl⟩)
    by_cases k21_10 : i = 10
    · refine r_swIn (k := nI 10) (tgt := 122) F dX7_count_21 (congrArg nI k21_10) (by decide) (by decide) (off := 101) (by decide) (by decide) ?_
      refine lv_aload_n F.1 F.2.1 dX7_count_122 rfl (lv_at hl 0 rfl) ?_
      refine r_get F w 0 0 iX7 f10 rfl rfl rfl (by decide) rfl dX7_count_123 ?_
      refine r_get F w 1 5 iX3 f82 rfl rfl rfl (by decide) rfl dX7_count_126 ?_
      exact r_ireturn F w dX7_count_129 (⟨by subst k21_10; rfl, rfl⟩)
    by_cases k21_11 : i = 11
    · refine r_swIn (k := nI 11) (tgt := 130) F dX7_count_21 (congrArg nI k21_11) (by decide) (by decide) (off := 109) (by decide) (by decide) ?_
      refine lv_aload_n F.1 F.2.1 dX7_count_130 rfl (lv_at hl 0 rfl) ?_
      refine r_get F w 0 0 iX7 f10 rfl rfl rfl (by decide) rfl dX7_count_131 ?_
      refine r_get F w 1 6 iX3 f141 rfl rfl rfl (by decide) rfl dX7_count_134 ?_
      exact r_ireturn F w dX7_count_137 (⟨by subst k21_11; rfl, rfl⟩)
    by_cases k21_12 : i = 12
    · refine r_swIn (k := nI 12) (tgt := 138) F dX7_count_21 (congrArg nI k21_12) (by decide) (by decide) (off := 117) (by decide) (by decide) ?_
      refine lv_aload_n F.1 F.2.1 dX7_count_138 rfl (lv_at hl 0 rfl) ?_
      refine r_get F w 0 0 iX7 f10 rfl rfl rfl (by decide) rfl dX7_count_139 ?_
      refine r_get F w 1 7 iX3 f144 rfl rfl rfl (by decide) rfl dX7_count_142 ?_
      exact r_ireturn F w dX7_count_145 (⟨by subst k21_12; rfl, rfl⟩)
    by_cases k21_13 : i = 13
    · refine r_swIn (k := nI 13) (tgt := 146) F dX7_count_21 (congrArg nI k21_13) (by decide) (by decide) (off := 125) (by decide) (by decide) ?_
      refine lv_aload_n F.1 F.2.1 dX7_count_146 rfl (lv_at hl 0 rfl) ?_
      refine r_get F w 0 0 iX7 f10 rfl rfl rfl (by decide) rfl dX7_count_147 ?_
      refine r_get F w 1 8 iX3 f147 rfl rfl rfl (by decide) rfl dX7_count_150 ?_
      exact r_ireturn F w dX7_count_153 (⟨by subst k21_13; rfl, rfl⟩)
    by_cases k21_14 : i = 14
    · refine r_swIn (k := nI 14) (tgt := 154) F dX7_count_21 (congrArg nI k21_14) (by decide) (by decide) (off := 133) (by decide) (by decide) ?_
      refine lv_aload_n F.1 F.2.1 dX7_count_154 rfl (lv_at hl 0 rfl) ?_
      refine r_get F w 0 0 iX7 f10 rfl rfl rfl (by decide) rfl dX7_count_155 ?_
      refine r_get F w 1 9 iX3 f150 rfl rfl rfl (by decide) rfl dX7_count_158 ?_
      exact r_ireturn F w dX7_count_161 (⟨by subst k21_14; rfl, rfl⟩)
    by_cases k21_15 : i = 15
    · refine r_swIn (k := nI 15) (tgt := 162) F dX7_count_21 (congrArg nI k21_15) (by decide) (by decide) (off := 141) (by decide) (by decide) ?_
      refine lv_aload_n F.1 F.2.1 dX7_count_162 rfl (lv_at hl 0 rfl) ?_
      refine r_get F w 0 0 iX7 f10 rfl rfl rfl (by decide) rfl dX7_count_163 ?_
      refine r_get F w 1 10 iX3 f138 rfl rfl rfl (by decide) rfl dX7_count_166 ?_
      exact r_ireturn F w dX7_count_169 (⟨by subst k21_15; rfl, rfl⟩)
    by_cases k21_16 : i = 16
    · refine r_swIn (k := nI 16) (tgt := 170) F dX7_count_21 (congrArg nI k21_16) (by decide) (by decide) (off := 149) (by decide) (by decide) ?_
      refine lv_aload_n F.1 F.2.1 dX7_count_170 rfl (lv_at hl 0 rfl) ?_
      refine r_get F w 0 0 iX7 f10 rfl rfl rfl (by decide) rfl dX7_count_171 ?_
      refine r_get F w 1 2 iX3 f153 rfl rfl rfl (by decide) rfl dX7_count_174 ?_
      refine r_get F w 16 0 iX6 f157 rfl rfl rfl (by decide) rfl dX7_count_177 ?_
      exact r_ireturn F w dX7_count_180 (⟨by subst k21_16; rfl, rfl⟩)
    by_cases k21_17 : i = 17
    · refine r_swIn (k := nI 17) (tgt := 181) F dX7_count_21 (congrArg nI k21_17) (by decide) (by decide) (off := 160) (by decide) (by decide) ?_
      refine lv_aload_n F.1 F.2.1 dX7_count_181 rfl (lv_at hl 0 rfl) ?_
      refine r_get F w 0 0 iX7 f10 rfl rfl rfl (by decide) rfl dX7_count_182 ?_
      refine r_get F w 1 2 iX3 f153 rfl rfl rfl (by decide) rfl dX7_count_185 ?_
      refine r_get F w 16 1 iX6 f162 rfl rfl rfl (by decide) rfl dX7_count_188 ?_
      exact r_ireturn F w dX7_count_191 (⟨by subst k21_17; rfl, rfl⟩)
    by_cases k21_18 : i = 18
    · refine r_swIn (k := nI 18) (tgt := 192) F dX7_count_21 (congrArg nI k21_18) (by decide) (by decide) (off := 171) (by decide) (by decide) ?_
      refine lv_aload_n F.1 F.2.1 dX7_count_192 rfl (lv_at hl 0 rfl) ?_
      refine r_get F w 0 0 iX7 f10 rfl rfl rfl (by decide) rfl dX7_count_193 ?_
      refine r_get F w 1 12 iX3 f165 rfl rfl rfl (by decide) rfl dX7_count_196 ?_
      exact r_ireturn F w dX7_count_199 (⟨by subst k21_18; rfl, rfl⟩)
    by_cases k21_19 : i = 19
    · refine r_swIn (k := nI 19) (tgt := 200) F dX7_count_21 (congrArg nI k21_19) (by decide) (by decide) (off := 179) (by decide) (by decide) ?_
      refine lv_aload_n F.1 F.2.1 dX7_count_200 rfl (lv_at hl 0 rfl) ?_
      refine r_get F w 0 0 iX7 f10 rfl rfl rfl (by decide) rfl dX7_count_201 ?_
      refine r_get F w 1 13 iX3 f168 rfl rfl rfl (by decide) rfl dX7_count_204 ?_
      exact r_ireturn F w dX7_count_207 (⟨by subst k21_19; rfl, rfl⟩)
    by_cases k21_20 : i = 20
    · refine r_swIn (k := nI 20) (tgt := 208) F dX7_count_21 (congrArg nI k21_20) (by decide) (by decide) (off := 187) (by decide) (by decide) ?_
      refine lv_aload_n F.1 F.2.1 dX7_count_208 rfl (lv_at hl 0 rfl) ?_
      refine r_get F w 0 0 iX7 f10 rfl rfl rfl (by decide) rfl dX7_count_209 ?_
      refine r_get F w 1 14 iX3 f171 rfl rfl rfl (by decide) rfl dX7_count_212 ?_
      exact r_ireturn F w dX7_count_215 (⟨by subst k21_20; rfl, rfl⟩)
    by_cases k21_21 : i = 21
    · refine r_swIn (k := nI 21) (tgt := 216) F dX7_count_21 (congrArg nI k21_21) (by decide) (by decide) (off := 195) (by decide) (by decide) ?_
      refine lv_aload_n F.1 F.2.1 dX7_count_216 rfl (lv_at hl 0 rfl) ?_
      refine r_get F w 0 0 iX7 f10 rfl rfl rfl (by decide) rfl dX7_count_217 ?_
      refine r_get F w 1 1 iX3 f117 rfl rfl rfl (by decide) rfl dX7_count_220 ?_
      refine r_callVI (rest := []) F w (c_X2_stuckOnes l G (pn 2) (fun k => P (26 + 5 * k)) (fun k => P (26 + 5 * k + 1)) (fun k => P (26 + 5 * k + 2)) (fun k => P (26 + 5 * k + 3)) (fun k => P (26 + 5 * k + 4))  ) gX7_count_X2_stuckOnes [10, 11, 12, 13, 14, 15] [0, 1, 2, 3, 4, 5, 6, 7, 8, 9, 16, 17, 18, 19, 20, 21, 22, 23] (nA0 := 0) rfl (by decide +kernel) rfl ⟨Nat.le_of_ble_eq_true rfl, Nat.le_of_ble_eq_true rfl⟩ ⟨Nat.le_of_ble_eq_true rfl, Nat.le_of_ble_eq_true rfl⟩ rfl rfl rfl rfl rfl rfl rfl hl rfl (Nat.le_of_ble_eq_true rfl) dX7_count_223 (fun r_223 w1 H locs hp w => ?_)
      obtain ⟨rfl, rfl⟩ := hp
      have w := w.sub (ws' := mainW G ma ((pn 0) 0) ((pt 0) 0) (hb 0) (xa 0) (ra 0) ++ (plH G (pn 0) (pn 1) (pn 2) (pn 3) (fun k => P k) (fun k => P (19 + k)) (P 9) (P 10) (P 11) (P 12) (P 13) (toldF P) (watF P) (P 16) (P 17) (P 18) ++ (coreW G (pn 1) (P 8) (top P) (kdP P) (lnP P) (dnP P) (moP P) lo ++ (linesW G (pn 2) (fun k => P (26 + 5 * k)) (fun k => P (26 + 5 * k + 1)) (fun k => P (26 + 5 * k + 2)) (fun k => P (26 + 5 * k + 3)) (fun k => P (26 + 5 * k + 4)) ++ (vialsW G (pn 3) (P 14) (P 15) (fun k => P (126 + 3 * k)) (fun k => P (126 + 3 * k + 1)) (fun k => P (126 + 3 * k + 2)) ++ (histH G hb hs old (fun k => some (((ha k) 0) 0)) ++ (textW G xa tl T))))))) [0, 1, 2, 3, 4, 5, 6, 7, 8, 9, 18, 19, 20, 21, 22, 23, 10, 11, 12, 13, 14, 15, 16, 17] (by decide) rfl
      exact r_ireturn F w dX7_count_226 (⟨by subst k21_21; exact congrArg nI (by simp [low, stuckN]), rfl⟩)
    by_cases k21_22 : i = 22
    · refine r_swIn (k := nI 22) (tgt := 227) F dX7_count_21 (congrArg nI k21_22) (by decide) (by decide) (off := 206) (by decide) (by decide) ?_
      refine lv_aload_n F.1 F.2.1 dX7_count_227 rfl (lv_at hl 0 rfl) ?_
      refine r_get F w 0 2 iX7 f22 rfl rfl rfl (by decide) rfl dX7_count_228 ?_
      refine r_get F w 20 0 iX1 f102 rfl rfl rfl (by decide) rfl dX7_count_231 ?_
      exact r_ireturn F w dX7_count_234 (⟨by subst k21_22; rfl, rfl⟩)
    by_cases k21_23 : i = 23
    · refine r_swIn (k := nI 23) (tgt := 235) F dX7_count_21 (congrArg nI k21_23) (by decide) (by decide) (off := 214) (by decide) (by decide) ?_
      refine lv_aload_n F.1 F.2.1 dX7_count_235 rfl (lv_at hl 0 rfl) ?_
      refine r_get F w 0 3 iX7 f29 rfl rfl rfl (by decide) rfl dX7_count_236 ?_
      refine r_get F w 22 0 iX5 f177 rfl rfl rfl (by decide) rfl dX7_count_239 ?_
      exact r_ireturn F w dX7_count_242 (⟨by subst k21_23; rfl, rfl⟩)
    refine r_swOutN (tgt := 243) F dX7_count_21 hi31 (by omega) (by decide) ?_
    refine lv_iconst (v := (-1)) F.1 F.2.1 dX7_count_243 (by decide) ?_
    exact r_ireturn F w dX7_count_244 (⟨by unfold countN; rw [if_neg c7, if_neg k21_8, if_neg k21_9, if_neg k21_10, if_neg k21_11, if_neg k21_12, if_neg k21_13, if_neg k21_14, if_neg k21_15, if_neg k21_16, if_neg k21_17, if_neg k21_18, if_neg k21_19, if_neg k21_20, if_neg k21_21, if_neg k21_22, if_neg k21_23], rfl⟩)
  · skip
    refine lv_aload_n F.1 F.2.1 dX7_count_10 rfl (lv_at hl 0 rfl) ?_
    refine r_get F w 0 0 iX7 f10 rfl rfl rfl (by decide) rfl dX7_count_11 ?_
    refine r_get F w 1 3 iX3 f112 rfl rfl rfl (by decide) rfl dX7_count_14 ?_
    refine lv_iload_n F.1 F.2.1 dX7_count_17 rfl (lv_at hl 1 rfl) ?_
    refine r_iald F w 2 rfl (by omega) (by decide) dX7_count_18 ?_
    exact r_ireturn F w dX7_count_19 (⟨(if_pos c7).symm, rfl⟩)
theorem c_X7_count (l : Launch) (G : KG) (ma hb xa ra : Nat → Nat) (pn pt : Nat → Nat → Nat) (P lo : Nat → Nat) (ha : Nat → Nat → Nat → Nat) (hs old tl : Nat) (T : Nat → Nat) (hI : Inv P) (hlk : LoOk P lo) (x : Int32) : MetI l yX7_count wsX7_count 1 G (mainW G ma ((pn 0) 0) ((pt 0) 0) (hb 0) (xa 0) (ra 0) ++ (plH G (pn 0) (pn 1) (pn 2) (pn 3) (fun k => P k) (fun k => P (19 + k)) (P 9) (P 10) (P 11) (P 12) (P 13) (toldF P) (watF P) (P 16) (P 17) (P 18) ++ (coreW G (pn 1) (P 8) (top P) (kdP P) (lnP P) (dnP P) (moP P) lo ++ (linesW G (pn 2) (fun k => P (26 + 5 * k)) (fun k => P (26 + 5 * k + 1)) (fun k => P (26 + 5 * k + 2)) (fun k => P (26 + 5 * k + 3)) (fun k => P (26 + 5 * k + 4)) ++ (vialsW G (pn 3) (P 14) (P 15) (fun k => P (126 + 3 * k)) (fun k => P (126 + 3 * k + 1)) (fun k => P (126 + 3 * k + 2)) ++ (histH G hb hs old (fun k => some (((ha k) 0) 0)) ++ (textW G xa tl T))))))) [.ref (ma 0), .int x] (fun r v => r = on1 (countN P hs tl) x ∧ v = mainW G ma ((pn 0) 0) ((pt 0) 0) (hb 0) (xa 0) (ra 0) ++ (plH G (pn 0) (pn 1) (pn 2) (pn 3) (fun k => P k) (fun k => P (19 + k)) (P 9) (P 10) (P 11) (P 12) (P 13) (toldF P) (watF P) (P 16) (P 17) (P 18) ++ (coreW G (pn 1) (P 8) (top P) (kdP P) (lnP P) (dnP P) (moP P) lo ++ (linesW G (pn 2) (fun k => P (26 + 5 * k)) (fun k => P (26 + 5 * k + 1)) (fun k => P (26 + 5 * k + 2)) (fun k => P (26 + 5 * k + 3)) (fun k => P (26 + 5 * k + 4)) ++ (vialsW G (pn 3) (P 14) (P 15) (fun k => P (126 + 3 * k)) (fun k => P (126 + 3 * k + 1)) (fun k => P (126 + 3 * k + 2)) ++ (histH G hb hs old (fun k => some (((ha k) 0) 0)) ++ (textW G xa tl T))))))) := by
  by_cases h : x < 0
  · rw [on1_neg h]; exact c_X7_countM l G ma hb xa ra pn pt P lo ha hs old tl T hI hlk x h
  · obtain ⟨i, hi, rfl⟩ := nI_of h
    rw [on1_nat hi]
    exact c_X7_countN l G ma hb xa ra pn pt P lo ha hs old tl T hI hlk i hi

