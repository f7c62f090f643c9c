theorem leastF_le (k : Nat) : leastF k ≤ 20000 := by unfold leastF; repeat (first | split | omega)
theorem mostF_le (k : Nat) : mostF k ≤ 20000 := by unfold mostF; repeat (first | split | omega)
set_option maxRecDepth 100000 in
set_option maxHeartbeats 4000000 in
theorem c_X7_setM (l : Launch) (G : KG) (ma hb xa ra : Nat → Nat) (pn pt : Nat → Nat → Nat) (P lo : Nat → Nat) (ha : Nat → Nat → Nat → Nat) (hpg hlw : Nat → Nat → Nat) (hs old : Nat) (hI : Inv P) (hlk : LoOk P lo) (h5 : hs ≤ 5) (ho : old < 5) (tl tm ti : Nat) (x y : Int32) (hx : ¬ (nI 0 ≤ x ∧ x < nI 8)) : MetIX l yX7_set wsX7_set 4 G (plateW G pn P lo ++ (mainW G ma ((pn 0) 0) ((pt 0) 0) (hb 0) (xa 0) (ra 0) ++ (histH G hb hs old (fun k => some (((ha k) 0) 0)) ++ (plateW G (ha 0) (hpg 0) (hlw 0) ++ (plateW G (ha 1) (hpg 1) (hlw 1) ++ (plateW G (ha 2) (hpg 2) (hlw 2) ++ (plateW G (ha 3) (hpg 3) (hlw 3) ++ (plateW G (ha 4) (hpg 4) (hlw 4))))))))) [.ref (ma 0), .int x, .int y] (tabX tl tm ti) (fun r v => r = -1 ∧ v = plateW G pn P lo ++ (mainW G ma ((pn 0) 0) ((pt 0) 0) (hb 0) (xa 0) (ra 0) ++ (histH G hb hs old (fun k => some (((ha k) 0) 0)) ++ (plateW G (ha 0) (hpg 0) (hlw 0) ++ (plateW G (ha 1) (hpg 1) (hlw 1) ++ (plateW G (ha 2) (hpg 2) (hlw 2) ++ (plateW G (ha 3) (hpg 3) (hlw 3) ++ (plateW G (ha 4) (hpg 4) (hlw 4))))))))) := by
  refine MetIX.by (cc := cX7_set) (nL := 4) (ret := some .int) (by decide +kernel) rfl (Nat.le_of_ble_eq_true rfl) ?_
  intro p e s m args below meth c F hX w ls hl
  have hl : lv_has ls 4 [(0, .ref (ma 0)), (1, .int x), (2, .int y)] := hl
  have hts := F.ts
  have hD := hI.d
  obtain ⟨b9, b11, b20, b12, b13, b25, b23⟩ := hD.bnd
  have h8 := hD.1.1
  have ht := hD.1.top_le
  have h16 := hI.2.2.2.2.2.2.1
  refine lv_iload_n F.1 F.2.1 dX7_set_0 rfl (lv_at hl 1 rfl) ?_
  refine lv_if_lt (tgt := 28) F.1 F.2.1 dX7_set_1 (by decide) (fun c1 => ?_) (fun c1 => ?_)
  · skip
    refine lv_iconst (v := (-1)) F.1 F.2.1 dX7_set_28 (by decide) ?_
    exact r_ireturn F w dX7_set_29 (⟨rfl, rfl⟩)
  · skip
    refine lv_iload_n F.1 F.2.1 dX7_set_4 rfl (lv_at hl 1 rfl) ?_
    refine lv_bipush (v := nI 8) F.1 F.2.1 dX7_set_5 (by decide) ?_
    refine lv_icmp_ge (tgt := 28) F.1 F.2.1 dX7_set_7 (by decide) (fun c7 => ?_) (fun c7 => ?_)
    · skip
      refine lv_iconst (v := (-1)) F.1 F.2.1 dX7_set_28 (by decide) ?_
      exact r_ireturn F w dX7_set_29 (⟨rfl, rfl⟩)
    · exact absurd ⟨Int32.not_lt.mp c1, Int32.not_le.mp c7⟩ hx
set_option maxRecDepth 100000 in
set_option maxHeartbeats 4000000 in
theorem c_X7_setK (l : Launch) (G : KG) (ma hb xa ra : Nat → Nat) (pn pt : Nat → Nat → Nat) (P lo : Nat → Nat) (ha : Nat → Nat → Nat → Nat) (hpg hlw : Nat → Nat → Nat) (hs old : Nat) (hI : Inv P) (hlk : LoOk P lo) (h5 : hs ≤ 5) (ho : old < 5) (tl tm ti : Nat) (w0 : Nat) (y : Int32) (hw : w0 < 8) (hy : ¬ (nI (leastF w0) ≤ y ∧ y ≤ nI (mostF w0))) : MetIX l yX7_set wsX7_set 4 G (plateW G pn P lo ++ (mainW G ma ((pn 0) 0) ((pt 0) 0) (hb 0) (xa 0) (ra 0) ++ (histH G hb hs old (fun k => some (((ha k) 0) 0)) ++ (plateW G (ha 0) (hpg 0) (hlw 0) ++ (plateW G (ha 1) (hpg 1) (hlw 1) ++ (plateW G (ha 2) (hpg 2) (hlw 2) ++ (plateW G (ha 3) (hpg 3) (hlw 3) ++ (plateW G (ha 4) (hpg 4) (hlw 4))))))))) [.ref (ma 0), .int (nI w0), .int y] (tabX tl tm ti) (fun r v => r = -1 ∧ v = plateW G pn P lo ++ (mainW G ma ((pn 0) 0) ((pt 0) 0) (hb 0) (xa 0) (ra 0) ++ (histH G hb hs old (fun k => some (((ha k) 0) 0)) ++ (plateW G (ha 0) (hpg 0) (hlw 0) ++ (plateW G (ha 1) (hpg 1) (hlw 1) ++ (plateW G (ha 2) (hpg 2) (hlw 2) ++ (plateW G (ha 3) (hpg 3) (hlw 3) ++ (plateW G (ha 4) (hpg 4) (hlw 4))))))))) := by
  refine MetIX.by (cc := cX7_set) (nL := 4) (ret := some .int) (by decide +kernel) rfl (Nat.le_of_ble_eq_true rfl) ?_
  intro p e s m args below meth c F hX w ls hl
  have hl : lv_has ls 4 [(0, .ref (ma 0)), (1, .int (nI w0)), (2, .int y)] := hl
  have hts := F.ts
  have f106 := hts (.fieldLink RX7 106 "CoreMelter$Plate" "LEAST" "[I") (by decide +kernel)
  have f109 := hts (.fieldLink RX7 109 "CoreMelter$Plate" "MOST" "[I") (by decide +kernel)
  have hD := hI.d
  obtain ⟨b9, b11, b20, b12, b13, b25, b23⟩ := hD.bnd
  have h8 := hD.1.1
  have ht := hD.1.top_le
  have h16 := hI.2.2.2.2.2.2.1
  refine lv_iload_n F.1 F.2.1 dX7_set_0 rfl (lv_at hl 1 rfl) ?_
  refine r_zlt (tgt := 28) F dX7_set_1 (by decide) (by omega) ?_
  refine lv_iload_n F.1 F.2.1 dX7_set_4 rfl (lv_at hl 1 rfl) ?_
  refine lv_bipush (v := nI 8) F.1 F.2.1 dX7_set_5 (by decide) ?_
  refine r_cge (tgt := 28) F dX7_set_7 (by decide) (by omega) (by omega) (fun c7 => ?_) (fun c7 => ?_)
  · exact absurd hw c7
  · skip
    refine lv_iload_n F.1 F.2.1 dX7_set_10 rfl (lv_at hl 2 rfl) ?_
    refine r_gets F w hX.1.1 f106 rfl dX7_set_11 ?_
    refine lv_iload_n F.1 F.2.1 dX7_set_14 rfl (lv_at hl 1 rfl) ?_
    refine r_tald F w hX.1.2 (by omega) (by decide) dX7_set_15 ?_
    refine lv_icmp_lt (tgt := 28) F.1 F.2.1 dX7_set_16 (by decide) (fun c16 => ?_) (fun c16 => ?_)
    · skip
      refine lv_iconst (v := (-1)) F.1 F.2.1 dX7_set_28 (by decide) ?_
      exact r_ireturn F w dX7_set_29 (⟨rfl, rfl⟩)
    · skip
      refine lv_iload_n F.1 F.2.1 dX7_set_19 rfl (lv_at hl 2 rfl) ?_
      refine r_gets F w hX.2.1.1 f109 rfl dX7_set_20 ?_
      refine lv_iload_n F.1 F.2.1 dX7_set_23 rfl (lv_at hl 1 rfl) ?_
      refine r_tald F w hX.2.1.2 (by omega) (by decide) dX7_set_24 ?_
      refine lv_icmp_le (tgt := 30) F.1 F.2.1 dX7_set_25 (by decide) (fun c25 => ?_) (fun c25 => ?_)
      · exact absurd ⟨Int32.not_lt.mp c16, c25⟩ hy
      · skip
        refine lv_iconst (v := (-1)) F.1 F.2.1 dX7_set_28 (by decide) ?_
        exact r_ireturn F w dX7_set_29 (⟨rfl, rfl⟩)
set_option maxRecDepth 100000 in
set_option maxHeartbeats 4000000 in
theorem c_X7_setN (l : Launch) (G : KG) (ma hb xa ra : Nat → Nat) (pn pt : Nat → Nat → Nat) (P lo : Nat → Nat) (ha : Nat → Nat → Nat → Nat) (hpg hlw : Nat → Nat → Nat) (hs old : Nat) (hI : Inv P) (hlk : LoOk P lo) (h5 : hs ≤ 5) (ho : old < 5) (tl tm ti : Nat) (w0 x1 : Nat) (hw : w0 < 8) (hl1 : leastF w0 ≤ x1) (hl2 : x1 ≤ mostF w0) : MetIX l yX7_set wsX7_set 4 G (plateW G pn P lo ++ (mainW G ma ((pn 0) 0) ((pt 0) 0) (hb 0) (xa 0) (ra 0) ++ (histH G hb hs old (fun k => some (((ha k) 0) 0)) ++ (plateW G (ha 0) (hpg 0) (hlw 0) ++ (plateW G (ha 1) (hpg 1) (hlw 1) ++ (plateW G (ha 2) (hpg 2) (hlw 2) ++ (plateW G (ha 3) (hpg 3) (hlw 3) ++ (plateW G (ha 4) (hpg 4) (hlw 4))))))))) [.ref (ma 0), .int (nI w0), .int (nI x1)] (tabX tl tm ti) (fun r v => r = nI (P w0) ∧ v = plateW G pn (up P w0 x1) lo ++ (mainW G ma ((pn 0) 0) ((pt 0) 0) (hb 0) (xa 0) (ra 0) ++ (histH G hb (sizeN hs) (oldN hs old) (fun k => some (((ha k) 0) 0)) ++ (plateW G (ha 0) ((va_up hpg (slotN hs old) P) 0) ((va_up hlw (slotN hs old) lo) 0) ++ (plateW G (ha 1) ((va_up hpg (slotN hs old) P) 1) ((va_up hlw (slotN hs old) lo) 1) ++ (plateW G (ha 2) ((va_up hpg (slotN hs old) P) 2) ((va_up hlw (slotN hs old) lo) 2) ++ (plateW G (ha 3) ((va_up hpg (slotN hs old) P) 3) ((va_up hlw (slotN hs old) lo) 3) ++ (plateW G (ha 4) ((va_up hpg (slotN hs old) P) 4) ((va_up hlw (slotN hs old) lo) 4))))))))) := by
  refine MetIX.by (cc := cX7_set) (nL := 4) (ret := some .int) (by decide +kernel) rfl (Nat.le_of_ble_eq_true rfl) ?_
  intro p e s m args below meth c F hX w ls hl
  have hl : lv_has ls 4 [(0, .ref (ma 0)), (1, .int (nI w0)), (2, .int (nI x1))] := hl
  have hts := F.ts
  have iX3 : ∀ w ∈ wsX30, w ∈ wsX7_set := by decide +kernel
  have iX7 : ∀ w ∈ wsX70, w ∈ wsX7_set := by decide +kernel
  have f10 := hts (.fieldLink RX7 10 "CoreMelter" "now" "LCoreMelter$Plate;") (by decide +kernel)
  have f22 := hts (.fieldLink RX7 22 "CoreMelter" "history" "LCoreMelter$History;") (by decide +kernel)
  have f106 := hts (.fieldLink RX7 106 "CoreMelter$Plate" "LEAST" "[I") (by decide +kernel)
  have f109 := hts (.fieldLink RX7 109 "CoreMelter$Plate" "MOST" "[I") (by decide +kernel)
  have f112 := hts (.fieldLink RX7 112 "CoreMelter$Plate" "settings" "[I") (by decide +kernel)
  have hD := hI.d
  obtain ⟨b9, b11, b20, b12, b13, b25, b23⟩ := hD.bnd
  have h8 := hD.1.1
  have ht := hD.1.top_le
  have h16 := hI.2.2.2.2.2.2.1
  have hlb : leastF w0 ≤ 20000 := leastF_le w0
  have hmb : mostF w0 ≤ 20000 := mostF_le w0
  refine lv_iload_n F.1 F.2.1 dX7_set_0 rfl (lv_at hl 1 rfl) ?_
  refine r_zlt (tgt := 28) F dX7_set_1 (by decide) (by omega) ?_
  refine lv_iload_n F.1 F.2.1 dX7_set_4 rfl (lv_at hl 1 rfl) ?_
  refine lv_bipush (v := nI 8) F.1 F.2.1 dX7_set_5 (by decide) ?_
  refine r_cge (tgt := 28) F dX7_set_7 (by decide) (by omega) (by omega) (fun c7 => ?_) (fun c7 => ?_)
  · exact absurd hw c7
  · skip
    refine lv_iload_n F.1 F.2.1 dX7_set_10 rfl (lv_at hl 2 rfl) ?_
    refine r_gets F w hX.1.1 f106 rfl dX7_set_11 ?_
    refine lv_iload_n F.1 F.2.1 dX7_set_14 rfl (lv_at hl 1 rfl) ?_
    refine r_tald F w hX.1.2 (by omega) (by decide) dX7_set_15 ?_
    refine r_clt (tgt := 28) F dX7_set_16 (by decide) (by omega) (by omega) (fun c16 => ?_) (fun c16 => ?_)
    · exact absurd c16 (by omega)
    · skip
      refine lv_iload_n F.1 F.2.1 dX7_set_19 rfl (lv_at hl 2 rfl) ?_
      refine r_gets F w hX.2.1.1 f109 rfl dX7_set_20 ?_
      refine lv_iload_n F.1 F.2.1 dX7_set_23 rfl (lv_at hl 1 rfl) ?_
      refine r_tald F w hX.2.1.2 (by omega) (by decide) dX7_set_24 ?_
      refine r_cle (tgt := 30) F dX7_set_25 (by decide) (by omega) (by omega) (fun c25 => ?_) (fun c25 => ?_)
      · skip
        refine lv_aload_n F.1 F.2.1 dX7_set_30 rfl (lv_at hl 0 rfl) ?_
        refine r_get F w 19 0 iX7 f10 rfl rfl rfl (by decide) rfl dX7_set_31 ?_
        refine r_get F w 0 3 iX3 f112 rfl rfl rfl (by decide) rfl dX7_set_34 ?_
        refine lv_iload_n F.1 F.2.1 dX7_set_37 rfl (lv_at hl 1 rfl) ?_
        refine r_iald F w 1 rfl (by omega) (by decide) dX7_set_38 ?_
        refine lv_istore_n (lv' := [(3, .int (nI (P w0))), (0, .ref (ma 0)), (1, .int (nI w0)), (2, .int (nI x1))]) F.1 F.2.1 dX7_set_39 rfl hl (by decide) rfl (fun ls hl => ?_)
        refine lv_aload_n F.1 F.2.1 dX7_set_40 rfl (lv_at hl 1 rfl) ?_
        refine r_get F w 19 2 iX7 f22 rfl rfl rfl (by decide) rfl dX7_set_41 ?_
        refine lv_aload_n F.1 F.2.1 dX7_set_44 rfl (lv_at hl 1 rfl) ?_
        refine r_get F w 19 0 iX7 f10 rfl rfl rfl (by decide) rfl dX7_set_45 ?_
        have w := w.perm (ws' := histH G hb hs old (fun k => some (((ha k) 0) 0)) ++ (plateW G (ha 0) (hpg 0) (hlw 0) ++ (plateW G (ha 1) (hpg 1) (hlw 1) ++ (plateW G (ha 2) (hpg 2) (hlw 2) ++ (plateW G (ha 3) (hpg 3) (hlw 3) ++ (plateW G (ha 4) (hpg 4) (hlw 4) ++ (plateW G pn P lo ++ (mainW G ma ((pn 0) 0) ((pt 0) 0) (hb 0) (xa 0) (ra 0))))))))) (((List.Perm.append_left _ (List.perm_append_comm_assoc _ _ _)).trans (List.perm_append_comm_assoc _ _ _)).trans (List.Perm.append_left _ (((List.Perm.append_left _ (List.perm_append_comm_assoc _ _ _)).trans (List.perm_append_comm_assoc _ _ _)).trans (List.Perm.append_left _ (((List.Perm.append_left _ (List.perm_append_comm_assoc _ _ _)).trans (List.perm_append_comm_assoc _ _ _)).trans (List.Perm.append_left _ (((List.Perm.append_left _ (List.perm_append_comm_assoc _ _ _)).trans (List.perm_append_comm_assoc _ _ _)).trans (List.Perm.append_left _ (((List.Perm.append_left _ (List.perm_append_comm_assoc _ _ _)).trans (List.perm_append_comm_assoc _ _ _)).trans (List.Perm.append_left _ ((List.Perm.append_left _ List.perm_append_comm).trans (List.perm_append_comm_assoc _ _ _))))))))))))
        refine b_callVV (rest := []) (wr := mainW G ma ((pn 0) 0) ((pt 0) 0) (hb 0) (xa 0) (ra 0)) F w (c_X1_keep l G hb ha hpg hlw hs old pn P lo h5 ho) ((congrArg (HAppend.hAppend _) ((congrArg (HAppend.hAppend _) ((congrArg (HAppend.hAppend _) ((congrArg (HAppend.hAppend _) ((congrArg (HAppend.hAppend _) (List.append_assoc _ _ _).symm).trans (List.append_assoc _ _ _).symm)).trans (List.append_assoc _ _ _).symm)).trans (List.append_assoc _ _ _).symm)).trans (List.append_assoc _ _ _).symm)).trans (List.append_assoc _ _ _).symm) gX7_set_X1_keep (nA0 := 1) rfl (by decide +kernel) rfl ⟨Nat.le_of_ble_eq_true rfl, Nat.le_of_ble_eq_true rfl⟩ ⟨Nat.le_of_ble_eq_true rfl, Nat.le_of_ble_eq_true rfl⟩ rfl rfl hl rfl (Nat.le_of_ble_eq_true rfl) dX7_set_48 (fun w1 H locs hp w => ?_)
        obtain rfl := hp
        have w := w.is (ws' := histH G hb (sizeN hs) (oldN hs old) (fun k => some (((ha k) 0) 0)) ++ (plateW G (ha 0) ((va_up hpg (slotN hs old) P) 0) ((va_up hlw (slotN hs old) lo) 0) ++ (plateW G (ha 1) ((va_up hpg (slotN hs old) P) 1) ((va_up hlw (slotN hs old) lo) 1) ++ (plateW G (ha 2) ((va_up hpg (slotN hs old) P) 2) ((va_up hlw (slotN hs old) lo) 2) ++ (plateW G (ha 3) ((va_up hpg (slotN hs old) P) 3) ((va_up hlw (slotN hs old) lo) 3) ++ (plateW G (ha 4) ((va_up hpg (slotN hs old) P) 4) ((va_up hlw (slotN hs old) lo) 4) ++ (plateW G pn P lo ++ (mainW G ma ((pn 0) 0) ((pt 0) 0) (hb 0) (xa 0) (ra 0))))))))) ((congrArg (HAppend.hAppend _) ((congrArg (HAppend.hAppend _) ((congrArg (HAppend.hAppend _) ((congrArg (HAppend.hAppend _) ((congrArg (HAppend.hAppend _) (List.append_assoc _ _ _).symm).trans (List.append_assoc _ _ _).symm)).trans (List.append_assoc _ _ _).symm)).trans (List.append_assoc _ _ _).symm)).trans (List.append_assoc _ _ _).symm)).trans (List.append_assoc _ _ _).symm).symm
        have w := w.perm (ws' := plateW G pn P lo ++ (mainW G ma ((pn 0) 0) ((pt 0) 0) (hb 0) (xa 0) (ra 0) ++ (histH G hb (sizeN hs) (oldN hs old) (fun k => some (((ha k) 0) 0)) ++ (plateW G (ha 0) ((va_up hpg (slotN hs old) P) 0) ((va_up hlw (slotN hs old) lo) 0) ++ (plateW G (ha 1) ((va_up hpg (slotN hs old) P) 1) ((va_up hlw (slotN hs old) lo) 1) ++ (plateW G (ha 2) ((va_up hpg (slotN hs old) P) 2) ((va_up hlw (slotN hs old) lo) 2) ++ (plateW G (ha 3) ((va_up hpg (slotN hs old) P) 3) ((va_up hlw (slotN hs old) lo) 3) ++ (plateW G (ha 4) ((va_up hpg (slotN hs old) P) 4) ((va_up hlw (slotN hs old) lo) 4))))))))) (((List.Perm.append_left _ ((List.Perm.append_left _ ((List.Perm.append_left _ ((List.Perm.append_left _ ((List.Perm.append_left _ (List.perm_append_comm_assoc _ _ _)).trans (List.perm_append_comm_assoc _ _ _))).trans (List.perm_append_comm_assoc _ _ _))).trans (List.perm_append_comm_assoc _ _ _))).trans (List.perm_append_comm_assoc _ _ _))).trans (List.perm_append_comm_assoc _ _ _)).trans (List.Perm.append_left _ ((List.Perm.append_left _ ((List.Perm.append_left _ ((List.Perm.append_left _ ((List.Perm.append_left _ ((List.Perm.append_left _ List.perm_append_comm).trans (List.perm_append_comm_assoc _ _ _))).trans (List.perm_append_comm_assoc _ _ _))).trans (List.perm_append_comm_assoc _ _ _))).trans (List.perm_append_comm_assoc _ _ _))).trans (List.perm_append_comm_assoc _ _ _))))
        have w := w.is (ws' := plH G (pn 0) (pn 1) (pn 2) (pn 3) (fun k => P k) (fun k => P (19 + k)) (P 9) (P 10) (P 11) (P 12) (P 13) (toldF P) (watF P) (P 16) (P 17) (P 18) ++ (coreW G (pn 1) (P 8) (top P) (kdP P) (lnP P) (dnP P) (moP P) lo ++ (linesW G (pn 2) (fun k => P (26 + 5 * k)) (fun k => P (26 + 5 * k + 1)) (fun k => P (26 + 5 * k + 2)) (fun k => P (26 + 5 * k + 3)) (fun k => P (26 + 5 * k + 4)) ++ (vialsW G (pn 3) (P 14) (P 15) (fun k => P (126 + 3 * k)) (fun k => P (126 + 3 * k + 1)) (fun k => P (126 + 3 * k + 2)) ++ (mainW G ma ((pn 0) 0) ((pt 0) 0) (hb 0) (xa 0) (ra 0) ++ (histH G hb (sizeN hs) (oldN hs old) (fun k => some (((ha k) 0) 0)) ++ (plateW G (ha 0) ((va_up hpg (slotN hs old) P) 0) ((va_up hlw (slotN hs old) lo) 0) ++ (plateW G (ha 1) ((va_up hpg (slotN hs old) P) 1) ((va_up hlw (slotN hs old) lo) 1) ++ (plateW G (ha 2) ((va_up hpg (slotN hs old) P) 2) ((va_up hlw (slotN hs old) lo) 2) ++ (plateW G (ha 3) ((va_up hpg (slotN hs old) P) 3) ((va_up hlw (slotN hs old) lo) 3) ++ (plateW G (ha 4) ((va_up hpg (slotN hs old) P) 4) ((va_up hlw (slotN hs old) lo) 4)))))))))))) (plate_app)
        refine lv_aload_n F.1 F.2.1 dX7_set_51 rfl (lv_at hl 1 rfl) ?_
        refine r_get F w 19 0 iX7 f10 rfl rfl rfl (by decide) rfl dX7_set_52 ?_
        refine r_get F w 0 3 iX3 f112 rfl rfl rfl (by decide) rfl dX7_set_55 ?_
        refine lv_iload_n F.1 F.2.1 dX7_set_58 rfl (lv_at hl 2 rfl) ?_
        refine lv_iload_n F.1 F.2.1 dX7_set_59 rfl (lv_at hl 3 rfl) ?_
        refine r_iast (ws' := plH G (pn 0) (pn 1) (pn 2) (pn 3) (up (fun k => P k) w0 x1) (fun k => P (19 + k)) (P 9) (P 10) (P 11) (P 12) (P 13) (toldF P) (watF P) (P 16) (P 17) (P 18) ++ (coreW G (pn 1) (P 8) (top P) (kdP P) (lnP P) (dnP P) (moP P) lo ++ (linesW G (pn 2) (fun k => P (26 + 5 * k)) (fun k => P (26 + 5 * k + 1)) (fun k => P (26 + 5 * k + 2)) (fun k => P (26 + 5 * k + 3)) (fun k => P (26 + 5 * k + 4)) ++ (vialsW G (pn 3) (P 14) (P 15) (fun k => P (126 + 3 * k)) (fun k => P (126 + 3 * k + 1)) (fun k => P (126 + 3 * k + 2)) ++ (mainW G ma ((pn 0) 0) ((pt 0) 0) (hb 0) (xa 0) (ra 0) ++ (histH G hb (sizeN hs) (oldN hs old) (fun k => some (((ha k) 0) 0)) ++ (plateW G (ha 0) ((va_up hpg (slotN hs old) P) 0) ((va_up hlw (slotN hs old) lo) 0) ++ (plateW G (ha 1) ((va_up hpg (slotN hs old) P) 1) ((va_up hlw (slotN hs old) lo) 1) ++ (plateW G (ha 2) ((va_up hpg (slotN hs old) P) 2) ((va_up hlw (slotN hs old) lo) 2) ++ (plateW G (ha 3) ((va_up hpg (slotN hs old) P) 3) ((va_up hlw (slotN hs old) lo) 3) ++ (plateW G (ha 4) ((va_up hpg (slotN hs old) P) 4) ((va_up hlw (slotN hs old) lo) 4)))))))))))) F w 1 rfl (by omega) (by decide) dX7_set_60 rfl (fun H locs w => ?_)
        have w := w.eq (ws' := plH G (pn 0) (pn 1) (pn 2) (pn 3) (fun k => (up P w0 x1) k) (fun k => (up P w0 x1) (19 + k)) ((up P w0 x1) 9) ((up P w0 x1) 10) ((up P w0 x1) 11) ((up P w0 x1) 12) ((up P w0 x1) 13) (toldF (up P w0 x1)) (watF (up P w0 x1)) ((up P w0 x1) 16) ((up P w0 x1) 17) ((up P w0 x1) 18) ++ (coreW G (pn 1) ((up P w0 x1) 8) (top (up P w0 x1)) (kdP (up P w0 x1)) (lnP (up P w0 x1)) (dnP (up P w0 x1)) (moP (up P w0 x1)) lo ++ (linesW G (pn 2) (fun k => (up P w0 x1) (26 + 5 * k)) (fun k => (up P w0 x1) (26 + 5 * k + 1)) (fun k => (up P w0 x1) (26 + 5 * k + 2)) (fun k => (up P w0 x1) (26 + 5 * k + 3)) (fun k => (up P w0 x1) (26 + 5 * k + 4)) ++ (vialsW G (pn 3) ((up P w0 x1) 14) ((up P w0 x1) 15) (fun k => (up P w0 x1) (126 + 3 * k)) (fun k => (up P w0 x1) (126 + 3 * k + 1)) (fun k => (up P w0 x1) (126 + 3 * k + 2)) ++ (mainW G ma ((pn 0) 0) ((pt 0) 0) (hb 0) (xa 0) (ra 0) ++ (histH G hb (sizeN hs) (oldN hs old) (fun k => some (((ha k) 0) 0)) ++ (plateW G (ha 0) ((va_up hpg (slotN hs old) P) 0) ((va_up hlw (slotN hs old) lo) 0) ++ (plateW G (ha 1) ((va_up hpg (slotN hs old) P) 1) ((va_up hlw (slotN hs old) lo) 1) ++ (plateW G (ha 2) ((va_up hpg (slotN hs old) P) 2) ((va_up hlw (slotN hs old) lo) 2) ++ (plateW G (ha 3) ((va_up hpg (slotN hs old) P) 3) ((va_up hlw (slotN hs old) lo) 3) ++ (plateW G (ha 4) ((va_up hpg (slotN hs old) P) 4) ((va_up hlw (slotN hs old) lo) 4)))))))))))) (eqW.app (plH_eq (up_n _ _ (by omega)).symm (up_n _ _ (by omega)).symm (up_n _ _ (by omega)).symm (up_n _ _ (by omega)).symm (up_n _ _ (by omega)).symm (set_told h8 hw).symm (set_watF h8 hw).symm (up_n _ _ (by omega)).symm (up_n _ _ (by omega)).symm (up_n _ _ (by omega)).symm (fun j hj => rfl) (fun j hj => (up_n _ _ (by omega)).symm)) (eqW.app (coreW_eq (up_n _ _ (by omega)).symm (set_top hw).symm (fun j hj => (up_n P x1 (show 46 + 4 * j ≠ w0 by omega)).symm) (fun j hj => (up_n P x1 (show 46 + 4 * j + 1 ≠ w0 by omega)).symm) (fun j hj => (up_n P x1 (show 46 + 4 * j + 2 ≠ w0 by omega)).symm) (fun j hj => (up_n P x1 (show 46 + 4 * j + 3 ≠ w0 by omega)).symm) (fun _ _ => rfl)) (eqW.app (linesW_eq (fun j hj => (up_n _ _ (by omega)).symm) (fun j hj => (up_n _ _ (by omega)).symm) (fun j hj => (up_n _ _ (by omega)).symm) (fun j hj => (up_n _ _ (by omega)).symm) (fun j hj => (up_n _ _ (by omega)).symm)) (eqW.app (vialsW_eq (up_n _ _ (by omega)).symm (up_n _ _ (by omega)).symm (fun j hj => (up_n _ _ (by omega)).symm) (fun j hj => (up_n _ _ (by omega)).symm) (fun j hj => (up_n _ _ (by omega)).symm)) (eqW.rf _)))))
        have w := w.is (ws' := plateW G pn (up P w0 x1) lo ++ (mainW G ma ((pn 0) 0) ((pt 0) 0) (hb 0) (xa 0) (ra 0) ++ (histH G hb (sizeN hs) (oldN hs old) (fun k => some (((ha k) 0) 0)) ++ (plateW G (ha 0) ((va_up hpg (slotN hs old) P) 0) ((va_up hlw (slotN hs old) lo) 0) ++ (plateW G (ha 1) ((va_up hpg (slotN hs old) P) 1) ((va_up hlw (slotN hs old) lo) 1) ++ (plateW G (ha 2) ((va_up hpg (slotN hs old) P) 2) ((va_up hlw (slotN hs old) lo) 2) ++ (plateW G (ha 3) ((va_up hpg (slotN hs old) P) 3) ((va_up hlw (slotN hs old) lo) 3) ++ (plateW G (ha 4) ((va_up hpg (slotN hs old) P) 4) ((va_up hlw (slotN hs old) lo) 4))))))))) (plate_app.symm)
        refine lv_iload_n F.1 F.2.1 dX7_set_61 rfl (lv_at hl 0 rfl) ?_
        exact r_ireturn F w dX7_set_62 (⟨rfl, rfl⟩)
      · exact absurd c25 (by omega)

