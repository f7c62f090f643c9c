set_option maxRecDepth 100000 in
set_option maxHeartbeats 4000000 in
theorem c_X7_renew (l : Launch) (G : KG) (ma hb xa ra : Nat → Nat) (pn pt : Nat → Nat → Nat) (P lo : Nat → Nat) (ha : Nat → Nat → Nat → Nat) (hpg hlw : Nat → Nat → Nat) (hs old : Nat) (hI : Inv P) (hlk : LoOk P lo) (h5 : hs ≤ 5) (ho : old < 5) : MetI l yX7_renew wsX7_renew 4 G (plateW G pn P lo ++ (mainW G ma ((pn 0) 0) ((pt 0) 0) (hb 0) (xa 0) (ra 0) ++ (histH G hb hs old (fun k => some (((ha k) 0) 0)) ++ (plateW G (ha 0) (hpg 0) (hlw 0) ++ (plateW G (ha 1) (hpg 1) (hlw 1) ++ (plateW G (ha 2) (hpg 2) (hlw 2) ++ (plateW G (ha 3) (hpg 3) (hlw 3) ++ (plateW G (ha 4) (hpg 4) (hlw 4))))))))) [.ref (ma 0)] (fun r v => r = nI (P 9) ∧ v = plateW G pn (newF P) lo ++ (mainW G ma ((pn 0) 0) ((pt 0) 0) (hb 0) (xa 0) (ra 0) ++ (histH G hb (sizeN hs) (oldN hs old) (fun k => some (((ha k) 0) 0)) ++ (plateW G (ha 0) ((va_up hpg (slotN hs old) P) 0) ((va_up hlw (slotN hs old) lo) 0) ++ (plateW G (ha 1) ((va_up hpg (slotN hs old) P) 1) ((va_up hlw (slotN hs old) lo) 1) ++ (plateW G (ha 2) ((va_up hpg (slotN hs old) P) 2) ((va_up hlw (slotN hs old) lo) 2) ++ (plateW G (ha 3) ((va_up hpg (slotN hs old) P) 3) ((va_up hlw (slotN hs old) lo) 3) ++ (plateW G (ha 4) ((va_up hpg (slotN hs old) P) 4) ((va_up hlw (slotN hs old) lo) 4))))))))) := by
  refine MetI.by (cc := cX7_renew) (nL := 2) (ret := some .int) (by decide +kernel) rfl (Nat.le_of_ble_eq_true rfl) ?_
  intro p e s m args below meth c F w ls hl
  have hl : lv_has ls 2 [(0, .ref (ma 0))] := hl
  have hts := F.ts
  have iX3 : ∀ w ∈ wsX30, w ∈ wsX7_renew := by decide +kernel
  have iX7 : ∀ w ∈ wsX70, w ∈ wsX7_renew := by decide +kernel
  have f10 := hts (.fieldLink RX7 10 "CoreMelter" "now" "LCoreMelter$Plate;") (by decide +kernel)
  have f22 := hts (.fieldLink RX7 22 "CoreMelter" "history" "LCoreMelter$History;") (by decide +kernel)
  have f82 := hts (.fieldLink RX7 82 "CoreMelter$Plate" "front" "I") (by decide +kernel)
  have hD := hI.d
  obtain ⟨b9, b11, b20, b12, b13, b25, b23⟩ := hD.bnd
  have h8 := hD.1.1
  have ht := hD.1.top_le
  have h16 := hI.2.2.2.2.2.2.1
  refine lv_aload_n F.1 F.2.1 dX7_renew_0 rfl (lv_at hl 0 rfl) ?_
  refine r_get F w 19 0 iX7 f10 rfl rfl rfl (by decide) rfl dX7_renew_1 ?_
  refine r_get F w 0 5 iX3 f82 rfl rfl rfl (by decide) rfl dX7_renew_4 ?_
  refine lv_istore_n (lv' := [(1, .int (nI (P 9))), (0, .ref (ma 0))]) F.1 F.2.1 dX7_renew_7 rfl hl (by decide) rfl (fun ls hl => ?_)
  refine lv_aload_n F.1 F.2.1 dX7_renew_8 rfl (lv_at hl 1 rfl) ?_
  refine r_get F w 19 2 iX7 f22 rfl rfl rfl (by decide) rfl dX7_renew_9 ?_
  refine lv_aload_n F.1 F.2.1 dX7_renew_12 rfl (lv_at hl 1 rfl) ?_
  refine r_get F w 19 0 iX7 f10 rfl rfl rfl (by decide) rfl dX7_renew_13 ?_
  have w := w.perm (ws' := histH G hb hs old (fun k => some (((ha k) 0) 0)) ++ (plateW G (ha 0) (hpg 0) (hlw 0) ++ (plateW G (ha 1) (hpg 1) (hlw 1) ++ (plateW G (ha 2) (hpg 2) (hlw 2) ++ (plateW G (ha 3) (hpg 3) (hlw 3) ++ (plateW G (ha 4) (hpg 4) (hlw 4) ++ (plateW G pn P lo ++ (mainW G ma ((pn 0) 0) ((pt 0) 0) (hb 0) (xa 0) (ra 0))))))))) (((List.Perm.append_left _ (List.perm_append_comm_assoc _ _ _)).trans (List.perm_append_comm_assoc _ _ _)).trans (List.Perm.append_left _ (((List.Perm.append_left _ (List.perm_append_comm_assoc _ _ _)).trans (List.perm_append_comm_assoc _ _ _)).trans (List.Perm.append_left _ (((List.Perm.append_left _ (List.perm_append_comm_assoc _ _ _)).trans (List.perm_append_comm_assoc _ _ _)).trans (List.Perm.append_left _ (((List.Perm.append_left _ (List.perm_append_comm_assoc _ _ _)).trans (List.perm_append_comm_assoc _ _ _)).trans (List.Perm.append_left _ (((List.Perm.append_left _ (List.perm_append_comm_assoc _ _ _)).trans (List.perm_append_comm_assoc _ _ _)).trans (List.Perm.append_left _ ((List.Perm.append_left _ List.perm_append_comm).trans (List.perm_append_comm_assoc _ _ _))))))))))))
  refine b_callVV (rest := []) (wr := mainW G ma ((pn 0) 0) ((pt 0) 0) (hb 0) (xa 0) (ra 0)) F w (c_X1_keep l G hb ha hpg hlw hs old pn P lo h5 ho) ((congrArg (HAppend.hAppend _) ((congrArg (HAppend.hAppend _) ((congrArg (HAppend.hAppend _) ((congrArg (HAppend.hAppend _) ((congrArg (HAppend.hAppend _) (List.append_assoc _ _ _).symm).trans (List.append_assoc _ _ _).symm)).trans (List.append_assoc _ _ _).symm)).trans (List.append_assoc _ _ _).symm)).trans (List.append_assoc _ _ _).symm)).trans (List.append_assoc _ _ _).symm) gX7_renew_X1_keep (nA0 := 1) rfl (by decide +kernel) rfl ⟨Nat.le_of_ble_eq_true rfl, Nat.le_of_ble_eq_true rfl⟩ ⟨Nat.le_of_ble_eq_true rfl, Nat.le_of_ble_eq_true rfl⟩ rfl rfl hl rfl (Nat.le_of_ble_eq_true rfl) dX7_renew_16 (fun w1 H locs hp w => ?_)
  obtain rfl := hp
  have w := w.is (ws' := histH G hb (sizeN hs) (oldN hs old) (fun k => some (((ha k) 0) 0)) ++ (plateW G (ha 0) ((va_up hpg (slotN hs old) P) 0) ((va_up hlw (slotN hs old) lo) 0) ++ (plateW G (ha 1) ((va_up hpg (slotN hs old) P) 1) ((va_up hlw (slotN hs old) lo) 1) ++ (plateW G (ha 2) ((va_up hpg (slotN hs old) P) 2) ((va_up hlw (slotN hs old) lo) 2) ++ (plateW G (ha 3) ((va_up hpg (slotN hs old) P) 3) ((va_up hlw (slotN hs old) lo) 3) ++ (plateW G (ha 4) ((va_up hpg (slotN hs old) P) 4) ((va_up hlw (slotN hs old) lo) 4) ++ (plateW G pn P lo ++ (mainW G ma ((pn 0) 0) ((pt 0) 0) (hb 0) (xa 0) (ra 0))))))))) ((congrArg (HAppend.hAppend _) ((congrArg (HAppend.hAppend _) ((congrArg (HAppend.hAppend _) ((congrArg (HAppend.hAppend _) ((congrArg (HAppend.hAppend _) (List.append_assoc _ _ _).symm).trans (List.append_assoc _ _ _).symm)).trans (List.append_assoc _ _ _).symm)).trans (List.append_assoc _ _ _).symm)).trans (List.append_assoc _ _ _).symm)).trans (List.append_assoc _ _ _).symm).symm
  have w := w.perm (ws' := plateW G pn P lo ++ (mainW G ma ((pn 0) 0) ((pt 0) 0) (hb 0) (xa 0) (ra 0) ++ (histH G hb (sizeN hs) (oldN hs old) (fun k => some (((ha k) 0) 0)) ++ (plateW G (ha 0) ((va_up hpg (slotN hs old) P) 0) ((va_up hlw (slotN hs old) lo) 0) ++ (plateW G (ha 1) ((va_up hpg (slotN hs old) P) 1) ((va_up hlw (slotN hs old) lo) 1) ++ (plateW G (ha 2) ((va_up hpg (slotN hs old) P) 2) ((va_up hlw (slotN hs old) lo) 2) ++ (plateW G (ha 3) ((va_up hpg (slotN hs old) P) 3) ((va_up hlw (slotN hs old) lo) 3) ++ (plateW G (ha 4) ((va_up hpg (slotN hs old) P) 4) ((va_up hlw (slotN hs old) lo) 4))))))))) (((List.Perm.append_left _ ((List.Perm.append_left _ ((List.Perm.append_left _ ((List.Perm.append_left _ ((List.Perm.append_left _ (List.perm_append_comm_assoc _ _ _)).trans (List.perm_append_comm_assoc _ _ _))).trans (List.perm_append_comm_assoc _ _ _))).trans (List.perm_append_comm_assoc _ _ _))).trans (List.perm_append_comm_assoc _ _ _))).trans (List.perm_append_comm_assoc _ _ _)).trans (List.Perm.append_left _ ((List.Perm.append_left _ ((List.Perm.append_left _ ((List.Perm.append_left _ ((List.Perm.append_left _ ((List.Perm.append_left _ List.perm_append_comm).trans (List.perm_append_comm_assoc _ _ _))).trans (List.perm_append_comm_assoc _ _ _))).trans (List.perm_append_comm_assoc _ _ _))).trans (List.perm_append_comm_assoc _ _ _))).trans (List.perm_append_comm_assoc _ _ _))))
  refine lv_aload_n F.1 F.2.1 dX7_renew_19 rfl (lv_at hl 1 rfl) ?_
  refine r_get F w 19 0 iX7 f10 rfl rfl rfl (by decide) rfl dX7_renew_20 ?_
  refine b_callVV (rest := []) (wr := mainW G ma ((pn 0) 0) ((pt 0) 0) (hb 0) (xa 0) (ra 0) ++ (histH G hb (sizeN hs) (oldN hs old) (fun k => some (((ha k) 0) 0)) ++ (plateW G (ha 0) ((va_up hpg (slotN hs old) P) 0) ((va_up hlw (slotN hs old) lo) 0) ++ (plateW G (ha 1) ((va_up hpg (slotN hs old) P) 1) ((va_up hlw (slotN hs old) lo) 1) ++ (plateW G (ha 2) ((va_up hpg (slotN hs old) P) 2) ((va_up hlw (slotN hs old) lo) 2) ++ (plateW G (ha 3) ((va_up hpg (slotN hs old) P) 3) ((va_up hlw (slotN hs old) lo) 3) ++ (plateW G (ha 4) ((va_up hpg (slotN hs old) P) 4) ((va_up hlw (slotN hs old) lo) 4)))))))) F w (c_X3_beginAnew l G pn P lo) rfl gX7_renew_X3_beginAnew (nA0 := 0) rfl (by decide +kernel) rfl ⟨Nat.le_of_ble_eq_true rfl, Nat.le_of_ble_eq_true rfl⟩ ⟨Nat.le_of_ble_eq_true rfl, Nat.le_of_ble_eq_true rfl⟩ rfl rfl hl rfl (Nat.le_of_ble_eq_true rfl) dX7_renew_23 (fun w1 H locs hp w => ?_)
  obtain rfl := hp
  refine lv_iload_n F.1 F.2.1 dX7_renew_26 rfl (lv_at hl 0 rfl) ?_
  exact r_ireturn F w dX7_renew_27 (⟨rfl, rfl⟩)
set_option maxRecDepth 100000 in
set_option maxHeartbeats 4000000 in
theorem c_X7_undoN (l : Launch) (G : KG) (ma hb xa ra : Nat → Nat) (pn pt : Nat → Nat → Nat) (P lo : Nat → Nat) (ha : Nat → Nat → Nat → Nat) (hpg hlw : Nat → Nat → Nat) (hs old : Nat) (hI : Inv P) (hlk : LoOk P lo) (h5 : hs ≤ 5) (ho : old < 5) (h0 : 0 < hs) : MetI l yX7_undo wsX7_undo 4 G (plateW G pn P lo ++ (mainW G ma ((pn 0) 0) ((pt 0) 0) (hb 0) (xa 0) (ra 0) ++ (histH G hb hs old (fun k => some (((ha k) 0) 0)) ++ (plateW G (ha 0) (hpg 0) (hlw 0) ++ (plateW G (ha 1) (hpg 1) (hlw 1) ++ (plateW G (ha 2) (hpg 2) (hlw 2) ++ (plateW G (ha 3) (hpg 3) (hlw 3) ++ (plateW G (ha 4) (hpg 4) (hlw 4))))))))) [.ref (ma 0)] (fun r v => r = nI (hs - 1) ∧ v = plateW G pn (hpg ((old + (hs - 1)) % 5)) (hlw ((old + (hs - 1)) % 5)) ++ (mainW G ma ((pn 0) 0) ((pt 0) 0) (hb 0) (xa 0) (ra 0) ++ (histH G hb (hs - 1) old (fun k => some (((ha k) 0) 0)) ++ (plateW G (ha 0) (hpg 0) (hlw 0) ++ (plateW G (ha 1) (hpg 1) (hlw 1) ++ (plateW G (ha 2) (hpg 2) (hlw 2) ++ (plateW G (ha 3) (hpg 3) (hlw 3) ++ (plateW G (ha 4) (hpg 4) (hlw 4))))))))) := by
  refine MetI.by (cc := cX7_undo) (nL := 1) (ret := some .int) (by decide +kernel) rfl (Nat.le_of_ble_eq_true rfl) ?_
  intro p e s m args below meth c F w ls hl
  have hl : lv_has ls 1 [(0, .ref (ma 0))] := hl
  have hts := F.ts
  have iX1 : ∀ w ∈ wsX10, w ∈ wsX7_undo := by decide +kernel
  have iX7 : ∀ w ∈ wsX70, w ∈ wsX7_undo := by decide +kernel
  have f10 := hts (.fieldLink RX7 10 "CoreMelter" "now" "LCoreMelter$Plate;") (by decide +kernel)
  have f22 := hts (.fieldLink RX7 22 "CoreMelter" "history" "LCoreMelter$History;") (by decide +kernel)
  have f102 := hts (.fieldLink RX7 102 "CoreMelter$History" "size" "I") (by decide +kernel)
  have hD := hI.d
  obtain ⟨b9, b11, b20, b12, b13, b25, b23⟩ := hD.bnd
  have h8 := hD.1.1
  have ht := hD.1.top_le
  have h16 := hI.2.2.2.2.2.2.1
  refine lv_aload_n F.1 F.2.1 dX7_undo_0 rfl (lv_at hl 0 rfl) ?_
  refine r_get F w 19 2 iX7 f22 rfl rfl rfl (by decide) rfl dX7_undo_1 ?_
  refine r_get F w 20 0 iX1 f102 rfl rfl rfl (by decide) rfl dX7_undo_4 ?_
  refine r_zgt (tgt := 13) F dX7_undo_7 (by decide) (by omega) (fun c7 => ?_) (fun c7 => ?_)
  · skip
    refine lv_aload_n F.1 F.2.1 dX7_undo_13 rfl (lv_at hl 0 rfl) ?_
    refine r_get F w 19 2 iX7 f22 rfl rfl rfl (by decide) rfl dX7_undo_14 ?_
    refine lv_aload_n F.1 F.2.1 dX7_undo_17 rfl (lv_at hl 0 rfl) ?_
    refine r_get F w 19 0 iX7 f10 rfl rfl rfl (by decide) rfl dX7_undo_18 ?_
    have w := w.perm (ws' := histH G hb hs old (fun k => some (((ha k) 0) 0)) ++ (plateW G (ha 0) (hpg 0) (hlw 0) ++ (plateW G (ha 1) (hpg 1) (hlw 1) ++ (plateW G (ha 2) (hpg 2) (hlw 2) ++ (plateW G (ha 3) (hpg 3) (hlw 3) ++ (plateW G (ha 4) (hpg 4) (hlw 4) ++ (plateW G pn P lo ++ (mainW G ma ((pn 0) 0) ((pt 0) 0) (hb 0) (xa 0) (ra 0))))))))) (((List.Perm.append_left _ (List.perm_append_comm_assoc _ _ _)).trans (List.perm_append_comm_assoc _ _ _)).trans (List.Perm.append_left _ (((List.Perm.append_left _ (List.perm_append_comm_assoc _ _ _)).trans (List.perm_append_comm_assoc _ _ _)).trans (List.Perm.append_left _ (((List.Perm.append_left _ (List.perm_append_comm_assoc _ _ _)).trans (List.perm_append_comm_assoc _ _ _)).trans (List.Perm.append_left _ (((List.Perm.append_left _ (List.perm_append_comm_assoc _ _ _)).trans (List.perm_append_comm_assoc _ _ _)).trans (List.Perm.append_left _ (((List.Perm.append_left _ (List.perm_append_comm_assoc _ _ _)).trans (List.perm_append_comm_assoc _ _ _)).trans (List.Perm.append_left _ ((List.Perm.append_left _ List.perm_append_comm).trans (List.perm_append_comm_assoc _ _ _))))))))))))
    refine b_callVV (rest := []) (wr := mainW G ma ((pn 0) 0) ((pt 0) 0) (hb 0) (xa 0) (ra 0)) F w (c_X1_giveBack l G hb ha hpg hlw hs old pn P lo (by omega) h5 ho) ((congrArg (HAppend.hAppend _) ((congrArg (HAppend.hAppend _) ((congrArg (HAppend.hAppend _) ((congrArg (HAppend.hAppend _) ((congrArg (HAppend.hAppend _) (List.append_assoc _ _ _).symm).trans (List.append_assoc _ _ _).symm)).trans (List.append_assoc _ _ _).symm)).trans (List.append_assoc _ _ _).symm)).trans (List.append_assoc _ _ _).symm)).trans (List.append_assoc _ _ _).symm) gX7_undo_X1_giveBack (nA0 := 1) rfl (by decide +kernel) rfl ⟨Nat.le_of_ble_eq_true rfl, Nat.le_of_ble_eq_true rfl⟩ ⟨Nat.le_of_ble_eq_true rfl, Nat.le_of_ble_eq_true rfl⟩ rfl rfl hl rfl (Nat.le_of_ble_eq_true rfl) dX7_undo_21 (fun w1 H locs hp w => ?_)
    obtain rfl := hp
    have w := w.is (ws' := histH G hb (hs - 1) old (fun k => some (((ha k) 0) 0)) ++ (plateW G (ha 0) (hpg 0) (hlw 0) ++ (plateW G (ha 1) (hpg 1) (hlw 1) ++ (plateW G (ha 2) (hpg 2) (hlw 2) ++ (plateW G (ha 3) (hpg 3) (hlw 3) ++ (plateW G (ha 4) (hpg 4) (hlw 4) ++ (plateW G pn (hpg ((old + (hs - 1)) % 5)) (hlw ((old + (hs - 1)) % 5)) ++ (mainW G ma ((pn 0) 0) ((pt 0) 0) (hb 0) (xa 0) (ra 0))))))))) ((congrArg (HAppend.hAppend _) ((congrArg (HAppend.hAppend _) ((congrArg (HAppend.hAppend _) ((congrArg (HAppend.hAppend _) ((congrArg (HAppend.hAppend _) (List.append_assoc _ _ _).symm).trans (List.append_assoc _ _ _).symm)).trans (List.append_assoc _ _ _).symm)).trans (List.append_assoc _ _ _).symm)).trans (List.append_assoc _ _ _).symm)).trans (List.append_assoc _ _ _).symm).symm
    have w := w.perm (ws' := plateW G pn (hpg ((old + (hs - 1)) % 5)) (hlw ((old + (hs - 1)) % 5)) ++ (mainW G ma ((pn 0) 0) ((pt 0) 0) (hb 0) (xa 0) (ra 0) ++ (histH G hb (hs - 1) old (fun k => some (((ha k) 0) 0)) ++ (plateW G (ha 0) (hpg 0) (hlw 0) ++ (plateW G (ha 1) (hpg 1) (hlw 1) ++ (plateW G (ha 2) (hpg 2) (hlw 2) ++ (plateW G (ha 3) (hpg 3) (hlw 3) ++ (plateW G (ha 4) (hpg 4) (hlw 4))))))))) (((List.Perm.append_left _ ((List.Perm.append_left _ ((List.Perm.append_left _ ((List.Perm.append_left _ ((List.Perm.append_left _ (List.perm_append_comm_assoc _ _ _)).trans (List.perm_append_comm_assoc _ _ _))).trans (List.perm_append_comm_assoc _ _ _))).trans (List.perm_append_comm_assoc _ _ _))).trans (List.perm_append_comm_assoc _ _ _))).trans (List.perm_append_comm_assoc _ _ _)).trans (List.Perm.append_left _ ((List.Perm.append_left _ ((List.Perm.append_left _ ((List.Perm.append_left _ ((List.Perm.append_left _ ((List.Perm.append_left _ List.perm_append_comm).trans (List.perm_append_comm_assoc _ _ _))).trans (List.perm_append_comm_assoc _ _ _))).trans (List.perm_append_comm_assoc _ _ _))).trans (List.perm_append_comm_assoc _ _ _))).trans (List.perm_append_comm_assoc _ _ _))))
    refine lv_aload_n F.1 F.2.1 dX7_undo_24 rfl (lv_at hl 0 rfl) ?_
    refine r_get F w 19 2 iX7 f22 rfl rfl rfl (by decide) rfl dX7_undo_25 ?_
    refine r_get F w 20 0 iX1 f102 rfl rfl rfl (by decide) rfl dX7_undo_28 ?_
    exact r_ireturn F w dX7_undo_31 (⟨rfl, rfl⟩)
  · exact absurd c7 (by omega)
set_option maxRecDepth 100000 in
set_option maxHeartbeats 4000000 in
theorem c_X7_undoM (l : Launch) (G : KG) (ma hb xa ra : Nat → Nat) (pn pt : Nat → Nat → Nat) (P lo : Nat → Nat) (ha : Nat → Nat → Nat → Nat) (hpg hlw : Nat → Nat → Nat) (hs old : Nat) (hI : Inv P) (hlk : LoOk P lo) (h5 : hs ≤ 5) (ho : old < 5) (h0 : hs = 0) : MetI l yX7_undo wsX7_undo 4 G (plateW G pn P lo ++ (mainW G ma ((pn 0) 0) ((pt 0) 0) (hb 0) (xa 0) (ra 0) ++ (histH G hb hs old (fun k => some (((ha k) 0) 0)) ++ (plateW G (ha 0) (hpg 0) (hlw 0) ++ (plateW G (ha 1) (hpg 1) (hlw 1) ++ (plateW G (ha 2) (hpg 2) (hlw 2) ++ (plateW G (ha 3) (hpg 3) (hlw 3) ++ (plateW G (ha 4) (hpg 4) (hlw 4))))))))) [.ref (ma 0)] (fun r v => r = -2 ∧ v = plateW G pn P lo ++ (mainW G ma ((pn 0) 0) ((pt 0) 0) (hb 0) (xa 0) (ra 0) ++ (histH G hb hs old (fun k => some (((ha k) 0) 0)) ++ (plateW G (ha 0) (hpg 0) (hlw 0) ++ (plateW G (ha 1) (hpg 1) (hlw 1) ++ (plateW G (ha 2) (hpg 2) (hlw 2) ++ (plateW G (ha 3) (hpg 3) (hlw 3) ++ (plateW G (ha 4) (hpg 4) (hlw 4))))))))) := by
  refine MetI.by (cc := cX7_undo) (nL := 1) (ret := some .int) (by decide +kernel) rfl (Nat.le_of_ble_eq_true rfl) ?_
  intro p e s m args below meth c F w ls hl
  have hl : lv_has ls 1 [(0, .ref (ma 0))] := hl
  have hts := F.ts
  have iX1 : ∀ w ∈ wsX10, w ∈ wsX7_undo := by decide +kernel
  have iX7 : ∀ w ∈ wsX70, w ∈ wsX7_undo := by decide +kernel
  have f22 := hts (.fieldLink RX7 22 "CoreMelter" "history" "LCoreMelter$History;") (by decide +kernel)
  have f102 := hts (.fieldLink RX7 102 "CoreMelter$History" "size" "I") (by decide +kernel)
  have hD := hI.d
  obtain ⟨b9, b11, b20, b12, b13, b25, b23⟩ := hD.bnd
  have h8 := hD.1.1
  have ht := hD.1.top_le
  have h16 := hI.2.2.2.2.2.2.1
  refine lv_aload_n F.1 F.2.1 dX7_undo_0 rfl (lv_at hl 0 rfl) ?_
  refine r_get F w 19 2 iX7 f22 rfl rfl rfl (by decide) rfl dX7_undo_1 ?_
  refine r_get F w 20 0 iX1 f102 rfl rfl rfl (by decide) rfl dX7_undo_4 ?_
  refine r_zgt (tgt := 13) F dX7_undo_7 (by decide) (by omega) (fun c7 => ?_) (fun c7 => ?_)
  · exact absurd h0 c7
  · skip
    refine lv_bipush (v := (-2)) F.1 F.2.1 dX7_undo_10 (by decide) ?_
    exact r_ireturn F w dX7_undo_12 (⟨rfl, rfl⟩)
set_option maxRecDepth 100000 in
set_option maxHeartbeats 4000000 in
theorem c_X7_cleanM (l : Launch) (G : KG) (ma hb xa ra : Nat → Nat) (pn pt : Nat → Nat → Nat) (P lo : Nat → Nat) (ha : Nat → Nat → Nat → Nat) (hpg hlw : Nat → Nat → Nat) (hs old : Nat) (hI : Inv P) (hlk : LoOk P lo) (h5 : hs ≤ 5) (ho : old < 5) (x : Int32) (hx : ¬ (nI 0 ≤ x ∧ x < nI 4)) : MetI l yX7_clean wsX7_clean 4 G (plateW G pn P lo ++ (mainW G ma ((pn 0) 0) ((pt 0) 0) (hb 0) (xa 0) (ra 0) ++ (histH G hb hs old (fun k => some (((ha k) 0) 0)) ++ (plateW G (ha 0) (hpg 0) (hlw 0) ++ (plateW G (ha 1) (hpg 1) (hlw 1) ++ (plateW G (ha 2) (hpg 2) (hlw 2) ++ (plateW G (ha 3) (hpg 3) (hlw 3) ++ (plateW G (ha 4) (hpg 4) (hlw 4))))))))) [.ref (ma 0), .int x] (fun r v => r = -1 ∧ v = plateW G pn P lo ++ (mainW G ma ((pn 0) 0) ((pt 0) 0) (hb 0) (xa 0) (ra 0) ++ (histH G hb hs old (fun k => some (((ha k) 0) 0)) ++ (plateW G (ha 0) (hpg 0) (hlw 0) ++ (plateW G (ha 1) (hpg 1) (hlw 1) ++ (plateW G (ha 2) (hpg 2) (hlw 2) ++ (plateW G (ha 3) (hpg 3) (hlw 3) ++ (plateW G (ha 4) (hpg 4) (hlw 4))))))))) := by
  refine MetI.by (cc := cX7_clean) (nL := 3) (ret := some .int) (by decide +kernel) rfl (Nat.le_of_ble_eq_true rfl) ?_
  intro p e s m args below meth c F w ls hl
  have hl : lv_has ls 3 [(0, .ref (ma 0)), (1, .int x)] := hl
  have hts := F.ts
  have hD := hI.d
  obtain ⟨b9, b11, b20, b12, b13, b25, b23⟩ := hD.bnd
  have h8 := hD.1.1
  have ht := hD.1.top_le
  have h16 := hI.2.2.2.2.2.2.1
  refine lv_iload_n F.1 F.2.1 dX7_clean_0 rfl (lv_at hl 1 rfl) ?_
  refine lv_if_lt (tgt := 9) F.1 F.2.1 dX7_clean_1 (by decide) (fun c1 => ?_) (fun c1 => ?_)
  · skip
    refine lv_iconst (v := (-1)) F.1 F.2.1 dX7_clean_9 (by decide) ?_
    exact r_ireturn F w dX7_clean_10 (⟨rfl, rfl⟩)
  · skip
    refine lv_iload_n F.1 F.2.1 dX7_clean_4 rfl (lv_at hl 1 rfl) ?_
    refine lv_iconst (v := nI 4) F.1 F.2.1 dX7_clean_5 (by decide) ?_
    refine lv_icmp_lt (tgt := 11) F.1 F.2.1 dX7_clean_6 (by decide) (fun c6 => ?_) (fun c6 => ?_)
    · exact absurd ⟨Int32.not_lt.mp c1, c6⟩ hx
    · skip
      refine lv_iconst (v := (-1)) F.1 F.2.1 dX7_clean_9 (by decide) ?_
      exact r_ireturn F w dX7_clean_10 (⟨rfl, rfl⟩)
set_option maxRecDepth 100000 in
set_option maxHeartbeats 4000000 in
theorem c_X7_cleanZ (l : Launch) (G : KG) (ma hb xa ra : Nat → Nat) (pn pt : Nat → Nat → Nat) (P lo : Nat → Nat) (ha : Nat → Nat → Nat → Nat) (hpg hlw : Nat → Nat → Nat) (hs old : Nat) (hI : Inv P) (hlk : LoOk P lo) (h5 : hs ≤ 5) (ho : old < 5) (i : Nat) (hi : i < 4) (hz : P (26 + 5 * i) = 0) : MetI l yX7_clean wsX7_clean 4 G (plateW G pn P lo ++ (mainW G ma ((pn 0) 0) ((pt 0) 0) (hb 0) (xa 0) (ra 0) ++ (histH G hb hs old (fun k => some (((ha k) 0) 0)) ++ (plateW G (ha 0) (hpg 0) (hlw 0) ++ (plateW G (ha 1) (hpg 1) (hlw 1) ++ (plateW G (ha 2) (hpg 2) (hlw 2) ++ (plateW G (ha 3) (hpg 3) (hlw 3) ++ (plateW G (ha 4) (hpg 4) (hlw 4))))))))) [.ref (ma 0), .int (nI i)] (fun r v => r = -2 ∧ v = plateW G pn P lo ++ (mainW G ma ((pn 0) 0) ((pt 0) 0) (hb 0) (xa 0) (ra 0) ++ (histH G hb hs old (fun k => some (((ha k) 0) 0)) ++ (plateW G (ha 0) (hpg 0) (hlw 0) ++ (plateW G (ha 1) (hpg 1) (hlw 1) ++ (plateW G (ha 2) (hpg 2) (hlw 2) ++ (plateW G (ha 3) (hpg 3) (hlw 3) ++ (plateW G (ha 4) (hpg 4) (hlw 4))))))))) := by
  refine MetI.by (cc := cX7_clean) (nL := 3) (ret := some .int) (by decide +kernel) rfl (Nat.le_of_ble_eq_true rfl) ?_
  intro p e s m args below meth c F w ls hl
  have hl : lv_has ls 3 [(0, .ref (ma 0)), (1, .int (nI i))] := hl
  have hts := F.ts
  have iX2 : ∀ w ∈ wsX20, w ∈ wsX7_clean := by decide +kernel
  have iX3 : ∀ w ∈ wsX30, w ∈ wsX7_clean := by decide +kernel
  have iX7 : ∀ w ∈ wsX70, w ∈ wsX7_clean := by decide +kernel
  have f10 := hts (.fieldLink RX7 10 "CoreMelter" "now" "LCoreMelter$Plate;") (by decide +kernel)
  have f117 := hts (.fieldLink RX7 117 "CoreMelter$Plate" "lines" "LCoreMelter$Lines;") (by decide +kernel)
  have f121 := hts (.fieldLink RX7 121 "CoreMelter$Lines" "stuck" "[I") (by decide +kernel)
  have hD := hI.d
  obtain ⟨b9, b11, b20, b12, b13, b25, b23⟩ := hD.bnd
  have h8 := hD.1.1
  have ht := hD.1.top_le
  have h16 := hI.2.2.2.2.2.2.1
  refine lv_iload_n F.1 F.2.1 dX7_clean_0 rfl (lv_at hl 1 rfl) ?_
  refine r_zlt (tgt := 9) F dX7_clean_1 (by decide) (by omega) ?_
  refine lv_iload_n F.1 F.2.1 dX7_clean_4 rfl (lv_at hl 1 rfl) ?_
  refine lv_iconst (v := nI 4) F.1 F.2.1 dX7_clean_5 (by decide) ?_
  refine r_clt (tgt := 11) F dX7_clean_6 (by decide) (by omega) (by omega) (fun c6 => ?_) (fun c6 => ?_)
  · skip
    refine lv_aload_n F.1 F.2.1 dX7_clean_11 rfl (lv_at hl 0 rfl) ?_
    refine r_get F w 19 0 iX7 f10 rfl rfl rfl (by decide) rfl dX7_clean_12 ?_
    refine r_get F w 0 1 iX3 f117 rfl rfl rfl (by decide) rfl dX7_clean_15 ?_
    refine r_get F w 9 0 iX2 f121 rfl rfl rfl (by decide) rfl dX7_clean_18 ?_
    refine lv_iload_n F.1 F.2.1 dX7_clean_21 rfl (lv_at hl 1 rfl) ?_
    refine r_iald F w 10 rfl (by omega) (by decide) dX7_clean_22 ?_
    refine r_zne (tgt := 29) F dX7_clean_23 (by decide) (by have := hI.2.2.2.2.1 i hi; omega) (fun c23 => ?_) (fun c23 => ?_)
    · exact absurd hz c23
    · skip
      refine lv_bipush (v := (-2)) F.1 F.2.1 dX7_clean_26 (by decide) ?_
      exact r_ireturn F w dX7_clean_28 (⟨rfl, rfl⟩)
  · exact absurd hi c6
set_option maxRecDepth 100000 in
set_option maxHeartbeats 4000000 in
theorem c_X7_cleanN (l : Launch) (G : KG) (ma hb xa ra : Nat → Nat) (pn pt : Nat → Nat → Nat) (P lo : Nat → Nat) (ha : Nat → Nat → Nat → Nat) (hpg hlw : Nat → Nat → Nat) (hs old : Nat) (hI : Inv P) (hlk : LoOk P lo) (h5 : hs ≤ 5) (ho : old < 5) (i : Nat) (hi : i < 4) (hz : ¬ P (26 + 5 * i) = 0) : MetI l yX7_clean wsX7_clean 4 G (plateW G pn P lo ++ (mainW G ma ((pn 0) 0) ((pt 0) 0) (hb 0) (xa 0) (ra 0) ++ (histH G hb hs old (fun k => some (((ha k) 0) 0)) ++ (plateW G (ha 0) (hpg 0) (hlw 0) ++ (plateW G (ha 1) (hpg 1) (hlw 1) ++ (plateW G (ha 2) (hpg 2) (hlw 2) ++ (plateW G (ha 3) (hpg 3) (hlw 3) ++ (plateW G (ha 4) (hpg 4) (hlw 4))))))))) [.ref (ma 0), .int (nI i)] (fun r v => r = nI (P (26 + 5 * i + 1)) ∧ v = plateW G pn (clnF P i) lo ++ (mainW G ma ((pn 0) 0) ((pt 0) 0) (hb 0) (xa 0) (ra 0) ++ (histH G hb (sizeN hs) (oldN hs old) (fun k => some (((ha k) 0) 0)) ++ (plateW G (ha 0) ((va_up hpg (slotN hs old) P) 0) ((va_up hlw (slotN hs old) lo) 0) ++ (plateW G (ha 1) ((va_up hpg (slotN hs old) P) 1) ((va_up hlw (slotN hs old) lo) 1) ++ (plateW G (ha 2) ((va_up hpg (slotN hs old) P) 2) ((va_up hlw (slotN hs old) lo) 2) ++ (plateW G (ha 3) ((va_up hpg (slotN hs old) P) 3) ((va_up hlw (slotN hs old) lo) 3) ++ (plateW G (ha 4) ((va_up hpg (slotN hs old) P) 4) ((va_up hlw (slotN hs old) lo) 4))))))))) := by
  refine MetI.by (cc := cX7_clean) (nL := 3) (ret := some .int) (by decide +kernel) rfl (Nat.le_of_ble_eq_true rfl) ?_
  intro p e s m args below meth c F w ls hl
  have hl : lv_has ls 3 [(0, .ref (ma 0)), (1, .int (nI i))] := hl
  have hts := F.ts
  have iX2 : ∀ w ∈ wsX20, w ∈ wsX7_clean := by decide +kernel
  have iX3 : ∀ w ∈ wsX30, w ∈ wsX7_clean := by decide +kernel
  have iX7 : ∀ w ∈ wsX70, w ∈ wsX7_clean := by decide +kernel
  have f10 := hts (.fieldLink RX7 10 "CoreMelter" "now" "LCoreMelter$Plate;") (by decide +kernel)
  have f22 := hts (.fieldLink RX7 22 "CoreMelter" "history" "LCoreMelter$History;") (by decide +kernel)
  have f117 := hts (.fieldLink RX7 117 "CoreMelter$Plate" "lines" "LCoreMelter$Lines;") (by decide +kernel)
  have f121 := hts (.fieldLink RX7 121 "CoreMelter$Lines" "stuck" "[I") (by decide +kernel)
  have f124 := hts (.fieldLink RX7 124 "CoreMelter$Lines" "dirt" "[I") (by decide +kernel)
  have hD := hI.d
  obtain ⟨b9, b11, b20, b12, b13, b25, b23⟩ := hD.bnd
  have h8 := hD.1.1
  have ht := hD.1.top_le
  have h16 := hI.2.2.2.2.2.2.1
  refine lv_iload_n F.1 F.2.1 dX7_clean_0 rfl (lv_at hl 1 rfl) ?_
  refine r_zlt (tgt := 9) F dX7_clean_1 (by decide) (by omega) ?_
  refine lv_iload_n F.1 F.2.1 dX7_clean_4 rfl (lv_at hl 1 rfl) ?_
  refine lv_iconst (v := nI 4) F.1 F.2.1 dX7_clean_5 (by decide) ?_
  refine r_clt (tgt := 11) F dX7_clean_6 (by decide) (by omega) (by omega) (fun c6 => ?_) (fun c6 => ?_)
  · skip
    refine lv_aload_n F.1 F.2.1 dX7_clean_11 rfl (lv_at hl 0 rfl) ?_
    refine r_get F w 19 0 iX7 f10 rfl rfl rfl (by decide) rfl dX7_clean_12 ?_
    refine r_get F w 0 1 iX3 f117 rfl rfl rfl (by decide) rfl dX7_clean_15 ?_
    refine r_get F w 9 0 iX2 f121 rfl rfl rfl (by decide) rfl dX7_clean_18 ?_
    refine lv_iload_n F.1 F.2.1 dX7_clean_21 rfl (lv_at hl 1 rfl) ?_
    refine r_iald F w 10 rfl (by omega) (by decide) dX7_clean_22 ?_
    refine r_zne (tgt := 29) F dX7_clean_23 (by decide) (by have := hI.2.2.2.2.1 i hi; omega) (fun c23 => ?_) (fun c23 => ?_)
    · skip
      refine lv_aload_n F.1 F.2.1 dX7_clean_29 rfl (lv_at hl 0 rfl) ?_
      refine r_get F w 19 0 iX7 f10 rfl rfl rfl (by decide) rfl dX7_clean_30 ?_
      refine r_get F w 0 1 iX3 f117 rfl rfl rfl (by decide) rfl dX7_clean_33 ?_
      refine r_get F w 9 1 iX2 f124 rfl rfl rfl (by decide) rfl dX7_clean_36 ?_
      refine lv_iload_n F.1 F.2.1 dX7_clean_39 rfl (lv_at hl 1 rfl) ?_
      refine r_iald F w 11 rfl (by omega) (by decide) dX7_clean_40 ?_
      refine lv_istore_n (lv' := [(2, .int (nI (P (26 + 5 * i + 1)))), (0, .ref (ma 0)), (1, .int (nI i))]) F.1 F.2.1 dX7_clean_41 rfl hl (by decide) rfl (fun ls hl => ?_)
      refine lv_aload_n F.1 F.2.1 dX7_clean_42 rfl (lv_at hl 1 rfl) ?_
      refine r_get F w 19 2 iX7 f22 rfl rfl rfl (by decide) rfl dX7_clean_43 ?_
      refine lv_aload_n F.1 F.2.1 dX7_clean_46 rfl (lv_at hl 1 rfl) ?_
      refine r_get F w 19 0 iX7 f10 rfl rfl rfl (by decide) rfl dX7_clean_47 ?_
      have w := w.perm (ws' := histH G hb hs old (fun k => some (((ha k) 0) 0)) ++ (plateW G (ha 0) (hpg 0) (hlw 0) ++ (plateW G (ha 1) (hpg 1) (hlw 1) ++ (plateW G (ha 2) (hpg 2) (hlw 2) ++ (plateW G (ha 3) (hpg 3) (hlw 3) ++ (plateW G (ha 4) (hpg 4) (hlw 4) ++ (plateW G pn P lo ++ (mainW G ma ((pn 0) 0) ((pt 0) 0) (hb 0) (xa 0) (ra 0))))))))) (((List.Perm.append_left _ (List.perm_append_comm_assoc _ _ _)).trans (List.perm_append_comm_assoc _ _ _)).trans (List.Perm.append_left _ (((List.Perm.append_left _ (List.perm_append_comm_assoc _ _ _)).trans (List.perm_append_comm_assoc _ _ _)).trans (List.Perm.append_left _ (((List.Perm.append_left _ (List.perm_append_comm_assoc _ _ _)).trans (List.perm_append_comm_assoc _ _ _)).trans (List.Perm.append_left _ (((List.Perm.append_left _ (List.perm_append_comm_assoc _ _ _)).trans (List.perm_append_comm_assoc _ _ _)).trans (List.Perm.append_left _ (((List.Perm.append_left _ (List.perm_append_comm_assoc _ _ _)).trans (List.perm_append_comm_assoc _ _ _)).trans (List.Perm.append_left _ ((List.Perm.append_left _ List.perm_append_comm).trans (List.perm_append_comm_assoc _ _ _))))))))))))
      refine b_callVV (rest := []) (wr := mainW G ma ((pn 0) 0) ((pt 0) 0) (hb 0) (xa 0) (ra 0)) F w (c_X1_keep l G hb ha hpg hlw hs old pn P lo h5 ho) ((congrArg (HAppend.hAppend _) ((congrArg (HAppend.hAppend _) ((congrArg (HAppend.hAppend _) ((congrArg (HAppend.hAppend _) ((congrArg (HAppend.hAppend _) (List.append_assoc _ _ _).symm).trans (List.append_assoc _ _ _).symm)).trans (List.append_assoc _ _ _).symm)).trans (List.append_assoc _ _ _).symm)).trans (List.append_assoc _ _ _).symm)).trans (List.append_assoc _ _ _).symm) gX7_clean_X1_keep (nA0 := 1) rfl (by decide +kernel) rfl ⟨Nat.le_of_ble_eq_true rfl, Nat.le_of_ble_eq_true rfl⟩ ⟨Nat.le_of_ble_eq_true rfl, Nat.le_of_ble_eq_true rfl⟩ rfl rfl hl rfl (Nat.le_of_ble_eq_true rfl) dX7_clean_50 (fun w1 H locs hp w => ?_)
      obtain rfl := hp
      have w := w.is (ws' := histH G hb (sizeN hs) (oldN hs old) (fun k => some (((ha k) 0) 0)) ++ (plateW G (ha 0) ((va_up hpg (slotN hs old) P) 0) ((va_up hlw (slotN hs old) lo) 0) ++ (plateW G (ha 1) ((va_up hpg (slotN hs old) P) 1) ((va_up hlw (slotN hs old) lo) 1) ++ (plateW G (ha 2) ((va_up hpg (slotN hs old) P) 2) ((va_up hlw (slotN hs old) lo) 2) ++ (plateW G (ha 3) ((va_up hpg (slotN hs old) P) 3) ((va_up hlw (slotN hs old) lo) 3) ++ (plateW G (ha 4) ((va_up hpg (slotN hs old) P) 4) ((va_up hlw (slotN hs old) lo) 4) ++ (plateW G pn P lo ++ (mainW G ma ((pn 0) 0) ((pt 0) 0) (hb 0) (xa 0) (ra 0))))))))) ((congrArg (HAppend.hAppend _) ((congrArg (HAppend.hAppend _) ((congrArg (HAppend.hAppend _) ((congrArg (HAppend.hAppend _) ((congrArg (HAppend.hAppend _) (List.append_assoc _ _ _).symm).trans (List.append_assoc _ _ _).symm)).trans (List.append_assoc _ _ _).symm)).trans (List.append_assoc _ _ _).symm)).trans (List.append_assoc _ _ _).symm)).trans (List.append_assoc _ _ _).symm).symm
      have w := w.perm (ws' := plateW G pn P lo ++ (mainW G ma ((pn 0) 0) ((pt 0) 0) (hb 0) (xa 0) (ra 0) ++ (histH G hb (sizeN hs) (oldN hs old) (fun k => some (((ha k) 0) 0)) ++ (plateW G (ha 0) ((va_up hpg (slotN hs old) P) 0) ((va_up hlw (slotN hs old) lo) 0) ++ (plateW G (ha 1) ((va_up hpg (slotN hs old) P) 1) ((va_up hlw (slotN hs old) lo) 1) ++ (plateW G (ha 2) ((va_up hpg (slotN hs old) P) 2) ((va_up hlw (slotN hs old) lo) 2) ++ (plateW G (ha 3) ((va_up hpg (slotN hs old) P) 3) ((va_up hlw (slotN hs old) lo) 3) ++ (plateW G (ha 4) ((va_up hpg (slotN hs old) P) 4) ((va_up hlw (slotN hs old) lo) 4))))))))) (((List.Perm.append_left _ ((List.Perm.append_left _ ((List.Perm.append_left _ ((List.Perm.append_left _ ((List.Perm.append_left _ (List.perm_append_comm_assoc _ _ _)).trans (List.perm_append_comm_assoc _ _ _))).trans (List.perm_append_comm_assoc _ _ _))).trans (List.perm_append_comm_assoc _ _ _))).trans (List.perm_append_comm_assoc _ _ _))).trans (List.perm_append_comm_assoc _ _ _)).trans (List.Perm.append_left _ ((List.Perm.append_left _ ((List.Perm.append_left _ ((List.Perm.append_left _ ((List.Perm.append_left _ ((List.Perm.append_left _ List.perm_append_comm).trans (List.perm_append_comm_assoc _ _ _))).trans (List.perm_append_comm_assoc _ _ _))).trans (List.perm_append_comm_assoc _ _ _))).trans (List.perm_append_comm_assoc _ _ _))).trans (List.perm_append_comm_assoc _ _ _))))
      have w := w.is (ws' := plH G (pn 0) (pn 1) (pn 2) (pn 3) (fun k => P k) (fun k => P (19 + k)) (P 9) (P 10) (P 11) (P 12) (P 13) (toldF P) (watF P) (P 16) (P 17) (P 18) ++ (coreW G (pn 1) (P 8) (top P) (kdP P) (lnP P) (dnP P) (moP P) lo ++ (linesW G (pn 2) (fun k => P (26 + 5 * k)) (fun k => P (26 + 5 * k + 1)) (fun k => P (26 + 5 * k + 2)) (fun k => P (26 + 5 * k + 3)) (fun k => P (26 + 5 * k + 4)) ++ (vialsW G (pn 3) (P 14) (P 15) (fun k => P (126 + 3 * k)) (fun k => P (126 + 3 * k + 1)) (fun k => P (126 + 3 * k + 2)) ++ (mainW G ma ((pn 0) 0) ((pt 0) 0) (hb 0) (xa 0) (ra 0) ++ (histH G hb (sizeN hs) (oldN hs old) (fun k => some (((ha k) 0) 0)) ++ (plateW G (ha 0) ((va_up hpg (slotN hs old) P) 0) ((va_up hlw (slotN hs old) lo) 0) ++ (plateW G (ha 1) ((va_up hpg (slotN hs old) P) 1) ((va_up hlw (slotN hs old) lo) 1) ++ (plateW G (ha 2) ((va_up hpg (slotN hs old) P) 2) ((va_up hlw (slotN hs old) lo) 2) ++ (plateW G (ha 3) ((va_up hpg (slotN hs old) P) 3) ((va_up hlw (slotN hs old) lo) 3) ++ (plateW G (ha 4) ((va_up hpg (slotN hs old) P) 4) ((va_up hlw (slotN hs old) lo) 4)))))))))))) (plate_app)
      refine lv_aload_n F.1 F.2.1 dX7_clean_53 rfl (lv_at hl 1 rfl) ?_
      refine r_get F w 19 0 iX7 f10 rfl rfl rfl (by decide) rfl dX7_clean_54 ?_
      refine r_get F w 0 1 iX3 f117 rfl rfl rfl (by decide) rfl dX7_clean_57 ?_
      refine lv_iload_n F.1 F.2.1 dX7_clean_60 rfl (lv_at hl 2 rfl) ?_
      have w := w.perm (ws' := linesW G (pn 2) (fun k => P (26 + 5 * k)) (fun k => P (26 + 5 * k + 1)) (fun k => P (26 + 5 * k + 2)) (fun k => P (26 + 5 * k + 3)) (fun k => P (26 + 5 * k + 4)) ++ (plH G (pn 0) (pn 1) (pn 2) (pn 3) (fun k => P k) (fun k => P (19 + k)) (P 9) (P 10) (P 11) (P 12) (P 13) (toldF P) (watF P) (P 16) (P 17) (P 18) ++ (coreW G (pn 1) (P 8) (top P) (kdP P) (lnP P) (dnP P) (moP P) lo ++ (vialsW G (pn 3) (P 14) (P 15) (fun k => P (126 + 3 * k)) (fun k => P (126 + 3 * k + 1)) (fun k => P (126 + 3 * k + 2)) ++ (mainW G ma ((pn 0) 0) ((pt 0) 0) (hb 0) (xa 0) (ra 0) ++ (histH G hb (sizeN hs) (oldN hs old) (fun k => some (((ha k) 0) 0)) ++ (plateW G (ha 0) ((va_up hpg (slotN hs old) P) 0) ((va_up hlw (slotN hs old) lo) 0) ++ (plateW G (ha 1) ((va_up hpg (slotN hs old) P) 1) ((va_up hlw (slotN hs old) lo) 1) ++ (plateW G (ha 2) ((va_up hpg (slotN hs old) P) 2) ((va_up hlw (slotN hs old) lo) 2) ++ (plateW G (ha 3) ((va_up hpg (slotN hs old) P) 3) ((va_up hlw (slotN hs old) lo) 3) ++ (plateW G (ha 4) ((va_up hpg (slotN hs old) P) 4) ((va_up hlw (slotN hs old) lo) 4)))))))))))) ((List.Perm.append_left _ (List.perm_append_comm_assoc _ _ _)).trans (List.perm_append_comm_assoc _ _ _))
      refine b_callVV (rest := []) (wr := plH G (pn 0) (pn 1) (pn 2) (pn 3) (fun k => P k) (fun k => P (19 + k)) (P 9) (P 10) (P 11) (P 12) (P 13) (toldF P) (watF P) (P 16) (P 17) (P 18) ++ (coreW G (pn 1) (P 8) (top P) (kdP P) (lnP P) (dnP P) (moP P) lo ++ (vialsW G (pn 3) (P 14) (P 15) (fun k => P (126 + 3 * k)) (fun k => P (126 + 3 * k + 1)) (fun k => P (126 + 3 * k + 2)) ++ (mainW G ma ((pn 0) 0) ((pt 0) 0) (hb 0) (xa 0) (ra 0) ++ (histH G hb (sizeN hs) (oldN hs old) (fun k => some (((ha k) 0) 0)) ++ (plateW G (ha 0) ((va_up hpg (slotN hs old) P) 0) ((va_up hlw (slotN hs old) lo) 0) ++ (plateW G (ha 1) ((va_up hpg (slotN hs old) P) 1) ((va_up hlw (slotN hs old) lo) 1) ++ (plateW G (ha 2) ((va_up hpg (slotN hs old) P) 2) ((va_up hlw (slotN hs old) lo) 2) ++ (plateW G (ha 3) ((va_up hpg (slotN hs old) P) 3) ((va_up hlw (slotN hs old) lo) 3) ++ (plateW G (ha 4) ((va_up hpg (slotN hs old) P) 4) ((va_up hlw (slotN hs old) lo) 4))))))))))) F w (c_X2_open l G (pn 2) (fun k => P (26 + 5 * k)) (fun k => P (26 + 5 * k + 1)) (fun k => P (26 + 5 * k + 2)) (fun k => P (26 + 5 * k + 3)) (fun k => P (26 + 5 * k + 4)) i (by omega)) rfl gX7_clean_X2_open (nA0 := 1) rfl (by decide +kernel) rfl ⟨Nat.le_of_ble_eq_true rfl, Nat.le_of_ble_eq_true rfl⟩ ⟨Nat.le_of_ble_eq_true rfl, Nat.le_of_ble_eq_true rfl⟩ rfl rfl hl rfl (Nat.le_of_ble_eq_true rfl) dX7_clean_61 (fun w1 H locs hp w => ?_)
      obtain rfl := hp
      have w := w.perm (ws' := plH G (pn 0) (pn 1) (pn 2) (pn 3) (fun k => P k) (fun k => P (19 + k)) (P 9) (P 10) (P 11) (P 12) (P 13) (toldF P) (watF P) (P 16) (P 17) (P 18) ++ (coreW G (pn 1) (P 8) (top P) (kdP P) (lnP P) (dnP P) (moP P) lo ++ (linesW G (pn 2) (up (fun k => P (26 + 5 * k)) i 0) (up (fun k => P (26 + 5 * k + 1)) i 0) (up (fun k => P (26 + 5 * k + 2)) i 0) (fun k => P (26 + 5 * k + 3)) (fun k => P (26 + 5 * k + 4)) ++ (vialsW G (pn 3) (P 14) (P 15) (fun k => P (126 + 3 * k)) (fun k => P (126 + 3 * k + 1)) (fun k => P (126 + 3 * k + 2)) ++ (mainW G ma ((pn 0) 0) ((pt 0) 0) (hb 0) (xa 0) (ra 0) ++ (histH G hb (sizeN hs) (oldN hs old) (fun k => some (((ha k) 0) 0)) ++ (plateW G (ha 0) ((va_up hpg (slotN hs old) P) 0) ((va_up hlw (slotN hs old) lo) 0) ++ (plateW G (ha 1) ((va_up hpg (slotN hs old) P) 1) ((va_up hlw (slotN hs old) lo) 1) ++ (plateW G (ha 2) ((va_up hpg (slotN hs old) P) 2) ((va_up hlw (slotN hs old) lo) 2) ++ (plateW G (ha 3) ((va_up hpg (slotN hs old) P) 3) ((va_up hlw (slotN hs old) lo) 3) ++ (plateW G (ha 4) ((va_up hpg (slotN hs old) P) 4) ((va_up hlw (slotN hs old) lo) 4)))))))))))) ((List.perm_append_comm_assoc _ _ _).trans (List.Perm.append_left _ (List.perm_append_comm_assoc _ _ _)))
      have w := w.eq (ws' := plH G (pn 0) (pn 1) (pn 2) (pn 3) (fun k => (clnF P i) k) (fun k => (clnF P i) (19 + k)) ((clnF P i) 9) ((clnF P i) 10) ((clnF P i) 11) ((clnF P i) 12) ((clnF P i) 13) (toldF (clnF P i)) (watF (clnF P i)) ((clnF P i) 16) ((clnF P i) 17) ((clnF P i) 18) ++ (coreW G (pn 1) ((clnF P i) 8) (top (clnF P i)) (kdP (clnF P i)) (lnP (clnF P i)) (dnP (clnF P i)) (moP (clnF P i)) lo ++ (linesW G (pn 2) (fun k => (clnF P i) (26 + 5 * k)) (fun k => (clnF P i) (26 + 5 * k + 1)) (fun k => (clnF P i) (26 + 5 * k + 2)) (fun k => (clnF P i) (26 + 5 * k + 3)) (fun k => (clnF P i) (26 + 5 * k + 4)) ++ (vialsW G (pn 3) ((clnF P i) 14) ((clnF P i) 15) (fun k => (clnF P i) (126 + 3 * k)) (fun k => (clnF P i) (126 + 3 * k + 1)) (fun k => (clnF P i) (126 + 3 * k + 2)) ++ (mainW G ma ((pn 0) 0) ((pt 0) 0) (hb 0) (xa 0) (ra 0) ++ (histH G hb (sizeN hs) (oldN hs old) (fun k => some (((ha k) 0) 0)) ++ (plateW G (ha 0) ((va_up hpg (slotN hs old) P) 0) ((va_up hlw (slotN hs old) lo) 0) ++ (plateW G (ha 1) ((va_up hpg (slotN hs old) P) 1) ((va_up hlw (slotN hs old) lo) 1) ++ (plateW G (ha 2) ((va_up hpg (slotN hs old) P) 2) ((va_up hlw (slotN hs old) lo) 2) ++ (plateW G (ha 3) ((va_up hpg (slotN hs old) P) 3) ((va_up hlw (slotN hs old) lo) 3) ++ (plateW G (ha 4) ((va_up hpg (slotN hs old) P) 4) ((va_up hlw (slotN hs old) lo) 4)))))))))))) (eqW.app (plH_eq (clnF_o P i (by omega)).symm (clnF_o P i (by omega)).symm (clnF_o P i (by omega)).symm (clnF_o P i (by omega)).symm (clnF_o P i (by omega)).symm (cln_told h8 hi).symm (cln_wat h8 hi).symm (clnF_o P i (by omega)).symm (clnF_o P i (by omega)).symm (clnF_o P i (by omega)).symm (fun k hk => (clnF_o P i (by omega)).symm) (fun k hk => (clnF_o P i (by omega)).symm)) (eqW.app (coreW_eq (clnF_o P i (by omega)).symm (cln_top h8 hi).symm (fun k hk => (clnF_o P i (by omega)).symm) (fun k hk => (clnF_o P i (by omega)).symm) (fun k hk => (clnF_o P i (by omega)).symm) (fun k hk => (clnF_o P i (by omega)).symm) (fun _ _ => rfl)) (eqW.app (linesW_eq (fun k hk => (clnF_lin P i k).1.symm) (fun k hk => (clnF_lin P i k).2.1.symm) (fun k hk => (clnF_lin P i k).2.2.1.symm) (fun k hk => (clnF_lin P i k).2.2.2.1.symm) (fun k hk => (clnF_lin P i k).2.2.2.2.symm)) (eqW.app (vialsW_eq (clnF_o P i (by omega)).symm (clnF_o P i (by omega)).symm (fun k hk => (clnF_o P i (by omega)).symm) (fun k hk => (clnF_o P i (by omega)).symm) (fun k hk => (clnF_o P i (by omega)).symm)) (eqW.rf _)))))
      have w := w.is (ws' := plateW G pn (clnF P i) lo ++ (mainW G ma ((pn 0) 0) ((pt 0) 0) (hb 0) (xa 0) (ra 0) ++ (histH G hb (sizeN hs) (oldN hs old) (fun k => some (((ha k) 0) 0)) ++ (plateW G (ha 0) ((va_up hpg (slotN hs old) P) 0) ((va_up hlw (slotN hs old) lo) 0) ++ (plateW G (ha 1) ((va_up hpg (slotN hs old) P) 1) ((va_up hlw (slotN hs old) lo) 1) ++ (plateW G (ha 2) ((va_up hpg (slotN hs old) P) 2) ((va_up hlw (slotN hs old) lo) 2) ++ (plateW G (ha 3) ((va_up hpg (slotN hs old) P) 3) ((va_up hlw (slotN hs old) lo) 3) ++ (plateW G (ha 4) ((va_up hpg (slotN hs old) P) 4) ((va_up hlw (slotN hs old) lo) 4))))))))) (plate_app.symm)
      refine lv_iload_n F.1 F.2.1 dX7_clean_64 rfl (lv_at hl 0 rfl) ?_
      exact r_ireturn F w dX7_clean_65 (⟨rfl, rfl⟩)
    · exact absurd c23 hz
  · exact absurd hi c6
set_option maxRecDepth 100000 in
set_option maxHeartbeats 4000000 in
theorem c_X7_runM (l : Launch) (G : KG) (ma hb xa ra : Nat → Nat) (pn pt : Nat → Nat → Nat) (P lo : Nat → Nat) (ha : Nat → Nat → Nat → Nat) (hpg hlw : Nat → Nat → Nat) (hs old : Nat) (hI : Inv P) (hlk : LoOk P lo) (h5 : hs ≤ 5) (ho : old < 5) (x : Int32) (hx : ¬ (nI 1 ≤ x ∧ x ≤ nI 1000)) : MetI l yX7_run wsX7_run 6 G (plateW G pn P lo ++ (mainW G ma ((pn 0) 0) ((pt 0) 0) (hb 0) (xa 0) (ra 0) ++ (histH G hb hs old (fun k => some (((ha k) 0) 0)) ++ (plateW G (ha 0) (hpg 0) (hlw 0) ++ (plateW G (ha 1) (hpg 1) (hlw 1) ++ (plateW G (ha 2) (hpg 2) (hlw 2) ++ (plateW G (ha 3) (hpg 3) (hlw 3) ++ (plateW G (ha 4) (hpg 4) (hlw 4))))))))) [.ref (ma 0), .int x] (fun r v => r = -1 ∧ v = plateW G pn P lo ++ (mainW G ma ((pn 0) 0) ((pt 0) 0) (hb 0) (xa 0) (ra 0) ++ (histH G hb hs old (fun k => some (((ha k) 0) 0)) ++ (plateW G (ha 0) (hpg 0) (hlw 0) ++ (plateW G (ha 1) (hpg 1) (hlw 1) ++ (plateW G (ha 2) (hpg 2) (hlw 2) ++ (plateW G (ha 3) (hpg 3) (hlw 3) ++ (plateW G (ha 4) (hpg 4) (hlw 4))))))))) := by
  refine MetI.by (cc := cX7_run) (nL := 2) (ret := some .int) (by decide +kernel) rfl (Nat.le_of_ble_eq_true rfl) ?_
  intro p e s m args below meth c F w ls hl
  have hl : lv_has ls 2 [(0, .ref (ma 0)), (1, .int x)] := hl
  have hts := F.ts
  have hD := hI.d
  obtain ⟨b9, b11, b20, b12, b13, b25, b23⟩ := hD.bnd
  have h8 := hD.1.1
  have ht := hD.1.top_le
  have h16 := hI.2.2.2.2.2.2.1
  refine lv_iload_n F.1 F.2.1 dX7_run_0 rfl (lv_at hl 1 rfl) ?_
  refine lv_iconst (v := nI 1) F.1 F.2.1 dX7_run_1 (by decide) ?_
  refine lv_icmp_lt (tgt := 12) F.1 F.2.1 dX7_run_2 (by decide) (fun c2 => ?_) (fun c2 => ?_)
  · skip
    refine lv_iconst (v := (-1)) F.1 F.2.1 dX7_run_12 (by decide) ?_
    exact r_ireturn F w dX7_run_13 (⟨rfl, rfl⟩)
  · skip
    refine lv_iload_n F.1 F.2.1 dX7_run_5 rfl (lv_at hl 1 rfl) ?_
    refine lv_sipush (v := nI 1000) F.1 F.2.1 dX7_run_6 (by decide) ?_
    refine lv_icmp_le (tgt := 14) F.1 F.2.1 dX7_run_9 (by decide) (fun c9 => ?_) (fun c9 => ?_)
    · exact absurd ⟨Int32.not_lt.mp c2, c9⟩ hx
    · skip
      refine lv_iconst (v := (-1)) F.1 F.2.1 dX7_run_12 (by decide) ?_
      exact r_ireturn F w dX7_run_13 (⟨rfl, rfl⟩)
set_option maxRecDepth 100000 in
set_option maxHeartbeats 4000000 in
theorem c_X7_runZ (l : Launch) (G : KG) (ma hb xa ra : Nat → Nat) (pn pt : Nat → Nat → Nat) (P lo : Nat → Nat) (ha : Nat → Nat → Nat → Nat) (hpg hlw : Nat → Nat → Nat) (hs old : Nat) (hI : Inv P) (hlk : LoOk P lo) (h5 : hs ≤ 5) (ho : old < 5) (q : Nat) (hq : 1 ≤ q ∧ q ≤ 1000) (hz : 20000 < P 16 + q) : MetI l yX7_run wsX7_run 6 G (plateW G pn P lo ++ (mainW G ma ((pn 0) 0) ((pt 0) 0) (hb 0) (xa 0) (ra 0) ++ (histH G hb hs old (fun k => some (((ha k) 0) 0)) ++ (plateW G (ha 0) (hpg 0) (hlw 0) ++ (plateW G (ha 1) (hpg 1) (hlw 1) ++ (plateW G (ha 2) (hpg 2) (hlw 2) ++ (plateW G (ha 3) (hpg 3) (hlw 3) ++ (plateW G (ha 4) (hpg 4) (hlw 4))))))))) [.ref (ma 0), .int (nI q)] (fun r v => r = -3 ∧ v = plateW G pn P lo ++ (mainW G ma ((pn 0) 0) ((pt 0) 0) (hb 0) (xa 0) (ra 0) ++ (histH G hb hs old (fun k => some (((ha k) 0) 0)) ++ (plateW G (ha 0) (hpg 0) (hlw 0) ++ (plateW G (ha 1) (hpg 1) (hlw 1) ++ (plateW G (ha 2) (hpg 2) (hlw 2) ++ (plateW G (ha 3) (hpg 3) (hlw 3) ++ (plateW G (ha 4) (hpg 4) (hlw 4))))))))) := by
  refine MetI.by (cc := cX7_run) (nL := 2) (ret := some .int) (by decide +kernel) rfl (Nat.le_of_ble_eq_true rfl) ?_
  intro p e s m args below meth c F w ls hl
  have hl : lv_has ls 2 [(0, .ref (ma 0)), (1, .int (nI q))] := hl
  have hts := F.ts
  have iX7 : ∀ w ∈ wsX70, w ∈ wsX7_run := by decide +kernel
  have f10 := hts (.fieldLink RX7 10 "CoreMelter" "now" "LCoreMelter$Plate;") (by decide +kernel)
  have hD := hI.d
  obtain ⟨b9, b11, b20, b12, b13, b25, b23⟩ := hD.bnd
  have h8 := hD.1.1
  have ht := hD.1.top_le
  have h16 := hI.2.2.2.2.2.2.1
  refine lv_iload_n F.1 F.2.1 dX7_run_0 rfl (lv_at hl 1 rfl) ?_
  refine lv_iconst (v := nI 1) F.1 F.2.1 dX7_run_1 (by decide) ?_
  refine r_clt (tgt := 12) F dX7_run_2 (by decide) (by omega) (by omega) (fun c2 => ?_) (fun c2 => ?_)
  · exact absurd c2 (by omega)
  · skip
    refine lv_iload_n F.1 F.2.1 dX7_run_5 rfl (lv_at hl 1 rfl) ?_
    refine lv_sipush (v := nI 1000) F.1 F.2.1 dX7_run_6 (by decide) ?_
    refine r_cle (tgt := 14) F dX7_run_9 (by decide) (by omega) (by omega) (fun c9 => ?_) (fun c9 => ?_)
    · skip
      refine lv_iload_n F.1 F.2.1 dX7_run_14 rfl (lv_at hl 1 rfl) ?_
      have w := w.is (ws' := plH G (pn 0) (pn 1) (pn 2) (pn 3) (fun k => P k) (fun k => P (19 + k)) (P 9) (P 10) (P 11) (P 12) (P 13) (toldF P) (watF P) (P 16) (P 17) (P 18) ++ (coreW G (pn 1) (P 8) (top P) (kdP P) (lnP P) (dnP P) (moP P) lo ++ (linesW G (pn 2) (fun k => P (26 + 5 * k)) (fun k => P (26 + 5 * k + 1)) (fun k => P (26 + 5 * k + 2)) (fun k => P (26 + 5 * k + 3)) (fun k => P (26 + 5 * k + 4)) ++ (vialsW G (pn 3) (P 14) (P 15) (fun k => P (126 + 3 * k)) (fun k => P (126 + 3 * k + 1)) (fun k => P (126 + 3 * k + 2)) ++ (mainW G ma ((pn 0) 0) ((pt 0) 0) (hb 0) (xa 0) (ra 0) ++ (histH G hb hs old (fun k => some (((ha k) 0) 0)) ++ (plateW G (ha 0) (hpg 0) (hlw 0) ++ (plateW G (ha 1) (hpg 1) (hlw 1) ++ (plateW G (ha 2) (hpg 2) (hlw 2) ++ (plateW G (ha 3) (hpg 3) (hlw 3) ++ (plateW G (ha 4) (hpg 4) (hlw 4)))))))))))) (plate_app)
      refine lv_aload_n F.1 F.2.1 dX7_run_15 rfl (lv_at hl 0 rfl) ?_
      refine r_get F w 19 0 iX7 f10 rfl rfl rfl (by decide) rfl dX7_run_16 ?_
      refine b_callVI (rest := [.int (nI q)]) (wr := coreW G (pn 1) (P 8) (top P) (kdP P) (lnP P) (dnP P) (moP P) lo ++ (linesW G (pn 2) (fun k => P (26 + 5 * k)) (fun k => P (26 + 5 * k + 1)) (fun k => P (26 + 5 * k + 2)) (fun k => P (26 + 5 * k + 3)) (fun k => P (26 + 5 * k + 4)) ++ (vialsW G (pn 3) (P 14) (P 15) (fun k => P (126 + 3 * k)) (fun k => P (126 + 3 * k + 1)) (fun k => P (126 + 3 * k + 2)) ++ (mainW G ma ((pn 0) 0) ((pt 0) 0) (hb 0) (xa 0) (ra 0) ++ (histH G hb hs old (fun k => some (((ha k) 0) 0)) ++ (plateW G (ha 0) (hpg 0) (hlw 0) ++ (plateW G (ha 1) (hpg 1) (hlw 1) ++ (plateW G (ha 2) (hpg 2) (hlw 2) ++ (plateW G (ha 3) (hpg 3) (hlw 3) ++ (plateW G (ha 4) (hpg 4) (hlw 4))))))))))) F w (c_X3_ticksLeft l G (pn 0) (pn 1) (pn 2) (pn 3) (fun k => P k) (fun k => P (19 + k)) (P 9) (P 10) (P 11) (P 12) (P 13) (toldF P) (watF P) (P 16) (P 17) (P 18)  (by omega)) rfl gX7_run_X3_ticksLeft (nA0 := 0) rfl (by decide +kernel) rfl ⟨Nat.le_of_ble_eq_true rfl, Nat.le_of_ble_eq_true rfl⟩ ⟨Nat.le_of_ble_eq_true rfl, Nat.le_of_ble_eq_true rfl⟩ rfl rfl hl rfl (Nat.le_of_ble_eq_true rfl) dX7_run_19 (fun r_19 w1 H locs hp w => ?_)
      obtain ⟨rfl, rfl⟩ := hp
      refine r_cle (tgt := 28) F dX7_run_22 (by decide) (by omega) (by omega) (fun c22 => ?_) (fun c22 => ?_)
      · exact absurd c22 (by omega)
      · skip
        refine lv_bipush (v := (-3)) F.1 F.2.1 dX7_run_25 (by decide) ?_
        have w := w.is (ws' := plateW G pn P lo ++ (mainW G ma ((pn 0) 0) ((pt 0) 0) (hb 0) (xa 0) (ra 0) ++ (histH G hb hs old (fun k => some (((ha k) 0) 0)) ++ (plateW G (ha 0) (hpg 0) (hlw 0) ++ (plateW G (ha 1) (hpg 1) (hlw 1) ++ (plateW G (ha 2) (hpg 2) (hlw 2) ++ (plateW G (ha 3) (hpg 3) (hlw 3) ++ (plateW G (ha 4) (hpg 4) (hlw 4))))))))) (plate_app.symm)
        exact r_ireturn F w dX7_run_27 (⟨rfl, rfl⟩)
    · exact absurd c9 (by omega)
set_option maxRecDepth 100000 in
set_option maxHeartbeats 4000000 in
theorem c_X7_runN (l : Launch) (G : KG) (ma hb xa ra : Nat → Nat) (pn pt : Nat → Nat → Nat) (P lo : Nat → Nat) (ha : Nat → Nat → Nat → Nat) (hpg hlw : Nat → Nat → Nat) (hs old : Nat) (hI : Inv P) (hlk : LoOk P lo) (h5 : hs ≤ 5) (ho : old < 5) (q : Nat) (hq : 1 ≤ q ∧ q ≤ 1000) (hz : P 16 + q ≤ 20000) : MetI l yX7_run wsX7_run 6 G (plateW G pn P lo ++ (mainW G ma ((pn 0) 0) ((pt 0) 0) (hb 0) (xa 0) (ra 0) ++ (histH G hb hs old (fun k => some (((ha k) 0) 0)) ++ (plateW G (ha 0) (hpg 0) (hlw 0) ++ (plateW G (ha 1) (hpg 1) (hlw 1) ++ (plateW G (ha 2) (hpg 2) (hlw 2) ++ (plateW G (ha 3) (hpg 3) (hlw 3) ++ (plateW G (ha 4) (hpg 4) (hlw 4))))))))) [.ref (ma 0), .int (nI q)] (fun r v => r = nI (toldF (itF P q)) ∧ v = plateW G pn (itF P q) lo ++ (mainW G ma ((pn 0) 0) ((pt 0) 0) (hb 0) (xa 0) (ra 0) ++ (histH G hb (sizeN hs) (oldN hs old) (fun k => some (((ha k) 0) 0)) ++ (plateW G (ha 0) ((va_up hpg (slotN hs old) P) 0) ((va_up hlw (slotN hs old) lo) 0) ++ (plateW G (ha 1) ((va_up hpg (slotN hs old) P) 1) ((va_up hlw (slotN hs old) lo) 1) ++ (plateW G (ha 2) ((va_up hpg (slotN hs old) P) 2) ((va_up hlw (slotN hs old) lo) 2) ++ (plateW G (ha 3) ((va_up hpg (slotN hs old) P) 3) ((va_up hlw (slotN hs old) lo) 3) ++ (plateW G (ha 4) ((va_up hpg (slotN hs old) P) 4) ((va_up hlw (slotN hs old) lo) 4))))))))) := by
  refine MetI.by (cc := cX7_run) (nL := 2) (ret := some .int) (by decide +kernel) rfl (Nat.le_of_ble_eq_true rfl) ?_
  intro p e s m args below meth c F w ls hl
  have hl : lv_has ls 2 [(0, .ref (ma 0)), (1, .int (nI q))] := hl
  have hts := F.ts
  have iX3 : ∀ w ∈ wsX30, w ∈ wsX7_run := by decide +kernel
  have iX7 : ∀ w ∈ wsX70, w ∈ wsX7_run := by decide +kernel
  have f10 := hts (.fieldLink RX7 10 "CoreMelter" "now" "LCoreMelter$Plate;") (by decide +kernel)
  have f22 := hts (.fieldLink RX7 22 "CoreMelter" "history" "LCoreMelter$History;") (by decide +kernel)
  have f138 := hts (.fieldLink RX7 138 "CoreMelter$Plate" "told" "I") (by decide +kernel)
  have hD := hI.d
  obtain ⟨b9, b11, b20, b12, b13, b25, b23⟩ := hD.bnd
  have h8 := hD.1.1
  have ht := hD.1.top_le
  have h16 := hI.2.2.2.2.2.2.1
  refine lv_iload_n F.1 F.2.1 dX7_run_0 rfl (lv_at hl 1 rfl) ?_
  refine lv_iconst (v := nI 1) F.1 F.2.1 dX7_run_1 (by decide) ?_
  refine r_clt (tgt := 12) F dX7_run_2 (by decide) (by omega) (by omega) (fun c2 => ?_) (fun c2 => ?_)
  · exact absurd c2 (by omega)
  · skip
    refine lv_iload_n F.1 F.2.1 dX7_run_5 rfl (lv_at hl 1 rfl) ?_
    refine lv_sipush (v := nI 1000) F.1 F.2.1 dX7_run_6 (by decide) ?_
    refine r_cle (tgt := 14) F dX7_run_9 (by decide) (by omega) (by omega) (fun c9 => ?_) (fun c9 => ?_)
    · skip
      refine lv_iload_n F.1 F.2.1 dX7_run_14 rfl (lv_at hl 1 rfl) ?_
      have w := w.is (ws' := plH G (pn 0) (pn 1) (pn 2) (pn 3) (fun k => P k) (fun k => P (19 + k)) (P 9) (P 10) (P 11) (P 12) (P 13) (toldF P) (watF P) (P 16) (P 17) (P 18) ++ (coreW G (pn 1) (P 8) (top P) (kdP P) (lnP P) (dnP P) (moP P) lo ++ (linesW G (pn 2) (fun k => P (26 + 5 * k)) (fun k => P (26 + 5 * k + 1)) (fun k => P (26 + 5 * k + 2)) (fun k => P (26 + 5 * k + 3)) (fun k => P (26 + 5 * k + 4)) ++ (vialsW G (pn 3) (P 14) (P 15) (fun k => P (126 + 3 * k)) (fun k => P (126 + 3 * k + 1)) (fun k => P (126 + 3 * k + 2)) ++ (mainW G ma ((pn 0) 0) ((pt 0) 0) (hb 0) (xa 0) (ra 0) ++ (histH G hb hs old (fun k => some (((ha k) 0) 0)) ++ (plateW G (ha 0) (hpg 0) (hlw 0) ++ (plateW G (ha 1) (hpg 1) (hlw 1) ++ (plateW G (ha 2) (hpg 2) (hlw 2) ++ (plateW G (ha 3) (hpg 3) (hlw 3) ++ (plateW G (ha 4) (hpg 4) (hlw 4)))))))))))) (plate_app)
      refine lv_aload_n F.1 F.2.1 dX7_run_15 rfl (lv_at hl 0 rfl) ?_
      refine r_get F w 19 0 iX7 f10 rfl rfl rfl (by decide) rfl dX7_run_16 ?_
      refine b_callVI (rest := [.int (nI q)]) (wr := coreW G (pn 1) (P 8) (top P) (kdP P) (lnP P) (dnP P) (moP P) lo ++ (linesW G (pn 2) (fun k => P (26 + 5 * k)) (fun k => P (26 + 5 * k + 1)) (fun k => P (26 + 5 * k + 2)) (fun k => P (26 + 5 * k + 3)) (fun k => P (26 + 5 * k + 4)) ++ (vialsW G (pn 3) (P 14) (P 15) (fun k => P (126 + 3 * k)) (fun k => P (126 + 3 * k + 1)) (fun k => P (126 + 3 * k + 2)) ++ (mainW G ma ((pn 0) 0) ((pt 0) 0) (hb 0) (xa 0) (ra 0) ++ (histH G hb hs old (fun k => some (((ha k) 0) 0)) ++ (plateW G (ha 0) (hpg 0) (hlw 0) ++ (plateW G (ha 1) (hpg 1) (hlw 1) ++ (plateW G (ha 2) (hpg 2) (hlw 2) ++ (plateW G (ha 3) (hpg 3) (hlw 3) ++ (plateW G (ha 4) (hpg 4) (hlw 4))))))))))) F w (c_X3_ticksLeft l G (pn 0) (pn 1) (pn 2) (pn 3) (fun k => P k) (fun k => P (19 + k)) (P 9) (P 10) (P 11) (P 12) (P 13) (toldF P) (watF P) (P 16) (P 17) (P 18)  (by omega)) rfl gX7_run_X3_ticksLeft (nA0 := 0) rfl (by decide +kernel) rfl ⟨Nat.le_of_ble_eq_true rfl, Nat.le_of_ble_eq_true rfl⟩ ⟨Nat.le_of_ble_eq_true rfl, Nat.le_of_ble_eq_true rfl⟩ rfl rfl hl rfl (Nat.le_of_ble_eq_true rfl) dX7_run_19 (fun r_19 w1 H locs hp w => ?_)
      obtain ⟨rfl, rfl⟩ := hp
      refine r_cle (tgt := 28) F dX7_run_22 (by decide) (by omega) (by omega) (fun c22 => ?_) (fun c22 => ?_)
      · skip
        have w := w.is (ws' := plateW G pn P lo ++ (mainW G ma ((pn 0) 0) ((pt 0) 0) (hb 0) (xa 0) (ra 0) ++ (histH G hb hs old (fun k => some (((ha k) 0) 0)) ++ (plateW G (ha 0) (hpg 0) (hlw 0) ++ (plateW G (ha 1) (hpg 1) (hlw 1) ++ (plateW G (ha 2) (hpg 2) (hlw 2) ++ (plateW G (ha 3) (hpg 3) (hlw 3) ++ (plateW G (ha 4) (hpg 4) (hlw 4))))))))) (plate_app.symm)
        refine lv_aload_n F.1 F.2.1 dX7_run_28 rfl (lv_at hl 0 rfl) ?_
        refine r_get F w 19 2 iX7 f22 rfl rfl rfl (by decide) rfl dX7_run_29 ?_
        refine lv_aload_n F.1 F.2.1 dX7_run_32 rfl (lv_at hl 0 rfl) ?_
        refine r_get F w 19 0 iX7 f10 rfl rfl rfl (by decide) rfl dX7_run_33 ?_
        have w := w.perm (ws' := histH G hb hs old (fun k => some (((ha k) 0) 0)) ++ (plateW G (ha 0) (hpg 0) (hlw 0) ++ (plateW G (ha 1) (hpg 1) (hlw 1) ++ (plateW G (ha 2) (hpg 2) (hlw 2) ++ (plateW G (ha 3) (hpg 3) (hlw 3) ++ (plateW G (ha 4) (hpg 4) (hlw 4) ++ (plateW G pn P lo ++ (mainW G ma ((pn 0) 0) ((pt 0) 0) (hb 0) (xa 0) (ra 0))))))))) (((List.Perm.append_left _ (List.perm_append_comm_assoc _ _ _)).trans (List.perm_append_comm_assoc _ _ _)).trans (List.Perm.append_left _ (((List.Perm.append_left _ (List.perm_append_comm_assoc _ _ _)).trans (List.perm_append_comm_assoc _ _ _)).trans (List.Perm.append_left _ (((List.Perm.append_left _ (List.perm_append_comm_assoc _ _ _)).trans (List.perm_append_comm_assoc _ _ _)).trans (List.Perm.append_left _ (((List.Perm.append_left _ (List.perm_append_comm_assoc _ _ _)).trans (List.perm_append_comm_assoc _ _ _)).trans (List.Perm.append_left _ (((List.Perm.append_left _ (List.perm_append_comm_assoc _ _ _)).trans (List.perm_append_comm_assoc _ _ _)).trans (List.Perm.append_left _ ((List.Perm.append_left _ List.perm_append_comm).trans (List.perm_append_comm_assoc _ _ _))))))))))))
        refine b_callVV (rest := []) (wr := mainW G ma ((pn 0) 0) ((pt 0) 0) (hb 0) (xa 0) (ra 0)) F w (c_X1_keep l G hb ha hpg hlw hs old pn P lo h5 ho) ((congrArg (HAppend.hAppend _) ((congrArg (HAppend.hAppend _) ((congrArg (HAppend.hAppend _) ((congrArg (HAppend.hAppend _) ((congrArg (HAppend.hAppend _) (List.append_assoc _ _ _).symm).trans (List.append_assoc _ _ _).symm)).trans (List.append_assoc _ _ _).symm)).trans (List.append_assoc _ _ _).symm)).trans (List.append_assoc _ _ _).symm)).trans (List.append_assoc _ _ _).symm) gX7_run_X1_keep (nA0 := 1) rfl (by decide +kernel) rfl ⟨Nat.le_of_ble_eq_true rfl, Nat.le_of_ble_eq_true rfl⟩ ⟨Nat.le_of_ble_eq_true rfl, Nat.le_of_ble_eq_true rfl⟩ rfl rfl hl rfl (Nat.le_of_ble_eq_true rfl) dX7_run_36 (fun w1 H locs hp w => ?_)
        obtain rfl := hp
        have w := w.is (ws' := histH G hb (sizeN hs) (oldN hs old) (fun k => some (((ha k) 0) 0)) ++ (plateW G (ha 0) ((va_up hpg (slotN hs old) P) 0) ((va_up hlw (slotN hs old) lo) 0) ++ (plateW G (ha 1) ((va_up hpg (slotN hs old) P) 1) ((va_up hlw (slotN hs old) lo) 1) ++ (plateW G (ha 2) ((va_up hpg (slotN hs old) P) 2) ((va_up hlw (slotN hs old) lo) 2) ++ (plateW G (ha 3) ((va_up hpg (slotN hs old) P) 3) ((va_up hlw (slotN hs old) lo) 3) ++ (plateW G (ha 4) ((va_up hpg (slotN hs old) P) 4) ((va_up hlw (slotN hs old) lo) 4) ++ (plateW G pn P lo ++ (mainW G ma ((pn 0) 0) ((pt 0) 0) (hb 0) (xa 0) (ra 0))))))))) ((congrArg (HAppend.hAppend _) ((congrArg (HAppend.hAppend _) ((congrArg (HAppend.hAppend _) ((congrArg (HAppend.hAppend _) ((congrArg (HAppend.hAppend _) (List.append_assoc _ _ _).symm).trans (List.append_assoc _ _ _).symm)).trans (List.append_assoc _ _ _).symm)).trans (List.append_assoc _ _ _).symm)).trans (List.append_assoc _ _ _).symm)).trans (List.append_assoc _ _ _).symm).symm
        have w := w.perm (ws' := plateW G pn P lo ++ (mainW G ma ((pn 0) 0) ((pt 0) 0) (hb 0) (xa 0) (ra 0) ++ (histH G hb (sizeN hs) (oldN hs old) (fun k => some (((ha k) 0) 0)) ++ (plateW G (ha 0) ((va_up hpg (slotN hs old) P) 0) ((va_up hlw (slotN hs old) lo) 0) ++ (plateW G (ha 1) ((va_up hpg (slotN hs old) P) 1) ((va_up hlw (slotN hs old) lo) 1) ++ (plateW G (ha 2) ((va_up hpg (slotN hs old) P) 2) ((va_up hlw (slotN hs old) lo) 2) ++ (plateW G (ha 3) ((va_up hpg (slotN hs old) P) 3) ((va_up hlw (slotN hs old) lo) 3) ++ (plateW G (ha 4) ((va_up hpg (slotN hs old) P) 4) ((va_up hlw (slotN hs old) lo) 4))))))))) (((List.Perm.append_left _ ((List.Perm.append_left _ ((List.Perm.append_left _ ((List.Perm.append_left _ ((List.Perm.append_left _ (List.perm_append_comm_assoc _ _ _)).trans (List.perm_append_comm_assoc _ _ _))).trans (List.perm_append_comm_assoc _ _ _))).trans (List.perm_append_comm_assoc _ _ _))).trans (List.perm_append_comm_assoc _ _ _))).trans (List.perm_append_comm_assoc _ _ _)).trans (List.Perm.append_left _ ((List.Perm.append_left _ ((List.Perm.append_left _ ((List.Perm.append_left _ ((List.Perm.append_left _ ((List.Perm.append_left _ List.perm_append_comm).trans (List.perm_append_comm_assoc _ _ _))).trans (List.perm_append_comm_assoc _ _ _))).trans (List.perm_append_comm_assoc _ _ _))).trans (List.perm_append_comm_assoc _ _ _))).trans (List.perm_append_comm_assoc _ _ _))))
        refine lv_aload_n F.1 F.2.1 dX7_run_39 rfl (lv_at hl 0 rfl) ?_
        refine r_get F w 19 0 iX7 f10 rfl rfl rfl (by decide) rfl dX7_run_40 ?_
        refine lv_iload_n F.1 F.2.1 dX7_run_43 rfl (lv_at hl 1 rfl) ?_
        refine b_callVV (rest := []) (wr := mainW G ma ((pn 0) 0) ((pt 0) 0) (hb 0) (xa 0) (ra 0) ++ (histH G hb (sizeN hs) (oldN hs old) (fun k => some (((ha k) 0) 0)) ++ (plateW G (ha 0) ((va_up hpg (slotN hs old) P) 0) ((va_up hlw (slotN hs old) lo) 0) ++ (plateW G (ha 1) ((va_up hpg (slotN hs old) P) 1) ((va_up hlw (slotN hs old) lo) 1) ++ (plateW G (ha 2) ((va_up hpg (slotN hs old) P) 2) ((va_up hlw (slotN hs old) lo) 2) ++ (plateW G (ha 3) ((va_up hpg (slotN hs old) P) 3) ((va_up hlw (slotN hs old) lo) 3) ++ (plateW G (ha 4) ((va_up hpg (slotN hs old) P) 4) ((va_up hlw (slotN hs old) lo) 4)))))))) F w (c_X3_pass l G pn P lo q hI hz hlk) rfl gX7_run_X3_pass (nA0 := 1) rfl (by decide +kernel) rfl ⟨Nat.le_of_ble_eq_true rfl, Nat.le_of_ble_eq_true rfl⟩ ⟨Nat.le_of_ble_eq_true rfl, Nat.le_of_ble_eq_true rfl⟩ rfl rfl hl rfl (Nat.le_of_ble_eq_true rfl) dX7_run_44 (fun w1 H locs hp w => ?_)
        obtain rfl := hp
        refine lv_aload_n F.1 F.2.1 dX7_run_47 rfl (lv_at hl 0 rfl) ?_
        refine r_get F w 19 0 iX7 f10 rfl rfl rfl (by decide) rfl dX7_run_48 ?_
        refine r_get F w 0 10 iX3 f138 rfl rfl rfl (by decide) rfl dX7_run_51 ?_
        exact r_ireturn F w dX7_run_54 (⟨rfl, rfl⟩)
      · exact absurd c22 (by omega)
    · exact absurd c9 (by omega)
set_option maxRecDepth 100000 in
set_option maxHeartbeats 4000000 in
theorem c_X7_addSegmentM (l : Launch) (G : KG) (ma hb xa ra : Nat → Nat) (pn pt : Nat → Nat → Nat) (P lo : Nat → Nat) (ha : Nat → Nat → Nat → Nat) (hpg hlw : Nat → Nat → Nat) (hs old : Nat) (hI : Inv P) (hlk : LoOk P lo) (h5 : hs ≤ 5) (ho : old < 5) (kx ln dn mo : Int32) (hx : ¬ segI kx ln dn mo) : MetI l yX7_addSegment wsX7_addSegment 4 G (plateW G pn P lo ++ (mainW G ma ((pn 0) 0) ((pt 0) 0) (hb 0) (xa 0) (ra 0) ++ (histH G hb hs old (fun k => some (((ha k) 0) 0)) ++ (plateW G (ha 0) (hpg 0) (hlw 0) ++ (plateW G (ha 1) (hpg 1) (hlw 1) ++ (plateW G (ha 2) (hpg 2) (hlw 2) ++ (plateW G (ha 3) (hpg 3) (hlw 3) ++ (plateW G (ha 4) (hpg 4) (hlw 4))))))))) [.ref (ma 0), .int kx, .int ln, .int dn, .int mo] (fun r v => r = -1 ∧ v = plateW G pn P lo ++ (mainW G ma ((pn 0) 0) ((pt 0) 0) (hb 0) (xa 0) (ra 0) ++ (histH G hb hs old (fun k => some (((ha k) 0) 0)) ++ (plateW G (ha 0) (hpg 0) (hlw 0) ++ (plateW G (ha 1) (hpg 1) (hlw 1) ++ (plateW G (ha 2) (hpg 2) (hlw 2) ++ (plateW G (ha 3) (hpg 3) (hlw 3) ++ (plateW G (ha 4) (hpg 4) (hlw 4))))))))) := by
  refine MetI.by (cc := cX7_addSegment) (nL := 5) (ret := some .int) (by decide +kernel) rfl (Nat.le_of_ble_eq_true rfl) ?_
  intro p e s m args below meth c F w ls hl
  have hl : lv_has ls 5 [(0, .ref (ma 0)), (1, .int kx), (2, .int ln), (3, .int dn), (4, .int mo)] := hl
  have hts := F.ts
  have hD := hI.d
  obtain ⟨b9, b11, b20, b12, b13, b25, b23⟩ := hD.bnd
  have h8 := hD.1.1
  have ht := hD.1.top_le
  have h16 := hI.2.2.2.2.2.2.1
  refine lv_iload_n F.1 F.2.1 dX7_addSegment_0 rfl (lv_at hl 1 rfl) ?_
  refine lv_if_lt (tgt := 20) F.1 F.2.1 dX7_addSegment_1 (by decide) (fun c1 => ?_) (fun c1 => ?_)
  · skip
    refine lv_iconst (v := (-1)) F.1 F.2.1 dX7_addSegment_20 (by decide) ?_
    exact r_ireturn F w dX7_addSegment_21 (⟨rfl, rfl⟩)
  · skip
    refine lv_iload_n F.1 F.2.1 dX7_addSegment_4 rfl (lv_at hl 1 rfl) ?_
    refine lv_iconst (v := nI 2) F.1 F.2.1 dX7_addSegment_5 (by decide) ?_
    refine lv_icmp_gt (tgt := 20) F.1 F.2.1 dX7_addSegment_6 (by decide) (fun c6 => ?_) (fun c6 => ?_)
    · skip
      refine lv_iconst (v := (-1)) F.1 F.2.1 dX7_addSegment_20 (by decide) ?_
      exact r_ireturn F w dX7_addSegment_21 (⟨rfl, rfl⟩)
    · skip
      refine lv_iload_n F.1 F.2.1 dX7_addSegment_9 rfl (lv_at hl 1 rfl) ?_
      refine lv_iload_n F.1 F.2.1 dX7_addSegment_10 rfl (lv_at hl 2 rfl) ?_
      refine lv_iload_n F.1 F.2.1 dX7_addSegment_11 rfl (lv_at hl 3 rfl) ?_
      refine lv_iload F.1 F.2.1 dX7_addSegment_12 (lv_at hl 4 rfl) ?_
      refine r_callS0 (rest := []) F w (c_X0_firstWrong l G kx ln dn mo) gX7_addSegment_X0_firstWrong (nA0 := 4) rfl (by decide +kernel) rfl ⟨Nat.le_of_ble_eq_true rfl, Nat.le_of_ble_eq_true rfl⟩ ⟨Nat.le_of_ble_eq_true rfl, Nat.le_of_ble_eq_true rfl⟩ hl rfl (Nat.le_of_ble_eq_true rfl) dX7_addSegment_14 (fun r_14 w1 H locs hp w => ?_)
      obtain ⟨rfl, rfl⟩ := hp
      refine lv_if_eq (tgt := 22) F.1 F.2.1 dX7_addSegment_17 (by decide) (fun c17 => ?_) (fun c17 => ?_)
      · exact absurd (segI_of (Int32.not_lt.mp c1) (Int32.not_lt.mp c6) c17) hx
      · skip
        refine lv_iconst (v := (-1)) F.1 F.2.1 dX7_addSegment_20 (by decide) ?_
        exact r_ireturn F w dX7_addSegment_21 (⟨rfl, rfl⟩)
set_option maxRecDepth 100000 in
set_option maxHeartbeats 4000000 in
theorem c_X7_addSegmentZ (l : Launch) (G : KG) (ma hb xa ra : Nat → Nat) (pn pt : Nat → Nat → Nat) (P lo : Nat → Nat) (ha : Nat → Nat → Nat → Nat) (hpg hlw : Nat → Nat → Nat) (hs old : Nat) (hI : Inv P) (hlk : LoOk P lo) (h5 : hs ≤ 5) (ho : old < 5) (kx ln dn mo : Nat) (hs4 : SegK kx ln dn mo) (hz : P 8 = 20) : MetI l yX7_addSegment wsX7_addSegment 4 G (plateW G pn P lo ++ (mainW G ma ((pn 0) 0) ((pt 0) 0) (hb 0) (xa 0) (ra 0) ++ (histH G hb hs old (fun k => some (((ha k) 0) 0)) ++ (plateW G (ha 0) (hpg 0) (hlw 0) ++ (plateW G (ha 1) (hpg 1) (hlw 1) ++ (plateW G (ha 2) (hpg 2) (hlw 2) ++ (plateW G (ha 3) (hpg 3) (hlw 3) ++ (plateW G (ha 4) (hpg 4) (hlw 4))))))))) [.ref (ma 0), .int (nI kx), .int (nI ln), .int (nI dn), .int (nI mo)] (fun r v => r = -3 ∧ v = plateW G pn P lo ++ (mainW G ma ((pn 0) 0) ((pt 0) 0) (hb 0) (xa 0) (ra 0) ++ (histH G hb hs old (fun k => some (((ha k) 0) 0)) ++ (plateW G (ha 0) (hpg 0) (hlw 0) ++ (plateW G (ha 1) (hpg 1) (hlw 1) ++ (plateW G (ha 2) (hpg 2) (hlw 2) ++ (plateW G (ha 3) (hpg 3) (hlw 3) ++ (plateW G (ha 4) (hpg 4) (hlw 4))))))))) := by
  refine MetI.by (cc := cX7_addSegment) (nL := 5) (ret := some .int) (by decide +kernel) rfl (Nat.le_of_ble_eq_true rfl) ?_
  intro p e s m args below meth c F w ls hl
  have hl : lv_has ls 5 [(0, .ref (ma 0)), (1, .int (nI kx)), (2, .int (nI ln)), (3, .int (nI dn)), (4, .int (nI mo))] := hl
  have hts := F.ts
  have iX3 : ∀ w ∈ wsX30, w ∈ wsX7_addSegment := by decide +kernel
  have iX7 : ∀ w ∈ wsX70, w ∈ wsX7_addSegment := by decide +kernel
  have f10 := hts (.fieldLink RX7 10 "CoreMelter" "now" "LCoreMelter$Plate;") (by decide +kernel)
  have f46 := hts (.fieldLink RX7 46 "CoreMelter$Plate" "core" "LCoreMelter$Core;") (by decide +kernel)
  have hD := hI.d
  obtain ⟨b9, b11, b20, b12, b13, b25, b23⟩ := hD.bnd
  have h8 := hD.1.1
  have ht := hD.1.top_le
  have h16 := hI.2.2.2.2.2.2.1
  obtain ⟨g1, g2, g3, g4⟩ := segK_lt hs4
  refine lv_iload_n F.1 F.2.1 dX7_addSegment_0 rfl (lv_at hl 1 rfl) ?_
  refine r_zlt (tgt := 20) F dX7_addSegment_1 (by decide) (by omega) ?_
  refine lv_iload_n F.1 F.2.1 dX7_addSegment_4 rfl (lv_at hl 1 rfl) ?_
  refine lv_iconst (v := nI 2) F.1 F.2.1 dX7_addSegment_5 (by decide) ?_
  refine r_cgt (tgt := 20) F dX7_addSegment_6 (by decide) (by omega) (by omega) (fun c6 => ?_) (fun c6 => ?_)
  · exact absurd c6 (by omega)
  · skip
    refine lv_iload_n F.1 F.2.1 dX7_addSegment_9 rfl (lv_at hl 1 rfl) ?_
    refine lv_iload_n F.1 F.2.1 dX7_addSegment_10 rfl (lv_at hl 2 rfl) ?_
    refine lv_iload_n F.1 F.2.1 dX7_addSegment_11 rfl (lv_at hl 3 rfl) ?_
    refine lv_iload F.1 F.2.1 dX7_addSegment_12 (lv_at hl 4 rfl) ?_
    refine r_callS0 (rest := []) F w (c_X0_firstWrong l G (nI kx) (nI ln) (nI dn) (nI mo)) gX7_addSegment_X0_firstWrong (nA0 := 4) rfl (by decide +kernel) rfl ⟨Nat.le_of_ble_eq_true rfl, Nat.le_of_ble_eq_true rfl⟩ ⟨Nat.le_of_ble_eq_true rfl, Nat.le_of_ble_eq_true rfl⟩ hl rfl (Nat.le_of_ble_eq_true rfl) dX7_addSegment_14 (fun r_14 w1 H locs hp w => ?_)
    obtain ⟨rfl, rfl⟩ := hp
    refine lv_if_eq (tgt := 22) F.1 F.2.1 dX7_addSegment_17 (by decide) (fun c17 => ?_) (fun c17 => ?_)
    · skip
      have w := w.is (ws' := plH G (pn 0) (pn 1) (pn 2) (pn 3) (fun k => P k) (fun k => P (19 + k)) (P 9) (P 10) (P 11) (P 12) (P 13) (toldF P) (watF P) (P 16) (P 17) (P 18) ++ (coreW G (pn 1) (P 8) (top P) (kdP P) (lnP P) (dnP P) (moP P) lo ++ (linesW G (pn 2) (fun k => P (26 + 5 * k)) (fun k => P (26 + 5 * k + 1)) (fun k => P (26 + 5 * k + 2)) (fun k => P (26 + 5 * k + 3)) (fun k => P (26 + 5 * k + 4)) ++ (vialsW G (pn 3) (P 14) (P 15) (fun k => P (126 + 3 * k)) (fun k => P (126 + 3 * k + 1)) (fun k => P (126 + 3 * k + 2)) ++ (mainW G ma ((pn 0) 0) ((pt 0) 0) (hb 0) (xa 0) (ra 0) ++ (histH G hb hs old (fun k => some (((ha k) 0) 0)) ++ (plateW G (ha 0) (hpg 0) (hlw 0) ++ (plateW G (ha 1) (hpg 1) (hlw 1) ++ (plateW G (ha 2) (hpg 2) (hlw 2) ++ (plateW G (ha 3) (hpg 3) (hlw 3) ++ (plateW G (ha 4) (hpg 4) (hlw 4)))))))))))) (plate_app)
      refine lv_aload_n F.1 F.2.1 dX7_addSegment_22 rfl (lv_at hl 0 rfl) ?_
      refine r_get F w 19 0 iX7 f10 rfl rfl rfl (by decide) rfl dX7_addSegment_23 ?_
      refine r_get F w 0 0 iX3 f46 rfl rfl rfl (by decide) rfl dX7_addSegment_26 ?_
      have w := w.perm (ws' := coreW G (pn 1) (P 8) (top P) (kdP P) (lnP P) (dnP P) (moP P) lo ++ (plH G (pn 0) (pn 1) (pn 2) (pn 3) (fun k => P k) (fun k => P (19 + k)) (P 9) (P 10) (P 11) (P 12) (P 13) (toldF P) (watF P) (P 16) (P 17) (P 18) ++ (linesW G (pn 2) (fun k => P (26 + 5 * k)) (fun k => P (26 + 5 * k + 1)) (fun k => P (26 + 5 * k + 2)) (fun k => P (26 + 5 * k + 3)) (fun k => P (26 + 5 * k + 4)) ++ (vialsW G (pn 3) (P 14) (P 15) (fun k => P (126 + 3 * k)) (fun k => P (126 + 3 * k + 1)) (fun k => P (126 + 3 * k + 2)) ++ (mainW G ma ((pn 0) 0) ((pt 0) 0) (hb 0) (xa 0) (ra 0) ++ (histH G hb hs old (fun k => some (((ha k) 0) 0)) ++ (plateW G (ha 0) (hpg 0) (hlw 0) ++ (plateW G (ha 1) (hpg 1) (hlw 1) ++ (plateW G (ha 2) (hpg 2) (hlw 2) ++ (plateW G (ha 3) (hpg 3) (hlw 3) ++ (plateW G (ha 4) (hpg 4) (hlw 4)))))))))))) (List.perm_append_comm_assoc _ _ _)
      refine b_callVI (rest := []) (wr := plH G (pn 0) (pn 1) (pn 2) (pn 3) (fun k => P k) (fun k => P (19 + k)) (P 9) (P 10) (P 11) (P 12) (P 13) (toldF P) (watF P) (P 16) (P 17) (P 18) ++ (linesW G (pn 2) (fun k => P (26 + 5 * k)) (fun k => P (26 + 5 * k + 1)) (fun k => P (26 + 5 * k + 2)) (fun k => P (26 + 5 * k + 3)) (fun k => P (26 + 5 * k + 4)) ++ (vialsW G (pn 3) (P 14) (P 15) (fun k => P (126 + 3 * k)) (fun k => P (126 + 3 * k + 1)) (fun k => P (126 + 3 * k + 2)) ++ (mainW G ma ((pn 0) 0) ((pt 0) 0) (hb 0) (xa 0) (ra 0) ++ (histH G hb hs old (fun k => some (((ha k) 0) 0)) ++ (plateW G (ha 0) (hpg 0) (hlw 0) ++ (plateW G (ha 1) (hpg 1) (hlw 1) ++ (plateW G (ha 2) (hpg 2) (hlw 2) ++ (plateW G (ha 3) (hpg 3) (hlw 3) ++ (plateW G (ha 4) (hpg 4) (hlw 4))))))))))) F w (c_X0_isFull l G (pn 1) (P 8) (top P) (kdP P) (lnP P) (dnP P) (moP P) lo  (by omega)) rfl gX7_addSegment_X0_isFull (nA0 := 0) rfl (by decide +kernel) rfl ⟨Nat.le_of_ble_eq_true rfl, Nat.le_of_ble_eq_true rfl⟩ ⟨Nat.le_of_ble_eq_true rfl, Nat.le_of_ble_eq_true rfl⟩ rfl rfl hl rfl (Nat.le_of_ble_eq_true rfl) dX7_addSegment_29 (fun r_29 w1 H locs hp w => ?_)
      obtain ⟨rfl, rfl⟩ := hp
      have w := w.perm (ws' := plH G (pn 0) (pn 1) (pn 2) (pn 3) (fun k => P k) (fun k => P (19 + k)) (P 9) (P 10) (P 11) (P 12) (P 13) (toldF P) (watF P) (P 16) (P 17) (P 18) ++ (coreW G (pn 1) (P 8) (top P) (kdP P) (lnP P) (dnP P) (moP P) lo ++ (linesW G (pn 2) (fun k => P (26 + 5 * k)) (fun k => P (26 + 5 * k + 1)) (fun k => P (26 + 5 * k + 2)) (fun k => P (26 + 5 * k + 3)) (fun k => P (26 + 5 * k + 4)) ++ (vialsW G (pn 3) (P 14) (P 15) (fun k => P (126 + 3 * k)) (fun k => P (126 + 3 * k + 1)) (fun k => P (126 + 3 * k + 2)) ++ (mainW G ma ((pn 0) 0) ((pt 0) 0) (hb 0) (xa 0) (ra 0) ++ (histH G hb hs old (fun k => some (((ha k) 0) 0)) ++ (plateW G (ha 0) (hpg 0) (hlw 0) ++ (plateW G (ha 1) (hpg 1) (hlw 1) ++ (plateW G (ha 2) (hpg 2) (hlw 2) ++ (plateW G (ha 3) (hpg 3) (hlw 3) ++ (plateW G (ha 4) (hpg 4) (hlw 4)))))))))))) (List.perm_append_comm_assoc _ _ _)
      refine r_yeq (tgt := 38) F dX7_addSegment_32 (by decide) (fun c32 => ?_) (fun c32 => ?_)
      · exact absurd c32 (by omega)
      · skip
        refine lv_bipush (v := (-3)) F.1 F.2.1 dX7_addSegment_35 (by decide) ?_
        have w := w.is (ws' := plateW G pn P lo ++ (mainW G ma ((pn 0) 0) ((pt 0) 0) (hb 0) (xa 0) (ra 0) ++ (histH G hb hs old (fun k => some (((ha k) 0) 0)) ++ (plateW G (ha 0) (hpg 0) (hlw 0) ++ (plateW G (ha 1) (hpg 1) (hlw 1) ++ (plateW G (ha 2) (hpg 2) (hlw 2) ++ (plateW G (ha 3) (hpg 3) (hlw 3) ++ (plateW G (ha 4) (hpg 4) (hlw 4))))))))) (plate_app.symm)
        exact r_ireturn F w dX7_addSegment_37 (⟨rfl, rfl⟩)
    · exact absurd (fwI_ok hs4) c17
set_option maxRecDepth 100000 in
set_option maxHeartbeats 4000000 in
theorem c_X7_addSegmentN (l : Launch) (G : KG) (ma hb xa ra : Nat → Nat) (pn pt : Nat → Nat → Nat) (P lo : Nat → Nat) (ha : Nat → Nat → Nat → Nat) (hpg hlw : Nat → Nat → Nat) (hs old : Nat) (hI : Inv P) (hlk : LoOk P lo) (h5 : hs ≤ 5) (ho : old < 5) (kx ln dn mo : Nat) (hs4 : SegK kx ln dn mo) (hz : P 8 < 20) : MetI l yX7_addSegment wsX7_addSegment 4 G (plateW G pn P lo ++ (mainW G ma ((pn 0) 0) ((pt 0) 0) (hb 0) (xa 0) (ra 0) ++ (histH G hb hs old (fun k => some (((ha k) 0) 0)) ++ (plateW G (ha 0) (hpg 0) (hlw 0) ++ (plateW G (ha 1) (hpg 1) (hlw 1) ++ (plateW G (ha 2) (hpg 2) (hlw 2) ++ (plateW G (ha 3) (hpg 3) (hlw 3) ++ (plateW G (ha 4) (hpg 4) (hlw 4))))))))) [.ref (ma 0), .int (nI kx), .int (nI ln), .int (nI dn), .int (nI mo)] (fun r v => r = nI (P 8) ∧ v = plateW G pn (addF P kx ln dn mo) (up lo (P 8) (top P)) ++ (mainW G ma ((pn 0) 0) ((pt 0) 0) (hb 0) (xa 0) (ra 0) ++ (histH G hb (sizeN hs) (oldN hs old) (fun k => some (((ha k) 0) 0)) ++ (plateW G (ha 0) ((va_up hpg (slotN hs old) P) 0) ((va_up hlw (slotN hs old) lo) 0) ++ (plateW G (ha 1) ((va_up hpg (slotN hs old) P) 1) ((va_up hlw (slotN hs old) lo) 1) ++ (plateW G (ha 2) ((va_up hpg (slotN hs old) P) 2) ((va_up hlw (slotN hs old) lo) 2) ++ (plateW G (ha 3) ((va_up hpg (slotN hs old) P) 3) ((va_up hlw (slotN hs old) lo) 3) ++ (plateW G (ha 4) ((va_up hpg (slotN hs old) P) 4) ((va_up hlw (slotN hs old) lo) 4))))))))) := by
  refine MetI.by (cc := cX7_addSegment) (nL := 5) (ret := some .int) (by decide +kernel) rfl (Nat.le_of_ble_eq_true rfl) ?_
  intro p e s m args below meth c F w ls hl
  have hl : lv_has ls 5 [(0, .ref (ma 0)), (1, .int (nI kx)), (2, .int (nI ln)), (3, .int (nI dn)), (4, .int (nI mo))] := hl
  have hts := F.ts
  have iX0 : ∀ w ∈ wsX00, w ∈ wsX7_addSegment := by decide +kernel
  have iX3 : ∀ w ∈ wsX30, w ∈ wsX7_addSegment := by decide +kernel
  have iX7 : ∀ w ∈ wsX70, w ∈ wsX7_addSegment := by decide +kernel
  have f10 := hts (.fieldLink RX7 10 "CoreMelter" "now" "LCoreMelter$Plate;") (by decide +kernel)
  have f22 := hts (.fieldLink RX7 22 "CoreMelter" "history" "LCoreMelter$History;") (by decide +kernel)
  have f46 := hts (.fieldLink RX7 46 "CoreMelter$Plate" "core" "LCoreMelter$Core;") (by decide +kernel)
  have f62 := hts (.fieldLink RX7 62 "CoreMelter$Core" "size" "I") (by decide +kernel)
  have hD := hI.d
  obtain ⟨b9, b11, b20, b12, b13, b25, b23⟩ := hD.bnd
  have h8 := hD.1.1
  have ht := hD.1.top_le
  have h16 := hI.2.2.2.2.2.2.1
  obtain ⟨g1, g2, g3, g4⟩ := segK_lt hs4
  refine lv_iload_n F.1 F.2.1 dX7_addSegment_0 rfl (lv_at hl 1 rfl) ?_
  refine r_zlt (tgt := 20) F dX7_addSegment_1 (by decide) (by omega) ?_
  refine lv_iload_n F.1 F.2.1 dX7_addSegment_4 rfl (lv_at hl 1 rfl) ?_
  refine lv_iconst (v := nI 2) F.1 F.2.1 dX7_addSegment_5 (by decide) ?_
  refine r_cgt (tgt := 20) F dX7_addSegment_6 (by decide) (by omega) (by omega) (fun c6 => ?_) (fun c6 => ?_)
  · exact absurd c6 (by omega)
  · skip
    refine lv_iload_n F.1 F.2.1 dX7_addSegment_9 rfl (lv_at hl 1 rfl) ?_
    refine lv_iload_n F.1 F.2.1 dX7_addSegment_10 rfl (lv_at hl 2 rfl) ?_
    refine lv_iload_n F.1 F.2.1 dX7_addSegment_11 rfl (lv_at hl 3 rfl) ?_
    refine lv_iload F.1 F.2.1 dX7_addSegment_12 (lv_at hl 4 rfl) ?_
    refine r_callS0 (rest := []) F w (c_X0_firstWrong l G (nI kx) (nI ln) (nI dn) (nI mo)) gX7_addSegment_X0_firstWrong (nA0 := 4) rfl (by decide +kernel) rfl ⟨Nat.le_of_ble_eq_true rfl, Nat.le_of_ble_eq_true rfl⟩ ⟨Nat.le_of_ble_eq_true rfl, Nat.le_of_ble_eq_true rfl⟩ hl rfl (Nat.le_of_ble_eq_true rfl) dX7_addSegment_14 (fun r_14 w1 H locs hp w => ?_)
    obtain ⟨rfl, rfl⟩ := hp
    refine lv_if_eq (tgt := 22) F.1 F.2.1 dX7_addSegment_17 (by decide) (fun c17 => ?_) (fun c17 => ?_)
    · skip
      have w := w.is (ws' := plH G (pn 0) (pn 1) (pn 2) (pn 3) (fun k => P k) (fun k => P (19 + k)) (P 9) (P 10) (P 11) (P 12) (P 13) (toldF P) (watF P) (P 16) (P 17) (P 18) ++ (coreW G (pn 1) (P 8) (top P) (kdP P) (lnP P) (dnP P) (moP P) lo ++ (linesW G (pn 2) (fun k => P (26 + 5 * k)) (fun k => P (26 + 5 * k + 1)) (fun k => P (26 + 5 * k + 2)) (fun k => P (26 + 5 * k + 3)) (fun k => P (26 + 5 * k + 4)) ++ (vialsW G (pn 3) (P 14) (P 15) (fun k => P (126 + 3 * k)) (fun k => P (126 + 3 * k + 1)) (fun k => P (126 + 3 * k + 2)) ++ (mainW G ma ((pn 0) 0) ((pt 0) 0) (hb 0) (xa 0) (ra 0) ++ (histH G hb hs old (fun k => some (((ha k) 0) 0)) ++ (plateW G (ha 0) (hpg 0) (hlw 0) ++ (plateW G (ha 1) (hpg 1) (hlw 1) ++ (plateW G (ha 2) (hpg 2) (hlw 2) ++ (plateW G (ha 3) (hpg 3) (hlw 3) ++ (plateW G (ha 4) (hpg 4) (hlw 4)))))))))))) (plate_app)
      refine lv_aload_n F.1 F.2.1 dX7_addSegment_22 rfl (lv_at hl 0 rfl) ?_
      refine r_get F w 19 0 iX7 f10 rfl rfl rfl (by decide) rfl dX7_addSegment_23 ?_
      refine r_get F w 0 0 iX3 f46 rfl rfl rfl (by decide) rfl dX7_addSegment_26 ?_
      have w := w.perm (ws' := coreW G (pn 1) (P 8) (top P) (kdP P) (lnP P) (dnP P) (moP P) lo ++ (plH G (pn 0) (pn 1) (pn 2) (pn 3) (fun k => P k) (fun k => P (19 + k)) (P 9) (P 10) (P 11) (P 12) (P 13) (toldF P) (watF P) (P 16) (P 17) (P 18) ++ (linesW G (pn 2) (fun k => P (26 + 5 * k)) (fun k => P (26 + 5 * k + 1)) (fun k => P (26 + 5 * k + 2)) (fun k => P (26 + 5 * k + 3)) (fun k => P (26 + 5 * k + 4)) ++ (vialsW G (pn 3) (P 14) (P 15) (fun k => P (126 + 3 * k)) (fun k => P (126 + 3 * k + 1)) (fun k => P (126 + 3 * k + 2)) ++ (mainW G ma ((pn 0) 0) ((pt 0) 0) (hb 0) (xa 0) (ra 0) ++ (histH G hb hs old (fun k => some (((ha k) 0) 0)) ++ (plateW G (ha 0) (hpg 0) (hlw 0) ++ (plateW G (ha 1) (hpg 1) (hlw 1) ++ (plateW G (ha 2) (hpg 2) (hlw 2) ++ (plateW G (ha 3) (hpg 3) (hlw 3) ++ (plateW G (ha 4) (hpg 4) (hlw 4)))))))))))) (List.perm_append_comm_assoc _ _ _)
      refine b_callVI (rest := []) (wr := plH G (pn 0) (pn 1) (pn 2) (pn 3) (fun k => P k) (fun k => P (19 + k)) (P 9) (P 10) (P 11) (P 12) (P 13) (toldF P) (watF P) (P 16) (P 17) (P 18) ++ (linesW G (pn 2) (fun k => P (26 + 5 * k)) (fun k => P (26 + 5 * k + 1)) (fun k => P (26 + 5 * k + 2)) (fun k => P (26 + 5 * k + 3)) (fun k => P (26 + 5 * k + 4)) ++ (vialsW G (pn 3) (P 14) (P 15) (fun k => P (126 + 3 * k)) (fun k => P (126 + 3 * k + 1)) (fun k => P (126 + 3 * k + 2)) ++ (mainW G ma ((pn 0) 0) ((pt 0) 0) (hb 0) (xa 0) (ra 0) ++ (histH G hb hs old (fun k => some (((ha k) 0) 0)) ++ (plateW G (ha 0) (hpg 0) (hlw 0) ++ (plateW G (ha 1) (hpg 1) (hlw 1) ++ (plateW G (ha 2) (hpg 2) (hlw 2) ++ (plateW G (ha 3) (hpg 3) (hlw 3) ++ (plateW G (ha 4) (hpg 4) (hlw 4))))))))))) F w (c_X0_isFull l G (pn 1) (P 8) (top P) (kdP P) (lnP P) (dnP P) (moP P) lo  (by omega)) rfl gX7_addSegment_X0_isFull (nA0 := 0) rfl (by decide +kernel) rfl ⟨Nat.le_of_ble_eq_true rfl, Nat.le_of_ble_eq_true rfl⟩ ⟨Nat.le_of_ble_eq_true rfl, Nat.le_of_ble_eq_true rfl⟩ rfl rfl hl rfl (Nat.le_of_ble_eq_true rfl) dX7_addSegment_29 (fun r_29 w1 H locs hp w => ?_)
      obtain ⟨rfl, rfl⟩ := hp
      have w := w.perm (ws' := plH G (pn 0) (pn 1) (pn 2) (pn 3) (fun k => P k) (fun k => P (19 + k)) (P 9) (P 10) (P 11) (P 12) (P 13) (toldF P) (watF P) (P 16) (P 17) (P 18) ++ (coreW G (pn 1) (P 8) (top P) (kdP P) (lnP P) (dnP P) (moP P) lo ++ (linesW G (pn 2) (fun k => P (26 + 5 * k)) (fun k => P (26 + 5 * k + 1)) (fun k => P (26 + 5 * k + 2)) (fun k => P (26 + 5 * k + 3)) (fun k => P (26 + 5 * k + 4)) ++ (vialsW G (pn 3) (P 14) (P 15) (fun k => P (126 + 3 * k)) (fun k => P (126 + 3 * k + 1)) (fun k => P (126 + 3 * k + 2)) ++ (mainW G ma ((pn 0) 0) ((pt 0) 0) (hb 0) (xa 0) (ra 0) ++ (histH G hb hs old (fun k => some (((ha k) 0) 0)) ++ (plateW G (ha 0) (hpg 0) (hlw 0) ++ (plateW G (ha 1) (hpg 1) (hlw 1) ++ (plateW G (ha 2) (hpg 2) (hlw 2) ++ (plateW G (ha 3) (hpg 3) (hlw 3) ++ (plateW G (ha 4) (hpg 4) (hlw 4)))))))))))) (List.perm_append_comm_assoc _ _ _)
      refine r_yeq (tgt := 38) F dX7_addSegment_32 (by decide) (fun c32 => ?_) (fun c32 => ?_)
      · skip
        have w := w.is (ws' := plateW G pn P lo ++ (mainW G ma ((pn 0) 0) ((pt 0) 0) (hb 0) (xa 0) (ra 0) ++ (histH G hb hs old (fun k => some (((ha k) 0) 0)) ++ (plateW G (ha 0) (hpg 0) (hlw 0) ++ (plateW G (ha 1) (hpg 1) (hlw 1) ++ (plateW G (ha 2) (hpg 2) (hlw 2) ++ (plateW G (ha 3) (hpg 3) (hlw 3) ++ (plateW G (ha 4) (hpg 4) (hlw 4))))))))) (plate_app.symm)
        refine lv_aload_n F.1 F.2.1 dX7_addSegment_38 rfl (lv_at hl 0 rfl) ?_
        refine r_get F w 19 2 iX7 f22 rfl rfl rfl (by decide) rfl dX7_addSegment_39 ?_
        refine lv_aload_n F.1 F.2.1 dX7_addSegment_42 rfl (lv_at hl 0 rfl) ?_
        refine r_get F w 19 0 iX7 f10 rfl rfl rfl (by decide) rfl dX7_addSegment_43 ?_
        have w := w.perm (ws' := histH G hb hs old (fun k => some (((ha k) 0) 0)) ++ (plateW G (ha 0) (hpg 0) (hlw 0) ++ (plateW G (ha 1) (hpg 1) (hlw 1) ++ (plateW G (ha 2) (hpg 2) (hlw 2) ++ (plateW G (ha 3) (hpg 3) (hlw 3) ++ (plateW G (ha 4) (hpg 4) (hlw 4) ++ (plateW G pn P lo ++ (mainW G ma ((pn 0) 0) ((pt 0) 0) (hb 0) (xa 0) (ra 0))))))))) (((List.Perm.append_left _ (List.perm_append_comm_assoc _ _ _)).trans (List.perm_append_comm_assoc _ _ _)).trans (List.Perm.append_left _ (((List.Perm.append_left _ (List.perm_append_comm_assoc _ _ _)).trans (List.perm_append_comm_assoc _ _ _)).trans (List.Perm.append_left _ (((List.Perm.append_left _ (List.perm_append_comm_assoc _ _ _)).trans (List.perm_append_comm_assoc _ _ _)).trans (List.Perm.append_left _ (((List.Perm.append_left _ (List.perm_append_comm_assoc _ _ _)).trans (List.perm_append_comm_assoc _ _ _)).trans (List.Perm.append_left _ (((List.Perm.append_left _ (List.perm_append_comm_assoc _ _ _)).trans (List.perm_append_comm_assoc _ _ _)).trans (List.Perm.append_left _ ((List.Perm.append_left _ List.perm_append_comm).trans (List.perm_append_comm_assoc _ _ _))))))))))))
        refine b_callVV (rest := []) (wr := mainW G ma ((pn 0) 0) ((pt 0) 0) (hb 0) (xa 0) (ra 0)) F w (c_X1_keep l G hb ha hpg hlw hs old pn P lo h5 ho) ((congrArg (HAppend.hAppend _) ((congrArg (HAppend.hAppend _) ((congrArg (HAppend.hAppend _) ((congrArg (HAppend.hAppend _) ((congrArg (HAppend.hAppend _) (List.append_assoc _ _ _).symm).trans (List.append_assoc _ _ _).symm)).trans (List.append_assoc _ _ _).symm)).trans (List.append_assoc _ _ _).symm)).trans (List.append_assoc _ _ _).symm)).trans (List.append_assoc _ _ _).symm) gX7_addSegment_X1_keep (nA0 := 1) rfl (by decide +kernel) rfl ⟨Nat.le_of_ble_eq_true rfl, Nat.le_of_ble_eq_true rfl⟩ ⟨Nat.le_of_ble_eq_true rfl, Nat.le_of_ble_eq_true rfl⟩ rfl rfl hl rfl (Nat.le_of_ble_eq_true rfl) dX7_addSegment_46 (fun w1 H locs hp w => ?_)
        obtain rfl := hp
        have w := w.is (ws' := histH G hb (sizeN hs) (oldN hs old) (fun k => some (((ha k) 0) 0)) ++ (plateW G (ha 0) ((va_up hpg (slotN hs old) P) 0) ((va_up hlw (slotN hs old) lo) 0) ++ (plateW G (ha 1) ((va_up hpg (slotN hs old) P) 1) ((va_up hlw (slotN hs old) lo) 1) ++ (plateW G (ha 2) ((va_up hpg (slotN hs old) P) 2) ((va_up hlw (slotN hs old) lo) 2) ++ (plateW G (ha 3) ((va_up hpg (slotN hs old) P) 3) ((va_up hlw (slotN hs old) lo) 3) ++ (plateW G (ha 4) ((va_up hpg (slotN hs old) P) 4) ((va_up hlw (slotN hs old) lo) 4) ++ (plateW G pn P lo ++ (mainW G ma ((pn 0) 0) ((pt 0) 0) (hb 0) (xa 0) (ra 0))))))))) ((congrArg (HAppend.hAppend _) ((congrArg (HAppend.hAppend _) ((congrArg (HAppend.hAppend _) ((congrArg (HAppend.hAppend _) ((congrArg (HAppend.hAppend _) (List.append_assoc _ _ _).symm).trans (List.append_assoc _ _ _).symm)).trans (List.append_assoc _ _ _).symm)).trans (List.append_assoc _ _ _).symm)).trans (List.append_assoc _ _ _).symm)).trans (List.append_assoc _ _ _).symm).symm
        have w := w.perm (ws' := plateW G pn P lo ++ (mainW G ma ((pn 0) 0) ((pt 0) 0) (hb 0) (xa 0) (ra 0) ++ (histH G hb (sizeN hs) (oldN hs old) (fun k => some (((ha k) 0) 0)) ++ (plateW G (ha 0) ((va_up hpg (slotN hs old) P) 0) ((va_up hlw (slotN hs old) lo) 0) ++ (plateW G (ha 1) ((va_up hpg (slotN hs old) P) 1) ((va_up hlw (slotN hs old) lo) 1) ++ (plateW G (ha 2) ((va_up hpg (slotN hs old) P) 2) ((va_up hlw (slotN hs old) lo) 2) ++ (plateW G (ha 3) ((va_up hpg (slotN hs old) P) 3) ((va_up hlw (slotN hs old) lo) 3) ++ (plateW G (ha 4) ((va_up hpg (slotN hs old) P) 4) ((va_up hlw (slotN hs old) lo) 4))))))))) (((List.Perm.append_left _ ((List.Perm.append_left _ ((List.Perm.append_left _ ((List.Perm.append_left _ ((List.Perm.append_left _ (List.perm_append_comm_assoc _ _ _)).trans (List.perm_append_comm_assoc _ _ _))).trans (List.perm_append_comm_assoc _ _ _))).trans (List.perm_append_comm_assoc _ _ _))).trans (List.perm_append_comm_assoc _ _ _))).trans (List.perm_append_comm_assoc _ _ _)).trans (List.Perm.append_left _ ((List.Perm.append_left _ ((List.Perm.append_left _ ((List.Perm.append_left _ ((List.Perm.append_left _ ((List.Perm.append_left _ List.perm_append_comm).trans (List.perm_append_comm_assoc _ _ _))).trans (List.perm_append_comm_assoc _ _ _))).trans (List.perm_append_comm_assoc _ _ _))).trans (List.perm_append_comm_assoc _ _ _))).trans (List.perm_append_comm_assoc _ _ _))))
        have w := w.is (ws' := plH G (pn 0) (pn 1) (pn 2) (pn 3) (fun k => P k) (fun k => P (19 + k)) (P 9) (P 10) (P 11) (P 12) (P 13) (toldF P) (watF P) (P 16) (P 17) (P 18) ++ (coreW G (pn 1) (P 8) (top P) (kdP P) (lnP P) (dnP P) (moP P) lo ++ (linesW G (pn 2) (fun k => P (26 + 5 * k)) (fun k => P (26 + 5 * k + 1)) (fun k => P (26 + 5 * k + 2)) (fun k => P (26 + 5 * k + 3)) (fun k => P (26 + 5 * k + 4)) ++ (vialsW G (pn 3) (P 14) (P 15) (fun k => P (126 + 3 * k)) (fun k => P (126 + 3 * k + 1)) (fun k => P (126 + 3 * k + 2)) ++ (mainW G ma ((pn 0) 0) ((pt 0) 0) (hb 0) (xa 0) (ra 0) ++ (histH G hb (sizeN hs) (oldN hs old) (fun k => some (((ha k) 0) 0)) ++ (plateW G (ha 0) ((va_up hpg (slotN hs old) P) 0) ((va_up hlw (slotN hs old) lo) 0) ++ (plateW G (ha 1) ((va_up hpg (slotN hs old) P) 1) ((va_up hlw (slotN hs old) lo) 1) ++ (plateW G (ha 2) ((va_up hpg (slotN hs old) P) 2) ((va_up hlw (slotN hs old) lo) 2) ++ (plateW G (ha 3) ((va_up hpg (slotN hs old) P) 3) ((va_up hlw (slotN hs old) lo) 3) ++ (plateW G (ha 4) ((va_up hpg (slotN hs old) P) 4) ((va_up hlw (slotN hs old) lo) 4)))))))))))) (plate_app)
        refine lv_aload_n F.1 F.2.1 dX7_addSegment_49 rfl (lv_at hl 0 rfl) ?_
        refine r_get F w 19 0 iX7 f10 rfl rfl rfl (by decide) rfl dX7_addSegment_50 ?_
        refine r_get F w 0 0 iX3 f46 rfl rfl rfl (by decide) rfl dX7_addSegment_53 ?_
        refine lv_iload_n F.1 F.2.1 dX7_addSegment_56 rfl (lv_at hl 1 rfl) ?_
        refine lv_iload_n F.1 F.2.1 dX7_addSegment_57 rfl (lv_at hl 2 rfl) ?_
        refine lv_iload_n F.1 F.2.1 dX7_addSegment_58 rfl (lv_at hl 3 rfl) ?_
        refine lv_iload F.1 F.2.1 dX7_addSegment_59 (lv_at hl 4 rfl) ?_
        have w := w.perm (ws' := coreW G (pn 1) (P 8) (top P) (kdP P) (lnP P) (dnP P) (moP P) lo ++ (plH G (pn 0) (pn 1) (pn 2) (pn 3) (fun k => P k) (fun k => P (19 + k)) (P 9) (P 10) (P 11) (P 12) (P 13) (toldF P) (watF P) (P 16) (P 17) (P 18) ++ (linesW G (pn 2) (fun k => P (26 + 5 * k)) (fun k => P (26 + 5 * k + 1)) (fun k => P (26 + 5 * k + 2)) (fun k => P (26 + 5 * k + 3)) (fun k => P (26 + 5 * k + 4)) ++ (vialsW G (pn 3) (P 14) (P 15) (fun k => P (126 + 3 * k)) (fun k => P (126 + 3 * k + 1)) (fun k => P (126 + 3 * k + 2)) ++ (mainW G ma ((pn 0) 0) ((pt 0) 0) (hb 0) (xa 0) (ra 0) ++ (histH G hb (sizeN hs) (oldN hs old) (fun k => some (((ha k) 0) 0)) ++ (plateW G (ha 0) ((va_up hpg (slotN hs old) P) 0) ((va_up hlw (slotN hs old) lo) 0) ++ (plateW G (ha 1) ((va_up hpg (slotN hs old) P) 1) ((va_up hlw (slotN hs old) lo) 1) ++ (plateW G (ha 2) ((va_up hpg (slotN hs old) P) 2) ((va_up hlw (slotN hs old) lo) 2) ++ (plateW G (ha 3) ((va_up hpg (slotN hs old) P) 3) ((va_up hlw (slotN hs old) lo) 3) ++ (plateW G (ha 4) ((va_up hpg (slotN hs old) P) 4) ((va_up hlw (slotN hs old) lo) 4)))))))))))) (List.perm_append_comm_assoc _ _ _)
        refine b_callVV (rest := []) (wr := plH G (pn 0) (pn 1) (pn 2) (pn 3) (fun k => P k) (fun k => P (19 + k)) (P 9) (P 10) (P 11) (P 12) (P 13) (toldF P) (watF P) (P 16) (P 17) (P 18) ++ (linesW G (pn 2) (fun k => P (26 + 5 * k)) (fun k => P (26 + 5 * k + 1)) (fun k => P (26 + 5 * k + 2)) (fun k => P (26 + 5 * k + 3)) (fun k => P (26 + 5 * k + 4)) ++ (vialsW G (pn 3) (P 14) (P 15) (fun k => P (126 + 3 * k)) (fun k => P (126 + 3 * k + 1)) (fun k => P (126 + 3 * k + 2)) ++ (mainW G ma ((pn 0) 0) ((pt 0) 0) (hb 0) (xa 0) (ra 0) ++ (histH G hb (sizeN hs) (oldN hs old) (fun k => some (((ha k) 0) 0)) ++ (plateW G (ha 0) ((va_up hpg (slotN hs old) P) 0) ((va_up hlw (slotN hs old) lo) 0) ++ (plateW G (ha 1) ((va_up hpg (slotN hs old) P) 1) ((va_up hlw (slotN hs old) lo) 1) ++ (plateW G (ha 2) ((va_up hpg (slotN hs old) P) 2) ((va_up hlw (slotN hs old) lo) 2) ++ (plateW G (ha 3) ((va_up hpg (slotN hs old) P) 3) ((va_up hlw (slotN hs old) lo) 3) ++ (plateW G (ha 4) ((va_up hpg (slotN hs old) P) 4) ((va_up hlw (slotN hs old) lo) 4))))))))))) F w (c_X0_put l G (pn 1) (P 8) (top P) (kdP P) (lnP P) (dnP P) (moP P) lo kx ln dn mo (by omega)) rfl gX7_addSegment_X0_put (nA0 := 4) rfl (by decide +kernel) rfl ⟨Nat.le_of_ble_eq_true rfl, Nat.le_of_ble_eq_true rfl⟩ ⟨Nat.le_of_ble_eq_true rfl, Nat.le_of_ble_eq_true rfl⟩ rfl rfl hl rfl (Nat.le_of_ble_eq_true rfl) dX7_addSegment_61 (fun w1 H locs hp w => ?_)
        obtain rfl := hp
        have w := w.perm (ws' := plH G (pn 0) (pn 1) (pn 2) (pn 3) (fun k => P k) (fun k => P (19 + k)) (P 9) (P 10) (P 11) (P 12) (P 13) (toldF P) (watF P) (P 16) (P 17) (P 18) ++ (coreW G (pn 1) ((P 8) + 1) ((top P) + ln) (up (kdP P) (P 8) kx) (up (lnP P) (P 8) ln) (up (dnP P) (P 8) dn) (up (moP P) (P 8) mo) (up lo (P 8) (top P)) ++ (linesW G (pn 2) (fun k => P (26 + 5 * k)) (fun k => P (26 + 5 * k + 1)) (fun k => P (26 + 5 * k + 2)) (fun k => P (26 + 5 * k + 3)) (fun k => P (26 + 5 * k + 4)) ++ (vialsW G (pn 3) (P 14) (P 15) (fun k => P (126 + 3 * k)) (fun k => P (126 + 3 * k + 1)) (fun k => P (126 + 3 * k + 2)) ++ (mainW G ma ((pn 0) 0) ((pt 0) 0) (hb 0) (xa 0) (ra 0) ++ (histH G hb (sizeN hs) (oldN hs old) (fun k => some (((ha k) 0) 0)) ++ (plateW G (ha 0) ((va_up hpg (slotN hs old) P) 0) ((va_up hlw (slotN hs old) lo) 0) ++ (plateW G (ha 1) ((va_up hpg (slotN hs old) P) 1) ((va_up hlw (slotN hs old) lo) 1) ++ (plateW G (ha 2) ((va_up hpg (slotN hs old) P) 2) ((va_up hlw (slotN hs old) lo) 2) ++ (plateW G (ha 3) ((va_up hpg (slotN hs old) P) 3) ((va_up hlw (slotN hs old) lo) 3) ++ (plateW G (ha 4) ((va_up hpg (slotN hs old) P) 4) ((va_up hlw (slotN hs old) lo) 4)))))))))))) (List.perm_append_comm_assoc _ _ _)
        refine lv_aload_n F.1 F.2.1 dX7_addSegment_64 rfl (lv_at hl 0 rfl) ?_
        refine r_get F w 19 0 iX7 f10 rfl rfl rfl (by decide) rfl dX7_addSegment_65 ?_
        refine r_get F w 0 0 iX3 f46 rfl rfl rfl (by decide) rfl dX7_addSegment_68 ?_
        refine r_get F w 3 0 iX0 f62 rfl rfl rfl (by decide) rfl dX7_addSegment_71 ?_
        refine lv_iconst (v := nI 1) F.1 F.2.1 dX7_addSegment_74 (by decide) ?_
        
        refine r_isub F dX7_addSegment_75 (by omega) ?_
        refine r_to (y := (nI (P 8))) (congrArg nI (Nat.add_sub_cancel (P 8) 1)) ?_
        have w := w.eq (ws' := plH G (pn 0) (pn 1) (pn 2) (pn 3) (fun k => (addF P kx ln dn mo) k) (fun k => (addF P kx ln dn mo) (19 + k)) ((addF P kx ln dn mo) 9) ((addF P kx ln dn mo) 10) ((addF P kx ln dn mo) 11) ((addF P kx ln dn mo) 12) ((addF P kx ln dn mo) 13) (toldF (addF P kx ln dn mo)) (watF (addF P kx ln dn mo)) ((addF P kx ln dn mo) 16) ((addF P kx ln dn mo) 17) ((addF P kx ln dn mo) 18) ++ (coreW G (pn 1) ((addF P kx ln dn mo) 8) (top (addF P kx ln dn mo)) (kdP (addF P kx ln dn mo)) (lnP (addF P kx ln dn mo)) (dnP (addF P kx ln dn mo)) (moP (addF P kx ln dn mo)) (up lo (P 8) (top P)) ++ (linesW G (pn 2) (fun k => (addF P kx ln dn mo) (26 + 5 * k)) (fun k => (addF P kx ln dn mo) (26 + 5 * k + 1)) (fun k => (addF P kx ln dn mo) (26 + 5 * k + 2)) (fun k => (addF P kx ln dn mo) (26 + 5 * k + 3)) (fun k => (addF P kx ln dn mo) (26 + 5 * k + 4)) ++ (vialsW G (pn 3) ((addF P kx ln dn mo) 14) ((addF P kx ln dn mo) 15) (fun k => (addF P kx ln dn mo) (126 + 3 * k)) (fun k => (addF P kx ln dn mo) (126 + 3 * k + 1)) (fun k => (addF P kx ln dn mo) (126 + 3 * k + 2)) ++ (mainW G ma ((pn 0) 0) ((pt 0) 0) (hb 0) (xa 0) (ra 0) ++ (histH G hb (sizeN hs) (oldN hs old) (fun k => some (((ha k) 0) 0)) ++ (plateW G (ha 0) ((va_up hpg (slotN hs old) P) 0) ((va_up hlw (slotN hs old) lo) 0) ++ (plateW G (ha 1) ((va_up hpg (slotN hs old) P) 1) ((va_up hlw (slotN hs old) lo) 1) ++ (plateW G (ha 2) ((va_up hpg (slotN hs old) P) 2) ((va_up hlw (slotN hs old) lo) 2) ++ (plateW G (ha 3) ((va_up hpg (slotN hs old) P) 3) ((va_up hlw (slotN hs old) lo) 3) ++ (plateW G (ha 4) ((va_up hpg (slotN hs old) P) 4) ((va_up hlw (slotN hs old) lo) 4)))))))))))) (eqW.app (plH_eq (addF_hi P kx ln dn mo (by omega) (by omega)).symm (addF_hi P kx ln dn mo (by omega) (by omega)).symm (addF_hi P kx ln dn mo (by omega) (by omega)).symm (addF_hi P kx ln dn mo (by omega) (by omega)).symm (addF_hi P kx ln dn mo (by omega) (by omega)).symm (add_told hI hs4 hz).symm (add_watF hI hs4 hz).symm (addF_hi P kx ln dn mo (by omega) (by omega)).symm (addF_hi P kx ln dn mo (by omega) (by omega)).symm (addF_hi P kx ln dn mo (by omega) (by omega)).symm (fun j hj => (addF_hi P kx ln dn mo (j := j) (by omega) (by omega)).symm) (fun j hj => (addF_hi P kx ln dn mo (by omega) (by omega)).symm)) (eqW.app (coreW_eq (addF_8 P kx ln dn mo).symm (addF_top P kx ln dn mo).symm (fun j hj => (addF_seg P kx ln dn mo j).1.symm) (fun j hj => (addF_seg P kx ln dn mo j).2.1.symm) (fun j hj => (addF_seg P kx ln dn mo j).2.2.1.symm) (fun j hj => (addF_seg P kx ln dn mo j).2.2.2.symm) (fun _ _ => rfl)) (eqW.app (linesW_eq (fun j hj => (addF_hi P kx ln dn mo (by omega) (by omega)).symm) (fun j hj => (addF_hi P kx ln dn mo (by omega) (by omega)).symm) (fun j hj => (addF_hi P kx ln dn mo (by omega) (by omega)).symm) (fun j hj => (addF_hi P kx ln dn mo (by omega) (by omega)).symm) (fun j hj => (addF_hi P kx ln dn mo (by omega) (by omega)).symm)) (eqW.app (vialsW_eq (addF_hi P kx ln dn mo (by omega) (by omega)).symm (addF_hi P kx ln dn mo (by omega) (by omega)).symm (fun j hj => (addF_hi P kx ln dn mo (by omega) (by omega)).symm) (fun j hj => (addF_hi P kx ln dn mo (by omega) (by omega)).symm) (fun j hj => (addF_hi P kx ln dn mo (by omega) (by omega)).symm)) (eqW.rf _)))))
        have w := w.is (ws' := plateW G pn (addF P kx ln dn mo) (up lo (P 8) (top P)) ++ (mainW G ma ((pn 0) 0) ((pt 0) 0) (hb 0) (xa 0) (ra 0) ++ (histH G hb (sizeN hs) (oldN hs old) (fun k => some (((ha k) 0) 0)) ++ (plateW G (ha 0) ((va_up hpg (slotN hs old) P) 0) ((va_up hlw (slotN hs old) lo) 0) ++ (plateW G (ha 1) ((va_up hpg (slotN hs old) P) 1) ((va_up hlw (slotN hs old) lo) 1) ++ (plateW G (ha 2) ((va_up hpg (slotN hs old) P) 2) ((va_up hlw (slotN hs old) lo) 2) ++ (plateW G (ha 3) ((va_up hpg (slotN hs old) P) 3) ((va_up hlw (slotN hs old) lo) 3) ++ (plateW G (ha 4) ((va_up hpg (slotN hs old) P) 4) ((va_up hlw (slotN hs old) lo) 4))))))))) (plate_app.symm)
        exact r_ireturn F w dX7_addSegment_76 (⟨rfl, rfl⟩)
      · exact absurd c32 (by omega)
    · exact absurd (fwI_ok hs4) c17

