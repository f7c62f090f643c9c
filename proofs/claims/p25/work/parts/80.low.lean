/-! ===== p25: the law's methods low and lot ===== -/
theorem m31 : (2147483647 : Int32).toBitVec.toNat = 2 ^ 31 - 1 := by decide +kernel
set_option maxHeartbeats 4000000 in
theorem c_L_low (l : Launch) (G : KG) (v : Int32) {n : Nat} (hn : 0 < n) (h31 : n < 2 ^ 31 := by decide) : MetI l yL_low wsL_low 0 G [] [.int v, .int (nI n)] (fun r w => r = nI (lowF v n) ∧ w = []) := by
  refine MetI.by (cc := cL_low) (nL := 2) (ret := some .int) (by decide +kernel) rfl (Nat.le_of_ble_eq_true rfl) ?_
  intro p e s m args below meth c F w ls hl
  have hl : lv_has ls 2 [(0, .int v), (1, .int (nI n))] := hl
  refine lv_iload_n F.1 F.2.1 dL_low_0 rfl (lv_at hl 0 rfl) ?_
  refine lv_ldc (v := 2147483647) F.1 F.2.1 F.2.2.2.1 (F.ts (.constant RL 8 (2147483647)) (by decide +kernel)) dL_low_1 ?_
  refine lv_iand F.1 F.2.1 dL_low_3 ?_
  refine r_to (y := nI (v.toBitVec.toNat % 2 ^ 31)) (pk_and v 31 m31) ?_
  refine lv_iload_n F.1 F.2.1 dL_low_4 rfl (lv_at hl 1 rfl) ?_
  refine r_irem F dL_low_5 (Nat.mod_lt _ (by decide)) hn h31 ?_
  exact r_ireturn F w dL_low_6 ⟨rfl, rfl⟩
set_option maxHeartbeats 4000000 in
theorem c_L_lot (l : Launch) (G : KG) (b L k : Nat) (xs : Nat → Int32) (hL : L < 2 ^ 31) (hk : k < 2 ^ 31) : MetIX l yL_lot wsL_lot 0 G [] [.ref b, .int (nI k)] (scrX b L xs) (fun _ w => True ∧ w = []) := by
  refine MetIX.by (cc := cL_lot) (nL := 2) (ret := some .int) (by decide +kernel) rfl (Nat.le_of_ble_eq_true rfl) ?_
  intro p e s m args below meth c F hX w ls hl
  have hl : lv_has ls 2 [(0, .ref b), (1, .int (nI k))] := hl
  refine lv_iload_n F.1 F.2.1 dL_lot_0 rfl (lv_at hl 1 rfl) ?_
  refine lv_aload_n F.1 F.2.1 dL_lot_1 rfl (lv_at hl 0 rfl) ?_
  refine va_slen F.1 F.2.1 hX.1 hX.2.1 hX.2.2 w.2.2.1 dL_lot_2 ?_
  refine r_cge (a := k) (b := L) (tgt := 12) F dL_lot_3 (by decide) hk hL (fun c3 => ?_) (fun c3 => ?_)
  · refine lv_ldc (v := 1708378545) F.1 F.2.1 F.2.2.2.1 (F.ts (.constant RL 7 (1708378545)) (by decide +kernel)) dL_lot_12 ?_
    refine lv_iload_n F.1 F.2.1 dL_lot_14 rfl (lv_at hl 1 rfl) ?_
    refine lv_sipush (v := nI 1811) F.1 F.2.1 dL_lot_15 (by decide) ?_
    refine lv_iadd F.1 F.2.1 dL_lot_18 ?_
    refine lv_imul F.1 F.2.1 dL_lot_19 ?_
    refine lv_sipush (v := nI 1613) F.1 F.2.1 dL_lot_20 (by decide) ?_
    refine lv_iadd F.1 F.2.1 dL_lot_23 ?_
    exact r_ireturn F w dL_lot_24 ⟨trivial, rfl⟩
  · refine lv_aload_n F.1 F.2.1 dL_lot_6 rfl (lv_at hl 0 rfl) ?_
    refine lv_iload_n F.1 F.2.1 dL_lot_7 rfl (lv_at hl 1 rfl) ?_
    refine va_sld F.1 F.2.1 hX.1 hX.2.1 hX.2.2 w.2.2.1 (vp_in_nI c3 hL) dL_lot_8 ?_
    refine lv_goto (tgt := 24) F.1 F.2.1 dL_lot_9 (by decide) ?_
    exact r_ireturn F w dL_lot_24 ⟨trivial, rfl⟩
