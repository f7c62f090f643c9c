set_option maxRecDepth 100000 in
set_option maxHeartbeats 4000000 in
theorem c_X8_isSettingM (l : Launch) (G : KG) (x y : Int32) (hx : ¬ (nI 0 ≤ x ∧ x < nI 8)) : MetI l yX8_isSetting wsX8_isSetting 1 G (([] : va_W)) [.int x, .int y] (fun r w => r = yn False ∧ w = []) := by
  refine MetI.by (cc := cX8_isSetting) (nL := 2) (ret := some .boolean) (by decide +kernel) rfl (Nat.le_of_ble_eq_true rfl) ?_
  intro p e s m args below meth c F w ls hl
  have hl : lv_has ls 2 [(0, .int x), (1, .int y)] := hl
  have hts := F.ts
  refine lv_iload_n F.1 F.2.1 dX8_isSetting_0 rfl (lv_at hl 0 rfl) ?_
  by_cases k1_0 : x = nI 0
  · refine r_swIn (k := nI 0) (tgt := 48) F dX8_isSetting_1 k1_0 (by decide) (by decide) (off := 47) (by decide) (by decide) ?_
    exact absurd hx (fun q => q (by rw [k1_0]; decide))
  by_cases k1_1 : x = nI 1
  · refine r_swIn (k := nI 1) (tgt := 57) F dX8_isSetting_1 k1_1 (by decide) (by decide) (off := 56) (by decide) (by decide) ?_
    exact absurd hx (fun q => q (by rw [k1_1]; decide))
  by_cases k1_2 : x = nI 2
  · refine r_swIn (k := nI 2) (tgt := 67) F dX8_isSetting_1 k1_2 (by decide) (by decide) (off := 66) (by decide) (by decide) ?_
    exact absurd hx (fun q => q (by rw [k1_2]; decide))
  by_cases k1_3 : x = nI 3
  · refine r_swIn (k := nI 3) (tgt := 77) F dX8_isSetting_1 k1_3 (by decide) (by decide) (off := 76) (by decide) (by decide) ?_
    exact absurd hx (fun q => q (by rw [k1_3]; decide))
  by_cases k1_4 : x = nI 4
  · refine r_swIn (k := nI 4) (tgt := 86) F dX8_isSetting_1 k1_4 (by decide) (by decide) (off := 85) (by decide) (by decide) ?_
    exact absurd hx (fun q => q (by rw [k1_4]; decide))
  by_cases k1_5 : x = nI 5
  · refine r_swIn (k := nI 5) (tgt := 96) F dX8_isSetting_1 k1_5 (by decide) (by decide) (off := 95) (by decide) (by decide) ?_
    exact absurd hx (fun q => q (by rw [k1_5]; decide))
  by_cases k1_6 : x = nI 6
  · refine r_swIn (k := nI 6) (tgt := 86) F dX8_isSetting_1 k1_6 (by decide) (by decide) (off := 85) (by decide) (by decide) ?_
    exact absurd hx (fun q => q (by rw [k1_6]; decide))
  by_cases k1_7 : x = nI 7
  · refine r_swIn (k := nI 7) (tgt := 105) F dX8_isSetting_1 k1_7 (by decide) (by decide) (off := 104) (by decide) (by decide) ?_
    exact absurd hx (fun q => q (by rw [k1_7]; decide))
  refine r_swOut (tgt := 113) F dX8_isSetting_1 (by have q0 := lv_neT (a := 0) k1_0 (by decide); have q1 := lv_neT (a := 1) k1_1 (by decide); have q2 := lv_neT (a := 2) k1_2 (by decide); have q3 := lv_neT (a := 3) k1_3 (by decide); have q4 := lv_neT (a := 4) k1_4 (by decide); have q5 := lv_neT (a := 5) k1_5 (by decide); have q6 := lv_neT (a := 6) k1_6 (by decide); have q7 := lv_neT (a := 7) k1_7 (by decide); omega) (by decide) ?_
  refine lv_iconst (v := nI 0) F.1 F.2.1 dX8_isSetting_113 (by decide) ?_
  exact r_zreturn F w dX8_isSetting_114 rfl (⟨yn_f id, rfl⟩)
set_option maxRecDepth 100000 in
set_option maxHeartbeats 4000000 in
theorem c_X8_isSettingK (l : Launch) (G : KG) (w0 : Nat) (y : Int32) (hw : w0 < 8) : MetI l yX8_isSetting wsX8_isSetting 1 G (([] : va_W)) [.int (nI w0), .int y] (fun r w => r = yn (nI (leastF w0) ≤ y ∧ y ≤ nI (mostF w0)) ∧ w = []) := by
  refine MetI.by (cc := cX8_isSetting) (nL := 2) (ret := some .boolean) (by decide +kernel) rfl (Nat.le_of_ble_eq_true rfl) ?_
  intro p e s m args below meth c F w ls hl
  have hl : lv_has ls 2 [(0, .int (nI w0)), (1, .int y)] := hl
  have hts := F.ts
  refine lv_iload_n F.1 F.2.1 dX8_isSetting_0 rfl (lv_at hl 0 rfl) ?_
  by_cases k1_0 : w0 = 0
  · refine r_swIn (k := nI 0) (tgt := 48) F dX8_isSetting_1 (congrArg nI k1_0) (by decide) (by decide) (off := 47) (by decide) (by decide) ?_
    refine lv_iload_n F.1 F.2.1 dX8_isSetting_48 rfl (lv_at hl 1 rfl) ?_
    refine lv_iconst (v := nI 0) F.1 F.2.1 dX8_isSetting_49 (by decide) ?_
    refine lv_sipush (v := nI 200) F.1 F.2.1 dX8_isSetting_50 (by decide) ?_
    refine r_callS0 (rest := []) F w (c_X8_in l G y (nI 0) (nI 200)) gX8_isSetting_X8_in (nA0 := 3) rfl (by decide +kernel) rfl ⟨Nat.le_of_ble_eq_true rfl, Nat.le_of_ble_eq_true rfl⟩ ⟨Nat.le_of_ble_eq_true rfl, Nat.le_of_ble_eq_true rfl⟩ hl rfl (Nat.le_of_ble_eq_true rfl) dX8_isSetting_53 (fun r_53 w1 H locs hp w => ?_)
    obtain ⟨rfl, rfl⟩ := hp
    exact r_zreturn F w dX8_isSetting_56 (yn_nar _) (⟨by first | (subst k1_0; rfl) | (subst k1_1; rfl) | (subst k1_2; rfl) | (subst k1_3; rfl) | (subst k1_4; rfl) | (subst k1_5; rfl) | (subst k1_6; rfl) | (subst k1_7; rfl), rfl⟩)
  by_cases k1_1 : w0 = 1
  · refine r_swIn (k := nI 1) (tgt := 57) F dX8_isSetting_1 (congrArg nI k1_1) (by decide) (by decide) (off := 56) (by decide) (by decide) ?_
    refine lv_iload_n F.1 F.2.1 dX8_isSetting_57 rfl (lv_at hl 1 rfl) ?_
    refine lv_bipush (v := nI 10) F.1 F.2.1 dX8_isSetting_58 (by decide) ?_
    refine lv_sipush (v := nI 200) F.1 F.2.1 dX8_isSetting_60 (by decide) ?_
    refine r_callS0 (rest := []) F w (c_X8_in l G y (nI 10) (nI 200)) gX8_isSetting_X8_in (nA0 := 3) rfl (by decide +kernel) rfl ⟨Nat.le_of_ble_eq_true rfl, Nat.le_of_ble_eq_true rfl⟩ ⟨Nat.le_of_ble_eq_true rfl, Nat.le_of_ble_eq_true rfl⟩ hl rfl (Nat.le_of_ble_eq_true rfl) dX8_isSetting_63 (fun r_63 w1 H locs hp w => ?_)
    obtain ⟨rfl, rfl⟩ := hp
    exact r_zreturn F w dX8_isSetting_66 (yn_nar _) (⟨by first | (subst k1_0; rfl) | (subst k1_1; rfl) | (subst k1_2; rfl) | (subst k1_3; rfl) | (subst k1_4; rfl) | (subst k1_5; rfl) | (subst k1_6; rfl) | (subst k1_7; rfl), rfl⟩)
  by_cases k1_2 : w0 = 2
  · refine r_swIn (k := nI 2) (tgt := 67) F dX8_isSetting_1 (congrArg nI k1_2) (by decide) (by decide) (off := 66) (by decide) (by decide) ?_
    refine lv_iload_n F.1 F.2.1 dX8_isSetting_67 rfl (lv_at hl 1 rfl) ?_
    refine lv_bipush (v := nI 100) F.1 F.2.1 dX8_isSetting_68 (by decide) ?_
    refine lv_sipush (v := nI 20000) F.1 F.2.1 dX8_isSetting_70 (by decide) ?_
    refine r_callS0 (rest := []) F w (c_X8_in l G y (nI 100) (nI 20000)) gX8_isSetting_X8_in (nA0 := 3) rfl (by decide +kernel) rfl ⟨Nat.le_of_ble_eq_true rfl, Nat.le_of_ble_eq_true rfl⟩ ⟨Nat.le_of_ble_eq_true rfl, Nat.le_of_ble_eq_true rfl⟩ hl rfl (Nat.le_of_ble_eq_true rfl) dX8_isSetting_73 (fun r_73 w1 H locs hp w => ?_)
    obtain ⟨rfl, rfl⟩ := hp
    exact r_zreturn F w dX8_isSetting_76 (yn_nar _) (⟨by first | (subst k1_0; rfl) | (subst k1_1; rfl) | (subst k1_2; rfl) | (subst k1_3; rfl) | (subst k1_4; rfl) | (subst k1_5; rfl) | (subst k1_6; rfl) | (subst k1_7; rfl), rfl⟩)
  by_cases k1_3 : w0 = 3
  · refine r_swIn (k := nI 3) (tgt := 77) F dX8_isSetting_1 (congrArg nI k1_3) (by decide) (by decide) (off := 76) (by decide) (by decide) ?_
    refine lv_iload_n F.1 F.2.1 dX8_isSetting_77 rfl (lv_at hl 1 rfl) ?_
    refine lv_iconst (v := nI 1) F.1 F.2.1 dX8_isSetting_78 (by decide) ?_
    refine lv_sipush (v := nI 500) F.1 F.2.1 dX8_isSetting_79 (by decide) ?_
    refine r_callS0 (rest := []) F w (c_X8_in l G y (nI 1) (nI 500)) gX8_isSetting_X8_in (nA0 := 3) rfl (by decide +kernel) rfl ⟨Nat.le_of_ble_eq_true rfl, Nat.le_of_ble_eq_true rfl⟩ ⟨Nat.le_of_ble_eq_true rfl, Nat.le_of_ble_eq_true rfl⟩ hl rfl (Nat.le_of_ble_eq_true rfl) dX8_isSetting_82 (fun r_82 w1 H locs hp w => ?_)
    obtain ⟨rfl, rfl⟩ := hp
    exact r_zreturn F w dX8_isSetting_85 (yn_nar _) (⟨by first | (subst k1_0; rfl) | (subst k1_1; rfl) | (subst k1_2; rfl) | (subst k1_3; rfl) | (subst k1_4; rfl) | (subst k1_5; rfl) | (subst k1_6; rfl) | (subst k1_7; rfl), rfl⟩)
  by_cases k1_4 : w0 = 4
  · refine r_swIn (k := nI 4) (tgt := 86) F dX8_isSetting_1 (congrArg nI k1_4) (by decide) (by decide) (off := 85) (by decide) (by decide) ?_
    refine lv_iload_n F.1 F.2.1 dX8_isSetting_86 rfl (lv_at hl 1 rfl) ?_
    refine lv_bipush (v := nI 50) F.1 F.2.1 dX8_isSetting_87 (by decide) ?_
    refine lv_sipush (v := nI 5000) F.1 F.2.1 dX8_isSetting_89 (by decide) ?_
    refine r_callS0 (rest := []) F w (c_X8_in l G y (nI 50) (nI 5000)) gX8_isSetting_X8_in (nA0 := 3) rfl (by decide +kernel) rfl ⟨Nat.le_of_ble_eq_true rfl, Nat.le_of_ble_eq_true rfl⟩ ⟨Nat.le_of_ble_eq_true rfl, Nat.le_of_ble_eq_true rfl⟩ hl rfl (Nat.le_of_ble_eq_true rfl) dX8_isSetting_92 (fun r_92 w1 H locs hp w => ?_)
    obtain ⟨rfl, rfl⟩ := hp
    exact r_zreturn F w dX8_isSetting_95 (yn_nar _) (⟨by first | (subst k1_0; rfl) | (subst k1_1; rfl) | (subst k1_2; rfl) | (subst k1_3; rfl) | (subst k1_4; rfl) | (subst k1_5; rfl) | (subst k1_6; rfl) | (subst k1_7; rfl), rfl⟩)
  by_cases k1_5 : w0 = 5
  · refine r_swIn (k := nI 5) (tgt := 96) F dX8_isSetting_1 (congrArg nI k1_5) (by decide) (by decide) (off := 95) (by decide) (by decide) ?_
    refine lv_iload_n F.1 F.2.1 dX8_isSetting_96 rfl (lv_at hl 1 rfl) ?_
    refine lv_iconst (v := nI 5) F.1 F.2.1 dX8_isSetting_97 (by decide) ?_
    refine lv_sipush (v := nI 200) F.1 F.2.1 dX8_isSetting_98 (by decide) ?_
    refine r_callS0 (rest := []) F w (c_X8_in l G y (nI 5) (nI 200)) gX8_isSetting_X8_in (nA0 := 3) rfl (by decide +kernel) rfl ⟨Nat.le_of_ble_eq_true rfl, Nat.le_of_ble_eq_true rfl⟩ ⟨Nat.le_of_ble_eq_true rfl, Nat.le_of_ble_eq_true rfl⟩ hl rfl (Nat.le_of_ble_eq_true rfl) dX8_isSetting_101 (fun r_101 w1 H locs hp w => ?_)
    obtain ⟨rfl, rfl⟩ := hp
    exact r_zreturn F w dX8_isSetting_104 (yn_nar _) (⟨by first | (subst k1_0; rfl) | (subst k1_1; rfl) | (subst k1_2; rfl) | (subst k1_3; rfl) | (subst k1_4; rfl) | (subst k1_5; rfl) | (subst k1_6; rfl) | (subst k1_7; rfl), rfl⟩)
  by_cases k1_6 : w0 = 6
  · refine r_swIn (k := nI 6) (tgt := 86) F dX8_isSetting_1 (congrArg nI k1_6) (by decide) (by decide) (off := 85) (by decide) (by decide) ?_
    refine lv_iload_n F.1 F.2.1 dX8_isSetting_86 rfl (lv_at hl 1 rfl) ?_
    refine lv_bipush (v := nI 50) F.1 F.2.1 dX8_isSetting_87 (by decide) ?_
    refine lv_sipush (v := nI 5000) F.1 F.2.1 dX8_isSetting_89 (by decide) ?_
    refine r_callS0 (rest := []) F w (c_X8_in l G y (nI 50) (nI 5000)) gX8_isSetting_X8_in (nA0 := 3) rfl (by decide +kernel) rfl ⟨Nat.le_of_ble_eq_true rfl, Nat.le_of_ble_eq_true rfl⟩ ⟨Nat.le_of_ble_eq_true rfl, Nat.le_of_ble_eq_true rfl⟩ hl rfl (Nat.le_of_ble_eq_true rfl) dX8_isSetting_92 (fun r_92 w1 H locs hp w => ?_)
    obtain ⟨rfl, rfl⟩ := hp
    exact r_zreturn F w dX8_isSetting_95 (yn_nar _) (⟨by first | (subst k1_0; rfl) | (subst k1_1; rfl) | (subst k1_2; rfl) | (subst k1_3; rfl) | (subst k1_4; rfl) | (subst k1_5; rfl) | (subst k1_6; rfl) | (subst k1_7; rfl), rfl⟩)
  by_cases k1_7 : w0 = 7
  · refine r_swIn (k := nI 7) (tgt := 105) F dX8_isSetting_1 (congrArg nI k1_7) (by decide) (by decide) (off := 104) (by decide) (by decide) ?_
    refine lv_iload_n F.1 F.2.1 dX8_isSetting_105 rfl (lv_at hl 1 rfl) ?_
    refine lv_iconst (v := nI 0) F.1 F.2.1 dX8_isSetting_106 (by decide) ?_
    refine lv_bipush (v := nI 50) F.1 F.2.1 dX8_isSetting_107 (by decide) ?_
    refine r_callS0 (rest := []) F w (c_X8_in l G y (nI 0) (nI 50)) gX8_isSetting_X8_in (nA0 := 3) rfl (by decide +kernel) rfl ⟨Nat.le_of_ble_eq_true rfl, Nat.le_of_ble_eq_true rfl⟩ ⟨Nat.le_of_ble_eq_true rfl, Nat.le_of_ble_eq_true rfl⟩ hl rfl (Nat.le_of_ble_eq_true rfl) dX8_isSetting_109 (fun r_109 w1 H locs hp w => ?_)
    obtain ⟨rfl, rfl⟩ := hp
    exact r_zreturn F w dX8_isSetting_112 (yn_nar _) (⟨by first | (subst k1_0; rfl) | (subst k1_1; rfl) | (subst k1_2; rfl) | (subst k1_3; rfl) | (subst k1_4; rfl) | (subst k1_5; rfl) | (subst k1_6; rfl) | (subst k1_7; rfl), rfl⟩)
  refine r_swOutN (tgt := 113) F dX8_isSetting_1 (by omega) (by omega) (by decide) ?_
  exact absurd hw (by omega)
set_option maxRecDepth 100000 in
set_option maxHeartbeats 4000000 in
theorem c_X8_setM (l : Launch) (G : KG) (a P Sp Hs T N : Nat → Nat) (sc tl tp fa fr fn : Nat) (hI : Inv P) (h5 : sc ≤ 5) (x y : Int32) (hx : ¬ (nI 0 ≤ x ∧ x < nI 8)) : MetI l yX8_set wsX8_set 2 G (mW G a P Sp Hs sc T tl tp fa fr fn N) [.ref (a 0), .int x, .int y] (fun r v => r = -1 ∧ v = mW G a P Sp Hs sc T tl tp fa fr fn N) := by
  refine MetI.by (cc := cX8_set) (nL := 4) (ret := some .int) (by decide +kernel) rfl (Nat.le_of_ble_eq_true rfl) ?_
  intro p e s m args below meth c F w ls hl
  have hl : lv_has ls 4 [(0, .ref (a 0)), (1, .int x), (2, .int y)] := hl
  have hts := F.ts
  have hD := hI.d
  obtain ⟨b9, b11, b20, b12, b13, b25, b23⟩ := hD.bnd
  have h8 := hD.1.1
  have ht := hD.1.top_le
  have h14 := hI.2.2.2.2.2.1.1
  have h16 := hI.2.2.2.2.2.2.1
  refine lv_iload_n F.1 F.2.1 dX8_set_0 rfl (lv_at hl 1 rfl) ?_
  refine lv_iload_n F.1 F.2.1 dX8_set_1 rfl (lv_at hl 2 rfl) ?_
  refine r_callS0 (rest := []) F w (c_X8_isSettingM l G x y hx) gX8_set_X8_isSetting (nA0 := 2) rfl (by decide +kernel) rfl ⟨Nat.le_of_ble_eq_true rfl, Nat.le_of_ble_eq_true rfl⟩ ⟨Nat.le_of_ble_eq_true rfl, Nat.le_of_ble_eq_true rfl⟩ hl rfl (Nat.le_of_ble_eq_true rfl) dX8_set_2 (fun r_2 w1 H locs hp w => ?_)
  obtain ⟨rfl, rfl⟩ := hp
  refine r_yne (tgt := 10) F dX8_set_5 (by decide) (fun c5 => ?_) (fun c5 => ?_)
  · exact absurd c5 id
  · skip
    refine lv_iconst (v := (-1)) F.1 F.2.1 dX8_set_8 (by decide) ?_
    exact r_ireturn F w dX8_set_9 (⟨rfl, rfl⟩)
set_option maxRecDepth 100000 in
set_option maxHeartbeats 4000000 in
theorem c_X8_setK (l : Launch) (G : KG) (a P Sp Hs T N : Nat → Nat) (sc tl tp fa fr fn : Nat) (hI : Inv P) (h5 : sc ≤ 5) (w0 : Nat) (y : Int32) (hw : w0 < 8) (hy : ¬ (nI (leastF w0) ≤ y ∧ y ≤ nI (mostF w0))) : MetI l yX8_set wsX8_set 2 G (mW G a P Sp Hs sc T tl tp fa fr fn N) [.ref (a 0), .int (nI w0), .int y] (fun r v => r = -1 ∧ v = mW G a P Sp Hs sc T tl tp fa fr fn N) := by
  refine MetI.by (cc := cX8_set) (nL := 4) (ret := some .int) (by decide +kernel) rfl (Nat.le_of_ble_eq_true rfl) ?_
  intro p e s m args below meth c F w ls hl
  have hl : lv_has ls 4 [(0, .ref (a 0)), (1, .int (nI w0)), (2, .int y)] := hl
  have hts := F.ts
  have hD := hI.d
  obtain ⟨b9, b11, b20, b12, b13, b25, b23⟩ := hD.bnd
  have h8 := hD.1.1
  have ht := hD.1.top_le
  have h14 := hI.2.2.2.2.2.1.1
  have h16 := hI.2.2.2.2.2.2.1
  refine lv_iload_n F.1 F.2.1 dX8_set_0 rfl (lv_at hl 1 rfl) ?_
  refine lv_iload_n F.1 F.2.1 dX8_set_1 rfl (lv_at hl 2 rfl) ?_
  refine r_callS0 (rest := []) F w (c_X8_isSettingK l G w0 y hw) gX8_set_X8_isSetting (nA0 := 2) rfl (by decide +kernel) rfl ⟨Nat.le_of_ble_eq_true rfl, Nat.le_of_ble_eq_true rfl⟩ ⟨Nat.le_of_ble_eq_true rfl, Nat.le_of_ble_eq_true rfl⟩ hl rfl (Nat.le_of_ble_eq_true rfl) dX8_set_2 (fun r_2 w1 H locs hp w => ?_)
  obtain ⟨rfl, rfl⟩ := hp
  refine r_yne (tgt := 10) F dX8_set_5 (by decide) (fun c5 => ?_) (fun c5 => ?_)
  · exact absurd c5 hy
  · skip
    refine lv_iconst (v := (-1)) F.1 F.2.1 dX8_set_8 (by decide) ?_
    exact r_ireturn F w dX8_set_9 (⟨rfl, rfl⟩)
set_option maxRecDepth 100000 in
set_option maxHeartbeats 4000000 in
theorem c_X8_setN (l : Launch) (G : KG) (a P Sp Hs T N : Nat → Nat) (sc tl tp fa fr fn : Nat) (hI : Inv P) (h5 : sc ≤ 5) (w0 x1 : Nat) (hw : w0 < 8) (hl1 : leastF w0 ≤ x1) (hl2 : x1 ≤ mostF w0) : MetI l yX8_set wsX8_set 2 G (mW G a P Sp Hs sc T tl tp fa fr fn N) [.ref (a 0), .int (nI w0), .int (nI x1)] (fun r v => r = nI (P w0) ∧ v = mW G a (up P w0 x1) Sp (recF Hs sc P) (min sc 4 + 1) T tl tp fa fr fn N) := by
  refine MetI.by (cc := cX8_set) (nL := 4) (ret := some .int) (by decide +kernel) rfl (Nat.le_of_ble_eq_true rfl) ?_
  intro p e s m args below meth c F w ls hl
  have hl : lv_has ls 4 [(0, .ref (a 0)), (1, .int (nI w0)), (2, .int (nI x1))] := hl
  have hts := F.ts
  have iX8 : ∀ w ∈ wsX80, w ∈ wsX8_set := by decide +kernel
  have f7 := hts (.fieldLink RX8 7 "CoreMelterModel" "m" "[I") (by decide +kernel)
  have hD := hI.d
  obtain ⟨b9, b11, b20, b12, b13, b25, b23⟩ := hD.bnd
  have h8 := hD.1.1
  have ht := hD.1.top_le
  have h14 := hI.2.2.2.2.2.1.1
  have h16 := hI.2.2.2.2.2.2.1
  have hlb := leastF_le w0
  have hmb := mostF_le w0
  refine lv_iload_n F.1 F.2.1 dX8_set_0 rfl (lv_at hl 1 rfl) ?_
  refine lv_iload_n F.1 F.2.1 dX8_set_1 rfl (lv_at hl 2 rfl) ?_
  refine r_callS0 (rest := []) F w (c_X8_isSettingK l G w0 (nI x1) hw) gX8_set_X8_isSetting (nA0 := 2) rfl (by decide +kernel) rfl ⟨Nat.le_of_ble_eq_true rfl, Nat.le_of_ble_eq_true rfl⟩ ⟨Nat.le_of_ble_eq_true rfl, Nat.le_of_ble_eq_true rfl⟩ hl rfl (Nat.le_of_ble_eq_true rfl) dX8_set_2 (fun r_2 w1 H locs hp w => ?_)
  obtain ⟨rfl, rfl⟩ := hp
  refine r_yne (tgt := 10) F dX8_set_5 (by decide) (fun c5 => ?_) (fun c5 => ?_)
  · skip
    refine lv_aload_n F.1 F.2.1 dX8_set_10 rfl (lv_at hl 0 rfl) ?_
    refine r_callVV (rest := []) F w (c_X8_record l G a P Sp Hs T N sc tl tp fa fr fn  (by omega)) gX8_set_X8_record [0, 1, 2, 3, 4, 5] [] (nA0 := 0) rfl (by decide +kernel) rfl ⟨Nat.le_of_ble_eq_true rfl, Nat.le_of_ble_eq_true rfl⟩ ⟨Nat.le_of_ble_eq_true rfl, Nat.le_of_ble_eq_true rfl⟩ rfl rfl rfl rfl rfl rfl rfl hl rfl (Nat.le_of_ble_eq_true rfl) dX8_set_11 (fun w1 H locs hp w => ?_)
    obtain rfl := hp
    have w := w.sub (ws' := mW G a P Sp (recF Hs sc P) (min sc 4 + 1) T tl tp fa fr fn N) [0, 1, 2, 3, 4, 5] (by decide) rfl
    refine lv_aload_n F.1 F.2.1 dX8_set_14 rfl (lv_at hl 0 rfl) ?_
    refine r_get F w 0 0 iX8 f7 rfl rfl rfl (by decide) rfl dX8_set_15 ?_
    refine lv_iload_n F.1 F.2.1 dX8_set_18 rfl (lv_at hl 1 rfl) ?_
    refine r_iald F w 1 rfl (by omega) (by decide) dX8_set_19 ?_
    refine lv_istore_n (lv' := [(3, .int (nI (P w0))), (0, .ref (a 0)), (1, .int (nI w0)), (2, .int (nI x1))]) F.1 F.2.1 dX8_set_20 rfl hl (by decide) rfl (fun ls hl => ?_)
    refine lv_aload_n F.1 F.2.1 dX8_set_21 rfl (lv_at hl 1 rfl) ?_
    refine r_get F w 0 0 iX8 f7 rfl rfl rfl (by decide) rfl dX8_set_22 ?_
    refine lv_iload_n F.1 F.2.1 dX8_set_25 rfl (lv_at hl 2 rfl) ?_
    refine lv_iload_n F.1 F.2.1 dX8_set_26 rfl (lv_at hl 3 rfl) ?_
    refine r_iast (ws' := mW G a (up P w0 x1) Sp (recF Hs sc P) (min sc 4 + 1) T tl tp fa fr fn N) F w 1 rfl (by omega) (by decide) dX8_set_27 rfl (fun H locs w => ?_)
    refine lv_iload_n F.1 F.2.1 dX8_set_28 rfl (lv_at hl 0 rfl) ?_
    exact r_ireturn F w dX8_set_29 (⟨rfl, rfl⟩)
  · exact absurd ⟨(nI_leI (by omega) (by omega)).mpr hl1, (nI_leI (by omega) (by omega)).mpr hl2⟩ c5
set_option maxRecDepth 100000 in
set_option maxHeartbeats 4000000 in
theorem c_X8_cleanM (l : Launch) (G : KG) (a P Sp Hs T N : Nat → Nat) (sc tl tp fa fr fn : Nat) (hI : Inv P) (h5 : sc ≤ 5) (x : Int32) (hx : ¬ (nI 0 ≤ x ∧ x < nI 4)) : MetI l yX8_clean wsX8_clean 2 G (mW G a P Sp Hs sc T tl tp fa fr fn N) [.ref (a 0), .int x] (fun r v => r = -1 ∧ v = mW G a P Sp Hs sc T tl tp fa fr fn N) := by
  refine MetI.by (cc := cX8_clean) (nL := 4) (ret := some .int) (by decide +kernel) rfl (Nat.le_of_ble_eq_true rfl) ?_
  intro p e s m args below meth c F w ls hl
  have hl : lv_has ls 4 [(0, .ref (a 0)), (1, .int x)] := hl
  have hts := F.ts
  have hD := hI.d
  obtain ⟨b9, b11, b20, b12, b13, b25, b23⟩ := hD.bnd
  have h8 := hD.1.1
  have ht := hD.1.top_le
  have h14 := hI.2.2.2.2.2.1.1
  have h16 := hI.2.2.2.2.2.2.1
  refine lv_iload_n F.1 F.2.1 dX8_clean_0 rfl (lv_at hl 1 rfl) ?_
  refine lv_iconst (v := nI 0) F.1 F.2.1 dX8_clean_1 (by decide) ?_
  refine lv_iconst (v := nI 3) F.1 F.2.1 dX8_clean_2 (by decide) ?_
  refine r_callS0 (rest := []) F w (c_X8_in l G x (nI 0) (nI 3)) gX8_clean_X8_in (nA0 := 3) rfl (by decide +kernel) rfl ⟨Nat.le_of_ble_eq_true rfl, Nat.le_of_ble_eq_true rfl⟩ ⟨Nat.le_of_ble_eq_true rfl, Nat.le_of_ble_eq_true rfl⟩ hl rfl (Nat.le_of_ble_eq_true rfl) dX8_clean_3 (fun r_3 w1 H locs hp w => ?_)
  obtain ⟨rfl, rfl⟩ := hp
  refine r_yne (tgt := 11) F dX8_clean_6 (by decide) (fun c6 => ?_) (fun c6 => ?_)
  · exact absurd ⟨c6.1, Int32.lt_of_le_of_lt c6.2 (by decide)⟩ hx
  · skip
    refine lv_iconst (v := (-1)) F.1 F.2.1 dX8_clean_9 (by decide) ?_
    exact r_ireturn F w dX8_clean_10 (⟨rfl, rfl⟩)
set_option maxRecDepth 100000 in
set_option maxHeartbeats 4000000 in
theorem c_X8_cleanZ (l : Launch) (G : KG) (a P Sp Hs T N : Nat → Nat) (sc tl tp fa fr fn : Nat) (hI : Inv P) (h5 : sc ≤ 5) (i : Nat) (hi : i < 4) (hz : P (26 + 5 * i) = 0) : MetI l yX8_clean wsX8_clean 2 G (mW G a P Sp Hs sc T tl tp fa fr fn N) [.ref (a 0), .int (nI i)] (fun r v => r = -2 ∧ v = mW G a P Sp Hs sc T tl tp fa fr fn N) := by
  refine MetI.by (cc := cX8_clean) (nL := 4) (ret := some .int) (by decide +kernel) rfl (Nat.le_of_ble_eq_true rfl) ?_
  intro p e s m args below meth c F w ls hl
  have hl : lv_has ls 4 [(0, .ref (a 0)), (1, .int (nI i))] := hl
  have hts := F.ts
  have hD := hI.d
  obtain ⟨b9, b11, b20, b12, b13, b25, b23⟩ := hD.bnd
  have h8 := hD.1.1
  have ht := hD.1.top_le
  have h14 := hI.2.2.2.2.2.1.1
  have h16 := hI.2.2.2.2.2.2.1
  refine lv_iload_n F.1 F.2.1 dX8_clean_0 rfl (lv_at hl 1 rfl) ?_
  refine lv_iconst (v := nI 0) F.1 F.2.1 dX8_clean_1 (by decide) ?_
  refine lv_iconst (v := nI 3) F.1 F.2.1 dX8_clean_2 (by decide) ?_
  refine r_callS0 (rest := []) F w (c_X8_inN l G i 0 3 (by omega) (by omega) (by omega)) gX8_clean_X8_in (nA0 := 3) rfl (by decide +kernel) rfl ⟨Nat.le_of_ble_eq_true rfl, Nat.le_of_ble_eq_true rfl⟩ ⟨Nat.le_of_ble_eq_true rfl, Nat.le_of_ble_eq_true rfl⟩ hl rfl (Nat.le_of_ble_eq_true rfl) dX8_clean_3 (fun r_3 w1 H locs hp w => ?_)
  obtain ⟨rfl, rfl⟩ := hp
  refine r_yne (tgt := 11) F dX8_clean_6 (by decide) (fun c6 => ?_) (fun c6 => ?_)
  · skip
    refine lv_aload_n F.1 F.2.1 dX8_clean_11 rfl (lv_at hl 0 rfl) ?_
    refine lv_iload_n F.1 F.2.1 dX8_clean_12 rfl (lv_at hl 1 rfl) ?_
    refine lv_iconst (v := nI 0) F.1 F.2.1 dX8_clean_13 (by decide) ?_
    refine r_callVI (rest := []) F w (c_X8_ofLine l G a P Sp Hs T N sc tl tp fa fr fn i 0 (by omega)) gX8_clean_X8_ofLine [0, 1, 2, 3, 4, 5] [] (nA0 := 2) rfl (by decide +kernel) rfl ⟨Nat.le_of_ble_eq_true rfl, Nat.le_of_ble_eq_true rfl⟩ ⟨Nat.le_of_ble_eq_true rfl, Nat.le_of_ble_eq_true rfl⟩ rfl rfl rfl rfl rfl rfl rfl hl rfl (Nat.le_of_ble_eq_true rfl) dX8_clean_14 (fun r_14 w1 H locs hp w => ?_)
    obtain ⟨rfl, rfl⟩ := hp
    have w := w.sub (ws' := mW G a P Sp Hs sc T tl tp fa fr fn N) [0, 1, 2, 3, 4, 5] (by decide) rfl
    refine r_to (y := (nI (P (26 + 5 * i)))) (rfl) ?_
    refine r_zne (tgt := 23) F dX8_clean_17 (by decide) (by have := hI.2.2.2.2.1 i hi; omega) (fun c17 => ?_) (fun c17 => ?_)
    · exact absurd hz c17
    · skip
      refine lv_bipush (v := (-2)) F.1 F.2.1 dX8_clean_20 (by decide) ?_
      exact r_ireturn F w dX8_clean_22 (⟨rfl, rfl⟩)
  · exact absurd ⟨Nat.zero_le _, by omega⟩ c6
set_option maxRecDepth 100000 in
set_option maxHeartbeats 4000000 in
theorem c_X8_cleanN (l : Launch) (G : KG) (a P Sp Hs T N : Nat → Nat) (sc tl tp fa fr fn : Nat) (hI : Inv P) (h5 : sc ≤ 5) (i : Nat) (hi : i < 4) (hz : ¬ P (26 + 5 * i) = 0) : MetI l yX8_clean wsX8_clean 2 G (mW G a P Sp Hs sc T tl tp fa fr fn N) [.ref (a 0), .int (nI i)] (fun r v => r = nI (P (26 + 5 * i + 1)) ∧ v = mW G a (clnF P i) Sp (recF Hs sc P) (min sc 4 + 1) T tl tp fa fr fn N) := by
  refine MetI.by (cc := cX8_clean) (nL := 4) (ret := some .int) (by decide +kernel) rfl (Nat.le_of_ble_eq_true rfl) ?_
  intro p e s m args below meth c F w ls hl
  have hl : lv_has ls 4 [(0, .ref (a 0)), (1, .int (nI i))] := hl
  have hts := F.ts
  have iX8 : ∀ w ∈ wsX80, w ∈ wsX8_clean := by decide +kernel
  have f7 := hts (.fieldLink RX8 7 "CoreMelterModel" "m" "[I") (by decide +kernel)
  have hD := hI.d
  obtain ⟨b9, b11, b20, b12, b13, b25, b23⟩ := hD.bnd
  have h8 := hD.1.1
  have ht := hD.1.top_le
  have h14 := hI.2.2.2.2.2.1.1
  have h16 := hI.2.2.2.2.2.2.1
  refine lv_iload_n F.1 F.2.1 dX8_clean_0 rfl (lv_at hl 1 rfl) ?_
  refine lv_iconst (v := nI 0) F.1 F.2.1 dX8_clean_1 (by decide) ?_
  refine lv_iconst (v := nI 3) F.1 F.2.1 dX8_clean_2 (by decide) ?_
  refine r_callS0 (rest := []) F w (c_X8_inN l G i 0 3 (by omega) (by omega) (by omega)) gX8_clean_X8_in (nA0 := 3) rfl (by decide +kernel) rfl ⟨Nat.le_of_ble_eq_true rfl, Nat.le_of_ble_eq_true rfl⟩ ⟨Nat.le_of_ble_eq_true rfl, Nat.le_of_ble_eq_true rfl⟩ hl rfl (Nat.le_of_ble_eq_true rfl) dX8_clean_3 (fun r_3 w1 H locs hp w => ?_)
  obtain ⟨rfl, rfl⟩ := hp
  refine r_yne (tgt := 11) F dX8_clean_6 (by decide) (fun c6 => ?_) (fun c6 => ?_)
  · skip
    refine lv_aload_n F.1 F.2.1 dX8_clean_11 rfl (lv_at hl 0 rfl) ?_
    refine lv_iload_n F.1 F.2.1 dX8_clean_12 rfl (lv_at hl 1 rfl) ?_
    refine lv_iconst (v := nI 0) F.1 F.2.1 dX8_clean_13 (by decide) ?_
    refine r_callVI (rest := []) F w (c_X8_ofLine l G a P Sp Hs T N sc tl tp fa fr fn i 0 (by omega)) gX8_clean_X8_ofLine [0, 1, 2, 3, 4, 5] [] (nA0 := 2) rfl (by decide +kernel) rfl ⟨Nat.le_of_ble_eq_true rfl, Nat.le_of_ble_eq_true rfl⟩ ⟨Nat.le_of_ble_eq_true rfl, Nat.le_of_ble_eq_true rfl⟩ rfl rfl rfl rfl rfl rfl rfl hl rfl (Nat.le_of_ble_eq_true rfl) dX8_clean_14 (fun r_14 w1 H locs hp w => ?_)
    obtain ⟨rfl, rfl⟩ := hp
    have w := w.sub (ws' := mW G a P Sp Hs sc T tl tp fa fr fn N) [0, 1, 2, 3, 4, 5] (by decide) rfl
    refine r_to (y := (nI (P (26 + 5 * i)))) (rfl) ?_
    refine r_zne (tgt := 23) F dX8_clean_17 (by decide) (by have := hI.2.2.2.2.1 i hi; omega) (fun c17 => ?_) (fun c17 => ?_)
    · skip
      refine lv_aload_n F.1 F.2.1 dX8_clean_23 rfl (lv_at hl 0 rfl) ?_
      refine r_callVV (rest := []) F w (c_X8_record l G a P Sp Hs T N sc tl tp fa fr fn  (by omega)) gX8_clean_X8_record [0, 1, 2, 3, 4, 5] [] (nA0 := 0) rfl (by decide +kernel) rfl ⟨Nat.le_of_ble_eq_true rfl, Nat.le_of_ble_eq_true rfl⟩ ⟨Nat.le_of_ble_eq_true rfl, Nat.le_of_ble_eq_true rfl⟩ rfl rfl rfl rfl rfl rfl rfl hl rfl (Nat.le_of_ble_eq_true rfl) dX8_clean_24 (fun w1 H locs hp w => ?_)
      obtain rfl := hp
      have w := w.sub (ws' := mW G a P Sp (recF Hs sc P) (min sc 4 + 1) T tl tp fa fr fn N) [0, 1, 2, 3, 4, 5] (by decide) rfl
      refine lv_aload_n F.1 F.2.1 dX8_clean_27 rfl (lv_at hl 0 rfl) ?_
      refine lv_iload_n F.1 F.2.1 dX8_clean_28 rfl (lv_at hl 1 rfl) ?_
      refine lv_iconst (v := nI 1) F.1 F.2.1 dX8_clean_29 (by decide) ?_
      refine r_callVI (rest := []) F w (c_X8_ofLine l G a P Sp (recF Hs sc P) T N (min sc 4 + 1) tl tp fa fr fn i 1 (by omega)) gX8_clean_X8_ofLine [0, 1, 2, 3, 4, 5] [] (nA0 := 2) rfl (by decide +kernel) rfl ⟨Nat.le_of_ble_eq_true rfl, Nat.le_of_ble_eq_true rfl⟩ ⟨Nat.le_of_ble_eq_true rfl, Nat.le_of_ble_eq_true rfl⟩ rfl rfl rfl rfl rfl rfl rfl hl rfl (Nat.le_of_ble_eq_true rfl) dX8_clean_30 (fun r_30 w1 H locs hp w => ?_)
      obtain ⟨rfl, rfl⟩ := hp
      have w := w.sub (ws' := mW G a P Sp (recF Hs sc P) (min sc 4 + 1) T tl tp fa fr fn N) [0, 1, 2, 3, 4, 5] (by decide) rfl
      refine lv_istore_n (lv' := [(2, .int (nI (P (26 + 5 * i + 1)))), (0, .ref (a 0)), (1, .int (nI i))]) F.1 F.2.1 dX8_clean_33 rfl hl (by decide) rfl (fun ls hl => ?_)
      refine lv_iconst (v := nI 0) F.1 F.2.1 dX8_clean_34 (by decide) ?_
      refine lv_istore_n (lv' := [(3, .int (nI 0)), (2, .int (nI (P (26 + 5 * i + 1)))), (0, .ref (a 0)), (1, .int (nI i))]) F.1 F.2.1 dX8_clean_35 rfl hl (by decide) rfl (fun ls hl => ?_)
      have L36 : ∀ n : Nat, ∀ (j : Nat), (j ≤ 3) → 3 - j < n → ∀ (H : Heap) (locs : List Loc), Wd G s (va_A (mW G a P Sp Hs sc T tl tp fa fr fn N) s.heap.size) (mW G a (clnK P i j) Sp (recF Hs sc P) (min sc 4 + 1) T tl tp fa fr fn N) H locs → ∀ ls : Array Slot, lv_has ls 4 [(0, .ref (a 0)), (1, .int (nI i)), (2, .int (nI (P (26 + 5 * i + 1)))), (3, .int (nI j))] → W p l e (rmK 2 0 0) s m args below meth c H locs 0 0 (MQ below (QI G (mW G a P Sp Hs sc T tl tp fa fr fn N) s.heap.size (fun r v => r = nI (P (26 + 5 * i + 1)) ∧ v = mW G a (clnF P i) Sp (recF Hs sc P) (min sc 4 + 1) T tl tp fa fr fn N)) args s 0 0 (va_A (mW G a P Sp Hs sc T tl tp fa fr fn N) s.heap.size)) (F0 m 36 ls []) := by
        intro n
        induction n with
        | zero => intro j h1 hm; exact absurd hm (Nat.not_lt_zero _)
        | succ n ih36 =>
          intro j h1 hm36 H locs w ls hl
          refine lv_iload_n F.1 F.2.1 dX8_clean_36 rfl (lv_at hl 3 rfl) ?_
          refine lv_iconst (v := nI 3) F.1 F.2.1 dX8_clean_37 (by decide) ?_
          refine r_cge (tgt := 61) F dX8_clean_38 (by decide) (by omega) (by omega) (fun c38 => ?_) (fun c38 => ?_)
          · skip
            refine lv_iload_n F.1 F.2.1 dX8_clean_61 rfl (lv_at hl 2 rfl) ?_
            exact r_ireturn F w dX8_clean_62 (⟨rfl, by rw [show j = 3 by omega]; rfl⟩)
          · skip
            refine lv_aload_n F.1 F.2.1 dX8_clean_41 rfl (lv_at hl 0 rfl) ?_
            refine r_get F w 0 0 iX8 f7 rfl rfl rfl (by decide) rfl dX8_clean_42 ?_
            refine lv_bipush (v := nI 26) F.1 F.2.1 dX8_clean_45 (by decide) ?_
            refine lv_iconst (v := nI 5) F.1 F.2.1 dX8_clean_47 (by decide) ?_
            refine lv_iload_n F.1 F.2.1 dX8_clean_48 rfl (lv_at hl 1 rfl) ?_
            refine r_imul F dX8_clean_49 ?_
            refine r_iadd F dX8_clean_50 ?_
            refine lv_iload_n F.1 F.2.1 dX8_clean_51 rfl (lv_at hl 3 rfl) ?_
            refine r_iadd F dX8_clean_52 ?_
            refine lv_iconst (v := nI 0) F.1 F.2.1 dX8_clean_53 (by decide) ?_
            refine r_iast (ws' := mW G a (up (clnK P i j) ((26 + (5 * i)) + j) 0) Sp (recF Hs sc P) (min sc 4 + 1) T tl tp fa fr fn N) F w 1 rfl (by omega) (by decide) dX8_clean_54 rfl (fun H locs w => ?_)
            have w := w.is (ws' := mW G a (clnK P i (j + 1)) Sp (recF Hs sc P) (min sc 4 + 1) T tl tp fa fr fn N) (rfl)
            refine lv_iinc (v := nI (j + 1)) (lv' := [(3, .int (nI (j + 1))), (0, .ref (a 0)), (1, .int (nI i)), (2, .int (nI (P (26 + 5 * i + 1))))]) F.1 F.2.1 dX8_clean_55 hl (k := 3) rfl (nI_add _ _) (by decide) rfl (fun ls hl => ?_)
            refine lv_goto (tgt := 36) F.1 F.2.1 dX8_clean_58 (by decide) ?_
            exact ih36 (j + 1) (by omega) (by omega) _ _ w ls (lv_sub hl [1, 2, 3, 0] rfl)
      exact L36 _ 0 (Nat.zero_le _) (Nat.lt_succ_self _) _ _ w ls (lv_sub hl [2, 3, 1, 0] rfl)
    · exact absurd c17 hz
  · exact absurd ⟨Nat.zero_le _, by omega⟩ c6
set_option maxRecDepth 100000 in
set_option maxHeartbeats 4000000 in
theorem c_X8_runM (l : Launch) (G : KG) (a P Sp Hs T N : Nat → Nat) (sc tl tp fa fr fn : Nat) (hI : Inv P) (h5 : sc ≤ 5) (x : Int32) (hx : ¬ (nI 1 ≤ x ∧ x ≤ nI 1000)) : MetI l yX8_run wsX8_run 6 G (mW G a P Sp Hs sc T tl tp fa fr fn N) [.ref (a 0), .int x] (fun r v => r = -1 ∧ v = mW G a P Sp Hs sc T tl tp fa fr fn N) := by
  refine MetI.by (cc := cX8_run) (nL := 2) (ret := some .int) (by decide +kernel) rfl (Nat.le_of_ble_eq_true rfl) ?_
  intro p e s m args below meth c F w ls hl
  have hl : lv_has ls 2 [(0, .ref (a 0)), (1, .int x)] := hl
  have hts := F.ts
  have hD := hI.d
  obtain ⟨b9, b11, b20, b12, b13, b25, b23⟩ := hD.bnd
  have h8 := hD.1.1
  have ht := hD.1.top_le
  have h14 := hI.2.2.2.2.2.1.1
  have h16 := hI.2.2.2.2.2.2.1
  refine lv_iload_n F.1 F.2.1 dX8_run_0 rfl (lv_at hl 1 rfl) ?_
  refine lv_iconst (v := nI 1) F.1 F.2.1 dX8_run_1 (by decide) ?_
  refine lv_sipush (v := nI 1000) F.1 F.2.1 dX8_run_2 (by decide) ?_
  refine r_callS0 (rest := []) F w (c_X8_in l G x (nI 1) (nI 1000)) gX8_run_X8_in (nA0 := 3) rfl (by decide +kernel) rfl ⟨Nat.le_of_ble_eq_true rfl, Nat.le_of_ble_eq_true rfl⟩ ⟨Nat.le_of_ble_eq_true rfl, Nat.le_of_ble_eq_true rfl⟩ hl rfl (Nat.le_of_ble_eq_true rfl) dX8_run_5 (fun r_5 w1 H locs hp w => ?_)
  obtain ⟨rfl, rfl⟩ := hp
  refine r_yne (tgt := 13) F dX8_run_8 (by decide) (fun c8 => ?_) (fun c8 => ?_)
  · exact absurd c8 hx
  · skip
    refine lv_iconst (v := (-1)) F.1 F.2.1 dX8_run_11 (by decide) ?_
    exact r_ireturn F w dX8_run_12 (⟨rfl, rfl⟩)
set_option maxRecDepth 100000 in
set_option maxHeartbeats 4000000 in
theorem c_X8_runZ (l : Launch) (G : KG) (a P Sp Hs T N : Nat → Nat) (sc tl tp fa fr fn : Nat) (hI : Inv P) (h5 : sc ≤ 5) (q : Nat) (hq : 1 ≤ q ∧ q ≤ 1000) (hz : 20000 < P 16 + q) : MetI l yX8_run wsX8_run 6 G (mW G a P Sp Hs sc T tl tp fa fr fn N) [.ref (a 0), .int (nI q)] (fun r v => r = -3 ∧ v = mW G a P Sp Hs sc T tl tp fa fr fn N) := by
  refine MetI.by (cc := cX8_run) (nL := 2) (ret := some .int) (by decide +kernel) rfl (Nat.le_of_ble_eq_true rfl) ?_
  intro p e s m args below meth c F w ls hl
  have hl : lv_has ls 2 [(0, .ref (a 0)), (1, .int (nI q))] := hl
  have hts := F.ts
  have iX8 : ∀ w ∈ wsX80, w ∈ wsX8_run := by decide +kernel
  have f7 := hts (.fieldLink RX8 7 "CoreMelterModel" "m" "[I") (by decide +kernel)
  have hD := hI.d
  obtain ⟨b9, b11, b20, b12, b13, b25, b23⟩ := hD.bnd
  have h8 := hD.1.1
  have ht := hD.1.top_le
  have h14 := hI.2.2.2.2.2.1.1
  have h16 := hI.2.2.2.2.2.2.1
  refine lv_iload_n F.1 F.2.1 dX8_run_0 rfl (lv_at hl 1 rfl) ?_
  refine lv_iconst (v := nI 1) F.1 F.2.1 dX8_run_1 (by decide) ?_
  refine lv_sipush (v := nI 1000) F.1 F.2.1 dX8_run_2 (by decide) ?_
  refine r_callS0 (rest := []) F w (c_X8_inN l G q 1 1000 (by omega) (by omega) (by omega)) gX8_run_X8_in (nA0 := 3) rfl (by decide +kernel) rfl ⟨Nat.le_of_ble_eq_true rfl, Nat.le_of_ble_eq_true rfl⟩ ⟨Nat.le_of_ble_eq_true rfl, Nat.le_of_ble_eq_true rfl⟩ hl rfl (Nat.le_of_ble_eq_true rfl) dX8_run_5 (fun r_5 w1 H locs hp w => ?_)
  obtain ⟨rfl, rfl⟩ := hp
  refine r_yne (tgt := 13) F dX8_run_8 (by decide) (fun c8 => ?_) (fun c8 => ?_)
  · skip
    refine lv_aload_n F.1 F.2.1 dX8_run_13 rfl (lv_at hl 0 rfl) ?_
    refine r_get F w 0 0 iX8 f7 rfl rfl rfl (by decide) rfl dX8_run_14 ?_
    refine lv_bipush (v := nI 16) F.1 F.2.1 dX8_run_17 (by decide) ?_
    refine r_iald F w 1 rfl (by omega) (by decide) dX8_run_19 ?_
    refine lv_iload_n F.1 F.2.1 dX8_run_20 rfl (lv_at hl 1 rfl) ?_
    refine r_iadd F dX8_run_21 ?_
    refine lv_sipush (v := nI 20000) F.1 F.2.1 dX8_run_22 (by decide) ?_
    refine r_cle (tgt := 31) F dX8_run_25 (by decide) (by omega) (by omega) (fun c25 => ?_) (fun c25 => ?_)
    · exact absurd c25 (by omega)
    · skip
      refine lv_bipush (v := (-3)) F.1 F.2.1 dX8_run_28 (by decide) ?_
      exact r_ireturn F w dX8_run_30 (⟨rfl, rfl⟩)
  · exact absurd hq c8
set_option maxRecDepth 100000 in
set_option maxHeartbeats 4000000 in
theorem c_X8_runN (l : Launch) (G : KG) (a P Sp Hs T N : Nat → Nat) (sc tl tp fa fr fn : Nat) (hI : Inv P) (h5 : sc ≤ 5) (q : Nat) (hq : 1 ≤ q ∧ q ≤ 1000) (hz : P 16 + q ≤ 20000) : MetI l yX8_run wsX8_run 6 G (mW G a P Sp Hs sc T tl tp fa fr fn N) [.ref (a 0), .int (nI q)] (fun r v => r = nI (toldF (itF P q)) ∧ v = mW G a (itF P q) Sp (recF Hs sc P) (min sc 4 + 1) T tl tp fa fr fn N) := by
  refine MetI.by (cc := cX8_run) (nL := 2) (ret := some .int) (by decide +kernel) rfl (Nat.le_of_ble_eq_true rfl) ?_
  intro p e s m args below meth c F w ls hl
  have hl : lv_has ls 2 [(0, .ref (a 0)), (1, .int (nI q))] := hl
  have hts := F.ts
  have iX8 : ∀ w ∈ wsX80, w ∈ wsX8_run := by decide +kernel
  have f7 := hts (.fieldLink RX8 7 "CoreMelterModel" "m" "[I") (by decide +kernel)
  have hD := hI.d
  obtain ⟨b9, b11, b20, b12, b13, b25, b23⟩ := hD.bnd
  have h8 := hD.1.1
  have ht := hD.1.top_le
  have h14 := hI.2.2.2.2.2.1.1
  have h16 := hI.2.2.2.2.2.2.1
  obtain ⟨hIq, -⟩ := it_ok hI q hz
  obtain ⟨q9, q11, q20, q12, q13, q25, q23⟩ := hIq.d.bnd
  refine lv_iload_n F.1 F.2.1 dX8_run_0 rfl (lv_at hl 1 rfl) ?_
  refine lv_iconst (v := nI 1) F.1 F.2.1 dX8_run_1 (by decide) ?_
  refine lv_sipush (v := nI 1000) F.1 F.2.1 dX8_run_2 (by decide) ?_
  refine r_callS0 (rest := []) F w (c_X8_inN l G q 1 1000 (by omega) (by omega) (by omega)) gX8_run_X8_in (nA0 := 3) rfl (by decide +kernel) rfl ⟨Nat.le_of_ble_eq_true rfl, Nat.le_of_ble_eq_true rfl⟩ ⟨Nat.le_of_ble_eq_true rfl, Nat.le_of_ble_eq_true rfl⟩ hl rfl (Nat.le_of_ble_eq_true rfl) dX8_run_5 (fun r_5 w1 H locs hp w => ?_)
  obtain ⟨rfl, rfl⟩ := hp
  refine r_yne (tgt := 13) F dX8_run_8 (by decide) (fun c8 => ?_) (fun c8 => ?_)
  · skip
    refine lv_aload_n F.1 F.2.1 dX8_run_13 rfl (lv_at hl 0 rfl) ?_
    refine r_get F w 0 0 iX8 f7 rfl rfl rfl (by decide) rfl dX8_run_14 ?_
    refine lv_bipush (v := nI 16) F.1 F.2.1 dX8_run_17 (by decide) ?_
    refine r_iald F w 1 rfl (by omega) (by decide) dX8_run_19 ?_
    refine lv_iload_n F.1 F.2.1 dX8_run_20 rfl (lv_at hl 1 rfl) ?_
    refine r_iadd F dX8_run_21 ?_
    refine lv_sipush (v := nI 20000) F.1 F.2.1 dX8_run_22 (by decide) ?_
    refine r_cle (tgt := 31) F dX8_run_25 (by decide) (by omega) (by omega) (fun c25 => ?_) (fun c25 => ?_)
    · skip
      refine lv_aload_n F.1 F.2.1 dX8_run_31 rfl (lv_at hl 0 rfl) ?_
      refine r_callVV (rest := []) F w (c_X8_record l G a P Sp Hs T N sc tl tp fa fr fn  (by omega)) gX8_run_X8_record [0, 1, 2, 3, 4, 5] [] (nA0 := 0) rfl (by decide +kernel) rfl ⟨Nat.le_of_ble_eq_true rfl, Nat.le_of_ble_eq_true rfl⟩ ⟨Nat.le_of_ble_eq_true rfl, Nat.le_of_ble_eq_true rfl⟩ rfl rfl rfl rfl rfl rfl rfl hl rfl (Nat.le_of_ble_eq_true rfl) dX8_run_32 (fun w1 H locs hp w => ?_)
      obtain rfl := hp
      have w := w.sub (ws' := mW G a P Sp (recF Hs sc P) (min sc 4 + 1) T tl tp fa fr fn N) [0, 1, 2, 3, 4, 5] (by decide) rfl
      refine lv_aload_n F.1 F.2.1 dX8_run_35 rfl (lv_at hl 0 rfl) ?_
      refine lv_iload_n F.1 F.2.1 dX8_run_36 rfl (lv_at hl 1 rfl) ?_
      refine r_callVV (rest := []) F w (c_X8_goBy l G a P Sp (recF Hs sc P) T N (min sc 4 + 1) tl tp fa fr fn q hI hz) gX8_run_X8_goBy [0, 1, 2, 3, 4, 5] [] (nA0 := 1) rfl (by decide +kernel) rfl ⟨Nat.le_of_ble_eq_true rfl, Nat.le_of_ble_eq_true rfl⟩ ⟨Nat.le_of_ble_eq_true rfl, Nat.le_of_ble_eq_true rfl⟩ rfl rfl rfl rfl rfl rfl rfl hl rfl (Nat.le_of_ble_eq_true rfl) dX8_run_37 (fun w1 H locs hp w => ?_)
      obtain rfl := hp
      have w := w.sub (ws' := mW G a (itF P q) Sp (recF Hs sc P) (min sc 4 + 1) T tl tp fa fr fn N) [0, 1, 2, 3, 4, 5] (by decide) rfl
      refine lv_aload_n F.1 F.2.1 dX8_run_40 rfl (lv_at hl 0 rfl) ?_
      refine r_callVI (rest := []) F w (c_X8_told l G a (itF P q) Sp (recF Hs sc P) T N (min sc 4 + 1) tl tp fa fr fn hIq.1 (by omega) (by omega)) gX8_run_X8_told [0, 1, 2, 3, 4, 5] [] (nA0 := 0) rfl (by decide +kernel) rfl ⟨Nat.le_of_ble_eq_true rfl, Nat.le_of_ble_eq_true rfl⟩ ⟨Nat.le_of_ble_eq_true rfl, Nat.le_of_ble_eq_true rfl⟩ rfl rfl rfl rfl rfl rfl rfl hl rfl (Nat.le_of_ble_eq_true rfl) dX8_run_41 (fun r_41 w1 H locs hp w => ?_)
      obtain ⟨rfl, rfl⟩ := hp
      have w := w.sub (ws' := mW G a (itF P q) Sp (recF Hs sc P) (min sc 4 + 1) T tl tp fa fr fn N) [0, 1, 2, 3, 4, 5] (by decide) rfl
      exact r_ireturn F w dX8_run_44 (⟨rfl, rfl⟩)
    · exact absurd c25 (by omega)
  · exact absurd hq c8
def dfN (Q S : Nat → Nat) (k : Nat) : Int32 := if k = 0 then nI (toldF Q) else if k = 1 then nI (Q 9) else if k = 2 then nI (Q 20) - nI (S 20) else if k = 3 then nI (Q 21) - nI (S 21) else if k = 4 then nI (Q 14) - nI (S 14) else if k = 5 then nI (stuckN Q) else nI (Q 18) - nI (S 18)
set_option maxRecDepth 100000 in
set_option maxHeartbeats 4000000 in
theorem c_X8_differs (l : Launch) (G : KG) (a Q Sp Hs T N : Nat → Nat) (sc tl tp fa fr fn : Nat) (hS : SegOk Q) (h9 : Q 9 ≤ 6000) (hw : Q 20 + Q 21 ≤ 1000000) (k : Nat) (hk : k ≤ 6) : MetI l yX8_differs wsX8_differs 2 G (mW G a Q Sp Hs sc T tl tp fa fr fn N) [.ref (a 0), .int (nI k)] (fun r v => r = dfN Q Sp k ∧ v = mW G a Q Sp Hs sc T tl tp fa fr fn N) := by
  refine MetI.by (cc := cX8_differs) (nL := 2) (ret := some .int) (by decide +kernel) rfl (Nat.le_of_ble_eq_true rfl) ?_
  intro p e s m args below meth c F w ls hl
  have hl : lv_has ls 2 [(0, .ref (a 0)), (1, .int (nI k))] := hl
  have hts := F.ts
  have iX8 : ∀ w ∈ wsX80, w ∈ wsX8_differs := by decide +kernel
  have f7 := hts (.fieldLink RX8 7 "CoreMelterModel" "m" "[I") (by decide +kernel)
  have f13 := hts (.fieldLink RX8 13 "CoreMelterModel" "spare" "[I") (by decide +kernel)
  refine lv_iload_n F.1 F.2.1 dX8_differs_0 rfl (lv_at hl 1 rfl) ?_
  by_cases k1_0 : k = 0
  · refine r_swIn (k := nI 0) (tgt := 40) F dX8_differs_1 (congrArg nI k1_0) (by decide) (by decide) (off := 39) (by decide) (by decide) ?_
    refine lv_aload_n F.1 F.2.1 dX8_differs_40 rfl (lv_at hl 0 rfl) ?_
    refine r_callVI (rest := []) F w (c_X8_told l G a Q Sp Hs T N sc tl tp fa fr fn hS h9 hw) gX8_differs_X8_told [0, 1, 2, 3, 4, 5] [] (nA0 := 0) rfl (by decide +kernel) rfl ⟨Nat.le_of_ble_eq_true rfl, Nat.le_of_ble_eq_true rfl⟩ ⟨Nat.le_of_ble_eq_true rfl, Nat.le_of_ble_eq_true rfl⟩ rfl rfl rfl rfl rfl rfl rfl hl rfl (Nat.le_of_ble_eq_true rfl) dX8_differs_41 (fun r_41 w1 H locs hp w => ?_)
    obtain ⟨rfl, rfl⟩ := hp
    have w := w.sub (ws' := mW G a Q Sp Hs sc T tl tp fa fr fn N) [0, 1, 2, 3, 4, 5] (by decide) rfl
    exact r_ireturn F w dX8_differs_44 (⟨by subst k1_0; rfl, rfl⟩)
  by_cases k1_1 : k = 1
  · refine r_swIn (k := nI 1) (tgt := 45) F dX8_differs_1 (congrArg nI k1_1) (by decide) (by decide) (off := 44) (by decide) (by decide) ?_
    refine lv_aload_n F.1 F.2.1 dX8_differs_45 rfl (lv_at hl 0 rfl) ?_
    refine r_get F w 0 0 iX8 f7 rfl rfl rfl (by decide) rfl dX8_differs_46 ?_
    refine lv_bipush (v := nI 9) F.1 F.2.1 dX8_differs_49 (by decide) ?_
    refine r_iald F w 1 rfl (by omega) (by decide) dX8_differs_51 ?_
    exact r_ireturn F w dX8_differs_52 (⟨by subst k1_1; rfl, rfl⟩)
  by_cases k1_2 : k = 2
  · refine r_swIn (k := nI 2) (tgt := 53) F dX8_differs_1 (congrArg nI k1_2) (by decide) (by decide) (off := 52) (by decide) (by decide) ?_
    refine lv_aload_n F.1 F.2.1 dX8_differs_53 rfl (lv_at hl 0 rfl) ?_
    refine r_get F w 0 0 iX8 f7 rfl rfl rfl (by decide) rfl dX8_differs_54 ?_
    refine lv_bipush (v := nI 20) F.1 F.2.1 dX8_differs_57 (by decide) ?_
    refine r_iald F w 1 rfl (by omega) (by decide) dX8_differs_59 ?_
    refine lv_aload_n F.1 F.2.1 dX8_differs_60 rfl (lv_at hl 0 rfl) ?_
    refine r_get F w 0 1 iX8 f13 rfl rfl rfl (by decide) rfl dX8_differs_61 ?_
    refine lv_bipush (v := nI 20) F.1 F.2.1 dX8_differs_64 (by decide) ?_
    refine r_iald F w 2 rfl (by omega) (by decide) dX8_differs_66 ?_
    refine lv_isub F.1 F.2.1 dX8_differs_67 ?_
    exact r_ireturn F w dX8_differs_68 (⟨by subst k1_2; rfl, rfl⟩)
  by_cases k1_3 : k = 3
  · refine r_swIn (k := nI 3) (tgt := 69) F dX8_differs_1 (congrArg nI k1_3) (by decide) (by decide) (off := 68) (by decide) (by decide) ?_
    refine lv_aload_n F.1 F.2.1 dX8_differs_69 rfl (lv_at hl 0 rfl) ?_
    refine r_get F w 0 0 iX8 f7 rfl rfl rfl (by decide) rfl dX8_differs_70 ?_
    refine lv_bipush (v := nI 21) F.1 F.2.1 dX8_differs_73 (by decide) ?_
    refine r_iald F w 1 rfl (by omega) (by decide) dX8_differs_75 ?_
    refine lv_aload_n F.1 F.2.1 dX8_differs_76 rfl (lv_at hl 0 rfl) ?_
    refine r_get F w 0 1 iX8 f13 rfl rfl rfl (by decide) rfl dX8_differs_77 ?_
    refine lv_bipush (v := nI 21) F.1 F.2.1 dX8_differs_80 (by decide) ?_
    refine r_iald F w 2 rfl (by omega) (by decide) dX8_differs_82 ?_
    refine lv_isub F.1 F.2.1 dX8_differs_83 ?_
    exact r_ireturn F w dX8_differs_84 (⟨by subst k1_3; rfl, rfl⟩)
  by_cases k1_4 : k = 4
  · refine r_swIn (k := nI 4) (tgt := 85) F dX8_differs_1 (congrArg nI k1_4) (by decide) (by decide) (off := 84) (by decide) (by decide) ?_
    refine lv_aload_n F.1 F.2.1 dX8_differs_85 rfl (lv_at hl 0 rfl) ?_
    refine r_get F w 0 0 iX8 f7 rfl rfl rfl (by decide) rfl dX8_differs_86 ?_
    refine lv_bipush (v := nI 14) F.1 F.2.1 dX8_differs_89 (by decide) ?_
    refine r_iald F w 1 rfl (by omega) (by decide) dX8_differs_91 ?_
    refine lv_aload_n F.1 F.2.1 dX8_differs_92 rfl (lv_at hl 0 rfl) ?_
    refine r_get F w 0 1 iX8 f13 rfl rfl rfl (by decide) rfl dX8_differs_93 ?_
    refine lv_bipush (v := nI 14) F.1 F.2.1 dX8_differs_96 (by decide) ?_
    refine r_iald F w 2 rfl (by omega) (by decide) dX8_differs_98 ?_
    refine lv_isub F.1 F.2.1 dX8_differs_99 ?_
    exact r_ireturn F w dX8_differs_100 (⟨by subst k1_4; rfl, rfl⟩)
  by_cases k1_5 : k = 5
  · refine r_swIn (k := nI 5) (tgt := 101) F dX8_differs_1 (congrArg nI k1_5) (by decide) (by decide) (off := 100) (by decide) (by decide) ?_
    refine lv_aload_n F.1 F.2.1 dX8_differs_101 rfl (lv_at hl 0 rfl) ?_
    refine r_callVI (rest := []) F w (c_X8_stuck l G a Q Sp Hs T N sc tl tp fa fr fn  ) gX8_differs_X8_stuck [0, 1, 2, 3, 4, 5] [] (nA0 := 0) rfl (by decide +kernel) rfl ⟨Nat.le_of_ble_eq_true rfl, Nat.le_of_ble_eq_true rfl⟩ ⟨Nat.le_of_ble_eq_true rfl, Nat.le_of_ble_eq_true rfl⟩ rfl rfl rfl rfl rfl rfl rfl hl rfl (Nat.le_of_ble_eq_true rfl) dX8_differs_102 (fun r_102 w1 H locs hp w => ?_)
    obtain ⟨rfl, rfl⟩ := hp
    have w := w.sub (ws' := mW G a Q Sp Hs sc T tl tp fa fr fn N) [0, 1, 2, 3, 4, 5] (by decide) rfl
    exact r_ireturn F w dX8_differs_105 (⟨by subst k1_5; rfl, rfl⟩)
  refine r_swOutN (tgt := 106) F dX8_differs_1 (by omega) (by omega) (by decide) ?_
  refine lv_aload_n F.1 F.2.1 dX8_differs_106 rfl (lv_at hl 0 rfl) ?_
  refine r_get F w 0 0 iX8 f7 rfl rfl rfl (by decide) rfl dX8_differs_107 ?_
  refine lv_bipush (v := nI 18) F.1 F.2.1 dX8_differs_110 (by decide) ?_
  refine r_iald F w 1 rfl (by omega) (by decide) dX8_differs_112 ?_
  refine lv_aload_n F.1 F.2.1 dX8_differs_113 rfl (lv_at hl 0 rfl) ?_
  refine r_get F w 0 1 iX8 f13 rfl rfl rfl (by decide) rfl dX8_differs_114 ?_
  refine lv_bipush (v := nI 18) F.1 F.2.1 dX8_differs_117 (by decide) ?_
  refine r_iald F w 2 rfl (by omega) (by decide) dX8_differs_119 ?_
  refine lv_isub F.1 F.2.1 dX8_differs_120 ?_
  exact r_ireturn F w dX8_differs_121 (⟨by unfold dfN; rw [if_neg k1_0, if_neg k1_1, if_neg k1_2, if_neg k1_3, if_neg k1_4, if_neg k1_5], rfl⟩)
theorem br_back (P S : Nat → Nat) (Q : Nat → Nat) : ∀ t, t < 246 → brF Q 0 (brF S 0 P 0) 0 t = P t := fun t ht => by
  unfold brF brK
  rw [if_pos (by omega), if_pos (by omega)]
  exact congrArg P (by omega)
theorem br_sp (P S : Nat → Nat) {k : Nat} (h : k < 246) : brF S 0 P 0 k = P k := by
  unfold brF brK
  rw [if_pos (by omega)]
  exact congrArg P (by omega)
theorem dif_if (P S : Nat → Nat) (q k : Nat) : dfN (itF P q) (brF S 0 P 0) k = ifN P q k := by
  unfold dfN ifN
  rw [br_sp P S (by decide), br_sp P S (by decide), br_sp P S (by decide), br_sp P S (by decide)]
set_option maxRecDepth 100000 in
set_option maxHeartbeats 4000000 in
theorem c_X8_ifRunM (l : Launch) (G : KG) (a P Sp Hs T N : Nat → Nat) (sc tl tp fa fr fn : Nat) (hI : Inv P) (h5 : sc ≤ 5) (x y : Int32) (hx : ¬ ((nI 1 ≤ x ∧ x ≤ nI 1000) ∧ nI 0 ≤ y ∧ y ≤ nI 6)) : MetI l yX8_ifRun wsX8_ifRun 6 G (mW G a P Sp Hs sc T tl tp fa fr fn N) [.ref (a 0), .int x, .int y] (fun r v => r = -1 ∧ v = mW G a P Sp Hs sc T tl tp fa fr fn N) := by
  refine MetI.by (cc := cX8_ifRun) (nL := 4) (ret := some .int) (by decide +kernel) rfl (Nat.le_of_ble_eq_true rfl) ?_
  intro p e s m args below meth c F w ls hl
  have hl : lv_has ls 4 [(0, .ref (a 0)), (1, .int x), (2, .int y)] := hl
  have hts := F.ts
  have hD := hI.d
  obtain ⟨b9, b11, b20, b12, b13, b25, b23⟩ := hD.bnd
  have h8 := hD.1.1
  have ht := hD.1.top_le
  have h14 := hI.2.2.2.2.2.1.1
  have h16 := hI.2.2.2.2.2.2.1
  refine lv_iload_n F.1 F.2.1 dX8_ifRun_0 rfl (lv_at hl 1 rfl) ?_
  refine lv_iconst (v := nI 1) F.1 F.2.1 dX8_ifRun_1 (by decide) ?_
  refine lv_sipush (v := nI 1000) F.1 F.2.1 dX8_ifRun_2 (by decide) ?_
  refine r_callS0 (rest := []) F w (c_X8_in l G x (nI 1) (nI 1000)) gX8_ifRun_X8_in (nA0 := 3) rfl (by decide +kernel) rfl ⟨Nat.le_of_ble_eq_true rfl, Nat.le_of_ble_eq_true rfl⟩ ⟨Nat.le_of_ble_eq_true rfl, Nat.le_of_ble_eq_true rfl⟩ hl rfl (Nat.le_of_ble_eq_true rfl) dX8_ifRun_5 (fun r_5 w1 H locs hp w => ?_)
  obtain ⟨rfl, rfl⟩ := hp
  refine r_yeq (tgt := 21) F dX8_ifRun_8 (by decide) (fun c8 => ?_) (fun c8 => ?_)
  · skip
    refine lv_iconst (v := (-1)) F.1 F.2.1 dX8_ifRun_21 (by decide) ?_
    exact r_ireturn F w dX8_ifRun_22 (⟨rfl, rfl⟩)
  · skip
    refine lv_iload_n F.1 F.2.1 dX8_ifRun_11 rfl (lv_at hl 2 rfl) ?_
    refine lv_iconst (v := nI 0) F.1 F.2.1 dX8_ifRun_12 (by decide) ?_
    refine lv_bipush (v := nI 6) F.1 F.2.1 dX8_ifRun_13 (by decide) ?_
    refine r_callS0 (rest := []) F w (c_X8_in l G y (nI 0) (nI 6)) gX8_ifRun_X8_in (nA0 := 3) rfl (by decide +kernel) rfl ⟨Nat.le_of_ble_eq_true rfl, Nat.le_of_ble_eq_true rfl⟩ ⟨Nat.le_of_ble_eq_true rfl, Nat.le_of_ble_eq_true rfl⟩ hl rfl (Nat.le_of_ble_eq_true rfl) dX8_ifRun_15 (fun r_15 w1 H locs hp w => ?_)
    obtain ⟨rfl, rfl⟩ := hp
    refine r_yne (tgt := 23) F dX8_ifRun_18 (by decide) (fun c18 => ?_) (fun c18 => ?_)
    · exact absurd ⟨c8, c18⟩ hx
    · skip
      refine lv_iconst (v := (-1)) F.1 F.2.1 dX8_ifRun_21 (by decide) ?_
      exact r_ireturn F w dX8_ifRun_22 (⟨rfl, rfl⟩)
set_option maxRecDepth 100000 in
set_option maxHeartbeats 4000000 in
theorem c_X8_ifRunZ (l : Launch) (G : KG) (a P Sp Hs T N : Nat → Nat) (sc tl tp fa fr fn : Nat) (hI : Inv P) (h5 : sc ≤ 5) (q k : Nat) (hq : 1 ≤ q ∧ q ≤ 1000) (hk : k ≤ 6) (hz : 20000 < P 16 + q) : MetI l yX8_ifRun wsX8_ifRun 6 G (mW G a P Sp Hs sc T tl tp fa fr fn N) [.ref (a 0), .int (nI q), .int (nI k)] (fun r v => r = -3 ∧ v = mW G a P Sp Hs sc T tl tp fa fr fn N) := by
  refine MetI.by (cc := cX8_ifRun) (nL := 4) (ret := some .int) (by decide +kernel) rfl (Nat.le_of_ble_eq_true rfl) ?_
  intro p e s m args below meth c F w ls hl
  have hl : lv_has ls 4 [(0, .ref (a 0)), (1, .int (nI q)), (2, .int (nI k))] := hl
  have hts := F.ts
  have iX8 : ∀ w ∈ wsX80, w ∈ wsX8_ifRun := by decide +kernel
  have f7 := hts (.fieldLink RX8 7 "CoreMelterModel" "m" "[I") (by decide +kernel)
  have hD := hI.d
  obtain ⟨b9, b11, b20, b12, b13, b25, b23⟩ := hD.bnd
  have h8 := hD.1.1
  have ht := hD.1.top_le
  have h14 := hI.2.2.2.2.2.1.1
  have h16 := hI.2.2.2.2.2.2.1
  refine lv_iload_n F.1 F.2.1 dX8_ifRun_0 rfl (lv_at hl 1 rfl) ?_
  refine lv_iconst (v := nI 1) F.1 F.2.1 dX8_ifRun_1 (by decide) ?_
  refine lv_sipush (v := nI 1000) F.1 F.2.1 dX8_ifRun_2 (by decide) ?_
  refine r_callS0 (rest := []) F w (c_X8_inN l G q 1 1000 (by omega) (by omega) (by omega)) gX8_ifRun_X8_in (nA0 := 3) rfl (by decide +kernel) rfl ⟨Nat.le_of_ble_eq_true rfl, Nat.le_of_ble_eq_true rfl⟩ ⟨Nat.le_of_ble_eq_true rfl, Nat.le_of_ble_eq_true rfl⟩ hl rfl (Nat.le_of_ble_eq_true rfl) dX8_ifRun_5 (fun r_5 w1 H locs hp w => ?_)
  obtain ⟨rfl, rfl⟩ := hp
  refine r_yeq (tgt := 21) F dX8_ifRun_8 (by decide) (fun c8 => ?_) (fun c8 => ?_)
  · exact absurd hq c8
  · skip
    refine lv_iload_n F.1 F.2.1 dX8_ifRun_11 rfl (lv_at hl 2 rfl) ?_
    refine lv_iconst (v := nI 0) F.1 F.2.1 dX8_ifRun_12 (by decide) ?_
    refine lv_bipush (v := nI 6) F.1 F.2.1 dX8_ifRun_13 (by decide) ?_
    refine r_callS0 (rest := []) F w (c_X8_inN l G k 0 6 (by omega) (by omega) (by omega)) gX8_ifRun_X8_in (nA0 := 3) rfl (by decide +kernel) rfl ⟨Nat.le_of_ble_eq_true rfl, Nat.le_of_ble_eq_true rfl⟩ ⟨Nat.le_of_ble_eq_true rfl, Nat.le_of_ble_eq_true rfl⟩ hl rfl (Nat.le_of_ble_eq_true rfl) dX8_ifRun_15 (fun r_15 w1 H locs hp w => ?_)
    obtain ⟨rfl, rfl⟩ := hp
    refine r_yne (tgt := 23) F dX8_ifRun_18 (by decide) (fun c18 => ?_) (fun c18 => ?_)
    · skip
      refine lv_aload_n F.1 F.2.1 dX8_ifRun_23 rfl (lv_at hl 0 rfl) ?_
      refine r_get F w 0 0 iX8 f7 rfl rfl rfl (by decide) rfl dX8_ifRun_24 ?_
      refine lv_bipush (v := nI 16) F.1 F.2.1 dX8_ifRun_27 (by decide) ?_
      refine r_iald F w 1 rfl (by omega) (by decide) dX8_ifRun_29 ?_
      refine lv_iload_n F.1 F.2.1 dX8_ifRun_30 rfl (lv_at hl 1 rfl) ?_
      refine r_iadd F dX8_ifRun_31 ?_
      refine lv_sipush (v := nI 20000) F.1 F.2.1 dX8_ifRun_32 (by decide) ?_
      refine r_cle (tgt := 41) F dX8_ifRun_35 (by decide) (by omega) (by omega) (fun c35 => ?_) (fun c35 => ?_)
      · exact absurd c35 (by omega)
      · skip
        refine lv_bipush (v := (-3)) F.1 F.2.1 dX8_ifRun_38 (by decide) ?_
        exact r_ireturn F w dX8_ifRun_40 (⟨rfl, rfl⟩)
    · exact absurd ⟨Nat.zero_le _, hk⟩ c18
set_option maxRecDepth 100000 in
set_option maxHeartbeats 4000000 in
theorem c_X8_ifRunN (l : Launch) (G : KG) (a P Sp Hs T N : Nat → Nat) (sc tl tp fa fr fn : Nat) (hI : Inv P) (h5 : sc ≤ 5) (q k : Nat) (hq : 1 ≤ q ∧ q ≤ 1000) (hk : k ≤ 6) (hz : P 16 + q ≤ 20000) : MetI l yX8_ifRun wsX8_ifRun 6 G (mW G a P Sp Hs sc T tl tp fa fr fn N) [.ref (a 0), .int (nI q), .int (nI k)] (fun r v => r = ifN P q k ∧ v = mW G a P (brF Sp 0 P 0) Hs sc T tl tp fa fr fn N) := by
  refine MetI.by (cc := cX8_ifRun) (nL := 4) (ret := some .int) (by decide +kernel) rfl (Nat.le_of_ble_eq_true rfl) ?_
  intro p e s m args below meth c F w ls hl
  have hl : lv_has ls 4 [(0, .ref (a 0)), (1, .int (nI q)), (2, .int (nI k))] := hl
  have hts := F.ts
  have iX8 : ∀ w ∈ wsX80, w ∈ wsX8_ifRun := by decide +kernel
  have f7 := hts (.fieldLink RX8 7 "CoreMelterModel" "m" "[I") (by decide +kernel)
  have f13 := hts (.fieldLink RX8 13 "CoreMelterModel" "spare" "[I") (by decide +kernel)
  have hD := hI.d
  obtain ⟨b9, b11, b20, b12, b13, b25, b23⟩ := hD.bnd
  have h8 := hD.1.1
  have ht := hD.1.top_le
  have h14 := hI.2.2.2.2.2.1.1
  have h16 := hI.2.2.2.2.2.2.1
  obtain ⟨hIq, -⟩ := it_ok hI q hz
  obtain ⟨q9, q11, q20, q12, q13, q25, q23⟩ := hIq.d.bnd
  refine lv_iload_n F.1 F.2.1 dX8_ifRun_0 rfl (lv_at hl 1 rfl) ?_
  refine lv_iconst (v := nI 1) F.1 F.2.1 dX8_ifRun_1 (by decide) ?_
  refine lv_sipush (v := nI 1000) F.1 F.2.1 dX8_ifRun_2 (by decide) ?_
  refine r_callS0 (rest := []) F w (c_X8_inN l G q 1 1000 (by omega) (by omega) (by omega)) gX8_ifRun_X8_in (nA0 := 3) rfl (by decide +kernel) rfl ⟨Nat.le_of_ble_eq_true rfl, Nat.le_of_ble_eq_true rfl⟩ ⟨Nat.le_of_ble_eq_true rfl, Nat.le_of_ble_eq_true rfl⟩ hl rfl (Nat.le_of_ble_eq_true rfl) dX8_ifRun_5 (fun r_5 w1 H locs hp w => ?_)
  obtain ⟨rfl, rfl⟩ := hp
  refine r_yeq (tgt := 21) F dX8_ifRun_8 (by decide) (fun c8 => ?_) (fun c8 => ?_)
  · exact absurd hq c8
  · skip
    refine lv_iload_n F.1 F.2.1 dX8_ifRun_11 rfl (lv_at hl 2 rfl) ?_
    refine lv_iconst (v := nI 0) F.1 F.2.1 dX8_ifRun_12 (by decide) ?_
    refine lv_bipush (v := nI 6) F.1 F.2.1 dX8_ifRun_13 (by decide) ?_
    refine r_callS0 (rest := []) F w (c_X8_inN l G k 0 6 (by omega) (by omega) (by omega)) gX8_ifRun_X8_in (nA0 := 3) rfl (by decide +kernel) rfl ⟨Nat.le_of_ble_eq_true rfl, Nat.le_of_ble_eq_true rfl⟩ ⟨Nat.le_of_ble_eq_true rfl, Nat.le_of_ble_eq_true rfl⟩ hl rfl (Nat.le_of_ble_eq_true rfl) dX8_ifRun_15 (fun r_15 w1 H locs hp w => ?_)
    obtain ⟨rfl, rfl⟩ := hp
    refine r_yne (tgt := 23) F dX8_ifRun_18 (by decide) (fun c18 => ?_) (fun c18 => ?_)
    · skip
      refine lv_aload_n F.1 F.2.1 dX8_ifRun_23 rfl (lv_at hl 0 rfl) ?_
      refine r_get F w 0 0 iX8 f7 rfl rfl rfl (by decide) rfl dX8_ifRun_24 ?_
      refine lv_bipush (v := nI 16) F.1 F.2.1 dX8_ifRun_27 (by decide) ?_
      refine r_iald F w 1 rfl (by omega) (by decide) dX8_ifRun_29 ?_
      refine lv_iload_n F.1 F.2.1 dX8_ifRun_30 rfl (lv_at hl 1 rfl) ?_
      refine r_iadd F dX8_ifRun_31 ?_
      refine lv_sipush (v := nI 20000) F.1 F.2.1 dX8_ifRun_32 (by decide) ?_
      refine r_cle (tgt := 41) F dX8_ifRun_35 (by decide) (by omega) (by omega) (fun c35 => ?_) (fun c35 => ?_)
      · skip
        refine lv_aload_n F.1 F.2.1 dX8_ifRun_41 rfl (lv_at hl 0 rfl) ?_
        refine r_get F w 0 0 iX8 f7 rfl rfl rfl (by decide) rfl dX8_ifRun_42 ?_
        refine lv_iconst (v := nI 0) F.1 F.2.1 dX8_ifRun_45 (by decide) ?_
        refine lv_aload_n F.1 F.2.1 dX8_ifRun_46 rfl (lv_at hl 0 rfl) ?_
        refine r_get F w 0 1 iX8 f13 rfl rfl rfl (by decide) rfl dX8_ifRun_47 ?_
        refine lv_iconst (v := nI 0) F.1 F.2.1 dX8_ifRun_50 (by decide) ?_
        refine r_callSV (rest := []) F w (c_X8_bring l G (a 1) (a 2) 246 246 0 0 P Sp (by decide) (by decide) (by omega) (by omega)) gX8_ifRun_X8_bring [1, 2] [0, 3, 4, 5] (nA0 := 4) rfl (by decide +kernel) rfl ⟨Nat.le_of_ble_eq_true rfl, Nat.le_of_ble_eq_true rfl⟩ ⟨Nat.le_of_ble_eq_true rfl, Nat.le_of_ble_eq_true rfl⟩ rfl rfl rfl rfl rfl hl rfl (Nat.le_of_ble_eq_true rfl) dX8_ifRun_51 (fun w1 H locs hp w => ?_)
        obtain rfl := hp
        have w := w.sub (ws' := mW G a P (brF Sp 0 P 0) Hs sc T tl tp fa fr fn N) [0, 4, 5, 1, 2, 3] (by decide) rfl
        refine lv_aload_n F.1 F.2.1 dX8_ifRun_54 rfl (lv_at hl 0 rfl) ?_
        refine lv_iload_n F.1 F.2.1 dX8_ifRun_55 rfl (lv_at hl 1 rfl) ?_
        refine r_callVV (rest := []) F w (c_X8_goBy l G a P (brF Sp 0 P 0) Hs T N sc tl tp fa fr fn q hI hz) gX8_ifRun_X8_goBy [0, 1, 2, 3, 4, 5] [] (nA0 := 1) rfl (by decide +kernel) rfl ⟨Nat.le_of_ble_eq_true rfl, Nat.le_of_ble_eq_true rfl⟩ ⟨Nat.le_of_ble_eq_true rfl, Nat.le_of_ble_eq_true rfl⟩ rfl rfl rfl rfl rfl rfl rfl hl rfl (Nat.le_of_ble_eq_true rfl) dX8_ifRun_56 (fun w1 H locs hp w => ?_)
        obtain rfl := hp
        have w := w.sub (ws' := mW G a (itF P q) (brF Sp 0 P 0) Hs sc T tl tp fa fr fn N) [0, 1, 2, 3, 4, 5] (by decide) rfl
        refine lv_aload_n F.1 F.2.1 dX8_ifRun_59 rfl (lv_at hl 0 rfl) ?_
        refine lv_iload_n F.1 F.2.1 dX8_ifRun_60 rfl (lv_at hl 2 rfl) ?_
        refine r_callVI (rest := []) F w (c_X8_differs l G a (itF P q) (brF Sp 0 P 0) Hs T N sc tl tp fa fr fn hIq.1 (by omega) (by omega) k hk) gX8_ifRun_X8_differs [0, 1, 2, 3, 4, 5] [] (nA0 := 1) rfl (by decide +kernel) rfl ⟨Nat.le_of_ble_eq_true rfl, Nat.le_of_ble_eq_true rfl⟩ ⟨Nat.le_of_ble_eq_true rfl, Nat.le_of_ble_eq_true rfl⟩ rfl rfl rfl rfl rfl rfl rfl hl rfl (Nat.le_of_ble_eq_true rfl) dX8_ifRun_61 (fun r_61 w1 H locs hp w => ?_)
        obtain ⟨rfl, rfl⟩ := hp
        have w := w.sub (ws' := mW G a (itF P q) (brF Sp 0 P 0) Hs sc T tl tp fa fr fn N) [0, 1, 2, 3, 4, 5] (by decide) rfl
        refine lv_istore_n (lv' := [(3, .int (dfN (itF P q) (brF Sp 0 P 0) k)), (0, .ref (a 0)), (1, .int (nI q)), (2, .int (nI k))]) F.1 F.2.1 dX8_ifRun_64 rfl hl (by decide) rfl (fun ls hl => ?_)
        refine lv_aload_n F.1 F.2.1 dX8_ifRun_65 rfl (lv_at hl 1 rfl) ?_
        refine r_get F w 0 1 iX8 f13 rfl rfl rfl (by decide) rfl dX8_ifRun_66 ?_
        refine lv_iconst (v := nI 0) F.1 F.2.1 dX8_ifRun_69 (by decide) ?_
        refine lv_aload_n F.1 F.2.1 dX8_ifRun_70 rfl (lv_at hl 1 rfl) ?_
        refine r_get F w 0 0 iX8 f7 rfl rfl rfl (by decide) rfl dX8_ifRun_71 ?_
        refine lv_iconst (v := nI 0) F.1 F.2.1 dX8_ifRun_74 (by decide) ?_
        refine r_callSV (rest := []) F w (c_X8_bring l G (a 2) (a 1) 246 246 0 0 (brF Sp 0 P 0) (itF P q) (by decide) (by decide) (by omega) (by omega)) gX8_ifRun_X8_bring [2, 1] [0, 3, 4, 5] (nA0 := 4) rfl (by decide +kernel) rfl ⟨Nat.le_of_ble_eq_true rfl, Nat.le_of_ble_eq_true rfl⟩ ⟨Nat.le_of_ble_eq_true rfl, Nat.le_of_ble_eq_true rfl⟩ rfl rfl rfl rfl rfl hl rfl (Nat.le_of_ble_eq_true rfl) dX8_ifRun_75 (fun w1 H locs hp w => ?_)
        obtain rfl := hp
        have w := w.sub (ws' := mW G a (brF (itF P q) 0 (brF Sp 0 P 0) 0) (brF Sp 0 P 0) Hs sc T tl tp fa fr fn N) [0, 5, 4, 1, 2, 3] (by decide) rfl
        have w := w.eq (ws' := mW G a P (brF Sp 0 P 0) Hs sc T tl tp fa fr fn N) (mW_eq rfl rfl rfl rfl rfl rfl (br_back P Sp (itF P q)) (fun _ _ => rfl) (fun _ _ => rfl) (fun _ _ => rfl) (fun _ _ => rfl))
        refine lv_iload_n F.1 F.2.1 dX8_ifRun_78 rfl (lv_at hl 0 rfl) ?_
        exact r_ireturn F w dX8_ifRun_79 (⟨dif_if P Sp q k, rfl⟩)
      · exact absurd c35 (by omega)
    · exact absurd ⟨Nat.zero_le _, hk⟩ c18
set_option maxRecDepth 100000 in
set_option maxHeartbeats 4000000 in
theorem c_X8_ticksToM (l : Launch) (G : KG) (a P Sp Hs T N : Nat → Nat) (sc tl tp fa fr fn : Nat) (hI : Inv P) (h5 : sc ≤ 5) (x : Int32) (hx : x < 0) : MetI l yX8_ticksTo wsX8_ticksTo 5 G (mW G a P Sp Hs sc T tl tp fa fr fn N) [.ref (a 0), .int x] (fun r v => r = -1 ∧ v = mW G a P Sp Hs sc T tl tp fa fr fn N) := by
  refine MetI.by (cc := cX8_ticksTo) (nL := 4) (ret := some .int) (by decide +kernel) rfl (Nat.le_of_ble_eq_true rfl) ?_
  intro p e s m args below meth c F w ls hl
  have hl : lv_has ls 4 [(0, .ref (a 0)), (1, .int x)] := hl
  have hts := F.ts
  have hD := hI.d
  obtain ⟨b9, b11, b20, b12, b13, b25, b23⟩ := hD.bnd
  have h8 := hD.1.1
  have ht := hD.1.top_le
  have h14 := hI.2.2.2.2.2.1.1
  have h16 := hI.2.2.2.2.2.2.1
  refine lv_iload_n F.1 F.2.1 dX8_ticksTo_0 rfl (lv_at hl 1 rfl) ?_
  refine lv_if_ge (tgt := 6) F.1 F.2.1 dX8_ticksTo_1 (by decide) (fun c1 => ?_) (fun c1 => ?_)
  · exact absurd hx (Int32.not_lt.mpr c1)
  · skip
    refine lv_iconst (v := (-1)) F.1 F.2.1 dX8_ticksTo_4 (by decide) ?_
    exact r_ireturn F w dX8_ticksTo_5 (⟨rfl, rfl⟩)
set_option maxRecDepth 100000 in
set_option maxHeartbeats 4000000 in
theorem c_X8_ticksToN (l : Launch) (G : KG) (a P Sp Hs T N : Nat → Nat) (sc tl tp fa fr fn : Nat) (hI : Inv P) (h5 : sc ≤ 5) (d : Nat) (hd : d < 2 ^ 31) : MetI l yX8_ticksTo wsX8_ticksTo 5 G (mW G a P Sp Hs sc T tl tp fa fr fn N) [.ref (a 0), .int (nI d)] (fun r v => r = ticksN P d ∧ v = mW G a P (brF Sp 0 P 0) Hs sc T tl tp fa fr fn N) := by
  refine MetI.by (cc := cX8_ticksTo) (nL := 4) (ret := some .int) (by decide +kernel) rfl (Nat.le_of_ble_eq_true rfl) ?_
  intro p e s m args below meth c F w ls hl
  have hl : lv_has ls 4 [(0, .ref (a 0)), (1, .int (nI d))] := hl
  have hts := F.ts
  have iX8 : ∀ w ∈ wsX80, w ∈ wsX8_ticksTo := by decide +kernel
  have f7 := hts (.fieldLink RX8 7 "CoreMelterModel" "m" "[I") (by decide +kernel)
  have f13 := hts (.fieldLink RX8 13 "CoreMelterModel" "spare" "[I") (by decide +kernel)
  have hD := hI.d
  obtain ⟨b9, b11, b20, b12, b13, b25, b23⟩ := hD.bnd
  have h8 := hD.1.1
  have ht := hD.1.top_le
  have h14 := hI.2.2.2.2.2.1.1
  have h16 := hI.2.2.2.2.2.2.1
  refine lv_iload_n F.1 F.2.1 dX8_ticksTo_0 rfl (lv_at hl 1 rfl) ?_
  refine r_zge (tgt := 6) F dX8_ticksTo_1 (by decide) (by omega) ?_
  refine lv_aload_n F.1 F.2.1 dX8_ticksTo_6 rfl (lv_at hl 0 rfl) ?_
  refine r_get F w 0 0 iX8 f7 rfl rfl rfl (by decide) rfl dX8_ticksTo_7 ?_
  refine lv_iconst (v := nI 0) F.1 F.2.1 dX8_ticksTo_10 (by decide) ?_
  refine lv_aload_n F.1 F.2.1 dX8_ticksTo_11 rfl (lv_at hl 0 rfl) ?_
  refine r_get F w 0 1 iX8 f13 rfl rfl rfl (by decide) rfl dX8_ticksTo_12 ?_
  refine lv_iconst (v := nI 0) F.1 F.2.1 dX8_ticksTo_15 (by decide) ?_
  refine r_callSV (rest := []) F w (c_X8_bring l G (a 1) (a 2) 246 246 0 0 P Sp (by decide) (by decide) (by omega) (by omega)) gX8_ticksTo_X8_bring [1, 2] [0, 3, 4, 5] (nA0 := 4) rfl (by decide +kernel) rfl ⟨Nat.le_of_ble_eq_true rfl, Nat.le_of_ble_eq_true rfl⟩ ⟨Nat.le_of_ble_eq_true rfl, Nat.le_of_ble_eq_true rfl⟩ rfl rfl rfl rfl rfl hl rfl (Nat.le_of_ble_eq_true rfl) dX8_ticksTo_16 (fun w1 H locs hp w => ?_)
  obtain rfl := hp
  have w := w.sub (ws' := mW G a P (brF Sp 0 P 0) Hs sc T tl tp fa fr fn N) [0, 4, 5, 1, 2, 3] (by decide) rfl
  refine lv_iconst (v := nI 0) F.1 F.2.1 dX8_ticksTo_19 (by decide) ?_
  refine lv_istore_n (lv' := [(2, .int (nI 0)), (0, .ref (a 0)), (1, .int (nI d))]) F.1 F.2.1 dX8_ticksTo_20 rfl hl (by decide) rfl (fun ls hl => ?_)
  have L21 : ∀ n : Nat, ∀ (k : Nat), (k ≤ min 2000 (20000 - P 16)) → (∀ j, j < k → toldF (itF P j) < d) → min 2000 (20000 - P 16) - k < n → ∀ (H : Heap) (locs : List Loc), Wd G s (va_A (mW G a P Sp Hs sc T tl tp fa fr fn N) s.heap.size) (mW G a (itF P k) (brF Sp 0 P 0) Hs sc T tl tp fa fr fn N) H locs → ∀ ls : Array Slot, lv_has ls 4 [(0, .ref (a 0)), (1, .int (nI d)), (2, .int (nI k))] → W p l e (rmK 5 0 0) s m args below meth c H locs 0 0 (MQ below (QI G (mW G a P Sp Hs sc T tl tp fa fr fn N) s.heap.size (fun r v => r = ticksN P d ∧ v = mW G a P (brF Sp 0 P 0) Hs sc T tl tp fa fr fn N)) args s 0 0 (va_A (mW G a P Sp Hs sc T tl tp fa fr fn N) s.heap.size)) (F0 m 21 ls []) := by
    intro n
    induction n with
    | zero => intro k h1 h2 hm; exact absurd hm (Nat.not_lt_zero _)
    | succ n ih21 =>
      intro k h1 h2 hm21 H locs w ls hl
      refine lv_aload_n F.1 F.2.1 dX8_ticksTo_21 rfl (lv_at hl 0 rfl) ?_
      obtain ⟨hIk, h16k, -⟩ := it_ok hI k (by omega)
      have htk := toldF_le (itF P k)
      obtain ⟨u9, u11, u20, u12, u13, u25, u23⟩ := hIk.d.bnd
      refine r_callVI (rest := []) F w (c_X8_told l G a (itF P k) (brF Sp 0 P 0) Hs T N sc tl tp fa fr fn hIk.1 (by omega) (by omega)) gX8_ticksTo_X8_told [0, 1, 2, 3, 4, 5] [] (nA0 := 0) rfl (by decide +kernel) rfl ⟨Nat.le_of_ble_eq_true rfl, Nat.le_of_ble_eq_true rfl⟩ ⟨Nat.le_of_ble_eq_true rfl, Nat.le_of_ble_eq_true rfl⟩ rfl rfl rfl rfl rfl rfl rfl hl rfl (Nat.le_of_ble_eq_true rfl) dX8_ticksTo_22 (fun r_22 w1 H locs hp w => ?_)
      obtain ⟨rfl, rfl⟩ := hp
      have w := w.sub (ws' := mW G a (itF P k) (brF Sp 0 P 0) Hs sc T tl tp fa fr fn N) [0, 1, 2, 3, 4, 5] (by decide) rfl
      refine lv_iload_n F.1 F.2.1 dX8_ticksTo_25 rfl (lv_at hl 1 rfl) ?_
      refine r_cge (tgt := 59) F dX8_ticksTo_26 (by decide) (by omega) (by omega) (fun c26 => ?_) (fun c26 => ?_)
      · skip
        refine lv_aload_n F.1 F.2.1 dX8_ticksTo_59 rfl (lv_at hl 0 rfl) ?_
        refine r_callVI (rest := []) F w (c_X8_told l G a (itF P k) (brF Sp 0 P 0) Hs T N sc tl tp fa fr fn hIk.1 (by omega) (by omega)) gX8_ticksTo_X8_told [0, 1, 2, 3, 4, 5] [] (nA0 := 0) rfl (by decide +kernel) rfl ⟨Nat.le_of_ble_eq_true rfl, Nat.le_of_ble_eq_true rfl⟩ ⟨Nat.le_of_ble_eq_true rfl, Nat.le_of_ble_eq_true rfl⟩ rfl rfl rfl rfl rfl rfl rfl hl rfl (Nat.le_of_ble_eq_true rfl) dX8_ticksTo_60 (fun r_60 w1 H locs hp w => ?_)
        obtain ⟨rfl, rfl⟩ := hp
        have w := w.sub (ws' := mW G a (itF P k) (brF Sp 0 P 0) Hs sc T tl tp fa fr fn N) [0, 1, 2, 3, 4, 5] (by decide) rfl
        refine lv_iload_n F.1 F.2.1 dX8_ticksTo_63 rfl (lv_at hl 1 rfl) ?_
        have hkk : k = toN P d := by rcases Nat.lt_or_ge k (min 2000 (20000 - P 16)) with z | z <;> first | exact (ft_at z h2 (Nat.not_lt.mp c26)).symm | exact absurd z (by omega) | (have zz : k = min 2000 (20000 - P 16) := Nat.le_antisymm h1 z; rw [zz] at h2; exact zz.trans (ft_all h2).symm)
        refine r_cge (tgt := 72) F dX8_ticksTo_64 (by decide) (by omega) (by omega) (fun c64 => ?_) (fun c64 => ?_)
        · skip
          refine lv_iload_n F.1 F.2.1 dX8_ticksTo_72 rfl (lv_at hl 2 rfl) ?_
          refine lv_istore_n (lv' := [(3, .int (nI k)), (0, .ref (a 0)), (1, .int (nI d)), (2, .int (nI k))]) F.1 F.2.1 dX8_ticksTo_73 rfl hl (by decide) rfl (fun ls hl => ?_)
          refine lv_aload_n F.1 F.2.1 dX8_ticksTo_74 rfl (lv_at hl 1 rfl) ?_
          refine r_get F w 0 1 iX8 f13 rfl rfl rfl (by decide) rfl dX8_ticksTo_75 ?_
          refine lv_iconst (v := nI 0) F.1 F.2.1 dX8_ticksTo_78 (by decide) ?_
          refine lv_aload_n F.1 F.2.1 dX8_ticksTo_79 rfl (lv_at hl 1 rfl) ?_
          refine r_get F w 0 0 iX8 f7 rfl rfl rfl (by decide) rfl dX8_ticksTo_80 ?_
          refine lv_iconst (v := nI 0) F.1 F.2.1 dX8_ticksTo_83 (by decide) ?_
          refine r_callSV (rest := []) F w (c_X8_bring l G (a 2) (a 1) 246 246 0 0 (brF Sp 0 P 0) (itF P k) (by decide) (by decide) (by omega) (by omega)) gX8_ticksTo_X8_bring [2, 1] [0, 3, 4, 5] (nA0 := 4) rfl (by decide +kernel) rfl ⟨Nat.le_of_ble_eq_true rfl, Nat.le_of_ble_eq_true rfl⟩ ⟨Nat.le_of_ble_eq_true rfl, Nat.le_of_ble_eq_true rfl⟩ rfl rfl rfl rfl rfl hl rfl (Nat.le_of_ble_eq_true rfl) dX8_ticksTo_84 (fun w1 H locs hp w => ?_)
          obtain rfl := hp
          have w := w.sub (ws' := mW G a (brF (itF P k) 0 (brF Sp 0 P 0) 0) (brF Sp 0 P 0) Hs sc T tl tp fa fr fn N) [0, 5, 4, 1, 2, 3] (by decide) rfl
          have w := w.eq (ws' := mW G a P (brF Sp 0 P 0) Hs sc T tl tp fa fr fn N) (mW_eq rfl rfl rfl rfl rfl rfl (br_back P Sp (itF P k)) (fun _ _ => rfl) (fun _ _ => rfl) (fun _ _ => rfl) (fun _ _ => rfl))
          refine lv_iload_n F.1 F.2.1 dX8_ticksTo_87 rfl (lv_at hl 0 rfl) ?_
          exact r_ireturn F w dX8_ticksTo_88 (⟨by unfold ticksN; rw [← hkk]; first | exact (if_pos c64).symm | exact (if_neg c64).symm, rfl⟩)
        · skip
          refine lv_bipush (v := (-4)) F.1 F.2.1 dX8_ticksTo_67 (by decide) ?_
          refine lv_goto (tgt := 73) F.1 F.2.1 dX8_ticksTo_69 (by decide) ?_
          refine lv_istore_n (lv' := [(3, .int ((-4))), (0, .ref (a 0)), (1, .int (nI d)), (2, .int (nI k))]) F.1 F.2.1 dX8_ticksTo_73 rfl hl (by decide) rfl (fun ls hl => ?_)
          refine lv_aload_n F.1 F.2.1 dX8_ticksTo_74 rfl (lv_at hl 1 rfl) ?_
          refine r_get F w 0 1 iX8 f13 rfl rfl rfl (by decide) rfl dX8_ticksTo_75 ?_
          refine lv_iconst (v := nI 0) F.1 F.2.1 dX8_ticksTo_78 (by decide) ?_
          refine lv_aload_n F.1 F.2.1 dX8_ticksTo_79 rfl (lv_at hl 1 rfl) ?_
          refine r_get F w 0 0 iX8 f7 rfl rfl rfl (by decide) rfl dX8_ticksTo_80 ?_
          refine lv_iconst (v := nI 0) F.1 F.2.1 dX8_ticksTo_83 (by decide) ?_
          refine r_callSV (rest := []) F w (c_X8_bring l G (a 2) (a 1) 246 246 0 0 (brF Sp 0 P 0) (itF P k) (by decide) (by decide) (by omega) (by omega)) gX8_ticksTo_X8_bring [2, 1] [0, 3, 4, 5] (nA0 := 4) rfl (by decide +kernel) rfl ⟨Nat.le_of_ble_eq_true rfl, Nat.le_of_ble_eq_true rfl⟩ ⟨Nat.le_of_ble_eq_true rfl, Nat.le_of_ble_eq_true rfl⟩ rfl rfl rfl rfl rfl hl rfl (Nat.le_of_ble_eq_true rfl) dX8_ticksTo_84 (fun w1 H locs hp w => ?_)
          obtain rfl := hp
          have w := w.sub (ws' := mW G a (brF (itF P k) 0 (brF Sp 0 P 0) 0) (brF Sp 0 P 0) Hs sc T tl tp fa fr fn N) [0, 5, 4, 1, 2, 3] (by decide) rfl
          have w := w.eq (ws' := mW G a P (brF Sp 0 P 0) Hs sc T tl tp fa fr fn N) (mW_eq rfl rfl rfl rfl rfl rfl (br_back P Sp (itF P k)) (fun _ _ => rfl) (fun _ _ => rfl) (fun _ _ => rfl) (fun _ _ => rfl))
          refine lv_iload_n F.1 F.2.1 dX8_ticksTo_87 rfl (lv_at hl 0 rfl) ?_
          exact r_ireturn F w dX8_ticksTo_88 (⟨by unfold ticksN; rw [← hkk]; first | exact (if_pos c64).symm | exact (if_neg c64).symm, rfl⟩)
      · skip
        refine lv_iload_n F.1 F.2.1 dX8_ticksTo_29 rfl (lv_at hl 2 rfl) ?_
        refine lv_sipush (v := nI 2000) F.1 F.2.1 dX8_ticksTo_30 (by decide) ?_
        refine r_cge (tgt := 59) F dX8_ticksTo_33 (by decide) (by omega) (by omega) (fun c33 => ?_) (fun c33 => ?_)
        · skip
          refine lv_aload_n F.1 F.2.1 dX8_ticksTo_59 rfl (lv_at hl 0 rfl) ?_
          refine r_callVI (rest := []) F w (c_X8_told l G a (itF P k) (brF Sp 0 P 0) Hs T N sc tl tp fa fr fn hIk.1 (by omega) (by omega)) gX8_ticksTo_X8_told [0, 1, 2, 3, 4, 5] [] (nA0 := 0) rfl (by decide +kernel) rfl ⟨Nat.le_of_ble_eq_true rfl, Nat.le_of_ble_eq_true rfl⟩ ⟨Nat.le_of_ble_eq_true rfl, Nat.le_of_ble_eq_true rfl⟩ rfl rfl rfl rfl rfl rfl rfl hl rfl (Nat.le_of_ble_eq_true rfl) dX8_ticksTo_60 (fun r_60 w1 H locs hp w => ?_)
          obtain ⟨rfl, rfl⟩ := hp
          have w := w.sub (ws' := mW G a (itF P k) (brF Sp 0 P 0) Hs sc T tl tp fa fr fn N) [0, 1, 2, 3, 4, 5] (by decide) rfl
          refine lv_iload_n F.1 F.2.1 dX8_ticksTo_63 rfl (lv_at hl 1 rfl) ?_
          have hkk : k = toN P d := by rcases Nat.lt_or_ge k (min 2000 (20000 - P 16)) with z | z <;> first | exact (ft_at z h2 (Nat.not_lt.mp c26)).symm | exact absurd z (by omega) | (have zz : k = min 2000 (20000 - P 16) := Nat.le_antisymm h1 z; rw [zz] at h2; exact zz.trans (ft_all h2).symm)
          refine r_cge (tgt := 72) F dX8_ticksTo_64 (by decide) (by omega) (by omega) (fun c64 => ?_) (fun c64 => ?_)
          · skip
            refine lv_iload_n F.1 F.2.1 dX8_ticksTo_72 rfl (lv_at hl 2 rfl) ?_
            refine lv_istore_n (lv' := [(3, .int (nI k)), (0, .ref (a 0)), (1, .int (nI d)), (2, .int (nI k))]) F.1 F.2.1 dX8_ticksTo_73 rfl hl (by decide) rfl (fun ls hl => ?_)
            refine lv_aload_n F.1 F.2.1 dX8_ticksTo_74 rfl (lv_at hl 1 rfl) ?_
            refine r_get F w 0 1 iX8 f13 rfl rfl rfl (by decide) rfl dX8_ticksTo_75 ?_
            refine lv_iconst (v := nI 0) F.1 F.2.1 dX8_ticksTo_78 (by decide) ?_
            refine lv_aload_n F.1 F.2.1 dX8_ticksTo_79 rfl (lv_at hl 1 rfl) ?_
            refine r_get F w 0 0 iX8 f7 rfl rfl rfl (by decide) rfl dX8_ticksTo_80 ?_
            refine lv_iconst (v := nI 0) F.1 F.2.1 dX8_ticksTo_83 (by decide) ?_
            refine r_callSV (rest := []) F w (c_X8_bring l G (a 2) (a 1) 246 246 0 0 (brF Sp 0 P 0) (itF P k) (by decide) (by decide) (by omega) (by omega)) gX8_ticksTo_X8_bring [2, 1] [0, 3, 4, 5] (nA0 := 4) rfl (by decide +kernel) rfl ⟨Nat.le_of_ble_eq_true rfl, Nat.le_of_ble_eq_true rfl⟩ ⟨Nat.le_of_ble_eq_true rfl, Nat.le_of_ble_eq_true rfl⟩ rfl rfl rfl rfl rfl hl rfl (Nat.le_of_ble_eq_true rfl) dX8_ticksTo_84 (fun w1 H locs hp w => ?_)
            obtain rfl := hp
            have w := w.sub (ws' := mW G a (brF (itF P k) 0 (brF Sp 0 P 0) 0) (brF Sp 0 P 0) Hs sc T tl tp fa fr fn N) [0, 5, 4, 1, 2, 3] (by decide) rfl
            have w := w.eq (ws' := mW G a P (brF Sp 0 P 0) Hs sc T tl tp fa fr fn N) (mW_eq rfl rfl rfl rfl rfl rfl (br_back P Sp (itF P k)) (fun _ _ => rfl) (fun _ _ => rfl) (fun _ _ => rfl) (fun _ _ => rfl))
            refine lv_iload_n F.1 F.2.1 dX8_ticksTo_87 rfl (lv_at hl 0 rfl) ?_
            exact r_ireturn F w dX8_ticksTo_88 (⟨by unfold ticksN; rw [← hkk]; first | exact (if_pos c64).symm | exact (if_neg c64).symm, rfl⟩)
          · skip
            refine lv_bipush (v := (-4)) F.1 F.2.1 dX8_ticksTo_67 (by decide) ?_
            refine lv_goto (tgt := 73) F.1 F.2.1 dX8_ticksTo_69 (by decide) ?_
            refine lv_istore_n (lv' := [(3, .int ((-4))), (0, .ref (a 0)), (1, .int (nI d)), (2, .int (nI k))]) F.1 F.2.1 dX8_ticksTo_73 rfl hl (by decide) rfl (fun ls hl => ?_)
            refine lv_aload_n F.1 F.2.1 dX8_ticksTo_74 rfl (lv_at hl 1 rfl) ?_
            refine r_get F w 0 1 iX8 f13 rfl rfl rfl (by decide) rfl dX8_ticksTo_75 ?_
            refine lv_iconst (v := nI 0) F.1 F.2.1 dX8_ticksTo_78 (by decide) ?_
            refine lv_aload_n F.1 F.2.1 dX8_ticksTo_79 rfl (lv_at hl 1 rfl) ?_
            refine r_get F w 0 0 iX8 f7 rfl rfl rfl (by decide) rfl dX8_ticksTo_80 ?_
            refine lv_iconst (v := nI 0) F.1 F.2.1 dX8_ticksTo_83 (by decide) ?_
            refine r_callSV (rest := []) F w (c_X8_bring l G (a 2) (a 1) 246 246 0 0 (brF Sp 0 P 0) (itF P k) (by decide) (by decide) (by omega) (by omega)) gX8_ticksTo_X8_bring [2, 1] [0, 3, 4, 5] (nA0 := 4) rfl (by decide +kernel) rfl ⟨Nat.le_of_ble_eq_true rfl, Nat.le_of_ble_eq_true rfl⟩ ⟨Nat.le_of_ble_eq_true rfl, Nat.le_of_ble_eq_true rfl⟩ rfl rfl rfl rfl rfl hl rfl (Nat.le_of_ble_eq_true rfl) dX8_ticksTo_84 (fun w1 H locs hp w => ?_)
            obtain rfl := hp
            have w := w.sub (ws' := mW G a (brF (itF P k) 0 (brF Sp 0 P 0) 0) (brF Sp 0 P 0) Hs sc T tl tp fa fr fn N) [0, 5, 4, 1, 2, 3] (by decide) rfl
            have w := w.eq (ws' := mW G a P (brF Sp 0 P 0) Hs sc T tl tp fa fr fn N) (mW_eq rfl rfl rfl rfl rfl rfl (br_back P Sp (itF P k)) (fun _ _ => rfl) (fun _ _ => rfl) (fun _ _ => rfl) (fun _ _ => rfl))
            refine lv_iload_n F.1 F.2.1 dX8_ticksTo_87 rfl (lv_at hl 0 rfl) ?_
            exact r_ireturn F w dX8_ticksTo_88 (⟨by unfold ticksN; rw [← hkk]; first | exact (if_pos c64).symm | exact (if_neg c64).symm, rfl⟩)
        · skip
          refine lv_aload_n F.1 F.2.1 dX8_ticksTo_36 rfl (lv_at hl 0 rfl) ?_
          refine r_get F w 0 0 iX8 f7 rfl rfl rfl (by decide) rfl dX8_ticksTo_37 ?_
          refine lv_bipush (v := nI 16) F.1 F.2.1 dX8_ticksTo_40 (by decide) ?_
          refine r_iald F w 1 rfl (by omega) (by decide) dX8_ticksTo_42 ?_
          refine lv_sipush (v := nI 20000) F.1 F.2.1 dX8_ticksTo_43 (by decide) ?_
          refine r_cge (tgt := 59) F dX8_ticksTo_46 (by decide) (by omega) (by omega) (fun c46 => ?_) (fun c46 => ?_)
          · skip
            refine lv_aload_n F.1 F.2.1 dX8_ticksTo_59 rfl (lv_at hl 0 rfl) ?_
            refine r_callVI (rest := []) F w (c_X8_told l G a (itF P k) (brF Sp 0 P 0) Hs T N sc tl tp fa fr fn hIk.1 (by omega) (by omega)) gX8_ticksTo_X8_told [0, 1, 2, 3, 4, 5] [] (nA0 := 0) rfl (by decide +kernel) rfl ⟨Nat.le_of_ble_eq_true rfl, Nat.le_of_ble_eq_true rfl⟩ ⟨Nat.le_of_ble_eq_true rfl, Nat.le_of_ble_eq_true rfl⟩ rfl rfl rfl rfl rfl rfl rfl hl rfl (Nat.le_of_ble_eq_true rfl) dX8_ticksTo_60 (fun r_60 w1 H locs hp w => ?_)
            obtain ⟨rfl, rfl⟩ := hp
            have w := w.sub (ws' := mW G a (itF P k) (brF Sp 0 P 0) Hs sc T tl tp fa fr fn N) [0, 1, 2, 3, 4, 5] (by decide) rfl
            refine lv_iload_n F.1 F.2.1 dX8_ticksTo_63 rfl (lv_at hl 1 rfl) ?_
            have hkk : k = toN P d := by rcases Nat.lt_or_ge k (min 2000 (20000 - P 16)) with z | z <;> first | exact (ft_at z h2 (Nat.not_lt.mp c26)).symm | exact absurd z (by omega) | (have zz : k = min 2000 (20000 - P 16) := Nat.le_antisymm h1 z; rw [zz] at h2; exact zz.trans (ft_all h2).symm)
            refine r_cge (tgt := 72) F dX8_ticksTo_64 (by decide) (by omega) (by omega) (fun c64 => ?_) (fun c64 => ?_)
            · skip
              refine lv_iload_n F.1 F.2.1 dX8_ticksTo_72 rfl (lv_at hl 2 rfl) ?_
              refine lv_istore_n (lv' := [(3, .int (nI k)), (0, .ref (a 0)), (1, .int (nI d)), (2, .int (nI k))]) F.1 F.2.1 dX8_ticksTo_73 rfl hl (by decide) rfl (fun ls hl => ?_)
              refine lv_aload_n F.1 F.2.1 dX8_ticksTo_74 rfl (lv_at hl 1 rfl) ?_
              refine r_get F w 0 1 iX8 f13 rfl rfl rfl (by decide) rfl dX8_ticksTo_75 ?_
              refine lv_iconst (v := nI 0) F.1 F.2.1 dX8_ticksTo_78 (by decide) ?_
              refine lv_aload_n F.1 F.2.1 dX8_ticksTo_79 rfl (lv_at hl 1 rfl) ?_
              refine r_get F w 0 0 iX8 f7 rfl rfl rfl (by decide) rfl dX8_ticksTo_80 ?_
              refine lv_iconst (v := nI 0) F.1 F.2.1 dX8_ticksTo_83 (by decide) ?_
              refine r_callSV (rest := []) F w (c_X8_bring l G (a 2) (a 1) 246 246 0 0 (brF Sp 0 P 0) (itF P k) (by decide) (by decide) (by omega) (by omega)) gX8_ticksTo_X8_bring [2, 1] [0, 3, 4, 5] (nA0 := 4) rfl (by decide +kernel) rfl ⟨Nat.le_of_ble_eq_true rfl, Nat.le_of_ble_eq_true rfl⟩ ⟨Nat.le_of_ble_eq_true rfl, Nat.le_of_ble_eq_true rfl⟩ rfl rfl rfl rfl rfl hl rfl (Nat.le_of_ble_eq_true rfl) dX8_ticksTo_84 (fun w1 H locs hp w => ?_)
              obtain rfl := hp
              have w := w.sub (ws' := mW G a (brF (itF P k) 0 (brF Sp 0 P 0) 0) (brF Sp 0 P 0) Hs sc T tl tp fa fr fn N) [0, 5, 4, 1, 2, 3] (by decide) rfl
              have w := w.eq (ws' := mW G a P (brF Sp 0 P 0) Hs sc T tl tp fa fr fn N) (mW_eq rfl rfl rfl rfl rfl rfl (br_back P Sp (itF P k)) (fun _ _ => rfl) (fun _ _ => rfl) (fun _ _ => rfl) (fun _ _ => rfl))
              refine lv_iload_n F.1 F.2.1 dX8_ticksTo_87 rfl (lv_at hl 0 rfl) ?_
              exact r_ireturn F w dX8_ticksTo_88 (⟨by unfold ticksN; rw [← hkk]; first | exact (if_pos c64).symm | exact (if_neg c64).symm, rfl⟩)
            · skip
              refine lv_bipush (v := (-4)) F.1 F.2.1 dX8_ticksTo_67 (by decide) ?_
              refine lv_goto (tgt := 73) F.1 F.2.1 dX8_ticksTo_69 (by decide) ?_
              refine lv_istore_n (lv' := [(3, .int ((-4))), (0, .ref (a 0)), (1, .int (nI d)), (2, .int (nI k))]) F.1 F.2.1 dX8_ticksTo_73 rfl hl (by decide) rfl (fun ls hl => ?_)
              refine lv_aload_n F.1 F.2.1 dX8_ticksTo_74 rfl (lv_at hl 1 rfl) ?_
              refine r_get F w 0 1 iX8 f13 rfl rfl rfl (by decide) rfl dX8_ticksTo_75 ?_
              refine lv_iconst (v := nI 0) F.1 F.2.1 dX8_ticksTo_78 (by decide) ?_
              refine lv_aload_n F.1 F.2.1 dX8_ticksTo_79 rfl (lv_at hl 1 rfl) ?_
              refine r_get F w 0 0 iX8 f7 rfl rfl rfl (by decide) rfl dX8_ticksTo_80 ?_
              refine lv_iconst (v := nI 0) F.1 F.2.1 dX8_ticksTo_83 (by decide) ?_
              refine r_callSV (rest := []) F w (c_X8_bring l G (a 2) (a 1) 246 246 0 0 (brF Sp 0 P 0) (itF P k) (by decide) (by decide) (by omega) (by omega)) gX8_ticksTo_X8_bring [2, 1] [0, 3, 4, 5] (nA0 := 4) rfl (by decide +kernel) rfl ⟨Nat.le_of_ble_eq_true rfl, Nat.le_of_ble_eq_true rfl⟩ ⟨Nat.le_of_ble_eq_true rfl, Nat.le_of_ble_eq_true rfl⟩ rfl rfl rfl rfl rfl hl rfl (Nat.le_of_ble_eq_true rfl) dX8_ticksTo_84 (fun w1 H locs hp w => ?_)
              obtain rfl := hp
              have w := w.sub (ws' := mW G a (brF (itF P k) 0 (brF Sp 0 P 0) 0) (brF Sp 0 P 0) Hs sc T tl tp fa fr fn N) [0, 5, 4, 1, 2, 3] (by decide) rfl
              have w := w.eq (ws' := mW G a P (brF Sp 0 P 0) Hs sc T tl tp fa fr fn N) (mW_eq rfl rfl rfl rfl rfl rfl (br_back P Sp (itF P k)) (fun _ _ => rfl) (fun _ _ => rfl) (fun _ _ => rfl) (fun _ _ => rfl))
              refine lv_iload_n F.1 F.2.1 dX8_ticksTo_87 rfl (lv_at hl 0 rfl) ?_
              exact r_ireturn F w dX8_ticksTo_88 (⟨by unfold ticksN; rw [← hkk]; first | exact (if_pos c64).symm | exact (if_neg c64).symm, rfl⟩)
          · skip
            refine lv_aload_n F.1 F.2.1 dX8_ticksTo_49 rfl (lv_at hl 0 rfl) ?_
            refine r_callVV (rest := []) F w (c_X8_tick l G a (itF P k) (brF Sp 0 P 0) Hs T N sc tl tp fa fr fn hIk) gX8_ticksTo_X8_tick [0, 1, 2, 3, 4, 5] [] (nA0 := 0) rfl (by decide +kernel) rfl ⟨Nat.le_of_ble_eq_true rfl, Nat.le_of_ble_eq_true rfl⟩ ⟨Nat.le_of_ble_eq_true rfl, Nat.le_of_ble_eq_true rfl⟩ rfl rfl rfl rfl rfl rfl rfl hl rfl (Nat.le_of_ble_eq_true rfl) dX8_ticksTo_50 (fun w1 H locs hp w => ?_)
            obtain rfl := hp
            have w := w.sub (ws' := mW G a (tickF (itF P k)) (brF Sp 0 P 0) Hs sc T tl tp fa fr fn N) [0, 1, 2, 3, 4, 5] (by decide) rfl
            refine lv_iinc (v := nI (k + 1)) (lv' := [(2, .int (nI (k + 1))), (0, .ref (a 0)), (1, .int (nI d))]) F.1 F.2.1 dX8_ticksTo_53 hl (k := 2) rfl (nI_add _ _) (by decide) rfl (fun ls hl => ?_)
            refine lv_goto (tgt := 21) F.1 F.2.1 dX8_ticksTo_56 (by decide) ?_
            exact ih21 (k + 1) (by omega) (fun j hj => by rcases Nat.lt_succ_iff_lt_or_eq.mp hj with q | q; exact h2 j q; rw [q]; exact c26) (by omega) _ _ w ls (lv_sub hl [1, 2, 0] rfl)
  exact L21 _ 0 (Nat.zero_le _) (fun j hj => absurd hj (Nat.not_lt_zero _)) (Nat.lt_succ_self _) _ _ w ls (lv_sub hl [1, 2, 0] rfl)
theorem fl_nonneg (P : Nat → Nat) (q : Nat) : (-1 : Int32) < nI (flP P q 0 20) ∨ ¬ flP P q 0 20 < 2 ^ 31 := by
  by_cases h : flP P q 0 20 < 2 ^ 31
  · exact Or.inl (Int32.lt_of_lt_of_le (by decide) (Int32.not_lt.mp (nI_pos h)))
  · exact Or.inr h
/-- the reference's best: nothing before the first flow -/
def flC (P : Nat → Nat) (q : Nat) : Nat → Int32
  | 0 => nI 0
  | k + 1 => if flM P q k < nI (flP P q k 20) then nI (10 * k + 10) else flC P q k
theorem flC_B (P : Nat → Nat) (q : Nat) (h : flP P q 0 20 < 2 ^ 31) : ∀ k, flC P q (k + 1) = flB P q (k + 1)
  | 0 => by
    have h1 : (-1 : Int32) < nI (flP P q 0 20) := (fl_nonneg P q).resolve_right (fun z => z h)
    show (if (-1 : Int32) < nI (flP P q 0 20) then nI (10 * 0 + 10) else nI 0) = if (-1 : Int32) < nI (flP P q 0 20) then nI (10 * 0 + 10) else nI 10
    rw [if_pos h1, if_pos h1]
  | k + 1 => by
    have h1 := flC_B P q h k
    show (if _ < _ then _ else flC P q (k + 1)) = if _ < _ then _ else flB P q (k + 1)
    rw [h1]
set_option maxRecDepth 100000 in
set_option maxHeartbeats 4000000 in
theorem c_X8_flowForM (l : Launch) (G : KG) (a P Sp Hs T N : Nat → Nat) (sc tl tp fa fr fn : Nat) (hI : Inv P) (h5 : sc ≤ 5) (x : Int32) (hx : ¬ (nI 1 ≤ x ∧ x ≤ nI 300)) : MetI l yX8_flowFor wsX8_flowFor 6 G (mW G a P Sp Hs sc T tl tp fa fr fn N) [.ref (a 0), .int x] (fun r v => r = -1 ∧ v = mW G a P Sp Hs sc T tl tp fa fr fn N) := by
  refine MetI.by (cc := cX8_flowFor) (nL := 6) (ret := some .int) (by decide +kernel) rfl (Nat.le_of_ble_eq_true rfl) ?_
  intro p e s m args below meth c F w ls hl
  have hl : lv_has ls 6 [(0, .ref (a 0)), (1, .int x)] := hl
  have hts := F.ts
  have hD := hI.d
  obtain ⟨b9, b11, b20, b12, b13, b25, b23⟩ := hD.bnd
  have h8 := hD.1.1
  have ht := hD.1.top_le
  have h14 := hI.2.2.2.2.2.1.1
  have h16 := hI.2.2.2.2.2.2.1
  refine lv_iload_n F.1 F.2.1 dX8_flowFor_0 rfl (lv_at hl 1 rfl) ?_
  refine lv_iconst (v := nI 1) F.1 F.2.1 dX8_flowFor_1 (by decide) ?_
  refine lv_sipush (v := nI 300) F.1 F.2.1 dX8_flowFor_2 (by decide) ?_
  refine r_callS0 (rest := []) F w (c_X8_in l G x (nI 1) (nI 300)) gX8_flowFor_X8_in (nA0 := 3) rfl (by decide +kernel) rfl ⟨Nat.le_of_ble_eq_true rfl, Nat.le_of_ble_eq_true rfl⟩ ⟨Nat.le_of_ble_eq_true rfl, Nat.le_of_ble_eq_true rfl⟩ hl rfl (Nat.le_of_ble_eq_true rfl) dX8_flowFor_5 (fun r_5 w1 H locs hp w => ?_)
  obtain ⟨rfl, rfl⟩ := hp
  refine r_yne (tgt := 13) F dX8_flowFor_8 (by decide) (fun c8 => ?_) (fun c8 => ?_)
  · exact absurd c8 hx
  · skip
    refine lv_iconst (v := (-1)) F.1 F.2.1 dX8_flowFor_11 (by decide) ?_
    exact r_ireturn F w dX8_flowFor_12 (⟨rfl, rfl⟩)
set_option maxRecDepth 100000 in
set_option maxHeartbeats 4000000 in
theorem c_X8_flowForZ (l : Launch) (G : KG) (a P Sp Hs T N : Nat → Nat) (sc tl tp fa fr fn : Nat) (hI : Inv P) (h5 : sc ≤ 5) (q : Nat) (hq : 1 ≤ q ∧ q ≤ 300) (hz : 20000 < P 16 + q) : MetI l yX8_flowFor wsX8_flowFor 6 G (mW G a P Sp Hs sc T tl tp fa fr fn N) [.ref (a 0), .int (nI q)] (fun r v => r = -3 ∧ v = mW G a P Sp Hs sc T tl tp fa fr fn N) := by
  refine MetI.by (cc := cX8_flowFor) (nL := 6) (ret := some .int) (by decide +kernel) rfl (Nat.le_of_ble_eq_true rfl) ?_
  intro p e s m args below meth c F w ls hl
  have hl : lv_has ls 6 [(0, .ref (a 0)), (1, .int (nI q))] := hl
  have hts := F.ts
  have iX8 : ∀ w ∈ wsX80, w ∈ wsX8_flowFor := by decide +kernel
  have f7 := hts (.fieldLink RX8 7 "CoreMelterModel" "m" "[I") (by decide +kernel)
  have hD := hI.d
  obtain ⟨b9, b11, b20, b12, b13, b25, b23⟩ := hD.bnd
  have h8 := hD.1.1
  have ht := hD.1.top_le
  have h14 := hI.2.2.2.2.2.1.1
  have h16 := hI.2.2.2.2.2.2.1
  refine lv_iload_n F.1 F.2.1 dX8_flowFor_0 rfl (lv_at hl 1 rfl) ?_
  refine lv_iconst (v := nI 1) F.1 F.2.1 dX8_flowFor_1 (by decide) ?_
  refine lv_sipush (v := nI 300) F.1 F.2.1 dX8_flowFor_2 (by decide) ?_
  refine r_callS0 (rest := []) F w (c_X8_inN l G q 1 300 (by omega) (by omega) (by omega)) gX8_flowFor_X8_in (nA0 := 3) rfl (by decide +kernel) rfl ⟨Nat.le_of_ble_eq_true rfl, Nat.le_of_ble_eq_true rfl⟩ ⟨Nat.le_of_ble_eq_true rfl, Nat.le_of_ble_eq_true rfl⟩ hl rfl (Nat.le_of_ble_eq_true rfl) dX8_flowFor_5 (fun r_5 w1 H locs hp w => ?_)
  obtain ⟨rfl, rfl⟩ := hp
  refine r_yne (tgt := 13) F dX8_flowFor_8 (by decide) (fun c8 => ?_) (fun c8 => ?_)
  · skip
    refine lv_aload_n F.1 F.2.1 dX8_flowFor_13 rfl (lv_at hl 0 rfl) ?_
    refine r_get F w 0 0 iX8 f7 rfl rfl rfl (by decide) rfl dX8_flowFor_14 ?_
    refine lv_bipush (v := nI 16) F.1 F.2.1 dX8_flowFor_17 (by decide) ?_
    refine r_iald F w 1 rfl (by omega) (by decide) dX8_flowFor_19 ?_
    refine lv_iload_n F.1 F.2.1 dX8_flowFor_20 rfl (lv_at hl 1 rfl) ?_
    refine r_iadd F dX8_flowFor_21 ?_
    refine lv_sipush (v := nI 20000) F.1 F.2.1 dX8_flowFor_22 (by decide) ?_
    refine r_cle (tgt := 31) F dX8_flowFor_25 (by decide) (by omega) (by omega) (fun c25 => ?_) (fun c25 => ?_)
    · exact absurd c25 (by omega)
    · skip
      refine lv_bipush (v := (-3)) F.1 F.2.1 dX8_flowFor_28 (by decide) ?_
      exact r_ireturn F w dX8_flowFor_30 (⟨rfl, rfl⟩)
  · exact absurd hq c8
set_option maxRecDepth 100000 in
set_option maxHeartbeats 4000000 in
theorem c_X8_flowForN (l : Launch) (G : KG) (a P Sp Hs T N : Nat → Nat) (sc tl tp fa fr fn : Nat) (hI : Inv P) (h5 : sc ≤ 5) (q : Nat) (hq : 1 ≤ q ∧ q ≤ 300) (hz : P 16 + q ≤ 20000) : MetI l yX8_flowFor wsX8_flowFor 6 G (mW G a P Sp Hs sc T tl tp fa fr fn N) [.ref (a 0), .int (nI q)] (fun r v => r = flB P q 50 ∧ ∃ S : Nat → Nat, v = mW G a P S Hs sc T tl tp fa fr fn N) := by
  refine MetI.by (cc := cX8_flowFor) (nL := 6) (ret := some .int) (by decide +kernel) rfl (Nat.le_of_ble_eq_true rfl) ?_
  intro p e s m args below meth c F w ls hl
  have hl : lv_has ls 6 [(0, .ref (a 0)), (1, .int (nI q))] := hl
  have hts := F.ts
  have iX8 : ∀ w ∈ wsX80, w ∈ wsX8_flowFor := by decide +kernel
  have f7 := hts (.fieldLink RX8 7 "CoreMelterModel" "m" "[I") (by decide +kernel)
  have f13 := hts (.fieldLink RX8 13 "CoreMelterModel" "spare" "[I") (by decide +kernel)
  have hD := hI.d
  obtain ⟨b9, b11, b20, b12, b13, b25, b23⟩ := hD.bnd
  have h8 := hD.1.1
  have ht := hD.1.top_le
  have h14 := hI.2.2.2.2.2.1.1
  have h16 := hI.2.2.2.2.2.2.1
  refine lv_iload_n F.1 F.2.1 dX8_flowFor_0 rfl (lv_at hl 1 rfl) ?_
  refine lv_iconst (v := nI 1) F.1 F.2.1 dX8_flowFor_1 (by decide) ?_
  refine lv_sipush (v := nI 300) F.1 F.2.1 dX8_flowFor_2 (by decide) ?_
  refine r_callS0 (rest := []) F w (c_X8_inN l G q 1 300 (by omega) (by omega) (by omega)) gX8_flowFor_X8_in (nA0 := 3) rfl (by decide +kernel) rfl ⟨Nat.le_of_ble_eq_true rfl, Nat.le_of_ble_eq_true rfl⟩ ⟨Nat.le_of_ble_eq_true rfl, Nat.le_of_ble_eq_true rfl⟩ hl rfl (Nat.le_of_ble_eq_true rfl) dX8_flowFor_5 (fun r_5 w1 H locs hp w => ?_)
  obtain ⟨rfl, rfl⟩ := hp
  refine r_yne (tgt := 13) F dX8_flowFor_8 (by decide) (fun c8 => ?_) (fun c8 => ?_)
  · skip
    refine lv_aload_n F.1 F.2.1 dX8_flowFor_13 rfl (lv_at hl 0 rfl) ?_
    refine r_get F w 0 0 iX8 f7 rfl rfl rfl (by decide) rfl dX8_flowFor_14 ?_
    refine lv_bipush (v := nI 16) F.1 F.2.1 dX8_flowFor_17 (by decide) ?_
    refine r_iald F w 1 rfl (by omega) (by decide) dX8_flowFor_19 ?_
    refine lv_iload_n F.1 F.2.1 dX8_flowFor_20 rfl (lv_at hl 1 rfl) ?_
    refine r_iadd F dX8_flowFor_21 ?_
    refine lv_sipush (v := nI 20000) F.1 F.2.1 dX8_flowFor_22 (by decide) ?_
    refine r_cle (tgt := 31) F dX8_flowFor_25 (by decide) (by omega) (by omega) (fun c25 => ?_) (fun c25 => ?_)
    · skip
      refine lv_aload_n F.1 F.2.1 dX8_flowFor_31 rfl (lv_at hl 0 rfl) ?_
      refine r_get F w 0 0 iX8 f7 rfl rfl rfl (by decide) rfl dX8_flowFor_32 ?_
      refine lv_iconst (v := nI 0) F.1 F.2.1 dX8_flowFor_35 (by decide) ?_
      refine lv_aload_n F.1 F.2.1 dX8_flowFor_36 rfl (lv_at hl 0 rfl) ?_
      refine r_get F w 0 1 iX8 f13 rfl rfl rfl (by decide) rfl dX8_flowFor_37 ?_
      refine lv_iconst (v := nI 0) F.1 F.2.1 dX8_flowFor_40 (by decide) ?_
      refine r_callSV (rest := []) F w (c_X8_bring l G (a 1) (a 2) 246 246 0 0 P Sp (by decide) (by decide) (by omega) (by omega)) gX8_flowFor_X8_bring [1, 2] [0, 3, 4, 5] (nA0 := 4) rfl (by decide +kernel) rfl ⟨Nat.le_of_ble_eq_true rfl, Nat.le_of_ble_eq_true rfl⟩ ⟨Nat.le_of_ble_eq_true rfl, Nat.le_of_ble_eq_true rfl⟩ rfl rfl rfl rfl rfl hl rfl (Nat.le_of_ble_eq_true rfl) dX8_flowFor_41 (fun w1 H locs hp w => ?_)
      obtain rfl := hp
      have w := w.sub (ws' := mW G a P (brF Sp 0 P 0) Hs sc T tl tp fa fr fn N) [0, 4, 5, 1, 2, 3] (by decide) rfl
      refine lv_iconst (v := nI 0) F.1 F.2.1 dX8_flowFor_44 (by decide) ?_
      refine lv_istore_n (lv' := [(2, .int (nI 0)), (0, .ref (a 0)), (1, .int (nI q))]) F.1 F.2.1 dX8_flowFor_45 rfl hl (by decide) rfl (fun ls hl => ?_)
      refine lv_iconst (v := (-1)) F.1 F.2.1 dX8_flowFor_46 (by decide) ?_
      refine lv_istore_n (lv' := [(3, .int ((-1))), (2, .int (nI 0)), (0, .ref (a 0)), (1, .int (nI q))]) F.1 F.2.1 dX8_flowFor_47 rfl hl (by decide) rfl (fun ls hl => ?_)
      refine lv_bipush (v := nI 10) F.1 F.2.1 dX8_flowFor_48 (by decide) ?_
      refine lv_istore (lv' := [(4, .int (nI 10)), (3, .int ((-1))), (2, .int (nI 0)), (0, .ref (a 0)), (1, .int (nI q))]) F.1 F.2.1 dX8_flowFor_50 hl (by decide) rfl (fun ls hl => ?_)
      have L52 : ∀ n : Nat, ∀ (u : Nat), (u ≤ 50) → 50 - u < n → ∀ (H : Heap) (locs : List Loc), Wd G s (va_A (mW G a P Sp Hs sc T tl tp fa fr fn N) s.heap.size) (mW G a P (brF Sp 0 P 0) Hs sc T tl tp fa fr fn N) H locs → ∀ ls : Array Slot, lv_has ls 6 [(0, .ref (a 0)), (1, .int (nI q)), (2, .int (flC P q u)), (3, .int (flM P q u)), (4, .int (nI (10 * u + 10)))] → W p l e (rmK 6 0 0) s m args below meth c H locs 0 0 (MQ below (QI G (mW G a P Sp Hs sc T tl tp fa fr fn N) s.heap.size (fun r v => r = flB P q 50 ∧ ∃ S : Nat → Nat, v = mW G a P S Hs sc T tl tp fa fr fn N)) args s 0 0 (va_A (mW G a P Sp Hs sc T tl tp fa fr fn N) s.heap.size)) (F0 m 52 ls []) := by
        intro n
        induction n with
        | zero => intro u h1 hm; exact absurd hm (Nat.not_lt_zero _)
        | succ n ih52 =>
          intro u h1 hm52 H locs w ls hl
          refine lv_iload F.1 F.2.1 dX8_flowFor_52 (lv_at hl 4 rfl) ?_
          refine lv_sipush (v := nI 500) F.1 F.2.1 dX8_flowFor_54 (by decide) ?_
          refine r_cgt (tgt := 127) F dX8_flowFor_57 (by decide) (by omega) (by omega) (fun c57 => ?_) (fun c57 => ?_)
          · skip
            refine lv_iload_n F.1 F.2.1 dX8_flowFor_127 rfl (lv_at hl 2 rfl) ?_
            exact r_ireturn F w dX8_flowFor_128 (⟨by rw [show u = 50 by omega]; exact flC_B P q (by have h0I := fl_inv hI (k := 0) (by decide); have := (it_ok h0I q (by rw [up_n _ _ (by decide)]; exact hz)).1.d.bnd; show itF (up P 3 (10 * 0 + 10)) q 20 < 2 ^ 31; omega) 49, _, rfl⟩)
          · skip
            have hkI := fl_inv hI (k := u) (by omega)
            have hkz : up P 3 (10 * u + 10) 16 + q ≤ 20000 := by rw [up_n _ _ (by decide)]; exact hz
            have hcl := (it_ok hkI q hkz).1.d.bnd
            refine lv_aload_n F.1 F.2.1 dX8_flowFor_60 rfl (lv_at hl 0 rfl) ?_
            refine r_get F w 0 0 iX8 f7 rfl rfl rfl (by decide) rfl dX8_flowFor_61 ?_
            refine lv_iconst (v := nI 3) F.1 F.2.1 dX8_flowFor_64 (by decide) ?_
            refine lv_iload F.1 F.2.1 dX8_flowFor_65 (lv_at hl 4 rfl) ?_
            refine r_iast (ws' := mW G a (up P 3 (10 * u + 10)) (brF Sp 0 P 0) Hs sc T tl tp fa fr fn N) F w 1 rfl (by omega) (by decide) dX8_flowFor_67 rfl (fun H locs w => ?_)
            refine lv_aload_n F.1 F.2.1 dX8_flowFor_68 rfl (lv_at hl 0 rfl) ?_
            refine lv_iload_n F.1 F.2.1 dX8_flowFor_69 rfl (lv_at hl 1 rfl) ?_
            refine r_callVV (rest := []) F w (c_X8_goBy l G a (up P 3 (10 * u + 10)) (brF Sp 0 P 0) Hs T N sc tl tp fa fr fn q hkI hkz) gX8_flowFor_X8_goBy [0, 1, 2, 3, 4, 5] [] (nA0 := 1) rfl (by decide +kernel) rfl ⟨Nat.le_of_ble_eq_true rfl, Nat.le_of_ble_eq_true rfl⟩ ⟨Nat.le_of_ble_eq_true rfl, Nat.le_of_ble_eq_true rfl⟩ rfl rfl rfl rfl rfl rfl rfl hl rfl (Nat.le_of_ble_eq_true rfl) dX8_flowFor_70 (fun w1 H locs hp w => ?_)
            obtain rfl := hp
            have w := w.sub (ws' := mW G a (itF (up P 3 (10 * u + 10)) q) (brF Sp 0 P 0) Hs sc T tl tp fa fr fn N) [0, 1, 2, 3, 4, 5] (by decide) rfl
            have w := w.is (ws' := mW G a (flP P q u) (brF Sp 0 P 0) Hs sc T tl tp fa fr fn N) (rfl)
            refine lv_aload_n F.1 F.2.1 dX8_flowFor_73 rfl (lv_at hl 0 rfl) ?_
            refine r_get F w 0 0 iX8 f7 rfl rfl rfl (by decide) rfl dX8_flowFor_74 ?_
            refine lv_bipush (v := nI 20) F.1 F.2.1 dX8_flowFor_77 (by decide) ?_
            refine r_iald F w 1 rfl (by omega) (by decide) dX8_flowFor_79 ?_
            refine lv_istore (lv' := [(5, .int (nI ((flP P q u) 20))), (0, .ref (a 0)), (1, .int (nI q)), (2, .int (flC P q u)), (3, .int (flM P q u)), (4, .int (nI (10 * u + 10)))]) F.1 F.2.1 dX8_flowFor_80 hl (by decide) rfl (fun ls hl => ?_)
            have L94 :  ∀ (H : Heap) (locs : List Loc), Wd G s (va_A (mW G a P Sp Hs sc T tl tp fa fr fn N) s.heap.size) (mW G a (flP P q u) (brF Sp 0 P 0) Hs sc T tl tp fa fr fn N) H locs → ∀ ls : Array Slot, lv_has ls 6 [(5, .int (nI ((flP P q u) 20))), (0, .ref (a 0)), (1, .int (nI q)), (2, .int (flC P q u)), (3, .int (flM P q u)), (4, .int (nI (10 * u + 10)))] → W p l e (rmK 6 0 0) s m args below meth c H locs 0 0 (MQ below (QI G (mW G a P Sp Hs sc T tl tp fa fr fn N) s.heap.size (fun r v => r = flB P q 50 ∧ ∃ S : Nat → Nat, v = mW G a P S Hs sc T tl tp fa fr fn N)) args s 0 0 (va_A (mW G a P Sp Hs sc T tl tp fa fr fn N) s.heap.size)) (F0 m 94 ls [.int (flC P q (u + 1))]) := by
              intro  H locs w ls hl
              refine lv_istore_n (lv' := [(2, .int (flC P q (u + 1))), (5, .int (nI ((flP P q u) 20))), (0, .ref (a 0)), (1, .int (nI q)), (3, .int (flM P q u)), (4, .int (nI (10 * u + 10)))]) F.1 F.2.1 dX8_flowFor_94 rfl hl (by decide) rfl (fun ls hl => ?_)
              have L107 :  ∀ (H : Heap) (locs : List Loc), Wd G s (va_A (mW G a P Sp Hs sc T tl tp fa fr fn N) s.heap.size) (mW G a (flP P q u) (brF Sp 0 P 0) Hs sc T tl tp fa fr fn N) H locs → ∀ ls : Array Slot, lv_has ls 6 [(2, .int (flC P q (u + 1))), (5, .int (nI ((flP P q u) 20))), (0, .ref (a 0)), (1, .int (nI q)), (3, .int (flM P q u)), (4, .int (nI (10 * u + 10)))] → W p l e (rmK 6 0 0) s m args below meth c H locs 0 0 (MQ below (QI G (mW G a P Sp Hs sc T tl tp fa fr fn N) s.heap.size (fun r v => r = flB P q 50 ∧ ∃ S : Nat → Nat, v = mW G a P S Hs sc T tl tp fa fr fn N)) args s 0 0 (va_A (mW G a P Sp Hs sc T tl tp fa fr fn N) s.heap.size)) (F0 m 107 ls [.int (flM P q (u + 1))]) := by
                intro  H locs w ls hl
                refine lv_istore_n (lv' := [(3, .int (flM P q (u + 1))), (2, .int (flC P q (u + 1))), (5, .int (nI ((flP P q u) 20))), (0, .ref (a 0)), (1, .int (nI q)), (4, .int (nI (10 * u + 10)))]) F.1 F.2.1 dX8_flowFor_107 rfl hl (by decide) rfl (fun ls hl => ?_)
                refine lv_aload_n F.1 F.2.1 dX8_flowFor_108 rfl (lv_at hl 3 rfl) ?_
                refine r_get F w 0 1 iX8 f13 rfl rfl rfl (by decide) rfl dX8_flowFor_109 ?_
                refine lv_iconst (v := nI 0) F.1 F.2.1 dX8_flowFor_112 (by decide) ?_
                refine lv_aload_n F.1 F.2.1 dX8_flowFor_113 rfl (lv_at hl 3 rfl) ?_
                refine r_get F w 0 0 iX8 f7 rfl rfl rfl (by decide) rfl dX8_flowFor_114 ?_
                refine lv_iconst (v := nI 0) F.1 F.2.1 dX8_flowFor_117 (by decide) ?_
                refine r_callSV (rest := []) F w (c_X8_bring l G (a 2) (a 1) 246 246 0 0 (brF Sp 0 P 0) (flP P q u) (by decide) (by decide) (by omega) (by omega)) gX8_flowFor_X8_bring [2, 1] [0, 3, 4, 5] (nA0 := 4) rfl (by decide +kernel) rfl ⟨Nat.le_of_ble_eq_true rfl, Nat.le_of_ble_eq_true rfl⟩ ⟨Nat.le_of_ble_eq_true rfl, Nat.le_of_ble_eq_true rfl⟩ rfl rfl rfl rfl rfl hl rfl (Nat.le_of_ble_eq_true rfl) dX8_flowFor_118 (fun w1 H locs hp w => ?_)
                obtain rfl := hp
                have w := w.sub (ws' := mW G a (brF (flP P q u) 0 (brF Sp 0 P 0) 0) (brF Sp 0 P 0) Hs sc T tl tp fa fr fn N) [0, 5, 4, 1, 2, 3] (by decide) rfl
                have w := w.eq (ws' := mW G a P (brF Sp 0 P 0) Hs sc T tl tp fa fr fn N) (mW_eq rfl rfl rfl rfl rfl rfl (br_back P Sp (flP P q u)) (fun _ _ => rfl) (fun _ _ => rfl) (fun _ _ => rfl) (fun _ _ => rfl))
                refine lv_iinc (v := nI ((10 * u + 10) + 10)) (lv' := [(4, .int (nI ((10 * u + 10) + 10))), (3, .int (flM P q (u + 1))), (2, .int (flC P q (u + 1))), (5, .int (nI ((flP P q u) 20))), (0, .ref (a 0)), (1, .int (nI q))]) F.1 F.2.1 dX8_flowFor_121 hl (k := 5) rfl (nI_add _ _) (by decide) rfl (fun ls hl => ?_)
                refine lv_goto (tgt := 52) F.1 F.2.1 dX8_flowFor_124 (by decide) ?_
                exact ih52 (u + 1) (by omega) (by omega) _ _ w ls (lv_sub hl [4, 5, 2, 1, 0] rfl)
              refine lv_iload F.1 F.2.1 dX8_flowFor_95 (lv_at hl 1 rfl) ?_
              refine lv_iload_n F.1 F.2.1 dX8_flowFor_97 rfl (lv_at hl 4 rfl) ?_
              refine lv_icmp_le (tgt := 106) F.1 F.2.1 dX8_flowFor_98 (by decide) (fun c98 => ?_) (fun c98 => ?_)
              · skip
                refine lv_iload_n F.1 F.2.1 dX8_flowFor_106 rfl (lv_at hl 4 rfl) ?_
                refine r_to (y := (flM P q (u + 1))) (by first | exact (if_pos (Int32.not_le.mp c98)).symm | exact (if_neg (Int32.not_lt.mpr c98)).symm) ?_
                exact L107  _ _ w ls (lv_sub hl [0, 1, 2, 3, 4, 5] rfl)
              · skip
                refine lv_iload F.1 F.2.1 dX8_flowFor_101 (lv_at hl 1 rfl) ?_
                refine lv_goto (tgt := 107) F.1 F.2.1 dX8_flowFor_103 (by decide) ?_
                refine r_to (y := (flM P q (u + 1))) (by first | exact (if_pos (Int32.not_le.mp c98)).symm | exact (if_neg (Int32.not_lt.mpr c98)).symm) ?_
                exact L107  _ _ w ls (lv_sub hl [0, 1, 2, 3, 4, 5] rfl)
            refine lv_iload F.1 F.2.1 dX8_flowFor_82 (lv_at hl 0 rfl) ?_
            refine lv_iload_n F.1 F.2.1 dX8_flowFor_84 rfl (lv_at hl 4 rfl) ?_
            refine lv_icmp_le (tgt := 93) F.1 F.2.1 dX8_flowFor_85 (by decide) (fun c85 => ?_) (fun c85 => ?_)
            · skip
              refine lv_iload_n F.1 F.2.1 dX8_flowFor_93 rfl (lv_at hl 3 rfl) ?_
              refine r_to (y := (flC P q (u + 1))) (by first | exact (if_pos (Int32.not_le.mp c85)).symm | exact (if_neg (Int32.not_lt.mpr c85)).symm) ?_
              exact L94  _ _ w ls (lv_sub hl [0, 1, 2, 3, 4, 5] rfl)
            · skip
              refine lv_iload F.1 F.2.1 dX8_flowFor_88 (lv_at hl 5 rfl) ?_
              refine lv_goto (tgt := 94) F.1 F.2.1 dX8_flowFor_90 (by decide) ?_
              refine r_to (y := (flC P q (u + 1))) (by first | exact (if_pos (Int32.not_le.mp c85)).symm | exact (if_neg (Int32.not_lt.mpr c85)).symm) ?_
              exact L94  _ _ w ls (lv_sub hl [0, 1, 2, 3, 4, 5] rfl)
      exact L52 _ 0 (Nat.zero_le _) (Nat.lt_succ_self _) _ _ w ls (lv_sub hl [3, 4, 2, 1, 0] rfl)
    · exact absurd c25 (by omega)
  · exact absurd hq c8
theorem cT_0 : True := trivial
set_option maxRecDepth 100000 in
set_option maxHeartbeats 4000000 in
theorem c_X8_typeM (l : Launch) (G : KG) (a P Sp Hs T N : Nat → Nat) (sc tl tp fa fr fn : Nat) (x : Int32) (hx : ¬ (nI 32 ≤ x ∧ x ≤ nI 126)) : MetI l yX8_type wsX8_type 1 G (mW G a P Sp Hs sc T tl tp fa fr fn N) [.ref (a 0), .int x] (fun r v => r = -1 ∧ v = mW G a P Sp Hs sc T tl tp fa fr fn N) := by
  refine MetI.by (cc := cX8_type) (nL := 2) (ret := some .int) (by decide +kernel) rfl (Nat.le_of_ble_eq_true rfl) ?_
  intro p e s m args below meth c F w ls hl
  have hl : lv_has ls 2 [(0, .ref (a 0)), (1, .int x)] := hl
  have hts := F.ts
  refine lv_iload_n F.1 F.2.1 dX8_type_0 rfl (lv_at hl 1 rfl) ?_
  refine lv_bipush (v := nI 32) F.1 F.2.1 dX8_type_1 (by decide) ?_
  refine lv_bipush (v := nI 126) F.1 F.2.1 dX8_type_3 (by decide) ?_
  refine r_callS0 (rest := []) F w (c_X8_in l G x (nI 32) (nI 126)) gX8_type_X8_in (nA0 := 3) rfl (by decide +kernel) rfl ⟨Nat.le_of_ble_eq_true rfl, Nat.le_of_ble_eq_true rfl⟩ ⟨Nat.le_of_ble_eq_true rfl, Nat.le_of_ble_eq_true rfl⟩ hl rfl (Nat.le_of_ble_eq_true rfl) dX8_type_5 (fun r_5 w1 H locs hp w => ?_)
  obtain ⟨rfl, rfl⟩ := hp
  refine r_yne (tgt := 13) F dX8_type_8 (by decide) (fun c8 => ?_) (fun c8 => ?_)
  · exact absurd c8 hx
  · skip
    refine lv_iconst (v := (-1)) F.1 F.2.1 dX8_type_11 (by decide) ?_
    exact r_ireturn F w dX8_type_12 (⟨rfl, rfl⟩)
set_option maxRecDepth 100000 in
set_option maxHeartbeats 4000000 in
theorem c_X8_typeZ (l : Launch) (G : KG) (a P Sp Hs T N : Nat → Nat) (sc tl tp fa fr fn : Nat) (x1 : Nat) (hx : 32 ≤ x1 ∧ x1 ≤ 126) (hz : tl = 100) : MetI l yX8_type wsX8_type 1 G (mW G a P Sp Hs sc T tl tp fa fr fn N) [.ref (a 0), .int (nI x1)] (fun r v => r = -3 ∧ v = mW G a P Sp Hs sc T tl tp fa fr fn N) := by
  refine MetI.by (cc := cX8_type) (nL := 2) (ret := some .int) (by decide +kernel) rfl (Nat.le_of_ble_eq_true rfl) ?_
  intro p e s m args below meth c F w ls hl
  have hl : lv_has ls 2 [(0, .ref (a 0)), (1, .int (nI x1))] := hl
  have hts := F.ts
  have iX8 : ∀ w ∈ wsX80, w ∈ wsX8_type := by decide +kernel
  have f113 := hts (.fieldLink RX8 113 "CoreMelterModel" "textLength" "I") (by decide +kernel)
  refine lv_iload_n F.1 F.2.1 dX8_type_0 rfl (lv_at hl 1 rfl) ?_
  refine lv_bipush (v := nI 32) F.1 F.2.1 dX8_type_1 (by decide) ?_
  refine lv_bipush (v := nI 126) F.1 F.2.1 dX8_type_3 (by decide) ?_
  refine r_callS0 (rest := []) F w (c_X8_inN l G x1 32 126 (by omega) (by omega) (by omega)) gX8_type_X8_in (nA0 := 3) rfl (by decide +kernel) rfl ⟨Nat.le_of_ble_eq_true rfl, Nat.le_of_ble_eq_true rfl⟩ ⟨Nat.le_of_ble_eq_true rfl, Nat.le_of_ble_eq_true rfl⟩ hl rfl (Nat.le_of_ble_eq_true rfl) dX8_type_5 (fun r_5 w1 H locs hp w => ?_)
  obtain ⟨rfl, rfl⟩ := hp
  refine r_yne (tgt := 13) F dX8_type_8 (by decide) (fun c8 => ?_) (fun c8 => ?_)
  · skip
    refine lv_aload_n F.1 F.2.1 dX8_type_13 rfl (lv_at hl 0 rfl) ?_
    refine r_get F w 0 5 iX8 f113 rfl rfl rfl (by decide) rfl dX8_type_14 ?_
    refine lv_bipush (v := nI 100) F.1 F.2.1 dX8_type_17 (by decide) ?_
    refine r_cne (tgt := 25) F dX8_type_19 (by decide) (by omega) (by omega) (fun c19 => ?_) (fun c19 => ?_)
    · exact absurd hz c19
    · skip
      refine lv_bipush (v := (-3)) F.1 F.2.1 dX8_type_22 (by decide) ?_
      exact r_ireturn F w dX8_type_24 (⟨rfl, rfl⟩)
  · exact absurd hx c8
set_option maxRecDepth 100000 in
set_option maxHeartbeats 4000000 in
theorem c_X8_typeN (l : Launch) (G : KG) (a P Sp Hs T N : Nat → Nat) (sc tl tp fa fr fn : Nat) (x1 : Nat) (hx : 32 ≤ x1 ∧ x1 ≤ 126) (hz : tl < 100) : MetI l yX8_type wsX8_type 1 G (mW G a P Sp Hs sc T tl tp fa fr fn N) [.ref (a 0), .int (nI x1)] (fun r v => r = nI (tl + 1) ∧ v = mW G a P Sp Hs sc (up T tl x1) (tl + 1) tp fa fr fn N) := by
  refine MetI.by (cc := cX8_type) (nL := 2) (ret := some .int) (by decide +kernel) rfl (Nat.le_of_ble_eq_true rfl) ?_
  intro p e s m args below meth c F w ls hl
  have hl : lv_has ls 2 [(0, .ref (a 0)), (1, .int (nI x1))] := hl
  have hts := F.ts
  have iX8 : ∀ w ∈ wsX80, w ∈ wsX8_type := by decide +kernel
  have f19 := hts (.fieldLink RX8 19 "CoreMelterModel" "text" "[I") (by decide +kernel)
  have f113 := hts (.fieldLink RX8 113 "CoreMelterModel" "textLength" "I") (by decide +kernel)
  refine lv_iload_n F.1 F.2.1 dX8_type_0 rfl (lv_at hl 1 rfl) ?_
  refine lv_bipush (v := nI 32) F.1 F.2.1 dX8_type_1 (by decide) ?_
  refine lv_bipush (v := nI 126) F.1 F.2.1 dX8_type_3 (by decide) ?_
  refine r_callS0 (rest := []) F w (c_X8_inN l G x1 32 126 (by omega) (by omega) (by omega)) gX8_type_X8_in (nA0 := 3) rfl (by decide +kernel) rfl ⟨Nat.le_of_ble_eq_true rfl, Nat.le_of_ble_eq_true rfl⟩ ⟨Nat.le_of_ble_eq_true rfl, Nat.le_of_ble_eq_true rfl⟩ hl rfl (Nat.le_of_ble_eq_true rfl) dX8_type_5 (fun r_5 w1 H locs hp w => ?_)
  obtain ⟨rfl, rfl⟩ := hp
  refine r_yne (tgt := 13) F dX8_type_8 (by decide) (fun c8 => ?_) (fun c8 => ?_)
  · skip
    refine lv_aload_n F.1 F.2.1 dX8_type_13 rfl (lv_at hl 0 rfl) ?_
    refine r_get F w 0 5 iX8 f113 rfl rfl rfl (by decide) rfl dX8_type_14 ?_
    refine lv_bipush (v := nI 100) F.1 F.2.1 dX8_type_17 (by decide) ?_
    refine r_cne (tgt := 25) F dX8_type_19 (by decide) (by omega) (by omega) (fun c19 => ?_) (fun c19 => ?_)
    · skip
      refine lv_aload_n F.1 F.2.1 dX8_type_25 rfl (lv_at hl 0 rfl) ?_
      refine r_get F w 0 4 iX8 f19 rfl rfl rfl (by decide) rfl dX8_type_26 ?_
      refine lv_aload_n F.1 F.2.1 dX8_type_29 rfl (lv_at hl 0 rfl) ?_
      refine r_get F w 0 5 iX8 f113 rfl rfl rfl (by decide) rfl dX8_type_30 ?_
      refine lv_iload_n F.1 F.2.1 dX8_type_33 rfl (lv_at hl 1 rfl) ?_
      refine r_iast (ws' := mW G a P Sp Hs sc (up T tl x1) tl tp fa fr fn N) F w 4 rfl (by omega) (by decide) dX8_type_34 rfl (fun H locs w => ?_)
      refine lv_aload_n F.1 F.2.1 dX8_type_35 rfl (lv_at hl 0 rfl) ?_
      refine lv_dup F.1 F.2.1 dX8_type_36 rfl ?_
      refine r_get F w 0 5 iX8 f113 rfl rfl rfl (by decide) rfl dX8_type_37 ?_
      refine lv_iconst (v := nI 1) F.1 F.2.1 dX8_type_40 (by decide) ?_
      refine r_iadd F dX8_type_41 ?_
      refine r_put (ws' := mW G a P Sp Hs sc (up T tl x1) (tl + 1) tp fa fr fn N) F w 0 5 iX8 okX8 f113 rfl rfl rfl (by decide) (by decide +kernel) (Nat.le_of_ble_eq_true rfl) dX8_type_42 rfl (fun H locs w => ?_)
      refine lv_aload_n F.1 F.2.1 dX8_type_45 rfl (lv_at hl 0 rfl) ?_
      refine r_get F w 0 5 iX8 f113 rfl rfl rfl (by decide) rfl dX8_type_46 ?_
      exact r_ireturn F w dX8_type_49 (⟨rfl, rfl⟩)
    · exact absurd c19 (by omega)
  · exact absurd hx c8
set_option maxRecDepth 100000 in
set_option maxHeartbeats 4000000 in
theorem c_X8_clearText (l : Launch) (G : KG) (a P Sp Hs T N : Nat → Nat) (sc tl tp fa fr fn : Nat) : MetI l yX8_clearText wsX8_clearText 0 G (mW G a P Sp Hs sc T tl tp fa fr fn N) [.ref (a 0)] (fun r v => r = nI tl ∧ v = mW G a P Sp Hs sc T 0 tp fa fr fn N) := by
  refine MetI.by (cc := cX8_clearText) (nL := 2) (ret := some .int) (by decide +kernel) rfl (Nat.le_of_ble_eq_true rfl) ?_
  intro p e s m args below meth c F w ls hl
  have hl : lv_has ls 2 [(0, .ref (a 0))] := hl
  have hts := F.ts
  have iX8 : ∀ w ∈ wsX80, w ∈ wsX8_clearText := by decide +kernel
  have f113 := hts (.fieldLink RX8 113 "CoreMelterModel" "textLength" "I") (by decide +kernel)
  refine lv_aload_n F.1 F.2.1 dX8_clearText_0 rfl (lv_at hl 0 rfl) ?_
  refine r_get F w 0 5 iX8 f113 rfl rfl rfl (by decide) rfl dX8_clearText_1 ?_
  refine lv_istore_n (lv' := [(1, .int (nI tl)), (0, .ref (a 0))]) F.1 F.2.1 dX8_clearText_4 rfl hl (by decide) rfl (fun ls hl => ?_)
  refine lv_aload_n F.1 F.2.1 dX8_clearText_5 rfl (lv_at hl 1 rfl) ?_
  refine lv_iconst (v := nI 0) F.1 F.2.1 dX8_clearText_6 (by decide) ?_
  refine r_put (ws' := mW G a P Sp Hs sc T 0 tp fa fr fn N) F w 0 5 iX8 okX8 f113 rfl rfl rfl (by decide) (by decide +kernel) (Nat.le_of_ble_eq_true rfl) dX8_clearText_7 rfl (fun H locs w => ?_)
  refine lv_iload_n F.1 F.2.1 dX8_clearText_10 rfl (lv_at hl 0 rfl) ?_
  exact r_ireturn F w dX8_clearText_11 (⟨rfl, rfl⟩)
