set_option maxRecDepth 100000 in
set_option maxHeartbeats 4000000 in
theorem c_X0_init (l : Launch) (G : KG) (b : Nat) : MetV l yX0_init wsX0_init 1 5 100 G ([cO b 0 [.int (nI 0), .int (nI 0), .null, .null, .null, .null, .null]]) [.ref b] (fun v => ∃ a : Nat → Nat, a 0 = b ∧ v = coreW G a 0 0 (fun _ => 0) (fun _ => 0) (fun _ => 0) (fun _ => 0) (fun _ => 0)) := by
  refine MetV.by (cc := cX0_init) (nL := 1) (ret := none) (by decide +kernel) rfl (Nat.le_of_ble_eq_true rfl) ?_
  intro p e s m args below meth c F hname w ls hl
  have hl : lv_has ls 1 [(0, .ref b)] := hl
  have hts := F.ts
  have iX0 : ∀ w ∈ wsX00, w ∈ wsX0_init := by decide +kernel
  have f9 := hts (.fieldLink RX0 9 "CoreMelter$Core" "kinds" "[I") (by decide +kernel)
  have f13 := hts (.fieldLink RX0 13 "CoreMelter$Core" "lengths" "[I") (by decide +kernel)
  have f16 := hts (.fieldLink RX0 16 "CoreMelter$Core" "densities" "[I") (by decide +kernel)
  have f19 := hts (.fieldLink RX0 19 "CoreMelter$Core" "mores" "[I") (by decide +kernel)
  have f22 := hts (.fieldLink RX0 22 "CoreMelter$Core" "lowers" "[I") (by decide +kernel)
  refine lv_aload_n F.1 F.2.1 dX0_init_0 rfl (lv_at hl 0 rfl) ?_
  refine r_oinit F (hts (.methodLink RX0 1 objectInit) (by decide +kernel)) (hts (.instanceMethod objectInit) (by decide +kernel)) (hts (.code objectInit ⟨#[0xb1]⟩ 1 none) (by decide +kernel)) hl (Nat.le_of_ble_eq_true rfl) (Nat.le_of_ble_eq_true rfl) dX0_init_1 ?_
  refine lv_aload_n F.1 F.2.1 dX0_init_4 rfl (lv_at hl 0 rfl) ?_
  refine lv_bipush (v := nI 20) F.1 F.2.1 dX0_init_5 (by decide) ?_
  refine r_newI F w (hts (.arrayClass .int) (by decide +kernel)) (by decide) (Nat.le_of_ble_eq_true rfl) (Nat.le_of_ble_eq_true rfl) dX0_init_7 (fun q1 H w => ?_)
  have w := w.is (ws' := [cO b 0 [.int (nI 0), .int (nI 0), .null, .null, .null, .null, .null], aI G q1 20 (fun _ => 0)]) rfl
  refine r_putF (ws' := [cO b 0 [.int (nI 0), .int (nI 0), .ref q1, .null, .null, .null, .null], aI G q1 20 (fun _ => 0)]) (ty := .array .int) (k := 2) F hname w 0 iX0 okX0 f9 rfl rfl rfl rfl (by decide) (by decide +kernel) rfl rfl (Nat.le_of_ble_eq_true rfl) dX0_init_9 rfl (fun H locs w => ?_)
  refine lv_aload_n F.1 F.2.1 dX0_init_12 rfl (lv_at hl 0 rfl) ?_
  refine lv_bipush (v := nI 20) F.1 F.2.1 dX0_init_13 (by decide) ?_
  refine r_newI F w (hts (.arrayClass .int) (by decide +kernel)) (by decide) (Nat.le_of_ble_eq_true rfl) (Nat.le_of_ble_eq_true rfl) dX0_init_15 (fun q2 H w => ?_)
  have w := w.is (ws' := [cO b 0 [.int (nI 0), .int (nI 0), .ref q1, .null, .null, .null, .null], aI G q1 20 (fun _ => 0), aI G q2 20 (fun _ => 0)]) rfl
  refine r_putF (ws' := [cO b 0 [.int (nI 0), .int (nI 0), .ref q1, .ref q2, .null, .null, .null], aI G q1 20 (fun _ => 0), aI G q2 20 (fun _ => 0)]) (ty := .array .int) (k := 3) F hname w 0 iX0 okX0 f13 rfl rfl rfl rfl (by decide) (by decide +kernel) rfl rfl (Nat.le_of_ble_eq_true rfl) dX0_init_17 rfl (fun H locs w => ?_)
  refine lv_aload_n F.1 F.2.1 dX0_init_20 rfl (lv_at hl 0 rfl) ?_
  refine lv_bipush (v := nI 20) F.1 F.2.1 dX0_init_21 (by decide) ?_
  refine r_newI F w (hts (.arrayClass .int) (by decide +kernel)) (by decide) (Nat.le_of_ble_eq_true rfl) (Nat.le_of_ble_eq_true rfl) dX0_init_23 (fun q3 H w => ?_)
  have w := w.is (ws' := [cO b 0 [.int (nI 0), .int (nI 0), .ref q1, .ref q2, .null, .null, .null], aI G q1 20 (fun _ => 0), aI G q2 20 (fun _ => 0), aI G q3 20 (fun _ => 0)]) rfl
  refine r_putF (ws' := [cO b 0 [.int (nI 0), .int (nI 0), .ref q1, .ref q2, .ref q3, .null, .null], aI G q1 20 (fun _ => 0), aI G q2 20 (fun _ => 0), aI G q3 20 (fun _ => 0)]) (ty := .array .int) (k := 4) F hname w 0 iX0 okX0 f16 rfl rfl rfl rfl (by decide) (by decide +kernel) rfl rfl (Nat.le_of_ble_eq_true rfl) dX0_init_25 rfl (fun H locs w => ?_)
  refine lv_aload_n F.1 F.2.1 dX0_init_28 rfl (lv_at hl 0 rfl) ?_
  refine lv_bipush (v := nI 20) F.1 F.2.1 dX0_init_29 (by decide) ?_
  refine r_newI F w (hts (.arrayClass .int) (by decide +kernel)) (by decide) (Nat.le_of_ble_eq_true rfl) (Nat.le_of_ble_eq_true rfl) dX0_init_31 (fun q4 H w => ?_)
  have w := w.is (ws' := [cO b 0 [.int (nI 0), .int (nI 0), .ref q1, .ref q2, .ref q3, .null, .null], aI G q1 20 (fun _ => 0), aI G q2 20 (fun _ => 0), aI G q3 20 (fun _ => 0), aI G q4 20 (fun _ => 0)]) rfl
  refine r_putF (ws' := [cO b 0 [.int (nI 0), .int (nI 0), .ref q1, .ref q2, .ref q3, .ref q4, .null], aI G q1 20 (fun _ => 0), aI G q2 20 (fun _ => 0), aI G q3 20 (fun _ => 0), aI G q4 20 (fun _ => 0)]) (ty := .array .int) (k := 5) F hname w 0 iX0 okX0 f19 rfl rfl rfl rfl (by decide) (by decide +kernel) rfl rfl (Nat.le_of_ble_eq_true rfl) dX0_init_33 rfl (fun H locs w => ?_)
  refine lv_aload_n F.1 F.2.1 dX0_init_36 rfl (lv_at hl 0 rfl) ?_
  refine lv_bipush (v := nI 20) F.1 F.2.1 dX0_init_37 (by decide) ?_
  refine r_newI F w (hts (.arrayClass .int) (by decide +kernel)) (by decide) (Nat.le_of_ble_eq_true rfl) (Nat.le_of_ble_eq_true rfl) dX0_init_39 (fun q5 H w => ?_)
  have w := w.is (ws' := [cO b 0 [.int (nI 0), .int (nI 0), .ref q1, .ref q2, .ref q3, .ref q4, .null], aI G q1 20 (fun _ => 0), aI G q2 20 (fun _ => 0), aI G q3 20 (fun _ => 0), aI G q4 20 (fun _ => 0), aI G q5 20 (fun _ => 0)]) rfl
  refine r_putF (ws' := [cO b 0 [.int (nI 0), .int (nI 0), .ref q1, .ref q2, .ref q3, .ref q4, .ref q5], aI G q1 20 (fun _ => 0), aI G q2 20 (fun _ => 0), aI G q3 20 (fun _ => 0), aI G q4 20 (fun _ => 0), aI G q5 20 (fun _ => 0)]) (ty := .array .int) (k := 6) F hname w 0 iX0 okX0 f22 rfl rfl rfl rfl (by decide) (by decide +kernel) rfl rfl (Nat.le_of_ble_eq_true rfl) dX0_init_41 rfl (fun H locs w => ?_)
  exact r_return F w dX0_init_44 ⟨adr [b, q1, q2, q3, q4, q5], rfl, rfl⟩
set_option maxRecDepth 100000 in
set_option maxHeartbeats 4000000 in
theorem c_X2_init (l : Launch) (G : KG) (b : Nat) : MetV l yX2_init wsX2_init 1 5 20 G ([cO b 2 [.null, .null, .null, .null, .null]]) [.ref b] (fun v => ∃ a : Nat → Nat, a 0 = b ∧ v = linesW G a (fun _ => 0) (fun _ => 0) (fun _ => 0) (fun _ => 0) (fun _ => 0)) := by
  refine MetV.by (cc := cX2_init) (nL := 1) (ret := none) (by decide +kernel) rfl (Nat.le_of_ble_eq_true rfl) ?_
  intro p e s m args below meth c F hname w ls hl
  have hl : lv_has ls 1 [(0, .ref b)] := hl
  have hts := F.ts
  have iX2 : ∀ w ∈ wsX20, w ∈ wsX2_init := by decide +kernel
  have f9 := hts (.fieldLink RX2 9 "CoreMelter$Lines" "stuck" "[I") (by decide +kernel)
  have f13 := hts (.fieldLink RX2 13 "CoreMelter$Lines" "dirt" "[I") (by decide +kernel)
  have f16 := hts (.fieldLink RX2 16 "CoreMelter$Lines" "gap" "[I") (by decide +kernel)
  have f19 := hts (.fieldLink RX2 19 "CoreMelter$Lines" "drawn" "[I") (by decide +kernel)
  have f22 := hts (.fieldLink RX2 22 "CoreMelter$Lines" "wasted" "[I") (by decide +kernel)
  refine lv_aload_n F.1 F.2.1 dX2_init_0 rfl (lv_at hl 0 rfl) ?_
  refine r_oinit F (hts (.methodLink RX2 1 objectInit) (by decide +kernel)) (hts (.instanceMethod objectInit) (by decide +kernel)) (hts (.code objectInit ⟨#[0xb1]⟩ 1 none) (by decide +kernel)) hl (Nat.le_of_ble_eq_true rfl) (Nat.le_of_ble_eq_true rfl) dX2_init_1 ?_
  refine lv_aload_n F.1 F.2.1 dX2_init_4 rfl (lv_at hl 0 rfl) ?_
  refine lv_iconst (v := nI 4) F.1 F.2.1 dX2_init_5 (by decide) ?_
  refine r_newI F w (hts (.arrayClass .int) (by decide +kernel)) (by decide) (Nat.le_of_ble_eq_true rfl) (Nat.le_of_ble_eq_true rfl) dX2_init_6 (fun q1 H w => ?_)
  have w := w.is (ws' := [cO b 2 [.null, .null, .null, .null, .null], aI G q1 4 (fun _ => 0)]) rfl
  refine r_putF (ws' := [cO b 2 [.ref q1, .null, .null, .null, .null], aI G q1 4 (fun _ => 0)]) (ty := .array .int) (k := 0) F hname w 0 iX2 okX2 f9 rfl rfl rfl rfl (by decide) (by decide +kernel) rfl rfl (Nat.le_of_ble_eq_true rfl) dX2_init_8 rfl (fun H locs w => ?_)
  refine lv_aload_n F.1 F.2.1 dX2_init_11 rfl (lv_at hl 0 rfl) ?_
  refine lv_iconst (v := nI 4) F.1 F.2.1 dX2_init_12 (by decide) ?_
  refine r_newI F w (hts (.arrayClass .int) (by decide +kernel)) (by decide) (Nat.le_of_ble_eq_true rfl) (Nat.le_of_ble_eq_true rfl) dX2_init_13 (fun q2 H w => ?_)
  have w := w.is (ws' := [cO b 2 [.ref q1, .null, .null, .null, .null], aI G q1 4 (fun _ => 0), aI G q2 4 (fun _ => 0)]) rfl
  refine r_putF (ws' := [cO b 2 [.ref q1, .ref q2, .null, .null, .null], aI G q1 4 (fun _ => 0), aI G q2 4 (fun _ => 0)]) (ty := .array .int) (k := 1) F hname w 0 iX2 okX2 f13 rfl rfl rfl rfl (by decide) (by decide +kernel) rfl rfl (Nat.le_of_ble_eq_true rfl) dX2_init_15 rfl (fun H locs w => ?_)
  refine lv_aload_n F.1 F.2.1 dX2_init_18 rfl (lv_at hl 0 rfl) ?_
  refine lv_iconst (v := nI 4) F.1 F.2.1 dX2_init_19 (by decide) ?_
  refine r_newI F w (hts (.arrayClass .int) (by decide +kernel)) (by decide) (Nat.le_of_ble_eq_true rfl) (Nat.le_of_ble_eq_true rfl) dX2_init_20 (fun q3 H w => ?_)
  have w := w.is (ws' := [cO b 2 [.ref q1, .ref q2, .null, .null, .null], aI G q1 4 (fun _ => 0), aI G q2 4 (fun _ => 0), aI G q3 4 (fun _ => 0)]) rfl
  refine r_putF (ws' := [cO b 2 [.ref q1, .ref q2, .ref q3, .null, .null], aI G q1 4 (fun _ => 0), aI G q2 4 (fun _ => 0), aI G q3 4 (fun _ => 0)]) (ty := .array .int) (k := 2) F hname w 0 iX2 okX2 f16 rfl rfl rfl rfl (by decide) (by decide +kernel) rfl rfl (Nat.le_of_ble_eq_true rfl) dX2_init_22 rfl (fun H locs w => ?_)
  refine lv_aload_n F.1 F.2.1 dX2_init_25 rfl (lv_at hl 0 rfl) ?_
  refine lv_iconst (v := nI 4) F.1 F.2.1 dX2_init_26 (by decide) ?_
  refine r_newI F w (hts (.arrayClass .int) (by decide +kernel)) (by decide) (Nat.le_of_ble_eq_true rfl) (Nat.le_of_ble_eq_true rfl) dX2_init_27 (fun q4 H w => ?_)
  have w := w.is (ws' := [cO b 2 [.ref q1, .ref q2, .ref q3, .null, .null], aI G q1 4 (fun _ => 0), aI G q2 4 (fun _ => 0), aI G q3 4 (fun _ => 0), aI G q4 4 (fun _ => 0)]) rfl
  refine r_putF (ws' := [cO b 2 [.ref q1, .ref q2, .ref q3, .ref q4, .null], aI G q1 4 (fun _ => 0), aI G q2 4 (fun _ => 0), aI G q3 4 (fun _ => 0), aI G q4 4 (fun _ => 0)]) (ty := .array .int) (k := 3) F hname w 0 iX2 okX2 f19 rfl rfl rfl rfl (by decide) (by decide +kernel) rfl rfl (Nat.le_of_ble_eq_true rfl) dX2_init_29 rfl (fun H locs w => ?_)
  refine lv_aload_n F.1 F.2.1 dX2_init_32 rfl (lv_at hl 0 rfl) ?_
  refine lv_iconst (v := nI 4) F.1 F.2.1 dX2_init_33 (by decide) ?_
  refine r_newI F w (hts (.arrayClass .int) (by decide +kernel)) (by decide) (Nat.le_of_ble_eq_true rfl) (Nat.le_of_ble_eq_true rfl) dX2_init_34 (fun q5 H w => ?_)
  have w := w.is (ws' := [cO b 2 [.ref q1, .ref q2, .ref q3, .ref q4, .null], aI G q1 4 (fun _ => 0), aI G q2 4 (fun _ => 0), aI G q3 4 (fun _ => 0), aI G q4 4 (fun _ => 0), aI G q5 4 (fun _ => 0)]) rfl
  refine r_putF (ws' := [cO b 2 [.ref q1, .ref q2, .ref q3, .ref q4, .ref q5], aI G q1 4 (fun _ => 0), aI G q2 4 (fun _ => 0), aI G q3 4 (fun _ => 0), aI G q4 4 (fun _ => 0), aI G q5 4 (fun _ => 0)]) (ty := .array .int) (k := 4) F hname w 0 iX2 okX2 f22 rfl rfl rfl rfl (by decide) (by decide +kernel) rfl rfl (Nat.le_of_ble_eq_true rfl) dX2_init_36 rfl (fun H locs w => ?_)
  exact r_return F w dX2_init_39 ⟨adr [b, q1, q2, q3, q4, q5], rfl, rfl⟩
set_option maxRecDepth 100000 in
set_option maxHeartbeats 4000000 in
theorem c_X6_init (l : Launch) (G : KG) (b : Nat) : MetV l yX6_init wsX6_init 1 3 120 G ([cO b 6 [.int (nI 0), .int (nI 0), .null, .null, .null]]) [.ref b] (fun v => ∃ a : Nat → Nat, a 0 = b ∧ v = vialsW G a 0 0 (fun _ => 0) (fun _ => 0) (fun _ => 0)) := by
  refine MetV.by (cc := cX6_init) (nL := 1) (ret := none) (by decide +kernel) rfl (Nat.le_of_ble_eq_true rfl) ?_
  intro p e s m args below meth c F hname w ls hl
  have hl : lv_has ls 1 [(0, .ref b)] := hl
  have hts := F.ts
  have iX6 : ∀ w ∈ wsX60, w ∈ wsX6_init := by decide +kernel
  have f9 := hts (.fieldLink RX6 9 "CoreMelter$Vials" "water" "[I") (by decide +kernel)
  have f13 := hts (.fieldLink RX6 13 "CoreMelter$Vials" "depth" "[I") (by decide +kernel)
  have f16 := hts (.fieldLink RX6 16 "CoreMelter$Vials" "ticks" "[I") (by decide +kernel)
  refine lv_aload_n F.1 F.2.1 dX6_init_0 rfl (lv_at hl 0 rfl) ?_
  refine r_oinit F (hts (.methodLink RX6 1 objectInit) (by decide +kernel)) (hts (.instanceMethod objectInit) (by decide +kernel)) (hts (.code objectInit ⟨#[0xb1]⟩ 1 none) (by decide +kernel)) hl (Nat.le_of_ble_eq_true rfl) (Nat.le_of_ble_eq_true rfl) dX6_init_1 ?_
  refine lv_aload_n F.1 F.2.1 dX6_init_4 rfl (lv_at hl 0 rfl) ?_
  refine lv_bipush (v := nI 40) F.1 F.2.1 dX6_init_5 (by decide) ?_
  refine r_newI F w (hts (.arrayClass .int) (by decide +kernel)) (by decide) (Nat.le_of_ble_eq_true rfl) (Nat.le_of_ble_eq_true rfl) dX6_init_7 (fun q1 H w => ?_)
  have w := w.is (ws' := [cO b 6 [.int (nI 0), .int (nI 0), .null, .null, .null], aI G q1 40 (fun _ => 0)]) rfl
  refine r_putF (ws' := [cO b 6 [.int (nI 0), .int (nI 0), .ref q1, .null, .null], aI G q1 40 (fun _ => 0)]) (ty := .array .int) (k := 2) F hname w 0 iX6 okX6 f9 rfl rfl rfl rfl (by decide) (by decide +kernel) rfl rfl (Nat.le_of_ble_eq_true rfl) dX6_init_9 rfl (fun H locs w => ?_)
  refine lv_aload_n F.1 F.2.1 dX6_init_12 rfl (lv_at hl 0 rfl) ?_
  refine lv_bipush (v := nI 40) F.1 F.2.1 dX6_init_13 (by decide) ?_
  refine r_newI F w (hts (.arrayClass .int) (by decide +kernel)) (by decide) (Nat.le_of_ble_eq_true rfl) (Nat.le_of_ble_eq_true rfl) dX6_init_15 (fun q2 H w => ?_)
  have w := w.is (ws' := [cO b 6 [.int (nI 0), .int (nI 0), .ref q1, .null, .null], aI G q1 40 (fun _ => 0), aI G q2 40 (fun _ => 0)]) rfl
  refine r_putF (ws' := [cO b 6 [.int (nI 0), .int (nI 0), .ref q1, .ref q2, .null], aI G q1 40 (fun _ => 0), aI G q2 40 (fun _ => 0)]) (ty := .array .int) (k := 3) F hname w 0 iX6 okX6 f13 rfl rfl rfl rfl (by decide) (by decide +kernel) rfl rfl (Nat.le_of_ble_eq_true rfl) dX6_init_17 rfl (fun H locs w => ?_)
  refine lv_aload_n F.1 F.2.1 dX6_init_20 rfl (lv_at hl 0 rfl) ?_
  refine lv_bipush (v := nI 40) F.1 F.2.1 dX6_init_21 (by decide) ?_
  refine r_newI F w (hts (.arrayClass .int) (by decide +kernel)) (by decide) (Nat.le_of_ble_eq_true rfl) (Nat.le_of_ble_eq_true rfl) dX6_init_23 (fun q3 H w => ?_)
  have w := w.is (ws' := [cO b 6 [.int (nI 0), .int (nI 0), .ref q1, .ref q2, .null], aI G q1 40 (fun _ => 0), aI G q2 40 (fun _ => 0), aI G q3 40 (fun _ => 0)]) rfl
  refine r_putF (ws' := [cO b 6 [.int (nI 0), .int (nI 0), .ref q1, .ref q2, .ref q3], aI G q1 40 (fun _ => 0), aI G q2 40 (fun _ => 0), aI G q3 40 (fun _ => 0)]) (ty := .array .int) (k := 4) F hname w 0 iX6 okX6 f16 rfl rfl rfl rfl (by decide) (by decide +kernel) rfl rfl (Nat.le_of_ble_eq_true rfl) dX6_init_25 rfl (fun H locs w => ?_)
  exact r_return F w dX6_init_28 ⟨adr [b, q1, q2, q3], rfl, rfl⟩
set_option maxRecDepth 100000 in
set_option maxHeartbeats 4000000 in
theorem c_X5_init (l : Launch) (G : KG) (b : Nat) : MetV l yX5_init wsX5_init 1 1 100 G ([cO b 5 [.int (nI 0), .null]]) [.ref b] (fun v => ∃ a : Nat → Nat, a 0 = b ∧ v = textW G a 0 (fun _ => 0)) := by
  refine MetV.by (cc := cX5_init) (nL := 1) (ret := none) (by decide +kernel) rfl (Nat.le_of_ble_eq_true rfl) ?_
  intro p e s m args below meth c F hname w ls hl
  have hl : lv_has ls 1 [(0, .ref b)] := hl
  have hts := F.ts
  have iX5 : ∀ w ∈ wsX50, w ∈ wsX5_init := by decide +kernel
  have f9 := hts (.fieldLink RX5 9 "CoreMelter$Text" "characters" "[C") (by decide +kernel)
  refine lv_aload_n F.1 F.2.1 dX5_init_0 rfl (lv_at hl 0 rfl) ?_
  refine r_oinit F (hts (.methodLink RX5 1 objectInit) (by decide +kernel)) (hts (.instanceMethod objectInit) (by decide +kernel)) (hts (.code objectInit ⟨#[0xb1]⟩ 1 none) (by decide +kernel)) hl (Nat.le_of_ble_eq_true rfl) (Nat.le_of_ble_eq_true rfl) dX5_init_1 ?_
  refine lv_aload_n F.1 F.2.1 dX5_init_4 rfl (lv_at hl 0 rfl) ?_
  refine lv_bipush (v := nI 100) F.1 F.2.1 dX5_init_5 (by decide) ?_
  refine r_newC F w (hts (.arrayClass .char) (by decide +kernel)) (by decide) (Nat.le_of_ble_eq_true rfl) (Nat.le_of_ble_eq_true rfl) dX5_init_7 (fun q1 H w => ?_)
  have w := w.is (ws' := [cO b 5 [.int (nI 0), .null], aC G q1 100 (fun _ => 0)]) rfl
  refine r_putF (ws' := [cO b 5 [.int (nI 0), .ref q1], aC G q1 100 (fun _ => 0)]) (ty := .array .char) (k := 1) F hname w 0 iX5 okX5 f9 rfl rfl rfl rfl (by decide) (by decide +kernel) rfl rfl (Nat.le_of_ble_eq_true rfl) dX5_init_9 rfl (fun H locs w => ?_)
  exact r_return F w dX5_init_12 ⟨adr [b, q1], rfl, rfl⟩
/-- the page at the beginning -/
def initP : Nat → Nat := up (up (up (up (up (up (up (up (fun _ => 0) 0 100) 1 50) 2 2000) 3 60) 4 500) 5 40) 6 500) 7 5
theorem initP_set {k : Nat} (h : k < 8) : initP k = initF k := by
  have e : ∀ k : Fin 8, initP k = initF k := by decide +kernel
  exact e ⟨k, h⟩
theorem initP_0 {k : Nat} (h : 8 ≤ k) : initP k = 0 := by
  unfold initP
  rw [up_n _ _ (by omega), up_n _ _ (by omega), up_n _ _ (by omega), up_n _ _ (by omega), up_n _ _ (by omega), up_n _ _ (by omega), up_n _ _ (by omega), up_n _ _ (by omega)]
