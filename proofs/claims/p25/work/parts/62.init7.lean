theorem dfX1 : ∀ j, j < 3 → defaultValue (tyX1 j) = vp_V [.int (nI 0), .int (nI 0), .null] j := fun j hj => by
  rcases (show j = 0 ∨ j = 1 ∨ j = 2 by omega) with rfl | rfl | rfl <;> rfl
theorem dfX4 : ∀ j, j < 6 → defaultValue (tyX4 j) = vp_V [.null, .int (nI 0), .int (nI 0), .int (nI 0), .int (nI 0), .null] j := fun j hj => by
  rcases (show j = 0 ∨ j = 1 ∨ j = 2 ∨ j = 3 ∨ j = 4 ∨ j = 5 by omega) with rfl | rfl | rfl | rfl | rfl | rfl <;> rfl
theorem dfX5 : ∀ j, j < 2 → defaultValue (tyX5 j) = vp_V [.int (nI 0), .null] j := fun j hj => by
  rcases (show j = 0 ∨ j = 1 by omega) with rfl | rfl <;> rfl

set_option maxRecDepth 100000 in
set_option maxHeartbeats 8000000 in
theorem c_X7_init (l : Launch) (G : KG) (tl tm ti b : Nat) : MetVX l yX7_init wsX7_init 4 145 2235 G ([cO b 7 [.null, .null, .null, .null, .null]]) [.ref b] (hiX tl tm ti) (fun v => ∃ (ma : Nat → Nat) (pn pt : Nat → Nat → Nat) (hb : Nat → Nat) (ha : Nat → Nat → Nat → Nat) (xa ra rc : Nat → Nat), ma 0 = b ∧ v = (readH G ra rc 0 0 0 0 (fun _ => 0) ++ coreW G rc 0 0 (fun _ => 0) (fun _ => 0) (fun _ => 0) (fun _ => 0) (fun _ => 0)) ++ (textW G xa 0 (fun _ => 0) ++ ((histH G hb 0 0 (fun k => some (((ha k) 0) 0)) ++ (plateW G (ha 0) initP (fun _ => 0) ++ (plateW G (ha 1) initP (fun _ => 0) ++ (plateW G (ha 2) initP (fun _ => 0) ++ (plateW G (ha 3) initP (fun _ => 0) ++ plateW G (ha 4) initP (fun _ => 0)))))) ++ (plateW G pt initP (fun _ => 0) ++ (plateW G pn initP (fun _ => 0) ++ (mainW G ma (pn 0 0) (pt 0 0) (hb 0) (xa 0) (ra 0))))))) := by
  refine MetVX.by (cc := cX7_init) (nL := 1) (ret := none) (by decide +kernel) rfl (Nat.le_of_ble_eq_true rfl) ?_
  intro p e s m args below meth c F hname hX w ls hl
  have hl : lv_has ls 1 [(0, .ref b)] := hl
  have hts := F.ts
  have iX7 : ∀ w ∈ wsX70, w ∈ wsX7_init := by decide +kernel
  have iX1 : ∀ w ∈ wsX10, w ∈ wsX7_init := by decide +kernel
  have iX3 : ∀ w ∈ wsX30, w ∈ wsX7_init := by decide +kernel
  have iX4 : ∀ w ∈ wsX40, w ∈ wsX7_init := by decide +kernel
  have iX5 : ∀ w ∈ wsX50, w ∈ wsX7_init := by decide +kernel
  have f10 := hts (.fieldLink RX7 10 "CoreMelter" "now" "LCoreMelter$Plate;") (by decide +kernel)
  have f16 := hts (.fieldLink RX7 16 "CoreMelter" "trial" "LCoreMelter$Plate;") (by decide +kernel)
  have f22 := hts (.fieldLink RX7 22 "CoreMelter" "history" "LCoreMelter$History;") (by decide +kernel)
  have f29 := hts (.fieldLink RX7 29 "CoreMelter" "text" "LCoreMelter$Text;") (by decide +kernel)
  have f36 := hts (.fieldLink RX7 36 "CoreMelter" "reading" "LCoreMelter$Reading;") (by decide +kernel)
  refine lv_aload_n F.1 F.2.1 dX7_init_0 rfl (lv_at hl 0 rfl) ?_
  refine r_oinit F (hts (.methodLink RX7 1 objectInit) (by decide +kernel)) (hts (.instanceMethod objectInit) (by decide +kernel)) (hts (.code objectInit ⟨#[0xb1]⟩ 1 none) (by decide +kernel)) hl (Nat.le_of_ble_eq_true rfl) (Nat.le_of_ble_eq_true rfl) dX7_init_1 ?_
  refine lv_aload_n F.1 F.2.1 dX7_init_4 rfl (lv_at hl 0 rfl) ?_
  refine r_new (fs := [.null, .null, .null, .null, .null, .int (nI 0), .int (nI 0), .int (nI 0), .int (nI 0), .int (nI 0), .int (nI 0), .int (nI 0), .int (nI 0), .int (nI 0), .int (nI 0)]) (ci := 3) F w iX3 tyX3 okX3 (hts (.classLink RX7 7 RX3) (by decide +kernel)) (hts (.instantiable RX3 15) (by decide +kernel)) (hts (.initialized RX3) (by decide +kernel)) rfl dfX3 (Nat.le_of_ble_eq_true rfl) (Nat.le_of_ble_eq_true rfl) dX7_init_5 (fun q H w => ?_)
  refine lv_dup F.1 F.2.1 dX7_init_8 rfl ?_
  refine i_callX (As := []) (rest := [.ref q, .ref b]) (fine_ct tl tm ti) hX.1 F w (c_X3_init l G tl tm ti q) (List.perm_append_comm) (hts (.methodLink RX7 9 yX3_init) (by decide +kernel)) gX7_init_X3_init (hts (.initialized RX3) (by decide +kernel)) (hts (.instanceMethod yX3_init) (by decide +kernel)) rfl rfl (nA0 := 0) (by decide +kernel) rfl ⟨Nat.le_of_ble_eq_true rfl, Nat.le_of_ble_eq_true rfl⟩ ⟨Nat.le_of_ble_eq_true rfl, Nat.le_of_ble_eq_true rfl⟩ hl rfl (Nat.le_of_ble_eq_true rfl) dX7_init_9 (fun w1 H locs hp w => ?_)
  obtain ⟨pn, rfl, rfl⟩ := hp
  refine r_putF (ws' := plateW G pn initP (fun _ => 0) ++ ([cO b 7 [.ref (pn 0 0), .null, .null, .null, .null]])) (ty := .object RX3) (k := 0) F hname w 19 iX7 okX7 f10 rfl rfl rfl rfl (by decide) (by decide +kernel) rfl rfl (Nat.le_of_ble_eq_true rfl) dX7_init_12 rfl (fun H locs w => ?_)
  refine lv_aload_n F.1 F.2.1 dX7_init_15 rfl (lv_at hl 0 rfl) ?_
  refine r_new (fs := [.null, .null, .null, .null, .null, .int (nI 0), .int (nI 0), .int (nI 0), .int (nI 0), .int (nI 0), .int (nI 0), .int (nI 0), .int (nI 0), .int (nI 0), .int (nI 0)]) (ci := 3) F w iX3 tyX3 okX3 (hts (.classLink RX7 7 RX3) (by decide +kernel)) (hts (.instantiable RX3 15) (by decide +kernel)) (hts (.initialized RX3) (by decide +kernel)) rfl dfX3 (Nat.le_of_ble_eq_true rfl) (Nat.le_of_ble_eq_true rfl) dX7_init_16 (fun q H w => ?_)
  refine lv_dup F.1 F.2.1 dX7_init_19 rfl ?_
  refine i_callX (As := []) (rest := [.ref q, .ref b]) (fine_ct tl tm ti) hX.1 F w (c_X3_init l G tl tm ti q) (List.perm_append_comm) (hts (.methodLink RX7 9 yX3_init) (by decide +kernel)) gX7_init_X3_init (hts (.initialized RX3) (by decide +kernel)) (hts (.instanceMethod yX3_init) (by decide +kernel)) rfl rfl (nA0 := 0) (by decide +kernel) rfl ⟨Nat.le_of_ble_eq_true rfl, Nat.le_of_ble_eq_true rfl⟩ ⟨Nat.le_of_ble_eq_true rfl, Nat.le_of_ble_eq_true rfl⟩ hl rfl (Nat.le_of_ble_eq_true rfl) dX7_init_20 (fun w1 H locs hp w => ?_)
  obtain ⟨pt, rfl, rfl⟩ := hp
  refine r_putF (ws' := plateW G pt initP (fun _ => 0) ++ (plateW G pn initP (fun _ => 0) ++ ([cO b 7 [.ref (pn 0 0), .ref (pt 0 0), .null, .null, .null]]))) (ty := .object RX3) (k := 1) F hname w 38 iX7 okX7 f16 rfl rfl rfl rfl (by decide) (by decide +kernel) rfl rfl (Nat.le_of_ble_eq_true rfl) dX7_init_23 rfl (fun H locs w => ?_)
  refine lv_aload_n F.1 F.2.1 dX7_init_26 rfl (lv_at hl 0 rfl) ?_
  refine r_new (fs := [.int (nI 0), .int (nI 0), .null]) (ci := 1) F w iX1 tyX1 okX1 (hts (.classLink RX7 19 RX1) (by decide +kernel)) (hts (.instantiable RX1 3) (by decide +kernel)) (hts (.initialized RX1) (by decide +kernel)) rfl dfX1 (Nat.le_of_ble_eq_true rfl) (Nat.le_of_ble_eq_true rfl) dX7_init_27 (fun q H w => ?_)
  refine lv_dup F.1 F.2.1 dX7_init_30 rfl ?_
  refine i_callX (As := []) (rest := [.ref q, .ref b]) (fine_hi tl tm ti) hX F w (c_X1_init l G tl tm ti q) (List.perm_append_comm) (hts (.methodLink RX7 21 yX1_init) (by decide +kernel)) gX7_init_X1_init (hts (.initialized RX1) (by decide +kernel)) (hts (.instanceMethod yX1_init) (by decide +kernel)) rfl rfl (nA0 := 0) (by decide +kernel) rfl ⟨Nat.le_of_ble_eq_true rfl, Nat.le_of_ble_eq_true rfl⟩ ⟨Nat.le_of_ble_eq_true rfl, Nat.le_of_ble_eq_true rfl⟩ hl rfl (Nat.le_of_ble_eq_true rfl) dX7_init_31 (fun w1 H locs hp w => ?_)
  obtain ⟨hb, ha, rfl, rfl⟩ := hp
  refine r_putF (ws' := (histH G hb 0 0 (fun k => some (((ha k) 0) 0)) ++ (plateW G (ha 0) initP (fun _ => 0) ++ (plateW G (ha 1) initP (fun _ => 0) ++ (plateW G (ha 2) initP (fun _ => 0) ++ (plateW G (ha 3) initP (fun _ => 0) ++ plateW G (ha 4) initP (fun _ => 0)))))) ++ (plateW G pt initP (fun _ => 0) ++ (plateW G pn initP (fun _ => 0) ++ ([cO b 7 [.ref (pn 0 0), .ref (pt 0 0), .ref (hb 0), .null, .null]])))) (ty := .object RX1) (k := 2) F hname w 135 iX7 okX7 f22 rfl rfl rfl rfl (by decide) (by decide +kernel) rfl rfl (Nat.le_of_ble_eq_true rfl) dX7_init_34 rfl (fun H locs w => ?_)
  refine lv_aload_n F.1 F.2.1 dX7_init_37 rfl (lv_at hl 0 rfl) ?_
  refine r_new (fs := [.int (nI 0), .null]) (ci := 5) F w iX5 tyX5 okX5 (hts (.classLink RX7 26 RX5) (by decide +kernel)) (hts (.instantiable RX5 2) (by decide +kernel)) (hts (.initialized RX5) (by decide +kernel)) rfl dfX5 (Nat.le_of_ble_eq_true rfl) (Nat.le_of_ble_eq_true rfl) dX7_init_38 (fun q H w => ?_)
  refine lv_dup F.1 F.2.1 dX7_init_41 rfl ?_
  refine i_callN (As := []) (rest := [.ref q, .ref b]) F w (c_X5_init l G q) (List.perm_append_comm) hX.1.2.2.2.1 gX7_init_X5_init_n28 (hts (.initialized RX5) (by decide +kernel)) (hts (.instanceMethod yX5_init) (by decide +kernel)) rfl rfl (nA0 := 0) (by decide +kernel) rfl ⟨Nat.le_of_ble_eq_true rfl, Nat.le_of_ble_eq_true rfl⟩ ⟨Nat.le_of_ble_eq_true rfl, Nat.le_of_ble_eq_true rfl⟩ hl rfl (Nat.le_of_ble_eq_true rfl) dX7_init_42 (fun w1 H locs hp w => ?_)
  obtain ⟨xa, rfl, rfl⟩ := hp
  refine r_putF (ws' := textW G xa 0 (fun _ => 0) ++ ((histH G hb 0 0 (fun k => some (((ha k) 0) 0)) ++ (plateW G (ha 0) initP (fun _ => 0) ++ (plateW G (ha 1) initP (fun _ => 0) ++ (plateW G (ha 2) initP (fun _ => 0) ++ (plateW G (ha 3) initP (fun _ => 0) ++ plateW G (ha 4) initP (fun _ => 0)))))) ++ (plateW G pt initP (fun _ => 0) ++ (plateW G pn initP (fun _ => 0) ++ ([cO b 7 [.ref (pn 0 0), .ref (pt 0 0), .ref (hb 0), .ref (xa 0), .null]]))))) (ty := .object RX5) (k := 3) F hname w 137 iX7 okX7 f29 rfl rfl rfl rfl (by decide) (by decide +kernel) rfl rfl (Nat.le_of_ble_eq_true rfl) dX7_init_45 rfl (fun H locs w => ?_)
  refine lv_aload_n F.1 F.2.1 dX7_init_48 rfl (lv_at hl 0 rfl) ?_
  refine r_new (fs := [.null, .int (nI 0), .int (nI 0), .int (nI 0), .int (nI 0), .null]) (ci := 4) F w iX4 tyX4 okX4 (hts (.classLink RX7 33 RX4) (by decide +kernel)) (hts (.instantiable RX4 6) (by decide +kernel)) (hts (.initialized RX4) (by decide +kernel)) rfl dfX4 (Nat.le_of_ble_eq_true rfl) (Nat.le_of_ble_eq_true rfl) dX7_init_49 (fun q H w => ?_)
  refine lv_dup F.1 F.2.1 dX7_init_52 rfl ?_
  refine i_callNX (As := []) (rest := [.ref q, .ref b]) fine_nest hX.1.2 F w (c_X4_init l G q) (List.perm_append_comm) hX.1.2.2.2.2 gX7_init_X4_init_n35 (hts (.initialized RX4) (by decide +kernel)) (hts (.instanceMethod yX4_init) (by decide +kernel)) rfl rfl (nA0 := 0) (by decide +kernel) rfl ⟨Nat.le_of_ble_eq_true rfl, Nat.le_of_ble_eq_true rfl⟩ ⟨Nat.le_of_ble_eq_true rfl, Nat.le_of_ble_eq_true rfl⟩ hl rfl (Nat.le_of_ble_eq_true rfl) dX7_init_53 (fun w1 H locs hp w => ?_)
  obtain ⟨ra, rc, rfl, rfl⟩ := hp
  refine r_putF (ws' := (readH G ra rc 0 0 0 0 (fun _ => 0) ++ coreW G rc 0 0 (fun _ => 0) (fun _ => 0) (fun _ => 0) (fun _ => 0) (fun _ => 0)) ++ (textW G xa 0 (fun _ => 0) ++ ((histH G hb 0 0 (fun k => some (((ha k) 0) 0)) ++ (plateW G (ha 0) initP (fun _ => 0) ++ (plateW G (ha 1) initP (fun _ => 0) ++ (plateW G (ha 2) initP (fun _ => 0) ++ (plateW G (ha 3) initP (fun _ => 0) ++ plateW G (ha 4) initP (fun _ => 0)))))) ++ (plateW G pt initP (fun _ => 0) ++ (plateW G pn initP (fun _ => 0) ++ ([cO b 7 [.ref (pn 0 0), .ref (pt 0 0), .ref (hb 0), .ref (xa 0), .ref (ra 0)]])))))) (ty := .object RX4) (k := 4) F hname w 145 iX7 okX7 f36 rfl rfl rfl rfl (by decide) (by decide +kernel) rfl rfl (Nat.le_of_ble_eq_true rfl) dX7_init_56 rfl (fun H locs w => ?_)
  exact r_return F w dX7_init_59 ⟨adr [b], pn, pt, hb, ha, xa, ra, rc, rfl, rfl⟩

