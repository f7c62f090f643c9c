set_option maxRecDepth 100000 in
set_option maxHeartbeats 4000000 in
theorem c_X4_init (l : Launch) (G : KG) (b : Nat) : MetVX l yX4_init wsX4_init 2 7 110 G ([cO b 4 [.null, .int (nI 0), .int (nI 0), .int (nI 0), .int (nI 0), .null]]) [.ref b] (nestX) (fun v => ∃ a c : Nat → Nat, a 0 = b ∧ v = readH G a c 0 0 0 0 (fun _ => 0) ++ coreW G c 0 0 (fun _ => 0) (fun _ => 0) (fun _ => 0) (fun _ => 0) (fun _ => 0)) := by
  refine MetVX.by (cc := cX4_init) (nL := 1) (ret := none) (by decide +kernel) rfl (Nat.le_of_ble_eq_true rfl) ?_
  intro p e s m args below meth c F hname hX w ls hl
  have hl : lv_has ls 1 [(0, .ref b)] := hl
  have hts := F.ts
  have iX4 : ∀ w ∈ wsX40, w ∈ wsX4_init := by decide +kernel
  have iX0 : ∀ w ∈ wsX00, w ∈ wsX4_init := by decide +kernel
  have f10 := hts (.fieldLink RX4 10 "CoreMelter$Reading" "core" "LCoreMelter$Core;") (by decide +kernel)
  have f16 := hts (.fieldLink RX4 16 "CoreMelter$Reading" "numbers" "[I") (by decide +kernel)
  refine lv_aload_n F.1 F.2.1 dX4_init_0 rfl (lv_at hl 0 rfl) ?_
  refine r_oinit F (hts (.methodLink RX4 1 objectInit) (by decide +kernel)) (hts (.instanceMethod objectInit) (by decide +kernel)) (hts (.code objectInit ⟨#[0xb1]⟩ 1 none) (by decide +kernel)) hl (Nat.le_of_ble_eq_true rfl) (Nat.le_of_ble_eq_true rfl) dX4_init_1 ?_
  refine lv_aload_n F.1 F.2.1 dX4_init_4 rfl (lv_at hl 0 rfl) ?_
  refine r_new (fs := [.int (nI 0), .int (nI 0), .null, .null, .null, .null, .null]) (ci := 0) F w iX0 tyX0 okX0 (hts (.classLink RX4 7 RX0) (by decide +kernel)) (hts (.instantiable RX0 7) (by decide +kernel)) (hts (.initialized RX0) (by decide +kernel)) rfl dfX0 (Nat.le_of_ble_eq_true rfl) (Nat.le_of_ble_eq_true rfl) dX4_init_5 (fun q1 H w => ?_)
  refine lv_dup F.1 F.2.1 dX4_init_8 rfl ?_
  refine i_callN (As := []) (rest := [.ref q1, .ref b]) F w (c_X0_init l G q1) (List.perm_append_comm) hX.2.1 gX4_init_X0_init_n9 (hts (.initialized RX0) (by decide +kernel)) (hts (.instanceMethod yX0_init) (by decide +kernel)) rfl rfl (nA0 := 0) (by decide +kernel) rfl ⟨Nat.le_of_ble_eq_true rfl, Nat.le_of_ble_eq_true rfl⟩ ⟨Nat.le_of_ble_eq_true rfl, Nat.le_of_ble_eq_true rfl⟩ hl rfl (Nat.le_of_ble_eq_true rfl) dX4_init_9 (fun w1 H locs hp w => ?_)
  obtain ⟨c1, rfl, rfl⟩ := hp
  refine r_putF (ws' := coreW G c1 0 0 (fun _ => 0) (fun _ => 0) (fun _ => 0) (fun _ => 0) (fun _ => 0) ++ [cO b 4 [.ref (c1 0), .int (nI 0), .int (nI 0), .int (nI 0), .int (nI 0), .null]]) (ty := .object RX0) (k := 0) F hname w 6 iX4 okX4 f10 rfl rfl rfl rfl (by decide) (by decide +kernel) rfl rfl (Nat.le_of_ble_eq_true rfl) dX4_init_12 rfl (fun H locs w => ?_)
  refine lv_aload_n F.1 F.2.1 dX4_init_15 rfl (lv_at hl 0 rfl) ?_
  refine lv_iconst (v := nI 3) F.1 F.2.1 dX4_init_16 (by decide) ?_
  refine r_newI F w (hts (.arrayClass .int) (by decide +kernel)) (by decide) (Nat.le_of_ble_eq_true rfl) (Nat.le_of_ble_eq_true rfl) dX4_init_17 (fun q2 H w => ?_)
  refine r_putF (ws' := coreW G c1 0 0 (fun _ => 0) (fun _ => 0) (fun _ => 0) (fun _ => 0) (fun _ => 0) ++ [cO b 4 [.ref (c1 0), .int (nI 0), .int (nI 0), .int (nI 0), .int (nI 0), .ref q2], aI G q2 3 (fun _ => 0)]) (ty := .array .int) (k := 5) F hname w 6 iX4 okX4 f16 rfl rfl rfl rfl (by decide) (by decide +kernel) rfl rfl (Nat.le_of_ble_eq_true rfl) dX4_init_19 rfl (fun H locs w => ?_)
  have w := w.perm List.perm_append_comm
  exact r_return F w dX4_init_22 ⟨adr [b, q2], c1, rfl, rfl⟩

