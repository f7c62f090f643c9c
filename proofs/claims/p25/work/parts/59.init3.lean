def ctX (tl tm ti : Nat) : XF := fun A U H => tabX tl tm ti A U H ∧ nestX A U H
theorem fine_ct (tl tm ti : Nat) : fineX (ctX tl tm ti) := (fine_tab tl tm ti).and fine_nest
theorem initP_told : toldF initP = 0 := by
  have := toldF_le initP
  rw [initP_0 (by decide)] at this
  omega
theorem initP_wat : watF initP = 0 := by
  unfold watF
  rw [initP_told, wat_0]
theorem initP_top : top initP = 0 := by
  unfold top
  rw [initP_0 (by decide)]
  rfl
theorem initP_eq {G : KG} {b q4 q5 : Nat} {c1 l1 v1 : Nat → Nat} : eqW ([cO b 3 [.ref (c1 0), .ref (l1 0), .ref (v1 0), .ref q4, .ref q5, .int (nI 0), .int (nI 0), .int (nI 0), .int (nI 0), .int (nI 0), .int (nI 0), .int (nI 0), .int (nI 0), .int (nI 0), .int (nI 0)], aI G q4 8 initF, aI G q5 7 (fun _ => 0)] ++ (coreW G c1 0 0 (fun _ => 0) (fun _ => 0) (fun _ => 0) (fun _ => 0) (fun _ => 0) ++ (linesW G l1 (fun _ => 0) (fun _ => 0) (fun _ => 0) (fun _ => 0) (fun _ => 0) ++ vialsW G v1 0 0 (fun _ => 0) (fun _ => 0) (fun _ => 0)))) (plateW G (fun k => if k = 0 then adr [b, q4, q5] else if k = 1 then c1 else if k = 2 then l1 else v1) initP (fun _ => 0)) := by
  have z : ∀ {k : Nat}, 8 ≤ k → 0 = initP k := fun h => (initP_0 h).symm
  exact eqW.app (plH_eq (a := adr [b, q4, q5]) (ca := c1) (la := l1) (va := v1) (z (by decide)) (z (by decide)) (z (by decide)) (z (by decide)) (z (by decide)) initP_told.symm initP_wat.symm (z (by decide)) (z (by decide)) (z (by decide)) (fun k hk => (initP_set hk).symm) (fun k hk => z (by omega)))
    (eqW.app (coreW_eq (z (by decide)) initP_top.symm (fun k hk => z (by omega)) (fun k hk => z (by omega)) (fun k hk => z (by omega)) (fun k hk => z (by omega)) (fun _ _ => rfl))
    (eqW.app (linesW_eq (fun k hk => z (by omega)) (fun k hk => z (by omega)) (fun k hk => z (by omega)) (fun k hk => z (by omega)) (fun k hk => z (by omega)))
      (vialsW_eq (z (by decide)) (z (by decide)) (fun k hk => z (by omega)) (fun k hk => z (by omega)) (fun k hk => z (by omega)))))

set_option maxRecDepth 100000 in
set_option maxHeartbeats 4000000 in
theorem c_X3_init (l : Launch) (G : KG) (tl tm ti b : Nat) : MetVX l yX3_init wsX3_init 2 18 272 G ([cO b 3 [.null, .null, .null, .null, .null, .int (nI 0), .int (nI 0), .int (nI 0), .int (nI 0), .int (nI 0), .int (nI 0), .int (nI 0), .int (nI 0), .int (nI 0), .int (nI 0)]]) [.ref b] (ctX tl tm ti) (fun v => ∃ pa : Nat → Nat → Nat, pa 0 0 = b ∧ v = plateW G pa initP (fun _ => 0)) := by
  refine MetVX.by (cc := cX3_init) (nL := 1) (ret := none) (by decide +kernel) rfl (Nat.le_of_ble_eq_true rfl) ?_
  intro p e s m args below meth c F hname hX w ls hl
  have hl : lv_has ls 1 [(0, .ref b)] := hl
  have hts := F.ts
  have iX0 : ∀ w ∈ wsX00, w ∈ wsX3_init := by decide +kernel
  have iX2 : ∀ w ∈ wsX20, w ∈ wsX3_init := by decide +kernel
  have iX3 : ∀ w ∈ wsX30, w ∈ wsX3_init := by decide +kernel
  have iX6 : ∀ w ∈ wsX60, w ∈ wsX3_init := by decide +kernel
  have f10 := hts (.fieldLink RX3 10 "CoreMelter$Plate" "core" "LCoreMelter$Core;") (by decide +kernel)
  have f19 := hts (.fieldLink RX3 19 "CoreMelter$Plate" "lines" "LCoreMelter$Lines;") (by decide +kernel)
  have f26 := hts (.fieldLink RX3 26 "CoreMelter$Plate" "vials" "LCoreMelter$Vials;") (by decide +kernel)
  have f30 := hts (.fieldLink RX3 30 "CoreMelter$Plate" "settings" "[I") (by decide +kernel)
  have f34 := hts (.fieldLink RX3 34 "CoreMelter$Plate" "accounts" "[I") (by decide +kernel)
  have f37 := hts (.fieldLink RX3 37 "CoreMelter$Plate" "INITIAL" "[I") (by decide +kernel)
  refine lv_aload_n F.1 F.2.1 dX3_init_0 rfl (lv_at hl 0 rfl) ?_
  refine r_oinit F (hts (.methodLink RX3 1 objectInit) (by decide +kernel)) (hts (.instanceMethod objectInit) (by decide +kernel)) (hts (.code objectInit ⟨#[0xb1]⟩ 1 none) (by decide +kernel)) hl (Nat.le_of_ble_eq_true rfl) (Nat.le_of_ble_eq_true rfl) dX3_init_1 ?_
  refine lv_aload_n F.1 F.2.1 dX3_init_4 rfl (lv_at hl 0 rfl) ?_
  refine r_new (fs := [.int (nI 0), .int (nI 0), .null, .null, .null, .null, .null]) (ci := 0) F w iX0 tyX0 okX0 (hts (.classLink RX3 7 RX0) (by decide +kernel)) (hts (.instantiable RX0 7) (by decide +kernel)) (hts (.initialized RX0) (by decide +kernel)) rfl dfX0 (Nat.le_of_ble_eq_true rfl) (Nat.le_of_ble_eq_true rfl) dX3_init_5 (fun q1 H w => ?_)
  refine lv_dup F.1 F.2.1 dX3_init_8 rfl ?_
  refine i_callN (As := []) (rest := [.ref q1, .ref b]) F w (c_X0_init l G q1) (List.perm_append_comm) hX.2.1.1 gX3_init_X0_init_n9 (hts (.initialized RX0) (by decide +kernel)) (hts (.instanceMethod yX0_init) (by decide +kernel)) rfl rfl (nA0 := 0) (by decide +kernel) rfl ⟨Nat.le_of_ble_eq_true rfl, Nat.le_of_ble_eq_true rfl⟩ ⟨Nat.le_of_ble_eq_true rfl, Nat.le_of_ble_eq_true rfl⟩ hl rfl (Nat.le_of_ble_eq_true rfl) dX3_init_9 (fun w1 H locs hp w => ?_)
  obtain ⟨c1, rfl, rfl⟩ := hp
  refine r_putF (ws' := coreW G c1 0 0 (fun _ => 0) (fun _ => 0) (fun _ => 0) (fun _ => 0) (fun _ => 0) ++ ([cO b 3 [.ref (c1 0), .null, .null, .null, .null, .int (nI 0), .int (nI 0), .int (nI 0), .int (nI 0), .int (nI 0), .int (nI 0), .int (nI 0), .int (nI 0), .int (nI 0), .int (nI 0)]])) (ty := .object RX0) (k := 0) F hname w 6 iX3 okX3 f10 rfl rfl rfl rfl (by decide) (by decide +kernel) rfl rfl (Nat.le_of_ble_eq_true rfl) dX3_init_12 rfl (fun H locs w => ?_)
  refine lv_aload_n F.1 F.2.1 dX3_init_15 rfl (lv_at hl 0 rfl) ?_
  refine r_new (fs := [.null, .null, .null, .null, .null]) (ci := 2) F w iX2 tyX2 okX2 (hts (.classLink RX3 16 RX2) (by decide +kernel)) (hts (.instantiable RX2 5) (by decide +kernel)) (hts (.initialized RX2) (by decide +kernel)) rfl dfX2 (Nat.le_of_ble_eq_true rfl) (Nat.le_of_ble_eq_true rfl) dX3_init_16 (fun q2 H w => ?_)
  refine lv_dup F.1 F.2.1 dX3_init_19 rfl ?_
  refine i_callN (As := []) (rest := [.ref q2, .ref b]) F w (c_X2_init l G q2) (List.perm_append_comm) hX.2.1.2.1 gX3_init_X2_init_n18 (hts (.initialized RX2) (by decide +kernel)) (hts (.instanceMethod yX2_init) (by decide +kernel)) rfl rfl (nA0 := 0) (by decide +kernel) rfl ⟨Nat.le_of_ble_eq_true rfl, Nat.le_of_ble_eq_true rfl⟩ ⟨Nat.le_of_ble_eq_true rfl, Nat.le_of_ble_eq_true rfl⟩ hl rfl (Nat.le_of_ble_eq_true rfl) dX3_init_20 (fun w1 H locs hp w => ?_)
  obtain ⟨l1, rfl, rfl⟩ := hp
  refine r_putF (ws' := linesW G l1 (fun _ => 0) (fun _ => 0) (fun _ => 0) (fun _ => 0) (fun _ => 0) ++ (coreW G c1 0 0 (fun _ => 0) (fun _ => 0) (fun _ => 0) (fun _ => 0) (fun _ => 0) ++ ([cO b 3 [.ref (c1 0), .ref (l1 0), .null, .null, .null, .int (nI 0), .int (nI 0), .int (nI 0), .int (nI 0), .int (nI 0), .int (nI 0), .int (nI 0), .int (nI 0), .int (nI 0), .int (nI 0)]]))) (ty := .object RX2) (k := 1) F hname w 12 iX3 okX3 f19 rfl rfl rfl rfl (by decide) (by decide +kernel) rfl rfl (Nat.le_of_ble_eq_true rfl) dX3_init_23 rfl (fun H locs w => ?_)
  refine lv_aload_n F.1 F.2.1 dX3_init_26 rfl (lv_at hl 0 rfl) ?_
  refine r_new (fs := [.int (nI 0), .int (nI 0), .null, .null, .null]) (ci := 6) F w iX6 tyX6 okX6 (hts (.classLink RX3 23 RX6) (by decide +kernel)) (hts (.instantiable RX6 5) (by decide +kernel)) (hts (.initialized RX6) (by decide +kernel)) rfl dfX6 (Nat.le_of_ble_eq_true rfl) (Nat.le_of_ble_eq_true rfl) dX3_init_27 (fun q3 H w => ?_)
  refine lv_dup F.1 F.2.1 dX3_init_30 rfl ?_
  refine i_callN (As := []) (rest := [.ref q3, .ref b]) F w (c_X6_init l G q3) (List.perm_append_comm) hX.2.1.2.2 gX3_init_X6_init_n25 (hts (.initialized RX6) (by decide +kernel)) (hts (.instanceMethod yX6_init) (by decide +kernel)) rfl rfl (nA0 := 0) (by decide +kernel) rfl ⟨Nat.le_of_ble_eq_true rfl, Nat.le_of_ble_eq_true rfl⟩ ⟨Nat.le_of_ble_eq_true rfl, Nat.le_of_ble_eq_true rfl⟩ hl rfl (Nat.le_of_ble_eq_true rfl) dX3_init_31 (fun w1 H locs hp w => ?_)
  obtain ⟨v1, rfl, rfl⟩ := hp
  refine r_putF (ws' := vialsW G v1 0 0 (fun _ => 0) (fun _ => 0) (fun _ => 0) ++ (linesW G l1 (fun _ => 0) (fun _ => 0) (fun _ => 0) (fun _ => 0) (fun _ => 0) ++ (coreW G c1 0 0 (fun _ => 0) (fun _ => 0) (fun _ => 0) (fun _ => 0) (fun _ => 0) ++ ([cO b 3 [.ref (c1 0), .ref (l1 0), .ref (v1 0), .null, .null, .int (nI 0), .int (nI 0), .int (nI 0), .int (nI 0), .int (nI 0), .int (nI 0), .int (nI 0), .int (nI 0), .int (nI 0), .int (nI 0)]])))) (ty := .object RX6) (k := 2) F hname w 16 iX3 okX3 f26 rfl rfl rfl rfl (by decide) (by decide +kernel) rfl rfl (Nat.le_of_ble_eq_true rfl) dX3_init_34 rfl (fun H locs w => ?_)
  refine lv_aload_n F.1 F.2.1 dX3_init_37 rfl (lv_at hl 0 rfl) ?_
  refine lv_bipush (v := nI 8) F.1 F.2.1 dX3_init_38 (by decide) ?_
  refine r_newI F w (hts (.arrayClass .int) (by decide +kernel)) (by decide) (Nat.le_of_ble_eq_true rfl) (Nat.le_of_ble_eq_true rfl) dX3_init_40 (fun q4 H w => ?_)
  refine r_putF (ws' := vialsW G v1 0 0 (fun _ => 0) (fun _ => 0) (fun _ => 0) ++ (linesW G l1 (fun _ => 0) (fun _ => 0) (fun _ => 0) (fun _ => 0) (fun _ => 0) ++ (coreW G c1 0 0 (fun _ => 0) (fun _ => 0) (fun _ => 0) (fun _ => 0) (fun _ => 0) ++ ([cO b 3 [.ref (c1 0), .ref (l1 0), .ref (v1 0), .ref q4, .null, .int (nI 0), .int (nI 0), .int (nI 0), .int (nI 0), .int (nI 0), .int (nI 0), .int (nI 0), .int (nI 0), .int (nI 0), .int (nI 0)], aI G q4 8 (fun _ => 0)])))) (ty := .array .int) (k := 3) F hname w 16 iX3 okX3 f30 rfl rfl rfl rfl (by decide) (by decide +kernel) rfl rfl (Nat.le_of_ble_eq_true rfl) dX3_init_42 rfl (fun H locs w => ?_)
  refine lv_aload_n F.1 F.2.1 dX3_init_45 rfl (lv_at hl 0 rfl) ?_
  refine lv_bipush (v := nI 7) F.1 F.2.1 dX3_init_46 (by decide) ?_
  refine r_newI F w (hts (.arrayClass .int) (by decide +kernel)) (by decide) (Nat.le_of_ble_eq_true rfl) (Nat.le_of_ble_eq_true rfl) dX3_init_48 (fun q5 H w => ?_)
  refine r_putF (ws' := vialsW G v1 0 0 (fun _ => 0) (fun _ => 0) (fun _ => 0) ++ (linesW G l1 (fun _ => 0) (fun _ => 0) (fun _ => 0) (fun _ => 0) (fun _ => 0) ++ (coreW G c1 0 0 (fun _ => 0) (fun _ => 0) (fun _ => 0) (fun _ => 0) (fun _ => 0) ++ ([cO b 3 [.ref (c1 0), .ref (l1 0), .ref (v1 0), .ref q4, .ref q5, .int (nI 0), .int (nI 0), .int (nI 0), .int (nI 0), .int (nI 0), .int (nI 0), .int (nI 0), .int (nI 0), .int (nI 0), .int (nI 0)], aI G q4 8 (fun _ => 0), aI G q5 7 (fun _ => 0)])))) (ty := .array .int) (k := 4) F hname w 16 iX3 okX3 f34 rfl rfl rfl rfl (by decide) (by decide +kernel) rfl rfl (Nat.le_of_ble_eq_true rfl) dX3_init_50 rfl (fun H locs w => ?_)
  refine r_gets F w hX.1.2.2.1 f37 rfl dX3_init_53 ?_
  refine lv_iconst (v := nI 0) F.1 F.2.1 dX3_init_56 (by decide) ?_
  refine lv_aload_n F.1 F.2.1 dX3_init_57 rfl (lv_at hl 0 rfl) ?_
  refine r_get F w 16 3 iX3 f30 rfl rfl rfl (by decide) rfl dX3_init_58 ?_
  refine lv_iconst (v := nI 0) F.1 F.2.1 dX3_init_61 (by decide) ?_
  refine lv_bipush (v := nI 8) F.1 F.2.1 dX3_init_62 (by decide) ?_
  refine r_copyT (ws' := vialsW G v1 0 0 (fun _ => 0) (fun _ => 0) (fun _ => 0) ++ (linesW G l1 (fun _ => 0) (fun _ => 0) (fun _ => 0) (fun _ => 0) (fun _ => 0) ++ (coreW G c1 0 0 (fun _ => 0) (fun _ => 0) (fun _ => 0) (fun _ => 0) (fun _ => 0) ++ ([cO b 3 [.ref (c1 0), .ref (l1 0), .ref (v1 0), .ref q4, .ref q5, .int (nI 0), .int (nI 0), .int (nI 0), .int (nI 0), .int (nI 0), .int (nI 0), .int (nI 0), .int (nI 0), .int (nI 0), .int (nI 0)], aI G q4 8 initF, aI G q5 7 (fun _ => 0)])))) F w 17 (hts (.methodLink RX3 40 arraycopyName) (by decide +kernel)) (hts (.native arraycopyName) (by decide +kernel)) (hts (.static arraycopyName) (by decide +kernel)) (hts (.initialized "java/lang/System") (by decide +kernel)) hX.1.2.2.2 rfl (by decide) (Nat.le_of_ble_eq_true rfl) (Nat.le_of_ble_eq_true rfl) hl dX3_init_64 rfl (fun H locs w => ?_)
  have w := w.perm (ws' := [cO b 3 [.ref (c1 0), .ref (l1 0), .ref (v1 0), .ref q4, .ref q5, .int (nI 0), .int (nI 0), .int (nI 0), .int (nI 0), .int (nI 0), .int (nI 0), .int (nI 0), .int (nI 0), .int (nI 0), .int (nI 0)], aI G q4 8 initF, aI G q5 7 (fun _ => 0)] ++ (coreW G c1 0 0 (fun _ => 0) (fun _ => 0) (fun _ => 0) (fun _ => 0) (fun _ => 0) ++ (linesW G l1 (fun _ => 0) (fun _ => 0) (fun _ => 0) (fun _ => 0) (fun _ => 0) ++ vialsW G v1 0 0 (fun _ => 0) (fun _ => 0) (fun _ => 0)))) ((((List.Perm.append_left _ ((List.Perm.append_left _ List.perm_append_comm).trans (List.perm_append_comm_assoc _ _ _))).trans (List.perm_append_comm_assoc _ _ _)).trans (List.Perm.append_left _ (((List.Perm.append_left _ List.perm_append_comm).trans (List.perm_append_comm_assoc _ _ _)).trans (List.Perm.append_left _ List.perm_append_comm)))))
  have w := w.eq (ws' := plateW G (fun k => if k = 0 then adr [b, q4, q5] else if k = 1 then c1 else if k = 2 then l1 else v1) initP (fun _ => 0)) initP_eq
  exact r_return F w dX3_init_67 ⟨_, rfl, rfl⟩

