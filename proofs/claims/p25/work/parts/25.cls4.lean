theorem hc_ag {G : KG} {pa : Nat → Nat → Nat} {P Z lo : Nat → Nat} {tol wbt tk rs st : Nat} (h : AgM P Z) : eqW (plH G (pa 0) (pa 1) (pa 2) (pa 3) (fun k => P k) (fun k => Z (19 + k)) (Z 9) (Z 10) (Z 11) (Z 12) (Z 13) tol wbt tk rs st ++ (coreW G (pa 1) (P 8) (top P) (kdP P) (lnP P) (dnP P) (moP P) lo)) (plH G (pa 0) (pa 1) (pa 2) (pa 3) (fun k => Z k) (fun k => Z (19 + k)) (Z 9) (Z 10) (Z 11) (Z 12) (Z 13) tol wbt tk rs st ++ (coreW G (pa 1) (Z 8) (top Z) (kdP Z) (lnP Z) (dnP Z) (moP Z) lo)) :=
  eqW.app (plH_eq rfl rfl rfl rfl rfl rfl rfl rfl rfl rfl (fun k hk => (h k (by omega)).symm) (fun _ _ => rfl)) (coreW_eq (h 8 (by omega)).symm h.top.symm (fun k hk => (h _ (by omega)).symm) (fun k hk => (h _ (by omega)).symm) (fun k hk => (h _ (by omega)).symm) (fun k hk => (h _ (by omega)).symm) (fun _ _ => rfl))
theorem hc_up10 {G : KG} {pa : Nat → Nat → Nat} {Z lo : Nat → Nat} {x tol wbt tk rs st : Nat} : eqW (plH G (pa 0) (pa 1) (pa 2) (pa 3) (fun k => Z k) (fun k => Z (19 + k)) (Z 9) x (Z 11) (Z 12) (Z 13) tol wbt tk rs st ++ (coreW G (pa 1) (Z 8) (top Z) (kdP Z) (lnP Z) (dnP Z) (moP Z) lo)) (plH G (pa 0) (pa 1) (pa 2) (pa 3) (fun k => (up Z 10 x) k) (fun k => (up Z 10 x) (19 + k)) ((up Z 10 x) 9) ((up Z 10 x) 10) ((up Z 10 x) 11) ((up Z 10 x) 12) ((up Z 10 x) 13) tol wbt tk rs st ++ (coreW G (pa 1) ((up Z 10 x) 8) (top (up Z 10 x)) (kdP (up Z 10 x)) (lnP (up Z 10 x)) (dnP (up Z 10 x)) (moP (up Z 10 x)) lo)) :=
  eqW.app (plH_eq rfl rfl rfl rfl rfl rfl rfl rfl rfl rfl (fun k hk => (up_n _ _ (by omega)).symm) (fun k hk => (up_n _ _ (by omega)).symm)) (coreW_eq rfl (AgM.up10 Z x).top.symm (fun k hk => (AgM.up10 Z x (46 + 4 * k) (by omega)).symm) (fun k hk => (AgM.up10 Z x (46 + 4 * k + 1) (by omega)).symm) (fun k hk => (AgM.up10 Z x (46 + 4 * k + 2) (by omega)).symm) (fun k hk => (AgM.up10 Z x (46 + 4 * k + 3) (by omega)).symm) (fun _ _ => rfl))
theorem hc_up9 {G : KG} {pa : Nat → Nat → Nat} {Z lo : Nat → Nat} {x tol wbt tk rs st : Nat} : eqW (plH G (pa 0) (pa 1) (pa 2) (pa 3) (fun k => Z k) (fun k => Z (19 + k)) x (Z 10) (Z 11) (Z 12) (Z 13) tol wbt tk rs st ++ (coreW G (pa 1) (Z 8) (top Z) (kdP Z) (lnP Z) (dnP Z) (moP Z) lo)) (plH G (pa 0) (pa 1) (pa 2) (pa 3) (fun k => (up Z 9 x) k) (fun k => (up Z 9 x) (19 + k)) ((up Z 9 x) 9) ((up Z 9 x) 10) ((up Z 9 x) 11) ((up Z 9 x) 12) ((up Z 9 x) 13) tol wbt tk rs st ++ (coreW G (pa 1) ((up Z 9 x) 8) (top (up Z 9 x)) (kdP (up Z 9 x)) (lnP (up Z 9 x)) (dnP (up Z 9 x)) (moP (up Z 9 x)) lo)) :=
  eqW.app (plH_eq rfl rfl rfl rfl rfl rfl rfl rfl rfl rfl (fun k hk => (up_n _ _ (by omega)).symm) (fun k hk => (up_n _ _ (by omega)).symm)) (coreW_eq rfl (AgM.up9 Z x).top.symm (fun k hk => (AgM.up9 Z x (46 + 4 * k) (by omega)).symm) (fun k hk => (AgM.up9 Z x (46 + 4 * k + 1) (by omega)).symm) (fun k hk => (AgM.up9 Z x (46 + 4 * k + 2) (by omega)).symm) (fun k hk => (AgM.up9 Z x (46 + 4 * k + 3) (by omega)).symm) (fun _ _ => rfl))
set_option maxRecDepth 100000 in
set_option maxHeartbeats 4000000 in
theorem c_X3_melt (l : Launch) (G : KG) (pa : Nat → Nat → Nat) (P lo : Nat → Nat) (tol wbt tk rs st : Nat) (hS : SegOk P) (hT : SetOk P) (hlk : LoOk P lo) (hM0 : MelOk P) (hD0 : DrOk P) (hb : P 10 ≤ 5000000) : MetV l yX3_melt wsX3_melt 3 0 0 G (plH G (pa 0) (pa 1) (pa 2) (pa 3) (fun k => P k) (fun k => P (19 + k)) (P 9) (P 10) (P 11) (P 12) (P 13) tol wbt tk rs st ++ (coreW G (pa 1) (P 8) (top P) (kdP P) (lnP P) (dnP P) (moP P) lo)) [.ref ((pa 0) 0)] (fun v => v = plH G (pa 0) (pa 1) (pa 2) (pa 3) (fun k => (meltF P) k) (fun k => (meltF P) (19 + k)) ((meltF P) 9) ((meltF P) 10) ((meltF P) 11) ((meltF P) 12) ((meltF P) 13) tol wbt tk rs st ++ (coreW G (pa 1) ((meltF P) 8) (top (meltF P)) (kdP (meltF P)) (lnP (meltF P)) (dnP (meltF P)) (moP (meltF P)) lo)) := by
  refine MetV.by (cc := cX3_melt) (nL := 2) (ret := none) (by decide +kernel) rfl (Nat.le_of_ble_eq_true rfl) ?_
  intro p e s m args below meth c F hname w ls hl
  have hl : lv_has ls 2 [(0, .ref ((pa 0) 0))] := hl
  have hts := F.ts
  have iX0 : ∀ w ∈ wsX00, w ∈ wsX3_melt := by decide +kernel
  have iX3 : ∀ w ∈ wsX30, w ∈ wsX3_melt := by decide +kernel
  have f10 := hts (.fieldLink RX3 10 "CoreMelter$Plate" "core" "LCoreMelter$Core;") (by decide +kernel)
  have f30 := hts (.fieldLink RX3 30 "CoreMelter$Plate" "settings" "[I") (by decide +kernel)
  have f56 := hts (.fieldLink RX3 56 "CoreMelter$Plate" "front" "I") (by decide +kernel)
  have f60 := hts (.fieldLink RX3 60 "CoreMelter$Plate" "store" "I") (by decide +kernel)
  have f63 := hts (.fieldLink RX3 63 "CoreMelter$Plate" "stock" "I") (by decide +kernel)
  have f118 := hts (.fieldLink RX3 118 "CoreMelter$Core" "height" "I") (by decide +kernel)
  have f128 := hts (.fieldLink RX3 128 "CoreMelter$Core" "size" "I") (by decide +kernel)
  have f131 := hts (.fieldLink RX3 131 "CoreMelter$Core" "kinds" "[I") (by decide +kernel)
  have hP0 := hT.1
  have ht := hS.top_le
  have h9 := hM0.1
  have h8 := hS.1
  obtain ⟨R0, hR0⟩ : ∃ z, z = melL 6001 (up P 10 (P 10 + P 0)) := ⟨_, rfl⟩
  refine lv_aload_n F.1 F.2.1 dX3_melt_0 rfl (lv_at hl 0 rfl) ?_
  refine lv_dup F.1 F.2.1 dX3_melt_1 rfl ?_
  refine r_get F w 0 6 iX3 f60 rfl rfl rfl (by decide) rfl dX3_melt_2 ?_
  refine lv_aload_n F.1 F.2.1 dX3_melt_5 rfl (lv_at hl 0 rfl) ?_
  refine r_get F w 0 3 iX3 f30 rfl rfl rfl (by decide) rfl dX3_melt_6 ?_
  refine lv_iconst (v := nI 0) F.1 F.2.1 dX3_melt_9 (by decide) ?_
  refine r_iald F w 1 rfl (by omega) (by decide) dX3_melt_10 ?_
  refine r_iadd F dX3_melt_11 ?_
  refine r_put (ws' := plH G (pa 0) (pa 1) (pa 2) (pa 3) (fun k => P k) (fun k => P (19 + k)) (P 9) ((P 10) + (P 0)) (P 11) (P 12) (P 13) tol wbt tk rs st ++ (coreW G (pa 1) (P 8) (top P) (kdP P) (lnP P) (dnP P) (moP P) lo)) F w 0 6 iX3 okX3 f60 rfl rfl rfl (by decide) (by decide +kernel) (Nat.le_of_ble_eq_true rfl) dX3_melt_12 rfl (fun H locs w => ?_)
  refine lv_aload_n F.1 F.2.1 dX3_melt_15 rfl (lv_at hl 0 rfl) ?_
  refine r_get F w 0 0 iX3 f10 rfl rfl rfl (by decide) rfl dX3_melt_16 ?_
  refine lv_aload_n F.1 F.2.1 dX3_melt_19 rfl (lv_at hl 0 rfl) ?_
  refine r_get F w 0 5 iX3 f56 rfl rfl rfl (by decide) rfl dX3_melt_20 ?_
  refine r_callVI (rest := []) F w (c_X0_holding l G (pa 1) (P 8) (top P) (kdP P) (lnP P) (dnP P) (moP P) lo (P 9) (by omega) (core_ok hS hlk)) gX3_melt_X0_holding [3, 4, 5, 6, 7, 8] [0, 1, 2] (nA0 := 1) rfl (by decide +kernel) rfl ⟨Nat.le_of_ble_eq_true rfl, Nat.le_of_ble_eq_true rfl⟩ ⟨Nat.le_of_ble_eq_true rfl, Nat.le_of_ble_eq_true rfl⟩ rfl rfl rfl rfl rfl rfl rfl hl rfl (Nat.le_of_ble_eq_true rfl) dX3_melt_23 (fun r_23 w1 H locs hp w => ?_)
  obtain ⟨rfl, rfl⟩ := hp
  have w := w.sub (ws' := plH G (pa 0) (pa 1) (pa 2) (pa 3) (fun k => P k) (fun k => P (19 + k)) (P 9) ((P 10) + (P 0)) (P 11) (P 12) (P 13) tol wbt tk rs st ++ (coreW G (pa 1) (P 8) (top P) (kdP P) (lnP P) (dnP P) (moP P) lo)) [0, 1, 2, 3, 4, 5, 6, 7, 8] (by decide) rfl
  refine lv_istore_n (lv' := [(1, .int (nI (sg (lnP P) (P 9) (P 8)))), (0, .ref ((pa 0) 0))]) F.1 F.2.1 dX3_melt_26 rfl hl (by decide) rfl (fun ls hl => ?_)
  have L27 : ∀ n : Nat, ∀ (Z : Nat → Nat) (f i : Nat), (AgM P Z) → (MelOk Z) → (DrOk Z) → (Z 10 ≤ P 10 + P 0) → (melL f Z = R0) → (top Z - Z 9 < f) → (i ≤ Z 8) → (low (lnP Z) i ≤ Z 9) → (i < Z 8 → Z 9 < low (lnP Z) (i + 1)) → Z 8 - i < n → ∀ (H : Heap) (locs : List Loc), Wd G s (va_A (plH G (pa 0) (pa 1) (pa 2) (pa 3) (fun k => P k) (fun k => P (19 + k)) (P 9) (P 10) (P 11) (P 12) (P 13) tol wbt tk rs st ++ (coreW G (pa 1) (P 8) (top P) (kdP P) (lnP P) (dnP P) (moP P) lo)) s.heap.size) (plH G (pa 0) (pa 1) (pa 2) (pa 3) (fun k => Z k) (fun k => Z (19 + k)) (Z 9) (Z 10) (Z 11) (Z 12) (Z 13) tol wbt tk rs st ++ (coreW G (pa 1) (Z 8) (top Z) (kdP Z) (lnP Z) (dnP Z) (moP Z) lo)) H locs → ∀ ls : Array Slot, lv_has ls 2 [(0, .ref ((pa 0) 0)), (1, .int (nI i))] → W p l e (rmK 3 0 0) s m args below meth c H locs 0 0 (MQ below (QV G (plH G (pa 0) (pa 1) (pa 2) (pa 3) (fun k => P k) (fun k => P (19 + k)) (P 9) (P 10) (P 11) (P 12) (P 13) tol wbt tk rs st ++ (coreW G (pa 1) (P 8) (top P) (kdP P) (lnP P) (dnP P) (moP P) lo)) s.heap.size (fun v => v = plH G (pa 0) (pa 1) (pa 2) (pa 3) (fun k => (meltF P) k) (fun k => (meltF P) (19 + k)) ((meltF P) 9) ((meltF P) 10) ((meltF P) 11) ((meltF P) 12) ((meltF P) 13) tol wbt tk rs st ++ (coreW G (pa 1) ((meltF P) 8) (top (meltF P)) (kdP (meltF P)) (lnP (meltF P)) (dnP (meltF P)) (moP (meltF P)) lo))) args s 0 0 (va_A (plH G (pa 0) (pa 1) (pa 2) (pa 3) (fun k => P k) (fun k => P (19 + k)) (P 9) (P 10) (P 11) (P 12) (P 13) tol wbt tk rs st ++ (coreW G (pa 1) (P 8) (top P) (kdP P) (lnP P) (dnP P) (moP P) lo)) s.heap.size)) (F0 m 27 ls []) := by
    intro n
    induction n with
    | zero => intro Z f i hA hM hD h10 hR hf hi hlo hhi hm; exact absurd hm (Nat.not_lt_zero _)
    | succ n ih27 =>
      intro Z f i hA hM hD h10 hR hf hi hlo hhi hm27 H locs w ls hl
      refine lv_iload_n F.1 F.2.1 dX3_melt_27 rfl (lv_at hl 1 rfl) ?_
      have hSZ := hA.seg hS
      have hTZ := hA.set hT
      have hlkZ : LoOk Z lo := fun k hk => by rw [hA.ln]; exact hlk k (by rw [← hA 8 (by omega)]; exact hk)
      have h8Z := hSZ.1
      have h11 : Z 11 ≤ 552000 := by have := wat_bound (ln := lnP Z) (dn := dnP Z) (d := Z 9) (n := Z 8) hSZ.dn_le; have h3 : min (Z 9) (low (lnP Z) (Z 8)) ≤ Z 9 := Nat.min_le_left _ _; have := hM.2.1; have := hD.1; have := hM.1; have := hSZ.top_le; omega
      obtain ⟨t0, t1, t2, t3, t4, t5, t6, t7, t8, t9, t10, t11, t12, t13⟩ := hTZ
      have htopZ := hSZ.top_le
      have h9Z := hM.1
      refine lv_aload_n F.1 F.2.1 dX3_melt_28 rfl (lv_at hl 0 rfl) ?_
      refine r_get F w 0 0 iX3 f10 rfl rfl rfl (by decide) rfl dX3_melt_29 ?_
      refine r_get F w 3 0 iX0 f128 rfl rfl rfl (by decide) rfl dX3_melt_32 ?_
      refine r_cge (tgt := 108) F dX3_melt_35 (by decide) (by omega) (by omega) (fun c35 => ?_) (fun c35 => ?_)
      · skip
        have hX : R0 = Z := by rw [← hR]; exact melL_stop1 (by show ¬ Z 9 < low (lnP Z) (Z 8); rw [show i = Z 8 by omega] at hlo; omega) f
        refine lv_aload_n F.1 F.2.1 dX3_melt_108 rfl (lv_at hl 0 rfl) ?_
        refine r_get F w 0 5 iX3 f56 rfl rfl rfl (by decide) rfl dX3_melt_109 ?_
        refine lv_aload_n F.1 F.2.1 dX3_melt_112 rfl (lv_at hl 0 rfl) ?_
        refine r_get F w 0 0 iX3 f10 rfl rfl rfl (by decide) rfl dX3_melt_113 ?_
        refine r_get F w 3 1 iX0 f118 rfl rfl rfl (by decide) rfl dX3_melt_116 ?_
        refine r_clt (tgt := 127) F dX3_melt_119 (by decide) (by first | (have := a2.1; have := a1.top; omega) | omega) (by first | (rw [a1.top]; omega) | omega) (fun c119 => ?_) (fun c119 => ?_)
        · skip
          have hzt : top Z = top P := hA.top
          have hzl : Z 9 ≤ top Z := hM.1
          have hF : meltF P = up Z 10 (Z 10) := by unfold meltF; rw [← hR0, hX, if_neg (by omega)]
          have w := w.eq (ws' := plH G (pa 0) (pa 1) (pa 2) (pa 3) (fun k => (meltF P) k) (fun k => (meltF P) (19 + k)) ((meltF P) 9) ((meltF P) 10) ((meltF P) 11) ((meltF P) 12) ((meltF P) 13) tol wbt tk rs st ++ (coreW G (pa 1) ((meltF P) 8) (top (meltF P)) (kdP (meltF P)) (lnP (meltF P)) (dnP (meltF P)) (moP (meltF P)) lo)) (by rw [hF]; exact hc_up10)
          exact r_return F w dX3_melt_127 (rfl)
        · skip
          refine lv_aload_n F.1 F.2.1 dX3_melt_122 rfl (lv_at hl 0 rfl) ?_
          refine lv_iconst (v := nI 0) F.1 F.2.1 dX3_melt_123 (by decide) ?_
          refine r_put (ws' := plH G (pa 0) (pa 1) (pa 2) (pa 3) (fun k => Z k) (fun k => Z (19 + k)) (Z 9) 0 (Z 11) (Z 12) (Z 13) tol wbt tk rs st ++ (coreW G (pa 1) (Z 8) (top Z) (kdP Z) (lnP Z) (dnP Z) (moP Z) lo)) F w 0 6 iX3 okX3 f60 rfl rfl rfl (by decide) (by decide +kernel) (Nat.le_of_ble_eq_true rfl) dX3_melt_124 rfl (fun H locs w => ?_)
          have hzt : top Z = top P := hA.top
          have hzl : Z 9 ≤ top Z := hM.1
          have hF : meltF P = up Z 10 0 := by unfold meltF; rw [← hR0, hX, if_pos (by omega)]
          have w := w.eq (ws' := plH G (pa 0) (pa 1) (pa 2) (pa 3) (fun k => (meltF P) k) (fun k => (meltF P) (19 + k)) ((meltF P) 9) ((meltF P) 10) ((meltF P) 11) ((meltF P) 12) ((meltF P) 13) tol wbt tk rs st ++ (coreW G (pa 1) ((meltF P) 8) (top (meltF P)) (kdP (meltF P)) (lnP (meltF P)) (dnP (meltF P)) (moP (meltF P)) lo)) (by rw [hF]; exact hc_up10)
          exact r_return F w dX3_melt_127 (rfl)
      · skip
        refine lv_aload_n F.1 F.2.1 dX3_melt_38 rfl (lv_at hl 0 rfl) ?_
        refine r_get F w 0 7 iX3 f63 rfl rfl rfl (by decide) rfl dX3_melt_39 ?_
        refine lv_aload_n F.1 F.2.1 dX3_melt_42 rfl (lv_at hl 0 rfl) ?_
        refine r_get F w 0 3 iX3 f30 rfl rfl rfl (by decide) rfl dX3_melt_43 ?_
        refine lv_iconst (v := nI 2) F.1 F.2.1 dX3_melt_46 (by decide) ?_
        refine r_iald F w 1 rfl (by omega) (by decide) dX3_melt_47 ?_
        refine r_cge (tgt := 108) F dX3_melt_48 (by decide) (by omega) (by omega) (fun c48 => ?_) (fun c48 => ?_)
        · skip
          have hX : R0 = Z := by rw [← hR]; exact melL_stop2 c48 f
          refine lv_aload_n F.1 F.2.1 dX3_melt_108 rfl (lv_at hl 0 rfl) ?_
          refine r_get F w 0 5 iX3 f56 rfl rfl rfl (by decide) rfl dX3_melt_109 ?_
          refine lv_aload_n F.1 F.2.1 dX3_melt_112 rfl (lv_at hl 0 rfl) ?_
          refine r_get F w 0 0 iX3 f10 rfl rfl rfl (by decide) rfl dX3_melt_113 ?_
          refine r_get F w 3 1 iX0 f118 rfl rfl rfl (by decide) rfl dX3_melt_116 ?_
          refine r_clt (tgt := 127) F dX3_melt_119 (by decide) (by first | (have := a2.1; have := a1.top; omega) | omega) (by first | (rw [a1.top]; omega) | omega) (fun c119 => ?_) (fun c119 => ?_)
          · skip
            have hzt : top Z = top P := hA.top
            have hzl : Z 9 ≤ top Z := hM.1
            have hF : meltF P = up Z 10 (Z 10) := by unfold meltF; rw [← hR0, hX, if_neg (by omega)]
            have w := w.eq (ws' := plH G (pa 0) (pa 1) (pa 2) (pa 3) (fun k => (meltF P) k) (fun k => (meltF P) (19 + k)) ((meltF P) 9) ((meltF P) 10) ((meltF P) 11) ((meltF P) 12) ((meltF P) 13) tol wbt tk rs st ++ (coreW G (pa 1) ((meltF P) 8) (top (meltF P)) (kdP (meltF P)) (lnP (meltF P)) (dnP (meltF P)) (moP (meltF P)) lo)) (by rw [hF]; exact hc_up10)
            exact r_return F w dX3_melt_127 (rfl)
          · skip
            refine lv_aload_n F.1 F.2.1 dX3_melt_122 rfl (lv_at hl 0 rfl) ?_
            refine lv_iconst (v := nI 0) F.1 F.2.1 dX3_melt_123 (by decide) ?_
            refine r_put (ws' := plH G (pa 0) (pa 1) (pa 2) (pa 3) (fun k => Z k) (fun k => Z (19 + k)) (Z 9) 0 (Z 11) (Z 12) (Z 13) tol wbt tk rs st ++ (coreW G (pa 1) (Z 8) (top Z) (kdP Z) (lnP Z) (dnP Z) (moP Z) lo)) F w 0 6 iX3 okX3 f60 rfl rfl rfl (by decide) (by decide +kernel) (Nat.le_of_ble_eq_true rfl) dX3_melt_124 rfl (fun H locs w => ?_)
            have hzt : top Z = top P := hA.top
            have hzl : Z 9 ≤ top Z := hM.1
            have hF : meltF P = up Z 10 0 := by unfold meltF; rw [← hR0, hX, if_pos (by omega)]
            have w := w.eq (ws' := plH G (pa 0) (pa 1) (pa 2) (pa 3) (fun k => (meltF P) k) (fun k => (meltF P) (19 + k)) ((meltF P) 9) ((meltF P) 10) ((meltF P) 11) ((meltF P) 12) ((meltF P) 13) tol wbt tk rs st ++ (coreW G (pa 1) ((meltF P) 8) (top (meltF P)) (kdP (meltF P)) (lnP (meltF P)) (dnP (meltF P)) (moP (meltF P)) lo)) (by rw [hF]; exact hc_up10)
            exact r_return F w dX3_melt_127 (rfl)
        · skip
          have hhi := hhi c35
          obtain ⟨q1, q2, q3⟩ := hSZ.2 i c35
          have hcoZ := core_ok hSZ hlkZ
          have hbZ := hcoZ.bnd (i + 1) c35
          refine lv_aload_n F.1 F.2.1 dX3_melt_51 rfl (lv_at hl 0 rfl) ?_
          refine r_get F w 0 0 iX3 f10 rfl rfl rfl (by decide) rfl dX3_melt_52 ?_
          refine r_get F w 3 2 iX0 f131 rfl rfl rfl (by decide) rfl dX3_melt_55 ?_
          refine lv_iload_n F.1 F.2.1 dX3_melt_58 rfl (lv_at hl 1 rfl) ?_
          refine r_iald F w 4 rfl (by omega) (by decide) dX3_melt_59 ?_
          refine r_to (y := (nI (Z (46 + 4 * i)))) (rfl) ?_
          refine lv_iconst (v := nI 1) F.1 F.2.1 dX3_melt_60 (by decide) ?_
          refine r_cne (tgt := 79) F dX3_melt_61 (by decide) (by omega) (by omega) (fun c61 => ?_) (fun c61 => ?_)
          · skip
            refine lv_aload_n F.1 F.2.1 dX3_melt_79 rfl (lv_at hl 0 rfl) ?_
            refine lv_iload_n F.1 F.2.1 dX3_melt_80 rfl (lv_at hl 1 rfl) ?_
            refine r_callVV (rest := []) F w (c_X3_meltIn l G pa Z lo tol wbt tk rs st i R0 f c35 hSZ ⟨t0, t1, t2, t3, t4, t5, t6, t7, t8, t9, t10, t11, t12, t13⟩ hlkZ hM hD (by omega) c61 hR hf hlo hhi) gX3_melt_X3_meltIn [0, 1, 2, 3, 4, 5, 6, 7, 8] [] (nA0 := 1) rfl (by decide +kernel) rfl ⟨Nat.le_of_ble_eq_true rfl, Nat.le_of_ble_eq_true rfl⟩ ⟨Nat.le_of_ble_eq_true rfl, Nat.le_of_ble_eq_true rfl⟩ rfl rfl rfl rfl rfl rfl rfl hl rfl (Nat.le_of_ble_eq_true rfl) dX3_melt_81 (fun w1 H locs hp w => ?_)
            obtain ⟨Z1, f1, a1, a2, a3, a4, a5, a6, a7, a8, a9, rfl⟩ := hp
            have w := w.sub (ws' := plH G (pa 0) (pa 1) (pa 2) (pa 3) (fun k => Z k) (fun k => Z1 (19 + k)) (Z1 9) (Z1 10) (Z1 11) (Z1 12) (Z1 13) tol wbt tk rs st ++ (coreW G (pa 1) (Z 8) (top Z) (kdP Z) (lnP Z) (dnP Z) (moP Z) lo)) [0, 1, 2, 3, 4, 5, 6, 7, 8] (by decide) rfl
            have e81 : Z1 8 = Z 8 := a1 8 (by omega)
            have w := w.eq (ws' := plH G (pa 0) (pa 1) (pa 2) (pa 3) (fun k => Z1 k) (fun k => Z1 (19 + k)) (Z1 9) (Z1 10) (Z1 11) (Z1 12) (Z1 13) tol wbt tk rs st ++ (coreW G (pa 1) (Z1 8) (top Z1) (kdP Z1) (lnP Z1) (dnP Z1) (moP Z1) lo)) (hc_ag a1)
            refine lv_aload_n F.1 F.2.1 dX3_melt_84 rfl (lv_at hl 0 rfl) ?_
            refine r_get F w 0 5 iX3 f56 rfl rfl rfl (by decide) rfl dX3_melt_85 ?_
            refine lv_aload_n F.1 F.2.1 dX3_melt_88 rfl (lv_at hl 0 rfl) ?_
            refine r_get F w 0 0 iX3 f10 rfl rfl rfl (by decide) rfl dX3_melt_89 ?_
            refine lv_iload_n F.1 F.2.1 dX3_melt_92 rfl (lv_at hl 1 rfl) ?_
            refine r_callVI (rest := [.int (nI (Z1 9))]) F w (c_X0_end l G (pa 1) (Z1 8) (top Z1) (kdP Z1) (lnP Z1) (dnP Z1) (moP Z1) lo i (by omega)) gX3_melt_X0_end [3, 4, 5, 6, 7, 8] [0, 1, 2] (nA0 := 1) rfl (by decide +kernel) rfl ⟨Nat.le_of_ble_eq_true rfl, Nat.le_of_ble_eq_true rfl⟩ ⟨Nat.le_of_ble_eq_true rfl, Nat.le_of_ble_eq_true rfl⟩ rfl rfl rfl rfl rfl rfl rfl hl rfl (Nat.le_of_ble_eq_true rfl) dX3_melt_93 (fun r_93 w1 H locs hp w => ?_)
            obtain ⟨rfl, rfl⟩ := hp
            have w := w.sub (ws' := plH G (pa 0) (pa 1) (pa 2) (pa 3) (fun k => Z1 k) (fun k => Z1 (19 + k)) (Z1 9) (Z1 10) (Z1 11) (Z1 12) (Z1 13) tol wbt tk rs st ++ (coreW G (pa 1) (Z1 8) (top Z1) (kdP Z1) (lnP Z1) (dnP Z1) (moP Z1) lo)) [0, 1, 2, 3, 4, 5, 6, 7, 8] (by decide) rfl
            refine r_to (y := (nI (low (lnP Z) (i + 1)))) ((congrArg nI ((core_ok (a1.seg hSZ) (fun k hk => by rw [a1.ln]; exact hlkZ k (by rw [← e81]; exact hk))).endk (k := i) (by rw [e81]; exact c35))).trans (by rw [a1.ln])) ?_
            refine r_cge (tgt := 102) F dX3_melt_96 (by decide) (by omega) (by omega) (fun c96 => ?_) (fun c96 => ?_)
            · skip
              refine lv_iinc (v := nI (i + 1)) (lv' := [(1, .int (nI (i + 1))), (0, .ref ((pa 0) 0))]) F.1 F.2.1 dX3_melt_102 hl (k := 1) rfl (nI_add _ _) (by decide) rfl (fun ls hl => ?_)
              refine lv_goto (tgt := 27) F.1 F.2.1 dX3_melt_105 (by decide) ?_
              exact ih27 Z1 f1 (i + 1) (hA.tr a1) a2 a3 (by omega) a5 (by rw [a1.top]; exact a6) (by rw [e81]; omega) (by rw [a1.ln]; omega) (fun h => by rw [a1.ln]; have h7 : low (lnP Z) (i + 1 + 1) = low (lnP Z) (i + 1) + lnP Z (i + 1) := rfl; rw [e81] at h; have h6 := (hSZ.2 (i + 1) h).1; rw [h7]; show Z1 9 < low (lnP Z) (i + 1) + Z (46 + 4 * (i + 1) + 1); omega) (by omega) _ _ w ls (lv_sub hl [1, 0] rfl)
            · skip
              have hX : R0 = Z1 := (a9 c96).symm
              refine lv_goto (tgt := 108) F.1 F.2.1 dX3_melt_99 (by decide) ?_
              refine lv_aload_n F.1 F.2.1 dX3_melt_108 rfl (lv_at hl 0 rfl) ?_
              refine r_get F w 0 5 iX3 f56 rfl rfl rfl (by decide) rfl dX3_melt_109 ?_
              refine lv_aload_n F.1 F.2.1 dX3_melt_112 rfl (lv_at hl 0 rfl) ?_
              refine r_get F w 0 0 iX3 f10 rfl rfl rfl (by decide) rfl dX3_melt_113 ?_
              refine r_get F w 3 1 iX0 f118 rfl rfl rfl (by decide) rfl dX3_melt_116 ?_
              refine r_clt (tgt := 127) F dX3_melt_119 (by decide) (by first | (have := a2.1; have := a1.top; omega) | omega) (by first | (rw [a1.top]; omega) | omega) (fun c119 => ?_) (fun c119 => ?_)
              · skip
                have hzt : top Z1 = top P := (hA.tr a1).top
                have hzl : Z1 9 ≤ top Z1 := a2.1
                have hF : meltF P = up Z1 10 (Z1 10) := by unfold meltF; rw [← hR0, hX, if_neg (by omega)]
                have w := w.eq (ws' := plH G (pa 0) (pa 1) (pa 2) (pa 3) (fun k => (meltF P) k) (fun k => (meltF P) (19 + k)) ((meltF P) 9) ((meltF P) 10) ((meltF P) 11) ((meltF P) 12) ((meltF P) 13) tol wbt tk rs st ++ (coreW G (pa 1) ((meltF P) 8) (top (meltF P)) (kdP (meltF P)) (lnP (meltF P)) (dnP (meltF P)) (moP (meltF P)) lo)) (by rw [hF]; exact hc_up10)
                exact r_return F w dX3_melt_127 (rfl)
              · skip
                refine lv_aload_n F.1 F.2.1 dX3_melt_122 rfl (lv_at hl 0 rfl) ?_
                refine lv_iconst (v := nI 0) F.1 F.2.1 dX3_melt_123 (by decide) ?_
                refine r_put (ws' := plH G (pa 0) (pa 1) (pa 2) (pa 3) (fun k => Z1 k) (fun k => Z1 (19 + k)) (Z1 9) 0 (Z1 11) (Z1 12) (Z1 13) tol wbt tk rs st ++ (coreW G (pa 1) (Z1 8) (top Z1) (kdP Z1) (lnP Z1) (dnP Z1) (moP Z1) lo)) F w 0 6 iX3 okX3 f60 rfl rfl rfl (by decide) (by decide +kernel) (Nat.le_of_ble_eq_true rfl) dX3_melt_124 rfl (fun H locs w => ?_)
                have hzt : top Z1 = top P := (hA.tr a1).top
                have hzl : Z1 9 ≤ top Z1 := a2.1
                have hF : meltF P = up Z1 10 0 := by unfold meltF; rw [← hR0, hX, if_pos (by omega)]
                have w := w.eq (ws' := plH G (pa 0) (pa 1) (pa 2) (pa 3) (fun k => (meltF P) k) (fun k => (meltF P) (19 + k)) ((meltF P) 9) ((meltF P) 10) ((meltF P) 11) ((meltF P) 12) ((meltF P) 13) tol wbt tk rs st ++ (coreW G (pa 1) ((meltF P) 8) (top (meltF P)) (kdP (meltF P)) (lnP (meltF P)) (dnP (meltF P)) (moP (meltF P)) lo)) (by rw [hF]; exact hc_up10)
                exact r_return F w dX3_melt_127 (rfl)
          · skip
            refine lv_aload_n F.1 F.2.1 dX3_melt_64 rfl (lv_at hl 0 rfl) ?_
            refine lv_aload_n F.1 F.2.1 dX3_melt_65 rfl (lv_at hl 0 rfl) ?_
            refine r_get F w 0 0 iX3 f10 rfl rfl rfl (by decide) rfl dX3_melt_66 ?_
            refine lv_iload_n F.1 F.2.1 dX3_melt_69 rfl (lv_at hl 1 rfl) ?_
            refine r_callVI (rest := [.ref ((pa 0) 0)]) F w (c_X0_end l G (pa 1) (Z 8) (top Z) (kdP Z) (lnP Z) (dnP Z) (moP Z) lo i (by omega)) gX3_melt_X0_end [3, 4, 5, 6, 7, 8] [0, 1, 2] (nA0 := 1) rfl (by decide +kernel) rfl ⟨Nat.le_of_ble_eq_true rfl, Nat.le_of_ble_eq_true rfl⟩ ⟨Nat.le_of_ble_eq_true rfl, Nat.le_of_ble_eq_true rfl⟩ rfl rfl rfl rfl rfl rfl rfl hl rfl (Nat.le_of_ble_eq_true rfl) dX3_melt_70 (fun r_70 w1 H locs hp w => ?_)
            obtain ⟨rfl, rfl⟩ := hp
            have w := w.sub (ws' := plH G (pa 0) (pa 1) (pa 2) (pa 3) (fun k => Z k) (fun k => Z (19 + k)) (Z 9) (Z 10) (Z 11) (Z 12) (Z 13) tol wbt tk rs st ++ (coreW G (pa 1) (Z 8) (top Z) (kdP Z) (lnP Z) (dnP Z) (moP Z) lo)) [0, 1, 2, 3, 4, 5, 6, 7, 8] (by decide) rfl
            refine r_to (y := (nI (low (lnP Z) (i + 1)))) (congrArg nI (hcoZ.endk c35)) ?_
            refine r_put (ws' := plH G (pa 0) (pa 1) (pa 2) (pa 3) (fun k => Z k) (fun k => Z (19 + k)) (low (lnP Z) (i + 1)) (Z 10) (Z 11) (Z 12) (Z 13) tol wbt tk rs st ++ (coreW G (pa 1) (Z 8) (top Z) (kdP Z) (lnP Z) (dnP Z) (moP Z) lo)) F w 0 5 iX3 okX3 f56 rfl rfl rfl (by decide) (by decide +kernel) (Nat.le_of_ble_eq_true rfl) dX3_melt_73 rfl (fun H locs w => ?_)
            obtain ⟨Z1, eZ1⟩ : ∃ z, z = up Z 9 (low (lnP Z) (i + 1)) := ⟨_, rfl⟩
            have a1 : AgM Z Z1 := eZ1 ▸ AgM.up9 Z _
            have a2 : MelOk Z1 := eZ1 ▸ leap_mel hSZ hM c35 c61 hlo hhi
            have a3 : DrOk Z1 := eZ1 ▸ up9_dr hD _
            have a4 : Z1 10 ≤ Z 10 := by rw [eZ1, up_n _ _ (by decide)]; exact Nat.le_refl _
            obtain ⟨f1, ef1⟩ : ∃ z, z = f - 1 := ⟨_, rfl⟩
            have z9 : Z1 9 = low (lnP Z) (i + 1) := by rw [eZ1, up_s]
            have a5 : melL f1 Z1 = R0 := by rw [ef1, eZ1]; exact (melL_crackAt c35 hlo hhi c48 c61 (f - 1)).symm.trans (by rw [show f - 1 + 1 = f by omega]; exact hR)
            have hltop : Z 9 < top Z := at_lt c35 hhi
            have a6 : top Z - Z1 9 < f1 := by omega
            have a7 : low (lnP Z) i ≤ Z1 9 := by omega
            have a8 : Z1 9 ≤ low (lnP Z) (i + 1) := by omega
            have a9 : Z1 9 < low (lnP Z) (i + 1) → Z1 = R0 := fun q => absurd q (by omega)
            have w := w.eq (ws' := plH G (pa 0) (pa 1) (pa 2) (pa 3) (fun k => (up Z 9 (low (lnP Z) (i + 1))) k) (fun k => (up Z 9 (low (lnP Z) (i + 1))) (19 + k)) ((up Z 9 (low (lnP Z) (i + 1))) 9) ((up Z 9 (low (lnP Z) (i + 1))) 10) ((up Z 9 (low (lnP Z) (i + 1))) 11) ((up Z 9 (low (lnP Z) (i + 1))) 12) ((up Z 9 (low (lnP Z) (i + 1))) 13) tol wbt tk rs st ++ (coreW G (pa 1) ((up Z 9 (low (lnP Z) (i + 1))) 8) (top (up Z 9 (low (lnP Z) (i + 1)))) (kdP (up Z 9 (low (lnP Z) (i + 1)))) (lnP (up Z 9 (low (lnP Z) (i + 1)))) (dnP (up Z 9 (low (lnP Z) (i + 1)))) (moP (up Z 9 (low (lnP Z) (i + 1)))) lo)) (hc_up9)
            have w := w.is (ws' := plH G (pa 0) (pa 1) (pa 2) (pa 3) (fun k => Z1 k) (fun k => Z1 (19 + k)) (Z1 9) (Z1 10) (Z1 11) (Z1 12) (Z1 13) tol wbt tk rs st ++ (coreW G (pa 1) (Z1 8) (top Z1) (kdP Z1) (lnP Z1) (dnP Z1) (moP Z1) lo)) (by rw [eZ1])
            refine lv_goto (tgt := 84) F.1 F.2.1 dX3_melt_76 (by decide) ?_
            have e81 : Z1 8 = Z 8 := a1 8 (by omega)
            refine lv_aload_n F.1 F.2.1 dX3_melt_84 rfl (lv_at hl 0 rfl) ?_
            refine r_get F w 0 5 iX3 f56 rfl rfl rfl (by decide) rfl dX3_melt_85 ?_
            refine lv_aload_n F.1 F.2.1 dX3_melt_88 rfl (lv_at hl 0 rfl) ?_
            refine r_get F w 0 0 iX3 f10 rfl rfl rfl (by decide) rfl dX3_melt_89 ?_
            refine lv_iload_n F.1 F.2.1 dX3_melt_92 rfl (lv_at hl 1 rfl) ?_
            refine r_callVI (rest := [.int (nI (Z1 9))]) F w (c_X0_end l G (pa 1) (Z1 8) (top Z1) (kdP Z1) (lnP Z1) (dnP Z1) (moP Z1) lo i (by omega)) gX3_melt_X0_end [3, 4, 5, 6, 7, 8] [0, 1, 2] (nA0 := 1) rfl (by decide +kernel) rfl ⟨Nat.le_of_ble_eq_true rfl, Nat.le_of_ble_eq_true rfl⟩ ⟨Nat.le_of_ble_eq_true rfl, Nat.le_of_ble_eq_true rfl⟩ rfl rfl rfl rfl rfl rfl rfl hl rfl (Nat.le_of_ble_eq_true rfl) dX3_melt_93 (fun r_93 w1 H locs hp w => ?_)
            obtain ⟨rfl, rfl⟩ := hp
            have w := w.sub (ws' := plH G (pa 0) (pa 1) (pa 2) (pa 3) (fun k => Z1 k) (fun k => Z1 (19 + k)) (Z1 9) (Z1 10) (Z1 11) (Z1 12) (Z1 13) tol wbt tk rs st ++ (coreW G (pa 1) (Z1 8) (top Z1) (kdP Z1) (lnP Z1) (dnP Z1) (moP Z1) lo)) [0, 1, 2, 3, 4, 5, 6, 7, 8] (by decide) rfl
            refine r_to (y := (nI (low (lnP Z) (i + 1)))) ((congrArg nI ((core_ok (a1.seg hSZ) (fun k hk => by rw [a1.ln]; exact hlkZ k (by rw [← e81]; exact hk))).endk (k := i) (by rw [e81]; exact c35))).trans (by rw [a1.ln])) ?_
            refine r_cge (tgt := 102) F dX3_melt_96 (by decide) (by omega) (by omega) (fun c96 => ?_) (fun c96 => ?_)
            · skip
              refine lv_iinc (v := nI (i + 1)) (lv' := [(1, .int (nI (i + 1))), (0, .ref ((pa 0) 0))]) F.1 F.2.1 dX3_melt_102 hl (k := 1) rfl (nI_add _ _) (by decide) rfl (fun ls hl => ?_)
              refine lv_goto (tgt := 27) F.1 F.2.1 dX3_melt_105 (by decide) ?_
              exact ih27 Z1 f1 (i + 1) (hA.tr a1) a2 a3 (by omega) a5 (by rw [a1.top]; exact a6) (by rw [e81]; omega) (by rw [a1.ln]; omega) (fun h => by rw [a1.ln]; have h7 : low (lnP Z) (i + 1 + 1) = low (lnP Z) (i + 1) + lnP Z (i + 1) := rfl; rw [e81] at h; have h6 := (hSZ.2 (i + 1) h).1; rw [h7]; show Z1 9 < low (lnP Z) (i + 1) + Z (46 + 4 * (i + 1) + 1); omega) (by omega) _ _ w ls (lv_sub hl [1, 0] rfl)
            · skip
              have hX : R0 = Z1 := (a9 c96).symm
              refine lv_goto (tgt := 108) F.1 F.2.1 dX3_melt_99 (by decide) ?_
              refine lv_aload_n F.1 F.2.1 dX3_melt_108 rfl (lv_at hl 0 rfl) ?_
              refine r_get F w 0 5 iX3 f56 rfl rfl rfl (by decide) rfl dX3_melt_109 ?_
              refine lv_aload_n F.1 F.2.1 dX3_melt_112 rfl (lv_at hl 0 rfl) ?_
              refine r_get F w 0 0 iX3 f10 rfl rfl rfl (by decide) rfl dX3_melt_113 ?_
              refine r_get F w 3 1 iX0 f118 rfl rfl rfl (by decide) rfl dX3_melt_116 ?_
              refine r_clt (tgt := 127) F dX3_melt_119 (by decide) (by first | (have := a2.1; have := a1.top; omega) | omega) (by first | (rw [a1.top]; omega) | omega) (fun c119 => ?_) (fun c119 => ?_)
              · skip
                have hzt : top Z1 = top P := (hA.tr a1).top
                have hzl : Z1 9 ≤ top Z1 := a2.1
                have hF : meltF P = up Z1 10 (Z1 10) := by unfold meltF; rw [← hR0, hX, if_neg (by omega)]
                have w := w.eq (ws' := plH G (pa 0) (pa 1) (pa 2) (pa 3) (fun k => (meltF P) k) (fun k => (meltF P) (19 + k)) ((meltF P) 9) ((meltF P) 10) ((meltF P) 11) ((meltF P) 12) ((meltF P) 13) tol wbt tk rs st ++ (coreW G (pa 1) ((meltF P) 8) (top (meltF P)) (kdP (meltF P)) (lnP (meltF P)) (dnP (meltF P)) (moP (meltF P)) lo)) (by rw [hF]; exact hc_up10)
                exact r_return F w dX3_melt_127 (rfl)
              · skip
                refine lv_aload_n F.1 F.2.1 dX3_melt_122 rfl (lv_at hl 0 rfl) ?_
                refine lv_iconst (v := nI 0) F.1 F.2.1 dX3_melt_123 (by decide) ?_
                refine r_put (ws' := plH G (pa 0) (pa 1) (pa 2) (pa 3) (fun k => Z1 k) (fun k => Z1 (19 + k)) (Z1 9) 0 (Z1 11) (Z1 12) (Z1 13) tol wbt tk rs st ++ (coreW G (pa 1) (Z1 8) (top Z1) (kdP Z1) (lnP Z1) (dnP Z1) (moP Z1) lo)) F w 0 6 iX3 okX3 f60 rfl rfl rfl (by decide) (by decide +kernel) (Nat.le_of_ble_eq_true rfl) dX3_melt_124 rfl (fun H locs w => ?_)
                have hzt : top Z1 = top P := (hA.tr a1).top
                have hzl : Z1 9 ≤ top Z1 := a2.1
                have hF : meltF P = up Z1 10 0 := by unfold meltF; rw [← hR0, hX, if_pos (by omega)]
                have w := w.eq (ws' := plH G (pa 0) (pa 1) (pa 2) (pa 3) (fun k => (meltF P) k) (fun k => (meltF P) (19 + k)) ((meltF P) 9) ((meltF P) 10) ((meltF P) 11) ((meltF P) 12) ((meltF P) 13) tol wbt tk rs st ++ (coreW G (pa 1) ((meltF P) 8) (top (meltF P)) (kdP (meltF P)) (lnP (meltF P)) (dnP (meltF P)) (moP (meltF P)) lo)) (by rw [hF]; exact hc_up10)
                exact r_return F w dX3_melt_127 (rfl)
  have w := w.eq (ws' := plH G (pa 0) (pa 1) (pa 2) (pa 3) (fun k => (up P 10 (P 10 + P 0)) k) (fun k => (up P 10 (P 10 + P 0)) (19 + k)) ((up P 10 (P 10 + P 0)) 9) ((up P 10 (P 10 + P 0)) 10) ((up P 10 (P 10 + P 0)) 11) ((up P 10 (P 10 + P 0)) 12) ((up P 10 (P 10 + P 0)) 13) tol wbt tk rs st ++ (coreW G (pa 1) ((up P 10 (P 10 + P 0)) 8) (top (up P 10 (P 10 + P 0))) (kdP (up P 10 (P 10 + P 0))) (lnP (up P 10 (P 10 + P 0))) (dnP (up P 10 (P 10 + P 0))) (moP (up P 10 (P 10 + P 0))) lo)) hc_up10
  exact L27 _ (up P 10 (P 10 + P 0)) 6001 (sg (lnP P) (P 9) (P 8)) (AgM.up10 P _) (up10_mel hM0 _) (up10_dr hD0 _) (by rw [up_s]; exact Nat.le_refl _) hR0.symm (by rw [(AgM.up10 P _).top]; show top P - P 9 < 6001; omega) (sg_le _ _ _) (by rw [(AgM.up10 P _).ln, up_n _ _ (by decide)]; rcases sg_ok (ln := lnP P) (d := P 9) (n := P 8) with q | q; exact q.1; rw [q.2]; exact q.1) (fun h => by rw [(AgM.up10 P _).ln, up_n _ _ (by decide)]; rcases sg_ok (ln := lnP P) (d := P 9) (n := P 8) with q | q; exact q.2 h; exact absurd q.2 (Nat.ne_of_lt h)) (Nat.lt_succ_self _) _ _ w ls (lv_sub hl [1, 0] rfl)
set_option maxRecDepth 100000 in
set_option maxHeartbeats 4000000 in
theorem c_X3_draw (l : Launch) (G : KG) (pa : Nat → Nat → Nat) (P lo : Nat → Nat) (tol wbt tk rs st : Nat) (i : Nat) (hi : i < 4) (hD : DInv P) : MetV l yX3_draw wsX3_draw 1 0 0 G (plH G (pa 0) (pa 1) (pa 2) (pa 3) (fun k => P k) (fun k => P (19 + k)) (P 9) (P 10) (P 11) (P 12) (P 13) tol wbt tk rs st ++ (linesW G (pa 2) (fun k => P (26 + 5 * k)) (fun k => P (26 + 5 * k + 1)) (fun k => P (26 + 5 * k + 2)) (fun k => P (26 + 5 * k + 3)) (fun k => P (26 + 5 * k + 4)) ++ (vialsW G (pa 3) (P 14) (P 15) (fun k => P (126 + 3 * k)) (fun k => P (126 + 3 * k + 1)) (fun k => P (126 + 3 * k + 2))))) [.ref ((pa 0) 0), .int (nI i)] (fun v => v = plH G (pa 0) (pa 1) (pa 2) (pa 3) (fun k => (drO P i) k) (fun k => (drO P i) (19 + k)) ((drO P i) 9) ((drO P i) 10) ((drO P i) 11) ((drO P i) 12) ((drO P i) 13) tol wbt tk rs st ++ (linesW G (pa 2) (fun k => (drO P i) (26 + 5 * k)) (fun k => (drO P i) (26 + 5 * k + 1)) (fun k => (drO P i) (26 + 5 * k + 2)) (fun k => (drO P i) (26 + 5 * k + 3)) (fun k => (drO P i) (26 + 5 * k + 4)) ++ (vialsW G (pa 3) ((drO P i) 14) ((drO P i) 15) (fun k => (drO P i) (126 + 3 * k)) (fun k => (drO P i) (126 + 3 * k + 1)) (fun k => (drO P i) (126 + 3 * k + 2))))) := by
  refine MetV.by (cc := cX3_draw) (nL := 6) (ret := none) (by decide +kernel) rfl (Nat.le_of_ble_eq_true rfl) ?_
  intro p e s m args below meth c F hname w ls hl
  have hl : lv_has ls 6 [(0, .ref ((pa 0) 0)), (1, .int (nI i))] := hl
  have hts := F.ts
  have iX2 : ∀ w ∈ wsX20, w ∈ wsX3_draw := by decide +kernel
  have iX3 : ∀ w ∈ wsX30, w ∈ wsX3_draw := by decide +kernel
  have iX6 : ∀ w ∈ wsX60, w ∈ wsX3_draw := by decide +kernel
  have f19 := hts (.fieldLink RX3 19 "CoreMelter$Plate" "lines" "LCoreMelter$Lines;") (by decide +kernel)
  have f26 := hts (.fieldLink RX3 26 "CoreMelter$Plate" "vials" "LCoreMelter$Vials;") (by decide +kernel)
  have f30 := hts (.fieldLink RX3 30 "CoreMelter$Plate" "settings" "[I") (by decide +kernel)
  have f34 := hts (.fieldLink RX3 34 "CoreMelter$Plate" "accounts" "[I") (by decide +kernel)
  have f63 := hts (.fieldLink RX3 63 "CoreMelter$Plate" "stock" "I") (by decide +kernel)
  have f66 := hts (.fieldLink RX3 66 "CoreMelter$Plate" "stockGas" "I") (by decide +kernel)
  have f69 := hts (.fieldLink RX3 69 "CoreMelter$Plate" "stockDirt" "I") (by decide +kernel)
  have f155 := hts (.fieldLink RX3 155 "CoreMelter$Lines" "stuck" "[I") (by decide +kernel)
  have f158 := hts (.fieldLink RX3 158 "CoreMelter$Lines" "drawn" "[I") (by decide +kernel)
  have f165 := hts (.fieldLink RX3 165 "CoreMelter$Lines" "wasted" "[I") (by decide +kernel)
  have f168 := hts (.fieldLink RX3 168 "CoreMelter$Vials" "present" "I") (by decide +kernel)
  have hm1 := hts (.methodLink RX3 149 Lib.Math.min.name) (by decide +kernel)
  have hm2 := hts (.static Lib.Math.min.name) (by decide +kernel)
  have hm3 := hts (.initialized "java/lang/Math") (by decide +kernel)
  have hm4 := hts (.code Lib.Math.min.name Lib.Math.min.code 2 (some .int)) (by decide +kernel)
  obtain ⟨b9, b11, b20, b12, b13, b25, b23⟩ := hD.bnd
  obtain ⟨t0, t1, t2, t3, t4, t5, t6, t7, t8, t9, t10, t11, t12, t13⟩ := hD.2.1
  obtain ⟨l0, l1, l2⟩ := hD.2.2.2.2 i hi
  refine lv_aload_n F.1 F.2.1 dX3_draw_0 rfl (lv_at hl 0 rfl) ?_
  refine r_get F w 0 3 iX3 f30 rfl rfl rfl (by decide) rfl dX3_draw_1 ?_
  refine lv_iconst (v := nI 3) F.1 F.2.1 dX3_draw_4 (by decide) ?_
  refine r_iald F w 1 rfl (by omega) (by decide) dX3_draw_5 ?_
  refine lv_aload_n F.1 F.2.1 dX3_draw_6 rfl (lv_at hl 0 rfl) ?_
  refine r_get F w 0 7 iX3 f63 rfl rfl rfl (by decide) rfl dX3_draw_7 ?_
  refine r_min F hm1 hm2 hm3 hm4 (by decide) (Nat.le_of_ble_eq_true rfl) ⟨Nat.le_of_ble_eq_true rfl, Nat.le_of_ble_eq_true rfl⟩ (by omega) (by omega) hl dX3_draw_10 ?_
  refine r_top (fun dw e_dw => ?_)
  refine lv_istore_n (lv' := [(2, .int (nI dw)), (0, .ref ((pa 0) 0)), (1, .int (nI i))]) F.1 F.2.1 dX3_draw_13 rfl hl (by decide) rfl (fun ls hl => ?_)
  refine lv_aload_n F.1 F.2.1 dX3_draw_14 rfl (lv_at hl 1 rfl) ?_
  refine r_get F w 0 1 iX3 f19 rfl rfl rfl (by decide) rfl dX3_draw_15 ?_
  refine r_get F w 3 0 iX2 f155 rfl rfl rfl (by decide) rfl dX3_draw_18 ?_
  refine lv_iload_n F.1 F.2.1 dX3_draw_21 rfl (lv_at hl 2 rfl) ?_
  refine r_iald F w 4 rfl (by omega) (by decide) dX3_draw_22 ?_
  refine r_zne (tgt := 37) F dX3_draw_23 (by decide) (by omega) (fun c23 => ?_) (fun c23 => ?_)
  · skip
    have w := w.eq (ws' := plH G (pa 0) (pa 1) (pa 2) (pa 3) (fun k => (drO P i) k) (fun k => (drO P i) (19 + k)) ((drO P i) 9) ((drO P i) 10) ((drO P i) 11) ((drO P i) 12) ((drO P i) 13) tol wbt tk rs st ++ (linesW G (pa 2) (fun k => (drO P i) (26 + 5 * k)) (fun k => (drO P i) (26 + 5 * k + 1)) (fun k => (drO P i) (26 + 5 * k + 2)) (fun k => (drO P i) (26 + 5 * k + 3)) (fun k => (drO P i) (26 + 5 * k + 4)) ++ (vialsW G (pa 3) ((drO P i) 14) ((drO P i) 15) (fun k => (drO P i) (126 + 3 * k)) (fun k => (drO P i) (126 + 3 * k + 1)) (fun k => (drO P i) (126 + 3 * k + 2))))) (by rw [drO_same (by first | exact Or.inl c23 | exact Or.inr (by omega))]; exact eqW.rf _)
    exact r_return F w dX3_draw_37 (rfl)
  · skip
    refine lv_aload_n F.1 F.2.1 dX3_draw_26 rfl (lv_at hl 1 rfl) ?_
    refine r_get F w 0 7 iX3 f63 rfl rfl rfl (by decide) rfl dX3_draw_27 ?_
    refine r_zle (tgt := 37) F dX3_draw_30 (by decide) (by omega) (fun c30 => ?_) (fun c30 => ?_)
    · skip
      have w := w.eq (ws' := plH G (pa 0) (pa 1) (pa 2) (pa 3) (fun k => (drO P i) k) (fun k => (drO P i) (19 + k)) ((drO P i) 9) ((drO P i) 10) ((drO P i) 11) ((drO P i) 12) ((drO P i) 13) tol wbt tk rs st ++ (linesW G (pa 2) (fun k => (drO P i) (26 + 5 * k)) (fun k => (drO P i) (26 + 5 * k + 1)) (fun k => (drO P i) (26 + 5 * k + 2)) (fun k => (drO P i) (26 + 5 * k + 3)) (fun k => (drO P i) (26 + 5 * k + 4)) ++ (vialsW G (pa 3) ((drO P i) 14) ((drO P i) 15) (fun k => (drO P i) (126 + 3 * k)) (fun k => (drO P i) (126 + 3 * k + 1)) (fun k => (drO P i) (126 + 3 * k + 2))))) (by rw [drO_same (by first | exact Or.inl c23 | exact Or.inr (by omega))]; exact eqW.rf _)
      exact r_return F w dX3_draw_37 (rfl)
    · skip
      refine lv_iload_n F.1 F.2.1 dX3_draw_33 rfl (lv_at hl 0 rfl) ?_
      refine r_zgt (tgt := 38) F dX3_draw_34 (by decide) (by omega) (fun c34 => ?_) (fun c34 => ?_)
      · skip
        have hdw : dw ≤ P 11 := by omega
        have hm12 : P 12 * dw ≤ 276000 * 500 := Nat.mul_le_mul b12 (by omega)
        have hm13 : P 13 * dw ≤ 600000 * 500 := Nat.mul_le_mul b13 (by omega)
        refine lv_aload_n F.1 F.2.1 dX3_draw_38 rfl (lv_at hl 1 rfl) ?_
        refine r_get F w 0 8 iX3 f66 rfl rfl rfl (by decide) rfl dX3_draw_39 ?_
        refine lv_iload_n F.1 F.2.1 dX3_draw_42 rfl (lv_at hl 0 rfl) ?_
        refine r_imul F dX3_draw_43 ?_
        refine lv_aload_n F.1 F.2.1 dX3_draw_44 rfl (lv_at hl 1 rfl) ?_
        refine r_get F w 0 7 iX3 f63 rfl rfl rfl (by decide) rfl dX3_draw_45 ?_
        refine r_idiv F dX3_draw_48 (by omega) (by omega) (by omega) ?_
        refine r_top (fun gs e_gs => ?_)
        refine lv_istore_n (lv' := [(3, .int (nI gs)), (2, .int (nI dw)), (0, .ref ((pa 0) 0)), (1, .int (nI i))]) F.1 F.2.1 dX3_draw_49 rfl hl (by decide) rfl (fun ls hl => ?_)
        have hgs : gs ≤ P 12 := e_gs ▸ share_le hdw
        refine lv_aload_n F.1 F.2.1 dX3_draw_50 rfl (lv_at hl 2 rfl) ?_
        refine r_get F w 0 9 iX3 f69 rfl rfl rfl (by decide) rfl dX3_draw_51 ?_
        refine lv_iload_n F.1 F.2.1 dX3_draw_54 rfl (lv_at hl 1 rfl) ?_
        refine r_imul F dX3_draw_55 ?_
        refine lv_aload_n F.1 F.2.1 dX3_draw_56 rfl (lv_at hl 2 rfl) ?_
        refine r_get F w 0 7 iX3 f63 rfl rfl rfl (by decide) rfl dX3_draw_57 ?_
        refine r_idiv F dX3_draw_60 (by omega) (by omega) (by omega) ?_
        refine r_top (fun dt e_dt => ?_)
        refine lv_istore (lv' := [(4, .int (nI dt)), (3, .int (nI gs)), (2, .int (nI dw)), (0, .ref ((pa 0) 0)), (1, .int (nI i))]) F.1 F.2.1 dX3_draw_61 hl (by decide) rfl (fun ls hl => ?_)
        have hdt : dt ≤ P 13 := e_dt ▸ share_le hdw
        refine lv_aload_n F.1 F.2.1 dX3_draw_63 rfl (lv_at hl 3 rfl) ?_
        refine lv_dup F.1 F.2.1 dX3_draw_64 rfl ?_
        refine r_get F w 0 7 iX3 f63 rfl rfl rfl (by decide) rfl dX3_draw_65 ?_
        refine lv_iload_n F.1 F.2.1 dX3_draw_68 rfl (lv_at hl 2 rfl) ?_
        refine r_isub F dX3_draw_69 (by omega) ?_
        refine r_put (ws' := plH G (pa 0) (pa 1) (pa 2) (pa 3) (fun k => P k) (fun k => P (19 + k)) (P 9) (P 10) ((P 11) - dw) (P 12) (P 13) tol wbt tk rs st ++ (linesW G (pa 2) (fun k => P (26 + 5 * k)) (fun k => P (26 + 5 * k + 1)) (fun k => P (26 + 5 * k + 2)) (fun k => P (26 + 5 * k + 3)) (fun k => P (26 + 5 * k + 4)) ++ (vialsW G (pa 3) (P 14) (P 15) (fun k => P (126 + 3 * k)) (fun k => P (126 + 3 * k + 1)) (fun k => P (126 + 3 * k + 2))))) F w 0 7 iX3 okX3 f63 rfl rfl rfl (by decide) (by decide +kernel) (Nat.le_of_ble_eq_true rfl) dX3_draw_70 rfl (fun H locs w => ?_)
        refine lv_aload_n F.1 F.2.1 dX3_draw_73 rfl (lv_at hl 3 rfl) ?_
        refine lv_dup F.1 F.2.1 dX3_draw_74 rfl ?_
        refine r_get F w 0 8 iX3 f66 rfl rfl rfl (by decide) rfl dX3_draw_75 ?_
        refine lv_iload_n F.1 F.2.1 dX3_draw_78 rfl (lv_at hl 1 rfl) ?_
        refine r_isub F dX3_draw_79 (by omega) ?_
        refine r_put (ws' := plH G (pa 0) (pa 1) (pa 2) (pa 3) (fun k => P k) (fun k => P (19 + k)) (P 9) (P 10) ((P 11) - dw) ((P 12) - gs) (P 13) tol wbt tk rs st ++ (linesW G (pa 2) (fun k => P (26 + 5 * k)) (fun k => P (26 + 5 * k + 1)) (fun k => P (26 + 5 * k + 2)) (fun k => P (26 + 5 * k + 3)) (fun k => P (26 + 5 * k + 4)) ++ (vialsW G (pa 3) (P 14) (P 15) (fun k => P (126 + 3 * k)) (fun k => P (126 + 3 * k + 1)) (fun k => P (126 + 3 * k + 2))))) F w 0 8 iX3 okX3 f66 rfl rfl rfl (by decide) (by decide +kernel) (Nat.le_of_ble_eq_true rfl) dX3_draw_80 rfl (fun H locs w => ?_)
        refine lv_aload_n F.1 F.2.1 dX3_draw_83 rfl (lv_at hl 3 rfl) ?_
        refine lv_dup F.1 F.2.1 dX3_draw_84 rfl ?_
        refine r_get F w 0 9 iX3 f69 rfl rfl rfl (by decide) rfl dX3_draw_85 ?_
        refine lv_iload F.1 F.2.1 dX3_draw_88 (lv_at hl 0 rfl) ?_
        refine r_isub F dX3_draw_90 (by omega) ?_
        refine r_put (ws' := plH G (pa 0) (pa 1) (pa 2) (pa 3) (fun k => P k) (fun k => P (19 + k)) (P 9) (P 10) ((P 11) - dw) ((P 12) - gs) ((P 13) - dt) tol wbt tk rs st ++ (linesW G (pa 2) (fun k => P (26 + 5 * k)) (fun k => P (26 + 5 * k + 1)) (fun k => P (26 + 5 * k + 2)) (fun k => P (26 + 5 * k + 3)) (fun k => P (26 + 5 * k + 4)) ++ (vialsW G (pa 3) (P 14) (P 15) (fun k => P (126 + 3 * k)) (fun k => P (126 + 3 * k + 1)) (fun k => P (126 + 3 * k + 2))))) F w 0 9 iX3 okX3 f69 rfl rfl rfl (by decide) (by decide +kernel) (Nat.le_of_ble_eq_true rfl) dX3_draw_91 rfl (fun H locs w => ?_)
        refine lv_aload_n F.1 F.2.1 dX3_draw_94 rfl (lv_at hl 3 rfl) ?_
        refine r_get F w 0 4 iX3 f34 rfl rfl rfl (by decide) rfl dX3_draw_95 ?_
        refine lv_iconst (v := nI 4) F.1 F.2.1 dX3_draw_98 (by decide) ?_
        refine lv_dup2_11 F.1 F.2.1 dX3_draw_99 rfl rfl ?_
        refine r_iald F w 2 rfl (by omega) (by decide) dX3_draw_100 ?_
        refine lv_iload_n F.1 F.2.1 dX3_draw_101 rfl (lv_at hl 1 rfl) ?_
        refine r_iadd F dX3_draw_102 ?_
        refine r_iast (ws' := plH G (pa 0) (pa 1) (pa 2) (pa 3) (fun k => P k) (up (fun k => P (19 + k)) 4 ((P (19 + 4)) + gs)) (P 9) (P 10) ((P 11) - dw) ((P 12) - gs) ((P 13) - dt) tol wbt tk rs st ++ (linesW G (pa 2) (fun k => P (26 + 5 * k)) (fun k => P (26 + 5 * k + 1)) (fun k => P (26 + 5 * k + 2)) (fun k => P (26 + 5 * k + 3)) (fun k => P (26 + 5 * k + 4)) ++ (vialsW G (pa 3) (P 14) (P 15) (fun k => P (126 + 3 * k)) (fun k => P (126 + 3 * k + 1)) (fun k => P (126 + 3 * k + 2))))) F w 2 rfl (by omega) (by decide) dX3_draw_103 rfl (fun H locs w => ?_)
        refine lv_aload_n F.1 F.2.1 dX3_draw_104 rfl (lv_at hl 3 rfl) ?_
        refine r_get F w 0 4 iX3 f34 rfl rfl rfl (by decide) rfl dX3_draw_105 ?_
        refine lv_bipush (v := nI 6) F.1 F.2.1 dX3_draw_108 (by decide) ?_
        refine lv_dup2_11 F.1 F.2.1 dX3_draw_110 rfl rfl ?_
        refine r_iald F w 2 rfl (by omega) (by decide) dX3_draw_111 ?_
        refine r_to (y := nI (P (19 + 6))) (congrArg nI (up_n _ _ (by decide))) ?_
        refine lv_iload F.1 F.2.1 dX3_draw_112 (lv_at hl 0 rfl) ?_
        refine r_iadd F dX3_draw_114 ?_
        refine r_iast (ws' := plH G (pa 0) (pa 1) (pa 2) (pa 3) (fun k => P k) (up (up (fun k => P (19 + k)) 4 ((P (19 + 4)) + gs)) 6 ((P (19 + 6)) + dt)) (P 9) (P 10) ((P 11) - dw) ((P 12) - gs) ((P 13) - dt) tol wbt tk rs st ++ (linesW G (pa 2) (fun k => P (26 + 5 * k)) (fun k => P (26 + 5 * k + 1)) (fun k => P (26 + 5 * k + 2)) (fun k => P (26 + 5 * k + 3)) (fun k => P (26 + 5 * k + 4)) ++ (vialsW G (pa 3) (P 14) (P 15) (fun k => P (126 + 3 * k)) (fun k => P (126 + 3 * k + 1)) (fun k => P (126 + 3 * k + 2))))) F w 2 rfl (by omega) (by decide) dX3_draw_115 rfl (fun H locs w => ?_)
        refine lv_aload_n F.1 F.2.1 dX3_draw_116 rfl (lv_at hl 3 rfl) ?_
        refine r_get F w 0 1 iX3 f19 rfl rfl rfl (by decide) rfl dX3_draw_117 ?_
        refine r_get F w 3 3 iX2 f158 rfl rfl rfl (by decide) rfl dX3_draw_120 ?_
        refine lv_iload_n F.1 F.2.1 dX3_draw_123 rfl (lv_at hl 4 rfl) ?_
        refine lv_dup2_11 F.1 F.2.1 dX3_draw_124 rfl rfl ?_
        refine r_iald F w 7 rfl (by omega) (by decide) dX3_draw_125 ?_
        refine lv_iload_n F.1 F.2.1 dX3_draw_126 rfl (lv_at hl 2 rfl) ?_
        refine r_iadd F dX3_draw_127 ?_
        refine r_iast (ws' := plH G (pa 0) (pa 1) (pa 2) (pa 3) (fun k => P k) (up (up (fun k => P (19 + k)) 4 ((P (19 + 4)) + gs)) 6 ((P (19 + 6)) + dt)) (P 9) (P 10) ((P 11) - dw) ((P 12) - gs) ((P 13) - dt) tol wbt tk rs st ++ (linesW G (pa 2) (fun k => P (26 + 5 * k)) (fun k => P (26 + 5 * k + 1)) (fun k => P (26 + 5 * k + 2)) (up (fun k => P (26 + 5 * k + 3)) i ((P (26 + 5 * i + 3)) + dw)) (fun k => P (26 + 5 * k + 4)) ++ (vialsW G (pa 3) (P 14) (P 15) (fun k => P (126 + 3 * k)) (fun k => P (126 + 3 * k + 1)) (fun k => P (126 + 3 * k + 2))))) F w 7 rfl (by omega) (by decide) dX3_draw_128 rfl (fun H locs w => ?_)
        refine lv_bipush (v := nI 100) F.1 F.2.1 dX3_draw_129 (by decide) ?_
        refine lv_iload_n F.1 F.2.1 dX3_draw_131 rfl (lv_at hl 1 rfl) ?_
        refine r_imul F dX3_draw_132 ?_
        refine lv_iload_n F.1 F.2.1 dX3_draw_133 rfl (lv_at hl 2 rfl) ?_
        refine r_idiv F dX3_draw_134 (by omega) (by omega) (by omega) ?_
        refine lv_aload_n F.1 F.2.1 dX3_draw_135 rfl (lv_at hl 3 rfl) ?_
        refine r_get F w 0 3 iX3 f30 rfl rfl rfl (by decide) rfl dX3_draw_136 ?_
        refine lv_iconst (v := nI 5) F.1 F.2.1 dX3_draw_139 (by decide) ?_
        refine r_iald F w 1 rfl (by omega) (by decide) dX3_draw_140 ?_
        have L149 :  ∀ (H : Heap) (locs : List Loc), Wd G s (va_A (plH G (pa 0) (pa 1) (pa 2) (pa 3) (fun k => P k) (fun k => P (19 + k)) (P 9) (P 10) (P 11) (P 12) (P 13) tol wbt tk rs st ++ (linesW G (pa 2) (fun k => P (26 + 5 * k)) (fun k => P (26 + 5 * k + 1)) (fun k => P (26 + 5 * k + 2)) (fun k => P (26 + 5 * k + 3)) (fun k => P (26 + 5 * k + 4)) ++ (vialsW G (pa 3) (P 14) (P 15) (fun k => P (126 + 3 * k)) (fun k => P (126 + 3 * k + 1)) (fun k => P (126 + 3 * k + 2))))) s.heap.size) (plH G (pa 0) (pa 1) (pa 2) (pa 3) (fun k => P k) (up (up (fun k => P (19 + k)) 4 ((P (19 + 4)) + gs)) 6 ((P (19 + 6)) + dt)) (P 9) (P 10) ((P 11) - dw) ((P 12) - gs) ((P 13) - dt) tol wbt tk rs st ++ (linesW G (pa 2) (fun k => P (26 + 5 * k)) (fun k => P (26 + 5 * k + 1)) (fun k => P (26 + 5 * k + 2)) (up (fun k => P (26 + 5 * k + 3)) i ((P (26 + 5 * i + 3)) + dw)) (fun k => P (26 + 5 * k + 4)) ++ (vialsW G (pa 3) (P 14) (P 15) (fun k => P (126 + 3 * k)) (fun k => P (126 + 3 * k + 1)) (fun k => P (126 + 3 * k + 2))))) H locs → ∀ ls : Array Slot, lv_has ls 6 [(4, .int (nI dt)), (3, .int (nI gs)), (2, .int (nI dw)), (0, .ref ((pa 0) 0)), (1, .int (nI i))] → W p l e (rmK 1 0 0) s m args below meth c H locs 0 0 (MQ below (QV G (plH G (pa 0) (pa 1) (pa 2) (pa 3) (fun k => P k) (fun k => P (19 + k)) (P 9) (P 10) (P 11) (P 12) (P 13) tol wbt tk rs st ++ (linesW G (pa 2) (fun k => P (26 + 5 * k)) (fun k => P (26 + 5 * k + 1)) (fun k => P (26 + 5 * k + 2)) (fun k => P (26 + 5 * k + 3)) (fun k => P (26 + 5 * k + 4)) ++ (vialsW G (pa 3) (P 14) (P 15) (fun k => P (126 + 3 * k)) (fun k => P (126 + 3 * k + 1)) (fun k => P (126 + 3 * k + 2))))) s.heap.size (fun v => v = plH G (pa 0) (pa 1) (pa 2) (pa 3) (fun k => (drO P i) k) (fun k => (drO P i) (19 + k)) ((drO P i) 9) ((drO P i) 10) ((drO P i) 11) ((drO P i) 12) ((drO P i) 13) tol wbt tk rs st ++ (linesW G (pa 2) (fun k => (drO P i) (26 + 5 * k)) (fun k => (drO P i) (26 + 5 * k + 1)) (fun k => (drO P i) (26 + 5 * k + 2)) (fun k => (drO P i) (26 + 5 * k + 3)) (fun k => (drO P i) (26 + 5 * k + 4)) ++ (vialsW G (pa 3) ((drO P i) 14) ((drO P i) 15) (fun k => (drO P i) (126 + 3 * k)) (fun k => (drO P i) (126 + 3 * k + 1)) (fun k => (drO P i) (126 + 3 * k + 2)))))) args s 0 0 (va_A (plH G (pa 0) (pa 1) (pa 2) (pa 3) (fun k => P k) (fun k => P (19 + k)) (P 9) (P 10) (P 11) (P 12) (P 13) tol wbt tk rs st ++ (linesW G (pa 2) (fun k => P (26 + 5 * k)) (fun k => P (26 + 5 * k + 1)) (fun k => P (26 + 5 * k + 2)) (fun k => P (26 + 5 * k + 3)) (fun k => P (26 + 5 * k + 4)) ++ (vialsW G (pa 3) (P 14) (P 15) (fun k => P (126 + 3 * k)) (fun k => P (126 + 3 * k + 1)) (fun k => P (126 + 3 * k + 2))))) s.heap.size)) (F0 m 149 ls [.int (yn (bubQ P dw gs))]) := by
          intro  H locs w ls hl
          refine lv_istore (lv' := [(5, .int (yn (bubQ P dw gs))), (4, .int (nI dt)), (3, .int (nI gs)), (2, .int (nI dw)), (0, .ref ((pa 0) 0)), (1, .int (nI i))]) F.1 F.2.1 dX3_draw_149 hl (by decide) rfl (fun ls hl => ?_)
          refine lv_aload_n F.1 F.2.1 dX3_draw_151 rfl (lv_at hl 4 rfl) ?_
          refine r_get F w 0 1 iX3 f19 rfl rfl rfl (by decide) rfl dX3_draw_152 ?_
          refine lv_iload_n F.1 F.2.1 dX3_draw_155 rfl (lv_at hl 5 rfl) ?_
          refine lv_iload F.1 F.2.1 dX3_draw_156 (lv_at hl 0 rfl) ?_
          refine lv_aload_n F.1 F.2.1 dX3_draw_158 rfl (lv_at hl 4 rfl) ?_
          refine r_get F w 0 3 iX3 f30 rfl rfl rfl (by decide) rfl dX3_draw_159 ?_
          refine lv_bipush (v := nI 7) F.1 F.2.1 dX3_draw_162 (by decide) ?_
          refine r_iald F w 1 rfl (by omega) (by decide) dX3_draw_164 ?_
          refine r_callVI (rest := []) F w (c_X2_breaks l G (pa 2) (fun k => P (26 + 5 * k)) (fun k => P (26 + 5 * k + 1)) (fun k => P (26 + 5 * k + 2)) (up (fun k => P (26 + 5 * k + 3)) i ((P (26 + 5 * i + 3)) + dw)) (fun k => P (26 + 5 * k + 4)) i (P 7) (bubQ P dw gs) hi (by omega) (by omega)) gX3_draw_X2_breaks [3, 4, 5, 6, 7, 8] [0, 1, 2, 9, 10, 11, 12] (nA0 := 3) rfl (by decide +kernel) rfl ⟨Nat.le_of_ble_eq_true rfl, Nat.le_of_ble_eq_true rfl⟩ ⟨Nat.le_of_ble_eq_true rfl, Nat.le_of_ble_eq_true rfl⟩ rfl rfl rfl rfl rfl rfl rfl hl rfl (Nat.le_of_ble_eq_true rfl) dX3_draw_165 (fun r_165 w1 H locs hp w => ?_)
          obtain ⟨rfl, rfl⟩ := hp
          have w := w.sub (ws' := plH G (pa 0) (pa 1) (pa 2) (pa 3) (fun k => P k) (up (up (fun k => P (19 + k)) 4 ((P (19 + 4)) + gs)) 6 ((P (19 + 6)) + dt)) (P 9) (P 10) ((P 11) - dw) ((P 12) - gs) ((P 13) - dt) tol wbt tk rs st ++ (linesW G (pa 2) (fun k => P (26 + 5 * k)) (fun k => P (26 + 5 * k + 1)) (up (fun k => P (26 + 5 * k + 2)) i (gapB (P (26 + 5 * i + 2)) i (P 7) (bubQ P dw gs))) (up (fun k => P (26 + 5 * k + 3)) i ((P (26 + 5 * i + 3)) + dw)) (fun k => P (26 + 5 * k + 4)) ++ (vialsW G (pa 3) (P 14) (P 15) (fun k => P (126 + 3 * k)) (fun k => P (126 + 3 * k + 1)) (fun k => P (126 + 3 * k + 2))))) [0, 1, 2, 7, 8, 9, 10, 11, 12, 3, 4, 5, 6] (by decide) rfl
          refine r_yeq (tgt := 197) F dX3_draw_168 (by decide) (fun c168 => ?_) (fun c168 => ?_)
          · skip
            refine lv_aload_n F.1 F.2.1 dX3_draw_197 rfl (lv_at hl 4 rfl) ?_
            refine r_get F w 0 2 iX3 f26 rfl rfl rfl (by decide) rfl dX3_draw_198 ?_
            refine lv_dup F.1 F.2.1 dX3_draw_201 rfl ?_
            refine r_get F w 9 1 iX6 f168 rfl rfl rfl (by decide) rfl dX3_draw_202 ?_
            refine lv_iload_n F.1 F.2.1 dX3_draw_205 rfl (lv_at hl 3 rfl) ?_
            refine r_iadd F dX3_draw_206 ?_
            refine r_put (ws' := plH G (pa 0) (pa 1) (pa 2) (pa 3) (fun k => P k) (up (up (fun k => P (19 + k)) 4 ((P (19 + 4)) + gs)) 6 ((P (19 + 6)) + dt)) (P 9) (P 10) ((P 11) - dw) ((P 12) - gs) ((P 13) - dt) tol wbt tk rs st ++ (linesW G (pa 2) (fun k => P (26 + 5 * k)) (fun k => P (26 + 5 * k + 1)) (up (fun k => P (26 + 5 * k + 2)) i (gapB (P (26 + 5 * i + 2)) i (P 7) (bubQ P dw gs))) (up (fun k => P (26 + 5 * k + 3)) i ((P (26 + 5 * i + 3)) + dw)) (fun k => P (26 + 5 * k + 4)) ++ (vialsW G (pa 3) (P 14) ((P 15) + dw) (fun k => P (126 + 3 * k)) (fun k => P (126 + 3 * k + 1)) (fun k => P (126 + 3 * k + 2))))) F w 9 1 iX6 okX6 f168 rfl rfl rfl (by decide) (by decide +kernel) (Nat.le_of_ble_eq_true rfl) dX3_draw_207 rfl (fun H locs w => ?_)
            refine lv_aload_n F.1 F.2.1 dX3_draw_210 rfl (lv_at hl 4 rfl) ?_
            refine r_get F w 0 4 iX3 f34 rfl rfl rfl (by decide) rfl dX3_draw_211 ?_
            refine lv_iconst (v := nI 1) F.1 F.2.1 dX3_draw_214 (by decide) ?_
            refine lv_dup2_11 F.1 F.2.1 dX3_draw_215 rfl rfl ?_
            refine r_iald F w 2 rfl (by omega) (by decide) dX3_draw_216 ?_
            refine r_to (y := nI (P (19 + 1))) (congrArg nI ((up_n _ _ (by decide)).trans (up_n _ _ (by decide)))) ?_
            refine lv_iload_n F.1 F.2.1 dX3_draw_217 rfl (lv_at hl 3 rfl) ?_
            refine r_iadd F dX3_draw_218 ?_
            refine r_iast (ws' := plH G (pa 0) (pa 1) (pa 2) (pa 3) (fun k => P k) (up (up (up (fun k => P (19 + k)) 4 ((P (19 + 4)) + gs)) 6 ((P (19 + 6)) + dt)) 1 ((P (19 + 1)) + dw)) (P 9) (P 10) ((P 11) - dw) ((P 12) - gs) ((P 13) - dt) tol wbt tk rs st ++ (linesW G (pa 2) (fun k => P (26 + 5 * k)) (fun k => P (26 + 5 * k + 1)) (up (fun k => P (26 + 5 * k + 2)) i (gapB (P (26 + 5 * i + 2)) i (P 7) (bubQ P dw gs))) (up (fun k => P (26 + 5 * k + 3)) i ((P (26 + 5 * i + 3)) + dw)) (fun k => P (26 + 5 * k + 4)) ++ (vialsW G (pa 3) (P 14) ((P 15) + dw) (fun k => P (126 + 3 * k)) (fun k => P (126 + 3 * k + 1)) (fun k => P (126 + 3 * k + 2))))) F w 2 rfl (by omega) (by decide) dX3_draw_219 rfl (fun H locs w => ?_)
            refine lv_aload_n F.1 F.2.1 dX3_draw_220 rfl (lv_at hl 4 rfl) ?_
            refine r_get F w 0 1 iX3 f19 rfl rfl rfl (by decide) rfl dX3_draw_221 ?_
            refine lv_iload_n F.1 F.2.1 dX3_draw_224 rfl (lv_at hl 5 rfl) ?_
            refine lv_iload F.1 F.2.1 dX3_draw_225 (lv_at hl 1 rfl) ?_
            refine lv_aload_n F.1 F.2.1 dX3_draw_227 rfl (lv_at hl 4 rfl) ?_
            refine r_get F w 0 3 iX3 f30 rfl rfl rfl (by decide) rfl dX3_draw_228 ?_
            refine lv_iconst (v := nI 4) F.1 F.2.1 dX3_draw_231 (by decide) ?_
            refine r_iald F w 1 rfl (by omega) (by decide) dX3_draw_232 ?_
            refine r_callVV (rest := []) F w (c_X2_soil l G (pa 2) (fun k => P (26 + 5 * k)) (fun k => P (26 + 5 * k + 1)) (up (fun k => P (26 + 5 * k + 2)) i (gapB (P (26 + 5 * i + 2)) i (P 7) (bubQ P dw gs))) (up (fun k => P (26 + 5 * k + 3)) i ((P (26 + 5 * i + 3)) + dw)) (fun k => P (26 + 5 * k + 4)) i dt (P 4) hi c23 (by omega) (by omega)) gX3_draw_X2_soil [3, 4, 5, 6, 7, 8] [0, 1, 2, 9, 10, 11, 12] (nA0 := 3) rfl (by decide +kernel) rfl ⟨Nat.le_of_ble_eq_true rfl, Nat.le_of_ble_eq_true rfl⟩ ⟨Nat.le_of_ble_eq_true rfl, Nat.le_of_ble_eq_true rfl⟩ rfl rfl rfl rfl rfl rfl rfl hl rfl (Nat.le_of_ble_eq_true rfl) dX3_draw_233 (fun w1 H locs hp w => ?_)
            obtain rfl := hp
            have w := w.sub (ws' := plH G (pa 0) (pa 1) (pa 2) (pa 3) (fun k => P k) (up (up (up (fun k => P (19 + k)) 4 ((P (19 + 4)) + gs)) 6 ((P (19 + 6)) + dt)) 1 ((P (19 + 1)) + dw)) (P 9) (P 10) ((P 11) - dw) ((P 12) - gs) ((P 13) - dt) tol wbt tk rs st ++ (linesW G (pa 2) (up (fun k => P (26 + 5 * k)) i (if (P 4) ≤ P (26 + 5 * i + 1) + dt then 1 else 0)) (up (fun k => P (26 + 5 * k + 1)) i (P (26 + 5 * i + 1) + dt)) (up (fun k => P (26 + 5 * k + 2)) i (gapB (P (26 + 5 * i + 2)) i (P 7) (bubQ P dw gs))) (up (fun k => P (26 + 5 * k + 3)) i ((P (26 + 5 * i + 3)) + dw)) (fun k => P (26 + 5 * k + 4)) ++ (vialsW G (pa 3) (P 14) ((P 15) + dw) (fun k => P (126 + 3 * k)) (fun k => P (126 + 3 * k + 1)) (fun k => P (126 + 3 * k + 2))))) [0, 1, 2, 7, 8, 9, 10, 11, 12, 3, 4, 5, 6] (by decide) rfl
            have hF := drO_at c23 c34 e_dw e_gs e_dt
            have hG := drawG_ag P dw gs dt hi
            have w := w.eq (ws' := plH G (pa 0) (pa 1) (pa 2) (pa 3) (fun k => (drO P i) k) (fun k => (drO P i) (19 + k)) ((drO P i) 9) ((drO P i) 10) ((drO P i) 11) ((drO P i) 12) ((drO P i) 13) tol wbt tk rs st ++ (linesW G (pa 2) (fun k => (drO P i) (26 + 5 * k)) (fun k => (drO P i) (26 + 5 * k + 1)) (fun k => (drO P i) (26 + 5 * k + 2)) (fun k => (drO P i) (26 + 5 * k + 3)) (fun k => (drO P i) (26 + 5 * k + 4)) ++ (vialsW G (pa 3) ((drO P i) 14) ((drO P i) 15) (fun k => (drO P i) (126 + 3 * k)) (fun k => (drO P i) (126 + 3 * k + 1)) (fun k => (drO P i) (126 + 3 * k + 2))))) (by rw [hF]; exact eqW.app (plH_eq (hG 9 (by omega)).symm (hG 10 (by omega)).symm (drawG_11 P dw gs dt hi).symm (drawG_12 P dw gs dt hi).symm (drawG_13 P dw gs dt hi).symm rfl rfl rfl rfl rfl (fun k hk => (hG k (by omega)).symm) (dl_an hi c168)) (eqW.app (linesW_eq (dl_st hi) (dl_di hi) (dl_ga hi) (dl_dr hi) (dl_wn hi c168)) (vialsW_eq (hG 14 (by omega)).symm (by rw [drawG_15 P dw gs dt hi, if_neg c168]) (fun k hk => (hG (126 + 3 * k) (by omega)).symm) (fun k hk => (hG (126 + 3 * k + 1) (by omega)).symm) (fun k hk => (hG (126 + 3 * k + 2) (by omega)).symm))))
            exact r_return F w dX3_draw_236 (rfl)
          · skip
            refine lv_aload_n F.1 F.2.1 dX3_draw_171 rfl (lv_at hl 4 rfl) ?_
            refine r_get F w 0 1 iX3 f19 rfl rfl rfl (by decide) rfl dX3_draw_172 ?_
            refine r_get F w 3 4 iX2 f165 rfl rfl rfl (by decide) rfl dX3_draw_175 ?_
            refine lv_iload_n F.1 F.2.1 dX3_draw_178 rfl (lv_at hl 5 rfl) ?_
            refine lv_dup2_11 F.1 F.2.1 dX3_draw_179 rfl rfl ?_
            refine r_iald F w 8 rfl (by omega) (by decide) dX3_draw_180 ?_
            refine lv_iload_n F.1 F.2.1 dX3_draw_181 rfl (lv_at hl 3 rfl) ?_
            refine r_iadd F dX3_draw_182 ?_
            refine r_iast (ws' := plH G (pa 0) (pa 1) (pa 2) (pa 3) (fun k => P k) (up (up (fun k => P (19 + k)) 4 ((P (19 + 4)) + gs)) 6 ((P (19 + 6)) + dt)) (P 9) (P 10) ((P 11) - dw) ((P 12) - gs) ((P 13) - dt) tol wbt tk rs st ++ (linesW G (pa 2) (fun k => P (26 + 5 * k)) (fun k => P (26 + 5 * k + 1)) (up (fun k => P (26 + 5 * k + 2)) i (gapB (P (26 + 5 * i + 2)) i (P 7) (bubQ P dw gs))) (up (fun k => P (26 + 5 * k + 3)) i ((P (26 + 5 * i + 3)) + dw)) (up (fun k => P (26 + 5 * k + 4)) i ((P (26 + 5 * i + 4)) + dw)) ++ (vialsW G (pa 3) (P 14) (P 15) (fun k => P (126 + 3 * k)) (fun k => P (126 + 3 * k + 1)) (fun k => P (126 + 3 * k + 2))))) F w 8 rfl (by omega) (by decide) dX3_draw_183 rfl (fun H locs w => ?_)
            refine lv_aload_n F.1 F.2.1 dX3_draw_184 rfl (lv_at hl 4 rfl) ?_
            refine r_get F w 0 4 iX3 f34 rfl rfl rfl (by decide) rfl dX3_draw_185 ?_
            refine lv_iconst (v := nI 2) F.1 F.2.1 dX3_draw_188 (by decide) ?_
            refine lv_dup2_11 F.1 F.2.1 dX3_draw_189 rfl rfl ?_
            refine r_iald F w 2 rfl (by omega) (by decide) dX3_draw_190 ?_
            refine r_to (y := nI (P (19 + 2))) (congrArg nI ((up_n _ _ (by decide)).trans (up_n _ _ (by decide)))) ?_
            refine lv_iload_n F.1 F.2.1 dX3_draw_191 rfl (lv_at hl 3 rfl) ?_
            refine r_iadd F dX3_draw_192 ?_
            refine r_iast (ws' := plH G (pa 0) (pa 1) (pa 2) (pa 3) (fun k => P k) (up (up (up (fun k => P (19 + k)) 4 ((P (19 + 4)) + gs)) 6 ((P (19 + 6)) + dt)) 2 ((P (19 + 2)) + dw)) (P 9) (P 10) ((P 11) - dw) ((P 12) - gs) ((P 13) - dt) tol wbt tk rs st ++ (linesW G (pa 2) (fun k => P (26 + 5 * k)) (fun k => P (26 + 5 * k + 1)) (up (fun k => P (26 + 5 * k + 2)) i (gapB (P (26 + 5 * i + 2)) i (P 7) (bubQ P dw gs))) (up (fun k => P (26 + 5 * k + 3)) i ((P (26 + 5 * i + 3)) + dw)) (up (fun k => P (26 + 5 * k + 4)) i ((P (26 + 5 * i + 4)) + dw)) ++ (vialsW G (pa 3) (P 14) (P 15) (fun k => P (126 + 3 * k)) (fun k => P (126 + 3 * k + 1)) (fun k => P (126 + 3 * k + 2))))) F w 2 rfl (by omega) (by decide) dX3_draw_193 rfl (fun H locs w => ?_)
            refine lv_goto (tgt := 220) F.1 F.2.1 dX3_draw_194 (by decide) ?_
            refine lv_aload_n F.1 F.2.1 dX3_draw_220 rfl (lv_at hl 4 rfl) ?_
            refine r_get F w 0 1 iX3 f19 rfl rfl rfl (by decide) rfl dX3_draw_221 ?_
            refine lv_iload_n F.1 F.2.1 dX3_draw_224 rfl (lv_at hl 5 rfl) ?_
            refine lv_iload F.1 F.2.1 dX3_draw_225 (lv_at hl 1 rfl) ?_
            refine lv_aload_n F.1 F.2.1 dX3_draw_227 rfl (lv_at hl 4 rfl) ?_
            refine r_get F w 0 3 iX3 f30 rfl rfl rfl (by decide) rfl dX3_draw_228 ?_
            refine lv_iconst (v := nI 4) F.1 F.2.1 dX3_draw_231 (by decide) ?_
            refine r_iald F w 1 rfl (by omega) (by decide) dX3_draw_232 ?_
            refine r_callVV (rest := []) F w (c_X2_soil l G (pa 2) (fun k => P (26 + 5 * k)) (fun k => P (26 + 5 * k + 1)) (up (fun k => P (26 + 5 * k + 2)) i (gapB (P (26 + 5 * i + 2)) i (P 7) (bubQ P dw gs))) (up (fun k => P (26 + 5 * k + 3)) i ((P (26 + 5 * i + 3)) + dw)) (up (fun k => P (26 + 5 * k + 4)) i ((P (26 + 5 * i + 4)) + dw)) i dt (P 4) hi c23 (by omega) (by omega)) gX3_draw_X2_soil [3, 4, 5, 6, 7, 8] [0, 1, 2, 9, 10, 11, 12] (nA0 := 3) rfl (by decide +kernel) rfl ⟨Nat.le_of_ble_eq_true rfl, Nat.le_of_ble_eq_true rfl⟩ ⟨Nat.le_of_ble_eq_true rfl, Nat.le_of_ble_eq_true rfl⟩ rfl rfl rfl rfl rfl rfl rfl hl rfl (Nat.le_of_ble_eq_true rfl) dX3_draw_233 (fun w1 H locs hp w => ?_)
            obtain rfl := hp
            have w := w.sub (ws' := plH G (pa 0) (pa 1) (pa 2) (pa 3) (fun k => P k) (up (up (up (fun k => P (19 + k)) 4 ((P (19 + 4)) + gs)) 6 ((P (19 + 6)) + dt)) 2 ((P (19 + 2)) + dw)) (P 9) (P 10) ((P 11) - dw) ((P 12) - gs) ((P 13) - dt) tol wbt tk rs st ++ (linesW G (pa 2) (up (fun k => P (26 + 5 * k)) i (if (P 4) ≤ P (26 + 5 * i + 1) + dt then 1 else 0)) (up (fun k => P (26 + 5 * k + 1)) i (P (26 + 5 * i + 1) + dt)) (up (fun k => P (26 + 5 * k + 2)) i (gapB (P (26 + 5 * i + 2)) i (P 7) (bubQ P dw gs))) (up (fun k => P (26 + 5 * k + 3)) i ((P (26 + 5 * i + 3)) + dw)) (up (fun k => P (26 + 5 * k + 4)) i ((P (26 + 5 * i + 4)) + dw)) ++ (vialsW G (pa 3) (P 14) (P 15) (fun k => P (126 + 3 * k)) (fun k => P (126 + 3 * k + 1)) (fun k => P (126 + 3 * k + 2))))) [0, 1, 2, 7, 8, 9, 10, 11, 12, 3, 4, 5, 6] (by decide) rfl
            have hF := drO_at c23 c34 e_dw e_gs e_dt
            have hG := drawG_ag P dw gs dt hi
            have w := w.eq (ws' := plH G (pa 0) (pa 1) (pa 2) (pa 3) (fun k => (drO P i) k) (fun k => (drO P i) (19 + k)) ((drO P i) 9) ((drO P i) 10) ((drO P i) 11) ((drO P i) 12) ((drO P i) 13) tol wbt tk rs st ++ (linesW G (pa 2) (fun k => (drO P i) (26 + 5 * k)) (fun k => (drO P i) (26 + 5 * k + 1)) (fun k => (drO P i) (26 + 5 * k + 2)) (fun k => (drO P i) (26 + 5 * k + 3)) (fun k => (drO P i) (26 + 5 * k + 4)) ++ (vialsW G (pa 3) ((drO P i) 14) ((drO P i) 15) (fun k => (drO P i) (126 + 3 * k)) (fun k => (drO P i) (126 + 3 * k + 1)) (fun k => (drO P i) (126 + 3 * k + 2))))) (by rw [hF]; exact eqW.app (plH_eq (hG 9 (by omega)).symm (hG 10 (by omega)).symm (drawG_11 P dw gs dt hi).symm (drawG_12 P dw gs dt hi).symm (drawG_13 P dw gs dt hi).symm rfl rfl rfl rfl rfl (fun k hk => (hG k (by omega)).symm) (dl_ac hi c168)) (eqW.app (linesW_eq (dl_st hi) (dl_di hi) (dl_ga hi) (dl_dr hi) (dl_wa hi c168)) (vialsW_eq (hG 14 (by omega)).symm (by rw [drawG_15 P dw gs dt hi, if_pos c168]; rfl) (fun k hk => (hG (126 + 3 * k) (by omega)).symm) (fun k hk => (hG (126 + 3 * k + 1) (by omega)).symm) (fun k hk => (hG (126 + 3 * k + 2) (by omega)).symm))))
            exact r_return F w dX3_draw_236 (rfl)
        refine r_cle (tgt := 148) F dX3_draw_141 (by decide) (by have := Nat.div_le_self (100 * gs) dw; omega) (by omega) (fun c141 => ?_) (fun c141 => ?_)
        · skip
          refine lv_iconst (v := nI 0) F.1 F.2.1 dX3_draw_148 (by decide) ?_
          refine r_to (y := (yn (bubQ P dw gs))) (by first | exact yn_t c141 | exact yn_f c141) ?_
          exact L149  _ _ w ls (lv_sub hl [0, 1, 2, 3, 4] rfl)
        · skip
          refine lv_iconst (v := nI 1) F.1 F.2.1 dX3_draw_144 (by decide) ?_
          refine lv_goto (tgt := 149) F.1 F.2.1 dX3_draw_145 (by decide) ?_
          refine r_to (y := (yn (bubQ P dw gs))) (by first | exact yn_t c141 | exact yn_f c141) ?_
          exact L149  _ _ w ls (lv_sub hl [0, 1, 2, 3, 4] rfl)
      · skip
        have w := w.eq (ws' := plH G (pa 0) (pa 1) (pa 2) (pa 3) (fun k => (drO P i) k) (fun k => (drO P i) (19 + k)) ((drO P i) 9) ((drO P i) 10) ((drO P i) 11) ((drO P i) 12) ((drO P i) 13) tol wbt tk rs st ++ (linesW G (pa 2) (fun k => (drO P i) (26 + 5 * k)) (fun k => (drO P i) (26 + 5 * k + 1)) (fun k => (drO P i) (26 + 5 * k + 2)) (fun k => (drO P i) (26 + 5 * k + 3)) (fun k => (drO P i) (26 + 5 * k + 4)) ++ (vialsW G (pa 3) ((drO P i) 14) ((drO P i) 15) (fun k => (drO P i) (126 + 3 * k)) (fun k => (drO P i) (126 + 3 * k + 1)) (fun k => (drO P i) (126 + 3 * k + 2))))) (by rw [drO_same (by first | exact Or.inl c23 | exact Or.inr (by omega))]; exact eqW.rf _)
        exact r_return F w dX3_draw_37 (rfl)

