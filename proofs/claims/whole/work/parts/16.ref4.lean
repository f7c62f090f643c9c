set_option maxRecDepth 100000 in
set_option maxHeartbeats 4000000 in
theorem c_X8_told (l : Launch) (G : KG) (a P Sp Hs T N : Nat → Nat) (sc tl tp fa fr fn : Nat) (hS : SegOk P) (h9 : P 9 ≤ 6000) (hw : P 20 + P 21 ≤ 1000000) : MetI l yX8_told wsX8_told 1 G (mW G a P Sp Hs sc T tl tp fa fr fn N) [.ref (a 0)] (fun r v => r = nI (toldF P) ∧ v = mW G a P Sp Hs sc T tl tp fa fr fn N) := by
  refine MetI.by (cc := cX8_told) (nL := 6) (ret := some .int) (by decide +kernel) rfl (Nat.le_of_ble_eq_true rfl) ?_
  intro p e s m args below meth c F w ls hl
  have hl : lv_has ls 6 [(0, .ref (a 0))] := hl
  have hts := F.ts
  have iX8 : ∀ w ∈ wsX80, w ∈ wsX8_told := by decide +kernel
  have f7 := hts (.fieldLink RX8 7 "CoreMelterModel" "m" "[I") (by decide +kernel)
  have h8 := hS.1
  have hbl : ∀ j, j ≤ P 8 → low (lnP P) j ≤ 6000 := fun j hj => Nat.le_trans (low_mono _ hj) hS.top_le
  refine lv_aload_n F.1 F.2.1 dX8_told_0 rfl (lv_at hl 0 rfl) ?_
  refine r_get F w 0 0 iX8 f7 rfl rfl rfl (by decide) rfl dX8_told_1 ?_
  refine lv_bipush (v := nI 20) F.1 F.2.1 dX8_told_4 (by decide) ?_
  refine r_iald F w 1 rfl (by omega) (by decide) dX8_told_6 ?_
  refine lv_aload_n F.1 F.2.1 dX8_told_7 rfl (lv_at hl 0 rfl) ?_
  refine r_get F w 0 0 iX8 f7 rfl rfl rfl (by decide) rfl dX8_told_8 ?_
  refine lv_bipush (v := nI 21) F.1 F.2.1 dX8_told_11 (by decide) ?_
  refine r_iald F w 1 rfl (by omega) (by decide) dX8_told_13 ?_
  refine r_iadd F dX8_told_14 ?_
  refine lv_istore_n (lv' := [(1, .int (nI ((P 20) + (P 21)))), (0, .ref (a 0))]) F.1 F.2.1 dX8_told_15 rfl hl (by decide) rfl (fun ls hl => ?_)
  refine lv_iconst (v := nI 0) F.1 F.2.1 dX8_told_16 (by decide) ?_
  refine lv_istore_n (lv' := [(2, .int (nI 0)), (1, .int (nI ((P 20) + (P 21)))), (0, .ref (a 0))]) F.1 F.2.1 dX8_told_17 rfl hl (by decide) rfl (fun ls hl => ?_)
  refine lv_iconst (v := nI 1) F.1 F.2.1 dX8_told_18 (by decide) ?_
  refine lv_istore_n (lv' := [(3, .int (nI 1)), (2, .int (nI 0)), (1, .int (nI ((P 20) + (P 21)))), (0, .ref (a 0))]) F.1 F.2.1 dX8_told_19 rfl hl (by decide) rfl (fun ls hl => ?_)
  refine lv_iconst (v := nI 0) F.1 F.2.1 dX8_told_20 (by decide) ?_
  refine lv_istore (lv' := [(4, .int (nI 0)), (3, .int (nI 1)), (2, .int (nI 0)), (1, .int (nI ((P 20) + (P 21)))), (0, .ref (a 0))]) F.1 F.2.1 dX8_told_21 hl (by decide) rfl (fun ls hl => ?_)
  have L23 : ∀ n : Nat, ∀ (k : Nat), (k ≤ P 8) → (wsm (lnP P) (dnP P) k ≤ P 20 + P 21) → P 8 - k < n → ∀ (H : Heap) (locs : List Loc), Wd G s (va_A (mW G a P Sp Hs sc T tl tp fa fr fn N) s.heap.size) (mW G a P Sp Hs sc T tl tp fa fr fn N) H locs → ∀ ls : Array Slot, lv_has ls 6 [(0, .ref (a 0)), (1, .int (nI (P 20 + P 21 - wsm (lnP P) (dnP P) k))), (2, .int (nI (low (lnP P) k))), (3, .int (nI 1)), (4, .int (nI k))] → W p l e (rmK 1 0 0) s m args below meth c H locs 0 0 (MQ below (QI G (mW G a P Sp Hs sc T tl tp fa fr fn N) s.heap.size (fun r v => r = nI (toldF P) ∧ v = mW G a P Sp Hs sc T tl tp fa fr fn N)) args s 0 0 (va_A (mW G a P Sp Hs sc T tl tp fa fr fn N) s.heap.size)) (F0 m 23 ls []) := by
    intro n
    induction n with
    | zero => intro k h1 h2 hm; exact absurd hm (Nat.not_lt_zero _)
    | succ n ih23 =>
      intro k h1 h2 hm23 H locs w ls hl
      refine lv_iload F.1 F.2.1 dX8_told_23 (lv_at hl 4 rfl) ?_
      refine lv_aload_n F.1 F.2.1 dX8_told_25 rfl (lv_at hl 0 rfl) ?_
      refine r_get F w 0 0 iX8 f7 rfl rfl rfl (by decide) rfl dX8_told_26 ?_
      refine lv_bipush (v := nI 8) F.1 F.2.1 dX8_told_29 (by decide) ?_
      refine r_iald F w 1 rfl (by omega) (by decide) dX8_told_31 ?_
      refine r_cge (tgt := 123) F dX8_told_32 (by decide) (by omega) (by omega) (fun c32 => ?_) (fun c32 => ?_)
      · skip
        refine lv_iload_n F.1 F.2.1 dX8_told_123 rfl (lv_at hl 2 rfl) ?_
        refine lv_aload_n F.1 F.2.1 dX8_told_124 rfl (lv_at hl 0 rfl) ?_
        refine r_get F w 0 0 iX8 f7 rfl rfl rfl (by decide) rfl dX8_told_125 ?_
        refine lv_bipush (v := nI 9) F.1 F.2.1 dX8_told_128 (by decide) ?_
        refine r_iald F w 1 rfl (by omega) (by decide) dX8_told_130 ?_
        refine r_callS0 (rest := []) F w (c_X8_lesser l G (low (lnP P) k) (P 9) (by have := hbl k h1; omega) (by omega)) gX8_told_X8_lesser (nA0 := 2) rfl (by decide +kernel) rfl ⟨Nat.le_of_ble_eq_true rfl, Nat.le_of_ble_eq_true rfl⟩ ⟨Nat.le_of_ble_eq_true rfl, Nat.le_of_ble_eq_true rfl⟩ hl rfl (Nat.le_of_ble_eq_true rfl) dX8_told_131 (fun r_131 w1 H locs hp w => ?_)
        obtain ⟨rfl, rfl⟩ := hp
        exact r_ireturn F w dX8_told_134 (⟨congrArg nI (by unfold toldF; first | rw [g4, dep_stop (lnP P) (dnP P) (k := k + 1) (n := P 8) (by omega) g3] | rw [← dep_full (dn := dnP P) h2, show k = P 8 by omega]), rfl⟩)
      · skip
        refine lv_iload_n F.1 F.2.1 dX8_told_35 rfl (lv_at hl 3 rfl) ?_
        refine r_zeq (tgt := 123) F dX8_told_36 (by decide) (by omega) (fun c36 => ?_) (fun c36 => ?_)
        · exact absurd c36 (by decide)
        · skip
          obtain ⟨q1, q2, q3⟩ := hS.2 k c32
          have hlk := hbl k h1
          refine lv_aload_n F.1 F.2.1 dX8_told_39 rfl (lv_at hl 0 rfl) ?_
          refine lv_iload F.1 F.2.1 dX8_told_40 (lv_at hl 4 rfl) ?_
          refine lv_iconst (v := nI 0) F.1 F.2.1 dX8_told_42 (by decide) ?_
          refine r_callVI (rest := []) F w (c_X8_of l G a P Sp Hs T N sc tl tp fa fr fn k 0 (by omega)) gX8_told_X8_of [0, 1, 2, 3, 4, 5] [] (nA0 := 2) rfl (by decide +kernel) rfl ⟨Nat.le_of_ble_eq_true rfl, Nat.le_of_ble_eq_true rfl⟩ ⟨Nat.le_of_ble_eq_true rfl, Nat.le_of_ble_eq_true rfl⟩ rfl rfl rfl rfl rfl rfl rfl hl rfl (Nat.le_of_ble_eq_true rfl) dX8_told_43 (fun r_43 w1 H locs hp w => ?_)
          obtain ⟨rfl, rfl⟩ := hp
          have w := w.sub (ws' := mW G a P Sp Hs sc T tl tp fa fr fn N) [0, 1, 2, 3, 4, 5] (by decide) rfl
          refine r_to (y := (nI (P (46 + 4 * k)))) (rfl) ?_
          refine lv_iconst (v := nI 1) F.1 F.2.1 dX8_told_46 (by decide) ?_
          refine r_cne (tgt := 60) F dX8_told_47 (by decide) (by omega) (by omega) (fun c47 => ?_) (fun c47 => ?_)
          · skip
            have hd1 : 60 ≤ P (46 + 4 * k + 2) := by omega
            refine lv_aload_n F.1 F.2.1 dX8_told_60 rfl (lv_at hl 0 rfl) ?_
            refine lv_iload F.1 F.2.1 dX8_told_61 (lv_at hl 4 rfl) ?_
            refine lv_iconst (v := nI 1) F.1 F.2.1 dX8_told_63 (by decide) ?_
            refine r_callVI (rest := []) F w (c_X8_of l G a P Sp Hs T N sc tl tp fa fr fn k 1 (by omega)) gX8_told_X8_of [0, 1, 2, 3, 4, 5] [] (nA0 := 2) rfl (by decide +kernel) rfl ⟨Nat.le_of_ble_eq_true rfl, Nat.le_of_ble_eq_true rfl⟩ ⟨Nat.le_of_ble_eq_true rfl, Nat.le_of_ble_eq_true rfl⟩ rfl rfl rfl rfl rfl rfl rfl hl rfl (Nat.le_of_ble_eq_true rfl) dX8_told_64 (fun r_64 w1 H locs hp w => ?_)
            obtain ⟨rfl, rfl⟩ := hp
            have w := w.sub (ws' := mW G a P Sp Hs sc T tl tp fa fr fn N) [0, 1, 2, 3, 4, 5] (by decide) rfl
            refine lv_iload_n F.1 F.2.1 dX8_told_67 rfl (lv_at hl 1 rfl) ?_
            refine lv_aload_n F.1 F.2.1 dX8_told_68 rfl (lv_at hl 0 rfl) ?_
            refine lv_iload F.1 F.2.1 dX8_told_69 (lv_at hl 4 rfl) ?_
            refine lv_iconst (v := nI 2) F.1 F.2.1 dX8_told_71 (by decide) ?_
            refine r_callVI (rest := [.int (nI (P 20 + P 21 - wsm (lnP P) (dnP P) k)), .int (nI (P (46 + 4 * k + 1)))]) F w (c_X8_of l G a P Sp Hs T N sc tl tp fa fr fn k 2 (by omega)) gX8_told_X8_of [0, 1, 2, 3, 4, 5] [] (nA0 := 2) rfl (by decide +kernel) rfl ⟨Nat.le_of_ble_eq_true rfl, Nat.le_of_ble_eq_true rfl⟩ ⟨Nat.le_of_ble_eq_true rfl, Nat.le_of_ble_eq_true rfl⟩ rfl rfl rfl rfl rfl rfl rfl hl rfl (Nat.le_of_ble_eq_true rfl) dX8_told_72 (fun r_72 w1 H locs hp w => ?_)
            obtain ⟨rfl, rfl⟩ := hp
            have w := w.sub (ws' := mW G a P Sp Hs sc T tl tp fa fr fn N) [0, 1, 2, 3, 4, 5] (by decide) rfl
            refine r_idiv F dX8_told_75 (by omega) (by omega) (by omega) ?_
            refine r_callS0 (rest := []) F w (c_X8_lesser l G (P (46 + 4 * k + 1)) ((P 20 + P 21 - wsm (lnP P) (dnP P) k) / (P (46 + 4 * k + 2))) (by omega) (by have := Nat.div_le_self (P 20 + P 21 - wsm (lnP P) (dnP P) k) (P (46 + 4 * k + 2)); omega)) gX8_told_X8_lesser (nA0 := 2) rfl (by decide +kernel) rfl ⟨Nat.le_of_ble_eq_true rfl, Nat.le_of_ble_eq_true rfl⟩ ⟨Nat.le_of_ble_eq_true rfl, Nat.le_of_ble_eq_true rfl⟩ hl rfl (Nat.le_of_ble_eq_true rfl) dX8_told_76 (fun r_76 w1 H locs hp w => ?_)
            obtain ⟨rfl, rfl⟩ := hp
            refine r_top (fun u e_u => ?_)
            have hu : u * P (46 + 4 * k + 2) ≤ P 20 + P 21 - wsm (lnP P) (dnP P) k := by first | exact told_u0 e_u hd0 | exact told_u1 e_u hd1
            have hU : u = if dnP P k = 0 then lnP P k else min (lnP P k) ((P 20 + P 21 - wsm (lnP P) (dnP P) k) / dnP P k) := by first | (rw [if_pos (show dnP P k = 0 from hd0)]; exact e_u) | (rw [if_neg (show ¬ dnP P k = 0 from by show ¬ P (46 + 4 * k + 2) = 0; omega)]; exact e_u)
            have hul : u ≤ P (46 + 4 * k + 1) := by omega
            refine lv_istore (lv' := [(5, .int (nI u)), (0, .ref (a 0)), (1, .int (nI (P 20 + P 21 - wsm (lnP P) (dnP P) k))), (2, .int (nI (low (lnP P) k))), (3, .int (nI 1)), (4, .int (nI k))]) F.1 F.2.1 dX8_told_79 hl (by decide) rfl (fun ls hl => ?_)
            refine lv_iload_n F.1 F.2.1 dX8_told_81 rfl (lv_at hl 2 rfl) ?_
            refine lv_iload F.1 F.2.1 dX8_told_82 (lv_at hl 0 rfl) ?_
            refine lv_aload_n F.1 F.2.1 dX8_told_84 rfl (lv_at hl 1 rfl) ?_
            refine lv_iload F.1 F.2.1 dX8_told_85 (lv_at hl 5 rfl) ?_
            refine lv_iconst (v := nI 2) F.1 F.2.1 dX8_told_87 (by decide) ?_
            refine r_callVI (rest := [.int (nI u), .int (nI (P 20 + P 21 - wsm (lnP P) (dnP P) k))]) F w (c_X8_of l G a P Sp Hs T N sc tl tp fa fr fn k 2 (by omega)) gX8_told_X8_of [0, 1, 2, 3, 4, 5] [] (nA0 := 2) rfl (by decide +kernel) rfl ⟨Nat.le_of_ble_eq_true rfl, Nat.le_of_ble_eq_true rfl⟩ ⟨Nat.le_of_ble_eq_true rfl, Nat.le_of_ble_eq_true rfl⟩ rfl rfl rfl rfl rfl rfl rfl hl rfl (Nat.le_of_ble_eq_true rfl) dX8_told_88 (fun r_88 w1 H locs hp w => ?_)
            obtain ⟨rfl, rfl⟩ := hp
            have w := w.sub (ws' := mW G a P Sp Hs sc T tl tp fa fr fn N) [0, 1, 2, 3, 4, 5] (by decide) rfl
            refine r_imul F dX8_told_91 ?_
            refine r_isub F dX8_told_92 hu ?_
            refine lv_istore_n (lv' := [(1, .int (nI ((P 20 + P 21 - wsm (lnP P) (dnP P) k) - (u * (P (46 + 4 * k + 2)))))), (5, .int (nI u)), (0, .ref (a 0)), (2, .int (nI (low (lnP P) k))), (3, .int (nI 1)), (4, .int (nI k))]) F.1 F.2.1 dX8_told_93 rfl hl (by decide) rfl (fun ls hl => ?_)
            refine lv_iload_n F.1 F.2.1 dX8_told_94 rfl (lv_at hl 3 rfl) ?_
            refine lv_iload F.1 F.2.1 dX8_told_95 (lv_at hl 1 rfl) ?_
            refine r_iadd F dX8_told_97 ?_
            refine lv_istore_n (lv' := [(2, .int (nI ((low (lnP P) k) + u))), (1, .int (nI ((P 20 + P 21 - wsm (lnP P) (dnP P) k) - (u * (P (46 + 4 * k + 2)))))), (5, .int (nI u)), (0, .ref (a 0)), (3, .int (nI 1)), (4, .int (nI k))]) F.1 F.2.1 dX8_told_98 rfl hl (by decide) rfl (fun ls hl => ?_)
            refine lv_iload F.1 F.2.1 dX8_told_99 (lv_at hl 2 rfl) ?_
            refine lv_aload_n F.1 F.2.1 dX8_told_101 rfl (lv_at hl 3 rfl) ?_
            refine lv_iload F.1 F.2.1 dX8_told_102 (lv_at hl 5 rfl) ?_
            refine lv_iconst (v := nI 1) F.1 F.2.1 dX8_told_104 (by decide) ?_
            refine r_callVI (rest := [.int (nI u)]) F w (c_X8_of l G a P Sp Hs T N sc tl tp fa fr fn k 1 (by omega)) gX8_told_X8_of [0, 1, 2, 3, 4, 5] [] (nA0 := 2) rfl (by decide +kernel) rfl ⟨Nat.le_of_ble_eq_true rfl, Nat.le_of_ble_eq_true rfl⟩ ⟨Nat.le_of_ble_eq_true rfl, Nat.le_of_ble_eq_true rfl⟩ rfl rfl rfl rfl rfl rfl rfl hl rfl (Nat.le_of_ble_eq_true rfl) dX8_told_105 (fun r_105 w1 H locs hp w => ?_)
            obtain ⟨rfl, rfl⟩ := hp
            have w := w.sub (ws' := mW G a P Sp Hs sc T tl tp fa fr fn N) [0, 1, 2, 3, 4, 5] (by decide) rfl
            refine r_cne (tgt := 115) F dX8_told_108 (by decide) (by omega) (by omega) (fun c108 => ?_) (fun c108 => ?_)
            · skip
              obtain ⟨g3, g4⟩ := told_less (ln := lnP P) (dn := dnP P) h2 hU c108
              refine lv_iconst (v := nI 0) F.1 F.2.1 dX8_told_115 (by decide) ?_
              refine lv_istore_n (lv' := [(3, .int (nI 0)), (2, .int (nI ((low (lnP P) k) + u))), (1, .int (nI ((P 20 + P 21 - wsm (lnP P) (dnP P) k) - (u * (P (46 + 4 * k + 2)))))), (5, .int (nI u)), (0, .ref (a 0)), (4, .int (nI k))]) F.1 F.2.1 dX8_told_116 rfl hl (by decide) rfl (fun ls hl => ?_)
              refine lv_iinc (v := nI (k + 1)) (lv' := [(4, .int (nI (k + 1))), (3, .int (nI 0)), (2, .int (nI ((low (lnP P) k) + u))), (1, .int (nI ((P 20 + P 21 - wsm (lnP P) (dnP P) k) - (u * (P (46 + 4 * k + 2)))))), (5, .int (nI u)), (0, .ref (a 0))]) F.1 F.2.1 dX8_told_117 hl (k := 5) rfl (nI_add _ _) (by decide) rfl (fun ls hl => ?_)
              refine lv_goto (tgt := 23) F.1 F.2.1 dX8_told_120 (by decide) ?_
              refine lv_iload F.1 F.2.1 dX8_told_23 (lv_at hl 0 rfl) ?_
              refine lv_aload_n F.1 F.2.1 dX8_told_25 rfl (lv_at hl 5 rfl) ?_
              refine r_get F w 0 0 iX8 f7 rfl rfl rfl (by decide) rfl dX8_told_26 ?_
              refine lv_bipush (v := nI 8) F.1 F.2.1 dX8_told_29 (by decide) ?_
              refine r_iald F w 1 rfl (by omega) (by decide) dX8_told_31 ?_
              refine r_cge (tgt := 123) F dX8_told_32 (by decide) (by omega) (by omega) (fun c32 => ?_) (fun c32 => ?_)
              · skip
                refine lv_iload_n F.1 F.2.1 dX8_told_123 rfl (lv_at hl 2 rfl) ?_
                refine lv_aload_n F.1 F.2.1 dX8_told_124 rfl (lv_at hl 5 rfl) ?_
                refine r_get F w 0 0 iX8 f7 rfl rfl rfl (by decide) rfl dX8_told_125 ?_
                refine lv_bipush (v := nI 9) F.1 F.2.1 dX8_told_128 (by decide) ?_
                refine r_iald F w 1 rfl (by omega) (by decide) dX8_told_130 ?_
                refine r_callS0 (rest := []) F w (c_X8_lesser l G ((low (lnP P) k) + u) (P 9) (by have := hbl k h1; omega) (by omega)) gX8_told_X8_lesser (nA0 := 2) rfl (by decide +kernel) rfl ⟨Nat.le_of_ble_eq_true rfl, Nat.le_of_ble_eq_true rfl⟩ ⟨Nat.le_of_ble_eq_true rfl, Nat.le_of_ble_eq_true rfl⟩ hl rfl (Nat.le_of_ble_eq_true rfl) dX8_told_131 (fun r_131 w1 H locs hp w => ?_)
                obtain ⟨rfl, rfl⟩ := hp
                exact r_ireturn F w dX8_told_134 (⟨congrArg nI (by unfold toldF; first | rw [g4, dep_stop (lnP P) (dnP P) (k := k + 1) (n := P 8) (by omega) g3] | rw [← dep_full (dn := dnP P) h2, show k = P 8 by omega]), rfl⟩)
              · skip
                refine lv_iload_n F.1 F.2.1 dX8_told_35 rfl (lv_at hl 1 rfl) ?_
                refine r_zeq (tgt := 123) F dX8_told_36 (by decide) (by omega) (fun c36 => ?_) (fun c36 => ?_)
                · skip
                  refine lv_iload_n F.1 F.2.1 dX8_told_123 rfl (lv_at hl 2 rfl) ?_
                  refine lv_aload_n F.1 F.2.1 dX8_told_124 rfl (lv_at hl 5 rfl) ?_
                  refine r_get F w 0 0 iX8 f7 rfl rfl rfl (by decide) rfl dX8_told_125 ?_
                  refine lv_bipush (v := nI 9) F.1 F.2.1 dX8_told_128 (by decide) ?_
                  refine r_iald F w 1 rfl (by omega) (by decide) dX8_told_130 ?_
                  refine r_callS0 (rest := []) F w (c_X8_lesser l G ((low (lnP P) k) + u) (P 9) (by have := hbl k h1; omega) (by omega)) gX8_told_X8_lesser (nA0 := 2) rfl (by decide +kernel) rfl ⟨Nat.le_of_ble_eq_true rfl, Nat.le_of_ble_eq_true rfl⟩ ⟨Nat.le_of_ble_eq_true rfl, Nat.le_of_ble_eq_true rfl⟩ hl rfl (Nat.le_of_ble_eq_true rfl) dX8_told_131 (fun r_131 w1 H locs hp w => ?_)
                  obtain ⟨rfl, rfl⟩ := hp
                  exact r_ireturn F w dX8_told_134 (⟨congrArg nI (by unfold toldF; first | rw [g4, dep_stop (lnP P) (dnP P) (k := k + 1) (n := P 8) (by omega) g3] | rw [← dep_full (dn := dnP P) h2, show k = P 8 by omega]), rfl⟩)
                · exact absurd rfl c36
            · skip
              obtain ⟨g0, g1, g2⟩ := told_more (ln := lnP P) (dn := dnP P) h2 hu c108
              refine lv_iconst (v := nI 1) F.1 F.2.1 dX8_told_111 (by decide) ?_
              refine lv_goto (tgt := 116) F.1 F.2.1 dX8_told_112 (by decide) ?_
              refine lv_istore_n (lv' := [(3, .int (nI 1)), (2, .int (nI ((low (lnP P) k) + u))), (1, .int (nI ((P 20 + P 21 - wsm (lnP P) (dnP P) k) - (u * (P (46 + 4 * k + 2)))))), (5, .int (nI u)), (0, .ref (a 0)), (4, .int (nI k))]) F.1 F.2.1 dX8_told_116 rfl hl (by decide) rfl (fun ls hl => ?_)
              refine lv_iinc (v := nI (k + 1)) (lv' := [(4, .int (nI (k + 1))), (3, .int (nI 1)), (2, .int (nI ((low (lnP P) k) + u))), (1, .int (nI ((P 20 + P 21 - wsm (lnP P) (dnP P) k) - (u * (P (46 + 4 * k + 2)))))), (5, .int (nI u)), (0, .ref (a 0))]) F.1 F.2.1 dX8_told_117 hl (k := 5) rfl (nI_add _ _) (by decide) rfl (fun ls hl => ?_)
              refine lv_goto (tgt := 23) F.1 F.2.1 dX8_told_120 (by decide) ?_
              rw [g1, g2] at hl
              exact ih23 (k + 1) (by omega) g0 (by omega) _ _ w ls (lv_sub hl [5, 3, 2, 1, 0] rfl)
          · skip
            have hd0 : P (46 + 4 * k + 2) = 0 := by omega
            refine lv_aload_n F.1 F.2.1 dX8_told_50 rfl (lv_at hl 0 rfl) ?_
            refine lv_iload F.1 F.2.1 dX8_told_51 (lv_at hl 4 rfl) ?_
            refine lv_iconst (v := nI 1) F.1 F.2.1 dX8_told_53 (by decide) ?_
            refine r_callVI (rest := []) F w (c_X8_of l G a P Sp Hs T N sc tl tp fa fr fn k 1 (by omega)) gX8_told_X8_of [0, 1, 2, 3, 4, 5] [] (nA0 := 2) rfl (by decide +kernel) rfl ⟨Nat.le_of_ble_eq_true rfl, Nat.le_of_ble_eq_true rfl⟩ ⟨Nat.le_of_ble_eq_true rfl, Nat.le_of_ble_eq_true rfl⟩ rfl rfl rfl rfl rfl rfl rfl hl rfl (Nat.le_of_ble_eq_true rfl) dX8_told_54 (fun r_54 w1 H locs hp w => ?_)
            obtain ⟨rfl, rfl⟩ := hp
            have w := w.sub (ws' := mW G a P Sp Hs sc T tl tp fa fr fn N) [0, 1, 2, 3, 4, 5] (by decide) rfl
            refine lv_goto (tgt := 79) F.1 F.2.1 dX8_told_57 (by decide) ?_
            refine r_top (fun u e_u => ?_)
            have hu : u * P (46 + 4 * k + 2) ≤ P 20 + P 21 - wsm (lnP P) (dnP P) k := by first | exact told_u0 e_u hd0 | exact told_u1 e_u hd1
            have hU : u = if dnP P k = 0 then lnP P k else min (lnP P k) ((P 20 + P 21 - wsm (lnP P) (dnP P) k) / dnP P k) := by first | (rw [if_pos (show dnP P k = 0 from hd0)]; exact e_u) | (rw [if_neg (show ¬ dnP P k = 0 from by show ¬ P (46 + 4 * k + 2) = 0; omega)]; exact e_u)
            have hul : u ≤ P (46 + 4 * k + 1) := by omega
            refine lv_istore (lv' := [(5, .int (nI u)), (0, .ref (a 0)), (1, .int (nI (P 20 + P 21 - wsm (lnP P) (dnP P) k))), (2, .int (nI (low (lnP P) k))), (3, .int (nI 1)), (4, .int (nI k))]) F.1 F.2.1 dX8_told_79 hl (by decide) rfl (fun ls hl => ?_)
            refine lv_iload_n F.1 F.2.1 dX8_told_81 rfl (lv_at hl 2 rfl) ?_
            refine lv_iload F.1 F.2.1 dX8_told_82 (lv_at hl 0 rfl) ?_
            refine lv_aload_n F.1 F.2.1 dX8_told_84 rfl (lv_at hl 1 rfl) ?_
            refine lv_iload F.1 F.2.1 dX8_told_85 (lv_at hl 5 rfl) ?_
            refine lv_iconst (v := nI 2) F.1 F.2.1 dX8_told_87 (by decide) ?_
            refine r_callVI (rest := [.int (nI u), .int (nI (P 20 + P 21 - wsm (lnP P) (dnP P) k))]) F w (c_X8_of l G a P Sp Hs T N sc tl tp fa fr fn k 2 (by omega)) gX8_told_X8_of [0, 1, 2, 3, 4, 5] [] (nA0 := 2) rfl (by decide +kernel) rfl ⟨Nat.le_of_ble_eq_true rfl, Nat.le_of_ble_eq_true rfl⟩ ⟨Nat.le_of_ble_eq_true rfl, Nat.le_of_ble_eq_true rfl⟩ rfl rfl rfl rfl rfl rfl rfl hl rfl (Nat.le_of_ble_eq_true rfl) dX8_told_88 (fun r_88 w1 H locs hp w => ?_)
            obtain ⟨rfl, rfl⟩ := hp
            have w := w.sub (ws' := mW G a P Sp Hs sc T tl tp fa fr fn N) [0, 1, 2, 3, 4, 5] (by decide) rfl
            refine r_imul F dX8_told_91 ?_
            refine r_isub F dX8_told_92 hu ?_
            refine lv_istore_n (lv' := [(1, .int (nI ((P 20 + P 21 - wsm (lnP P) (dnP P) k) - (u * (P (46 + 4 * k + 2)))))), (5, .int (nI u)), (0, .ref (a 0)), (2, .int (nI (low (lnP P) k))), (3, .int (nI 1)), (4, .int (nI k))]) F.1 F.2.1 dX8_told_93 rfl hl (by decide) rfl (fun ls hl => ?_)
            refine lv_iload_n F.1 F.2.1 dX8_told_94 rfl (lv_at hl 3 rfl) ?_
            refine lv_iload F.1 F.2.1 dX8_told_95 (lv_at hl 1 rfl) ?_
            refine r_iadd F dX8_told_97 ?_
            refine lv_istore_n (lv' := [(2, .int (nI ((low (lnP P) k) + u))), (1, .int (nI ((P 20 + P 21 - wsm (lnP P) (dnP P) k) - (u * (P (46 + 4 * k + 2)))))), (5, .int (nI u)), (0, .ref (a 0)), (3, .int (nI 1)), (4, .int (nI k))]) F.1 F.2.1 dX8_told_98 rfl hl (by decide) rfl (fun ls hl => ?_)
            refine lv_iload F.1 F.2.1 dX8_told_99 (lv_at hl 2 rfl) ?_
            refine lv_aload_n F.1 F.2.1 dX8_told_101 rfl (lv_at hl 3 rfl) ?_
            refine lv_iload F.1 F.2.1 dX8_told_102 (lv_at hl 5 rfl) ?_
            refine lv_iconst (v := nI 1) F.1 F.2.1 dX8_told_104 (by decide) ?_
            refine r_callVI (rest := [.int (nI u)]) F w (c_X8_of l G a P Sp Hs T N sc tl tp fa fr fn k 1 (by omega)) gX8_told_X8_of [0, 1, 2, 3, 4, 5] [] (nA0 := 2) rfl (by decide +kernel) rfl ⟨Nat.le_of_ble_eq_true rfl, Nat.le_of_ble_eq_true rfl⟩ ⟨Nat.le_of_ble_eq_true rfl, Nat.le_of_ble_eq_true rfl⟩ rfl rfl rfl rfl rfl rfl rfl hl rfl (Nat.le_of_ble_eq_true rfl) dX8_told_105 (fun r_105 w1 H locs hp w => ?_)
            obtain ⟨rfl, rfl⟩ := hp
            have w := w.sub (ws' := mW G a P Sp Hs sc T tl tp fa fr fn N) [0, 1, 2, 3, 4, 5] (by decide) rfl
            refine r_cne (tgt := 115) F dX8_told_108 (by decide) (by omega) (by omega) (fun c108 => ?_) (fun c108 => ?_)
            · skip
              obtain ⟨g3, g4⟩ := told_less (ln := lnP P) (dn := dnP P) h2 hU c108
              refine lv_iconst (v := nI 0) F.1 F.2.1 dX8_told_115 (by decide) ?_
              refine lv_istore_n (lv' := [(3, .int (nI 0)), (2, .int (nI ((low (lnP P) k) + u))), (1, .int (nI ((P 20 + P 21 - wsm (lnP P) (dnP P) k) - (u * (P (46 + 4 * k + 2)))))), (5, .int (nI u)), (0, .ref (a 0)), (4, .int (nI k))]) F.1 F.2.1 dX8_told_116 rfl hl (by decide) rfl (fun ls hl => ?_)
              refine lv_iinc (v := nI (k + 1)) (lv' := [(4, .int (nI (k + 1))), (3, .int (nI 0)), (2, .int (nI ((low (lnP P) k) + u))), (1, .int (nI ((P 20 + P 21 - wsm (lnP P) (dnP P) k) - (u * (P (46 + 4 * k + 2)))))), (5, .int (nI u)), (0, .ref (a 0))]) F.1 F.2.1 dX8_told_117 hl (k := 5) rfl (nI_add _ _) (by decide) rfl (fun ls hl => ?_)
              refine lv_goto (tgt := 23) F.1 F.2.1 dX8_told_120 (by decide) ?_
              refine lv_iload F.1 F.2.1 dX8_told_23 (lv_at hl 0 rfl) ?_
              refine lv_aload_n F.1 F.2.1 dX8_told_25 rfl (lv_at hl 5 rfl) ?_
              refine r_get F w 0 0 iX8 f7 rfl rfl rfl (by decide) rfl dX8_told_26 ?_
              refine lv_bipush (v := nI 8) F.1 F.2.1 dX8_told_29 (by decide) ?_
              refine r_iald F w 1 rfl (by omega) (by decide) dX8_told_31 ?_
              refine r_cge (tgt := 123) F dX8_told_32 (by decide) (by omega) (by omega) (fun c32 => ?_) (fun c32 => ?_)
              · skip
                refine lv_iload_n F.1 F.2.1 dX8_told_123 rfl (lv_at hl 2 rfl) ?_
                refine lv_aload_n F.1 F.2.1 dX8_told_124 rfl (lv_at hl 5 rfl) ?_
                refine r_get F w 0 0 iX8 f7 rfl rfl rfl (by decide) rfl dX8_told_125 ?_
                refine lv_bipush (v := nI 9) F.1 F.2.1 dX8_told_128 (by decide) ?_
                refine r_iald F w 1 rfl (by omega) (by decide) dX8_told_130 ?_
                refine r_callS0 (rest := []) F w (c_X8_lesser l G ((low (lnP P) k) + u) (P 9) (by have := hbl k h1; omega) (by omega)) gX8_told_X8_lesser (nA0 := 2) rfl (by decide +kernel) rfl ⟨Nat.le_of_ble_eq_true rfl, Nat.le_of_ble_eq_true rfl⟩ ⟨Nat.le_of_ble_eq_true rfl, Nat.le_of_ble_eq_true rfl⟩ hl rfl (Nat.le_of_ble_eq_true rfl) dX8_told_131 (fun r_131 w1 H locs hp w => ?_)
                obtain ⟨rfl, rfl⟩ := hp
                exact r_ireturn F w dX8_told_134 (⟨congrArg nI (by unfold toldF; first | rw [g4, dep_stop (lnP P) (dnP P) (k := k + 1) (n := P 8) (by omega) g3] | rw [← dep_full (dn := dnP P) h2, show k = P 8 by omega]), rfl⟩)
              · skip
                refine lv_iload_n F.1 F.2.1 dX8_told_35 rfl (lv_at hl 1 rfl) ?_
                refine r_zeq (tgt := 123) F dX8_told_36 (by decide) (by omega) (fun c36 => ?_) (fun c36 => ?_)
                · skip
                  refine lv_iload_n F.1 F.2.1 dX8_told_123 rfl (lv_at hl 2 rfl) ?_
                  refine lv_aload_n F.1 F.2.1 dX8_told_124 rfl (lv_at hl 5 rfl) ?_
                  refine r_get F w 0 0 iX8 f7 rfl rfl rfl (by decide) rfl dX8_told_125 ?_
                  refine lv_bipush (v := nI 9) F.1 F.2.1 dX8_told_128 (by decide) ?_
                  refine r_iald F w 1 rfl (by omega) (by decide) dX8_told_130 ?_
                  refine r_callS0 (rest := []) F w (c_X8_lesser l G ((low (lnP P) k) + u) (P 9) (by have := hbl k h1; omega) (by omega)) gX8_told_X8_lesser (nA0 := 2) rfl (by decide +kernel) rfl ⟨Nat.le_of_ble_eq_true rfl, Nat.le_of_ble_eq_true rfl⟩ ⟨Nat.le_of_ble_eq_true rfl, Nat.le_of_ble_eq_true rfl⟩ hl rfl (Nat.le_of_ble_eq_true rfl) dX8_told_131 (fun r_131 w1 H locs hp w => ?_)
                  obtain ⟨rfl, rfl⟩ := hp
                  exact r_ireturn F w dX8_told_134 (⟨congrArg nI (by unfold toldF; first | rw [g4, dep_stop (lnP P) (dnP P) (k := k + 1) (n := P 8) (by omega) g3] | rw [← dep_full (dn := dnP P) h2, show k = P 8 by omega]), rfl⟩)
                · exact absurd rfl c36
            · skip
              obtain ⟨g0, g1, g2⟩ := told_more (ln := lnP P) (dn := dnP P) h2 hu c108
              refine lv_iconst (v := nI 1) F.1 F.2.1 dX8_told_111 (by decide) ?_
              refine lv_goto (tgt := 116) F.1 F.2.1 dX8_told_112 (by decide) ?_
              refine lv_istore_n (lv' := [(3, .int (nI 1)), (2, .int (nI ((low (lnP P) k) + u))), (1, .int (nI ((P 20 + P 21 - wsm (lnP P) (dnP P) k) - (u * (P (46 + 4 * k + 2)))))), (5, .int (nI u)), (0, .ref (a 0)), (4, .int (nI k))]) F.1 F.2.1 dX8_told_116 rfl hl (by decide) rfl (fun ls hl => ?_)
              refine lv_iinc (v := nI (k + 1)) (lv' := [(4, .int (nI (k + 1))), (3, .int (nI 1)), (2, .int (nI ((low (lnP P) k) + u))), (1, .int (nI ((P 20 + P 21 - wsm (lnP P) (dnP P) k) - (u * (P (46 + 4 * k + 2)))))), (5, .int (nI u)), (0, .ref (a 0))]) F.1 F.2.1 dX8_told_117 hl (k := 5) rfl (nI_add _ _) (by decide) rfl (fun ls hl => ?_)
              refine lv_goto (tgt := 23) F.1 F.2.1 dX8_told_120 (by decide) ?_
              rw [g1, g2] at hl
              exact ih23 (k + 1) (by omega) g0 (by omega) _ _ w ls (lv_sub hl [5, 3, 2, 1, 0] rfl)
  exact L23 _ 0 (Nat.zero_le _) (Nat.zero_le _) (Nat.lt_succ_self _) _ _ w ls (lv_sub hl [4, 3, 2, 1, 0] rfl)
theorem gapG_b {P : Nat → Nat} {i w g : Nat} (h : bubQ P w g) : gapG P i w g = gapN P i w g := by unfold gapG; rw [if_neg (fun q => q.1 h)]
theorem gapG_l {P : Nat → Nat} {i w g : Nat} (h : ¬ P 7 < gapN P i w g) : gapG P i w g = gapN P i w g := by unfold gapG; rw [if_neg (fun q => h q.2)]
theorem gapG_z {P : Nat → Nat} {i w g : Nat} (h : ¬ bubQ P w g) (h2 : P 7 < gapN P i w g) : gapG P i w g = 0 := by unfold gapG; rw [if_pos ⟨h, h2⟩]
theorem drawF_at {P : Nat → Nat} {i w g t : Nat} (h : ¬ w = 0) (e1 : w = min (P 3) (P 11)) (e2 : g = P 12 * w / P 11) (e3 : t = P 13 * w / P 11) : drawF P i = drawG P i w g t := by
  subst e2; subst e3; subst e1
  unfold drawF
  rw [if_neg h]
set_option maxRecDepth 100000 in
set_option maxHeartbeats 4000000 in
theorem c_X8_draws (l : Launch) (G : KG) (a P Sp Hs T N : Nat → Nat) (sc tl tp fa fr fn : Nat) (i : Nat) (hi : i < 4) (hD : DInv P) : MetV l yX8_draws wsX8_draws 1 0 0 G (mW G a P Sp Hs sc T tl tp fa fr fn N) [.ref (a 0), .int (nI i)] (fun v => v = mW G a (drawF P i) Sp Hs sc T tl tp fa fr fn N) := by
  refine MetV.by (cc := cX8_draws) (nL := 9) (ret := none) (by decide +kernel) rfl (Nat.le_of_ble_eq_true rfl) ?_
  intro p e s m args below meth c F hname w ls hl
  have hl : lv_has ls 9 [(0, .ref (a 0)), (1, .int (nI i))] := hl
  have hts := F.ts
  have iX8 : ∀ w ∈ wsX80, w ∈ wsX8_draws := by decide +kernel
  have f7 := hts (.fieldLink RX8 7 "CoreMelterModel" "m" "[I") (by decide +kernel)
  obtain ⟨b9, b11, b20, b12, b13, b25, b23⟩ := hD.bnd
  obtain ⟨t0, t1, t2, t3, t4, t5, t6, t7, t8, t9, t10, t11, t12, t13⟩ := hD.2.1
  obtain ⟨l0, l1, l2⟩ := hD.2.2.2.2 i hi
  refine lv_bipush (v := nI 26) F.1 F.2.1 dX8_draws_0 (by decide) ?_
  refine lv_iconst (v := nI 5) F.1 F.2.1 dX8_draws_2 (by decide) ?_
  refine lv_iload_n F.1 F.2.1 dX8_draws_3 rfl (lv_at hl 1 rfl) ?_
  refine r_imul F dX8_draws_4 ?_
  refine r_iadd F dX8_draws_5 ?_
  refine lv_istore_n (lv' := [(2, .int (nI (26 + (5 * i)))), (0, .ref (a 0)), (1, .int (nI i))]) F.1 F.2.1 dX8_draws_6 rfl hl (by decide) rfl (fun ls hl => ?_)
  refine lv_aload_n F.1 F.2.1 dX8_draws_7 rfl (lv_at hl 1 rfl) ?_
  refine r_get F w 0 0 iX8 f7 rfl rfl rfl (by decide) rfl dX8_draws_8 ?_
  refine lv_iconst (v := nI 3) F.1 F.2.1 dX8_draws_11 (by decide) ?_
  refine r_iald F w 1 rfl (by omega) (by decide) dX8_draws_12 ?_
  refine lv_aload_n F.1 F.2.1 dX8_draws_13 rfl (lv_at hl 1 rfl) ?_
  refine r_get F w 0 0 iX8 f7 rfl rfl rfl (by decide) rfl dX8_draws_14 ?_
  refine lv_bipush (v := nI 11) F.1 F.2.1 dX8_draws_17 (by decide) ?_
  refine r_iald F w 1 rfl (by omega) (by decide) dX8_draws_19 ?_
  refine r_callS0 (rest := []) F w (c_X8_lesser l G (P 3) (P 11) (by omega) (by omega)) gX8_draws_X8_lesser (nA0 := 2) rfl (by decide +kernel) rfl ⟨Nat.le_of_ble_eq_true rfl, Nat.le_of_ble_eq_true rfl⟩ ⟨Nat.le_of_ble_eq_true rfl, Nat.le_of_ble_eq_true rfl⟩ hl rfl (Nat.le_of_ble_eq_true rfl) dX8_draws_20 (fun r_20 w1 H locs hp w => ?_)
  obtain ⟨rfl, rfl⟩ := hp
  refine r_top (fun dw e_dw => ?_)
  refine lv_istore_n (lv' := [(3, .int (nI dw)), (2, .int (nI (26 + (5 * i)))), (0, .ref (a 0)), (1, .int (nI i))]) F.1 F.2.1 dX8_draws_23 rfl hl (by decide) rfl (fun ls hl => ?_)
  refine lv_iload_n F.1 F.2.1 dX8_draws_24 rfl (lv_at hl 0 rfl) ?_
  refine r_zne (tgt := 29) F dX8_draws_25 (by decide) (by omega) (fun c25 => ?_) (fun c25 => ?_)
  · skip
    have hdw : dw ≤ P 11 := by omega
    have hm12 : P 12 * dw ≤ 276000 * 500 := Nat.mul_le_mul b12 (by omega)
    have hm13 : P 13 * dw ≤ 600000 * 500 := Nat.mul_le_mul b13 (by omega)
    refine lv_aload_n F.1 F.2.1 dX8_draws_29 rfl (lv_at hl 2 rfl) ?_
    refine r_get F w 0 0 iX8 f7 rfl rfl rfl (by decide) rfl dX8_draws_30 ?_
    refine lv_bipush (v := nI 12) F.1 F.2.1 dX8_draws_33 (by decide) ?_
    refine r_iald F w 1 rfl (by omega) (by decide) dX8_draws_35 ?_
    refine lv_iload_n F.1 F.2.1 dX8_draws_36 rfl (lv_at hl 0 rfl) ?_
    refine r_imul F dX8_draws_37 ?_
    refine lv_aload_n F.1 F.2.1 dX8_draws_38 rfl (lv_at hl 2 rfl) ?_
    refine r_get F w 0 0 iX8 f7 rfl rfl rfl (by decide) rfl dX8_draws_39 ?_
    refine lv_bipush (v := nI 11) F.1 F.2.1 dX8_draws_42 (by decide) ?_
    refine r_iald F w 1 rfl (by omega) (by decide) dX8_draws_44 ?_
    refine r_idiv F dX8_draws_45 (by omega) (by omega) (by omega) ?_
    refine r_top (fun gs e_gs => ?_)
    refine lv_istore (lv' := [(4, .int (nI gs)), (3, .int (nI dw)), (2, .int (nI (26 + (5 * i)))), (0, .ref (a 0)), (1, .int (nI i))]) F.1 F.2.1 dX8_draws_46 hl (by decide) rfl (fun ls hl => ?_)
    have hgs : gs ≤ P 12 := e_gs ▸ share_le hdw
    refine lv_aload_n F.1 F.2.1 dX8_draws_48 rfl (lv_at hl 3 rfl) ?_
    refine r_get F w 0 0 iX8 f7 rfl rfl rfl (by decide) rfl dX8_draws_49 ?_
    refine lv_bipush (v := nI 13) F.1 F.2.1 dX8_draws_52 (by decide) ?_
    refine r_iald F w 1 rfl (by omega) (by decide) dX8_draws_54 ?_
    refine lv_iload_n F.1 F.2.1 dX8_draws_55 rfl (lv_at hl 1 rfl) ?_
    refine r_imul F dX8_draws_56 ?_
    refine lv_aload_n F.1 F.2.1 dX8_draws_57 rfl (lv_at hl 3 rfl) ?_
    refine r_get F w 0 0 iX8 f7 rfl rfl rfl (by decide) rfl dX8_draws_58 ?_
    refine lv_bipush (v := nI 11) F.1 F.2.1 dX8_draws_61 (by decide) ?_
    refine r_iald F w 1 rfl (by omega) (by decide) dX8_draws_63 ?_
    refine r_idiv F dX8_draws_64 (by omega) (by omega) (by omega) ?_
    refine r_top (fun dt e_dt => ?_)
    refine lv_istore (lv' := [(5, .int (nI dt)), (4, .int (nI gs)), (3, .int (nI dw)), (2, .int (nI (26 + (5 * i)))), (0, .ref (a 0)), (1, .int (nI i))]) F.1 F.2.1 dX8_draws_65 hl (by decide) rfl (fun ls hl => ?_)
    have hdt : dt ≤ P 13 := e_dt ▸ share_le hdw
    refine lv_aload_n F.1 F.2.1 dX8_draws_67 rfl (lv_at hl 4 rfl) ?_
    refine r_get F w 0 0 iX8 f7 rfl rfl rfl (by decide) rfl dX8_draws_68 ?_
    refine lv_bipush (v := nI 11) F.1 F.2.1 dX8_draws_71 (by decide) ?_
    refine lv_dup2_11 F.1 F.2.1 dX8_draws_73 rfl rfl ?_
    refine r_iald F w 1 rfl (by omega) (by decide) dX8_draws_74 ?_
    refine lv_iload_n F.1 F.2.1 dX8_draws_75 rfl (lv_at hl 2 rfl) ?_
    refine r_isub F dX8_draws_76 (by omega) ?_
    refine r_iast (ws' := mW G a (up P 11 ((P 11) - dw)) Sp Hs sc T tl tp fa fr fn N) F w 1 rfl (by omega) (by decide) dX8_draws_77 rfl (fun H locs w => ?_)
    refine lv_aload_n F.1 F.2.1 dX8_draws_78 rfl (lv_at hl 4 rfl) ?_
    refine r_get F w 0 0 iX8 f7 rfl rfl rfl (by decide) rfl dX8_draws_79 ?_
    refine lv_bipush (v := nI 12) F.1 F.2.1 dX8_draws_82 (by decide) ?_
    refine lv_dup2_11 F.1 F.2.1 dX8_draws_84 rfl rfl ?_
    refine r_iald F w 1 rfl (by omega) (by decide) dX8_draws_85 ?_
    refine r_to (y := nI (P 12)) (congrArg nI (up_n _ _ (by decide))) ?_
    refine lv_iload F.1 F.2.1 dX8_draws_86 (lv_at hl 1 rfl) ?_
    refine r_isub F dX8_draws_88 (by omega) ?_
    refine r_iast (ws' := mW G a (up (up P 11 ((P 11) - dw)) 12 ((P 12) - gs)) Sp Hs sc T tl tp fa fr fn N) F w 1 rfl (by omega) (by decide) dX8_draws_89 rfl (fun H locs w => ?_)
    refine lv_aload_n F.1 F.2.1 dX8_draws_90 rfl (lv_at hl 4 rfl) ?_
    refine r_get F w 0 0 iX8 f7 rfl rfl rfl (by decide) rfl dX8_draws_91 ?_
    refine lv_bipush (v := nI 13) F.1 F.2.1 dX8_draws_94 (by decide) ?_
    refine lv_dup2_11 F.1 F.2.1 dX8_draws_96 rfl rfl ?_
    refine r_iald F w 1 rfl (by omega) (by decide) dX8_draws_97 ?_
    refine r_to (y := nI (P 13)) (congrArg nI ((up_n _ _ (by decide)).trans (up_n _ _ (by decide)))) ?_
    refine lv_iload F.1 F.2.1 dX8_draws_98 (lv_at hl 0 rfl) ?_
    refine r_isub F dX8_draws_100 (by omega) ?_
    refine r_iast (ws' := mW G a (up (up (up P 11 ((P 11) - dw)) 12 ((P 12) - gs)) 13 ((P 13) - dt)) Sp Hs sc T tl tp fa fr fn N) F w 1 rfl (by omega) (by decide) dX8_draws_101 rfl (fun H locs w => ?_)
    refine lv_aload_n F.1 F.2.1 dX8_draws_102 rfl (lv_at hl 4 rfl) ?_
    refine r_get F w 0 0 iX8 f7 rfl rfl rfl (by decide) rfl dX8_draws_103 ?_
    refine lv_bipush (v := nI 23) F.1 F.2.1 dX8_draws_106 (by decide) ?_
    refine lv_dup2_11 F.1 F.2.1 dX8_draws_108 rfl rfl ?_
    refine r_iald F w 1 rfl (by omega) (by decide) dX8_draws_109 ?_
    refine r_to (y := nI (P 23)) (congrArg nI ((up_n _ _ (by decide)).trans ((up_n _ _ (by decide)).trans (up_n _ _ (by decide))))) ?_
    refine lv_iload F.1 F.2.1 dX8_draws_110 (lv_at hl 1 rfl) ?_
    refine r_iadd F dX8_draws_112 ?_
    refine r_iast (ws' := mW G a (up (up (up (up P 11 ((P 11) - dw)) 12 ((P 12) - gs)) 13 ((P 13) - dt)) 23 ((P 23) + gs)) Sp Hs sc T tl tp fa fr fn N) F w 1 rfl (by omega) (by decide) dX8_draws_113 rfl (fun H locs w => ?_)
    refine lv_aload_n F.1 F.2.1 dX8_draws_114 rfl (lv_at hl 4 rfl) ?_
    refine r_get F w 0 0 iX8 f7 rfl rfl rfl (by decide) rfl dX8_draws_115 ?_
    refine lv_bipush (v := nI 25) F.1 F.2.1 dX8_draws_118 (by decide) ?_
    refine lv_dup2_11 F.1 F.2.1 dX8_draws_120 rfl rfl ?_
    refine r_iald F w 1 rfl (by omega) (by decide) dX8_draws_121 ?_
    refine r_to (y := nI (P 25)) (congrArg nI ((up_n _ _ (by decide)).trans ((up_n _ _ (by decide)).trans ((up_n _ _ (by decide)).trans (up_n _ _ (by decide)))))) ?_
    refine lv_iload F.1 F.2.1 dX8_draws_122 (lv_at hl 0 rfl) ?_
    refine r_iadd F dX8_draws_124 ?_
    refine r_iast (ws' := mW G a (up (up (up (up (up P 11 ((P 11) - dw)) 12 ((P 12) - gs)) 13 ((P 13) - dt)) 23 ((P 23) + gs)) 25 ((P 25) + dt)) Sp Hs sc T tl tp fa fr fn N) F w 1 rfl (by omega) (by decide) dX8_draws_125 rfl (fun H locs w => ?_)
    refine lv_bipush (v := nI 100) F.1 F.2.1 dX8_draws_126 (by decide) ?_
    refine lv_iload F.1 F.2.1 dX8_draws_128 (lv_at hl 1 rfl) ?_
    refine r_imul F dX8_draws_130 ?_
    refine lv_iload_n F.1 F.2.1 dX8_draws_131 rfl (lv_at hl 2 rfl) ?_
    refine r_idiv F dX8_draws_132 (by omega) (by omega) (by omega) ?_
    refine lv_aload_n F.1 F.2.1 dX8_draws_133 rfl (lv_at hl 4 rfl) ?_
    refine r_get F w 0 0 iX8 f7 rfl rfl rfl (by decide) rfl dX8_draws_134 ?_
    refine lv_iconst (v := nI 5) F.1 F.2.1 dX8_draws_137 (by decide) ?_
    refine r_iald F w 1 rfl (by omega) (by decide) dX8_draws_138 ?_
    refine r_to (y := nI (P 5)) (congrArg nI ((up_n _ _ (by decide)).trans ((up_n _ _ (by decide)).trans ((up_n _ _ (by decide)).trans ((up_n _ _ (by decide)).trans (up_n _ _ (by decide))))))) ?_
    have L147 :  ∀ (H : Heap) (locs : List Loc), Wd G s (va_A (mW G a P Sp Hs sc T tl tp fa fr fn N) s.heap.size) (mW G a (up (up (up (up (up P 11 ((P 11) - dw)) 12 ((P 12) - gs)) 13 ((P 13) - dt)) 23 ((P 23) + gs)) 25 ((P 25) + dt)) Sp Hs sc T tl tp fa fr fn N) H locs → ∀ ls : Array Slot, lv_has ls 9 [(5, .int (nI dt)), (4, .int (nI gs)), (3, .int (nI dw)), (2, .int (nI (26 + (5 * i)))), (0, .ref (a 0)), (1, .int (nI i))] → W p l e (rmK 1 0 0) s m args below meth c H locs 0 0 (MQ below (QV G (mW G a P Sp Hs sc T tl tp fa fr fn N) s.heap.size (fun v => v = mW G a (drawF P i) Sp Hs sc T tl tp fa fr fn N)) args s 0 0 (va_A (mW G a P Sp Hs sc T tl tp fa fr fn N) s.heap.size)) (F0 m 147 ls [.int (yn (bubQ P dw gs))]) := by
      intro  H locs w ls hl
      refine lv_istore (lv' := [(6, .int (yn (bubQ P dw gs))), (5, .int (nI dt)), (4, .int (nI gs)), (3, .int (nI dw)), (2, .int (nI (26 + (5 * i)))), (0, .ref (a 0)), (1, .int (nI i))]) F.1 F.2.1 dX8_draws_147 hl (by decide) rfl (fun ls hl => ?_)
      have L170 :  ∀ (H : Heap) (locs : List Loc), Wd G s (va_A (mW G a P Sp Hs sc T tl tp fa fr fn N) s.heap.size) (mW G a (up (up (up (up (up P 11 ((P 11) - dw)) 12 ((P 12) - gs)) 13 ((P 13) - dt)) 23 ((P 23) + gs)) 25 ((P 25) + dt)) Sp Hs sc T tl tp fa fr fn N) H locs → ∀ ls : Array Slot, lv_has ls 9 [(6, .int (yn (bubQ P dw gs))), (5, .int (nI dt)), (4, .int (nI gs)), (3, .int (nI dw)), (2, .int (nI (26 + (5 * i)))), (0, .ref (a 0)), (1, .int (nI i))] → W p l e (rmK 1 0 0) s m args below meth c H locs 0 0 (MQ below (QV G (mW G a P Sp Hs sc T tl tp fa fr fn N) s.heap.size (fun v => v = mW G a (drawF P i) Sp Hs sc T tl tp fa fr fn N)) args s 0 0 (va_A (mW G a P Sp Hs sc T tl tp fa fr fn N) s.heap.size)) (F0 m 170 ls [.int (yn (wasQ P i dw gs))]) := by
        intro  H locs w ls hl
        refine lv_istore (lv' := [(7, .int (yn (wasQ P i dw gs))), (6, .int (yn (bubQ P dw gs))), (5, .int (nI dt)), (4, .int (nI gs)), (3, .int (nI dw)), (2, .int (nI (26 + (5 * i)))), (0, .ref (a 0)), (1, .int (nI i))]) F.1 F.2.1 dX8_draws_170 hl (by decide) rfl (fun ls hl => ?_)
        have L206 :  ∀ (H : Heap) (locs : List Loc), Wd G s (va_A (mW G a P Sp Hs sc T tl tp fa fr fn N) s.heap.size) (mW G a (up (up (up (up (up P 11 ((P 11) - dw)) 12 ((P 12) - gs)) 13 ((P 13) - dt)) 23 ((P 23) + gs)) 25 ((P 25) + dt)) Sp Hs sc T tl tp fa fr fn N) H locs → ∀ ls : Array Slot, lv_has ls 9 [(7, .int (yn (wasQ P i dw gs))), (6, .int (yn (bubQ P dw gs))), (5, .int (nI dt)), (4, .int (nI gs)), (3, .int (nI dw)), (2, .int (nI (26 + (5 * i)))), (0, .ref (a 0)), (1, .int (nI i))] → W p l e (rmK 1 0 0) s m args below meth c H locs 0 0 (MQ below (QV G (mW G a P Sp Hs sc T tl tp fa fr fn N) s.heap.size (fun v => v = mW G a (drawF P i) Sp Hs sc T tl tp fa fr fn N)) args s 0 0 (va_A (mW G a P Sp Hs sc T tl tp fa fr fn N) s.heap.size)) (F0 m 206 ls [.int (nI (gapN P i dw gs))]) := by
          intro  H locs w ls hl
          refine lv_istore (lv' := [(8, .int (nI (gapN P i dw gs))), (7, .int (yn (wasQ P i dw gs))), (6, .int (yn (bubQ P dw gs))), (5, .int (nI dt)), (4, .int (nI gs)), (3, .int (nI dw)), (2, .int (nI (26 + (5 * i)))), (0, .ref (a 0)), (1, .int (nI i))]) F.1 F.2.1 dX8_draws_206 hl (by decide) rfl (fun ls hl => ?_)
          refine lv_aload_n F.1 F.2.1 dX8_draws_208 rfl (lv_at hl 7 rfl) ?_
          refine r_get F w 0 0 iX8 f7 rfl rfl rfl (by decide) rfl dX8_draws_209 ?_
          refine lv_iload_n F.1 F.2.1 dX8_draws_212 rfl (lv_at hl 6 rfl) ?_
          refine lv_iconst (v := nI 2) F.1 F.2.1 dX8_draws_213 (by decide) ?_
          refine r_iadd F dX8_draws_214 ?_
          have L238 :  ∀ (H : Heap) (locs : List Loc), Wd G s (va_A (mW G a P Sp Hs sc T tl tp fa fr fn N) s.heap.size) (mW G a (up (up (up (up (up P 11 ((P 11) - dw)) 12 ((P 12) - gs)) 13 ((P 13) - dt)) 23 ((P 23) + gs)) 25 ((P 25) + dt)) Sp Hs sc T tl tp fa fr fn N) H locs → ∀ ls : Array Slot, lv_has ls 9 [(8, .int (nI (gapN P i dw gs))), (7, .int (yn (wasQ P i dw gs))), (6, .int (yn (bubQ P dw gs))), (5, .int (nI dt)), (4, .int (nI gs)), (3, .int (nI dw)), (2, .int (nI (26 + (5 * i)))), (0, .ref (a 0)), (1, .int (nI i))] → W p l e (rmK 1 0 0) s m args below meth c H locs 0 0 (MQ below (QV G (mW G a P Sp Hs sc T tl tp fa fr fn N) s.heap.size (fun v => v = mW G a (drawF P i) Sp Hs sc T tl tp fa fr fn N)) args s 0 0 (va_A (mW G a P Sp Hs sc T tl tp fa fr fn N) s.heap.size)) (F0 m 238 ls [.int (nI (gapG P i dw gs)), .int (nI ((26 + (5 * i)) + 2)), .ref (a 1)]) := by
            intro  H locs w ls hl
            refine r_iast (ws' := mW G a (up (up (up (up (up (up P 11 ((P 11) - dw)) 12 ((P 12) - gs)) 13 ((P 13) - dt)) 23 ((P 23) + gs)) 25 ((P 25) + dt)) ((26 + (5 * i)) + 2) (gapG P i dw gs)) Sp Hs sc T tl tp fa fr fn N) F w 1 rfl (by omega) (by decide) dX8_draws_238 rfl (fun H locs w => ?_)
            refine lv_aload_n F.1 F.2.1 dX8_draws_239 rfl (lv_at hl 7 rfl) ?_
            refine r_get F w 0 0 iX8 f7 rfl rfl rfl (by decide) rfl dX8_draws_240 ?_
            refine lv_iload_n F.1 F.2.1 dX8_draws_243 rfl (lv_at hl 6 rfl) ?_
            refine lv_iconst (v := nI 3) F.1 F.2.1 dX8_draws_244 (by decide) ?_
            refine r_iadd F dX8_draws_245 ?_
            refine lv_dup2_11 F.1 F.2.1 dX8_draws_246 rfl rfl ?_
            refine r_iald F w 1 rfl (by omega) (by decide) dX8_draws_247 ?_
            refine r_to (y := nI (P ((26 + (5 * i)) + 3))) (congrArg nI ((up_n _ _ (by omega)).trans ((up_n _ _ (by omega)).trans ((up_n _ _ (by omega)).trans ((up_n _ _ (by omega)).trans ((up_n _ _ (by omega)).trans (up_n _ _ (by omega)))))))) ?_
            refine lv_iload_n F.1 F.2.1 dX8_draws_248 rfl (lv_at hl 5 rfl) ?_
            refine r_iadd F dX8_draws_249 ?_
            refine r_iast (ws' := mW G a (up (up (up (up (up (up (up P 11 ((P 11) - dw)) 12 ((P 12) - gs)) 13 ((P 13) - dt)) 23 ((P 23) + gs)) 25 ((P 25) + dt)) ((26 + (5 * i)) + 2) (gapG P i dw gs)) ((26 + (5 * i)) + 3) ((P ((26 + (5 * i)) + 3)) + dw)) Sp Hs sc T tl tp fa fr fn N) F w 1 rfl (by omega) (by decide) dX8_draws_250 rfl (fun H locs w => ?_)
            refine lv_aload_n F.1 F.2.1 dX8_draws_251 rfl (lv_at hl 7 rfl) ?_
            refine r_get F w 0 0 iX8 f7 rfl rfl rfl (by decide) rfl dX8_draws_252 ?_
            refine lv_iload_n F.1 F.2.1 dX8_draws_255 rfl (lv_at hl 6 rfl) ?_
            refine lv_iconst (v := nI 4) F.1 F.2.1 dX8_draws_256 (by decide) ?_
            refine r_iadd F dX8_draws_257 ?_
            refine lv_dup2_11 F.1 F.2.1 dX8_draws_258 rfl rfl ?_
            refine r_iald F w 1 rfl (by omega) (by decide) dX8_draws_259 ?_
            refine r_to (y := nI (P ((26 + (5 * i)) + 4))) (congrArg nI ((up_n _ _ (by omega)).trans ((up_n _ _ (by omega)).trans ((up_n _ _ (by omega)).trans ((up_n _ _ (by omega)).trans ((up_n _ _ (by omega)).trans ((up_n _ _ (by omega)).trans (up_n _ _ (by omega))))))))) ?_
            have L270 :  ∀ (H : Heap) (locs : List Loc), Wd G s (va_A (mW G a P Sp Hs sc T tl tp fa fr fn N) s.heap.size) (mW G a (up (up (up (up (up (up (up P 11 ((P 11) - dw)) 12 ((P 12) - gs)) 13 ((P 13) - dt)) 23 ((P 23) + gs)) 25 ((P 25) + dt)) ((26 + (5 * i)) + 2) (gapG P i dw gs)) ((26 + (5 * i)) + 3) ((P ((26 + (5 * i)) + 3)) + dw)) Sp Hs sc T tl tp fa fr fn N) H locs → ∀ ls : Array Slot, lv_has ls 9 [(8, .int (nI (gapN P i dw gs))), (7, .int (yn (wasQ P i dw gs))), (6, .int (yn (bubQ P dw gs))), (5, .int (nI dt)), (4, .int (nI gs)), (3, .int (nI dw)), (2, .int (nI (26 + (5 * i)))), (0, .ref (a 0)), (1, .int (nI i))] → W p l e (rmK 1 0 0) s m args below meth c H locs 0 0 (MQ below (QV G (mW G a P Sp Hs sc T tl tp fa fr fn N) s.heap.size (fun v => v = mW G a (drawF P i) Sp Hs sc T tl tp fa fr fn N)) args s 0 0 (va_A (mW G a P Sp Hs sc T tl tp fa fr fn N) s.heap.size)) (F0 m 270 ls [.int (nI (if wasQ P i dw gs then dw else 0)), .int (nI (P ((26 + (5 * i)) + 4))), .int (nI ((26 + (5 * i)) + 4)), .ref (a 1)]) := by
              intro  H locs w ls hl
              refine r_iadd F dX8_draws_270 ?_
              refine r_iast (ws' := mW G a (up (up (up (up (up (up (up (up P 11 ((P 11) - dw)) 12 ((P 12) - gs)) 13 ((P 13) - dt)) 23 ((P 23) + gs)) 25 ((P 25) + dt)) ((26 + (5 * i)) + 2) (gapG P i dw gs)) ((26 + (5 * i)) + 3) ((P ((26 + (5 * i)) + 3)) + dw)) ((26 + (5 * i)) + 4) ((P ((26 + (5 * i)) + 4)) + (if wasQ P i dw gs then dw else 0))) Sp Hs sc T tl tp fa fr fn N) F w 1 rfl (by omega) (by decide) dX8_draws_271 rfl (fun H locs w => ?_)
              refine lv_aload_n F.1 F.2.1 dX8_draws_272 rfl (lv_at hl 7 rfl) ?_
              refine r_get F w 0 0 iX8 f7 rfl rfl rfl (by decide) rfl dX8_draws_273 ?_
              refine lv_bipush (v := nI 19) F.1 F.2.1 dX8_draws_276 (by decide) ?_
              have L288 :  ∀ (H : Heap) (locs : List Loc), Wd G s (va_A (mW G a P Sp Hs sc T tl tp fa fr fn N) s.heap.size) (mW G a (up (up (up (up (up (up (up (up P 11 ((P 11) - dw)) 12 ((P 12) - gs)) 13 ((P 13) - dt)) 23 ((P 23) + gs)) 25 ((P 25) + dt)) ((26 + (5 * i)) + 2) (gapG P i dw gs)) ((26 + (5 * i)) + 3) ((P ((26 + (5 * i)) + 3)) + dw)) ((26 + (5 * i)) + 4) ((P ((26 + (5 * i)) + 4)) + (if wasQ P i dw gs then dw else 0))) Sp Hs sc T tl tp fa fr fn N) H locs → ∀ ls : Array Slot, lv_has ls 9 [(8, .int (nI (gapN P i dw gs))), (7, .int (yn (wasQ P i dw gs))), (6, .int (yn (bubQ P dw gs))), (5, .int (nI dt)), (4, .int (nI gs)), (3, .int (nI dw)), (2, .int (nI (26 + (5 * i)))), (0, .ref (a 0)), (1, .int (nI i))] → W p l e (rmK 1 0 0) s m args below meth c H locs 0 0 (MQ below (QV G (mW G a P Sp Hs sc T tl tp fa fr fn N) s.heap.size (fun v => v = mW G a (drawF P i) Sp Hs sc T tl tp fa fr fn N)) args s 0 0 (va_A (mW G a P Sp Hs sc T tl tp fa fr fn N) s.heap.size)) (F0 m 288 ls [.int (nI (if wasQ P i dw gs then 2 else 1)), .int (nI 19), .ref (a 1)]) := by
                intro  H locs w ls hl
                refine r_iadd F dX8_draws_288 ?_
                refine lv_dup2_11 F.1 F.2.1 dX8_draws_289 rfl rfl ?_
                refine r_iald F w 1 rfl (by split <;> omega) (by decide) dX8_draws_290 ?_
                refine r_to (y := nI (P (19 + (if wasQ P i dw gs then 2 else 1)))) (congrArg nI ((up_n _ _ (by split <;> omega)).trans ((up_n _ _ (by split <;> omega)).trans ((up_n _ _ (by split <;> omega)).trans ((up_n _ _ (by split <;> omega)).trans ((up_n _ _ (by split <;> omega)).trans ((up_n _ _ (by split <;> omega)).trans ((up_n _ _ (by split <;> omega)).trans (up_n _ _ (by split <;> omega)))))))))) ?_
                refine lv_iload_n F.1 F.2.1 dX8_draws_291 rfl (lv_at hl 5 rfl) ?_
                refine r_iadd F dX8_draws_292 ?_
                refine r_iast (ws' := mW G a (up (up (up (up (up (up (up (up (up P 11 ((P 11) - dw)) 12 ((P 12) - gs)) 13 ((P 13) - dt)) 23 ((P 23) + gs)) 25 ((P 25) + dt)) ((26 + (5 * i)) + 2) (gapG P i dw gs)) ((26 + (5 * i)) + 3) ((P ((26 + (5 * i)) + 3)) + dw)) ((26 + (5 * i)) + 4) ((P ((26 + (5 * i)) + 4)) + (if wasQ P i dw gs then dw else 0))) (19 + (if wasQ P i dw gs then 2 else 1)) ((P (19 + (if wasQ P i dw gs then 2 else 1))) + dw)) Sp Hs sc T tl tp fa fr fn N) F w 1 rfl (by split <;> omega) (by decide) dX8_draws_293 rfl (fun H locs w => ?_)
                refine lv_aload_n F.1 F.2.1 dX8_draws_294 rfl (lv_at hl 7 rfl) ?_
                refine r_get F w 0 0 iX8 f7 rfl rfl rfl (by decide) rfl dX8_draws_295 ?_
                refine lv_bipush (v := nI 15) F.1 F.2.1 dX8_draws_298 (by decide) ?_
                refine lv_dup2_11 F.1 F.2.1 dX8_draws_300 rfl rfl ?_
                refine r_iald F w 1 rfl (by omega) (by decide) dX8_draws_301 ?_
                refine r_to (y := nI (P 15)) (congrArg nI ((up_n _ _ (by split <;> omega)).trans ((up_n _ _ (by omega)).trans ((up_n _ _ (by omega)).trans ((up_n _ _ (by omega)).trans ((up_n _ _ (by decide)).trans ((up_n _ _ (by decide)).trans ((up_n _ _ (by decide)).trans ((up_n _ _ (by decide)).trans (up_n _ _ (by decide))))))))))) ?_
                have L312 :  ∀ (H : Heap) (locs : List Loc), Wd G s (va_A (mW G a P Sp Hs sc T tl tp fa fr fn N) s.heap.size) (mW G a (up (up (up (up (up (up (up (up (up P 11 ((P 11) - dw)) 12 ((P 12) - gs)) 13 ((P 13) - dt)) 23 ((P 23) + gs)) 25 ((P 25) + dt)) ((26 + (5 * i)) + 2) (gapG P i dw gs)) ((26 + (5 * i)) + 3) ((P ((26 + (5 * i)) + 3)) + dw)) ((26 + (5 * i)) + 4) ((P ((26 + (5 * i)) + 4)) + (if wasQ P i dw gs then dw else 0))) (19 + (if wasQ P i dw gs then 2 else 1)) ((P (19 + (if wasQ P i dw gs then 2 else 1))) + dw)) Sp Hs sc T tl tp fa fr fn N) H locs → ∀ ls : Array Slot, lv_has ls 9 [(8, .int (nI (gapN P i dw gs))), (7, .int (yn (wasQ P i dw gs))), (6, .int (yn (bubQ P dw gs))), (5, .int (nI dt)), (4, .int (nI gs)), (3, .int (nI dw)), (2, .int (nI (26 + (5 * i)))), (0, .ref (a 0)), (1, .int (nI i))] → W p l e (rmK 1 0 0) s m args below meth c H locs 0 0 (MQ below (QV G (mW G a P Sp Hs sc T tl tp fa fr fn N) s.heap.size (fun v => v = mW G a (drawF P i) Sp Hs sc T tl tp fa fr fn N)) args s 0 0 (va_A (mW G a P Sp Hs sc T tl tp fa fr fn N) s.heap.size)) (F0 m 312 ls [.int (nI (if wasQ P i dw gs then 0 else dw)), .int (nI (P 15)), .int (nI 15), .ref (a 1)]) := by
                  intro  H locs w ls hl
                  refine r_iadd F dX8_draws_312 ?_
                  refine r_iast (ws' := mW G a (up (up (up (up (up (up (up (up (up (up P 11 ((P 11) - dw)) 12 ((P 12) - gs)) 13 ((P 13) - dt)) 23 ((P 23) + gs)) 25 ((P 25) + dt)) ((26 + (5 * i)) + 2) (gapG P i dw gs)) ((26 + (5 * i)) + 3) ((P ((26 + (5 * i)) + 3)) + dw)) ((26 + (5 * i)) + 4) ((P ((26 + (5 * i)) + 4)) + (if wasQ P i dw gs then dw else 0))) (19 + (if wasQ P i dw gs then 2 else 1)) ((P (19 + (if wasQ P i dw gs then 2 else 1))) + dw)) 15 ((P 15) + (if wasQ P i dw gs then 0 else dw))) Sp Hs sc T tl tp fa fr fn N) F w 1 rfl (by omega) (by decide) dX8_draws_313 rfl (fun H locs w => ?_)
                  refine lv_aload_n F.1 F.2.1 dX8_draws_314 rfl (lv_at hl 7 rfl) ?_
                  refine r_get F w 0 0 iX8 f7 rfl rfl rfl (by decide) rfl dX8_draws_315 ?_
                  refine lv_iload_n F.1 F.2.1 dX8_draws_318 rfl (lv_at hl 6 rfl) ?_
                  refine lv_iconst (v := nI 1) F.1 F.2.1 dX8_draws_319 (by decide) ?_
                  refine r_iadd F dX8_draws_320 ?_
                  refine lv_dup2_11 F.1 F.2.1 dX8_draws_321 rfl rfl ?_
                  refine r_iald F w 1 rfl (by omega) (by decide) dX8_draws_322 ?_
                  refine r_to (y := nI (P ((26 + (5 * i)) + 1))) (congrArg nI ((up_n _ _ (by omega)).trans ((up_n _ _ (by split <;> omega)).trans ((up_n _ _ (by omega)).trans ((up_n _ _ (by omega)).trans ((up_n _ _ (by omega)).trans ((up_n _ _ (by omega)).trans ((up_n _ _ (by omega)).trans ((up_n _ _ (by omega)).trans ((up_n _ _ (by omega)).trans (up_n _ _ (by omega)))))))))))) ?_
                  refine lv_iload F.1 F.2.1 dX8_draws_323 (lv_at hl 3 rfl) ?_
                  refine r_iadd F dX8_draws_325 ?_
                  refine r_iast (ws' := mW G a (up (up (up (up (up (up (up (up (up (up (up P 11 ((P 11) - dw)) 12 ((P 12) - gs)) 13 ((P 13) - dt)) 23 ((P 23) + gs)) 25 ((P 25) + dt)) ((26 + (5 * i)) + 2) (gapG P i dw gs)) ((26 + (5 * i)) + 3) ((P ((26 + (5 * i)) + 3)) + dw)) ((26 + (5 * i)) + 4) ((P ((26 + (5 * i)) + 4)) + (if wasQ P i dw gs then dw else 0))) (19 + (if wasQ P i dw gs then 2 else 1)) ((P (19 + (if wasQ P i dw gs then 2 else 1))) + dw)) 15 ((P 15) + (if wasQ P i dw gs then 0 else dw))) ((26 + (5 * i)) + 1) ((P ((26 + (5 * i)) + 1)) + dt)) Sp Hs sc T tl tp fa fr fn N) F w 1 rfl (by omega) (by decide) dX8_draws_326 rfl (fun H locs w => ?_)
                  refine lv_aload_n F.1 F.2.1 dX8_draws_327 rfl (lv_at hl 7 rfl) ?_
                  refine r_get F w 0 0 iX8 f7 rfl rfl rfl (by decide) rfl dX8_draws_328 ?_
                  refine lv_iload_n F.1 F.2.1 dX8_draws_331 rfl (lv_at hl 6 rfl) ?_
                  have L354 :  ∀ (H : Heap) (locs : List Loc), Wd G s (va_A (mW G a P Sp Hs sc T tl tp fa fr fn N) s.heap.size) (mW G a (up (up (up (up (up (up (up (up (up (up (up P 11 ((P 11) - dw)) 12 ((P 12) - gs)) 13 ((P 13) - dt)) 23 ((P 23) + gs)) 25 ((P 25) + dt)) ((26 + (5 * i)) + 2) (gapG P i dw gs)) ((26 + (5 * i)) + 3) ((P ((26 + (5 * i)) + 3)) + dw)) ((26 + (5 * i)) + 4) ((P ((26 + (5 * i)) + 4)) + (if wasQ P i dw gs then dw else 0))) (19 + (if wasQ P i dw gs then 2 else 1)) ((P (19 + (if wasQ P i dw gs then 2 else 1))) + dw)) 15 ((P 15) + (if wasQ P i dw gs then 0 else dw))) ((26 + (5 * i)) + 1) ((P ((26 + (5 * i)) + 1)) + dt)) Sp Hs sc T tl tp fa fr fn N) H locs → ∀ ls : Array Slot, lv_has ls 9 [(8, .int (nI (gapN P i dw gs))), (7, .int (yn (wasQ P i dw gs))), (6, .int (yn (bubQ P dw gs))), (5, .int (nI dt)), (4, .int (nI gs)), (3, .int (nI dw)), (2, .int (nI (26 + (5 * i)))), (0, .ref (a 0)), (1, .int (nI i))] → W p l e (rmK 1 0 0) s m args below meth c H locs 0 0 (MQ below (QV G (mW G a P Sp Hs sc T tl tp fa fr fn N) s.heap.size (fun v => v = mW G a (drawF P i) Sp Hs sc T tl tp fa fr fn N)) args s 0 0 (va_A (mW G a P Sp Hs sc T tl tp fa fr fn N) s.heap.size)) (F0 m 354 ls [.int (nI (if P 4 ≤ P (26 + 5 * i + 1) + dt then 1 else 0)), .int (nI (26 + (5 * i))), .ref (a 1)]) := by
                    intro  H locs w ls hl
                    refine r_iast (ws' := mW G a (up (up (up (up (up (up (up (up (up (up (up (up P 11 ((P 11) - dw)) 12 ((P 12) - gs)) 13 ((P 13) - dt)) 23 ((P 23) + gs)) 25 ((P 25) + dt)) ((26 + (5 * i)) + 2) (gapG P i dw gs)) ((26 + (5 * i)) + 3) ((P ((26 + (5 * i)) + 3)) + dw)) ((26 + (5 * i)) + 4) ((P ((26 + (5 * i)) + 4)) + (if wasQ P i dw gs then dw else 0))) (19 + (if wasQ P i dw gs then 2 else 1)) ((P (19 + (if wasQ P i dw gs then 2 else 1))) + dw)) 15 ((P 15) + (if wasQ P i dw gs then 0 else dw))) ((26 + (5 * i)) + 1) ((P ((26 + (5 * i)) + 1)) + dt)) (26 + (5 * i)) (if P 4 ≤ P (26 + 5 * i + 1) + dt then 1 else 0)) Sp Hs sc T tl tp fa fr fn N) F w 1 rfl (by omega) (by decide) dX8_draws_354 rfl (fun H locs w => ?_)
                    exact r_return F w dX8_draws_355 (by rw [drawF_at c25 e_dw e_gs e_dt]; rfl)
                  refine lv_aload_n F.1 F.2.1 dX8_draws_332 rfl (lv_at hl 7 rfl) ?_
                  refine r_get F w 0 0 iX8 f7 rfl rfl rfl (by decide) rfl dX8_draws_333 ?_
                  refine lv_iload_n F.1 F.2.1 dX8_draws_336 rfl (lv_at hl 6 rfl) ?_
                  refine lv_iconst (v := nI 1) F.1 F.2.1 dX8_draws_337 (by decide) ?_
                  refine r_iadd F dX8_draws_338 ?_
                  refine r_iald F w 1 rfl (by omega) (by decide) dX8_draws_339 ?_
                  refine r_to (y := nI ((P ((26 + (5 * i)) + 1)) + dt)) (congrArg nI (up_s _ _ _)) ?_
                  refine lv_aload_n F.1 F.2.1 dX8_draws_340 rfl (lv_at hl 7 rfl) ?_
                  refine r_get F w 0 0 iX8 f7 rfl rfl rfl (by decide) rfl dX8_draws_341 ?_
                  refine lv_iconst (v := nI 4) F.1 F.2.1 dX8_draws_344 (by decide) ?_
                  refine r_iald F w 1 rfl (by omega) (by decide) dX8_draws_345 ?_
                  refine r_to (y := nI (P 4)) (congrArg nI ((up_n _ _ (by omega)).trans ((up_n _ _ (by decide)).trans ((up_n _ _ (by split <;> omega)).trans ((up_n _ _ (by omega)).trans ((up_n _ _ (by omega)).trans ((up_n _ _ (by omega)).trans ((up_n _ _ (by decide)).trans ((up_n _ _ (by decide)).trans ((up_n _ _ (by decide)).trans ((up_n _ _ (by decide)).trans (up_n _ _ (by decide))))))))))))) ?_
                  refine r_clt (tgt := 353) F dX8_draws_346 (by decide) (by omega) (by omega) (fun c346 => ?_) (fun c346 => ?_)
                  · skip
                    refine lv_iconst (v := nI 0) F.1 F.2.1 dX8_draws_353 (by decide) ?_
                    refine r_to (y := (nI (if P 4 ≤ P (26 + 5 * i + 1) + dt then 1 else 0))) (congrArg nI (by first | rw [if_pos (by omega)] | rw [if_neg (by omega)])) ?_
                    exact L354  _ _ w ls (lv_sub hl [0, 1, 2, 3, 4, 5, 6, 7, 8] rfl)
                  · skip
                    refine lv_iconst (v := nI 1) F.1 F.2.1 dX8_draws_349 (by decide) ?_
                    refine lv_goto (tgt := 354) F.1 F.2.1 dX8_draws_350 (by decide) ?_
                    refine r_to (y := (nI (if P 4 ≤ P (26 + 5 * i + 1) + dt then 1 else 0))) (congrArg nI (by first | rw [if_pos (by omega)] | rw [if_neg (by omega)])) ?_
                    exact L354  _ _ w ls (lv_sub hl [0, 1, 2, 3, 4, 5, 6, 7, 8] rfl)
                refine lv_iload F.1 F.2.1 dX8_draws_302 (lv_at hl 1 rfl) ?_
                refine r_yeq (tgt := 311) F dX8_draws_304 (by decide) (fun c304 => ?_) (fun c304 => ?_)
                · skip
                  refine lv_iload_n F.1 F.2.1 dX8_draws_311 rfl (lv_at hl 5 rfl) ?_
                  refine r_to (y := (nI (if wasQ P i dw gs then 0 else dw))) (congrArg nI (by first | rw [if_pos c304] | rw [if_neg c304])) ?_
                  exact L312  _ _ w ls (lv_sub hl [0, 1, 2, 3, 4, 5, 6, 7, 8] rfl)
                · skip
                  refine lv_iconst (v := nI 0) F.1 F.2.1 dX8_draws_307 (by decide) ?_
                  refine lv_goto (tgt := 312) F.1 F.2.1 dX8_draws_308 (by decide) ?_
                  refine r_to (y := (nI (if wasQ P i dw gs then 0 else dw))) (congrArg nI (by first | rw [if_pos c304] | rw [if_neg c304])) ?_
                  exact L312  _ _ w ls (lv_sub hl [0, 1, 2, 3, 4, 5, 6, 7, 8] rfl)
              refine lv_iload F.1 F.2.1 dX8_draws_278 (lv_at hl 1 rfl) ?_
              refine r_yeq (tgt := 287) F dX8_draws_280 (by decide) (fun c280 => ?_) (fun c280 => ?_)
              · skip
                refine lv_iconst (v := nI 1) F.1 F.2.1 dX8_draws_287 (by decide) ?_
                refine r_to (y := (nI (if wasQ P i dw gs then 2 else 1))) (congrArg nI (by first | rw [if_pos c280] | rw [if_neg c280])) ?_
                exact L288  _ _ w ls (lv_sub hl [0, 1, 2, 3, 4, 5, 6, 7, 8] rfl)
              · skip
                refine lv_iconst (v := nI 2) F.1 F.2.1 dX8_draws_283 (by decide) ?_
                refine lv_goto (tgt := 288) F.1 F.2.1 dX8_draws_284 (by decide) ?_
                refine r_to (y := (nI (if wasQ P i dw gs then 2 else 1))) (congrArg nI (by first | rw [if_pos c280] | rw [if_neg c280])) ?_
                exact L288  _ _ w ls (lv_sub hl [0, 1, 2, 3, 4, 5, 6, 7, 8] rfl)
            refine lv_iload F.1 F.2.1 dX8_draws_260 (lv_at hl 1 rfl) ?_
            refine r_yeq (tgt := 269) F dX8_draws_262 (by decide) (fun c262 => ?_) (fun c262 => ?_)
            · skip
              refine lv_iconst (v := nI 0) F.1 F.2.1 dX8_draws_269 (by decide) ?_
              refine r_to (y := (nI (if wasQ P i dw gs then dw else 0))) (congrArg nI (by first | rw [if_pos c262] | rw [if_neg c262])) ?_
              exact L270  _ _ w ls (lv_sub hl [0, 1, 2, 3, 4, 5, 6, 7, 8] rfl)
            · skip
              refine lv_iload_n F.1 F.2.1 dX8_draws_265 rfl (lv_at hl 5 rfl) ?_
              refine lv_goto (tgt := 270) F.1 F.2.1 dX8_draws_266 (by decide) ?_
              refine r_to (y := (nI (if wasQ P i dw gs then dw else 0))) (congrArg nI (by first | rw [if_pos c262] | rw [if_neg c262])) ?_
              exact L270  _ _ w ls (lv_sub hl [0, 1, 2, 3, 4, 5, 6, 7, 8] rfl)
          refine lv_iload F.1 F.2.1 dX8_draws_215 (lv_at hl 2 rfl) ?_
          refine r_yne (tgt := 236) F dX8_draws_217 (by decide) (fun c217 => ?_) (fun c217 => ?_)
          · skip
            refine lv_iload F.1 F.2.1 dX8_draws_236 (lv_at hl 0 rfl) ?_
            refine r_to (y := (nI (gapG P i dw gs))) (congrArg nI (by first | exact (gapG_b c217).symm | exact (gapG_l c229).symm | exact (gapG_z c217 c229).symm)) ?_
            exact L238  _ _ w ls (lv_sub hl [0, 1, 2, 3, 4, 5, 6, 7, 8] rfl)
          · skip
            have hgn := gapN_le (w := dw) (g := gs) l2
            refine lv_iload F.1 F.2.1 dX8_draws_220 (lv_at hl 0 rfl) ?_
            refine lv_aload_n F.1 F.2.1 dX8_draws_222 rfl (lv_at hl 7 rfl) ?_
            refine r_get F w 0 0 iX8 f7 rfl rfl rfl (by decide) rfl dX8_draws_223 ?_
            refine lv_bipush (v := nI 7) F.1 F.2.1 dX8_draws_226 (by decide) ?_
            refine r_iald F w 1 rfl (by omega) (by decide) dX8_draws_228 ?_
            refine r_to (y := nI (P 7)) (congrArg nI ((up_n _ _ (by decide)).trans ((up_n _ _ (by decide)).trans ((up_n _ _ (by decide)).trans ((up_n _ _ (by decide)).trans (up_n _ _ (by decide))))))) ?_
            refine r_cle (tgt := 236) F dX8_draws_229 (by decide) (by omega) (by omega) (fun c229 => ?_) (fun c229 => ?_)
            · skip
              refine lv_iload F.1 F.2.1 dX8_draws_236 (lv_at hl 0 rfl) ?_
              refine r_to (y := (nI (gapG P i dw gs))) (congrArg nI (by first | exact (gapG_b c217).symm | exact (gapG_l c229).symm | exact (gapG_z c217 c229).symm)) ?_
              exact L238  _ _ w ls (lv_sub hl [0, 1, 2, 3, 4, 5, 6, 7, 8] rfl)
            · skip
              refine lv_iconst (v := nI 0) F.1 F.2.1 dX8_draws_232 (by decide) ?_
              refine lv_goto (tgt := 238) F.1 F.2.1 dX8_draws_233 (by decide) ?_
              refine r_to (y := (nI (gapG P i dw gs))) (congrArg nI (by first | exact (gapG_b c217).symm | exact (gapG_l c229).symm | exact (gapG_z c217 c229).symm)) ?_
              exact L238  _ _ w ls (lv_sub hl [0, 1, 2, 3, 4, 5, 6, 7, 8] rfl)
        refine lv_iload F.1 F.2.1 dX8_draws_172 (lv_at hl 1 rfl) ?_
        refine r_yeq (tgt := 181) F dX8_draws_174 (by decide) (fun c174 => ?_) (fun c174 => ?_)
        · skip
          refine lv_aload_n F.1 F.2.1 dX8_draws_181 rfl (lv_at hl 6 rfl) ?_
          refine r_get F w 0 0 iX8 f7 rfl rfl rfl (by decide) rfl dX8_draws_182 ?_
          refine lv_iload_n F.1 F.2.1 dX8_draws_185 rfl (lv_at hl 5 rfl) ?_
          refine lv_iconst (v := nI 2) F.1 F.2.1 dX8_draws_186 (by decide) ?_
          refine r_iadd F dX8_draws_187 ?_
          refine r_iald F w 1 rfl (by omega) (by decide) dX8_draws_188 ?_
          refine r_to (y := nI (P ((26 + (5 * i)) + 2))) (congrArg nI ((up_n _ _ (by omega)).trans ((up_n _ _ (by omega)).trans ((up_n _ _ (by omega)).trans ((up_n _ _ (by omega)).trans (up_n _ _ (by omega))))))) ?_
          refine r_zle (tgt := 205) F dX8_draws_189 (by decide) (by omega) (fun c189 => ?_) (fun c189 => ?_)
          · skip
            refine lv_iconst (v := nI 0) F.1 F.2.1 dX8_draws_205 (by decide) ?_
            refine r_to (y := (nI (gapN P i dw gs))) (congrArg nI (by unfold gapN; first | rw [if_pos c174] | rw [if_neg c174, if_pos (Nat.pos_of_ne_zero c189)] | rw [if_neg c174, if_neg (by omega)])) ?_
            exact L206  _ _ w ls (lv_sub hl [0, 1, 2, 3, 4, 5, 6, 7] rfl)
          · skip
            refine lv_aload_n F.1 F.2.1 dX8_draws_192 rfl (lv_at hl 6 rfl) ?_
            refine r_get F w 0 0 iX8 f7 rfl rfl rfl (by decide) rfl dX8_draws_193 ?_
            refine lv_iload_n F.1 F.2.1 dX8_draws_196 rfl (lv_at hl 5 rfl) ?_
            refine lv_iconst (v := nI 2) F.1 F.2.1 dX8_draws_197 (by decide) ?_
            refine r_iadd F dX8_draws_198 ?_
            refine r_iald F w 1 rfl (by omega) (by decide) dX8_draws_199 ?_
            refine r_to (y := nI (P ((26 + (5 * i)) + 2))) (congrArg nI ((up_n _ _ (by omega)).trans ((up_n _ _ (by omega)).trans ((up_n _ _ (by omega)).trans ((up_n _ _ (by omega)).trans (up_n _ _ (by omega))))))) ?_
            refine lv_iconst (v := nI 1) F.1 F.2.1 dX8_draws_200 (by decide) ?_
            refine r_iadd F dX8_draws_201 ?_
            refine lv_goto (tgt := 206) F.1 F.2.1 dX8_draws_202 (by decide) ?_
            refine r_to (y := (nI (gapN P i dw gs))) (congrArg nI (by unfold gapN; first | rw [if_pos c174] | rw [if_neg c174, if_pos (Nat.pos_of_ne_zero c189)] | rw [if_neg c174, if_neg (by omega)])) ?_
            exact L206  _ _ w ls (lv_sub hl [0, 1, 2, 3, 4, 5, 6, 7] rfl)
        · skip
          refine lv_iconst (v := nI 1) F.1 F.2.1 dX8_draws_177 (by decide) ?_
          refine lv_goto (tgt := 206) F.1 F.2.1 dX8_draws_178 (by decide) ?_
          refine r_to (y := (nI (gapN P i dw gs))) (congrArg nI (by unfold gapN; first | rw [if_pos c174] | rw [if_neg c174, if_pos (Nat.pos_of_ne_zero c189)] | rw [if_neg c174, if_neg (by omega)])) ?_
          exact L206  _ _ w ls (lv_sub hl [0, 1, 2, 3, 4, 5, 6, 7] rfl)
      refine lv_iload F.1 F.2.1 dX8_draws_149 (lv_at hl 0 rfl) ?_
      refine r_yne (tgt := 165) F dX8_draws_151 (by decide) (fun c151 => ?_) (fun c151 => ?_)
      · skip
        refine lv_iconst (v := nI 1) F.1 F.2.1 dX8_draws_165 (by decide) ?_
        refine lv_goto (tgt := 170) F.1 F.2.1 dX8_draws_166 (by decide) ?_
        refine r_to (y := (yn (wasQ P i dw gs))) (by first | exact yn_t (Or.inl c151) | exact yn_t (Or.inr (Nat.pos_of_ne_zero c162)) | exact yn_f (fun q => q.elim c151 (fun z => by omega))) ?_
        exact L170  _ _ w ls (lv_sub hl [0, 1, 2, 3, 4, 5, 6] rfl)
      · skip
        refine lv_aload_n F.1 F.2.1 dX8_draws_154 rfl (lv_at hl 5 rfl) ?_
        refine r_get F w 0 0 iX8 f7 rfl rfl rfl (by decide) rfl dX8_draws_155 ?_
        refine lv_iload_n F.1 F.2.1 dX8_draws_158 rfl (lv_at hl 4 rfl) ?_
        refine lv_iconst (v := nI 2) F.1 F.2.1 dX8_draws_159 (by decide) ?_
        refine r_iadd F dX8_draws_160 ?_
        refine r_iald F w 1 rfl (by omega) (by decide) dX8_draws_161 ?_
        refine r_to (y := nI (P ((26 + (5 * i)) + 2))) (congrArg nI ((up_n _ _ (by omega)).trans ((up_n _ _ (by omega)).trans ((up_n _ _ (by omega)).trans ((up_n _ _ (by omega)).trans (up_n _ _ (by omega))))))) ?_
        refine r_zle (tgt := 169) F dX8_draws_162 (by decide) (by omega) (fun c162 => ?_) (fun c162 => ?_)
        · skip
          refine lv_iconst (v := nI 0) F.1 F.2.1 dX8_draws_169 (by decide) ?_
          refine r_to (y := (yn (wasQ P i dw gs))) (by first | exact yn_t (Or.inl c151) | exact yn_t (Or.inr (Nat.pos_of_ne_zero c162)) | exact yn_f (fun q => q.elim c151 (fun z => by omega))) ?_
          exact L170  _ _ w ls (lv_sub hl [0, 1, 2, 3, 4, 5, 6] rfl)
        · skip
          refine lv_iconst (v := nI 1) F.1 F.2.1 dX8_draws_165 (by decide) ?_
          refine lv_goto (tgt := 170) F.1 F.2.1 dX8_draws_166 (by decide) ?_
          refine r_to (y := (yn (wasQ P i dw gs))) (by first | exact yn_t (Or.inl c151) | exact yn_t (Or.inr (Nat.pos_of_ne_zero c162)) | exact yn_f (fun q => q.elim c151 (fun z => by omega))) ?_
          exact L170  _ _ w ls (lv_sub hl [0, 1, 2, 3, 4, 5, 6] rfl)
    refine r_cle (tgt := 146) F dX8_draws_139 (by decide) (by have := Nat.div_le_self (100 * gs) dw; omega) (by omega) (fun c139 => ?_) (fun c139 => ?_)
    · skip
      refine lv_iconst (v := nI 0) F.1 F.2.1 dX8_draws_146 (by decide) ?_
      refine r_to (y := (yn (bubQ P dw gs))) (by first | exact yn_t c139 | exact yn_f c139) ?_
      exact L147  _ _ w ls (lv_sub hl [0, 1, 2, 3, 4, 5] rfl)
    · skip
      refine lv_iconst (v := nI 1) F.1 F.2.1 dX8_draws_142 (by decide) ?_
      refine lv_goto (tgt := 147) F.1 F.2.1 dX8_draws_143 (by decide) ?_
      refine r_to (y := (yn (bubQ P dw gs))) (by first | exact yn_t c139 | exact yn_f c139) ?_
      exact L147  _ _ w ls (lv_sub hl [0, 1, 2, 3, 4, 5] rfl)
  · skip
    exact r_return F w dX8_draws_28 (by rw [drawF, if_pos (by omega)])
