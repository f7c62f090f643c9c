def ajl (T : Nat → Nat) (tl : Nat) (P lo : Nat → Nat) : Nat → (Nat → Nat)
  | 0 => lo
  | j + 1 => up (ajl T tl P lo j) (aj T tl P j 8) (top (aj T tl P j))
set_option maxRecDepth 100000 in
set_option maxHeartbeats 4000000 in
theorem c_X4_read (l : Launch) (G : KG) (q0 v0 q1 v1 q2 v2 : Nat) (ra rc xa pb : Nat → Nat) (fi re nu nx : Nat) (N : Nat → Nat) (tl : Nat) (T P lo : Nat → Nat) (sz hg : Nat) (kd ln dn mo l0 : Nat → Nat) (hT : TxtOk T) (h1 : tl ≤ 100) (h8 : P 8 ≤ 20) : MetVX l yX4_read wsX4_read 7 0 0 G (readH G ra rc fi re nu nx N ++ (textW G xa tl T ++ (coreW G rc sz hg kd ln dn mo l0 ++ (coreW G pb (P 8) (top P) (kdP P) (lnP P) (dnP P) (moP P) lo)))) [.ref (ra 0), .ref (xa 0), .ref (pb 0)] (wrdX q0 v0 q1 v1 q2 v2) (fun v => (txR T tl (P 8) = 0 ∧ ∃ (f2 x2 : Nat) (M : Nat → Nat), v = readH G ra rc f2 0 0 x2 M ++ (textW G xa tl T ++ (coreW G rc ((aj T tl P (lj T tl (P 8))) 8) (top (aj T tl P (lj T tl (P 8)))) (kdP (aj T tl P (lj T tl (P 8)))) (lnP (aj T tl P (lj T tl (P 8)))) (dnP (aj T tl P (lj T tl (P 8)))) (moP (aj T tl P (lj T tl (P 8)))) (ajl T tl P lo (lj T tl (P 8))) ++ (coreW G pb (P 8) (top P) (kdP P) (lnP P) (dnP P) (moP P) lo)))) ∨ (txR T tl (P 8) ≠ 0 ∧ ∃ (x2 : Nat) (M : Nat → Nat), v = readH G ra rc (qj T tl (lj T tl (P 8))) (txR T tl (P 8)) (sgN T tl (qj T tl (lj T tl (P 8)))) x2 M ++ (textW G xa tl T ++ (coreW G rc ((aj T tl P (lj T tl (P 8))) 8) (top (aj T tl P (lj T tl (P 8)))) (kdP (aj T tl P (lj T tl (P 8)))) (lnP (aj T tl P (lj T tl (P 8)))) (dnP (aj T tl P (lj T tl (P 8)))) (moP (aj T tl P (lj T tl (P 8)))) (ajl T tl P lo (lj T tl (P 8))) ++ (coreW G pb (P 8) (top P) (kdP P) (lnP P) (dnP P) (moP P) lo))))) := by
  refine MetVX.by (cc := cX4_read) (nL := 4) (ret := none) (by decide +kernel) rfl (Nat.le_of_ble_eq_true rfl) ?_
  intro p e s m args below meth c F hname hX w ls hl
  have hl : lv_has ls 4 [(0, .ref (ra 0)), (1, .ref (xa 0)), (2, .ref (pb 0))] := hl
  have hts := F.ts
  have iX4 : ∀ w ∈ wsX40, w ∈ wsX4_read := by decide +kernel
  have iX5 : ∀ w ∈ wsX50, w ∈ wsX4_read := by decide +kernel
  have f10 := hts (.fieldLink RX4 10 "CoreMelter$Reading" "core" "LCoreMelter$Core;") (by decide +kernel)
  have f24 := hts (.fieldLink RX4 24 "CoreMelter$Reading" "reason" "I") (by decide +kernel)
  have f28 := hts (.fieldLink RX4 28 "CoreMelter$Reading" "number" "I") (by decide +kernel)
  have f31 := hts (.fieldLink RX4 31 "CoreMelter$Reading" "next" "I") (by decide +kernel)
  have f34 := hts (.fieldLink RX4 34 "CoreMelter$Text" "length" "I") (by decide +kernel)
  have f39 := hts (.fieldLink RX4 39 "CoreMelter$Reading" "first" "I") (by decide +kernel)
  refine lv_aload_n F.1 F.2.1 dX4_read_0 rfl (lv_at hl 0 rfl) ?_
  refine r_get F w 0 0 iX4 f10 rfl rfl rfl (by decide) rfl dX4_read_1 ?_
  refine lv_aload_n F.1 F.2.1 dX4_read_4 rfl (lv_at hl 2 rfl) ?_
  refine r_callVV (rest := []) F w (c_X0_copyFrom l G rc sz hg kd ln dn mo l0 pb (P 8) (top P) (kdP P) (lnP P) (dnP P) (moP P) lo) gX4_read_X0_copyFrom [4, 5, 6, 7, 8, 9, 10, 11, 12, 13, 14, 15] [0, 1, 2, 3] (nA0 := 1) rfl (by decide +kernel) rfl ⟨Nat.le_of_ble_eq_true rfl, Nat.le_of_ble_eq_true rfl⟩ ⟨Nat.le_of_ble_eq_true rfl, Nat.le_of_ble_eq_true rfl⟩ rfl rfl rfl rfl rfl rfl rfl hl rfl (Nat.le_of_ble_eq_true rfl) dX4_read_5 (fun w1 H locs hp w => ?_)
  obtain rfl := hp
  have w := w.sub (ws' := readH G ra rc fi re nu nx N ++ (textW G xa tl T ++ (coreW G rc (P 8) (top P) (kdP P) (lnP P) (dnP P) (moP P) lo ++ (coreW G pb (P 8) (top P) (kdP P) (lnP P) (dnP P) (moP P) lo)))) [0, 1, 2, 3, 4, 5, 6, 7, 8, 9, 10, 11, 12, 13, 14, 15] (by decide) rfl
  refine lv_aload_n F.1 F.2.1 dX4_read_8 rfl (lv_at hl 0 rfl) ?_
  refine lv_iconst (v := nI 0) F.1 F.2.1 dX4_read_9 (by decide) ?_
  refine r_put (ws' := readH G ra rc fi 0 nu nx N ++ (textW G xa tl T ++ (coreW G rc (P 8) (top P) (kdP P) (lnP P) (dnP P) (moP P) lo ++ (coreW G pb (P 8) (top P) (kdP P) (lnP P) (dnP P) (moP P) lo)))) F w 0 2 iX4 okX4 f24 rfl rfl rfl (by decide) (by decide +kernel) (Nat.le_of_ble_eq_true rfl) dX4_read_10 rfl (fun H locs w => ?_)
  refine lv_aload_n F.1 F.2.1 dX4_read_13 rfl (lv_at hl 0 rfl) ?_
  refine lv_iconst (v := nI 0) F.1 F.2.1 dX4_read_14 (by decide) ?_
  refine r_put (ws' := readH G ra rc fi 0 0 nx N ++ (textW G xa tl T ++ (coreW G rc (P 8) (top P) (kdP P) (lnP P) (dnP P) (moP P) lo ++ (coreW G pb (P 8) (top P) (kdP P) (lnP P) (dnP P) (moP P) lo)))) F w 0 3 iX4 okX4 f28 rfl rfl rfl (by decide) (by decide +kernel) (Nat.le_of_ble_eq_true rfl) dX4_read_15 rfl (fun H locs w => ?_)
  refine lv_aload_n F.1 F.2.1 dX4_read_18 rfl (lv_at hl 0 rfl) ?_
  refine lv_iconst (v := nI 0) F.1 F.2.1 dX4_read_19 (by decide) ?_
  refine r_put (ws' := readH G ra rc fi 0 0 0 N ++ (textW G xa tl T ++ (coreW G rc (P 8) (top P) (kdP P) (lnP P) (dnP P) (moP P) lo ++ (coreW G pb (P 8) (top P) (kdP P) (lnP P) (dnP P) (moP P) lo)))) F w 0 4 iX4 okX4 f31 rfl rfl rfl (by decide) (by decide +kernel) (Nat.le_of_ble_eq_true rfl) dX4_read_20 rfl (fun H locs w => ?_)
  refine lv_iconst (v := nI 0) F.1 F.2.1 dX4_read_23 (by decide) ?_
  refine lv_istore_n (lv' := [(3, .int (nI 0)), (0, .ref (ra 0)), (1, .ref (xa 0)), (2, .ref (pb 0))]) F.1 F.2.1 dX4_read_24 rfl hl (by decide) rfl (fun ls hl => ?_)
  have L25 : ∀ n : Nat, ∀ (u f2 : Nat) (M : Nat → Nat), (P 8 + u ≤ 20) → (∀ j, j < u → gdN T tl (P 8) j < 1) → (qj T tl u ≤ tl) → 21 - u < n → ∀ (H : Heap) (locs : List Loc), Wd G s (va_A (readH G ra rc fi re nu nx N ++ (textW G xa tl T ++ (coreW G rc sz hg kd ln dn mo l0 ++ (coreW G pb (P 8) (top P) (kdP P) (lnP P) (dnP P) (moP P) lo)))) s.heap.size) (readH G ra rc f2 0 0 (qj T tl u) M ++ (textW G xa tl T ++ (coreW G rc ((aj T tl P u) 8) (top (aj T tl P u)) (kdP (aj T tl P u)) (lnP (aj T tl P u)) (dnP (aj T tl P u)) (moP (aj T tl P u)) (ajl T tl P lo u) ++ (coreW G pb (P 8) (top P) (kdP P) (lnP P) (dnP P) (moP P) lo)))) H locs → ∀ ls : Array Slot, lv_has ls 4 [(0, .ref (ra 0)), (1, .ref (xa 0)), (2, .ref (pb 0)), (3, .int (nI u))] → W p l e (rmK 7 0 0) s m args below meth c H locs 0 0 (MQ below (QV G (readH G ra rc fi re nu nx N ++ (textW G xa tl T ++ (coreW G rc sz hg kd ln dn mo l0 ++ (coreW G pb (P 8) (top P) (kdP P) (lnP P) (dnP P) (moP P) lo)))) s.heap.size (fun v => (txR T tl (P 8) = 0 ∧ ∃ (f2 x2 : Nat) (M : Nat → Nat), v = readH G ra rc f2 0 0 x2 M ++ (textW G xa tl T ++ (coreW G rc ((aj T tl P (lj T tl (P 8))) 8) (top (aj T tl P (lj T tl (P 8)))) (kdP (aj T tl P (lj T tl (P 8)))) (lnP (aj T tl P (lj T tl (P 8)))) (dnP (aj T tl P (lj T tl (P 8)))) (moP (aj T tl P (lj T tl (P 8)))) (ajl T tl P lo (lj T tl (P 8))) ++ (coreW G pb (P 8) (top P) (kdP P) (lnP P) (dnP P) (moP P) lo)))) ∨ (txR T tl (P 8) ≠ 0 ∧ ∃ (x2 : Nat) (M : Nat → Nat), v = readH G ra rc (qj T tl (lj T tl (P 8))) (txR T tl (P 8)) (sgN T tl (qj T tl (lj T tl (P 8)))) x2 M ++ (textW G xa tl T ++ (coreW G rc ((aj T tl P (lj T tl (P 8))) 8) (top (aj T tl P (lj T tl (P 8)))) (kdP (aj T tl P (lj T tl (P 8)))) (lnP (aj T tl P (lj T tl (P 8)))) (dnP (aj T tl P (lj T tl (P 8)))) (moP (aj T tl P (lj T tl (P 8)))) (ajl T tl P lo (lj T tl (P 8))) ++ (coreW G pb (P 8) (top P) (kdP P) (lnP P) (dnP P) (moP P) lo)))))) args s 0 0 (va_A (readH G ra rc fi re nu nx N ++ (textW G xa tl T ++ (coreW G rc sz hg kd ln dn mo l0 ++ (coreW G pb (P 8) (top P) (kdP P) (lnP P) (dnP P) (moP P) lo)))) s.heap.size)) (F0 m 25 ls []) := by
    intro n
    induction n with
    | zero => intro u f2 M h2 h3 h4 hm; exact absurd hm (Nat.not_lt_zero _)
    | succ n ih25 =>
      intro u f2 M h2 h3 h4 hm25 H locs w ls hl
      refine lv_iload_n F.1 F.2.1 dX4_read_25 rfl (lv_at hl 3 rfl) ?_
      refine lv_bipush (v := nI 20) F.1 F.2.1 dX4_read_26 (by decide) ?_
      refine r_cgt (tgt := 68) F dX4_read_28 (by decide) (by omega) (by omega) (fun c28 => ?_) (fun c28 => ?_)
      · exact absurd c28 (by omega)
      · skip
        refine lv_aload_n F.1 F.2.1 dX4_read_31 rfl (lv_at hl 0 rfl) ?_
        refine r_get F w 0 4 iX4 f31 rfl rfl rfl (by decide) rfl dX4_read_32 ?_
        refine lv_aload_n F.1 F.2.1 dX4_read_35 rfl (lv_at hl 1 rfl) ?_
        refine r_get F w 2 0 iX5 f34 rfl rfl rfl (by decide) rfl dX4_read_36 ?_
        refine r_cge (tgt := 68) F dX4_read_39 (by decide) (by omega) (by omega) (fun c39 => ?_) (fun c39 => ?_)
        · skip
          have hlj := lj_at h3 (fun z => c39 z.1)
          have htx : txR T tl (P 8) = 0 := by unfold txR; rw [hlj, if_neg c39]
          exact r_return F w dX4_read_68 (Or.inl ⟨htx, _, _, _, by rw [hlj]⟩)
        · skip
          refine lv_aload_n F.1 F.2.1 dX4_read_42 rfl (lv_at hl 0 rfl) ?_
          refine r_get F w 0 2 iX4 f24 rfl rfl rfl (by decide) rfl dX4_read_43 ?_
          refine r_zne (tgt := 68) F dX4_read_46 (by decide) (by have := sgR_le T tl (qj T tl u) (aj T tl P u 8); omega) (fun c46 => ?_) (fun c46 => ?_)
          · exact absurd rfl c46
          · skip
            refine lv_aload_n F.1 F.2.1 dX4_read_49 rfl (lv_at hl 0 rfl) ?_
            refine lv_aload_n F.1 F.2.1 dX4_read_50 rfl (lv_at hl 0 rfl) ?_
            refine r_get F w 0 4 iX4 f31 rfl rfl rfl (by decide) rfl dX4_read_51 ?_
            refine r_put (ws' := readH G ra rc (qj T tl u) 0 0 (qj T tl u) M ++ (textW G xa tl T ++ (coreW G rc ((aj T tl P u) 8) (top (aj T tl P u)) (kdP (aj T tl P u)) (lnP (aj T tl P u)) (dnP (aj T tl P u)) (moP (aj T tl P u)) (ajl T tl P lo u) ++ (coreW G pb (P 8) (top P) (kdP P) (lnP P) (dnP P) (moP P) lo)))) F w 0 1 iX4 okX4 f39 rfl rfl rfl (by decide) (by decide +kernel) (Nat.le_of_ble_eq_true rfl) dX4_read_54 rfl (fun H locs w => ?_)
            refine lv_aload_n F.1 F.2.1 dX4_read_57 rfl (lv_at hl 0 rfl) ?_
            refine lv_aload_n F.1 F.2.1 dX4_read_58 rfl (lv_at hl 1 rfl) ?_
            by_cases hf : sgR T tl (qj T tl u) (aj T tl P u 8) = 0
            · skip
              have hf2 : sgR T tl (qj T tl u) (P 8 + u) = 0 := by rw [← aj_8 T tl P u]; exact hf
              refine x_callVV (fine_wrd _ _ _ _ _ _) hX (rest := []) (wr := coreW G pb (P 8) (top P) (kdP P) (lnP P) (dnP P) (moP P) lo) F w (c_X4_readSegment l G q0 v0 q1 v1 q2 v2 ra rc xa (qj T tl u) 0 (qj T tl u) M tl T (aj T tl P u) (ajl T tl P lo u) hT h1 h4 (by rw [aj_8]; exact h2)) ((congrArg (HAppend.hAppend _) (List.append_assoc _ _ _).symm).trans (List.append_assoc _ _ _).symm) gX4_read_X4_readSegment (nA0 := 1) rfl (by decide +kernel) rfl ⟨Nat.le_of_ble_eq_true rfl, Nat.le_of_ble_eq_true rfl⟩ ⟨Nat.le_of_ble_eq_true rfl, Nat.le_of_ble_eq_true rfl⟩ rfl rfl hl rfl (Nat.le_of_ble_eq_true rfl) dX4_read_59 (fun w1 H locs hp w => ?_)
              obtain (⟨e0, N2, rfl⟩ | ⟨e0, e9⟩) := hp
              rotate_left
              · exact absurd hf e0
              have w := w.is (ws' := readH G ra rc (qj T tl u) 0 0 (sgE T tl (qj T tl u)) N2 ++ (textW G xa tl T ++ (coreW G rc ((addF (aj T tl P u) (kdT T tl (qj T tl u)) (sgD T tl (qj T tl u) 0) (sgD T tl (qj T tl u) 1) (sgD T tl (qj T tl u) 2)) 8) (top (addF (aj T tl P u) (kdT T tl (qj T tl u)) (sgD T tl (qj T tl u) 0) (sgD T tl (qj T tl u) 1) (sgD T tl (qj T tl u) 2))) (kdP (addF (aj T tl P u) (kdT T tl (qj T tl u)) (sgD T tl (qj T tl u) 0) (sgD T tl (qj T tl u) 1) (sgD T tl (qj T tl u) 2))) (lnP (addF (aj T tl P u) (kdT T tl (qj T tl u)) (sgD T tl (qj T tl u) 0) (sgD T tl (qj T tl u) 1) (sgD T tl (qj T tl u) 2))) (dnP (addF (aj T tl P u) (kdT T tl (qj T tl u)) (sgD T tl (qj T tl u) 0) (sgD T tl (qj T tl u) 1) (sgD T tl (qj T tl u) 2))) (moP (addF (aj T tl P u) (kdT T tl (qj T tl u)) (sgD T tl (qj T tl u) 0) (sgD T tl (qj T tl u) 1) (sgD T tl (qj T tl u) 2))) (up (ajl T tl P lo u) ((aj T tl P u) 8) (top (aj T tl P u))) ++ (coreW G pb (P 8) (top P) (kdP P) (lnP P) (dnP P) (moP P) lo)))) ((congrArg (HAppend.hAppend _) (List.append_assoc _ _ _).symm).trans (List.append_assoc _ _ _).symm).symm
              refine lv_iinc (v := nI (u + 1)) (lv' := [(3, .int (nI (u + 1))), (0, .ref (ra 0)), (1, .ref (xa 0)), (2, .ref (pb 0))]) F.1 F.2.1 dX4_read_62 hl (k := 3) rfl (nI_add _ _) (by decide) rfl (fun ls hl => ?_)
              refine lv_goto (tgt := 25) F.1 F.2.1 dX4_read_65 (by decide) ?_
              exact ih25 (u + 1) (qj T tl u) N2 (by have := gd_20 (gdN_lt.mpr ⟨c39, hf2⟩); omega) (fun j hj => by rcases Nat.lt_succ_iff_lt_or_eq.mp hj with q | q; exact h3 j q; rw [q]; exact gdN_lt.mpr ⟨c39, hf2⟩) (sgE_in hf2) (by omega) _ _ w ls (lv_sub hl [1, 2, 3, 0] rfl)
            · skip
              have hf2 : ¬ sgR T tl (qj T tl u) (P 8 + u) = 0 := by rw [← aj_8 T tl P u]; exact hf
              have hlj := lj_at h3 (fun z => hf2 z.2)
              have htx : txR T tl (P 8) = sgR T tl (qj T tl u) (aj T tl P u 8) := by unfold txR; rw [hlj, if_pos c39, aj_8]
              refine x_callVV (fine_wrd _ _ _ _ _ _) hX (rest := []) (wr := coreW G pb (P 8) (top P) (kdP P) (lnP P) (dnP P) (moP P) lo) F w (c_X4_readSegment l G q0 v0 q1 v1 q2 v2 ra rc xa (qj T tl u) 0 (qj T tl u) M tl T (aj T tl P u) (ajl T tl P lo u) hT h1 h4 (by rw [aj_8]; exact h2)) ((congrArg (HAppend.hAppend _) (List.append_assoc _ _ _).symm).trans (List.append_assoc _ _ _).symm) gX4_read_X4_readSegment (nA0 := 1) rfl (by decide +kernel) rfl ⟨Nat.le_of_ble_eq_true rfl, Nat.le_of_ble_eq_true rfl⟩ ⟨Nat.le_of_ble_eq_true rfl, Nat.le_of_ble_eq_true rfl⟩ rfl rfl hl rfl (Nat.le_of_ble_eq_true rfl) dX4_read_59 (fun w1 H locs hp w => ?_)
              obtain (⟨e0, e9⟩ | ⟨e0, x2, N2, hx2, rfl⟩) := hp
              · exact absurd e0 hf
              have w := w.is (ws' := readH G ra rc (qj T tl u) (sgR T tl (qj T tl u) ((aj T tl P u) 8)) (sgN T tl (qj T tl u)) x2 N2 ++ (textW G xa tl T ++ (coreW G rc ((aj T tl P u) 8) (top (aj T tl P u)) (kdP (aj T tl P u)) (lnP (aj T tl P u)) (dnP (aj T tl P u)) (moP (aj T tl P u)) (ajl T tl P lo u) ++ (coreW G pb (P 8) (top P) (kdP P) (lnP P) (dnP P) (moP P) lo)))) ((congrArg (HAppend.hAppend _) (List.append_assoc _ _ _).symm).trans (List.append_assoc _ _ _).symm).symm
              refine lv_iinc (v := nI (u + 1)) (lv' := [(3, .int (nI (u + 1))), (0, .ref (ra 0)), (1, .ref (xa 0)), (2, .ref (pb 0))]) F.1 F.2.1 dX4_read_62 hl (k := 3) rfl (nI_add _ _) (by decide) rfl (fun ls hl => ?_)
              refine lv_goto (tgt := 25) F.1 F.2.1 dX4_read_65 (by decide) ?_
              refine lv_iload_n F.1 F.2.1 dX4_read_25 rfl (lv_at hl 0 rfl) ?_
              refine lv_bipush (v := nI 20) F.1 F.2.1 dX4_read_26 (by decide) ?_
              refine r_cgt (tgt := 68) F dX4_read_28 (by decide) (by omega) (by omega) (fun c28 => ?_) (fun c28 => ?_)
              · skip
                
                exact r_return F w dX4_read_68 (Or.inr ⟨by rw [htx]; exact e0, x2, N2, by rw [htx, hlj]⟩)
              · skip
                refine lv_aload_n F.1 F.2.1 dX4_read_31 rfl (lv_at hl 1 rfl) ?_
                refine r_get F w 0 4 iX4 f31 rfl rfl rfl (by decide) rfl dX4_read_32 ?_
                refine lv_aload_n F.1 F.2.1 dX4_read_35 rfl (lv_at hl 2 rfl) ?_
                refine r_get F w 2 0 iX5 f34 rfl rfl rfl (by decide) rfl dX4_read_36 ?_
                refine r_cge (tgt := 68) F dX4_read_39 (by decide) (by omega) (by omega) (fun c39 => ?_) (fun c39 => ?_)
                · skip
                  
                  exact r_return F w dX4_read_68 (Or.inr ⟨by rw [htx]; exact e0, x2, N2, by rw [htx, hlj]⟩)
                · skip
                  refine lv_aload_n F.1 F.2.1 dX4_read_42 rfl (lv_at hl 1 rfl) ?_
                  refine r_get F w 0 2 iX4 f24 rfl rfl rfl (by decide) rfl dX4_read_43 ?_
                  refine r_zne (tgt := 68) F dX4_read_46 (by decide) (by have := sgR_le T tl (qj T tl u) (aj T tl P u 8); omega) (fun c46 => ?_) (fun c46 => ?_)
                  · skip
                    
                    exact r_return F w dX4_read_68 (Or.inr ⟨by rw [htx]; exact e0, x2, N2, by rw [htx, hlj]⟩)
                  · exact absurd c46 e0
  exact L25 _ 0 fi N h8 (fun j hj => absurd hj (Nat.not_lt_zero _)) (Nat.zero_le _) (Nat.lt_succ_self _) _ _ w ls (lv_sub hl [1, 2, 3, 0] rfl)

