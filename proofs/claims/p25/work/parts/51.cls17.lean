theorem c_X4_readWordK (l : Launch) (G : KG) (q0 v0 q1 v1 q2 v2 : Nat) (ra rc xa : Nat → Nat) (fi re nu nx : Nat) (N : Nat → Nat) (tl : Nat) (T : Nat → Nat) (hT : TxtOk T) (h1 : tl ≤ 100) (hn : nx ≤ tl) (hk : kdT T tl nx ≤ 2) : MetIX l yX4_readWord wsX4_readWord 5 G (readH G ra rc fi re nu nx N ++ (textW G xa tl T)) [.ref (ra 0), .ref (xa 0)] (wrdX q0 v0 q1 v1 q2 v2) (fun r v => r = nI (kdT T tl nx) ∧ v = readH G ra rc fi re nu (nx + wl T tl nx) N ++ (textW G xa tl T)) := by
  rcases (show kdT T tl nx = 0 ∨ kdT T tl nx = 1 ∨ kdT T tl nx = 2 by omega) with h | h | h
  · rw [h]; exact c_X4_readWord0 l G q0 v0 q1 v1 q2 v2 ra rc xa fi re nu nx N tl T hT h1 hn h
  · rw [h]; exact c_X4_readWord1 l G q0 v0 q1 v1 q2 v2 ra rc xa fi re nu nx N tl T hT h1 hn h
  · rw [h]; exact c_X4_readWord2 l G q0 v0 q1 v1 q2 v2 ra rc xa fi re nu nx N tl T hT h1 hn h
theorem nI_m1 {k : Nat} (h : k < 2 ^ 31) : nI k ≠ -1 := fun z => nI_pos h (by rw [z]; decide)
theorem ps_le {T : Nat → Nat} {tl q many : Nat} (hq : q ≤ tl) : ∀ {k : Nat}, k ≤ mi T tl q many → ps T tl q k ≤ tl
  | 0, _ => hq
  | k + 1, h => ps_in (ps_le hq (show k ≤ mi T tl q many by omega)) (nbN_lt.mp (ft_lt _ _ _ _ (show k < mi T tl q many by omega)))
theorem ps_100 {T : Nat → Nat} {tl nx : Nat} (h1 : tl ≤ 100) (hn : nx ≤ tl) (hme : mi T tl (nx + wl T tl nx) (mny T tl nx) = mny T tl nx) : ps T tl (nx + wl T tl nx) (mny T tl nx) < 2 ^ 31 := by
  have h2 := wl_le T tl nx
  have h3 := ps_le (T := T) (tl := tl) (q := nx + wl T tl nx) (many := mny T tl nx) (by omega) (k := mny T tl nx) (by omega)
  omega
set_option maxRecDepth 100000 in
set_option maxHeartbeats 4000000 in
theorem c_X4_readSegmentA (l : Launch) (G : KG) (q0 v0 q1 v1 q2 v2 : Nat) (ra rc xa : Nat → Nat) (fi re nx : Nat) (N : Nat → Nat) (tl : Nat) (T A lr : Nat → Nat) (hT : TxtOk T) (h1 : tl ≤ 100) (hn : nx ≤ tl) (h8 : A 8 ≤ 20) (hk : kdT T tl nx = 3) : MetVX l yX4_readSegment wsX4_readSegment 6 0 0 G (readH G ra rc fi re 0 nx N ++ (textW G xa tl T ++ (coreW G rc (A 8) (top A) (kdP A) (lnP A) (dnP A) (moP A) lr))) [.ref (ra 0), .ref (xa 0)] (wrdX q0 v0 q1 v1 q2 v2) (fun v => (sgR T tl nx (A 8) = 0 ∧ ∃ N2 : Nat → Nat, v = readH G ra rc fi re 0 (sgE T tl nx) N2 ++ (textW G xa tl T ++ (coreW G rc ((addF A (kdT T tl nx) (sgD T tl nx 0) (sgD T tl nx 1) (sgD T tl nx 2)) 8) (top (addF A (kdT T tl nx) (sgD T tl nx 0) (sgD T tl nx 1) (sgD T tl nx 2))) (kdP (addF A (kdT T tl nx) (sgD T tl nx 0) (sgD T tl nx 1) (sgD T tl nx 2))) (lnP (addF A (kdT T tl nx) (sgD T tl nx 0) (sgD T tl nx 1) (sgD T tl nx 2))) (dnP (addF A (kdT T tl nx) (sgD T tl nx 0) (sgD T tl nx 1) (sgD T tl nx 2))) (moP (addF A (kdT T tl nx) (sgD T tl nx 0) (sgD T tl nx 1) (sgD T tl nx 2))) (up lr (A 8) (top A))))) ∨ (sgR T tl nx (A 8) ≠ 0 ∧ ∃ (x2 : Nat) (N2 : Nat → Nat), x2 < 2 ^ 31 ∧ v = readH G ra rc fi (sgR T tl nx (A 8)) (sgN T tl nx) x2 N2 ++ (textW G xa tl T ++ (coreW G rc (A 8) (top A) (kdP A) (lnP A) (dnP A) (moP A) lr)))) := by
  refine MetVX.by (cc := cX4_readSegment) (nL := 3) (ret := none) (by decide +kernel) rfl (Nat.le_of_ble_eq_true rfl) ?_
  intro p e s m args below meth c F hname hX w ls hl
  have hl : lv_has ls 3 [(0, .ref (ra 0)), (1, .ref (xa 0))] := hl
  have hts := F.ts
  have iX4 : ∀ w ∈ wsX40, w ∈ wsX4_readSegment := by decide +kernel
  have f24 := hts (.fieldLink RX4 24 "CoreMelter$Reading" "reason" "I") (by decide +kernel)
  refine lv_aload_n F.1 F.2.1 dX4_readSegment_0 rfl (lv_at hl 0 rfl) ?_
  refine lv_aload_n F.1 F.2.1 dX4_readSegment_1 rfl (lv_at hl 1 rfl) ?_
  refine x_callVI (fine_wrd _ _ _ _ _ _) hX (rest := []) (wr := coreW G rc (A 8) (top A) (kdP A) (lnP A) (dnP A) (moP A) lr) F w (c_X4_readWord3 l G q0 v0 q1 v1 q2 v2 ra rc xa fi re 0 nx N tl T hT h1 hn hk) (List.append_assoc _ _ _).symm gX4_readSegment_X4_readWord (nA0 := 1) rfl (by decide +kernel) rfl ⟨Nat.le_of_ble_eq_true rfl, Nat.le_of_ble_eq_true rfl⟩ ⟨Nat.le_of_ble_eq_true rfl, Nat.le_of_ble_eq_true rfl⟩ rfl rfl hl rfl (Nat.le_of_ble_eq_true rfl) dX4_readSegment_2 (fun r_2 w1 H locs hp w => ?_)
  obtain ⟨rfl, rfl⟩ := hp
  have w := w.is (ws' := readH G ra rc fi re 0 (nx + wl T tl nx) N ++ (textW G xa tl T ++ (coreW G rc (A 8) (top A) (kdP A) (lnP A) (dnP A) (moP A) lr))) ((List.append_assoc _ _ _).symm).symm
  refine lv_istore_n (lv' := [(2, .int ((-1))), (0, .ref (ra 0)), (1, .ref (xa 0))]) F.1 F.2.1 dX4_readSegment_5 rfl hl (by decide) rfl (fun ls hl => ?_)
  refine lv_iload_n F.1 F.2.1 dX4_readSegment_6 rfl (lv_at hl 0 rfl) ?_
  refine lv_iconst (v := (-1)) F.1 F.2.1 dX4_readSegment_7 (by decide) ?_
  refine lv_icmp_ne (tgt := 17) F.1 F.2.1 dX4_readSegment_8 (by decide) (fun c8 => ?_) (fun c8 => ?_)
  · exact absurd rfl c8
  · skip
    refine lv_aload_n F.1 F.2.1 dX4_readSegment_11 rfl (lv_at hl 1 rfl) ?_
    refine lv_iconst (v := nI 1) F.1 F.2.1 dX4_readSegment_12 (by decide) ?_
    refine r_put (ws' := readH G ra rc fi 1 0 (nx + wl T tl nx) N ++ (textW G xa tl T ++ (coreW G rc (A 8) (top A) (kdP A) (lnP A) (dnP A) (moP A) lr))) F w 0 2 iX4 okX4 f24 rfl rfl rfl (by decide) (by decide +kernel) (Nat.le_of_ble_eq_true rfl) dX4_readSegment_13 rfl (fun H locs w => ?_)
    exact r_return F w dX4_readSegment_16 (Or.inr (by have e1 : sgR T tl nx (A 8) = 1 := (if_pos hk); have e2 : sgN T tl nx = 0 := (if_pos hk); exact ⟨by rw [e1]; decide, nx + wl T tl nx, _, (by have := wl_le T tl nx; omega), by rw [e1, e2]⟩))
set_option maxRecDepth 100000 in
set_option maxHeartbeats 4000000 in
theorem c_X4_readSegmentB (l : Launch) (G : KG) (q0 v0 q1 v1 q2 v2 : Nat) (ra rc xa : Nat → Nat) (fi re nx : Nat) (N : Nat → Nat) (tl : Nat) (T A lr : Nat → Nat) (hT : TxtOk T) (h1 : tl ≤ 100) (hn : nx ≤ tl) (h8 : A 8 ≤ 20) (hk : kdT T tl nx ≤ 2) : MetVX l yX4_readSegment wsX4_readSegment 6 0 0 G (readH G ra rc fi re 0 nx N ++ (textW G xa tl T ++ (coreW G rc (A 8) (top A) (kdP A) (lnP A) (dnP A) (moP A) lr))) [.ref (ra 0), .ref (xa 0)] (wrdX q0 v0 q1 v1 q2 v2) (fun v => (sgR T tl nx (A 8) = 0 ∧ ∃ N2 : Nat → Nat, v = readH G ra rc fi re 0 (sgE T tl nx) N2 ++ (textW G xa tl T ++ (coreW G rc ((addF A (kdT T tl nx) (sgD T tl nx 0) (sgD T tl nx 1) (sgD T tl nx 2)) 8) (top (addF A (kdT T tl nx) (sgD T tl nx 0) (sgD T tl nx 1) (sgD T tl nx 2))) (kdP (addF A (kdT T tl nx) (sgD T tl nx 0) (sgD T tl nx 1) (sgD T tl nx 2))) (lnP (addF A (kdT T tl nx) (sgD T tl nx 0) (sgD T tl nx 1) (sgD T tl nx 2))) (dnP (addF A (kdT T tl nx) (sgD T tl nx 0) (sgD T tl nx 1) (sgD T tl nx 2))) (moP (addF A (kdT T tl nx) (sgD T tl nx 0) (sgD T tl nx 1) (sgD T tl nx 2))) (up lr (A 8) (top A))))) ∨ (sgR T tl nx (A 8) ≠ 0 ∧ ∃ (x2 : Nat) (N2 : Nat → Nat), x2 < 2 ^ 31 ∧ v = readH G ra rc fi (sgR T tl nx (A 8)) (sgN T tl nx) x2 N2 ++ (textW G xa tl T ++ (coreW G rc (A 8) (top A) (kdP A) (lnP A) (dnP A) (moP A) lr)))) := by
  refine MetVX.by (cc := cX4_readSegment) (nL := 3) (ret := none) (by decide +kernel) rfl (Nat.le_of_ble_eq_true rfl) ?_
  intro p e s m args below meth c F hname hX w ls hl
  have hl : lv_has ls 3 [(0, .ref (ra 0)), (1, .ref (xa 0))] := hl
  have hts := F.ts
  have iX4 : ∀ w ∈ wsX40, w ∈ wsX4_readSegment := by decide +kernel
  have f10 := hts (.fieldLink RX4 10 "CoreMelter$Reading" "core" "LCoreMelter$Core;") (by decide +kernel)
  have f16 := hts (.fieldLink RX4 16 "CoreMelter$Reading" "numbers" "[I") (by decide +kernel)
  have f24 := hts (.fieldLink RX4 24 "CoreMelter$Reading" "reason" "I") (by decide +kernel)
  have f28 := hts (.fieldLink RX4 28 "CoreMelter$Reading" "number" "I") (by decide +kernel)
  have f31 := hts (.fieldLink RX4 31 "CoreMelter$Reading" "next" "I") (by decide +kernel)
  have hk3 : ¬ kdT T tl nx = 3 := by omega
  obtain ⟨hy1, hy3⟩ := mny_le T tl nx
  have hwl := wl_le T tl nx
  refine lv_aload_n F.1 F.2.1 dX4_readSegment_0 rfl (lv_at hl 0 rfl) ?_
  refine lv_aload_n F.1 F.2.1 dX4_readSegment_1 rfl (lv_at hl 1 rfl) ?_
  refine x_callVI (fine_wrd _ _ _ _ _ _) hX (rest := []) (wr := coreW G rc (A 8) (top A) (kdP A) (lnP A) (dnP A) (moP A) lr) F w (c_X4_readWordK l G q0 v0 q1 v1 q2 v2 ra rc xa fi re 0 nx N tl T hT h1 hn hk) (List.append_assoc _ _ _).symm gX4_readSegment_X4_readWord (nA0 := 1) rfl (by decide +kernel) rfl ⟨Nat.le_of_ble_eq_true rfl, Nat.le_of_ble_eq_true rfl⟩ ⟨Nat.le_of_ble_eq_true rfl, Nat.le_of_ble_eq_true rfl⟩ rfl rfl hl rfl (Nat.le_of_ble_eq_true rfl) dX4_readSegment_2 (fun r_2 w1 H locs hp w => ?_)
  obtain ⟨rfl, rfl⟩ := hp
  have w := w.is (ws' := readH G ra rc fi re 0 (nx + wl T tl nx) N ++ (textW G xa tl T ++ (coreW G rc (A 8) (top A) (kdP A) (lnP A) (dnP A) (moP A) lr))) ((List.append_assoc _ _ _).symm).symm
  refine lv_istore_n (lv' := [(2, .int (nI (kdT T tl nx))), (0, .ref (ra 0)), (1, .ref (xa 0))]) F.1 F.2.1 dX4_readSegment_5 rfl hl (by decide) rfl (fun ls hl => ?_)
  refine lv_iload_n F.1 F.2.1 dX4_readSegment_6 rfl (lv_at hl 0 rfl) ?_
  refine lv_iconst (v := (-1)) F.1 F.2.1 dX4_readSegment_7 (by decide) ?_
  refine lv_icmp_ne (tgt := 17) F.1 F.2.1 dX4_readSegment_8 (by decide) (fun c8 => ?_) (fun c8 => ?_)
  · skip
    refine lv_aload_n F.1 F.2.1 dX4_readSegment_17 rfl (lv_at hl 1 rfl) ?_
    refine lv_aload_n F.1 F.2.1 dX4_readSegment_18 rfl (lv_at hl 1 rfl) ?_
    refine lv_aload_n F.1 F.2.1 dX4_readSegment_19 rfl (lv_at hl 2 rfl) ?_
    have L30 :  ∀ (H : Heap) (locs : List Loc), Wd G s (va_A (readH G ra rc fi re 0 nx N ++ (textW G xa tl T ++ (coreW G rc (A 8) (top A) (kdP A) (lnP A) (dnP A) (moP A) lr))) s.heap.size) (readH G ra rc fi re 0 (nx + wl T tl nx) N ++ (textW G xa tl T ++ (coreW G rc (A 8) (top A) (kdP A) (lnP A) (dnP A) (moP A) lr))) H locs → ∀ ls : Array Slot, lv_has ls 3 [(2, .int (nI (kdT T tl nx))), (0, .ref (ra 0)), (1, .ref (xa 0))] → W p l e (rmK 6 0 0) s m args below meth c H locs 0 0 (MQ below (QV G (readH G ra rc fi re 0 nx N ++ (textW G xa tl T ++ (coreW G rc (A 8) (top A) (kdP A) (lnP A) (dnP A) (moP A) lr))) s.heap.size (fun v => (sgR T tl nx (A 8) = 0 ∧ ∃ N2 : Nat → Nat, v = readH G ra rc fi re 0 (sgE T tl nx) N2 ++ (textW G xa tl T ++ (coreW G rc ((addF A (kdT T tl nx) (sgD T tl nx 0) (sgD T tl nx 1) (sgD T tl nx 2)) 8) (top (addF A (kdT T tl nx) (sgD T tl nx 0) (sgD T tl nx 1) (sgD T tl nx 2))) (kdP (addF A (kdT T tl nx) (sgD T tl nx 0) (sgD T tl nx 1) (sgD T tl nx 2))) (lnP (addF A (kdT T tl nx) (sgD T tl nx 0) (sgD T tl nx 1) (sgD T tl nx 2))) (dnP (addF A (kdT T tl nx) (sgD T tl nx 0) (sgD T tl nx 1) (sgD T tl nx 2))) (moP (addF A (kdT T tl nx) (sgD T tl nx 0) (sgD T tl nx 1) (sgD T tl nx 2))) (up lr (A 8) (top A))))) ∨ (sgR T tl nx (A 8) ≠ 0 ∧ ∃ (x2 : Nat) (N2 : Nat → Nat), x2 < 2 ^ 31 ∧ v = readH G ra rc fi (sgR T tl nx (A 8)) (sgN T tl nx) x2 N2 ++ (textW G xa tl T ++ (coreW G rc (A 8) (top A) (kdP A) (lnP A) (dnP A) (moP A) lr))))) args s 0 0 (va_A (readH G ra rc fi re 0 nx N ++ (textW G xa tl T ++ (coreW G rc (A 8) (top A) (kdP A) (lnP A) (dnP A) (moP A) lr))) s.heap.size)) (F0 m 30 ls [.int (nI (mny T tl nx)), .ref (xa 0), .ref (ra 0), .ref (ra 0)]) := by
      intro  H locs w ls hl
      refine r_callVI (rest := [.ref (ra 0)]) F w (c_X4_readNumbers l G ra rc xa fi re 0 (nx + wl T tl nx) N tl T hT h1 (by omega) (mny T tl nx) hy3) gX4_readSegment_X4_readNumbers [0, 1, 2, 3] [4, 5, 6, 7, 8, 9] (nA0 := 2) rfl (by decide +kernel) rfl ⟨Nat.le_of_ble_eq_true rfl, Nat.le_of_ble_eq_true rfl⟩ ⟨Nat.le_of_ble_eq_true rfl, Nat.le_of_ble_eq_true rfl⟩ rfl rfl rfl rfl rfl rfl rfl hl rfl (Nat.le_of_ble_eq_true rfl) dX4_readSegment_30 (fun r_30 w1 H locs hp w => ?_)
      obtain ⟨rfl, rfl⟩ := hp
      have w := w.sub (ws' := readH G ra rc fi re 0 (ps T tl (nx + wl T tl nx) (mi T tl (nx + wl T tl nx) (mny T tl nx))) (fnN T tl (nx + wl T tl nx) (mi T tl (nx + wl T tl nx) (mny T tl nx))) ++ (textW G xa tl T ++ (coreW G rc (A 8) (top A) (kdP A) (lnP A) (dnP A) (moP A) lr))) [6, 7, 8, 9, 0, 1, 2, 3, 4, 5] (by decide) rfl
      refine r_put (ws' := readH G ra rc fi re (rdR T tl (nx + wl T tl nx) (mny T tl nx)) (ps T tl (nx + wl T tl nx) (mi T tl (nx + wl T tl nx) (mny T tl nx))) (fnN T tl (nx + wl T tl nx) (mi T tl (nx + wl T tl nx) (mny T tl nx))) ++ (textW G xa tl T ++ (coreW G rc (A 8) (top A) (kdP A) (lnP A) (dnP A) (moP A) lr))) F w 0 3 iX4 okX4 f28 rfl rfl rfl (by decide) (by decide +kernel) (Nat.le_of_ble_eq_true rfl) dX4_readSegment_33 rfl (fun H locs w => ?_)
      refine lv_aload_n F.1 F.2.1 dX4_readSegment_36 rfl (lv_at hl 1 rfl) ?_
      refine r_get F w 0 3 iX4 f28 rfl rfl rfl (by decide) rfl dX4_readSegment_37 ?_
      refine r_zeq (tgt := 49) F dX4_readSegment_40 (by decide) (by unfold rdR; split <;> omega) (fun c40 => ?_) (fun c40 => ?_)
      · skip
        have hmi : ¬ mq T tl nx < mny T tl nx := fun z => by unfold rdR at c40; rw [if_pos z] at c40; exact absurd c40 (Nat.succ_ne_zero _)
        have hme : mq T tl nx = mny T tl nx := Nat.le_antisymm (ft_le _ _ _) (Nat.not_lt.mp hmi)
        have w := w.is (ws' := readH G ra rc fi re 0 (ps T tl (nx + wl T tl nx) (mny T tl nx)) (sgD T tl nx) ++ (textW G xa tl T ++ (coreW G rc (A 8) (top A) (kdP A) (lnP A) (dnP A) (moP A) lr))) (by rw [c40, show mi T tl (nx + wl T tl nx) (mny T tl nx) = mny T tl nx from hme])
        refine lv_aload_n F.1 F.2.1 dX4_readSegment_49 rfl (lv_at hl 1 rfl) ?_
        refine lv_iload_n F.1 F.2.1 dX4_readSegment_50 rfl (lv_at hl 0 rfl) ?_
        refine lv_aload_n F.1 F.2.1 dX4_readSegment_51 rfl (lv_at hl 1 rfl) ?_
        refine r_get F w 0 5 iX4 f16 rfl rfl rfl (by decide) rfl dX4_readSegment_52 ?_
        refine lv_iconst (v := nI 0) F.1 F.2.1 dX4_readSegment_55 (by decide) ?_
        refine r_iald F w 1 rfl (by omega) (by decide) dX4_readSegment_56 ?_
        refine lv_aload_n F.1 F.2.1 dX4_readSegment_57 rfl (lv_at hl 1 rfl) ?_
        refine r_get F w 0 5 iX4 f16 rfl rfl rfl (by decide) rfl dX4_readSegment_58 ?_
        refine lv_iconst (v := nI 1) F.1 F.2.1 dX4_readSegment_61 (by decide) ?_
        refine r_iald F w 1 rfl (by omega) (by decide) dX4_readSegment_62 ?_
        refine lv_aload_n F.1 F.2.1 dX4_readSegment_63 rfl (lv_at hl 1 rfl) ?_
        refine r_get F w 0 5 iX4 f16 rfl rfl rfl (by decide) rfl dX4_readSegment_64 ?_
        refine lv_iconst (v := nI 2) F.1 F.2.1 dX4_readSegment_67 (by decide) ?_
        refine r_iald F w 1 rfl (by omega) (by decide) dX4_readSegment_68 ?_
        refine r_callS0 (rest := [.ref (ra 0)]) F w (c_X0_firstWrong l G (nI (kdT T tl nx)) (nI ((sgD T tl nx) 0)) (nI ((sgD T tl nx) 1)) (nI ((sgD T tl nx) 2))) gX4_readSegment_X0_firstWrong (nA0 := 4) rfl (by decide +kernel) rfl ⟨Nat.le_of_ble_eq_true rfl, Nat.le_of_ble_eq_true rfl⟩ ⟨Nat.le_of_ble_eq_true rfl, Nat.le_of_ble_eq_true rfl⟩ hl rfl (Nat.le_of_ble_eq_true rfl) dX4_readSegment_69 (fun r_69 w1 H locs hp w => ?_)
        obtain ⟨rfl, rfl⟩ := hp
        refine r_to (y := (nI (if wi T tl nx < mny T tl nx then wi T tl nx + 1 else 0))) ((fw_n hk (fnN_999 _ _ _ _ _) (fnN_999 _ _ _ _ _) (fnN_999 _ _ _ _ _)).trans (congrArg nI (fw_wi hk))) ?_
        refine r_put (ws' := readH G ra rc fi re (if wi T tl nx < mny T tl nx then wi T tl nx + 1 else 0) (ps T tl (nx + wl T tl nx) (mny T tl nx)) (sgD T tl nx) ++ (textW G xa tl T ++ (coreW G rc (A 8) (top A) (kdP A) (lnP A) (dnP A) (moP A) lr))) F w 0 3 iX4 okX4 f28 rfl rfl rfl (by decide) (by decide +kernel) (Nat.le_of_ble_eq_true rfl) dX4_readSegment_72 rfl (fun H locs w => ?_)
        refine lv_aload_n F.1 F.2.1 dX4_readSegment_75 rfl (lv_at hl 1 rfl) ?_
        refine r_get F w 0 3 iX4 f28 rfl rfl rfl (by decide) rfl dX4_readSegment_76 ?_
        refine r_zeq (tgt := 90) F dX4_readSegment_79 (by decide) (by have : wi T tl nx ≤ mny T tl nx := ft_le _ _ _; split <;> omega) (fun c79 => ?_) (fun c79 => ?_)
        · skip
          have hwi : ¬ wi T tl nx < mny T tl nx := fun z => by rw [if_pos z] at c79; exact absurd c79 (Nat.succ_ne_zero _)
          have w := w.is (ws' := readH G ra rc fi re 0 (ps T tl (nx + wl T tl nx) (mny T tl nx)) (sgD T tl nx) ++ (textW G xa tl T ++ (coreW G rc (A 8) (top A) (kdP A) (lnP A) (dnP A) (moP A) lr))) (by rw [c79])
          refine lv_aload_n F.1 F.2.1 dX4_readSegment_90 rfl (lv_at hl 1 rfl) ?_
          refine r_get F w 0 0 iX4 f10 rfl rfl rfl (by decide) rfl dX4_readSegment_91 ?_
          refine r_callVI (rest := []) F w (c_X0_isFull l G rc (A 8) (top A) (kdP A) (lnP A) (dnP A) (moP A) lr  (by omega)) gX4_readSegment_X0_isFull [4, 5, 6, 7, 8, 9] [0, 1, 2, 3] (nA0 := 0) rfl (by decide +kernel) rfl ⟨Nat.le_of_ble_eq_true rfl, Nat.le_of_ble_eq_true rfl⟩ ⟨Nat.le_of_ble_eq_true rfl, Nat.le_of_ble_eq_true rfl⟩ rfl rfl rfl rfl rfl rfl rfl hl rfl (Nat.le_of_ble_eq_true rfl) dX4_readSegment_94 (fun r_94 w1 H locs hp w => ?_)
          obtain ⟨rfl, rfl⟩ := hp
          have w := w.sub (ws' := readH G ra rc fi re 0 (ps T tl (nx + wl T tl nx) (mny T tl nx)) (sgD T tl nx) ++ (textW G xa tl T ++ (coreW G rc (A 8) (top A) (kdP A) (lnP A) (dnP A) (moP A) lr))) [0, 1, 2, 3, 4, 5, 6, 7, 8, 9] (by decide) rfl
          refine r_yeq (tgt := 108) F dX4_readSegment_97 (by decide) (fun c97 => ?_) (fun c97 => ?_)
          · skip
            refine lv_aload_n F.1 F.2.1 dX4_readSegment_108 rfl (lv_at hl 2 rfl) ?_
            refine lv_aload_n F.1 F.2.1 dX4_readSegment_109 rfl (lv_at hl 1 rfl) ?_
            refine r_get F w 0 4 iX4 f31 rfl rfl rfl (by decide) rfl dX4_readSegment_110 ?_
            refine r_callVI (rest := []) F w (c_X5_at l G xa tl T hT (by omega) (ps T tl (nx + wl T tl nx) (mny T tl nx)) (ps_100 h1 hn hme)) gX4_readSegment_X5_at [2, 3] [0, 1, 4, 5, 6, 7, 8, 9] (nA0 := 1) rfl (by decide +kernel) rfl ⟨Nat.le_of_ble_eq_true rfl, Nat.le_of_ble_eq_true rfl⟩ ⟨Nat.le_of_ble_eq_true rfl, Nat.le_of_ble_eq_true rfl⟩ rfl rfl rfl rfl rfl rfl rfl hl rfl (Nat.le_of_ble_eq_true rfl) dX4_readSegment_113 (fun r_113 w1 H locs hp w => ?_)
            obtain ⟨rfl, rfl⟩ := hp
            have w := w.sub (ws' := readH G ra rc fi re 0 (ps T tl (nx + wl T tl nx) (mny T tl nx)) (sgD T tl nx) ++ (textW G xa tl T ++ (coreW G rc (A 8) (top A) (kdP A) (lnP A) (dnP A) (moP A) lr))) [0, 1, 8, 9, 2, 3, 4, 5, 6, 7] (by decide) rfl
            refine lv_bipush (v := nI 59) F.1 F.2.1 dX4_readSegment_116 (by decide) ?_
            refine r_ceq (tgt := 129) F dX4_readSegment_118 (by decide) (by have := chT_lt hT tl (ps T tl (nx + wl T tl nx) (mny T tl nx)); omega) (by omega) (fun c118 => ?_) (fun c118 => ?_)
            · skip
              refine lv_aload_n F.1 F.2.1 dX4_readSegment_129 rfl (lv_at hl 1 rfl) ?_
              refine lv_dup F.1 F.2.1 dX4_readSegment_130 rfl ?_
              refine r_get F w 0 4 iX4 f31 rfl rfl rfl (by decide) rfl dX4_readSegment_131 ?_
              refine lv_iconst (v := nI 1) F.1 F.2.1 dX4_readSegment_134 (by decide) ?_
              refine r_iadd F dX4_readSegment_135 ?_
              refine r_put (ws' := readH G ra rc fi re 0 ((ps T tl (nx + wl T tl nx) (mny T tl nx)) + 1) (sgD T tl nx) ++ (textW G xa tl T ++ (coreW G rc (A 8) (top A) (kdP A) (lnP A) (dnP A) (moP A) lr))) F w 0 4 iX4 okX4 f31 rfl rfl rfl (by decide) (by decide +kernel) (Nat.le_of_ble_eq_true rfl) dX4_readSegment_136 rfl (fun H locs w => ?_)
              refine lv_aload_n F.1 F.2.1 dX4_readSegment_139 rfl (lv_at hl 1 rfl) ?_
              refine r_get F w 0 0 iX4 f10 rfl rfl rfl (by decide) rfl dX4_readSegment_140 ?_
              refine lv_iload_n F.1 F.2.1 dX4_readSegment_143 rfl (lv_at hl 0 rfl) ?_
              refine lv_aload_n F.1 F.2.1 dX4_readSegment_144 rfl (lv_at hl 1 rfl) ?_
              refine r_get F w 0 5 iX4 f16 rfl rfl rfl (by decide) rfl dX4_readSegment_145 ?_
              refine lv_iconst (v := nI 0) F.1 F.2.1 dX4_readSegment_148 (by decide) ?_
              refine r_iald F w 1 rfl (by omega) (by decide) dX4_readSegment_149 ?_
              refine lv_aload_n F.1 F.2.1 dX4_readSegment_150 rfl (lv_at hl 1 rfl) ?_
              refine r_get F w 0 5 iX4 f16 rfl rfl rfl (by decide) rfl dX4_readSegment_151 ?_
              refine lv_iconst (v := nI 1) F.1 F.2.1 dX4_readSegment_154 (by decide) ?_
              refine r_iald F w 1 rfl (by omega) (by decide) dX4_readSegment_155 ?_
              refine lv_aload_n F.1 F.2.1 dX4_readSegment_156 rfl (lv_at hl 1 rfl) ?_
              refine r_get F w 0 5 iX4 f16 rfl rfl rfl (by decide) rfl dX4_readSegment_157 ?_
              refine lv_iconst (v := nI 2) F.1 F.2.1 dX4_readSegment_160 (by decide) ?_
              refine r_iald F w 1 rfl (by omega) (by decide) dX4_readSegment_161 ?_
              refine r_callVV (rest := []) F w (c_X0_put l G rc (A 8) (top A) (kdP A) (lnP A) (dnP A) (moP A) lr (kdT T tl nx) ((sgD T tl nx) 0) ((sgD T tl nx) 1) ((sgD T tl nx) 2) (by omega)) gX4_readSegment_X0_put [4, 5, 6, 7, 8, 9] [0, 1, 2, 3] (nA0 := 4) rfl (by decide +kernel) rfl ⟨Nat.le_of_ble_eq_true rfl, Nat.le_of_ble_eq_true rfl⟩ ⟨Nat.le_of_ble_eq_true rfl, Nat.le_of_ble_eq_true rfl⟩ rfl rfl rfl rfl rfl rfl rfl hl rfl (Nat.le_of_ble_eq_true rfl) dX4_readSegment_162 (fun w1 H locs hp w => ?_)
              obtain rfl := hp
              have w := w.sub (ws' := readH G ra rc fi re 0 ((ps T tl (nx + wl T tl nx) (mny T tl nx)) + 1) (sgD T tl nx) ++ (textW G xa tl T ++ (coreW G rc ((A 8) + 1) ((top A) + ((sgD T tl nx) 0)) (up (kdP A) (A 8) (kdT T tl nx)) (up (lnP A) (A 8) ((sgD T tl nx) 0)) (up (dnP A) (A 8) ((sgD T tl nx) 1)) (up (moP A) (A 8) ((sgD T tl nx) 2)) (up lr (A 8) (top A))))) [0, 1, 2, 3, 4, 5, 6, 7, 8, 9] (by decide) rfl
              have w := w.eq (ws' := readH G ra rc fi re 0 (sgE T tl nx) (sgD T tl nx) ++ (textW G xa tl T ++ (coreW G rc ((addF A (kdT T tl nx) (sgD T tl nx 0) (sgD T tl nx 1) (sgD T tl nx 2)) 8) (top (addF A (kdT T tl nx) (sgD T tl nx 0) (sgD T tl nx 1) (sgD T tl nx 2))) (kdP (addF A (kdT T tl nx) (sgD T tl nx 0) (sgD T tl nx 1) (sgD T tl nx 2))) (lnP (addF A (kdT T tl nx) (sgD T tl nx 0) (sgD T tl nx 1) (sgD T tl nx 2))) (dnP (addF A (kdT T tl nx) (sgD T tl nx 0) (sgD T tl nx 1) (sgD T tl nx 2))) (moP (addF A (kdT T tl nx) (sgD T tl nx 0) (sgD T tl nx 1) (sgD T tl nx 2))) (up lr (A 8) (top A))))) (eqW.app (eqW.rf _) (eqW.app (eqW.rf _) (coreW_eq (addF_8 _ _ _ _ _).symm (addF_top _ _ _ _ _).symm (fun j hj => (addF_seg A _ _ _ _ j).1.symm) (fun j hj => (addF_seg A _ _ _ _ j).2.1.symm) (fun j hj => (addF_seg A _ _ _ _ j).2.2.1.symm) (fun j hj => (addF_seg A _ _ _ _ j).2.2.2.symm) (fun _ _ => rfl))))
              exact r_return F w dX4_readSegment_165 (Or.inl ⟨by unfold sgR; rw [if_neg hk3, if_neg hmi, if_neg hwi, if_neg c97, if_pos c118], _, rfl⟩)
            · skip
              refine lv_aload_n F.1 F.2.1 dX4_readSegment_121 rfl (lv_at hl 1 rfl) ?_
              refine lv_iconst (v := nI 5) F.1 F.2.1 dX4_readSegment_122 (by decide) ?_
              refine r_put (ws' := readH G ra rc fi 5 0 (ps T tl (nx + wl T tl nx) (mny T tl nx)) (sgD T tl nx) ++ (textW G xa tl T ++ (coreW G rc (A 8) (top A) (kdP A) (lnP A) (dnP A) (moP A) lr))) F w 0 2 iX4 okX4 f24 rfl rfl rfl (by decide) (by decide +kernel) (Nat.le_of_ble_eq_true rfl) dX4_readSegment_123 rfl (fun H locs w => ?_)
              refine lv_goto (tgt := 165) F.1 F.2.1 dX4_readSegment_126 (by decide) ?_
              exact r_return F w dX4_readSegment_165 (Or.inr (by have e1 : sgR T tl nx (A 8) = 5 := (by unfold sgR; rw [if_neg hk3, if_neg hmi, if_neg hwi, if_neg c97, if_neg c118]); have e2 : sgN T tl nx = 0 := (by unfold sgN; rw [if_neg hk3, if_neg hmi, if_neg hwi]); exact ⟨by rw [e1]; decide, _, _, (ps_100 h1 hn hme), by rw [e1, e2]⟩))
          · skip
            refine lv_aload_n F.1 F.2.1 dX4_readSegment_100 rfl (lv_at hl 1 rfl) ?_
            refine lv_iconst (v := nI 4) F.1 F.2.1 dX4_readSegment_101 (by decide) ?_
            refine r_put (ws' := readH G ra rc fi 4 0 (ps T tl (nx + wl T tl nx) (mny T tl nx)) (sgD T tl nx) ++ (textW G xa tl T ++ (coreW G rc (A 8) (top A) (kdP A) (lnP A) (dnP A) (moP A) lr))) F w 0 2 iX4 okX4 f24 rfl rfl rfl (by decide) (by decide +kernel) (Nat.le_of_ble_eq_true rfl) dX4_readSegment_102 rfl (fun H locs w => ?_)
            refine lv_goto (tgt := 165) F.1 F.2.1 dX4_readSegment_105 (by decide) ?_
            exact r_return F w dX4_readSegment_165 (Or.inr (by have e1 : sgR T tl nx (A 8) = 4 := (by unfold sgR; rw [if_neg hk3, if_neg hmi, if_neg hwi, if_pos c97]); have e2 : sgN T tl nx = 0 := (by unfold sgN; rw [if_neg hk3, if_neg hmi, if_neg hwi]); exact ⟨by rw [e1]; decide, _, _, (ps_100 h1 hn hme), by rw [e1, e2]⟩))
        · skip
          have hwi : wi T tl nx < mny T tl nx := Classical.byContradiction (fun z => c79 (if_neg z))
          have hwe : (if wi T tl nx < mny T tl nx then wi T tl nx + 1 else 0) = wi T tl nx + 1 := if_pos hwi
          refine lv_aload_n F.1 F.2.1 dX4_readSegment_82 rfl (lv_at hl 1 rfl) ?_
          refine lv_iconst (v := nI 3) F.1 F.2.1 dX4_readSegment_83 (by decide) ?_
          refine r_put (ws' := readH G ra rc fi 3 (if wi T tl nx < mny T tl nx then wi T tl nx + 1 else 0) (ps T tl (nx + wl T tl nx) (mny T tl nx)) (sgD T tl nx) ++ (textW G xa tl T ++ (coreW G rc (A 8) (top A) (kdP A) (lnP A) (dnP A) (moP A) lr))) F w 0 2 iX4 okX4 f24 rfl rfl rfl (by decide) (by decide +kernel) (Nat.le_of_ble_eq_true rfl) dX4_readSegment_84 rfl (fun H locs w => ?_)
          refine lv_goto (tgt := 165) F.1 F.2.1 dX4_readSegment_87 (by decide) ?_
          exact r_return F w dX4_readSegment_165 (Or.inr (by have e1 : sgR T tl nx (A 8) = 3 := (by unfold sgR; rw [if_neg hk3, if_neg hmi, if_pos hwi]); have e2 : sgN T tl nx = wi T tl nx + 1 := (by unfold sgN; rw [if_neg hk3, if_neg hmi, if_pos hwi]); exact ⟨by rw [e1]; decide, _, _, (ps_100 h1 hn hme), by rw [e1, e2, hwe]⟩))
      · skip
        have hmi : mq T tl nx < mny T tl nx := Classical.byContradiction (fun z => c40 (by unfold rdR; exact if_neg z))
        have hrd : rdR T tl (nx + wl T tl nx) (mny T tl nx) = mq T tl nx + 1 := if_pos hmi
        refine lv_aload_n F.1 F.2.1 dX4_readSegment_43 rfl (lv_at hl 1 rfl) ?_
        refine lv_iconst (v := nI 2) F.1 F.2.1 dX4_readSegment_44 (by decide) ?_
        refine r_put (ws' := readH G ra rc fi 2 (rdR T tl (nx + wl T tl nx) (mny T tl nx)) (ps T tl (nx + wl T tl nx) (mi T tl (nx + wl T tl nx) (mny T tl nx))) (fnN T tl (nx + wl T tl nx) (mi T tl (nx + wl T tl nx) (mny T tl nx))) ++ (textW G xa tl T ++ (coreW G rc (A 8) (top A) (kdP A) (lnP A) (dnP A) (moP A) lr))) F w 0 2 iX4 okX4 f24 rfl rfl rfl (by decide) (by decide +kernel) (Nat.le_of_ble_eq_true rfl) dX4_readSegment_45 rfl (fun H locs w => ?_)
        exact r_return F w dX4_readSegment_48 (Or.inr (by have e1 : sgR T tl nx (A 8) = 2 := (by unfold sgR; rw [if_neg hk3, if_pos hmi]); have e2 : sgN T tl nx = mq T tl nx + 1 := (by unfold sgN; rw [if_neg hk3, if_pos hmi]); exact ⟨by rw [e1]; decide, ps T tl (nx + wl T tl nx) (mi T tl (nx + wl T tl nx) (mny T tl nx)), _, (by have := ps_le (T := T) (tl := tl) (q := nx + wl T tl nx) (many := mny T tl nx) (by omega) (Nat.le_refl _); omega), by rw [e1, e2, hrd]⟩))
    refine lv_iload_n F.1 F.2.1 dX4_readSegment_20 rfl (lv_at hl 0 rfl) ?_
    refine lv_iconst (v := nI 1) F.1 F.2.1 dX4_readSegment_21 (by decide) ?_
    refine r_cne (tgt := 29) F dX4_readSegment_22 (by decide) (by omega) (by omega) (fun c22 => ?_) (fun c22 => ?_)
    · skip
      refine lv_iconst (v := nI 3) F.1 F.2.1 dX4_readSegment_29 (by decide) ?_
      refine r_to (y := (nI (mny T tl nx))) (by unfold mny; first | rw [if_pos c22] | rw [if_neg c22]) ?_
      exact L30  _ _ w ls (lv_sub hl [0, 1, 2] rfl)
    · skip
      refine lv_iconst (v := nI 1) F.1 F.2.1 dX4_readSegment_25 (by decide) ?_
      refine lv_goto (tgt := 30) F.1 F.2.1 dX4_readSegment_26 (by decide) ?_
      refine r_to (y := (nI (mny T tl nx))) (by unfold mny; first | rw [if_pos c22] | rw [if_neg c22]) ?_
      exact L30  _ _ w ls (lv_sub hl [0, 1, 2] rfl)
  · exact absurd c8 (nI_m1 (by omega))
theorem c_X4_readSegment (l : Launch) (G : KG) (q0 v0 q1 v1 q2 v2 : Nat) (ra rc xa : Nat → Nat) (fi re nx : Nat) (N : Nat → Nat) (tl : Nat) (T A lr : Nat → Nat) (hT : TxtOk T) (h1 : tl ≤ 100) (hn : nx ≤ tl) (h8 : A 8 ≤ 20) : MetVX l yX4_readSegment wsX4_readSegment 6 0 0 G (readH G ra rc fi re 0 nx N ++ (textW G xa tl T ++ (coreW G rc (A 8) (top A) (kdP A) (lnP A) (dnP A) (moP A) lr))) [.ref (ra 0), .ref (xa 0)] (wrdX q0 v0 q1 v1 q2 v2) (fun v => (sgR T tl nx (A 8) = 0 ∧ ∃ N2 : Nat → Nat, v = readH G ra rc fi re 0 (sgE T tl nx) N2 ++ (textW G xa tl T ++ (coreW G rc ((addF A (kdT T tl nx) (sgD T tl nx 0) (sgD T tl nx 1) (sgD T tl nx 2)) 8) (top (addF A (kdT T tl nx) (sgD T tl nx 0) (sgD T tl nx 1) (sgD T tl nx 2))) (kdP (addF A (kdT T tl nx) (sgD T tl nx 0) (sgD T tl nx 1) (sgD T tl nx 2))) (lnP (addF A (kdT T tl nx) (sgD T tl nx 0) (sgD T tl nx 1) (sgD T tl nx 2))) (dnP (addF A (kdT T tl nx) (sgD T tl nx 0) (sgD T tl nx 1) (sgD T tl nx 2))) (moP (addF A (kdT T tl nx) (sgD T tl nx 0) (sgD T tl nx 1) (sgD T tl nx 2))) (up lr (A 8) (top A))))) ∨ (sgR T tl nx (A 8) ≠ 0 ∧ ∃ (x2 : Nat) (N2 : Nat → Nat), x2 < 2 ^ 31 ∧ v = readH G ra rc fi (sgR T tl nx (A 8)) (sgN T tl nx) x2 N2 ++ (textW G xa tl T ++ (coreW G rc (A 8) (top A) (kdP A) (lnP A) (dnP A) (moP A) lr)))) := by
  have := kdT_le T tl nx
  by_cases h : kdT T tl nx = 3
  · exact c_X4_readSegmentA l G q0 v0 q1 v1 q2 v2 ra rc xa fi re nx N tl T A lr hT h1 hn h8 h
  · exact c_X4_readSegmentB l G q0 v0 q1 v1 q2 v2 ra rc xa fi re nx N tl T A lr hT h1 hn h8 (by omega)

