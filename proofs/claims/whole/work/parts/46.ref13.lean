theorem ft_lt (f : Nat → Nat) (d : Nat) : ∀ n, ∀ j, j < ft f d n → f j < d
  | 0, j, h => absurd h (Nat.not_lt_zero _)
  | n + 1, j, h => by
    have h1 := ft_lt f d n
    unfold ft at h
    split at h
    · exact h1 j h
    · rename_i q
      have q2 : ft f d n = n := Nat.le_antisymm (ft_le _ _ _) (Nat.not_lt.mp q)
      rw [q2] at h1
      split at h
      · rename_i q3
        rcases Nat.lt_succ_iff_lt_or_eq.mp h with z | z
        · exact h1 j z
        · rw [z]; exact q3
      · exact h1 j h
theorem lj_gd {T : Nat → Nat} {tl n j : Nat} (h : j < lj T tl n) : qj T tl j < tl ∧ sgR T tl (qj T tl j) (n + j) = 0 := gdN_lt.mp (ft_lt _ _ _ _ h)
/-- the numbers of the segment at q -/
abbrev sgD (T : Nat → Nat) (tl q : Nat) : Nat → Nat := fnN T tl (qw T tl q) (mny T tl q)
/-- the page after j segments are added -/
def aj (T : Nat → Nat) (tl : Nat) (P : Nat → Nat) : Nat → (Nat → Nat)
  | 0 => P
  | j + 1 => addF (aj T tl P j) (kdT T tl (qj T tl j)) (sgD T tl (qj T tl j) 0) (sgD T tl (qj T tl j) 1) (sgD T tl (qj T tl j) 2)
theorem aj_8 (T : Nat → Nat) (tl : Nat) (P : Nat → Nat) : ∀ j, aj T tl P j 8 = P 8 + j
  | 0 => rfl
  | j + 1 => by
    show addF (aj T tl P j) _ _ _ _ 8 = _
    rw [addF_8, aj_8 T tl P j]
    omega
theorem qj_in {T : Nat → Nat} {tl n : Nat} : ∀ {j : Nat}, j ≤ lj T tl n → qj T tl j ≤ tl
  | 0, _ => Nat.zero_le _
  | j + 1, h => sgE_in (lj_gd (n := n) (show j < lj T tl n by omega)).2
theorem lj_le (T : Nat → Nat) (tl n : Nat) : lj T tl n ≤ 21 := ft_le _ _ _
theorem lj_20 {T : Nat → Nat} {tl n : Nat} (h : n ≤ 20) : n + lj T tl n ≤ 20 := by
  rcases Nat.eq_zero_or_pos (lj T tl n) with z | z
  · omega
  · have := (sgR_0 (lj_gd (n := n) (show lj T tl n - 1 < lj T tl n by omega)).2).2.2.2.1
    omega
/-- what fault answers of a text that has one -/
def flN (T : Nat → Nat) (tl n k : Nat) : Int32 := if k = 0 then nI (qj T tl (lj T tl n)) else if k = 1 then nI (txR T tl n) else nI (sgN T tl (qj T tl (lj T tl n)))
theorem sgN_le (T : Nat → Nat) (tl q : Nat) : sgN T tl q ≤ 4 := by
  have h1 := ft_le (nbN T tl (qw T tl q)) 1 (mny T tl q)
  have h2 := mny_le T tl q
  unfold sgN
  repeat (first | split | omega)
set_option maxRecDepth 100000 in
set_option maxHeartbeats 4000000 in
theorem c_X8_faultM (l : Launch) (G : KG) (a P Sp Hs T N : Nat → Nat) (sc tl tp fa fr fn : Nat) (hT : TxtOk T) (h1 : tl ≤ 100) (h8 : P 8 ≤ 20) (x : Int32) (hx : ¬ (nI 0 ≤ x ∧ x ≤ nI 2)) : MetI l yX8_fault wsX8_fault 5 G (mW G a P Sp Hs sc T tl tp fa fr fn N) [.ref (a 0), .int x] (fun r v => r = -1 ∧ v = mW G a P Sp Hs sc T tl tp fa fr fn N) := by
  refine MetI.by (cc := cX8_fault) (nL := 2) (ret := some .int) (by decide +kernel) rfl (Nat.le_of_ble_eq_true rfl) ?_
  intro p e s m args below meth c F w ls hl
  have hl : lv_has ls 2 [(0, .ref (a 0)), (1, .int x)] := hl
  have hts := F.ts
  refine lv_iload_n F.1 F.2.1 dX8_fault_0 rfl (lv_at hl 1 rfl) ?_
  refine lv_iconst (v := nI 0) F.1 F.2.1 dX8_fault_1 (by decide) ?_
  refine lv_iconst (v := nI 2) F.1 F.2.1 dX8_fault_2 (by decide) ?_
  refine r_callS0 (rest := []) F w (c_X8_in l G x (nI 0) (nI 2)) gX8_fault_X8_in (nA0 := 3) rfl (by decide +kernel) rfl ⟨Nat.le_of_ble_eq_true rfl, Nat.le_of_ble_eq_true rfl⟩ ⟨Nat.le_of_ble_eq_true rfl, Nat.le_of_ble_eq_true rfl⟩ hl rfl (Nat.le_of_ble_eq_true rfl) dX8_fault_3 (fun r_3 w1 H locs hp w => ?_)
  obtain ⟨rfl, rfl⟩ := hp
  refine r_yne (tgt := 11) F dX8_fault_6 (by decide) (fun c6 => ?_) (fun c6 => ?_)
  · exact absurd c6 hx
  · skip
    refine lv_iconst (v := (-1)) F.1 F.2.1 dX8_fault_9 (by decide) ?_
    exact r_ireturn F w dX8_fault_10 (⟨rfl, rfl⟩)
set_option maxRecDepth 100000 in
set_option maxHeartbeats 4000000 in
theorem c_X8_faultZ (l : Launch) (G : KG) (a P Sp Hs T N : Nat → Nat) (sc tl tp fa fr fn : Nat) (hT : TxtOk T) (h1 : tl ≤ 100) (h8 : P 8 ≤ 20) (k : Nat) (hk : k ≤ 2) (hf : txR T tl (P 8) = 0) : MetI l yX8_fault wsX8_fault 5 G (mW G a P Sp Hs sc T tl tp fa fr fn N) [.ref (a 0), .int (nI k)] (fun r v => r = -4 ∧ ∃ (t2 f2 r2 n2 : Nat) (M2 : Nat → Nat), v = mW G a P Sp Hs sc T tl t2 f2 r2 n2 M2) := by
  refine MetI.by (cc := cX8_fault) (nL := 2) (ret := some .int) (by decide +kernel) rfl (Nat.le_of_ble_eq_true rfl) ?_
  intro p e s m args below meth c F w ls hl
  have hl : lv_has ls 2 [(0, .ref (a 0)), (1, .int (nI k))] := hl
  have hts := F.ts
  refine lv_iload_n F.1 F.2.1 dX8_fault_0 rfl (lv_at hl 1 rfl) ?_
  refine lv_iconst (v := nI 0) F.1 F.2.1 dX8_fault_1 (by decide) ?_
  refine lv_iconst (v := nI 2) F.1 F.2.1 dX8_fault_2 (by decide) ?_
  refine r_callS0 (rest := []) F w (c_X8_inN l G k 0 2 (by omega) (by omega) (by omega)) gX8_fault_X8_in (nA0 := 3) rfl (by decide +kernel) rfl ⟨Nat.le_of_ble_eq_true rfl, Nat.le_of_ble_eq_true rfl⟩ ⟨Nat.le_of_ble_eq_true rfl, Nat.le_of_ble_eq_true rfl⟩ hl rfl (Nat.le_of_ble_eq_true rfl) dX8_fault_3 (fun r_3 w1 H locs hp w => ?_)
  obtain ⟨rfl, rfl⟩ := hp
  refine r_yne (tgt := 11) F dX8_fault_6 (by decide) (fun c6 => ?_) (fun c6 => ?_)
  · skip
    refine lv_aload_n F.1 F.2.1 dX8_fault_11 rfl (lv_at hl 0 rfl) ?_
    refine r_callVI (rest := []) F w (c_X8_reads l G a P Sp Hs T N sc tl tp fa fr fn hT h1 h8) gX8_fault_X8_reads [0, 1, 2, 3, 4, 5] [] (nA0 := 0) rfl (by decide +kernel) rfl ⟨Nat.le_of_ble_eq_true rfl, Nat.le_of_ble_eq_true rfl⟩ ⟨Nat.le_of_ble_eq_true rfl, Nat.le_of_ble_eq_true rfl⟩ rfl rfl rfl rfl rfl rfl rfl hl rfl (Nat.le_of_ble_eq_true rfl) dX8_fault_12 (fun r_12 w1 H locs hp w => ?_)
    obtain (⟨e0, rfl, t2, f2, M2, rfl⟩ | ⟨e0, e9⟩) := hp
    rotate_left
    · exact absurd hf e0
    have w := w.sub (ws' := mW G a P Sp Hs sc T tl t2 f2 fr fn M2) [0, 1, 2, 3, 4, 5] (by decide) rfl
    refine lv_bipush (v := (-4)) F.1 F.2.1 dX8_fault_15 (by decide) ?_
    refine lv_icmp_eq (tgt := 23) F.1 F.2.1 dX8_fault_17 (by decide) (fun c17 => ?_) (fun c17 => ?_)
    · exact absurd c17 (nI_m4 (by have := lj_le T tl (P 8); omega))
    · skip
      refine lv_bipush (v := (-4)) F.1 F.2.1 dX8_fault_20 (by decide) ?_
      exact r_ireturn F w dX8_fault_22 (⟨rfl, _, _, _, _, _, rfl⟩)
  · exact absurd ⟨Nat.zero_le _, hk⟩ c6
set_option maxRecDepth 100000 in
set_option maxHeartbeats 4000000 in
theorem c_X8_faultN (l : Launch) (G : KG) (a P Sp Hs T N : Nat → Nat) (sc tl tp fa fr fn : Nat) (hT : TxtOk T) (h1 : tl ≤ 100) (h8 : P 8 ≤ 20) (k : Nat) (hk : k ≤ 2) (hf : ¬ txR T tl (P 8) = 0) : MetI l yX8_fault wsX8_fault 5 G (mW G a P Sp Hs sc T tl tp fa fr fn N) [.ref (a 0), .int (nI k)] (fun r v => r = flN T tl (P 8) k ∧ ∃ (t2 f2 r2 n2 : Nat) (M2 : Nat → Nat), v = mW G a P Sp Hs sc T tl t2 f2 r2 n2 M2) := by
  refine MetI.by (cc := cX8_fault) (nL := 2) (ret := some .int) (by decide +kernel) rfl (Nat.le_of_ble_eq_true rfl) ?_
  intro p e s m args below meth c F w ls hl
  have hl : lv_has ls 2 [(0, .ref (a 0)), (1, .int (nI k))] := hl
  have hts := F.ts
  have iX8 : ∀ w ∈ wsX80, w ∈ wsX8_fault := by decide +kernel
  have f140 := hts (.fieldLink RX8 140 "CoreMelterModel" "faultReason" "I") (by decide +kernel)
  have f143 := hts (.fieldLink RX8 143 "CoreMelterModel" "faultNumber" "I") (by decide +kernel)
  have f146 := hts (.fieldLink RX8 146 "CoreMelterModel" "faultAt" "I") (by decide +kernel)
  refine lv_iload_n F.1 F.2.1 dX8_fault_0 rfl (lv_at hl 1 rfl) ?_
  refine lv_iconst (v := nI 0) F.1 F.2.1 dX8_fault_1 (by decide) ?_
  refine lv_iconst (v := nI 2) F.1 F.2.1 dX8_fault_2 (by decide) ?_
  refine r_callS0 (rest := []) F w (c_X8_inN l G k 0 2 (by omega) (by omega) (by omega)) gX8_fault_X8_in (nA0 := 3) rfl (by decide +kernel) rfl ⟨Nat.le_of_ble_eq_true rfl, Nat.le_of_ble_eq_true rfl⟩ ⟨Nat.le_of_ble_eq_true rfl, Nat.le_of_ble_eq_true rfl⟩ hl rfl (Nat.le_of_ble_eq_true rfl) dX8_fault_3 (fun r_3 w1 H locs hp w => ?_)
  obtain ⟨rfl, rfl⟩ := hp
  refine r_yne (tgt := 11) F dX8_fault_6 (by decide) (fun c6 => ?_) (fun c6 => ?_)
  · skip
    refine lv_aload_n F.1 F.2.1 dX8_fault_11 rfl (lv_at hl 0 rfl) ?_
    refine r_callVI (rest := []) F w (c_X8_reads l G a P Sp Hs T N sc tl tp fa fr fn hT h1 h8) gX8_fault_X8_reads [0, 1, 2, 3, 4, 5] [] (nA0 := 0) rfl (by decide +kernel) rfl ⟨Nat.le_of_ble_eq_true rfl, Nat.le_of_ble_eq_true rfl⟩ ⟨Nat.le_of_ble_eq_true rfl, Nat.le_of_ble_eq_true rfl⟩ rfl rfl rfl rfl rfl rfl rfl hl rfl (Nat.le_of_ble_eq_true rfl) dX8_fault_12 (fun r_12 w1 H locs hp w => ?_)
    obtain (⟨e0, e9⟩ | ⟨e0, rfl, t2, M2, rfl⟩) := hp
    · exact absurd e0 hf
    have w := w.sub (ws' := mW G a P Sp Hs sc T tl t2 (qj T tl (lj T tl (P 8))) (txR T tl (P 8)) (sgN T tl (qj T tl (lj T tl (P 8)))) M2) [0, 1, 2, 3, 4, 5] (by decide) rfl
    refine lv_bipush (v := (-4)) F.1 F.2.1 dX8_fault_15 (by decide) ?_
    refine lv_icmp_eq (tgt := 23) F.1 F.2.1 dX8_fault_17 (by decide) (fun c17 => ?_) (fun c17 => ?_)
    · skip
      refine lv_iload_n F.1 F.2.1 dX8_fault_23 rfl (lv_at hl 1 rfl) ?_
      refine r_zne (tgt := 34) F dX8_fault_24 (by decide) (by omega) (fun c24 => ?_) (fun c24 => ?_)
      · skip
        refine lv_iload_n F.1 F.2.1 dX8_fault_34 rfl (lv_at hl 1 rfl) ?_
        refine lv_iconst (v := nI 1) F.1 F.2.1 dX8_fault_35 (by decide) ?_
        refine r_cne (tgt := 46) F dX8_fault_36 (by decide) (by omega) (by omega) (fun c36 => ?_) (fun c36 => ?_)
        · skip
          refine lv_aload_n F.1 F.2.1 dX8_fault_46 rfl (lv_at hl 0 rfl) ?_
          refine r_get F w 0 9 iX8 f143 rfl rfl rfl (by decide) rfl dX8_fault_47 ?_
          exact r_ireturn F w dX8_fault_50 (⟨by unfold flN; first | (rw [if_pos c24]) | (rw [if_neg c24, if_pos c36]) | (rw [if_neg c24, if_neg c36]), _, _, _, _, _, rfl⟩)
        · skip
          refine lv_aload_n F.1 F.2.1 dX8_fault_39 rfl (lv_at hl 0 rfl) ?_
          refine r_get F w 0 8 iX8 f140 rfl rfl rfl (by decide) rfl dX8_fault_40 ?_
          refine lv_goto (tgt := 50) F.1 F.2.1 dX8_fault_43 (by decide) ?_
          exact r_ireturn F w dX8_fault_50 (⟨by unfold flN; first | (rw [if_pos c24]) | (rw [if_neg c24, if_pos c36]) | (rw [if_neg c24, if_neg c36]), _, _, _, _, _, rfl⟩)
      · skip
        refine lv_aload_n F.1 F.2.1 dX8_fault_27 rfl (lv_at hl 0 rfl) ?_
        refine r_get F w 0 7 iX8 f146 rfl rfl rfl (by decide) rfl dX8_fault_28 ?_
        refine lv_goto (tgt := 50) F.1 F.2.1 dX8_fault_31 (by decide) ?_
        exact r_ireturn F w dX8_fault_50 (⟨by unfold flN; first | (rw [if_pos c24]) | (rw [if_neg c24, if_pos c36]) | (rw [if_neg c24, if_neg c36]), _, _, _, _, _, rfl⟩)
    · exact absurd rfl c17
  · exact absurd ⟨Nat.zero_le _, hk⟩ c6
set_option maxRecDepth 100000 in
set_option maxHeartbeats 4000000 in
theorem c_X8_layZ (l : Launch) (G : KG) (a P Sp Hs T N : Nat → Nat) (sc tl tp fa fr fn : Nat) (hT : TxtOk T) (h1 : tl ≤ 100) (h8 : P 8 ≤ 20) (h5 : sc ≤ 5) (hf : ¬ txR T tl (P 8) = 0) : MetI l yX8_lay wsX8_lay 5 G (mW G a P Sp Hs sc T tl tp fa fr fn N) [.ref (a 0)] (fun r v => r = -2 ∧ ∃ (t2 f2 r2 n2 : Nat) (M2 : Nat → Nat), v = mW G a P Sp Hs sc T tl t2 f2 r2 n2 M2) := by
  refine MetI.by (cc := cX8_lay) (nL := 4) (ret := some .int) (by decide +kernel) rfl (Nat.le_of_ble_eq_true rfl) ?_
  intro p e s m args below meth c F w ls hl
  have hl : lv_has ls 4 [(0, .ref (a 0))] := hl
  have hts := F.ts
  refine lv_aload_n F.1 F.2.1 dX8_lay_0 rfl (lv_at hl 0 rfl) ?_
  refine r_callVI (rest := []) F w (c_X8_reads l G a P Sp Hs T N sc tl tp fa fr fn hT h1 h8) gX8_lay_X8_reads [0, 1, 2, 3, 4, 5] [] (nA0 := 0) rfl (by decide +kernel) rfl ⟨Nat.le_of_ble_eq_true rfl, Nat.le_of_ble_eq_true rfl⟩ ⟨Nat.le_of_ble_eq_true rfl, Nat.le_of_ble_eq_true rfl⟩ rfl rfl rfl rfl rfl rfl rfl hl rfl (Nat.le_of_ble_eq_true rfl) dX8_lay_1 (fun r_1 w1 H locs hp w => ?_)
  obtain (⟨e0, e9⟩ | ⟨e0, rfl, t2, M2, rfl⟩) := hp
  · exact absurd e0 hf
  have w := w.sub (ws' := mW G a P Sp Hs sc T tl t2 (qj T tl (lj T tl (P 8))) (txR T tl (P 8)) (sgN T tl (qj T tl (lj T tl (P 8)))) M2) [0, 1, 2, 3, 4, 5] (by decide) rfl
  refine lv_istore_n (lv' := [(1, .int ((-4))), (0, .ref (a 0))]) F.1 F.2.1 dX8_lay_4 rfl hl (by decide) rfl (fun ls hl => ?_)
  refine lv_iload_n F.1 F.2.1 dX8_lay_5 rfl (lv_at hl 0 rfl) ?_
  refine lv_bipush (v := (-4)) F.1 F.2.1 dX8_lay_6 (by decide) ?_
  refine lv_icmp_ne (tgt := 14) F.1 F.2.1 dX8_lay_8 (by decide) (fun c8 => ?_) (fun c8 => ?_)
  · exact absurd rfl c8
  · skip
    refine lv_bipush (v := (-2)) F.1 F.2.1 dX8_lay_11 (by decide) ?_
    exact r_ireturn F w dX8_lay_13 (⟨rfl, _, _, _, _, _, rfl⟩)
set_option maxRecDepth 100000 in
set_option maxHeartbeats 4000000 in
theorem c_X8_layN (l : Launch) (G : KG) (a P Sp Hs T N : Nat → Nat) (sc tl tp fa fr fn : Nat) (hT : TxtOk T) (h1 : tl ≤ 100) (h8 : P 8 ≤ 20) (h5 : sc ≤ 5) (hf : txR T tl (P 8) = 0) : MetI l yX8_lay wsX8_lay 5 G (mW G a P Sp Hs sc T tl tp fa fr fn N) [.ref (a 0)] (fun r v => r = nI (lj T tl (P 8)) ∧ ∃ (t2 f2 r2 n2 : Nat) (M2 : Nat → Nat), v = mW G a (aj T tl P (lj T tl (P 8))) Sp (recF Hs sc P) (min sc 4 + 1) T tl t2 f2 r2 n2 M2) := by
  refine MetI.by (cc := cX8_lay) (nL := 4) (ret := some .int) (by decide +kernel) rfl (Nat.le_of_ble_eq_true rfl) ?_
  intro p e s m args below meth c F w ls hl
  have hl : lv_has ls 4 [(0, .ref (a 0))] := hl
  have hts := F.ts
  have iX8 : ∀ w ∈ wsX80, w ∈ wsX8_lay := by decide +kernel
  have f7 := hts (.fieldLink RX8 7 "CoreMelterModel" "m" "[I") (by decide +kernel)
  have f22 := hts (.fieldLink RX8 22 "CoreMelterModel" "numbers" "[I") (by decide +kernel)
  have f122 := hts (.fieldLink RX8 122 "CoreMelterModel" "at" "I") (by decide +kernel)
  have hl20 := lj_20 (T := T) (tl := tl) h8
  refine lv_aload_n F.1 F.2.1 dX8_lay_0 rfl (lv_at hl 0 rfl) ?_
  refine r_callVI (rest := []) F w (c_X8_reads l G a P Sp Hs T N sc tl tp fa fr fn hT h1 h8) gX8_lay_X8_reads [0, 1, 2, 3, 4, 5] [] (nA0 := 0) rfl (by decide +kernel) rfl ⟨Nat.le_of_ble_eq_true rfl, Nat.le_of_ble_eq_true rfl⟩ ⟨Nat.le_of_ble_eq_true rfl, Nat.le_of_ble_eq_true rfl⟩ rfl rfl rfl rfl rfl rfl rfl hl rfl (Nat.le_of_ble_eq_true rfl) dX8_lay_1 (fun r_1 w1 H locs hp w => ?_)
  obtain (⟨e0, rfl, t2, f2, M2, rfl⟩ | ⟨e0, e9⟩) := hp
  rotate_left
  · exact absurd hf e0
  have w := w.sub (ws' := mW G a P Sp Hs sc T tl t2 f2 fr fn M2) [0, 1, 2, 3, 4, 5] (by decide) rfl
  refine lv_istore_n (lv' := [(1, .int (nI (lj T tl (P 8)))), (0, .ref (a 0))]) F.1 F.2.1 dX8_lay_4 rfl hl (by decide) rfl (fun ls hl => ?_)
  refine lv_iload_n F.1 F.2.1 dX8_lay_5 rfl (lv_at hl 0 rfl) ?_
  refine lv_bipush (v := (-4)) F.1 F.2.1 dX8_lay_6 (by decide) ?_
  refine lv_icmp_ne (tgt := 14) F.1 F.2.1 dX8_lay_8 (by decide) (fun c8 => ?_) (fun c8 => ?_)
  · skip
    refine lv_aload_n F.1 F.2.1 dX8_lay_14 rfl (lv_at hl 1 rfl) ?_
    refine r_callVV (rest := []) F w (c_X8_record l G a P Sp Hs T M2 sc tl t2 f2 fr fn  (by omega)) gX8_lay_X8_record [0, 1, 2, 3, 4, 5] [] (nA0 := 0) rfl (by decide +kernel) rfl ⟨Nat.le_of_ble_eq_true rfl, Nat.le_of_ble_eq_true rfl⟩ ⟨Nat.le_of_ble_eq_true rfl, Nat.le_of_ble_eq_true rfl⟩ rfl rfl rfl rfl rfl rfl rfl hl rfl (Nat.le_of_ble_eq_true rfl) dX8_lay_15 (fun w1 H locs hp w => ?_)
    obtain rfl := hp
    have w := w.sub (ws' := mW G a P Sp (recF Hs sc P) (min sc 4 + 1) T tl t2 f2 fr fn M2) [0, 1, 2, 3, 4, 5] (by decide) rfl
    refine lv_aload_n F.1 F.2.1 dX8_lay_18 rfl (lv_at hl 1 rfl) ?_
    refine lv_iconst (v := nI 0) F.1 F.2.1 dX8_lay_19 (by decide) ?_
    refine r_put (ws' := mW G a P Sp (recF Hs sc P) (min sc 4 + 1) T tl 0 f2 fr fn M2) F w 0 6 iX8 okX8 f122 rfl rfl rfl (by decide) (by decide +kernel) (Nat.le_of_ble_eq_true rfl) dX8_lay_20 rfl (fun H locs w => ?_)
    refine lv_iconst (v := nI 0) F.1 F.2.1 dX8_lay_23 (by decide) ?_
    refine lv_istore_n (lv' := [(2, .int (nI 0)), (1, .int (nI (lj T tl (P 8)))), (0, .ref (a 0))]) F.1 F.2.1 dX8_lay_24 rfl hl (by decide) rfl (fun ls hl => ?_)
    have L25 : ∀ n : Nat, ∀ (u f3 : Nat) (M3 : Nat → Nat), (u ≤ lj T tl (P 8)) → lj T tl (P 8) - u < n → ∀ (H : Heap) (locs : List Loc), Wd G s (va_A (mW G a P Sp Hs sc T tl tp fa fr fn N) s.heap.size) (mW G a (aj T tl P u) Sp (recF Hs sc P) (min sc 4 + 1) T tl (qj T tl u) f3 fr fn M3) H locs → ∀ ls : Array Slot, lv_has ls 4 [(0, .ref (a 0)), (1, .int (nI (lj T tl (P 8)))), (2, .int (nI u))] → W p l e (rmK 5 0 0) s m args below meth c H locs 0 0 (MQ below (QI G (mW G a P Sp Hs sc T tl tp fa fr fn N) s.heap.size (fun r v => r = nI (lj T tl (P 8)) ∧ ∃ (t2 f2 r2 n2 : Nat) (M2 : Nat → Nat), v = mW G a (aj T tl P (lj T tl (P 8))) Sp (recF Hs sc P) (min sc 4 + 1) T tl t2 f2 r2 n2 M2)) args s 0 0 (va_A (mW G a P Sp Hs sc T tl tp fa fr fn N) s.heap.size)) (F0 m 25 ls []) := by
      intro n
      induction n with
      | zero => intro u f3 M3 h2 hm; exact absurd hm (Nat.not_lt_zero _)
      | succ n ih25 =>
        intro u f3 M3 h2 hm25 H locs w ls hl
        refine lv_iload_n F.1 F.2.1 dX8_lay_25 rfl (lv_at hl 2 rfl) ?_
        refine lv_iload_n F.1 F.2.1 dX8_lay_26 rfl (lv_at hl 1 rfl) ?_
        refine r_cge (tgt := 71) F dX8_lay_27 (by decide) (by omega) (by omega) (fun c27 => ?_) (fun c27 => ?_)
        · skip
          refine lv_iload_n F.1 F.2.1 dX8_lay_71 rfl (lv_at hl 1 rfl) ?_
          exact r_ireturn F w dX8_lay_72 (⟨rfl, _, _, _, _, _, by rw [show u = lj T tl (P 8) by omega]⟩)
        · skip
          refine lv_aload_n F.1 F.2.1 dX8_lay_30 rfl (lv_at hl 0 rfl) ?_
          refine lv_aload_n F.1 F.2.1 dX8_lay_31 rfl (lv_at hl 0 rfl) ?_
          refine r_get F w 0 0 iX8 f7 rfl rfl rfl (by decide) rfl dX8_lay_32 ?_
          refine lv_bipush (v := nI 8) F.1 F.2.1 dX8_lay_35 (by decide) ?_
          refine r_iald F w 1 rfl (by omega) (by decide) dX8_lay_37 ?_
          have hf := (lj_gd (T := T) (tl := tl) (n := P 8) c27).2
          refine r_to (y := (nI (P 8 + u))) (congrArg nI (aj_8 T tl P u)) ?_
          refine r_callVI (rest := []) F w (c_X8_readSegment l G a (aj T tl P u) Sp (recF Hs sc P) T M3 (min sc 4 + 1) tl (qj T tl u) f3 fr fn hT h1 (qj_in (n := P 8) (by omega)) (P 8 + u) (by omega)) gX8_lay_X8_readSegment [0, 1, 2, 3, 4, 5] [] (nA0 := 1) rfl (by decide +kernel) rfl ⟨Nat.le_of_ble_eq_true rfl, Nat.le_of_ble_eq_true rfl⟩ ⟨Nat.le_of_ble_eq_true rfl, Nat.le_of_ble_eq_true rfl⟩ rfl rfl rfl rfl rfl rfl rfl hl rfl (Nat.le_of_ble_eq_true rfl) dX8_lay_38 (fun r_38 w1 H locs hp w => ?_)
          obtain (⟨e0, rfl, M2, hM2, rfl⟩ | ⟨e0, e9⟩) := hp
          rotate_left
          · exact absurd hf e0
          have w := w.sub (ws' := mW G a (aj T tl P u) Sp (recF Hs sc P) (min sc 4 + 1) T tl (sgE T tl (qj T tl u)) (qj T tl u) fr fn M2) [0, 1, 2, 3, 4, 5] (by decide) rfl
          refine lv_istore_n (lv' := [(3, .int (nI (kdT T tl (qj T tl u)))), (0, .ref (a 0)), (1, .int (nI (lj T tl (P 8)))), (2, .int (nI u))]) F.1 F.2.1 dX8_lay_41 rfl hl (by decide) rfl (fun ls hl => ?_)
          refine lv_aload_n F.1 F.2.1 dX8_lay_42 rfl (lv_at hl 1 rfl) ?_
          refine lv_iload_n F.1 F.2.1 dX8_lay_43 rfl (lv_at hl 0 rfl) ?_
          refine lv_aload_n F.1 F.2.1 dX8_lay_44 rfl (lv_at hl 1 rfl) ?_
          refine r_get F w 0 10 iX8 f22 rfl rfl rfl (by decide) rfl dX8_lay_45 ?_
          refine lv_iconst (v := nI 0) F.1 F.2.1 dX8_lay_48 (by decide) ?_
          refine r_iald F w 5 rfl (by omega) (by decide) dX8_lay_49 ?_
          refine lv_aload_n F.1 F.2.1 dX8_lay_50 rfl (lv_at hl 1 rfl) ?_
          refine r_get F w 0 10 iX8 f22 rfl rfl rfl (by decide) rfl dX8_lay_51 ?_
          refine lv_iconst (v := nI 1) F.1 F.2.1 dX8_lay_54 (by decide) ?_
          refine r_iald F w 5 rfl (by omega) (by decide) dX8_lay_55 ?_
          refine lv_aload_n F.1 F.2.1 dX8_lay_56 rfl (lv_at hl 1 rfl) ?_
          refine r_get F w 0 10 iX8 f22 rfl rfl rfl (by decide) rfl dX8_lay_57 ?_
          refine lv_iconst (v := nI 2) F.1 F.2.1 dX8_lay_60 (by decide) ?_
          refine r_iald F w 5 rfl (by omega) (by decide) dX8_lay_61 ?_
          refine r_callVV (rest := []) F w (c_X8_puts l G a (aj T tl P u) Sp (recF Hs sc P) T M2 (min sc 4 + 1) tl (sgE T tl (qj T tl u)) (qj T tl u) fr fn (kdT T tl (qj T tl u)) (M2 0) (M2 1) (M2 2) (by rw [aj_8]; omega)) gX8_lay_X8_puts [0, 1, 2, 3, 4, 5] [] (nA0 := 4) rfl (by decide +kernel) rfl ⟨Nat.le_of_ble_eq_true rfl, Nat.le_of_ble_eq_true rfl⟩ ⟨Nat.le_of_ble_eq_true rfl, Nat.le_of_ble_eq_true rfl⟩ rfl rfl rfl rfl rfl rfl rfl hl rfl (Nat.le_of_ble_eq_true rfl) dX8_lay_62 (fun w1 H locs hp w => ?_)
          obtain rfl := hp
          have w := w.sub (ws' := mW G a (addF (aj T tl P u) (kdT T tl (qj T tl u)) (M2 0) (M2 1) (M2 2)) Sp (recF Hs sc P) (min sc 4 + 1) T tl (sgE T tl (qj T tl u)) (qj T tl u) fr fn M2) [0, 1, 2, 3, 4, 5] (by decide) rfl
          have w := w.is (ws' := mW G a (aj T tl P (u + 1)) Sp (recF Hs sc P) (min sc 4 + 1) T tl (qj T tl (u + 1)) (qj T tl u) fr fn M2) (by rw [hM2 0 (by decide), hM2 1 (by decide), hM2 2 (by decide)]; rfl)
          refine lv_iinc (v := nI (u + 1)) (lv' := [(2, .int (nI (u + 1))), (3, .int (nI (kdT T tl (qj T tl u)))), (0, .ref (a 0)), (1, .int (nI (lj T tl (P 8))))]) F.1 F.2.1 dX8_lay_65 hl (k := 3) rfl (nI_add _ _) (by decide) rfl (fun ls hl => ?_)
          refine lv_goto (tgt := 25) F.1 F.2.1 dX8_lay_68 (by decide) ?_
          exact ih25 (u + 1) (qj T tl u) M2 (by omega) (by omega) _ _ w ls (lv_sub hl [2, 3, 0] rfl)
    exact L25 _ 0 f2 M2 (Nat.zero_le _) (Nat.lt_succ_self _) _ _ w ls (lv_sub hl [2, 1, 0] rfl)
  · exact absurd c8 (nI_m4 (by omega))
