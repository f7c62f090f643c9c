set_option maxRecDepth 100000 in
set_option maxHeartbeats 4000000 in
theorem c_X0_leastDensity (l : Launch) (G : KG) (k : Int32) : MetI l yX0_leastDensity wsX0_leastDensity 0 G (([] : va_W)) [.int k] (fun r w => r = lDI k ∧ w = []) := by
  refine MetI.by (cc := cX0_leastDensity) (nL := 1) (ret := some .int) (by decide +kernel) rfl (Nat.le_of_ble_eq_true rfl) ?_
  intro p e s m args below meth c F w ls hl
  have hl : lv_has ls 1 [(0, .int k)] := hl
  have hts := F.ts
  refine lv_iload_n F.1 F.2.1 dX0_leastDensity_0 rfl (lv_at hl 0 rfl) ?_
  refine lv_iconst (v := nI 1) F.1 F.2.1 dX0_leastDensity_1 (by decide) ?_
  refine lv_icmp_ne (tgt := 9) F.1 F.2.1 dX0_leastDensity_2 (by decide) (fun c2 => ?_) (fun c2 => ?_)
  · skip
    refine lv_bipush (v := nI 60) F.1 F.2.1 dX0_leastDensity_9 (by decide) ?_
    exact r_ireturn F w dX0_leastDensity_11 (⟨by unfold lDI; first | exact (if_pos c2).symm | exact (if_neg c2).symm, rfl⟩)
  · skip
    refine lv_iconst (v := nI 0) F.1 F.2.1 dX0_leastDensity_5 (by decide) ?_
    refine lv_goto (tgt := 11) F.1 F.2.1 dX0_leastDensity_6 (by decide) ?_
    exact r_ireturn F w dX0_leastDensity_11 (⟨by unfold lDI; first | exact (if_pos c2).symm | exact (if_neg c2).symm, rfl⟩)
set_option maxRecDepth 100000 in
set_option maxHeartbeats 4000000 in
theorem c_X0_mostDensity (l : Launch) (G : KG) (k : Int32) : MetI l yX0_mostDensity wsX0_mostDensity 0 G (([] : va_W)) [.int k] (fun r w => r = mDI k ∧ w = []) := by
  refine MetI.by (cc := cX0_mostDensity) (nL := 1) (ret := some .int) (by decide +kernel) rfl (Nat.le_of_ble_eq_true rfl) ?_
  intro p e s m args below meth c F w ls hl
  have hl : lv_has ls 1 [(0, .int k)] := hl
  have hts := F.ts
  refine lv_iload_n F.1 F.2.1 dX0_mostDensity_0 rfl (lv_at hl 0 rfl) ?_
  refine lv_iconst (v := nI 1) F.1 F.2.1 dX0_mostDensity_1 (by decide) ?_
  refine lv_icmp_ne (tgt := 9) F.1 F.2.1 dX0_mostDensity_2 (by decide) (fun c2 => ?_) (fun c2 => ?_)
  · skip
    refine lv_bipush (v := nI 92) F.1 F.2.1 dX0_mostDensity_9 (by decide) ?_
    exact r_ireturn F w dX0_mostDensity_11 (⟨by unfold mDI; first | exact (if_pos c2).symm | exact (if_neg c2).symm, rfl⟩)
  · skip
    refine lv_iconst (v := nI 0) F.1 F.2.1 dX0_mostDensity_5 (by decide) ?_
    refine lv_goto (tgt := 11) F.1 F.2.1 dX0_mostDensity_6 (by decide) ?_
    exact r_ireturn F w dX0_mostDensity_11 (⟨by unfold mDI; first | exact (if_pos c2).symm | exact (if_neg c2).symm, rfl⟩)
set_option maxRecDepth 100000 in
set_option maxHeartbeats 4000000 in
theorem c_X0_leastMore (l : Launch) (G : KG) (k : Int32) : MetI l yX0_leastMore wsX0_leastMore 0 G (([] : va_W)) [.int k] (fun r w => r = lMI k ∧ w = []) := by
  refine MetI.by (cc := cX0_leastMore) (nL := 1) (ret := some .int) (by decide +kernel) rfl (Nat.le_of_ble_eq_true rfl) ?_
  intro p e s m args below meth c F w ls hl
  have hl : lv_has ls 1 [(0, .int k)] := hl
  have hts := F.ts
  refine lv_iload_n F.1 F.2.1 dX0_leastMore_0 rfl (lv_at hl 0 rfl) ?_
  refine lv_iconst (v := nI 2) F.1 F.2.1 dX0_leastMore_1 (by decide) ?_
  refine lv_icmp_ne (tgt := 9) F.1 F.2.1 dX0_leastMore_2 (by decide) (fun c2 => ?_) (fun c2 => ?_)
  · skip
    refine lv_iconst (v := nI 0) F.1 F.2.1 dX0_leastMore_9 (by decide) ?_
    exact r_ireturn F w dX0_leastMore_10 (⟨by unfold lMI; first | exact (if_pos c2).symm | exact (if_neg c2).symm, rfl⟩)
  · skip
    refine lv_iconst (v := nI 1) F.1 F.2.1 dX0_leastMore_5 (by decide) ?_
    refine lv_goto (tgt := 10) F.1 F.2.1 dX0_leastMore_6 (by decide) ?_
    exact r_ireturn F w dX0_leastMore_10 (⟨by unfold lMI; first | exact (if_pos c2).symm | exact (if_neg c2).symm, rfl⟩)
set_option maxRecDepth 100000 in
set_option maxHeartbeats 4000000 in
theorem c_X0_mostMore (l : Launch) (G : KG) (k : Int32) : MetI l yX0_mostMore wsX0_mostMore 0 G (([] : va_W)) [.int k] (fun r w => r = mMI k ∧ w = []) := by
  refine MetI.by (cc := cX0_mostMore) (nL := 1) (ret := some .int) (by decide +kernel) rfl (Nat.le_of_ble_eq_true rfl) ?_
  intro p e s m args below meth c F w ls hl
  have hl : lv_has ls 1 [(0, .int k)] := hl
  have hts := F.ts
  refine lv_iload_n F.1 F.2.1 dX0_mostMore_0 rfl (lv_at hl 0 rfl) ?_
  by_cases k1_0 : k = nI 0
  · refine r_lkIn (k := nI 0) (tgt := 28) F dX0_mostMore_1 k1_0 (by decide) (off := 27) (by decide) (by decide) ?_
    refine lv_bipush (v := nI 50) F.1 F.2.1 dX0_mostMore_28 (by decide) ?_
    exact r_ireturn F w dX0_mostMore_30 (⟨by unfold mMI; exact (if_pos k1_0).symm, rfl⟩)
  by_cases k1_2 : k = nI 2
  · refine r_lkIn (k := nI 2) (tgt := 31) F dX0_mostMore_1 k1_2 (by decide) (off := 30) (by decide) (by decide) ?_
    refine lv_bipush (v := nI 100) F.1 F.2.1 dX0_mostMore_31 (by decide) ?_
    exact r_ireturn F w dX0_mostMore_33 (⟨by unfold mMI; exact ((if_neg k1_0).trans (if_pos k1_2)).symm, rfl⟩)
  refine r_lkOut2 (tgt := 34) F dX0_mostMore_1 k1_0 k1_2 (by decide) (by decide) (by decide) (by decide) ?_
  refine lv_iconst (v := nI 0) F.1 F.2.1 dX0_mostMore_34 (by decide) ?_
  exact r_ireturn F w dX0_mostMore_35 (⟨by unfold mMI; exact ((if_neg k1_0).trans (if_neg k1_2)).symm, rfl⟩)
set_option maxRecDepth 100000 in
set_option maxHeartbeats 4000000 in
theorem c_X0_firstWrong (l : Launch) (G : KG) (k ln dn mo : Int32) : MetI l yX0_firstWrong wsX0_firstWrong 1 G (([] : va_W)) [.int k, .int ln, .int dn, .int mo] (fun r w => r = fwI k ln dn mo ∧ w = []) := by
  refine MetI.by (cc := cX0_firstWrong) (nL := 4) (ret := some .int) (by decide +kernel) rfl (Nat.le_of_ble_eq_true rfl) ?_
  intro p e s m args below meth c F w ls hl
  have hl : lv_has ls 4 [(0, .int k), (1, .int ln), (2, .int dn), (3, .int mo)] := hl
  have hts := F.ts
  refine lv_iload_n F.1 F.2.1 dX0_firstWrong_0 rfl (lv_at hl 1 rfl) ?_
  refine lv_iconst (v := nI 1) F.1 F.2.1 dX0_firstWrong_1 (by decide) ?_
  refine lv_icmp_lt (tgt := 12) F.1 F.2.1 dX0_firstWrong_2 (by decide) (fun c2 => ?_) (fun c2 => ?_)
  · skip
    refine lv_iconst (v := nI 1) F.1 F.2.1 dX0_firstWrong_12 (by decide) ?_
    exact r_ireturn F w dX0_firstWrong_13 (⟨by unfold fwI; first | exact (if_pos (Or.inl c2)).symm | exact (if_pos (Or.inr (Int32.not_le.mp c9))).symm, rfl⟩)
  · skip
    refine lv_iload_n F.1 F.2.1 dX0_firstWrong_5 rfl (lv_at hl 1 rfl) ?_
    refine lv_sipush (v := nI 300) F.1 F.2.1 dX0_firstWrong_6 (by decide) ?_
    refine lv_icmp_le (tgt := 14) F.1 F.2.1 dX0_firstWrong_9 (by decide) (fun c9 => ?_) (fun c9 => ?_)
    · skip
      refine lv_iload_n F.1 F.2.1 dX0_firstWrong_14 rfl (lv_at hl 2 rfl) ?_
      refine lv_iload_n F.1 F.2.1 dX0_firstWrong_15 rfl (lv_at hl 0 rfl) ?_
      refine r_callS0 (rest := [.int dn]) F w (c_X0_leastDensity l G k) gX0_firstWrong_X0_leastDensity (nA0 := 1) rfl (by decide +kernel) rfl ⟨Nat.le_of_ble_eq_true rfl, Nat.le_of_ble_eq_true rfl⟩ ⟨Nat.le_of_ble_eq_true rfl, Nat.le_of_ble_eq_true rfl⟩ hl rfl (Nat.le_of_ble_eq_true rfl) dX0_firstWrong_16 (fun r_16 w1 H locs hp w => ?_)
      obtain ⟨rfl, rfl⟩ := hp
      refine lv_icmp_lt (tgt := 30) F.1 F.2.1 dX0_firstWrong_19 (by decide) (fun c19 => ?_) (fun c19 => ?_)
      · skip
        refine lv_iconst (v := nI 2) F.1 F.2.1 dX0_firstWrong_30 (by decide) ?_
        exact r_ireturn F w dX0_firstWrong_31 (⟨by unfold fwI; rw [if_neg (fun q => q.elim c2 (fun z => Int32.not_le.mpr z c9))]; first | exact (if_pos (Or.inl c19)).symm | exact (if_pos (Or.inr (Int32.not_le.mp c27))).symm, rfl⟩)
      · skip
        refine lv_iload_n F.1 F.2.1 dX0_firstWrong_22 rfl (lv_at hl 2 rfl) ?_
        refine lv_iload_n F.1 F.2.1 dX0_firstWrong_23 rfl (lv_at hl 0 rfl) ?_
        refine r_callS0 (rest := [.int dn]) F w (c_X0_mostDensity l G k) gX0_firstWrong_X0_mostDensity (nA0 := 1) rfl (by decide +kernel) rfl ⟨Nat.le_of_ble_eq_true rfl, Nat.le_of_ble_eq_true rfl⟩ ⟨Nat.le_of_ble_eq_true rfl, Nat.le_of_ble_eq_true rfl⟩ hl rfl (Nat.le_of_ble_eq_true rfl) dX0_firstWrong_24 (fun r_24 w1 H locs hp w => ?_)
        obtain ⟨rfl, rfl⟩ := hp
        refine lv_icmp_le (tgt := 32) F.1 F.2.1 dX0_firstWrong_27 (by decide) (fun c27 => ?_) (fun c27 => ?_)
        · skip
          refine lv_iload_n F.1 F.2.1 dX0_firstWrong_32 rfl (lv_at hl 3 rfl) ?_
          refine lv_iload_n F.1 F.2.1 dX0_firstWrong_33 rfl (lv_at hl 0 rfl) ?_
          refine r_callS0 (rest := [.int mo]) F w (c_X0_leastMore l G k) gX0_firstWrong_X0_leastMore (nA0 := 1) rfl (by decide +kernel) rfl ⟨Nat.le_of_ble_eq_true rfl, Nat.le_of_ble_eq_true rfl⟩ ⟨Nat.le_of_ble_eq_true rfl, Nat.le_of_ble_eq_true rfl⟩ hl rfl (Nat.le_of_ble_eq_true rfl) dX0_firstWrong_34 (fun r_34 w1 H locs hp w => ?_)
          obtain ⟨rfl, rfl⟩ := hp
          refine lv_icmp_lt (tgt := 48) F.1 F.2.1 dX0_firstWrong_37 (by decide) (fun c37 => ?_) (fun c37 => ?_)
          · skip
            refine lv_iconst (v := nI 3) F.1 F.2.1 dX0_firstWrong_48 (by decide) ?_
            refine lv_goto (tgt := 53) F.1 F.2.1 dX0_firstWrong_49 (by decide) ?_
            exact r_ireturn F w dX0_firstWrong_53 (⟨by unfold fwI; rw [if_neg (fun q => q.elim c2 (fun z => Int32.not_le.mpr z c9)), if_neg (fun q => q.elim c19 (fun z => Int32.not_le.mpr z c27))]; first | exact (if_pos (Or.inl c37)).symm | exact (if_pos (Or.inr (Int32.not_le.mp c45))).symm | exact (if_neg (fun q => q.elim c37 (fun z => Int32.not_le.mpr z c45))).symm, rfl⟩)
          · skip
            refine lv_iload_n F.1 F.2.1 dX0_firstWrong_40 rfl (lv_at hl 3 rfl) ?_
            refine lv_iload_n F.1 F.2.1 dX0_firstWrong_41 rfl (lv_at hl 0 rfl) ?_
            refine r_callS0 (rest := [.int mo]) F w (c_X0_mostMore l G k) gX0_firstWrong_X0_mostMore (nA0 := 1) rfl (by decide +kernel) rfl ⟨Nat.le_of_ble_eq_true rfl, Nat.le_of_ble_eq_true rfl⟩ ⟨Nat.le_of_ble_eq_true rfl, Nat.le_of_ble_eq_true rfl⟩ hl rfl (Nat.le_of_ble_eq_true rfl) dX0_firstWrong_42 (fun r_42 w1 H locs hp w => ?_)
            obtain ⟨rfl, rfl⟩ := hp
            refine lv_icmp_le (tgt := 52) F.1 F.2.1 dX0_firstWrong_45 (by decide) (fun c45 => ?_) (fun c45 => ?_)
            · skip
              refine lv_iconst (v := nI 0) F.1 F.2.1 dX0_firstWrong_52 (by decide) ?_
              exact r_ireturn F w dX0_firstWrong_53 (⟨by unfold fwI; rw [if_neg (fun q => q.elim c2 (fun z => Int32.not_le.mpr z c9)), if_neg (fun q => q.elim c19 (fun z => Int32.not_le.mpr z c27))]; first | exact (if_pos (Or.inl c37)).symm | exact (if_pos (Or.inr (Int32.not_le.mp c45))).symm | exact (if_neg (fun q => q.elim c37 (fun z => Int32.not_le.mpr z c45))).symm, rfl⟩)
            · skip
              refine lv_iconst (v := nI 3) F.1 F.2.1 dX0_firstWrong_48 (by decide) ?_
              refine lv_goto (tgt := 53) F.1 F.2.1 dX0_firstWrong_49 (by decide) ?_
              exact r_ireturn F w dX0_firstWrong_53 (⟨by unfold fwI; rw [if_neg (fun q => q.elim c2 (fun z => Int32.not_le.mpr z c9)), if_neg (fun q => q.elim c19 (fun z => Int32.not_le.mpr z c27))]; first | exact (if_pos (Or.inl c37)).symm | exact (if_pos (Or.inr (Int32.not_le.mp c45))).symm | exact (if_neg (fun q => q.elim c37 (fun z => Int32.not_le.mpr z c45))).symm, rfl⟩)
        · skip
          refine lv_iconst (v := nI 2) F.1 F.2.1 dX0_firstWrong_30 (by decide) ?_
          exact r_ireturn F w dX0_firstWrong_31 (⟨by unfold fwI; rw [if_neg (fun q => q.elim c2 (fun z => Int32.not_le.mpr z c9))]; first | exact (if_pos (Or.inl c19)).symm | exact (if_pos (Or.inr (Int32.not_le.mp c27))).symm, rfl⟩)
    · skip
      refine lv_iconst (v := nI 1) F.1 F.2.1 dX0_firstWrong_12 (by decide) ?_
      exact r_ireturn F w dX0_firstWrong_13 (⟨by unfold fwI; first | exact (if_pos (Or.inl c2)).symm | exact (if_pos (Or.inr (Int32.not_le.mp c9))).symm, rfl⟩)
set_option maxRecDepth 100000 in
set_option maxHeartbeats 4000000 in
theorem c_X0_isFull (l : Launch) (G : KG) (a : Nat → Nat) (sz hg : Nat) (kd ln dn mo lo : Nat → Nat) (hs : sz ≤ 20) : MetI l yX0_isFull wsX0_isFull 0 G (coreW G a sz hg kd ln dn mo lo) [.ref (a 0)] (fun r v => r = yn (20 ≤ sz) ∧ v = coreW G a sz hg kd ln dn mo lo) := by
  refine MetI.by (cc := cX0_isFull) (nL := 1) (ret := some .boolean) (by decide +kernel) rfl (Nat.le_of_ble_eq_true rfl) ?_
  intro p e s m args below meth c F w ls hl
  have hl : lv_has ls 1 [(0, .ref (a 0))] := hl
  have hts := F.ts
  have iX0 : ∀ w ∈ wsX00, w ∈ wsX0_isFull := by decide +kernel
  have f25 := hts (.fieldLink RX0 25 "CoreMelter$Core" "size" "I") (by decide +kernel)
  refine lv_aload_n F.1 F.2.1 dX0_isFull_0 rfl (lv_at hl 0 rfl) ?_
  refine r_get F w 0 0 iX0 f25 rfl rfl rfl (by decide) rfl dX0_isFull_1 ?_
  refine lv_bipush (v := nI 20) F.1 F.2.1 dX0_isFull_4 (by decide) ?_
  refine r_clt (tgt := 13) F dX0_isFull_6 (by decide) (by omega) (by omega) (fun c6 => ?_) (fun c6 => ?_)
  · skip
    refine lv_iconst (v := nI 0) F.1 F.2.1 dX0_isFull_13 (by decide) ?_
    exact r_zreturn F w dX0_isFull_14 rfl (⟨by first | exact yn_f (by omega) | exact yn_t (by omega), rfl⟩)
  · skip
    refine lv_iconst (v := nI 1) F.1 F.2.1 dX0_isFull_9 (by decide) ?_
    refine lv_goto (tgt := 14) F.1 F.2.1 dX0_isFull_10 (by decide) ?_
    exact r_zreturn F w dX0_isFull_14 rfl (⟨by first | exact yn_f (by omega) | exact yn_t (by omega), rfl⟩)
set_option maxRecDepth 100000 in
set_option maxHeartbeats 4000000 in
theorem c_X0_put (l : Launch) (G : KG) (a : Nat → Nat) (sz hg : Nat) (kd ln dn mo lo : Nat → Nat) (k1 l1 d1 m1 : Nat) (hs : sz < 20) : MetV l yX0_put wsX0_put 1 0 0 G (coreW G a sz hg kd ln dn mo lo) [.ref (a 0), .int (nI k1), .int (nI l1), .int (nI d1), .int (nI m1)] (fun v => v = coreW G a (sz + 1) (hg + l1) (up kd sz k1) (up ln sz l1) (up dn sz d1) (up mo sz m1) (up lo sz hg)) := by
  refine MetV.by (cc := cX0_put) (nL := 5) (ret := none) (by decide +kernel) rfl (Nat.le_of_ble_eq_true rfl) ?_
  intro p e s m args below meth c F hname w ls hl
  have hl : lv_has ls 5 [(0, .ref (a 0)), (1, .int (nI k1)), (2, .int (nI l1)), (3, .int (nI d1)), (4, .int (nI m1))] := hl
  have hts := F.ts
  have iX0 : ∀ w ∈ wsX00, w ∈ wsX0_put := by decide +kernel
  have f9 := hts (.fieldLink RX0 9 "CoreMelter$Core" "kinds" "[I") (by decide +kernel)
  have f13 := hts (.fieldLink RX0 13 "CoreMelter$Core" "lengths" "[I") (by decide +kernel)
  have f16 := hts (.fieldLink RX0 16 "CoreMelter$Core" "densities" "[I") (by decide +kernel)
  have f19 := hts (.fieldLink RX0 19 "CoreMelter$Core" "mores" "[I") (by decide +kernel)
  have f22 := hts (.fieldLink RX0 22 "CoreMelter$Core" "lowers" "[I") (by decide +kernel)
  have f25 := hts (.fieldLink RX0 25 "CoreMelter$Core" "size" "I") (by decide +kernel)
  have f29 := hts (.fieldLink RX0 29 "CoreMelter$Core" "height" "I") (by decide +kernel)
  refine lv_aload_n F.1 F.2.1 dX0_put_0 rfl (lv_at hl 0 rfl) ?_
  refine r_callVI (rest := []) F w (c_X0_isFull l G a sz hg kd ln dn mo lo  (by omega)) gX0_put_X0_isFull [0, 1, 2, 3, 4, 5] [] (nA0 := 0) rfl (by decide +kernel) rfl ⟨Nat.le_of_ble_eq_true rfl, Nat.le_of_ble_eq_true rfl⟩ ⟨Nat.le_of_ble_eq_true rfl, Nat.le_of_ble_eq_true rfl⟩ rfl rfl rfl rfl rfl rfl rfl hl rfl (Nat.le_of_ble_eq_true rfl) dX0_put_1 (fun r_1 w1 H locs hp w => ?_)
  obtain ⟨rfl, rfl⟩ := hp
  have w := w.sub (ws' := coreW G a sz hg kd ln dn mo lo) [0, 1, 2, 3, 4, 5] (by decide) rfl
  refine r_yeq (tgt := 8) F dX0_put_4 (by decide) (fun c4 => ?_) (fun c4 => ?_)
  · skip
    refine lv_aload_n F.1 F.2.1 dX0_put_8 rfl (lv_at hl 0 rfl) ?_
    refine r_get F w 0 2 iX0 f9 rfl rfl rfl (by decide) rfl dX0_put_9 ?_
    refine lv_aload_n F.1 F.2.1 dX0_put_12 rfl (lv_at hl 0 rfl) ?_
    refine r_get F w 0 0 iX0 f25 rfl rfl rfl (by decide) rfl dX0_put_13 ?_
    refine lv_iload_n F.1 F.2.1 dX0_put_16 rfl (lv_at hl 1 rfl) ?_
    refine r_iast (ws' := coreW G a sz hg (up kd sz k1) ln dn mo lo) F w 1 rfl (by omega) (by decide) dX0_put_17 rfl (fun H locs w => ?_)
    refine lv_aload_n F.1 F.2.1 dX0_put_18 rfl (lv_at hl 0 rfl) ?_
    refine r_get F w 0 3 iX0 f13 rfl rfl rfl (by decide) rfl dX0_put_19 ?_
    refine lv_aload_n F.1 F.2.1 dX0_put_22 rfl (lv_at hl 0 rfl) ?_
    refine r_get F w 0 0 iX0 f25 rfl rfl rfl (by decide) rfl dX0_put_23 ?_
    refine lv_iload_n F.1 F.2.1 dX0_put_26 rfl (lv_at hl 2 rfl) ?_
    refine r_iast (ws' := coreW G a sz hg (up kd sz k1) (up ln sz l1) dn mo lo) F w 2 rfl (by omega) (by decide) dX0_put_27 rfl (fun H locs w => ?_)
    refine lv_aload_n F.1 F.2.1 dX0_put_28 rfl (lv_at hl 0 rfl) ?_
    refine r_get F w 0 4 iX0 f16 rfl rfl rfl (by decide) rfl dX0_put_29 ?_
    refine lv_aload_n F.1 F.2.1 dX0_put_32 rfl (lv_at hl 0 rfl) ?_
    refine r_get F w 0 0 iX0 f25 rfl rfl rfl (by decide) rfl dX0_put_33 ?_
    refine lv_iload_n F.1 F.2.1 dX0_put_36 rfl (lv_at hl 3 rfl) ?_
    refine r_iast (ws' := coreW G a sz hg (up kd sz k1) (up ln sz l1) (up dn sz d1) mo lo) F w 3 rfl (by omega) (by decide) dX0_put_37 rfl (fun H locs w => ?_)
    refine lv_aload_n F.1 F.2.1 dX0_put_38 rfl (lv_at hl 0 rfl) ?_
    refine r_get F w 0 5 iX0 f19 rfl rfl rfl (by decide) rfl dX0_put_39 ?_
    refine lv_aload_n F.1 F.2.1 dX0_put_42 rfl (lv_at hl 0 rfl) ?_
    refine r_get F w 0 0 iX0 f25 rfl rfl rfl (by decide) rfl dX0_put_43 ?_
    refine lv_iload F.1 F.2.1 dX0_put_46 (lv_at hl 4 rfl) ?_
    refine r_iast (ws' := coreW G a sz hg (up kd sz k1) (up ln sz l1) (up dn sz d1) (up mo sz m1) lo) F w 4 rfl (by omega) (by decide) dX0_put_48 rfl (fun H locs w => ?_)
    refine lv_aload_n F.1 F.2.1 dX0_put_49 rfl (lv_at hl 0 rfl) ?_
    refine r_get F w 0 6 iX0 f22 rfl rfl rfl (by decide) rfl dX0_put_50 ?_
    refine lv_aload_n F.1 F.2.1 dX0_put_53 rfl (lv_at hl 0 rfl) ?_
    refine r_get F w 0 0 iX0 f25 rfl rfl rfl (by decide) rfl dX0_put_54 ?_
    refine lv_aload_n F.1 F.2.1 dX0_put_57 rfl (lv_at hl 0 rfl) ?_
    refine r_get F w 0 1 iX0 f29 rfl rfl rfl (by decide) rfl dX0_put_58 ?_
    refine r_iast (ws' := coreW G a sz hg (up kd sz k1) (up ln sz l1) (up dn sz d1) (up mo sz m1) (up lo sz hg)) F w 5 rfl (by omega) (by decide) dX0_put_61 rfl (fun H locs w => ?_)
    refine lv_aload_n F.1 F.2.1 dX0_put_62 rfl (lv_at hl 0 rfl) ?_
    refine lv_dup F.1 F.2.1 dX0_put_63 rfl ?_
    refine r_get F w 0 1 iX0 f29 rfl rfl rfl (by decide) rfl dX0_put_64 ?_
    refine lv_iload_n F.1 F.2.1 dX0_put_67 rfl (lv_at hl 2 rfl) ?_
    refine r_iadd F dX0_put_68 ?_
    refine r_put (ws' := coreW G a sz (hg + l1) (up kd sz k1) (up ln sz l1) (up dn sz d1) (up mo sz m1) (up lo sz hg)) F w 0 1 iX0 okX0 f29 rfl rfl rfl (by decide) (by decide +kernel) (Nat.le_of_ble_eq_true rfl) dX0_put_69 rfl (fun H locs w => ?_)
    refine lv_aload_n F.1 F.2.1 dX0_put_72 rfl (lv_at hl 0 rfl) ?_
    refine lv_dup F.1 F.2.1 dX0_put_73 rfl ?_
    refine r_get F w 0 0 iX0 f25 rfl rfl rfl (by decide) rfl dX0_put_74 ?_
    refine lv_iconst (v := nI 1) F.1 F.2.1 dX0_put_77 (by decide) ?_
    refine r_iadd F dX0_put_78 ?_
    refine r_put (ws' := coreW G a (sz + 1) (hg + l1) (up kd sz k1) (up ln sz l1) (up dn sz d1) (up mo sz m1) (up lo sz hg)) F w 0 0 iX0 okX0 f25 rfl rfl rfl (by decide) (by decide +kernel) (Nat.le_of_ble_eq_true rfl) dX0_put_79 rfl (fun H locs w => ?_)
    exact r_return F w dX0_put_82 (rfl)
  · exact absurd c4 (by omega)
set_option maxRecDepth 100000 in
set_option maxHeartbeats 4000000 in
theorem c_X0_end (l : Launch) (G : KG) (a : Nat → Nat) (sz hg : Nat) (kd ln dn mo lo : Nat → Nat) (k : Nat) (hk : k < 20) : MetI l yX0_end wsX0_end 0 G (coreW G a sz hg kd ln dn mo lo) [.ref (a 0), .int (nI k)] (fun r v => r = nI (lo k + ln k) ∧ v = coreW G a sz hg kd ln dn mo lo) := by
  refine MetI.by (cc := cX0_end) (nL := 2) (ret := some .int) (by decide +kernel) rfl (Nat.le_of_ble_eq_true rfl) ?_
  intro p e s m args below meth c F w ls hl
  have hl : lv_has ls 2 [(0, .ref (a 0)), (1, .int (nI k))] := hl
  have hts := F.ts
  have iX0 : ∀ w ∈ wsX00, w ∈ wsX0_end := by decide +kernel
  have f13 := hts (.fieldLink RX0 13 "CoreMelter$Core" "lengths" "[I") (by decide +kernel)
  have f22 := hts (.fieldLink RX0 22 "CoreMelter$Core" "lowers" "[I") (by decide +kernel)
  refine lv_aload_n F.1 F.2.1 dX0_end_0 rfl (lv_at hl 0 rfl) ?_
  refine r_get F w 0 6 iX0 f22 rfl rfl rfl (by decide) rfl dX0_end_1 ?_
  refine lv_iload_n F.1 F.2.1 dX0_end_4 rfl (lv_at hl 1 rfl) ?_
  refine r_iald F w 5 rfl (by omega) (by decide) dX0_end_5 ?_
  refine lv_aload_n F.1 F.2.1 dX0_end_6 rfl (lv_at hl 0 rfl) ?_
  refine r_get F w 0 3 iX0 f13 rfl rfl rfl (by decide) rfl dX0_end_7 ?_
  refine lv_iload_n F.1 F.2.1 dX0_end_10 rfl (lv_at hl 1 rfl) ?_
  refine r_iald F w 2 rfl (by omega) (by decide) dX0_end_11 ?_
  refine r_iadd F dX0_end_12 ?_
  exact r_ireturn F w dX0_end_13 (⟨rfl, rfl⟩)
set_option maxRecDepth 100000 in
set_option maxHeartbeats 4000000 in
theorem c_X0_holding (l : Launch) (G : KG) (a : Nat → Nat) (sz hg : Nat) (kd ln dn mo lo : Nat → Nat) (d : Nat) (hd : d < 2 ^ 31) (h : CoreOk sz hg kd ln dn mo lo) : MetI l yX0_holding wsX0_holding 1 G (coreW G a sz hg kd ln dn mo lo) [.ref (a 0), .int (nI d)] (fun r v => r = nI (sg ln d sz) ∧ v = coreW G a sz hg kd ln dn mo lo) := by
  refine MetI.by (cc := cX0_holding) (nL := 3) (ret := some .int) (by decide +kernel) rfl (Nat.le_of_ble_eq_true rfl) ?_
  intro p e s m args below meth c F w ls hl
  have hl : lv_has ls 3 [(0, .ref (a 0)), (1, .int (nI d))] := hl
  have hts := F.ts
  have iX0 : ∀ w ∈ wsX00, w ∈ wsX0_holding := by decide +kernel
  have f25 := hts (.fieldLink RX0 25 "CoreMelter$Core" "size" "I") (by decide +kernel)
  have h20 := h.1
  have hb := h.bnd
  refine lv_iconst (v := nI 0) F.1 F.2.1 dX0_holding_0 (by decide) ?_
  refine lv_istore_n (lv' := [(2, .int (nI 0)), (0, .ref (a 0)), (1, .int (nI d))]) F.1 F.2.1 dX0_holding_1 rfl hl (by decide) rfl (fun ls hl => ?_)
  have L2 : ∀ n : Nat, ∀ (k : Nat), (k ≤ sz) → (∀ j, j < k → low ln (j + 1) ≤ d) → sz - k < n → ∀ (H : Heap) (locs : List Loc), Wd G s (va_A (coreW G a sz hg kd ln dn mo lo) s.heap.size) (coreW G a sz hg kd ln dn mo lo) H locs → ∀ ls : Array Slot, lv_has ls 3 [(0, .ref (a 0)), (1, .int (nI d)), (2, .int (nI k))] → W p l e (rmK 1 0 0) s m args below meth c H locs 0 0 (MQ below (QI G (coreW G a sz hg kd ln dn mo lo) s.heap.size (fun r v => r = nI (sg ln d sz) ∧ v = coreW G a sz hg kd ln dn mo lo)) args s 0 0 (va_A (coreW G a sz hg kd ln dn mo lo) s.heap.size)) (F0 m 2 ls []) := by
    intro n
    induction n with
    | zero => intro k h1 h2 hm; exact absurd hm (Nat.not_lt_zero _)
    | succ n ih2 =>
      intro k h1 h2 hm2 H locs w ls hl
      refine lv_iload_n F.1 F.2.1 dX0_holding_2 rfl (lv_at hl 2 rfl) ?_
      refine lv_aload_n F.1 F.2.1 dX0_holding_3 rfl (lv_at hl 0 rfl) ?_
      refine r_get F w 0 0 iX0 f25 rfl rfl rfl (by decide) rfl dX0_holding_4 ?_
      refine r_cge (tgt := 25) F dX0_holding_7 (by decide) (by omega) (by omega) (fun c7 => ?_) (fun c7 => ?_)
      · skip
        refine lv_iload_n F.1 F.2.1 dX0_holding_25 rfl (lv_at hl 2 rfl) ?_
        exact r_ireturn F w dX0_holding_26 (⟨congrArg nI (by first | exact (sg_at c7 h2 (by omega)).symm | (rw [sg_all (n := sz) (fun j hj => h2 j (by omega))]; omega)), rfl⟩)
      · skip
        refine lv_iload_n F.1 F.2.1 dX0_holding_10 rfl (lv_at hl 1 rfl) ?_
        refine lv_aload_n F.1 F.2.1 dX0_holding_11 rfl (lv_at hl 0 rfl) ?_
        refine lv_iload_n F.1 F.2.1 dX0_holding_12 rfl (lv_at hl 2 rfl) ?_
        refine r_callVI (rest := [.int (nI d)]) F w (c_X0_end l G a sz hg kd ln dn mo lo k (by omega)) gX0_holding_X0_end [0, 1, 2, 3, 4, 5] [] (nA0 := 1) rfl (by decide +kernel) rfl ⟨Nat.le_of_ble_eq_true rfl, Nat.le_of_ble_eq_true rfl⟩ ⟨Nat.le_of_ble_eq_true rfl, Nat.le_of_ble_eq_true rfl⟩ rfl rfl rfl rfl rfl rfl rfl hl rfl (Nat.le_of_ble_eq_true rfl) dX0_holding_13 (fun r_13 w1 H locs hp w => ?_)
        obtain ⟨rfl, rfl⟩ := hp
        have w := w.sub (ws' := coreW G a sz hg kd ln dn mo lo) [0, 1, 2, 3, 4, 5] (by decide) rfl
        refine r_to (y := (nI (low ln (k + 1)))) (congrArg nI (h.endk c7)) ?_
        refine r_clt (tgt := 25) F dX0_holding_16 (by decide) (by omega) (by have := hb (k + 1) (by omega); omega) (fun c16 => ?_) (fun c16 => ?_)
        · skip
          refine lv_iload_n F.1 F.2.1 dX0_holding_25 rfl (lv_at hl 2 rfl) ?_
          exact r_ireturn F w dX0_holding_26 (⟨congrArg nI (by first | exact (sg_at c7 h2 (by omega)).symm | (rw [sg_all (n := sz) (fun j hj => h2 j (by omega))]; omega)), rfl⟩)
        · skip
          refine lv_iinc (v := nI (k + 1)) (lv' := [(2, .int (nI (k + 1))), (0, .ref (a 0)), (1, .int (nI d))]) F.1 F.2.1 dX0_holding_19 hl (k := 2) rfl (nI_add _ _) (by decide) rfl (fun ls hl => ?_)
          refine lv_goto (tgt := 2) F.1 F.2.1 dX0_holding_22 (by decide) ?_
          exact ih2 (k + 1) (by omega) (fun j hj => by rcases Nat.lt_succ_iff_lt_or_eq.mp hj with q | q; exact h2 j q; rw [q]; omega) (by omega) _ _ w ls (lv_sub hl [1, 2, 0] rfl)
  exact L2 _ 0 (Nat.zero_le _) (fun j hj => absurd hj (Nat.not_lt_zero _)) (Nat.lt_succ_self _) _ _ w ls (lv_sub hl [1, 2, 0] rfl)
set_option maxRecDepth 100000 in
set_option maxHeartbeats 4000000 in
theorem c_X0_gasOfUnit (l : Launch) (G : KG) (a : Nat → Nat) (sz hg : Nat) (kd ln dn mo lo : Nat → Nat) (k : Nat) (hk : k < sz) (h : CoreOk sz hg kd ln dn mo lo) : MetI l yX0_gasOfUnit wsX0_gasOfUnit 0 G (coreW G a sz hg kd ln dn mo lo) [.ref (a 0), .int (nI k)] (fun r v => r = nI (if kd k = 0 then dn k * mo k / 100 else 0) ∧ v = coreW G a sz hg kd ln dn mo lo) := by
  refine MetI.by (cc := cX0_gasOfUnit) (nL := 2) (ret := some .int) (by decide +kernel) rfl (Nat.le_of_ble_eq_true rfl) ?_
  intro p e s m args below meth c F w ls hl
  have hl : lv_has ls 2 [(0, .ref (a 0)), (1, .int (nI k))] := hl
  have hts := F.ts
  have iX0 : ∀ w ∈ wsX00, w ∈ wsX0_gasOfUnit := by decide +kernel
  have f9 := hts (.fieldLink RX0 9 "CoreMelter$Core" "kinds" "[I") (by decide +kernel)
  have f16 := hts (.fieldLink RX0 16 "CoreMelter$Core" "densities" "[I") (by decide +kernel)
  have f19 := hts (.fieldLink RX0 19 "CoreMelter$Core" "mores" "[I") (by decide +kernel)
  have h20 := h.1
  obtain ⟨q1, q2, q3⟩ := h.2.1 k hk
  have hm := Nat.mul_le_mul (show dn k ≤ 92 by omega) (show mo k ≤ 100 by omega)
  refine lv_aload_n F.1 F.2.1 dX0_gasOfUnit_0 rfl (lv_at hl 0 rfl) ?_
  refine r_get F w 0 2 iX0 f9 rfl rfl rfl (by decide) rfl dX0_gasOfUnit_1 ?_
  refine lv_iload_n F.1 F.2.1 dX0_gasOfUnit_4 rfl (lv_at hl 1 rfl) ?_
  refine r_iald F w 1 rfl (by omega) (by decide) dX0_gasOfUnit_5 ?_
  refine r_zne (tgt := 28) F dX0_gasOfUnit_6 (by decide) (by omega) (fun c6 => ?_) (fun c6 => ?_)
  · skip
    refine lv_iconst (v := nI 0) F.1 F.2.1 dX0_gasOfUnit_28 (by decide) ?_
    exact r_ireturn F w dX0_gasOfUnit_29 (⟨congrArg nI (by first | exact (if_pos c6).symm | exact (if_neg c6).symm), rfl⟩)
  · skip
    refine lv_aload_n F.1 F.2.1 dX0_gasOfUnit_9 rfl (lv_at hl 0 rfl) ?_
    refine r_get F w 0 4 iX0 f16 rfl rfl rfl (by decide) rfl dX0_gasOfUnit_10 ?_
    refine lv_iload_n F.1 F.2.1 dX0_gasOfUnit_13 rfl (lv_at hl 1 rfl) ?_
    refine r_iald F w 3 rfl (by omega) (by decide) dX0_gasOfUnit_14 ?_
    refine lv_aload_n F.1 F.2.1 dX0_gasOfUnit_15 rfl (lv_at hl 0 rfl) ?_
    refine r_get F w 0 5 iX0 f19 rfl rfl rfl (by decide) rfl dX0_gasOfUnit_16 ?_
    refine lv_iload_n F.1 F.2.1 dX0_gasOfUnit_19 rfl (lv_at hl 1 rfl) ?_
    refine r_iald F w 4 rfl (by omega) (by decide) dX0_gasOfUnit_20 ?_
    refine r_imul F dX0_gasOfUnit_21 ?_
    refine lv_bipush (v := nI 100) F.1 F.2.1 dX0_gasOfUnit_22 (by decide) ?_
    refine r_idiv F dX0_gasOfUnit_24 (by omega) (by omega) (by omega) ?_
    refine lv_goto (tgt := 29) F.1 F.2.1 dX0_gasOfUnit_25 (by decide) ?_
    exact r_ireturn F w dX0_gasOfUnit_29 (⟨congrArg nI (by first | exact (if_pos c6).symm | exact (if_neg c6).symm), rfl⟩)
set_option maxRecDepth 100000 in
set_option maxHeartbeats 4000000 in
theorem c_X0_dirtOfUnit (l : Launch) (G : KG) (a : Nat → Nat) (sz hg : Nat) (kd ln dn mo lo : Nat → Nat) (k : Nat) (hk : k < sz) (h : CoreOk sz hg kd ln dn mo lo) : MetI l yX0_dirtOfUnit wsX0_dirtOfUnit 0 G (coreW G a sz hg kd ln dn mo lo) [.ref (a 0), .int (nI k)] (fun r v => r = nI (if kd k = 2 then mo k else 0) ∧ v = coreW G a sz hg kd ln dn mo lo) := by
  refine MetI.by (cc := cX0_dirtOfUnit) (nL := 2) (ret := some .int) (by decide +kernel) rfl (Nat.le_of_ble_eq_true rfl) ?_
  intro p e s m args below meth c F w ls hl
  have hl : lv_has ls 2 [(0, .ref (a 0)), (1, .int (nI k))] := hl
  have hts := F.ts
  have iX0 : ∀ w ∈ wsX00, w ∈ wsX0_dirtOfUnit := by decide +kernel
  have f9 := hts (.fieldLink RX0 9 "CoreMelter$Core" "kinds" "[I") (by decide +kernel)
  have f19 := hts (.fieldLink RX0 19 "CoreMelter$Core" "mores" "[I") (by decide +kernel)
  have h20 := h.1
  obtain ⟨q1, q2, q3⟩ := h.2.1 k hk
  refine lv_aload_n F.1 F.2.1 dX0_dirtOfUnit_0 rfl (lv_at hl 0 rfl) ?_
  refine r_get F w 0 2 iX0 f9 rfl rfl rfl (by decide) rfl dX0_dirtOfUnit_1 ?_
  refine lv_iload_n F.1 F.2.1 dX0_dirtOfUnit_4 rfl (lv_at hl 1 rfl) ?_
  refine r_iald F w 1 rfl (by omega) (by decide) dX0_dirtOfUnit_5 ?_
  refine lv_iconst (v := nI 2) F.1 F.2.1 dX0_dirtOfUnit_6 (by decide) ?_
  refine r_cne (tgt := 19) F dX0_dirtOfUnit_7 (by decide) (by omega) (by omega) (fun c7 => ?_) (fun c7 => ?_)
  · skip
    refine lv_iconst (v := nI 0) F.1 F.2.1 dX0_dirtOfUnit_19 (by decide) ?_
    exact r_ireturn F w dX0_dirtOfUnit_20 (⟨congrArg nI (by first | exact (if_pos c7).symm | exact (if_neg c7).symm), rfl⟩)
  · skip
    refine lv_aload_n F.1 F.2.1 dX0_dirtOfUnit_10 rfl (lv_at hl 0 rfl) ?_
    refine r_get F w 0 5 iX0 f19 rfl rfl rfl (by decide) rfl dX0_dirtOfUnit_11 ?_
    refine lv_iload_n F.1 F.2.1 dX0_dirtOfUnit_14 rfl (lv_at hl 1 rfl) ?_
    refine r_iald F w 4 rfl (by omega) (by decide) dX0_dirtOfUnit_15 ?_
    refine lv_goto (tgt := 20) F.1 F.2.1 dX0_dirtOfUnit_16 (by decide) ?_
    exact r_ireturn F w dX0_dirtOfUnit_20 (⟨congrArg nI (by first | exact (if_pos c7).symm | exact (if_neg c7).symm), rfl⟩)
set_option maxRecDepth 100000 in
set_option maxHeartbeats 4000000 in
theorem c_X0_partBelow (l : Launch) (G : KG) (a : Nat → Nat) (sz hg : Nat) (kd ln dn mo lo : Nat → Nat) (d k : Nat) (hk : k < sz) (hd : d < 2 ^ 30) (h : CoreOk sz hg kd ln dn mo lo) : MetI l yX0_partBelow wsX0_partBelow 1 G (coreW G a sz hg kd ln dn mo lo) [.ref (a 0), .int (nI d), .int (nI k)] (fun r v => r = nI (min (d - low ln k) (ln k)) ∧ v = coreW G a sz hg kd ln dn mo lo) := by
  refine MetI.by (cc := cX0_partBelow) (nL := 3) (ret := some .int) (by decide +kernel) rfl (Nat.le_of_ble_eq_true rfl) ?_
  intro p e s m args below meth c F w ls hl
  have hl : lv_has ls 3 [(0, .ref (a 0)), (1, .int (nI d)), (2, .int (nI k))] := hl
  have hts := F.ts
  have iX0 : ∀ w ∈ wsX00, w ∈ wsX0_partBelow := by decide +kernel
  have f13 := hts (.fieldLink RX0 13 "CoreMelter$Core" "lengths" "[I") (by decide +kernel)
  have f22 := hts (.fieldLink RX0 22 "CoreMelter$Core" "lowers" "[I") (by decide +kernel)
  have hM1 := hts (.methodLink RX0 64 Lib.Math.max.name) (by decide +kernel)
  have hM2 := hts (.static Lib.Math.max.name) (by decide +kernel)
  have hM3 := hts (.initialized "java/lang/Math") (by decide +kernel)
  have hM4 := hts (.code Lib.Math.max.name Lib.Math.max.code 2 (some .int)) (by decide +kernel)
  have hm1 := hts (.methodLink RX0 58 Lib.Math.min.name) (by decide +kernel)
  have hm2 := hts (.static Lib.Math.min.name) (by decide +kernel)
  have hm3 := hts (.initialized "java/lang/Math") (by decide +kernel)
  have hm4 := hts (.code Lib.Math.min.name Lib.Math.min.code 2 (some .int)) (by decide +kernel)
  have h20 := h.1
  obtain ⟨q1, q2, q3⟩ := h.2.1 k hk
  have hb := h.bnd k (by omega)
  refine lv_iconst (v := nI 0) F.1 F.2.1 dX0_partBelow_0 (by decide) ?_
  refine lv_iload_n F.1 F.2.1 dX0_partBelow_1 rfl (lv_at hl 1 rfl) ?_
  refine lv_aload_n F.1 F.2.1 dX0_partBelow_2 rfl (lv_at hl 0 rfl) ?_
  refine r_get F w 0 6 iX0 f22 rfl rfl rfl (by decide) rfl dX0_partBelow_3 ?_
  refine lv_iload_n F.1 F.2.1 dX0_partBelow_6 rfl (lv_at hl 2 rfl) ?_
  refine r_iald F w 5 rfl (by omega) (by decide) dX0_partBelow_7 ?_
  refine r_to (y := (nI (low ln k))) (congrArg nI (h.2.2.1 k hk)) ?_
  refine lv_isub F.1 F.2.1 dX0_partBelow_8 ?_
  refine lv_aload_n F.1 F.2.1 dX0_partBelow_9 rfl (lv_at hl 0 rfl) ?_
  refine r_get F w 0 3 iX0 f13 rfl rfl rfl (by decide) rfl dX0_partBelow_10 ?_
  refine lv_iload_n F.1 F.2.1 dX0_partBelow_13 rfl (lv_at hl 2 rfl) ?_
  refine r_iald F w 2 rfl (by omega) (by decide) dX0_partBelow_14 ?_
  refine r_minI F hm1 hm2 hm3 hm4 (by decide) (Nat.le_of_ble_eq_true rfl) ⟨Nat.le_of_ble_eq_true rfl, Nat.le_of_ble_eq_true rfl⟩ hl dX0_partBelow_15 ?_
  refine r_maxI F hM1 hM2 hM3 hM4 (by decide) (Nat.le_of_ble_eq_true rfl) ⟨Nat.le_of_ble_eq_true rfl, Nat.le_of_ble_eq_true rfl⟩ hl dX0_partBelow_18 ?_
  refine r_to (y := (nI (min (d - low ln k) (ln k)))) (pb_eq hd (by omega) (by omega)) ?_
  exact r_ireturn F w dX0_partBelow_21 (⟨rfl, rfl⟩)
set_option maxRecDepth 100000 in
set_option maxHeartbeats 4000000 in
theorem c_X0_waterUpTo (l : Launch) (G : KG) (a : Nat → Nat) (sz hg : Nat) (kd ln dn mo lo : Nat → Nat) (d : Nat) (hd : d < 2 ^ 30) (h : CoreOk sz hg kd ln dn mo lo) : MetI l yX0_waterUpTo wsX0_waterUpTo 2 G (coreW G a sz hg kd ln dn mo lo) [.ref (a 0), .int (nI d)] (fun r v => r = nI (wat ln dn d sz) ∧ v = coreW G a sz hg kd ln dn mo lo) := by
  refine MetI.by (cc := cX0_waterUpTo) (nL := 4) (ret := some .int) (by decide +kernel) rfl (Nat.le_of_ble_eq_true rfl) ?_
  intro p e s m args below meth c F w ls hl
  have hl : lv_has ls 4 [(0, .ref (a 0)), (1, .int (nI d))] := hl
  have hts := F.ts
  have iX0 : ∀ w ∈ wsX00, w ∈ wsX0_waterUpTo := by decide +kernel
  have f16 := hts (.fieldLink RX0 16 "CoreMelter$Core" "densities" "[I") (by decide +kernel)
  have f25 := hts (.fieldLink RX0 25 "CoreMelter$Core" "size" "I") (by decide +kernel)
  have h20 := h.1
  refine lv_iconst (v := nI 0) F.1 F.2.1 dX0_waterUpTo_0 (by decide) ?_
  refine lv_istore_n (lv' := [(2, .int (nI 0)), (0, .ref (a 0)), (1, .int (nI d))]) F.1 F.2.1 dX0_waterUpTo_1 rfl hl (by decide) rfl (fun ls hl => ?_)
  refine lv_iconst (v := nI 0) F.1 F.2.1 dX0_waterUpTo_2 (by decide) ?_
  refine lv_istore_n (lv' := [(3, .int (nI 0)), (2, .int (nI 0)), (0, .ref (a 0)), (1, .int (nI d))]) F.1 F.2.1 dX0_waterUpTo_3 rfl hl (by decide) rfl (fun ls hl => ?_)
  have L4 : ∀ n : Nat, ∀ (k : Nat), (k ≤ sz) → sz - k < n → ∀ (H : Heap) (locs : List Loc), Wd G s (va_A (coreW G a sz hg kd ln dn mo lo) s.heap.size) (coreW G a sz hg kd ln dn mo lo) H locs → ∀ ls : Array Slot, lv_has ls 4 [(0, .ref (a 0)), (1, .int (nI d)), (2, .int (nI (wat ln dn d k))), (3, .int (nI k))] → W p l e (rmK 2 0 0) s m args below meth c H locs 0 0 (MQ below (QI G (coreW G a sz hg kd ln dn mo lo) s.heap.size (fun r v => r = nI (wat ln dn d sz) ∧ v = coreW G a sz hg kd ln dn mo lo)) args s 0 0 (va_A (coreW G a sz hg kd ln dn mo lo) s.heap.size)) (F0 m 4 ls []) := by
    intro n
    induction n with
    | zero => intro k h1 hm; exact absurd hm (Nat.not_lt_zero _)
    | succ n ih4 =>
      intro k h1 hm4 H locs w ls hl
      refine lv_iload_n F.1 F.2.1 dX0_waterUpTo_4 rfl (lv_at hl 3 rfl) ?_
      refine lv_aload_n F.1 F.2.1 dX0_waterUpTo_5 rfl (lv_at hl 0 rfl) ?_
      refine r_get F w 0 0 iX0 f25 rfl rfl rfl (by decide) rfl dX0_waterUpTo_6 ?_
      refine r_cge (tgt := 34) F dX0_waterUpTo_9 (by decide) (by omega) (by omega) (fun c9 => ?_) (fun c9 => ?_)
      · skip
        refine lv_iload_n F.1 F.2.1 dX0_waterUpTo_34 rfl (lv_at hl 2 rfl) ?_
        exact r_ireturn F w dX0_waterUpTo_35 (⟨congrArg nI (by rw [show k = sz by omega]), rfl⟩)
      · skip
        refine lv_iload_n F.1 F.2.1 dX0_waterUpTo_12 rfl (lv_at hl 2 rfl) ?_
        refine lv_aload_n F.1 F.2.1 dX0_waterUpTo_13 rfl (lv_at hl 0 rfl) ?_
        refine r_get F w 0 4 iX0 f16 rfl rfl rfl (by decide) rfl dX0_waterUpTo_14 ?_
        refine lv_iload_n F.1 F.2.1 dX0_waterUpTo_17 rfl (lv_at hl 3 rfl) ?_
        refine r_iald F w 3 rfl (by omega) (by decide) dX0_waterUpTo_18 ?_
        refine lv_aload_n F.1 F.2.1 dX0_waterUpTo_19 rfl (lv_at hl 0 rfl) ?_
        refine lv_iload_n F.1 F.2.1 dX0_waterUpTo_20 rfl (lv_at hl 1 rfl) ?_
        refine lv_iload_n F.1 F.2.1 dX0_waterUpTo_21 rfl (lv_at hl 3 rfl) ?_
        refine r_callVI (rest := [.int (nI (dn k)), .int (nI (wat ln dn d k))]) F w (c_X0_partBelow l G a sz hg kd ln dn mo lo d k c9 hd h) gX0_waterUpTo_X0_partBelow [0, 1, 2, 3, 4, 5] [] (nA0 := 2) rfl (by decide +kernel) rfl ⟨Nat.le_of_ble_eq_true rfl, Nat.le_of_ble_eq_true rfl⟩ ⟨Nat.le_of_ble_eq_true rfl, Nat.le_of_ble_eq_true rfl⟩ rfl rfl rfl rfl rfl rfl rfl hl rfl (Nat.le_of_ble_eq_true rfl) dX0_waterUpTo_22 (fun r_22 w1 H locs hp w => ?_)
        obtain ⟨rfl, rfl⟩ := hp
        have w := w.sub (ws' := coreW G a sz hg kd ln dn mo lo) [0, 1, 2, 3, 4, 5] (by decide) rfl
        refine r_imul F dX0_waterUpTo_25 ?_
        refine r_iadd F dX0_waterUpTo_26 ?_
        refine lv_istore_n (lv' := [(2, .int (nI ((wat ln dn d k) + ((dn k) * (min (d - low ln k) (ln k)))))), (0, .ref (a 0)), (1, .int (nI d)), (3, .int (nI k))]) F.1 F.2.1 dX0_waterUpTo_27 rfl hl (by decide) rfl (fun ls hl => ?_)
        refine lv_iinc (v := nI (k + 1)) (lv' := [(3, .int (nI (k + 1))), (2, .int (nI ((wat ln dn d k) + ((dn k) * (min (d - low ln k) (ln k)))))), (0, .ref (a 0)), (1, .int (nI d))]) F.1 F.2.1 dX0_waterUpTo_28 hl (k := 3) rfl (nI_add _ _) (by decide) rfl (fun ls hl => ?_)
        refine lv_goto (tgt := 4) F.1 F.2.1 dX0_waterUpTo_31 (by decide) ?_
        rw [show wat ln dn d k + dn k * min (d - low ln k) (ln k) = wat ln dn d (k + 1) from by show _ = wat ln dn d k + min (ln k) (d - low ln k) * dn k; rw [Nat.mul_comm, Nat.min_comm]] at hl
        exact ih4 (k + 1) (by omega) (by omega) _ _ w ls (lv_sub hl [2, 3, 1, 0] rfl)
  exact L4 _ 0 (Nat.zero_le _) (Nat.lt_succ_self _) _ _ w ls (lv_sub hl [2, 3, 1, 0] rfl)
set_option maxRecDepth 100000 in
set_option maxHeartbeats 4000000 in
theorem c_X0_depthOf (l : Launch) (G : KG) (a : Nat → Nat) (sz hg : Nat) (kd ln dn mo lo : Nat → Nat) (x : Nat) (hx : x ≤ 1000000) (h : CoreOk sz hg kd ln dn mo lo) : MetI l yX0_depthOf wsX0_depthOf 1 G (coreW G a sz hg kd ln dn mo lo) [.ref (a 0), .int (nI x)] (fun r v => r = nI (dep ln dn x sz) ∧ v = coreW G a sz hg kd ln dn mo lo) := by
  refine MetI.by (cc := cX0_depthOf) (nL := 7) (ret := some .int) (by decide +kernel) rfl (Nat.le_of_ble_eq_true rfl) ?_
  intro p e s m args below meth c F w ls hl
  have hl : lv_has ls 7 [(0, .ref (a 0)), (1, .int (nI x))] := hl
  have hts := F.ts
  have iX0 : ∀ w ∈ wsX00, w ∈ wsX0_depthOf := by decide +kernel
  have f13 := hts (.fieldLink RX0 13 "CoreMelter$Core" "lengths" "[I") (by decide +kernel)
  have f16 := hts (.fieldLink RX0 16 "CoreMelter$Core" "densities" "[I") (by decide +kernel)
  have f25 := hts (.fieldLink RX0 25 "CoreMelter$Core" "size" "I") (by decide +kernel)
  have hm1 := hts (.methodLink RX0 58 Lib.Math.min.name) (by decide +kernel)
  have hm2 := hts (.static Lib.Math.min.name) (by decide +kernel)
  have hm3 := hts (.initialized "java/lang/Math") (by decide +kernel)
  have hm4 := hts (.code Lib.Math.min.name Lib.Math.min.code 2 (some .int)) (by decide +kernel)
  have h20 := h.1
  have hb := h.bnd
  refine lv_iload_n F.1 F.2.1 dX0_depthOf_0 rfl (lv_at hl 1 rfl) ?_
  refine lv_istore_n (lv' := [(2, .int (nI x)), (0, .ref (a 0)), (1, .int (nI x))]) F.1 F.2.1 dX0_depthOf_1 rfl hl (by decide) rfl (fun ls hl => ?_)
  refine lv_iconst (v := nI 0) F.1 F.2.1 dX0_depthOf_2 (by decide) ?_
  refine lv_istore_n (lv' := [(3, .int (nI 0)), (2, .int (nI x)), (0, .ref (a 0)), (1, .int (nI x))]) F.1 F.2.1 dX0_depthOf_3 rfl hl (by decide) rfl (fun ls hl => ?_)
  refine lv_iconst (v := nI 0) F.1 F.2.1 dX0_depthOf_4 (by decide) ?_
  refine lv_istore (lv' := [(4, .int (nI 0)), (3, .int (nI 0)), (2, .int (nI x)), (0, .ref (a 0)), (1, .int (nI x))]) F.1 F.2.1 dX0_depthOf_5 hl (by decide) rfl (fun ls hl => ?_)
  have L7 : ∀ n : Nat, ∀ (k : Nat), (k ≤ sz) → (wsm ln dn k ≤ x) → sz - k < n → ∀ (H : Heap) (locs : List Loc), Wd G s (va_A (coreW G a sz hg kd ln dn mo lo) s.heap.size) (coreW G a sz hg kd ln dn mo lo) H locs → ∀ ls : Array Slot, lv_has ls 7 [(0, .ref (a 0)), (1, .int (nI x)), (2, .int (nI (x - wsm ln dn k))), (3, .int (nI (low ln k))), (4, .int (nI k))] → W p l e (rmK 1 0 0) s m args below meth c H locs 0 0 (MQ below (QI G (coreW G a sz hg kd ln dn mo lo) s.heap.size (fun r v => r = nI (dep ln dn x sz) ∧ v = coreW G a sz hg kd ln dn mo lo)) args s 0 0 (va_A (coreW G a sz hg kd ln dn mo lo) s.heap.size)) (F0 m 7 ls []) := by
    intro n
    induction n with
    | zero => intro k h1 h2 hm; exact absurd hm (Nat.not_lt_zero _)
    | succ n ih7 =>
      intro k h1 h2 hm7 H locs w ls hl
      refine lv_iload F.1 F.2.1 dX0_depthOf_7 (lv_at hl 4 rfl) ?_
      refine lv_aload_n F.1 F.2.1 dX0_depthOf_9 rfl (lv_at hl 0 rfl) ?_
      refine r_get F w 0 0 iX0 f25 rfl rfl rfl (by decide) rfl dX0_depthOf_10 ?_
      refine r_cge (tgt := 90) F dX0_depthOf_13 (by decide) (by omega) (by omega) (fun c13 => ?_) (fun c13 => ?_)
      · skip
        refine lv_iload_n F.1 F.2.1 dX0_depthOf_90 rfl (lv_at hl 3 rfl) ?_
        exact r_ireturn F w dX0_depthOf_91 (⟨congrArg nI (by first | (obtain ⟨g3, g4⟩ := told_less (ln := ln) (dn := dn) h2 hU (by omega); rw [g4, dep_stop ln dn (k := k + 1) (n := sz) (by omega) g3]) | rw [← dep_full (dn := dn) h2, show k = sz by omega]), rfl⟩)
      · skip
        obtain ⟨q1, q2, q3⟩ := h.2.1 k c13
        have hlk := hb k h1
        have hdl := Nat.div_le_self (x - wsm ln dn k) (dn k)
        refine lv_aload_n F.1 F.2.1 dX0_depthOf_16 rfl (lv_at hl 0 rfl) ?_
        refine r_get F w 0 4 iX0 f16 rfl rfl rfl (by decide) rfl dX0_depthOf_17 ?_
        refine lv_iload F.1 F.2.1 dX0_depthOf_20 (lv_at hl 4 rfl) ?_
        refine r_iald F w 3 rfl (by omega) (by decide) dX0_depthOf_22 ?_
        refine lv_istore (lv' := [(5, .int (nI (dn k))), (0, .ref (a 0)), (1, .int (nI x)), (2, .int (nI (x - wsm ln dn k))), (3, .int (nI (low ln k))), (4, .int (nI k))]) F.1 F.2.1 dX0_depthOf_23 hl (by decide) rfl (fun ls hl => ?_)
        refine lv_iload F.1 F.2.1 dX0_depthOf_25 (lv_at hl 0 rfl) ?_
        refine r_zle (tgt := 47) F dX0_depthOf_27 (by decide) (by omega) (fun c27 => ?_) (fun c27 => ?_)
        · skip
          refine lv_aload_n F.1 F.2.1 dX0_depthOf_47 rfl (lv_at hl 1 rfl) ?_
          refine r_get F w 0 3 iX0 f13 rfl rfl rfl (by decide) rfl dX0_depthOf_48 ?_
          refine lv_iload F.1 F.2.1 dX0_depthOf_51 (lv_at hl 5 rfl) ?_
          refine r_iald F w 2 rfl (by omega) (by decide) dX0_depthOf_53 ?_
          refine r_top (fun u e_u => ?_)
          have hu : u * dn k ≤ x - wsm ln dn k := by first | exact told_u0 e_u c27 | exact told_u1 e_u (by omega)
          have hU : u = if dn k = 0 then ln k else min (ln k) ((x - wsm ln dn k) / dn k) := by first | (rw [if_pos c27]; exact e_u) | (rw [if_neg c27]; exact e_u)
          have hul : u ≤ ln k := by omega
          refine lv_istore (lv' := [(6, .int (nI u)), (5, .int (nI (dn k))), (0, .ref (a 0)), (1, .int (nI x)), (2, .int (nI (x - wsm ln dn k))), (3, .int (nI (low ln k))), (4, .int (nI k))]) F.1 F.2.1 dX0_depthOf_54 hl (by decide) rfl (fun ls hl => ?_)
          refine lv_iload_n F.1 F.2.1 dX0_depthOf_56 rfl (lv_at hl 5 rfl) ?_
          refine lv_iload F.1 F.2.1 dX0_depthOf_57 (lv_at hl 0 rfl) ?_
          refine r_iadd F dX0_depthOf_59 ?_
          refine lv_istore_n (lv' := [(3, .int (nI ((low ln k) + u))), (6, .int (nI u)), (5, .int (nI (dn k))), (0, .ref (a 0)), (1, .int (nI x)), (2, .int (nI (x - wsm ln dn k))), (4, .int (nI k))]) F.1 F.2.1 dX0_depthOf_60 rfl hl (by decide) rfl (fun ls hl => ?_)
          refine lv_iload_n F.1 F.2.1 dX0_depthOf_61 rfl (lv_at hl 5 rfl) ?_
          refine lv_iload F.1 F.2.1 dX0_depthOf_62 (lv_at hl 1 rfl) ?_
          refine lv_iload F.1 F.2.1 dX0_depthOf_64 (lv_at hl 2 rfl) ?_
          refine r_imul F dX0_depthOf_66 ?_
          refine r_isub F dX0_depthOf_67 hu ?_
          refine lv_istore_n (lv' := [(2, .int (nI ((x - wsm ln dn k) - (u * (dn k))))), (3, .int (nI ((low ln k) + u))), (6, .int (nI u)), (5, .int (nI (dn k))), (0, .ref (a 0)), (1, .int (nI x)), (4, .int (nI k))]) F.1 F.2.1 dX0_depthOf_68 rfl hl (by decide) rfl (fun ls hl => ?_)
          refine lv_iload F.1 F.2.1 dX0_depthOf_69 (lv_at hl 2 rfl) ?_
          refine lv_aload_n F.1 F.2.1 dX0_depthOf_71 rfl (lv_at hl 4 rfl) ?_
          refine r_get F w 0 3 iX0 f13 rfl rfl rfl (by decide) rfl dX0_depthOf_72 ?_
          refine lv_iload F.1 F.2.1 dX0_depthOf_75 (lv_at hl 6 rfl) ?_
          refine r_iald F w 2 rfl (by omega) (by decide) dX0_depthOf_77 ?_
          refine r_cge (tgt := 84) F dX0_depthOf_78 (by decide) (by omega) (by omega) (fun c78 => ?_) (fun c78 => ?_)
          · skip
            refine lv_iinc (v := nI (k + 1)) (lv' := [(4, .int (nI (k + 1))), (2, .int (nI ((x - wsm ln dn k) - (u * (dn k))))), (3, .int (nI ((low ln k) + u))), (6, .int (nI u)), (5, .int (nI (dn k))), (0, .ref (a 0)), (1, .int (nI x))]) F.1 F.2.1 dX0_depthOf_84 hl (k := 6) rfl (nI_add _ _) (by decide) rfl (fun ls hl => ?_)
            refine lv_goto (tgt := 7) F.1 F.2.1 dX0_depthOf_87 (by decide) ?_
            obtain ⟨g0, g1, g2⟩ := told_more (ln := ln) (dn := dn) h2 hu (show u = ln k by omega)
            rw [g1, g2] at hl
            exact ih7 (k + 1) (by omega) g0 (by omega) _ _ w ls (lv_sub hl [5, 6, 1, 2, 0] rfl)
          · skip
            refine lv_goto (tgt := 90) F.1 F.2.1 dX0_depthOf_81 (by decide) ?_
            refine lv_iload_n F.1 F.2.1 dX0_depthOf_90 rfl (lv_at hl 1 rfl) ?_
            exact r_ireturn F w dX0_depthOf_91 (⟨congrArg nI (by first | (obtain ⟨g3, g4⟩ := told_less (ln := ln) (dn := dn) h2 hU (by omega); rw [g4, dep_stop ln dn (k := k + 1) (n := sz) (by omega) g3]) | rw [← dep_full (dn := dn) h2, show k = sz by omega]), rfl⟩)
        · skip
          refine lv_aload_n F.1 F.2.1 dX0_depthOf_30 rfl (lv_at hl 1 rfl) ?_
          refine r_get F w 0 3 iX0 f13 rfl rfl rfl (by decide) rfl dX0_depthOf_31 ?_
          refine lv_iload F.1 F.2.1 dX0_depthOf_34 (lv_at hl 5 rfl) ?_
          refine r_iald F w 2 rfl (by omega) (by decide) dX0_depthOf_36 ?_
          refine lv_iload_n F.1 F.2.1 dX0_depthOf_37 rfl (lv_at hl 3 rfl) ?_
          refine lv_iload F.1 F.2.1 dX0_depthOf_38 (lv_at hl 0 rfl) ?_
          refine r_idiv F dX0_depthOf_40 (by omega) (by omega) (by omega) ?_
          refine r_min F hm1 hm2 hm3 hm4 (by decide) (Nat.le_of_ble_eq_true rfl) ⟨Nat.le_of_ble_eq_true rfl, Nat.le_of_ble_eq_true rfl⟩ (by omega) (by omega) hl dX0_depthOf_41 ?_
          refine lv_goto (tgt := 54) F.1 F.2.1 dX0_depthOf_44 (by decide) ?_
          refine r_top (fun u e_u => ?_)
          have hu : u * dn k ≤ x - wsm ln dn k := by first | exact told_u0 e_u c27 | exact told_u1 e_u (by omega)
          have hU : u = if dn k = 0 then ln k else min (ln k) ((x - wsm ln dn k) / dn k) := by first | (rw [if_pos c27]; exact e_u) | (rw [if_neg c27]; exact e_u)
          have hul : u ≤ ln k := by omega
          refine lv_istore (lv' := [(6, .int (nI u)), (5, .int (nI (dn k))), (0, .ref (a 0)), (1, .int (nI x)), (2, .int (nI (x - wsm ln dn k))), (3, .int (nI (low ln k))), (4, .int (nI k))]) F.1 F.2.1 dX0_depthOf_54 hl (by decide) rfl (fun ls hl => ?_)
          refine lv_iload_n F.1 F.2.1 dX0_depthOf_56 rfl (lv_at hl 5 rfl) ?_
          refine lv_iload F.1 F.2.1 dX0_depthOf_57 (lv_at hl 0 rfl) ?_
          refine r_iadd F dX0_depthOf_59 ?_
          refine lv_istore_n (lv' := [(3, .int (nI ((low ln k) + u))), (6, .int (nI u)), (5, .int (nI (dn k))), (0, .ref (a 0)), (1, .int (nI x)), (2, .int (nI (x - wsm ln dn k))), (4, .int (nI k))]) F.1 F.2.1 dX0_depthOf_60 rfl hl (by decide) rfl (fun ls hl => ?_)
          refine lv_iload_n F.1 F.2.1 dX0_depthOf_61 rfl (lv_at hl 5 rfl) ?_
          refine lv_iload F.1 F.2.1 dX0_depthOf_62 (lv_at hl 1 rfl) ?_
          refine lv_iload F.1 F.2.1 dX0_depthOf_64 (lv_at hl 2 rfl) ?_
          refine r_imul F dX0_depthOf_66 ?_
          refine r_isub F dX0_depthOf_67 hu ?_
          refine lv_istore_n (lv' := [(2, .int (nI ((x - wsm ln dn k) - (u * (dn k))))), (3, .int (nI ((low ln k) + u))), (6, .int (nI u)), (5, .int (nI (dn k))), (0, .ref (a 0)), (1, .int (nI x)), (4, .int (nI k))]) F.1 F.2.1 dX0_depthOf_68 rfl hl (by decide) rfl (fun ls hl => ?_)
          refine lv_iload F.1 F.2.1 dX0_depthOf_69 (lv_at hl 2 rfl) ?_
          refine lv_aload_n F.1 F.2.1 dX0_depthOf_71 rfl (lv_at hl 4 rfl) ?_
          refine r_get F w 0 3 iX0 f13 rfl rfl rfl (by decide) rfl dX0_depthOf_72 ?_
          refine lv_iload F.1 F.2.1 dX0_depthOf_75 (lv_at hl 6 rfl) ?_
          refine r_iald F w 2 rfl (by omega) (by decide) dX0_depthOf_77 ?_
          refine r_cge (tgt := 84) F dX0_depthOf_78 (by decide) (by omega) (by omega) (fun c78 => ?_) (fun c78 => ?_)
          · skip
            refine lv_iinc (v := nI (k + 1)) (lv' := [(4, .int (nI (k + 1))), (2, .int (nI ((x - wsm ln dn k) - (u * (dn k))))), (3, .int (nI ((low ln k) + u))), (6, .int (nI u)), (5, .int (nI (dn k))), (0, .ref (a 0)), (1, .int (nI x))]) F.1 F.2.1 dX0_depthOf_84 hl (k := 6) rfl (nI_add _ _) (by decide) rfl (fun ls hl => ?_)
            refine lv_goto (tgt := 7) F.1 F.2.1 dX0_depthOf_87 (by decide) ?_
            obtain ⟨g0, g1, g2⟩ := told_more (ln := ln) (dn := dn) h2 hu (show u = ln k by omega)
            rw [g1, g2] at hl
            exact ih7 (k + 1) (by omega) g0 (by omega) _ _ w ls (lv_sub hl [5, 6, 1, 2, 0] rfl)
          · skip
            refine lv_goto (tgt := 90) F.1 F.2.1 dX0_depthOf_81 (by decide) ?_
            refine lv_iload_n F.1 F.2.1 dX0_depthOf_90 rfl (lv_at hl 1 rfl) ?_
            exact r_ireturn F w dX0_depthOf_91 (⟨congrArg nI (by first | (obtain ⟨g3, g4⟩ := told_less (ln := ln) (dn := dn) h2 hU (by omega); rw [g4, dep_stop ln dn (k := k + 1) (n := sz) (by omega) g3]) | rw [← dep_full (dn := dn) h2, show k = sz by omega]), rfl⟩)
  exact L7 _ 0 (Nat.zero_le _) (Nat.zero_le _) (Nat.lt_succ_self _) _ _ w ls (lv_sub hl [3, 4, 2, 1, 0] rfl)
set_option maxRecDepth 100000 in
set_option maxHeartbeats 4000000 in
theorem c_X0_copyFrom (l : Launch) (G : KG) (a : Nat → Nat) (sz hg : Nat) (kd ln dn mo lo : Nat → Nat) (b : Nat → Nat) (sz' hg' : Nat) (kd' ln' dn' mo' lo' : Nat → Nat) : MetV l yX0_copyFrom wsX0_copyFrom 1 0 0 G (coreW G a sz hg kd ln dn mo lo ++ (coreW G b sz' hg' kd' ln' dn' mo' lo')) [.ref (a 0), .ref (b 0)] (fun v => v = coreW G a sz' hg' kd' ln' dn' mo' lo' ++ (coreW G b sz' hg' kd' ln' dn' mo' lo')) := by
  refine MetV.by (cc := cX0_copyFrom) (nL := 2) (ret := none) (by decide +kernel) rfl (Nat.le_of_ble_eq_true rfl) ?_
  intro p e s m args below meth c F hname w ls hl
  have hl : lv_has ls 2 [(0, .ref (a 0)), (1, .ref (b 0))] := hl
  have hts := F.ts
  have iX0 : ∀ w ∈ wsX00, w ∈ wsX0_copyFrom := by decide +kernel
  have f9 := hts (.fieldLink RX0 9 "CoreMelter$Core" "kinds" "[I") (by decide +kernel)
  have f13 := hts (.fieldLink RX0 13 "CoreMelter$Core" "lengths" "[I") (by decide +kernel)
  have f16 := hts (.fieldLink RX0 16 "CoreMelter$Core" "densities" "[I") (by decide +kernel)
  have f19 := hts (.fieldLink RX0 19 "CoreMelter$Core" "mores" "[I") (by decide +kernel)
  have f22 := hts (.fieldLink RX0 22 "CoreMelter$Core" "lowers" "[I") (by decide +kernel)
  have f25 := hts (.fieldLink RX0 25 "CoreMelter$Core" "size" "I") (by decide +kernel)
  have f29 := hts (.fieldLink RX0 29 "CoreMelter$Core" "height" "I") (by decide +kernel)
  have hy1 := hts (.methodLink RX0 32 arraycopyName) (by decide +kernel)
  have hy2 := hts (.native arraycopyName) (by decide +kernel)
  have hy3 := hts (.static arraycopyName) (by decide +kernel)
  have hy4 := hts (.initialized "java/lang/System") (by decide +kernel)
  refine lv_aload_n F.1 F.2.1 dX0_copyFrom_0 rfl (lv_at hl 0 rfl) ?_
  refine lv_aload_n F.1 F.2.1 dX0_copyFrom_1 rfl (lv_at hl 1 rfl) ?_
  refine r_get F w 6 0 iX0 f25 rfl rfl rfl (by decide) rfl dX0_copyFrom_2 ?_
  refine r_put (ws' := coreW G a sz' hg kd ln dn mo lo ++ (coreW G b sz' hg' kd' ln' dn' mo' lo')) F w 0 0 iX0 okX0 f25 rfl rfl rfl (by decide) (by decide +kernel) (Nat.le_of_ble_eq_true rfl) dX0_copyFrom_5 rfl (fun H locs w => ?_)
  refine lv_aload_n F.1 F.2.1 dX0_copyFrom_8 rfl (lv_at hl 0 rfl) ?_
  refine lv_aload_n F.1 F.2.1 dX0_copyFrom_9 rfl (lv_at hl 1 rfl) ?_
  refine r_get F w 6 1 iX0 f29 rfl rfl rfl (by decide) rfl dX0_copyFrom_10 ?_
  refine r_put (ws' := coreW G a sz' hg' kd ln dn mo lo ++ (coreW G b sz' hg' kd' ln' dn' mo' lo')) F w 0 1 iX0 okX0 f29 rfl rfl rfl (by decide) (by decide +kernel) (Nat.le_of_ble_eq_true rfl) dX0_copyFrom_13 rfl (fun H locs w => ?_)
  refine lv_aload_n F.1 F.2.1 dX0_copyFrom_16 rfl (lv_at hl 1 rfl) ?_
  refine r_get F w 6 2 iX0 f9 rfl rfl rfl (by decide) rfl dX0_copyFrom_17 ?_
  refine lv_iconst (v := nI 0) F.1 F.2.1 dX0_copyFrom_20 (by decide) ?_
  refine lv_aload_n F.1 F.2.1 dX0_copyFrom_21 rfl (lv_at hl 0 rfl) ?_
  refine r_get F w 0 2 iX0 f9 rfl rfl rfl (by decide) rfl dX0_copyFrom_22 ?_
  refine lv_iconst (v := nI 0) F.1 F.2.1 dX0_copyFrom_25 (by decide) ?_
  refine lv_bipush (v := nI 20) F.1 F.2.1 dX0_copyFrom_26 (by decide) ?_
  refine r_copy (ws' := coreW G a sz' hg' kd' ln dn mo lo ++ (coreW G b sz' hg' kd' ln' dn' mo' lo')) F w 7 1 hy1 hy2 hy3 hy4 rfl rfl (by decide) (by decide) (Nat.le_of_ble_eq_true rfl) hl dX0_copyFrom_28 rfl (fun H locs w => ?_)
  refine lv_aload_n F.1 F.2.1 dX0_copyFrom_31 rfl (lv_at hl 1 rfl) ?_
  refine r_get F w 6 3 iX0 f13 rfl rfl rfl (by decide) rfl dX0_copyFrom_32 ?_
  refine lv_iconst (v := nI 0) F.1 F.2.1 dX0_copyFrom_35 (by decide) ?_
  refine lv_aload_n F.1 F.2.1 dX0_copyFrom_36 rfl (lv_at hl 0 rfl) ?_
  refine r_get F w 0 3 iX0 f13 rfl rfl rfl (by decide) rfl dX0_copyFrom_37 ?_
  refine lv_iconst (v := nI 0) F.1 F.2.1 dX0_copyFrom_40 (by decide) ?_
  refine lv_bipush (v := nI 20) F.1 F.2.1 dX0_copyFrom_41 (by decide) ?_
  refine r_copy (ws' := coreW G a sz' hg' kd' ln' dn mo lo ++ (coreW G b sz' hg' kd' ln' dn' mo' lo')) F w 8 2 hy1 hy2 hy3 hy4 rfl rfl (by decide) (by decide) (Nat.le_of_ble_eq_true rfl) hl dX0_copyFrom_43 rfl (fun H locs w => ?_)
  refine lv_aload_n F.1 F.2.1 dX0_copyFrom_46 rfl (lv_at hl 1 rfl) ?_
  refine r_get F w 6 4 iX0 f16 rfl rfl rfl (by decide) rfl dX0_copyFrom_47 ?_
  refine lv_iconst (v := nI 0) F.1 F.2.1 dX0_copyFrom_50 (by decide) ?_
  refine lv_aload_n F.1 F.2.1 dX0_copyFrom_51 rfl (lv_at hl 0 rfl) ?_
  refine r_get F w 0 4 iX0 f16 rfl rfl rfl (by decide) rfl dX0_copyFrom_52 ?_
  refine lv_iconst (v := nI 0) F.1 F.2.1 dX0_copyFrom_55 (by decide) ?_
  refine lv_bipush (v := nI 20) F.1 F.2.1 dX0_copyFrom_56 (by decide) ?_
  refine r_copy (ws' := coreW G a sz' hg' kd' ln' dn' mo lo ++ (coreW G b sz' hg' kd' ln' dn' mo' lo')) F w 9 3 hy1 hy2 hy3 hy4 rfl rfl (by decide) (by decide) (Nat.le_of_ble_eq_true rfl) hl dX0_copyFrom_58 rfl (fun H locs w => ?_)
  refine lv_aload_n F.1 F.2.1 dX0_copyFrom_61 rfl (lv_at hl 1 rfl) ?_
  refine r_get F w 6 5 iX0 f19 rfl rfl rfl (by decide) rfl dX0_copyFrom_62 ?_
  refine lv_iconst (v := nI 0) F.1 F.2.1 dX0_copyFrom_65 (by decide) ?_
  refine lv_aload_n F.1 F.2.1 dX0_copyFrom_66 rfl (lv_at hl 0 rfl) ?_
  refine r_get F w 0 5 iX0 f19 rfl rfl rfl (by decide) rfl dX0_copyFrom_67 ?_
  refine lv_iconst (v := nI 0) F.1 F.2.1 dX0_copyFrom_70 (by decide) ?_
  refine lv_bipush (v := nI 20) F.1 F.2.1 dX0_copyFrom_71 (by decide) ?_
  refine r_copy (ws' := coreW G a sz' hg' kd' ln' dn' mo' lo ++ (coreW G b sz' hg' kd' ln' dn' mo' lo')) F w 10 4 hy1 hy2 hy3 hy4 rfl rfl (by decide) (by decide) (Nat.le_of_ble_eq_true rfl) hl dX0_copyFrom_73 rfl (fun H locs w => ?_)
  refine lv_aload_n F.1 F.2.1 dX0_copyFrom_76 rfl (lv_at hl 1 rfl) ?_
  refine r_get F w 6 6 iX0 f22 rfl rfl rfl (by decide) rfl dX0_copyFrom_77 ?_
  refine lv_iconst (v := nI 0) F.1 F.2.1 dX0_copyFrom_80 (by decide) ?_
  refine lv_aload_n F.1 F.2.1 dX0_copyFrom_81 rfl (lv_at hl 0 rfl) ?_
  refine r_get F w 0 6 iX0 f22 rfl rfl rfl (by decide) rfl dX0_copyFrom_82 ?_
  refine lv_iconst (v := nI 0) F.1 F.2.1 dX0_copyFrom_85 (by decide) ?_
  refine lv_bipush (v := nI 20) F.1 F.2.1 dX0_copyFrom_86 (by decide) ?_
  refine r_copy (ws' := coreW G a sz' hg' kd' ln' dn' mo' lo' ++ (coreW G b sz' hg' kd' ln' dn' mo' lo')) F w 11 5 hy1 hy2 hy3 hy4 rfl rfl (by decide) (by decide) (Nat.le_of_ble_eq_true rfl) hl dX0_copyFrom_88 rfl (fun H locs w => ?_)
  exact r_return F w dX0_copyFrom_91 (rfl)

