set_option maxRecDepth 100000 in
set_option maxHeartbeats 4000000 in
theorem c_J0_coder_7d493 (l : Launch) (G : KG) (q sv sl : Nat) (sb : Nat → Nat) : MetIX l yJ0_coder_7d493 wsJ0_coder_7d493 0 G (([] : va_W)) [.ref q] (strX q sv sl sb) (fun r v => r = nI 0 ∧ v = []) := by
  refine MetIX.by (cc := cJ0_coder_7d493) (nL := 1) (ret := some .byte) (by decide +kernel) rfl (Nat.le_of_ble_eq_true rfl) ?_
  intro p e s m args below meth c F hX w ls hl
  have hl : lv_has ls 1 [(0, .ref q)] := hl
  have hts := F.ts
  have f15 := hts (.fieldLink RJ0 15 "java/lang/String" "coder" "B") (by decide +kernel)
  have f38 := hts (.fieldLink RJ0 38 "java/lang/String" "COMPACT_STRINGS" "Z") (by decide +kernel)
  refine r_gets F w hX.1.1 f38 rfl dJ0_coder_7d493_0 ?_
  refine r_zeq (tgt := 13) F dJ0_coder_7d493_3 (by decide) (by omega) (fun c3 => ?_) (fun c3 => ?_)
  · exact absurd c3 (by decide)
  · skip
    refine lv_aload_n F.1 F.2.1 dJ0_coder_7d493_6 rfl (lv_at hl 0 rfl) ?_
    refine r_ofg F w hX.2.1.2 f15 rfl dJ0_coder_7d493_7 ?_
    refine lv_goto (tgt := 14) F.1 F.2.1 dJ0_coder_7d493_10 (by decide) ?_
    exact r_nreturn F w dJ0_coder_7d493_14 rfl (⟨rfl, rfl⟩)
set_option maxRecDepth 100000 in
set_option maxHeartbeats 4000000 in
theorem c_J0_isLatin1_aae02 (l : Launch) (G : KG) (q sv sl : Nat) (sb : Nat → Nat) : MetIX l yJ0_isLatin1_aae02 wsJ0_isLatin1_aae02 0 G (([] : va_W)) [.ref q] (strX q sv sl sb) (fun r v => r = yn True ∧ v = []) := by
  refine MetIX.by (cc := cJ0_isLatin1_aae02) (nL := 1) (ret := some .boolean) (by decide +kernel) rfl (Nat.le_of_ble_eq_true rfl) ?_
  intro p e s m args below meth c F hX w ls hl
  have hl : lv_has ls 1 [(0, .ref q)] := hl
  have hts := F.ts
  have f15 := hts (.fieldLink RJ0 15 "java/lang/String" "coder" "B") (by decide +kernel)
  have f38 := hts (.fieldLink RJ0 38 "java/lang/String" "COMPACT_STRINGS" "Z") (by decide +kernel)
  refine r_gets F w hX.1.1 f38 rfl dJ0_isLatin1_aae02_0 ?_
  refine r_zeq (tgt := 17) F dJ0_isLatin1_aae02_3 (by decide) (by omega) (fun c3 => ?_) (fun c3 => ?_)
  · exact absurd c3 (by decide)
  · skip
    refine lv_aload_n F.1 F.2.1 dJ0_isLatin1_aae02_6 rfl (lv_at hl 0 rfl) ?_
    refine r_ofg F w hX.2.1.2 f15 rfl dJ0_isLatin1_aae02_7 ?_
    refine r_zne (tgt := 17) F dJ0_isLatin1_aae02_10 (by decide) (by omega) (fun c10 => ?_) (fun c10 => ?_)
    · exact absurd rfl c10
    · skip
      refine lv_iconst (v := nI 1) F.1 F.2.1 dJ0_isLatin1_aae02_13 (by decide) ?_
      refine lv_goto (tgt := 18) F.1 F.2.1 dJ0_isLatin1_aae02_14 (by decide) ?_
      exact r_zreturn F w dJ0_isLatin1_aae02_18 rfl (⟨yn_t trivial, rfl⟩)
set_option maxRecDepth 100000 in
set_option maxHeartbeats 4000000 in
theorem c_J0_length_8abf5 (l : Launch) (G : KG) (q sv sl : Nat) (sb : Nat → Nat) : MetIX l yJ0_length_8abf5 wsJ0_length_8abf5 1 G (([] : va_W)) [.ref q] (strX q sv sl sb) (fun r v => r = nI sl ∧ v = []) := by
  refine MetIX.by (cc := cJ0_length_8abf5) (nL := 1) (ret := some .int) (by decide +kernel) rfl (Nat.le_of_ble_eq_true rfl) ?_
  intro p e s m args below meth c F hX w ls hl
  have hl : lv_has ls 1 [(0, .ref q)] := hl
  have hts := F.ts
  have f9 := hts (.fieldLink RJ0 9 "java/lang/String" "value" "[B") (by decide +kernel)
  refine lv_aload_n F.1 F.2.1 dJ0_length_8abf5_0 rfl (lv_at hl 0 rfl) ?_
  refine r_ofg F w hX.2.2.1 f9 rfl dJ0_length_8abf5_1 ?_
  refine r_tlen F w hX.2.2.2 dJ0_length_8abf5_4 ?_
  refine lv_aload_n F.1 F.2.1 dJ0_length_8abf5_5 rfl (lv_at hl 0 rfl) ?_
  refine q_callVI (rest := [.int (nI sl)]) (fine_str _ _ _ _) hX hX.2.1.1 F w (c_J0_coder_7d493 l G q sv sl sb) gJ0_length_8abf5_J0_coder_7d493 (nA0 := 0) rfl (by decide +kernel) rfl ⟨Nat.le_of_ble_eq_true rfl, Nat.le_of_ble_eq_true rfl⟩ ⟨Nat.le_of_ble_eq_true rfl, Nat.le_of_ble_eq_true rfl⟩ hl rfl (Nat.le_of_ble_eq_true rfl) dJ0_length_8abf5_6 (fun r_6 w1 H locs hp w => ?_)
  obtain ⟨rfl, rfl⟩ := hp
  have w := w.is (ws' := ([] : va_W)) rfl
  refine lv_ishr F.1 F.2.1 dJ0_length_8abf5_9 ?_
  refine r_to (y := nI sl) (ishr_0 _) ?_
  exact r_ireturn F w dJ0_length_8abf5_10 (⟨rfl, rfl⟩)
set_option maxRecDepth 100000 in
set_option maxHeartbeats 4000000 in
theorem c_J3_checkIndex_8e157N (l : Launch) (G : KG) (tz i n : Nat) (hi : i < n) (hn : n < 2 ^ 31) : MetI l yJ3_checkIndex_8e157 wsJ3_checkIndex_8e157 0 G (([] : va_W)) [.int (nI i), .int (nI n), .null] (fun r v => r = nI i ∧ v = []) := by
  refine MetI.by (cc := cJ3_checkIndex_8e157) (nL := 3) (ret := some .int) (by decide +kernel) rfl (Nat.le_of_ble_eq_true rfl) ?_
  intro p e s m args below meth c F w ls hl
  have hl : lv_has ls 3 [(0, .int (nI i)), (1, .int (nI n)), (2, .null)] := hl
  have hts := F.ts
  refine lv_iload_n F.1 F.2.1 dJ3_checkIndex_8e157_0 rfl (lv_at hl 0 rfl) ?_
  refine r_zlt (tgt := 9) F dJ3_checkIndex_8e157_1 (by decide) (by omega) ?_
  refine lv_iload_n F.1 F.2.1 dJ3_checkIndex_8e157_4 rfl (lv_at hl 0 rfl) ?_
  refine lv_iload_n F.1 F.2.1 dJ3_checkIndex_8e157_5 rfl (lv_at hl 1 rfl) ?_
  refine r_clt (tgt := 16) F dJ3_checkIndex_8e157_6 (by decide) (by omega) (by omega) (fun c6 => ?_) (fun c6 => ?_)
  · skip
    refine lv_iload_n F.1 F.2.1 dJ3_checkIndex_8e157_16 rfl (lv_at hl 0 rfl) ?_
    exact r_ireturn F w dJ3_checkIndex_8e157_17 (⟨rfl, rfl⟩)
  · exact absurd hi c6
set_option maxRecDepth 100000 in
set_option maxHeartbeats 4000000 in
theorem c_J3_checkIndex_8e157R (l : Launch) (G : KG) (tz i n : Nat) (hi : i < n) (hn : n < 2 ^ 31) : MetI l yJ3_checkIndex_8e157 wsJ3_checkIndex_8e157 0 G (([] : va_W)) [.int (nI i), .int (nI n), .ref tz] (fun r v => r = nI i ∧ v = []) := by
  refine MetI.by (cc := cJ3_checkIndex_8e157) (nL := 3) (ret := some .int) (by decide +kernel) rfl (Nat.le_of_ble_eq_true rfl) ?_
  intro p e s m args below meth c F w ls hl
  have hl : lv_has ls 3 [(0, .int (nI i)), (1, .int (nI n)), (2, .ref tz)] := hl
  have hts := F.ts
  refine lv_iload_n F.1 F.2.1 dJ3_checkIndex_8e157_0 rfl (lv_at hl 0 rfl) ?_
  refine r_zlt (tgt := 9) F dJ3_checkIndex_8e157_1 (by decide) (by omega) ?_
  refine lv_iload_n F.1 F.2.1 dJ3_checkIndex_8e157_4 rfl (lv_at hl 0 rfl) ?_
  refine lv_iload_n F.1 F.2.1 dJ3_checkIndex_8e157_5 rfl (lv_at hl 1 rfl) ?_
  refine r_clt (tgt := 16) F dJ3_checkIndex_8e157_6 (by decide) (by omega) (by omega) (fun c6 => ?_) (fun c6 => ?_)
  · skip
    refine lv_iload_n F.1 F.2.1 dJ3_checkIndex_8e157_16 rfl (lv_at hl 0 rfl) ?_
    exact r_ireturn F w dJ3_checkIndex_8e157_17 (⟨rfl, rfl⟩)
  · exact absurd hi c6
set_option maxRecDepth 100000 in
set_option maxHeartbeats 4000000 in
theorem c_J0_checkIndex_df160 (l : Launch) (G : KG) (i n : Nat) (hi : i < n) (hn : n < 2 ^ 31) : MetVX l yJ0_checkIndex_df160 wsJ0_checkIndex_df160 1 0 0 G (([] : va_W)) [.int (nI i), .int (nI n)] (jdkX) (fun v => v = []) := by
  refine MetVX.by (cc := cJ0_checkIndex_df160) (nL := 2) (ret := none) (by decide +kernel) rfl (Nat.le_of_ble_eq_true rfl) ?_
  intro p e s m args below meth c F hname hX w ls hl
  have hl : lv_has ls 2 [(0, .int (nI i)), (1, .int (nI n))] := hl
  have hts := F.ts
  have f1053 := hts (.fieldLink RJ0 1053 "jdk/internal/util/Preconditions" "SIOOBE_FORMATTER" "Ljava/util/function/BiFunction;") (by decide +kernel)
  refine lv_iload_n F.1 F.2.1 dJ0_checkIndex_df160_0 rfl (lv_at hl 0 rfl) ?_
  refine lv_iload_n F.1 F.2.1 dJ0_checkIndex_df160_1 rfl (lv_at hl 1 rfl) ?_
  rcases hX.2 with hz | ⟨tz, hz⟩
  · refine r_gets F w hz f1053 rfl dJ0_checkIndex_df160_2 ?_
    refine r_callS0 (rest := []) F w (c_J3_checkIndex_8e157N l G 0 i n hi hn) gJ0_checkIndex_df160_J3_checkIndex_8e157 (nA0 := 3) rfl (by decide +kernel) rfl ⟨Nat.le_of_ble_eq_true rfl, Nat.le_of_ble_eq_true rfl⟩ ⟨Nat.le_of_ble_eq_true rfl, Nat.le_of_ble_eq_true rfl⟩ hl rfl (Nat.le_of_ble_eq_true rfl) dJ0_checkIndex_df160_5 (fun r_5 w1 H locs hp w => ?_)
    obtain ⟨rfl, rfl⟩ := hp
    refine lv_pop F.1 F.2.1 dJ0_checkIndex_df160_8 rfl ?_
    exact r_return F w dJ0_checkIndex_df160_9 (rfl)
  · refine r_gets F w hz f1053 rfl dJ0_checkIndex_df160_2 ?_
    refine r_callS0 (rest := []) F w (c_J3_checkIndex_8e157R l G tz i n hi hn) gJ0_checkIndex_df160_J3_checkIndex_8e157 (nA0 := 3) rfl (by decide +kernel) rfl ⟨Nat.le_of_ble_eq_true rfl, Nat.le_of_ble_eq_true rfl⟩ ⟨Nat.le_of_ble_eq_true rfl, Nat.le_of_ble_eq_true rfl⟩ hl rfl (Nat.le_of_ble_eq_true rfl) dJ0_checkIndex_df160_5 (fun r_5 w1 H locs hp w => ?_)
    obtain ⟨rfl, rfl⟩ := hp
    refine lv_pop F.1 F.2.1 dJ0_checkIndex_df160_8 rfl ?_
    exact r_return F w dJ0_checkIndex_df160_9 (rfl)
set_option maxRecDepth 100000 in
set_option maxHeartbeats 4000000 in
theorem c_J1_charAt_3b067 (l : Launch) (G : KG) (q sv sl : Nat) (sb : Nat → Nat) (i : Nat) (hi : i < sl) (hn : sl < 2 ^ 31) (hb : ∀ k, sb k < 128) : MetIX l yJ1_charAt_3b067 wsJ1_charAt_3b067 2 G (([] : va_W)) [.ref sv, .int (nI i)] (strX q sv sl sb) (fun r v => r = nI (sb i) ∧ v = []) := by
  refine MetIX.by (cc := cJ1_charAt_3b067) (nL := 2) (ret := some .char) (by decide +kernel) rfl (Nat.le_of_ble_eq_true rfl) ?_
  intro p e s m args below meth c F hX w ls hl
  have hl : lv_has ls 2 [(0, .ref sv), (1, .int (nI i))] := hl
  have hts := F.ts
  refine lv_iload_n F.1 F.2.1 dJ1_charAt_3b067_0 rfl (lv_at hl 1 rfl) ?_
  refine lv_aload_n F.1 F.2.1 dJ1_charAt_3b067_1 rfl (lv_at hl 0 rfl) ?_
  refine r_tlen F w hX.2.2.2 dJ1_charAt_3b067_2 ?_
  refine x_callSV (rest := []) (wr := ([] : va_W)) fine_jdk hX.1 F w (c_J0_checkIndex_df160 l G i sl hi hn) rfl gJ1_charAt_3b067_J0_checkIndex_df160 (nA0 := 2) rfl (by decide +kernel) rfl ⟨Nat.le_of_ble_eq_true rfl, Nat.le_of_ble_eq_true rfl⟩ ⟨Nat.le_of_ble_eq_true rfl, Nat.le_of_ble_eq_true rfl⟩ hl rfl (Nat.le_of_ble_eq_true rfl) dJ1_charAt_3b067_3 (fun w1 H locs hp w => ?_)
  obtain rfl := hp
  have w := w.is (ws' := ([] : va_W)) rfl
  refine lv_aload_n F.1 F.2.1 dJ1_charAt_3b067_6 rfl (lv_at hl 0 rfl) ?_
  refine lv_iload_n F.1 F.2.1 dJ1_charAt_3b067_7 rfl (lv_at hl 1 rfl) ?_
  refine r_tbld F w hX.2.2.2 hi hn dJ1_charAt_3b067_8 ?_
  refine lv_sipush (v := nI 255) F.1 F.2.1 dJ1_charAt_3b067_9 (by decide) ?_
  refine lv_iand F.1 F.2.1 dJ1_charAt_3b067_12 ?_
  refine r_to (y := nI (sb i)) (iand_ok (hb i)) ?_
  refine lv_i2c (v := nI (sb i)) F.1 F.2.1 dJ1_charAt_3b067_13 (i2c_ok (hb i)) ?_
  exact r_nreturn F w dJ1_charAt_3b067_14 (char_ok (hb i)) (⟨rfl, rfl⟩)
set_option maxRecDepth 100000 in
set_option maxHeartbeats 4000000 in
theorem c_J0_charAt_5068e (l : Launch) (G : KG) (q sv sl : Nat) (sb : Nat → Nat) (i : Nat) (hi : i < sl) (hn : sl < 2 ^ 31) (hb : ∀ k, sb k < 128) : MetIX l yJ0_charAt_5068e wsJ0_charAt_5068e 3 G (([] : va_W)) [.ref q, .int (nI i)] (strX q sv sl sb) (fun r v => r = nI (sb i) ∧ v = []) := by
  refine MetIX.by (cc := cJ0_charAt_5068e) (nL := 2) (ret := some .char) (by decide +kernel) rfl (Nat.le_of_ble_eq_true rfl) ?_
  intro p e s m args below meth c F hX w ls hl
  have hl : lv_has ls 2 [(0, .ref q), (1, .int (nI i))] := hl
  have hts := F.ts
  have f9 := hts (.fieldLink RJ0 9 "java/lang/String" "value" "[B") (by decide +kernel)
  refine lv_aload_n F.1 F.2.1 dJ0_charAt_5068e_0 rfl (lv_at hl 0 rfl) ?_
  refine q_callVI (rest := []) (fine_str _ _ _ _) hX hX.2.1.1 F w (c_J0_isLatin1_aae02 l G q sv sl sb) gJ0_charAt_5068e_J0_isLatin1_aae02 (nA0 := 0) rfl (by decide +kernel) rfl ⟨Nat.le_of_ble_eq_true rfl, Nat.le_of_ble_eq_true rfl⟩ ⟨Nat.le_of_ble_eq_true rfl, Nat.le_of_ble_eq_true rfl⟩ hl rfl (Nat.le_of_ble_eq_true rfl) dJ0_charAt_5068e_1 (fun r_1 w1 H locs hp w => ?_)
  obtain ⟨rfl, rfl⟩ := hp
  have w := w.is (ws' := ([] : va_W)) rfl
  refine r_yeq (tgt := 16) F dJ0_charAt_5068e_4 (by decide) (fun c4 => ?_) (fun c4 => ?_)
  · exact absurd trivial c4
  · skip
    refine lv_aload_n F.1 F.2.1 dJ0_charAt_5068e_7 rfl (lv_at hl 0 rfl) ?_
    refine r_ofg F w hX.2.2.1 f9 rfl dJ0_charAt_5068e_8 ?_
    refine lv_iload_n F.1 F.2.1 dJ0_charAt_5068e_11 rfl (lv_at hl 1 rfl) ?_
    refine x_callSI (rest := []) (wr := ([] : va_W)) (fine_str _ _ _ _) hX F w (c_J1_charAt_3b067 l G q sv sl sb i hi hn hb) rfl gJ0_charAt_5068e_J1_charAt_3b067 (nA0 := 2) rfl (by decide +kernel) rfl ⟨Nat.le_of_ble_eq_true rfl, Nat.le_of_ble_eq_true rfl⟩ ⟨Nat.le_of_ble_eq_true rfl, Nat.le_of_ble_eq_true rfl⟩ hl rfl (Nat.le_of_ble_eq_true rfl) dJ0_charAt_5068e_12 (fun r_12 w1 H locs hp w => ?_)
    obtain ⟨rfl, rfl⟩ := hp
    have w := w.is (ws' := ([] : va_W)) rfl
    exact r_nreturn F w dJ0_charAt_5068e_15 (char_ok (hb i)) (⟨rfl, rfl⟩)

