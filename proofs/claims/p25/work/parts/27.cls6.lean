theorem lo_geo {P Q lo : Nat → Nat} (h8 : P 8 ≤ 20) (h : LoOk P lo) (hg : ∀ j, (j < 9 ∨ (45 < j ∧ j < 126)) → Q j = P j) : LoOk Q lo := fun k hk => by
  have e8 := hg 8 (by omega)
  rw [e8] at hk
  rw [h k hk]
  exact low_congr (fun j hj => (hg _ (by omega)).symm)
/-- a page begun anew -/
def newF (P : Nat → Nat) : Nat → Nat := fun k => if 9 ≤ k ∧ k < 46 then 0 else P k
theorem newF_z (P : Nat → Nat) {k : Nat} (h1 : 9 ≤ k) (h2 : k < 46) : newF P k = 0 := if_pos ⟨h1, h2⟩
theorem newF_o (P : Nat → Nat) {k : Nat} (h : k < 9 ∨ 46 ≤ k) : newF P k = P k := if_neg (by omega)
theorem newF_told (P : Nat → Nat) : toldF (newF P) = 0 := by
  have := toldF_le (newF P)
  rw [newF_z P (by decide) (by decide)] at this
  omega
theorem wat_0 (ln dn : Nat → Nat) : ∀ n, wat ln dn 0 n = 0
  | 0 => rfl
  | n + 1 => by
    show wat ln dn 0 n + min (ln n) (0 - low ln n) * dn n = 0
    rw [wat_0 ln dn n, Nat.zero_sub, Nat.min_zero, Nat.zero_mul]
theorem newF_wat (P : Nat → Nat) : watF (newF P) = 0 := by
  unfold watF
  rw [newF_told, wat_0]
theorem newF_top (P : Nat → Nat) : top (newF P) = top P := by
  show low (lnP (newF P)) (newF P 8) = low (lnP P) (P 8)
  rw [newF_o P (by omega)]
  exact low_congr (fun k _ => newF_o P (by omega))
theorem newF_inv {P : Nat → Nat} (h : Inv P) : Inv (newF P) := by
  obtain ⟨hS, hT, -, -, -, -, -⟩ := h
  have z : ∀ k, 9 ≤ k → k < 46 → newF P k = 0 := fun k h1 h2 => newF_z P h1 h2
  refine ⟨⟨by rw [newF_o P (by omega)]; exact hS.1, fun k hk => ?_⟩, ?_, ⟨?_, ?_, ?_, ?_⟩, ⟨?_, ?_, ?_, ?_⟩, fun i hi => ?_, ⟨?_, fun v hv => ?_⟩, ⟨?_, ?_, ?_, ?_⟩⟩
  · rw [newF_o P (by omega)] at hk
    rw [newF_o P (by omega), newF_o P (by omega), newF_o P (by omega), newF_o P (by omega)]
    exact hS.2 k hk
  · unfold SetOk at hT ⊢
    rw [newF_o P (k := 0) (by omega), newF_o P (k := 1) (by omega), newF_o P (k := 2) (by omega), newF_o P (k := 3) (by omega), newF_o P (k := 4) (by omega), newF_o P (k := 5) (by omega), newF_o P (k := 6) (by omega), newF_o P (k := 7) (by omega)]
    exact hT
  · rw [z 9 (by decide) (by decide)]; exact Nat.zero_le _
  · rw [z 19 (by decide) (by decide), z 9 (by decide) (by decide), wat_0]
  · rw [z 22 (by decide) (by decide)]; exact Nat.zero_le _
  · rw [z 24 (by decide) (by decide)]; exact Nat.zero_le _
  · rw [z 19 (by decide) (by decide), z 11 (by decide) (by decide), z 20 (by decide) (by decide), z 21 (by decide) (by decide)]
  · rw [z 22 (by decide) (by decide), z 12 (by decide) (by decide), z 23 (by decide) (by decide)]
  · rw [z 24 (by decide) (by decide), z 13 (by decide) (by decide), z 25 (by decide) (by decide)]
  · rw [z 15 (by decide) (by decide)]; exact Nat.zero_le _
  · rw [z (26 + 5 * i) (by omega) (by omega), z (26 + 5 * i + 1) (by omega) (by omega), z (26 + 5 * i + 2) (by omega) (by omega)]
    omega
  · rw [z 14 (by decide) (by decide)]; exact Nat.zero_le _
  · rw [z 14 (by decide) (by decide)] at hv; exact absurd hv (Nat.not_lt_zero _)
  · rw [z 16 (by decide) (by decide)]; exact Nat.zero_le _
  · rw [z 10 (by decide) (by decide)]; exact Nat.zero_le _
  · rw [z 17 (by decide) (by decide)]; exact Nat.zero_le _
  · rw [z 18 (by decide) (by decide)]; exact Nat.zero_le _
set_option maxRecDepth 100000 in
set_option maxHeartbeats 4000000 in
theorem c_X3_pass (l : Launch) (G : KG) (pa : Nat → Nat → Nat) (P lo : Nat → Nat) (q : Nat) (hI : Inv P) (hq : P 16 + q ≤ 20000) (hlk : LoOk P lo) : MetV l yX3_pass wsX3_pass 5 0 0 G (plateW G pa P lo) [.ref ((pa 0) 0), .int (nI q)] (fun v => v = plateW G pa (itF P q) lo) := by
  refine MetV.by (cc := cX3_pass) (nL := 3) (ret := none) (by decide +kernel) rfl (Nat.le_of_ble_eq_true rfl) ?_
  intro p e s m args below meth c F hname w ls hl
  have hl : lv_has ls 3 [(0, .ref ((pa 0) 0)), (1, .int (nI q))] := hl
  have hts := F.ts
  refine lv_iconst (v := nI 0) F.1 F.2.1 dX3_pass_0 (by decide) ?_
  refine lv_istore_n (lv' := [(2, .int (nI 0)), (0, .ref ((pa 0) 0)), (1, .int (nI q))]) F.1 F.2.1 dX3_pass_1 rfl hl (by decide) rfl (fun ls hl => ?_)
  have L2 : ∀ n : Nat, ∀ (k : Nat), (k ≤ q) → q - k < n → ∀ (H : Heap) (locs : List Loc), Wd G s (va_A (plateW G pa P lo) s.heap.size) (plateW G pa (itF P k) lo) H locs → ∀ ls : Array Slot, lv_has ls 3 [(0, .ref ((pa 0) 0)), (1, .int (nI q)), (2, .int (nI k))] → W p l e (rmK 5 0 0) s m args below meth c H locs 0 0 (MQ below (QV G (plateW G pa P lo) s.heap.size (fun v => v = plateW G pa (itF P q) lo)) args s 0 0 (va_A (plateW G pa P lo) s.heap.size)) (F0 m 2 ls []) := by
    intro n
    induction n with
    | zero => intro k h1 hm; exact absurd hm (Nat.not_lt_zero _)
    | succ n ih2 =>
      intro k h1 hm2 H locs w ls hl
      refine lv_iload_n F.1 F.2.1 dX3_pass_2 rfl (lv_at hl 2 rfl) ?_
      refine lv_iload_n F.1 F.2.1 dX3_pass_3 rfl (lv_at hl 1 rfl) ?_
      refine r_cge (tgt := 17) F dX3_pass_4 (by decide) (by omega) (by omega) (fun c4 => ?_) (fun c4 => ?_)
      · skip
        exact r_return F w dX3_pass_17 (by rw [show k = q by omega])
      · skip
        refine lv_aload_n F.1 F.2.1 dX3_pass_7 rfl (lv_at hl 0 rfl) ?_
        obtain ⟨i1, i2, i3⟩ := it_ok hI k (by omega)
        refine r_callVV (rest := []) F w (c_X3_tick l G pa (itF P k) lo i1 (by omega) (lo_geo hI.1.1 hlk i3)) gX3_pass_X3_tick [0, 1, 2, 3, 4, 5, 6, 7, 8, 9, 10, 11, 12, 13, 14, 15, 16, 17, 18] [] (nA0 := 0) rfl (by decide +kernel) rfl ⟨Nat.le_of_ble_eq_true rfl, Nat.le_of_ble_eq_true rfl⟩ ⟨Nat.le_of_ble_eq_true rfl, Nat.le_of_ble_eq_true rfl⟩ rfl rfl rfl rfl rfl rfl rfl hl rfl (Nat.le_of_ble_eq_true rfl) dX3_pass_8 (fun w1 H locs hp w => ?_)
        obtain rfl := hp
        have w := w.sub (ws' := plateW G pa (tickF (itF P k)) lo) [0, 1, 2, 3, 4, 5, 6, 7, 8, 9, 10, 11, 12, 13, 14, 15, 16, 17, 18] (by decide) rfl
        refine lv_iinc (v := nI (k + 1)) (lv' := [(2, .int (nI (k + 1))), (0, .ref ((pa 0) 0)), (1, .int (nI q))]) F.1 F.2.1 dX3_pass_11 hl (k := 2) rfl (nI_add _ _) (by decide) rfl (fun ls hl => ?_)
        refine lv_goto (tgt := 2) F.1 F.2.1 dX3_pass_14 (by decide) ?_
        exact ih2 (k + 1) (by omega) (by omega) _ _ w ls (lv_sub hl [1, 2, 0] rfl)
  exact L2 _ 0 (Nat.zero_le _) (Nat.lt_succ_self _) _ _ w ls (lv_sub hl [1, 2, 0] rfl)
set_option maxRecDepth 100000 in
set_option maxHeartbeats 4000000 in
theorem c_X3_beginAnew (l : Launch) (G : KG) (pa : Nat → Nat → Nat) (P lo : Nat → Nat) : MetV l yX3_beginAnew wsX3_beginAnew 2 0 0 G (plH G (pa 0) (pa 1) (pa 2) (pa 3) (fun k => P k) (fun k => P (19 + k)) (P 9) (P 10) (P 11) (P 12) (P 13) (toldF P) (watF P) (P 16) (P 17) (P 18) ++ (coreW G (pa 1) (P 8) (top P) (kdP P) (lnP P) (dnP P) (moP P) lo ++ (linesW G (pa 2) (fun k => P (26 + 5 * k)) (fun k => P (26 + 5 * k + 1)) (fun k => P (26 + 5 * k + 2)) (fun k => P (26 + 5 * k + 3)) (fun k => P (26 + 5 * k + 4)) ++ (vialsW G (pa 3) (P 14) (P 15) (fun k => P (126 + 3 * k)) (fun k => P (126 + 3 * k + 1)) (fun k => P (126 + 3 * k + 2)))))) [.ref ((pa 0) 0)] (fun v => v = plateW G pa (newF P) lo) := by
  refine MetV.by (cc := cX3_beginAnew) (nL := 1) (ret := none) (by decide +kernel) rfl (Nat.le_of_ble_eq_true rfl) ?_
  intro p e s m args below meth c F hname w ls hl
  have hl : lv_has ls 1 [(0, .ref ((pa 0) 0))] := hl
  have hts := F.ts
  have iX3 : ∀ w ∈ wsX30, w ∈ wsX3_beginAnew := by decide +kernel
  have f19 := hts (.fieldLink RX3 19 "CoreMelter$Plate" "lines" "LCoreMelter$Lines;") (by decide +kernel)
  have f26 := hts (.fieldLink RX3 26 "CoreMelter$Plate" "vials" "LCoreMelter$Vials;") (by decide +kernel)
  have f34 := hts (.fieldLink RX3 34 "CoreMelter$Plate" "accounts" "[I") (by decide +kernel)
  have f56 := hts (.fieldLink RX3 56 "CoreMelter$Plate" "front" "I") (by decide +kernel)
  have f60 := hts (.fieldLink RX3 60 "CoreMelter$Plate" "store" "I") (by decide +kernel)
  have f63 := hts (.fieldLink RX3 63 "CoreMelter$Plate" "stock" "I") (by decide +kernel)
  have f66 := hts (.fieldLink RX3 66 "CoreMelter$Plate" "stockGas" "I") (by decide +kernel)
  have f69 := hts (.fieldLink RX3 69 "CoreMelter$Plate" "stockDirt" "I") (by decide +kernel)
  have f72 := hts (.fieldLink RX3 72 "CoreMelter$Plate" "told" "I") (by decide +kernel)
  have f75 := hts (.fieldLink RX3 75 "CoreMelter$Plate" "waterBelowTold" "I") (by decide +kernel)
  have f78 := hts (.fieldLink RX3 78 "CoreMelter$Plate" "ticks" "I") (by decide +kernel)
  have f81 := hts (.fieldLink RX3 81 "CoreMelter$Plate" "reason" "I") (by decide +kernel)
  have f84 := hts (.fieldLink RX3 84 "CoreMelter$Plate" "stopped" "I") (by decide +kernel)
  refine lv_aload_n F.1 F.2.1 dX3_beginAnew_0 rfl (lv_at hl 0 rfl) ?_
  refine r_get F w 0 1 iX3 f19 rfl rfl rfl (by decide) rfl dX3_beginAnew_1 ?_
  refine r_callVV (rest := []) F w (c_X2_beginAnew l G (pa 2) (fun k => P (26 + 5 * k)) (fun k => P (26 + 5 * k + 1)) (fun k => P (26 + 5 * k + 2)) (fun k => P (26 + 5 * k + 3)) (fun k => P (26 + 5 * k + 4))  ) gX3_beginAnew_X2_beginAnew [9, 10, 11, 12, 13, 14] [0, 1, 2, 3, 4, 5, 6, 7, 8, 15, 16, 17, 18] (nA0 := 0) rfl (by decide +kernel) rfl ⟨Nat.le_of_ble_eq_true rfl, Nat.le_of_ble_eq_true rfl⟩ ⟨Nat.le_of_ble_eq_true rfl, Nat.le_of_ble_eq_true rfl⟩ rfl rfl rfl rfl rfl rfl rfl hl rfl (Nat.le_of_ble_eq_true rfl) dX3_beginAnew_4 (fun w1 H locs hp w => ?_)
  obtain rfl := hp
  have w := w.sub (ws' := plH G (pa 0) (pa 1) (pa 2) (pa 3) (fun k => P k) (fun k => P (19 + k)) (P 9) (P 10) (P 11) (P 12) (P 13) (toldF P) (watF P) (P 16) (P 17) (P 18) ++ (coreW G (pa 1) (P 8) (top P) (kdP P) (lnP P) (dnP P) (moP P) lo ++ (linesW G (pa 2) (fun _ => 0) (fun _ => 0) (fun _ => 0) (fun _ => 0) (fun _ => 0) ++ (vialsW G (pa 3) (P 14) (P 15) (fun k => P (126 + 3 * k)) (fun k => P (126 + 3 * k + 1)) (fun k => P (126 + 3 * k + 2)))))) [0, 1, 2, 3, 4, 5, 6, 7, 8, 13, 14, 15, 16, 17, 18, 9, 10, 11, 12] (by decide) rfl
  refine lv_aload_n F.1 F.2.1 dX3_beginAnew_7 rfl (lv_at hl 0 rfl) ?_
  refine r_get F w 0 2 iX3 f26 rfl rfl rfl (by decide) rfl dX3_beginAnew_8 ?_
  refine r_callVV (rest := []) F w (c_X6_beginAnew l G (pa 3) (P 14) (P 15) (fun k => P (126 + 3 * k)) (fun k => P (126 + 3 * k + 1)) (fun k => P (126 + 3 * k + 2))  ) gX3_beginAnew_X6_beginAnew [15, 16, 17, 18] [0, 1, 2, 3, 4, 5, 6, 7, 8, 9, 10, 11, 12, 13, 14] (nA0 := 0) rfl (by decide +kernel) rfl ⟨Nat.le_of_ble_eq_true rfl, Nat.le_of_ble_eq_true rfl⟩ ⟨Nat.le_of_ble_eq_true rfl, Nat.le_of_ble_eq_true rfl⟩ rfl rfl rfl rfl rfl rfl rfl hl rfl (Nat.le_of_ble_eq_true rfl) dX3_beginAnew_11 (fun w1 H locs hp w => ?_)
  obtain rfl := hp
  have w := w.sub (ws' := plH G (pa 0) (pa 1) (pa 2) (pa 3) (fun k => P k) (fun k => P (19 + k)) (P 9) (P 10) (P 11) (P 12) (P 13) (toldF P) (watF P) (P 16) (P 17) (P 18) ++ (coreW G (pa 1) (P 8) (top P) (kdP P) (lnP P) (dnP P) (moP P) lo ++ (linesW G (pa 2) (fun _ => 0) (fun _ => 0) (fun _ => 0) (fun _ => 0) (fun _ => 0) ++ (vialsW G (pa 3) 0 0 (fun k => P (126 + 3 * k)) (fun k => P (126 + 3 * k + 1)) (fun k => P (126 + 3 * k + 2)))))) [0, 1, 2, 3, 4, 5, 6, 7, 8, 9, 10, 11, 12, 13, 14, 15, 16, 17, 18] (by decide) rfl
  refine lv_aload_n F.1 F.2.1 dX3_beginAnew_14 rfl (lv_at hl 0 rfl) ?_
  refine r_get F w 0 4 iX3 f34 rfl rfl rfl (by decide) rfl dX3_beginAnew_15 ?_
  refine lv_iconst (v := nI 0) F.1 F.2.1 dX3_beginAnew_18 (by decide) ?_
  refine r_callSV (rest := []) F w (c_J7_fill_53178 l G ((pa 0) 2) 7 (fun k => P (19 + k)) 0 (by decide)) gX3_beginAnew_J7_fill_53178 [2] [0, 1, 3, 4, 5, 6, 7, 8, 9, 10, 11, 12, 13, 14, 15, 16, 17, 18] (nA0 := 2) rfl (by decide +kernel) rfl ⟨Nat.le_of_ble_eq_true rfl, Nat.le_of_ble_eq_true rfl⟩ ⟨Nat.le_of_ble_eq_true rfl, Nat.le_of_ble_eq_true rfl⟩ rfl rfl rfl rfl rfl hl rfl (Nat.le_of_ble_eq_true rfl) dX3_beginAnew_19 (fun w1 H locs hp w => ?_)
  obtain rfl := hp
  have w := w.sub (ws' := plH G (pa 0) (pa 1) (pa 2) (pa 3) (fun k => P k) (fun _ => 0) (P 9) (P 10) (P 11) (P 12) (P 13) (toldF P) (watF P) (P 16) (P 17) (P 18) ++ (coreW G (pa 1) (P 8) (top P) (kdP P) (lnP P) (dnP P) (moP P) lo ++ (linesW G (pa 2) (fun _ => 0) (fun _ => 0) (fun _ => 0) (fun _ => 0) (fun _ => 0) ++ (vialsW G (pa 3) 0 0 (fun k => P (126 + 3 * k)) (fun k => P (126 + 3 * k + 1)) (fun k => P (126 + 3 * k + 2)))))) [0, 1, 18, 2, 3, 4, 5, 6, 7, 8, 9, 10, 11, 12, 13, 14, 15, 16, 17] (by decide) rfl
  refine lv_aload_n F.1 F.2.1 dX3_beginAnew_22 rfl (lv_at hl 0 rfl) ?_
  refine lv_iconst (v := nI 0) F.1 F.2.1 dX3_beginAnew_23 (by decide) ?_
  refine r_put (ws' := plH G (pa 0) (pa 1) (pa 2) (pa 3) (fun k => P k) (fun _ => 0) 0 (P 10) (P 11) (P 12) (P 13) (toldF P) (watF P) (P 16) (P 17) (P 18) ++ (coreW G (pa 1) (P 8) (top P) (kdP P) (lnP P) (dnP P) (moP P) lo ++ (linesW G (pa 2) (fun _ => 0) (fun _ => 0) (fun _ => 0) (fun _ => 0) (fun _ => 0) ++ (vialsW G (pa 3) 0 0 (fun k => P (126 + 3 * k)) (fun k => P (126 + 3 * k + 1)) (fun k => P (126 + 3 * k + 2)))))) F w 0 5 iX3 okX3 f56 rfl rfl rfl (by decide) (by decide +kernel) (Nat.le_of_ble_eq_true rfl) dX3_beginAnew_24 rfl (fun H locs w => ?_)
  refine lv_aload_n F.1 F.2.1 dX3_beginAnew_27 rfl (lv_at hl 0 rfl) ?_
  refine lv_iconst (v := nI 0) F.1 F.2.1 dX3_beginAnew_28 (by decide) ?_
  refine r_put (ws' := plH G (pa 0) (pa 1) (pa 2) (pa 3) (fun k => P k) (fun _ => 0) 0 0 (P 11) (P 12) (P 13) (toldF P) (watF P) (P 16) (P 17) (P 18) ++ (coreW G (pa 1) (P 8) (top P) (kdP P) (lnP P) (dnP P) (moP P) lo ++ (linesW G (pa 2) (fun _ => 0) (fun _ => 0) (fun _ => 0) (fun _ => 0) (fun _ => 0) ++ (vialsW G (pa 3) 0 0 (fun k => P (126 + 3 * k)) (fun k => P (126 + 3 * k + 1)) (fun k => P (126 + 3 * k + 2)))))) F w 0 6 iX3 okX3 f60 rfl rfl rfl (by decide) (by decide +kernel) (Nat.le_of_ble_eq_true rfl) dX3_beginAnew_29 rfl (fun H locs w => ?_)
  refine lv_aload_n F.1 F.2.1 dX3_beginAnew_32 rfl (lv_at hl 0 rfl) ?_
  refine lv_iconst (v := nI 0) F.1 F.2.1 dX3_beginAnew_33 (by decide) ?_
  refine r_put (ws' := plH G (pa 0) (pa 1) (pa 2) (pa 3) (fun k => P k) (fun _ => 0) 0 0 0 (P 12) (P 13) (toldF P) (watF P) (P 16) (P 17) (P 18) ++ (coreW G (pa 1) (P 8) (top P) (kdP P) (lnP P) (dnP P) (moP P) lo ++ (linesW G (pa 2) (fun _ => 0) (fun _ => 0) (fun _ => 0) (fun _ => 0) (fun _ => 0) ++ (vialsW G (pa 3) 0 0 (fun k => P (126 + 3 * k)) (fun k => P (126 + 3 * k + 1)) (fun k => P (126 + 3 * k + 2)))))) F w 0 7 iX3 okX3 f63 rfl rfl rfl (by decide) (by decide +kernel) (Nat.le_of_ble_eq_true rfl) dX3_beginAnew_34 rfl (fun H locs w => ?_)
  refine lv_aload_n F.1 F.2.1 dX3_beginAnew_37 rfl (lv_at hl 0 rfl) ?_
  refine lv_iconst (v := nI 0) F.1 F.2.1 dX3_beginAnew_38 (by decide) ?_
  refine r_put (ws' := plH G (pa 0) (pa 1) (pa 2) (pa 3) (fun k => P k) (fun _ => 0) 0 0 0 0 (P 13) (toldF P) (watF P) (P 16) (P 17) (P 18) ++ (coreW G (pa 1) (P 8) (top P) (kdP P) (lnP P) (dnP P) (moP P) lo ++ (linesW G (pa 2) (fun _ => 0) (fun _ => 0) (fun _ => 0) (fun _ => 0) (fun _ => 0) ++ (vialsW G (pa 3) 0 0 (fun k => P (126 + 3 * k)) (fun k => P (126 + 3 * k + 1)) (fun k => P (126 + 3 * k + 2)))))) F w 0 8 iX3 okX3 f66 rfl rfl rfl (by decide) (by decide +kernel) (Nat.le_of_ble_eq_true rfl) dX3_beginAnew_39 rfl (fun H locs w => ?_)
  refine lv_aload_n F.1 F.2.1 dX3_beginAnew_42 rfl (lv_at hl 0 rfl) ?_
  refine lv_iconst (v := nI 0) F.1 F.2.1 dX3_beginAnew_43 (by decide) ?_
  refine r_put (ws' := plH G (pa 0) (pa 1) (pa 2) (pa 3) (fun k => P k) (fun _ => 0) 0 0 0 0 0 (toldF P) (watF P) (P 16) (P 17) (P 18) ++ (coreW G (pa 1) (P 8) (top P) (kdP P) (lnP P) (dnP P) (moP P) lo ++ (linesW G (pa 2) (fun _ => 0) (fun _ => 0) (fun _ => 0) (fun _ => 0) (fun _ => 0) ++ (vialsW G (pa 3) 0 0 (fun k => P (126 + 3 * k)) (fun k => P (126 + 3 * k + 1)) (fun k => P (126 + 3 * k + 2)))))) F w 0 9 iX3 okX3 f69 rfl rfl rfl (by decide) (by decide +kernel) (Nat.le_of_ble_eq_true rfl) dX3_beginAnew_44 rfl (fun H locs w => ?_)
  refine lv_aload_n F.1 F.2.1 dX3_beginAnew_47 rfl (lv_at hl 0 rfl) ?_
  refine lv_iconst (v := nI 0) F.1 F.2.1 dX3_beginAnew_48 (by decide) ?_
  refine r_put (ws' := plH G (pa 0) (pa 1) (pa 2) (pa 3) (fun k => P k) (fun _ => 0) 0 0 0 0 0 0 (watF P) (P 16) (P 17) (P 18) ++ (coreW G (pa 1) (P 8) (top P) (kdP P) (lnP P) (dnP P) (moP P) lo ++ (linesW G (pa 2) (fun _ => 0) (fun _ => 0) (fun _ => 0) (fun _ => 0) (fun _ => 0) ++ (vialsW G (pa 3) 0 0 (fun k => P (126 + 3 * k)) (fun k => P (126 + 3 * k + 1)) (fun k => P (126 + 3 * k + 2)))))) F w 0 10 iX3 okX3 f72 rfl rfl rfl (by decide) (by decide +kernel) (Nat.le_of_ble_eq_true rfl) dX3_beginAnew_49 rfl (fun H locs w => ?_)
  refine lv_aload_n F.1 F.2.1 dX3_beginAnew_52 rfl (lv_at hl 0 rfl) ?_
  refine lv_iconst (v := nI 0) F.1 F.2.1 dX3_beginAnew_53 (by decide) ?_
  refine r_put (ws' := plH G (pa 0) (pa 1) (pa 2) (pa 3) (fun k => P k) (fun _ => 0) 0 0 0 0 0 0 0 (P 16) (P 17) (P 18) ++ (coreW G (pa 1) (P 8) (top P) (kdP P) (lnP P) (dnP P) (moP P) lo ++ (linesW G (pa 2) (fun _ => 0) (fun _ => 0) (fun _ => 0) (fun _ => 0) (fun _ => 0) ++ (vialsW G (pa 3) 0 0 (fun k => P (126 + 3 * k)) (fun k => P (126 + 3 * k + 1)) (fun k => P (126 + 3 * k + 2)))))) F w 0 11 iX3 okX3 f75 rfl rfl rfl (by decide) (by decide +kernel) (Nat.le_of_ble_eq_true rfl) dX3_beginAnew_54 rfl (fun H locs w => ?_)
  refine lv_aload_n F.1 F.2.1 dX3_beginAnew_57 rfl (lv_at hl 0 rfl) ?_
  refine lv_iconst (v := nI 0) F.1 F.2.1 dX3_beginAnew_58 (by decide) ?_
  refine r_put (ws' := plH G (pa 0) (pa 1) (pa 2) (pa 3) (fun k => P k) (fun _ => 0) 0 0 0 0 0 0 0 0 (P 17) (P 18) ++ (coreW G (pa 1) (P 8) (top P) (kdP P) (lnP P) (dnP P) (moP P) lo ++ (linesW G (pa 2) (fun _ => 0) (fun _ => 0) (fun _ => 0) (fun _ => 0) (fun _ => 0) ++ (vialsW G (pa 3) 0 0 (fun k => P (126 + 3 * k)) (fun k => P (126 + 3 * k + 1)) (fun k => P (126 + 3 * k + 2)))))) F w 0 12 iX3 okX3 f78 rfl rfl rfl (by decide) (by decide +kernel) (Nat.le_of_ble_eq_true rfl) dX3_beginAnew_59 rfl (fun H locs w => ?_)
  refine lv_aload_n F.1 F.2.1 dX3_beginAnew_62 rfl (lv_at hl 0 rfl) ?_
  refine lv_iconst (v := nI 0) F.1 F.2.1 dX3_beginAnew_63 (by decide) ?_
  refine r_put (ws' := plH G (pa 0) (pa 1) (pa 2) (pa 3) (fun k => P k) (fun _ => 0) 0 0 0 0 0 0 0 0 0 (P 18) ++ (coreW G (pa 1) (P 8) (top P) (kdP P) (lnP P) (dnP P) (moP P) lo ++ (linesW G (pa 2) (fun _ => 0) (fun _ => 0) (fun _ => 0) (fun _ => 0) (fun _ => 0) ++ (vialsW G (pa 3) 0 0 (fun k => P (126 + 3 * k)) (fun k => P (126 + 3 * k + 1)) (fun k => P (126 + 3 * k + 2)))))) F w 0 13 iX3 okX3 f81 rfl rfl rfl (by decide) (by decide +kernel) (Nat.le_of_ble_eq_true rfl) dX3_beginAnew_64 rfl (fun H locs w => ?_)
  refine lv_aload_n F.1 F.2.1 dX3_beginAnew_67 rfl (lv_at hl 0 rfl) ?_
  refine lv_iconst (v := nI 0) F.1 F.2.1 dX3_beginAnew_68 (by decide) ?_
  refine r_put (ws' := plH G (pa 0) (pa 1) (pa 2) (pa 3) (fun k => P k) (fun _ => 0) 0 0 0 0 0 0 0 0 0 0 ++ (coreW G (pa 1) (P 8) (top P) (kdP P) (lnP P) (dnP P) (moP P) lo ++ (linesW G (pa 2) (fun _ => 0) (fun _ => 0) (fun _ => 0) (fun _ => 0) (fun _ => 0) ++ (vialsW G (pa 3) 0 0 (fun k => P (126 + 3 * k)) (fun k => P (126 + 3 * k + 1)) (fun k => P (126 + 3 * k + 2)))))) F w 0 14 iX3 okX3 f84 rfl rfl rfl (by decide) (by decide +kernel) (Nat.le_of_ble_eq_true rfl) dX3_beginAnew_69 rfl (fun H locs w => ?_)
  have w := w.eq (ws' := plH G (pa 0) (pa 1) (pa 2) (pa 3) (fun k => (newF P) k) (fun k => (newF P) (19 + k)) ((newF P) 9) ((newF P) 10) ((newF P) 11) ((newF P) 12) ((newF P) 13) (toldF (newF P)) (watF (newF P)) ((newF P) 16) ((newF P) 17) ((newF P) 18) ++ (coreW G (pa 1) ((newF P) 8) (top (newF P)) (kdP (newF P)) (lnP (newF P)) (dnP (newF P)) (moP (newF P)) lo ++ (linesW G (pa 2) (fun k => (newF P) (26 + 5 * k)) (fun k => (newF P) (26 + 5 * k + 1)) (fun k => (newF P) (26 + 5 * k + 2)) (fun k => (newF P) (26 + 5 * k + 3)) (fun k => (newF P) (26 + 5 * k + 4)) ++ (vialsW G (pa 3) ((newF P) 14) ((newF P) 15) (fun k => (newF P) (126 + 3 * k)) (fun k => (newF P) (126 + 3 * k + 1)) (fun k => (newF P) (126 + 3 * k + 2)))))) (eqW.app (plH_eq (newF_z P (by decide) (by decide)).symm (newF_z P (by decide) (by decide)).symm (newF_z P (by decide) (by decide)).symm (newF_z P (by decide) (by decide)).symm (newF_z P (by decide) (by decide)).symm (newF_told P).symm (newF_wat P).symm (newF_z P (by decide) (by decide)).symm (newF_z P (by decide) (by decide)).symm (newF_z P (by decide) (by decide)).symm (fun k hk => (newF_o P (by omega)).symm) (fun k hk => (newF_z P (by omega) (by omega)).symm)) (eqW.app (coreW_eq (newF_o P (by omega)).symm (newF_top P).symm (fun k hk => (newF_o P (by omega)).symm) (fun k hk => (newF_o P (by omega)).symm) (fun k hk => (newF_o P (by omega)).symm) (fun k hk => (newF_o P (by omega)).symm) (fun _ _ => rfl)) (eqW.app (linesW_eq (fun k hk => (newF_z P (by omega) (by omega)).symm) (fun k hk => (newF_z P (by omega) (by omega)).symm) (fun k hk => (newF_z P (by omega) (by omega)).symm) (fun k hk => (newF_z P (by omega) (by omega)).symm) (fun k hk => (newF_z P (by omega) (by omega)).symm)) (vialsW_eq (newF_z P (by decide) (by decide)).symm (newF_z P (by decide) (by decide)).symm (fun k hk => (newF_o P (by omega)).symm) (fun k hk => (newF_o P (by omega)).symm) (fun k hk => (newF_o P (by omega)).symm)))))
  exact r_return F w dX3_beginAnew_72 (rfl)
set_option maxRecDepth 100000 in
set_option maxHeartbeats 4000000 in
theorem c_X3_copyFrom (l : Launch) (G : KG) (pa : Nat → Nat → Nat) (P lo : Nat → Nat) (pb : Nat → Nat → Nat) (P' lo' : Nat → Nat) : MetV l yX3_copyFrom wsX3_copyFrom 2 0 0 G (plH G (pa 0) (pa 1) (pa 2) (pa 3) (fun k => P k) (fun k => P (19 + k)) (P 9) (P 10) (P 11) (P 12) (P 13) (toldF P) (watF P) (P 16) (P 17) (P 18) ++ (coreW G (pa 1) (P 8) (top P) (kdP P) (lnP P) (dnP P) (moP P) lo ++ (linesW G (pa 2) (fun k => P (26 + 5 * k)) (fun k => P (26 + 5 * k + 1)) (fun k => P (26 + 5 * k + 2)) (fun k => P (26 + 5 * k + 3)) (fun k => P (26 + 5 * k + 4)) ++ (vialsW G (pa 3) (P 14) (P 15) (fun k => P (126 + 3 * k)) (fun k => P (126 + 3 * k + 1)) (fun k => P (126 + 3 * k + 2)) ++ (plH G (pb 0) (pb 1) (pb 2) (pb 3) (fun k => P' k) (fun k => P' (19 + k)) (P' 9) (P' 10) (P' 11) (P' 12) (P' 13) (toldF P') (watF P') (P' 16) (P' 17) (P' 18) ++ (coreW G (pb 1) (P' 8) (top P') (kdP P') (lnP P') (dnP P') (moP P') lo' ++ (linesW G (pb 2) (fun k => P' (26 + 5 * k)) (fun k => P' (26 + 5 * k + 1)) (fun k => P' (26 + 5 * k + 2)) (fun k => P' (26 + 5 * k + 3)) (fun k => P' (26 + 5 * k + 4)) ++ (vialsW G (pb 3) (P' 14) (P' 15) (fun k => P' (126 + 3 * k)) (fun k => P' (126 + 3 * k + 1)) (fun k => P' (126 + 3 * k + 2)))))))))) [.ref ((pa 0) 0), .ref ((pb 0) 0)] (fun v => v = plH G (pa 0) (pa 1) (pa 2) (pa 3) (fun k => P' k) (fun k => P' (19 + k)) (P' 9) (P' 10) (P' 11) (P' 12) (P' 13) (toldF P') (watF P') (P' 16) (P' 17) (P' 18) ++ (coreW G (pa 1) (P' 8) (top P') (kdP P') (lnP P') (dnP P') (moP P') lo' ++ (linesW G (pa 2) (fun k => P' (26 + 5 * k)) (fun k => P' (26 + 5 * k + 1)) (fun k => P' (26 + 5 * k + 2)) (fun k => P' (26 + 5 * k + 3)) (fun k => P' (26 + 5 * k + 4)) ++ (vialsW G (pa 3) (P' 14) (P' 15) (fun k => P' (126 + 3 * k)) (fun k => P' (126 + 3 * k + 1)) (fun k => P' (126 + 3 * k + 2)) ++ (plH G (pb 0) (pb 1) (pb 2) (pb 3) (fun k => P' k) (fun k => P' (19 + k)) (P' 9) (P' 10) (P' 11) (P' 12) (P' 13) (toldF P') (watF P') (P' 16) (P' 17) (P' 18) ++ (coreW G (pb 1) (P' 8) (top P') (kdP P') (lnP P') (dnP P') (moP P') lo' ++ (linesW G (pb 2) (fun k => P' (26 + 5 * k)) (fun k => P' (26 + 5 * k + 1)) (fun k => P' (26 + 5 * k + 2)) (fun k => P' (26 + 5 * k + 3)) (fun k => P' (26 + 5 * k + 4)) ++ (vialsW G (pb 3) (P' 14) (P' 15) (fun k => P' (126 + 3 * k)) (fun k => P' (126 + 3 * k + 1)) (fun k => P' (126 + 3 * k + 2)))))))))) := by
  refine MetV.by (cc := cX3_copyFrom) (nL := 2) (ret := none) (by decide +kernel) rfl (Nat.le_of_ble_eq_true rfl) ?_
  intro p e s m args below meth c F hname w ls hl
  have hl : lv_has ls 2 [(0, .ref ((pa 0) 0)), (1, .ref ((pb 0) 0))] := hl
  have hts := F.ts
  have iX3 : ∀ w ∈ wsX30, w ∈ wsX3_copyFrom := by decide +kernel
  have f10 := hts (.fieldLink RX3 10 "CoreMelter$Plate" "core" "LCoreMelter$Core;") (by decide +kernel)
  have f19 := hts (.fieldLink RX3 19 "CoreMelter$Plate" "lines" "LCoreMelter$Lines;") (by decide +kernel)
  have f26 := hts (.fieldLink RX3 26 "CoreMelter$Plate" "vials" "LCoreMelter$Vials;") (by decide +kernel)
  have f30 := hts (.fieldLink RX3 30 "CoreMelter$Plate" "settings" "[I") (by decide +kernel)
  have f34 := hts (.fieldLink RX3 34 "CoreMelter$Plate" "accounts" "[I") (by decide +kernel)
  have f56 := hts (.fieldLink RX3 56 "CoreMelter$Plate" "front" "I") (by decide +kernel)
  have f60 := hts (.fieldLink RX3 60 "CoreMelter$Plate" "store" "I") (by decide +kernel)
  have f63 := hts (.fieldLink RX3 63 "CoreMelter$Plate" "stock" "I") (by decide +kernel)
  have f66 := hts (.fieldLink RX3 66 "CoreMelter$Plate" "stockGas" "I") (by decide +kernel)
  have f69 := hts (.fieldLink RX3 69 "CoreMelter$Plate" "stockDirt" "I") (by decide +kernel)
  have f72 := hts (.fieldLink RX3 72 "CoreMelter$Plate" "told" "I") (by decide +kernel)
  have f75 := hts (.fieldLink RX3 75 "CoreMelter$Plate" "waterBelowTold" "I") (by decide +kernel)
  have f78 := hts (.fieldLink RX3 78 "CoreMelter$Plate" "ticks" "I") (by decide +kernel)
  have f81 := hts (.fieldLink RX3 81 "CoreMelter$Plate" "reason" "I") (by decide +kernel)
  have f84 := hts (.fieldLink RX3 84 "CoreMelter$Plate" "stopped" "I") (by decide +kernel)
  have hy1 := hts (.methodLink RX3 40 arraycopyName) (by decide +kernel)
  have hy2 := hts (.native arraycopyName) (by decide +kernel)
  have hy3 := hts (.static arraycopyName) (by decide +kernel)
  have hy4 := hts (.initialized "java/lang/System") (by decide +kernel)
  refine lv_aload_n F.1 F.2.1 dX3_copyFrom_0 rfl (lv_at hl 0 rfl) ?_
  refine r_get F w 0 0 iX3 f10 rfl rfl rfl (by decide) rfl dX3_copyFrom_1 ?_
  refine lv_aload_n F.1 F.2.1 dX3_copyFrom_4 rfl (lv_at hl 1 rfl) ?_
  refine r_get F w 19 0 iX3 f10 rfl rfl rfl (by decide) rfl dX3_copyFrom_5 ?_
  refine r_callVV (rest := []) F w (c_X0_copyFrom l G (pa 1) (P 8) (top P) (kdP P) (lnP P) (dnP P) (moP P) lo (pb 1) (P' 8) (top P') (kdP P') (lnP P') (dnP P') (moP P') lo') gX3_copyFrom_X0_copyFrom [3, 4, 5, 6, 7, 8, 22, 23, 24, 25, 26, 27] [0, 1, 2, 9, 10, 11, 12, 13, 14, 15, 16, 17, 18, 19, 20, 21, 28, 29, 30, 31, 32, 33, 34, 35, 36, 37] (nA0 := 1) rfl (by decide +kernel) rfl ⟨Nat.le_of_ble_eq_true rfl, Nat.le_of_ble_eq_true rfl⟩ ⟨Nat.le_of_ble_eq_true rfl, Nat.le_of_ble_eq_true rfl⟩ rfl rfl rfl rfl rfl rfl rfl hl rfl (Nat.le_of_ble_eq_true rfl) dX3_copyFrom_8 (fun w1 H locs hp w => ?_)
  obtain rfl := hp
  have w := w.sub (ws' := plH G (pa 0) (pa 1) (pa 2) (pa 3) (fun k => P k) (fun k => P (19 + k)) (P 9) (P 10) (P 11) (P 12) (P 13) (toldF P) (watF P) (P 16) (P 17) (P 18) ++ (coreW G (pa 1) (P' 8) (top P') (kdP P') (lnP P') (dnP P') (moP P') lo' ++ (linesW G (pa 2) (fun k => P (26 + 5 * k)) (fun k => P (26 + 5 * k + 1)) (fun k => P (26 + 5 * k + 2)) (fun k => P (26 + 5 * k + 3)) (fun k => P (26 + 5 * k + 4)) ++ (vialsW G (pa 3) (P 14) (P 15) (fun k => P (126 + 3 * k)) (fun k => P (126 + 3 * k + 1)) (fun k => P (126 + 3 * k + 2)) ++ (plH G (pb 0) (pb 1) (pb 2) (pb 3) (fun k => P' k) (fun k => P' (19 + k)) (P' 9) (P' 10) (P' 11) (P' 12) (P' 13) (toldF P') (watF P') (P' 16) (P' 17) (P' 18) ++ (coreW G (pb 1) (P' 8) (top P') (kdP P') (lnP P') (dnP P') (moP P') lo' ++ (linesW G (pb 2) (fun k => P' (26 + 5 * k)) (fun k => P' (26 + 5 * k + 1)) (fun k => P' (26 + 5 * k + 2)) (fun k => P' (26 + 5 * k + 3)) (fun k => P' (26 + 5 * k + 4)) ++ (vialsW G (pb 3) (P' 14) (P' 15) (fun k => P' (126 + 3 * k)) (fun k => P' (126 + 3 * k + 1)) (fun k => P' (126 + 3 * k + 2)))))))))) [0, 1, 2, 26, 27, 28, 29, 30, 31, 3, 4, 5, 6, 7, 8, 9, 10, 11, 12, 13, 14, 15, 32, 33, 34, 35, 36, 37, 16, 17, 18, 19, 20, 21, 22, 23, 24, 25] (by decide) rfl
  refine lv_aload_n F.1 F.2.1 dX3_copyFrom_11 rfl (lv_at hl 0 rfl) ?_
  refine r_get F w 0 1 iX3 f19 rfl rfl rfl (by decide) rfl dX3_copyFrom_12 ?_
  refine lv_aload_n F.1 F.2.1 dX3_copyFrom_15 rfl (lv_at hl 1 rfl) ?_
  refine r_get F w 19 1 iX3 f19 rfl rfl rfl (by decide) rfl dX3_copyFrom_16 ?_
  refine r_callVV (rest := []) F w (c_X2_copyFrom l G (pa 2) (fun k => P (26 + 5 * k)) (fun k => P (26 + 5 * k + 1)) (fun k => P (26 + 5 * k + 2)) (fun k => P (26 + 5 * k + 3)) (fun k => P (26 + 5 * k + 4)) (pb 2) (fun k => P' (26 + 5 * k)) (fun k => P' (26 + 5 * k + 1)) (fun k => P' (26 + 5 * k + 2)) (fun k => P' (26 + 5 * k + 3)) (fun k => P' (26 + 5 * k + 4))) gX3_copyFrom_X2_copyFrom [9, 10, 11, 12, 13, 14, 28, 29, 30, 31, 32, 33] [0, 1, 2, 3, 4, 5, 6, 7, 8, 15, 16, 17, 18, 19, 20, 21, 22, 23, 24, 25, 26, 27, 34, 35, 36, 37] (nA0 := 1) rfl (by decide +kernel) rfl ⟨Nat.le_of_ble_eq_true rfl, Nat.le_of_ble_eq_true rfl⟩ ⟨Nat.le_of_ble_eq_true rfl, Nat.le_of_ble_eq_true rfl⟩ rfl rfl rfl rfl rfl rfl rfl hl rfl (Nat.le_of_ble_eq_true rfl) dX3_copyFrom_19 (fun w1 H locs hp w => ?_)
  obtain rfl := hp
  have w := w.sub (ws' := plH G (pa 0) (pa 1) (pa 2) (pa 3) (fun k => P k) (fun k => P (19 + k)) (P 9) (P 10) (P 11) (P 12) (P 13) (toldF P) (watF P) (P 16) (P 17) (P 18) ++ (coreW G (pa 1) (P' 8) (top P') (kdP P') (lnP P') (dnP P') (moP P') lo' ++ (linesW G (pa 2) (fun k => P' (26 + 5 * k)) (fun k => P' (26 + 5 * k + 1)) (fun k => P' (26 + 5 * k + 2)) (fun k => P' (26 + 5 * k + 3)) (fun k => P' (26 + 5 * k + 4)) ++ (vialsW G (pa 3) (P 14) (P 15) (fun k => P (126 + 3 * k)) (fun k => P (126 + 3 * k + 1)) (fun k => P (126 + 3 * k + 2)) ++ (plH G (pb 0) (pb 1) (pb 2) (pb 3) (fun k => P' k) (fun k => P' (19 + k)) (P' 9) (P' 10) (P' 11) (P' 12) (P' 13) (toldF P') (watF P') (P' 16) (P' 17) (P' 18) ++ (coreW G (pb 1) (P' 8) (top P') (kdP P') (lnP P') (dnP P') (moP P') lo' ++ (linesW G (pb 2) (fun k => P' (26 + 5 * k)) (fun k => P' (26 + 5 * k + 1)) (fun k => P' (26 + 5 * k + 2)) (fun k => P' (26 + 5 * k + 3)) (fun k => P' (26 + 5 * k + 4)) ++ (vialsW G (pb 3) (P' 14) (P' 15) (fun k => P' (126 + 3 * k)) (fun k => P' (126 + 3 * k + 1)) (fun k => P' (126 + 3 * k + 2)))))))))) [0, 1, 2, 3, 4, 5, 6, 7, 8, 26, 27, 28, 29, 30, 31, 9, 10, 11, 12, 13, 14, 15, 16, 17, 18, 19, 20, 21, 32, 33, 34, 35, 36, 37, 22, 23, 24, 25] (by decide) rfl
  refine lv_aload_n F.1 F.2.1 dX3_copyFrom_22 rfl (lv_at hl 0 rfl) ?_
  refine r_get F w 0 2 iX3 f26 rfl rfl rfl (by decide) rfl dX3_copyFrom_23 ?_
  refine lv_aload_n F.1 F.2.1 dX3_copyFrom_26 rfl (lv_at hl 1 rfl) ?_
  refine r_get F w 19 2 iX3 f26 rfl rfl rfl (by decide) rfl dX3_copyFrom_27 ?_
  refine r_callVV (rest := []) F w (c_X6_copyFrom l G (pa 3) (P 14) (P 15) (fun k => P (126 + 3 * k)) (fun k => P (126 + 3 * k + 1)) (fun k => P (126 + 3 * k + 2)) (pb 3) (P' 14) (P' 15) (fun k => P' (126 + 3 * k)) (fun k => P' (126 + 3 * k + 1)) (fun k => P' (126 + 3 * k + 2))) gX3_copyFrom_X6_copyFrom [15, 16, 17, 18, 34, 35, 36, 37] [0, 1, 2, 3, 4, 5, 6, 7, 8, 9, 10, 11, 12, 13, 14, 19, 20, 21, 22, 23, 24, 25, 26, 27, 28, 29, 30, 31, 32, 33] (nA0 := 1) rfl (by decide +kernel) rfl ⟨Nat.le_of_ble_eq_true rfl, Nat.le_of_ble_eq_true rfl⟩ ⟨Nat.le_of_ble_eq_true rfl, Nat.le_of_ble_eq_true rfl⟩ rfl rfl rfl rfl rfl rfl rfl hl rfl (Nat.le_of_ble_eq_true rfl) dX3_copyFrom_30 (fun w1 H locs hp w => ?_)
  obtain rfl := hp
  have w := w.sub (ws' := plH G (pa 0) (pa 1) (pa 2) (pa 3) (fun k => P k) (fun k => P (19 + k)) (P 9) (P 10) (P 11) (P 12) (P 13) (toldF P) (watF P) (P 16) (P 17) (P 18) ++ (coreW G (pa 1) (P' 8) (top P') (kdP P') (lnP P') (dnP P') (moP P') lo' ++ (linesW G (pa 2) (fun k => P' (26 + 5 * k)) (fun k => P' (26 + 5 * k + 1)) (fun k => P' (26 + 5 * k + 2)) (fun k => P' (26 + 5 * k + 3)) (fun k => P' (26 + 5 * k + 4)) ++ (vialsW G (pa 3) (P' 14) (P' 15) (fun k => P' (126 + 3 * k)) (fun k => P' (126 + 3 * k + 1)) (fun k => P' (126 + 3 * k + 2)) ++ (plH G (pb 0) (pb 1) (pb 2) (pb 3) (fun k => P' k) (fun k => P' (19 + k)) (P' 9) (P' 10) (P' 11) (P' 12) (P' 13) (toldF P') (watF P') (P' 16) (P' 17) (P' 18) ++ (coreW G (pb 1) (P' 8) (top P') (kdP P') (lnP P') (dnP P') (moP P') lo' ++ (linesW G (pb 2) (fun k => P' (26 + 5 * k)) (fun k => P' (26 + 5 * k + 1)) (fun k => P' (26 + 5 * k + 2)) (fun k => P' (26 + 5 * k + 3)) (fun k => P' (26 + 5 * k + 4)) ++ (vialsW G (pb 3) (P' 14) (P' 15) (fun k => P' (126 + 3 * k)) (fun k => P' (126 + 3 * k + 1)) (fun k => P' (126 + 3 * k + 2)))))))))) [0, 1, 2, 3, 4, 5, 6, 7, 8, 9, 10, 11, 12, 13, 14, 30, 31, 32, 33, 15, 16, 17, 18, 19, 20, 21, 22, 23, 24, 25, 26, 27, 28, 29, 34, 35, 36, 37] (by decide) rfl
  refine lv_aload_n F.1 F.2.1 dX3_copyFrom_33 rfl (lv_at hl 1 rfl) ?_
  refine r_get F w 19 3 iX3 f30 rfl rfl rfl (by decide) rfl dX3_copyFrom_34 ?_
  refine lv_iconst (v := nI 0) F.1 F.2.1 dX3_copyFrom_37 (by decide) ?_
  refine lv_aload_n F.1 F.2.1 dX3_copyFrom_38 rfl (lv_at hl 0 rfl) ?_
  refine r_get F w 0 3 iX3 f30 rfl rfl rfl (by decide) rfl dX3_copyFrom_39 ?_
  refine lv_iconst (v := nI 0) F.1 F.2.1 dX3_copyFrom_42 (by decide) ?_
  refine lv_bipush (v := nI 8) F.1 F.2.1 dX3_copyFrom_43 (by decide) ?_
  refine r_copy (ws' := plH G (pa 0) (pa 1) (pa 2) (pa 3) (fun k => P' k) (fun k => P (19 + k)) (P 9) (P 10) (P 11) (P 12) (P 13) (toldF P) (watF P) (P 16) (P 17) (P 18) ++ (coreW G (pa 1) (P' 8) (top P') (kdP P') (lnP P') (dnP P') (moP P') lo' ++ (linesW G (pa 2) (fun k => P' (26 + 5 * k)) (fun k => P' (26 + 5 * k + 1)) (fun k => P' (26 + 5 * k + 2)) (fun k => P' (26 + 5 * k + 3)) (fun k => P' (26 + 5 * k + 4)) ++ (vialsW G (pa 3) (P' 14) (P' 15) (fun k => P' (126 + 3 * k)) (fun k => P' (126 + 3 * k + 1)) (fun k => P' (126 + 3 * k + 2)) ++ (plH G (pb 0) (pb 1) (pb 2) (pb 3) (fun k => P' k) (fun k => P' (19 + k)) (P' 9) (P' 10) (P' 11) (P' 12) (P' 13) (toldF P') (watF P') (P' 16) (P' 17) (P' 18) ++ (coreW G (pb 1) (P' 8) (top P') (kdP P') (lnP P') (dnP P') (moP P') lo' ++ (linesW G (pb 2) (fun k => P' (26 + 5 * k)) (fun k => P' (26 + 5 * k + 1)) (fun k => P' (26 + 5 * k + 2)) (fun k => P' (26 + 5 * k + 3)) (fun k => P' (26 + 5 * k + 4)) ++ (vialsW G (pb 3) (P' 14) (P' 15) (fun k => P' (126 + 3 * k)) (fun k => P' (126 + 3 * k + 1)) (fun k => P' (126 + 3 * k + 2)))))))))) F w 20 1 hy1 hy2 hy3 hy4 rfl rfl (by decide) (by decide) (Nat.le_of_ble_eq_true rfl) hl dX3_copyFrom_45 rfl (fun H locs w => ?_)
  refine lv_aload_n F.1 F.2.1 dX3_copyFrom_48 rfl (lv_at hl 1 rfl) ?_
  refine r_get F w 19 4 iX3 f34 rfl rfl rfl (by decide) rfl dX3_copyFrom_49 ?_
  refine lv_iconst (v := nI 0) F.1 F.2.1 dX3_copyFrom_52 (by decide) ?_
  refine lv_aload_n F.1 F.2.1 dX3_copyFrom_53 rfl (lv_at hl 0 rfl) ?_
  refine r_get F w 0 4 iX3 f34 rfl rfl rfl (by decide) rfl dX3_copyFrom_54 ?_
  refine lv_iconst (v := nI 0) F.1 F.2.1 dX3_copyFrom_57 (by decide) ?_
  refine lv_bipush (v := nI 7) F.1 F.2.1 dX3_copyFrom_58 (by decide) ?_
  refine r_copy (ws' := plH G (pa 0) (pa 1) (pa 2) (pa 3) (fun k => P' k) (fun k => P' (19 + k)) (P 9) (P 10) (P 11) (P 12) (P 13) (toldF P) (watF P) (P 16) (P 17) (P 18) ++ (coreW G (pa 1) (P' 8) (top P') (kdP P') (lnP P') (dnP P') (moP P') lo' ++ (linesW G (pa 2) (fun k => P' (26 + 5 * k)) (fun k => P' (26 + 5 * k + 1)) (fun k => P' (26 + 5 * k + 2)) (fun k => P' (26 + 5 * k + 3)) (fun k => P' (26 + 5 * k + 4)) ++ (vialsW G (pa 3) (P' 14) (P' 15) (fun k => P' (126 + 3 * k)) (fun k => P' (126 + 3 * k + 1)) (fun k => P' (126 + 3 * k + 2)) ++ (plH G (pb 0) (pb 1) (pb 2) (pb 3) (fun k => P' k) (fun k => P' (19 + k)) (P' 9) (P' 10) (P' 11) (P' 12) (P' 13) (toldF P') (watF P') (P' 16) (P' 17) (P' 18) ++ (coreW G (pb 1) (P' 8) (top P') (kdP P') (lnP P') (dnP P') (moP P') lo' ++ (linesW G (pb 2) (fun k => P' (26 + 5 * k)) (fun k => P' (26 + 5 * k + 1)) (fun k => P' (26 + 5 * k + 2)) (fun k => P' (26 + 5 * k + 3)) (fun k => P' (26 + 5 * k + 4)) ++ (vialsW G (pb 3) (P' 14) (P' 15) (fun k => P' (126 + 3 * k)) (fun k => P' (126 + 3 * k + 1)) (fun k => P' (126 + 3 * k + 2)))))))))) F w 21 2 hy1 hy2 hy3 hy4 rfl rfl (by decide) (by decide) (Nat.le_of_ble_eq_true rfl) hl dX3_copyFrom_60 rfl (fun H locs w => ?_)
  refine lv_aload_n F.1 F.2.1 dX3_copyFrom_63 rfl (lv_at hl 0 rfl) ?_
  refine lv_aload_n F.1 F.2.1 dX3_copyFrom_64 rfl (lv_at hl 1 rfl) ?_
  refine r_get F w 19 5 iX3 f56 rfl rfl rfl (by decide) rfl dX3_copyFrom_65 ?_
  refine r_put (ws' := plH G (pa 0) (pa 1) (pa 2) (pa 3) (fun k => P' k) (fun k => P' (19 + k)) (P' 9) (P 10) (P 11) (P 12) (P 13) (toldF P) (watF P) (P 16) (P 17) (P 18) ++ (coreW G (pa 1) (P' 8) (top P') (kdP P') (lnP P') (dnP P') (moP P') lo' ++ (linesW G (pa 2) (fun k => P' (26 + 5 * k)) (fun k => P' (26 + 5 * k + 1)) (fun k => P' (26 + 5 * k + 2)) (fun k => P' (26 + 5 * k + 3)) (fun k => P' (26 + 5 * k + 4)) ++ (vialsW G (pa 3) (P' 14) (P' 15) (fun k => P' (126 + 3 * k)) (fun k => P' (126 + 3 * k + 1)) (fun k => P' (126 + 3 * k + 2)) ++ (plH G (pb 0) (pb 1) (pb 2) (pb 3) (fun k => P' k) (fun k => P' (19 + k)) (P' 9) (P' 10) (P' 11) (P' 12) (P' 13) (toldF P') (watF P') (P' 16) (P' 17) (P' 18) ++ (coreW G (pb 1) (P' 8) (top P') (kdP P') (lnP P') (dnP P') (moP P') lo' ++ (linesW G (pb 2) (fun k => P' (26 + 5 * k)) (fun k => P' (26 + 5 * k + 1)) (fun k => P' (26 + 5 * k + 2)) (fun k => P' (26 + 5 * k + 3)) (fun k => P' (26 + 5 * k + 4)) ++ (vialsW G (pb 3) (P' 14) (P' 15) (fun k => P' (126 + 3 * k)) (fun k => P' (126 + 3 * k + 1)) (fun k => P' (126 + 3 * k + 2)))))))))) F w 0 5 iX3 okX3 f56 rfl rfl rfl (by decide) (by decide +kernel) (Nat.le_of_ble_eq_true rfl) dX3_copyFrom_68 rfl (fun H locs w => ?_)
  refine lv_aload_n F.1 F.2.1 dX3_copyFrom_71 rfl (lv_at hl 0 rfl) ?_
  refine lv_aload_n F.1 F.2.1 dX3_copyFrom_72 rfl (lv_at hl 1 rfl) ?_
  refine r_get F w 19 6 iX3 f60 rfl rfl rfl (by decide) rfl dX3_copyFrom_73 ?_
  refine r_put (ws' := plH G (pa 0) (pa 1) (pa 2) (pa 3) (fun k => P' k) (fun k => P' (19 + k)) (P' 9) (P' 10) (P 11) (P 12) (P 13) (toldF P) (watF P) (P 16) (P 17) (P 18) ++ (coreW G (pa 1) (P' 8) (top P') (kdP P') (lnP P') (dnP P') (moP P') lo' ++ (linesW G (pa 2) (fun k => P' (26 + 5 * k)) (fun k => P' (26 + 5 * k + 1)) (fun k => P' (26 + 5 * k + 2)) (fun k => P' (26 + 5 * k + 3)) (fun k => P' (26 + 5 * k + 4)) ++ (vialsW G (pa 3) (P' 14) (P' 15) (fun k => P' (126 + 3 * k)) (fun k => P' (126 + 3 * k + 1)) (fun k => P' (126 + 3 * k + 2)) ++ (plH G (pb 0) (pb 1) (pb 2) (pb 3) (fun k => P' k) (fun k => P' (19 + k)) (P' 9) (P' 10) (P' 11) (P' 12) (P' 13) (toldF P') (watF P') (P' 16) (P' 17) (P' 18) ++ (coreW G (pb 1) (P' 8) (top P') (kdP P') (lnP P') (dnP P') (moP P') lo' ++ (linesW G (pb 2) (fun k => P' (26 + 5 * k)) (fun k => P' (26 + 5 * k + 1)) (fun k => P' (26 + 5 * k + 2)) (fun k => P' (26 + 5 * k + 3)) (fun k => P' (26 + 5 * k + 4)) ++ (vialsW G (pb 3) (P' 14) (P' 15) (fun k => P' (126 + 3 * k)) (fun k => P' (126 + 3 * k + 1)) (fun k => P' (126 + 3 * k + 2)))))))))) F w 0 6 iX3 okX3 f60 rfl rfl rfl (by decide) (by decide +kernel) (Nat.le_of_ble_eq_true rfl) dX3_copyFrom_76 rfl (fun H locs w => ?_)
  refine lv_aload_n F.1 F.2.1 dX3_copyFrom_79 rfl (lv_at hl 0 rfl) ?_
  refine lv_aload_n F.1 F.2.1 dX3_copyFrom_80 rfl (lv_at hl 1 rfl) ?_
  refine r_get F w 19 7 iX3 f63 rfl rfl rfl (by decide) rfl dX3_copyFrom_81 ?_
  refine r_put (ws' := plH G (pa 0) (pa 1) (pa 2) (pa 3) (fun k => P' k) (fun k => P' (19 + k)) (P' 9) (P' 10) (P' 11) (P 12) (P 13) (toldF P) (watF P) (P 16) (P 17) (P 18) ++ (coreW G (pa 1) (P' 8) (top P') (kdP P') (lnP P') (dnP P') (moP P') lo' ++ (linesW G (pa 2) (fun k => P' (26 + 5 * k)) (fun k => P' (26 + 5 * k + 1)) (fun k => P' (26 + 5 * k + 2)) (fun k => P' (26 + 5 * k + 3)) (fun k => P' (26 + 5 * k + 4)) ++ (vialsW G (pa 3) (P' 14) (P' 15) (fun k => P' (126 + 3 * k)) (fun k => P' (126 + 3 * k + 1)) (fun k => P' (126 + 3 * k + 2)) ++ (plH G (pb 0) (pb 1) (pb 2) (pb 3) (fun k => P' k) (fun k => P' (19 + k)) (P' 9) (P' 10) (P' 11) (P' 12) (P' 13) (toldF P') (watF P') (P' 16) (P' 17) (P' 18) ++ (coreW G (pb 1) (P' 8) (top P') (kdP P') (lnP P') (dnP P') (moP P') lo' ++ (linesW G (pb 2) (fun k => P' (26 + 5 * k)) (fun k => P' (26 + 5 * k + 1)) (fun k => P' (26 + 5 * k + 2)) (fun k => P' (26 + 5 * k + 3)) (fun k => P' (26 + 5 * k + 4)) ++ (vialsW G (pb 3) (P' 14) (P' 15) (fun k => P' (126 + 3 * k)) (fun k => P' (126 + 3 * k + 1)) (fun k => P' (126 + 3 * k + 2)))))))))) F w 0 7 iX3 okX3 f63 rfl rfl rfl (by decide) (by decide +kernel) (Nat.le_of_ble_eq_true rfl) dX3_copyFrom_84 rfl (fun H locs w => ?_)
  refine lv_aload_n F.1 F.2.1 dX3_copyFrom_87 rfl (lv_at hl 0 rfl) ?_
  refine lv_aload_n F.1 F.2.1 dX3_copyFrom_88 rfl (lv_at hl 1 rfl) ?_
  refine r_get F w 19 8 iX3 f66 rfl rfl rfl (by decide) rfl dX3_copyFrom_89 ?_
  refine r_put (ws' := plH G (pa 0) (pa 1) (pa 2) (pa 3) (fun k => P' k) (fun k => P' (19 + k)) (P' 9) (P' 10) (P' 11) (P' 12) (P 13) (toldF P) (watF P) (P 16) (P 17) (P 18) ++ (coreW G (pa 1) (P' 8) (top P') (kdP P') (lnP P') (dnP P') (moP P') lo' ++ (linesW G (pa 2) (fun k => P' (26 + 5 * k)) (fun k => P' (26 + 5 * k + 1)) (fun k => P' (26 + 5 * k + 2)) (fun k => P' (26 + 5 * k + 3)) (fun k => P' (26 + 5 * k + 4)) ++ (vialsW G (pa 3) (P' 14) (P' 15) (fun k => P' (126 + 3 * k)) (fun k => P' (126 + 3 * k + 1)) (fun k => P' (126 + 3 * k + 2)) ++ (plH G (pb 0) (pb 1) (pb 2) (pb 3) (fun k => P' k) (fun k => P' (19 + k)) (P' 9) (P' 10) (P' 11) (P' 12) (P' 13) (toldF P') (watF P') (P' 16) (P' 17) (P' 18) ++ (coreW G (pb 1) (P' 8) (top P') (kdP P') (lnP P') (dnP P') (moP P') lo' ++ (linesW G (pb 2) (fun k => P' (26 + 5 * k)) (fun k => P' (26 + 5 * k + 1)) (fun k => P' (26 + 5 * k + 2)) (fun k => P' (26 + 5 * k + 3)) (fun k => P' (26 + 5 * k + 4)) ++ (vialsW G (pb 3) (P' 14) (P' 15) (fun k => P' (126 + 3 * k)) (fun k => P' (126 + 3 * k + 1)) (fun k => P' (126 + 3 * k + 2)))))))))) F w 0 8 iX3 okX3 f66 rfl rfl rfl (by decide) (by decide +kernel) (Nat.le_of_ble_eq_true rfl) dX3_copyFrom_92 rfl (fun H locs w => ?_)
  refine lv_aload_n F.1 F.2.1 dX3_copyFrom_95 rfl (lv_at hl 0 rfl) ?_
  refine lv_aload_n F.1 F.2.1 dX3_copyFrom_96 rfl (lv_at hl 1 rfl) ?_
  refine r_get F w 19 9 iX3 f69 rfl rfl rfl (by decide) rfl dX3_copyFrom_97 ?_
  refine r_put (ws' := plH G (pa 0) (pa 1) (pa 2) (pa 3) (fun k => P' k) (fun k => P' (19 + k)) (P' 9) (P' 10) (P' 11) (P' 12) (P' 13) (toldF P) (watF P) (P 16) (P 17) (P 18) ++ (coreW G (pa 1) (P' 8) (top P') (kdP P') (lnP P') (dnP P') (moP P') lo' ++ (linesW G (pa 2) (fun k => P' (26 + 5 * k)) (fun k => P' (26 + 5 * k + 1)) (fun k => P' (26 + 5 * k + 2)) (fun k => P' (26 + 5 * k + 3)) (fun k => P' (26 + 5 * k + 4)) ++ (vialsW G (pa 3) (P' 14) (P' 15) (fun k => P' (126 + 3 * k)) (fun k => P' (126 + 3 * k + 1)) (fun k => P' (126 + 3 * k + 2)) ++ (plH G (pb 0) (pb 1) (pb 2) (pb 3) (fun k => P' k) (fun k => P' (19 + k)) (P' 9) (P' 10) (P' 11) (P' 12) (P' 13) (toldF P') (watF P') (P' 16) (P' 17) (P' 18) ++ (coreW G (pb 1) (P' 8) (top P') (kdP P') (lnP P') (dnP P') (moP P') lo' ++ (linesW G (pb 2) (fun k => P' (26 + 5 * k)) (fun k => P' (26 + 5 * k + 1)) (fun k => P' (26 + 5 * k + 2)) (fun k => P' (26 + 5 * k + 3)) (fun k => P' (26 + 5 * k + 4)) ++ (vialsW G (pb 3) (P' 14) (P' 15) (fun k => P' (126 + 3 * k)) (fun k => P' (126 + 3 * k + 1)) (fun k => P' (126 + 3 * k + 2)))))))))) F w 0 9 iX3 okX3 f69 rfl rfl rfl (by decide) (by decide +kernel) (Nat.le_of_ble_eq_true rfl) dX3_copyFrom_100 rfl (fun H locs w => ?_)
  refine lv_aload_n F.1 F.2.1 dX3_copyFrom_103 rfl (lv_at hl 0 rfl) ?_
  refine lv_aload_n F.1 F.2.1 dX3_copyFrom_104 rfl (lv_at hl 1 rfl) ?_
  refine r_get F w 19 10 iX3 f72 rfl rfl rfl (by decide) rfl dX3_copyFrom_105 ?_
  refine r_put (ws' := plH G (pa 0) (pa 1) (pa 2) (pa 3) (fun k => P' k) (fun k => P' (19 + k)) (P' 9) (P' 10) (P' 11) (P' 12) (P' 13) (toldF P') (watF P) (P 16) (P 17) (P 18) ++ (coreW G (pa 1) (P' 8) (top P') (kdP P') (lnP P') (dnP P') (moP P') lo' ++ (linesW G (pa 2) (fun k => P' (26 + 5 * k)) (fun k => P' (26 + 5 * k + 1)) (fun k => P' (26 + 5 * k + 2)) (fun k => P' (26 + 5 * k + 3)) (fun k => P' (26 + 5 * k + 4)) ++ (vialsW G (pa 3) (P' 14) (P' 15) (fun k => P' (126 + 3 * k)) (fun k => P' (126 + 3 * k + 1)) (fun k => P' (126 + 3 * k + 2)) ++ (plH G (pb 0) (pb 1) (pb 2) (pb 3) (fun k => P' k) (fun k => P' (19 + k)) (P' 9) (P' 10) (P' 11) (P' 12) (P' 13) (toldF P') (watF P') (P' 16) (P' 17) (P' 18) ++ (coreW G (pb 1) (P' 8) (top P') (kdP P') (lnP P') (dnP P') (moP P') lo' ++ (linesW G (pb 2) (fun k => P' (26 + 5 * k)) (fun k => P' (26 + 5 * k + 1)) (fun k => P' (26 + 5 * k + 2)) (fun k => P' (26 + 5 * k + 3)) (fun k => P' (26 + 5 * k + 4)) ++ (vialsW G (pb 3) (P' 14) (P' 15) (fun k => P' (126 + 3 * k)) (fun k => P' (126 + 3 * k + 1)) (fun k => P' (126 + 3 * k + 2)))))))))) F w 0 10 iX3 okX3 f72 rfl rfl rfl (by decide) (by decide +kernel) (Nat.le_of_ble_eq_true rfl) dX3_copyFrom_108 rfl (fun H locs w => ?_)
  refine lv_aload_n F.1 F.2.1 dX3_copyFrom_111 rfl (lv_at hl 0 rfl) ?_
  refine lv_aload_n F.1 F.2.1 dX3_copyFrom_112 rfl (lv_at hl 1 rfl) ?_
  refine r_get F w 19 11 iX3 f75 rfl rfl rfl (by decide) rfl dX3_copyFrom_113 ?_
  refine r_put (ws' := plH G (pa 0) (pa 1) (pa 2) (pa 3) (fun k => P' k) (fun k => P' (19 + k)) (P' 9) (P' 10) (P' 11) (P' 12) (P' 13) (toldF P') (watF P') (P 16) (P 17) (P 18) ++ (coreW G (pa 1) (P' 8) (top P') (kdP P') (lnP P') (dnP P') (moP P') lo' ++ (linesW G (pa 2) (fun k => P' (26 + 5 * k)) (fun k => P' (26 + 5 * k + 1)) (fun k => P' (26 + 5 * k + 2)) (fun k => P' (26 + 5 * k + 3)) (fun k => P' (26 + 5 * k + 4)) ++ (vialsW G (pa 3) (P' 14) (P' 15) (fun k => P' (126 + 3 * k)) (fun k => P' (126 + 3 * k + 1)) (fun k => P' (126 + 3 * k + 2)) ++ (plH G (pb 0) (pb 1) (pb 2) (pb 3) (fun k => P' k) (fun k => P' (19 + k)) (P' 9) (P' 10) (P' 11) (P' 12) (P' 13) (toldF P') (watF P') (P' 16) (P' 17) (P' 18) ++ (coreW G (pb 1) (P' 8) (top P') (kdP P') (lnP P') (dnP P') (moP P') lo' ++ (linesW G (pb 2) (fun k => P' (26 + 5 * k)) (fun k => P' (26 + 5 * k + 1)) (fun k => P' (26 + 5 * k + 2)) (fun k => P' (26 + 5 * k + 3)) (fun k => P' (26 + 5 * k + 4)) ++ (vialsW G (pb 3) (P' 14) (P' 15) (fun k => P' (126 + 3 * k)) (fun k => P' (126 + 3 * k + 1)) (fun k => P' (126 + 3 * k + 2)))))))))) F w 0 11 iX3 okX3 f75 rfl rfl rfl (by decide) (by decide +kernel) (Nat.le_of_ble_eq_true rfl) dX3_copyFrom_116 rfl (fun H locs w => ?_)
  refine lv_aload_n F.1 F.2.1 dX3_copyFrom_119 rfl (lv_at hl 0 rfl) ?_
  refine lv_aload_n F.1 F.2.1 dX3_copyFrom_120 rfl (lv_at hl 1 rfl) ?_
  refine r_get F w 19 12 iX3 f78 rfl rfl rfl (by decide) rfl dX3_copyFrom_121 ?_
  refine r_put (ws' := plH G (pa 0) (pa 1) (pa 2) (pa 3) (fun k => P' k) (fun k => P' (19 + k)) (P' 9) (P' 10) (P' 11) (P' 12) (P' 13) (toldF P') (watF P') (P' 16) (P 17) (P 18) ++ (coreW G (pa 1) (P' 8) (top P') (kdP P') (lnP P') (dnP P') (moP P') lo' ++ (linesW G (pa 2) (fun k => P' (26 + 5 * k)) (fun k => P' (26 + 5 * k + 1)) (fun k => P' (26 + 5 * k + 2)) (fun k => P' (26 + 5 * k + 3)) (fun k => P' (26 + 5 * k + 4)) ++ (vialsW G (pa 3) (P' 14) (P' 15) (fun k => P' (126 + 3 * k)) (fun k => P' (126 + 3 * k + 1)) (fun k => P' (126 + 3 * k + 2)) ++ (plH G (pb 0) (pb 1) (pb 2) (pb 3) (fun k => P' k) (fun k => P' (19 + k)) (P' 9) (P' 10) (P' 11) (P' 12) (P' 13) (toldF P') (watF P') (P' 16) (P' 17) (P' 18) ++ (coreW G (pb 1) (P' 8) (top P') (kdP P') (lnP P') (dnP P') (moP P') lo' ++ (linesW G (pb 2) (fun k => P' (26 + 5 * k)) (fun k => P' (26 + 5 * k + 1)) (fun k => P' (26 + 5 * k + 2)) (fun k => P' (26 + 5 * k + 3)) (fun k => P' (26 + 5 * k + 4)) ++ (vialsW G (pb 3) (P' 14) (P' 15) (fun k => P' (126 + 3 * k)) (fun k => P' (126 + 3 * k + 1)) (fun k => P' (126 + 3 * k + 2)))))))))) F w 0 12 iX3 okX3 f78 rfl rfl rfl (by decide) (by decide +kernel) (Nat.le_of_ble_eq_true rfl) dX3_copyFrom_124 rfl (fun H locs w => ?_)
  refine lv_aload_n F.1 F.2.1 dX3_copyFrom_127 rfl (lv_at hl 0 rfl) ?_
  refine lv_aload_n F.1 F.2.1 dX3_copyFrom_128 rfl (lv_at hl 1 rfl) ?_
  refine r_get F w 19 13 iX3 f81 rfl rfl rfl (by decide) rfl dX3_copyFrom_129 ?_
  refine r_put (ws' := plH G (pa 0) (pa 1) (pa 2) (pa 3) (fun k => P' k) (fun k => P' (19 + k)) (P' 9) (P' 10) (P' 11) (P' 12) (P' 13) (toldF P') (watF P') (P' 16) (P' 17) (P 18) ++ (coreW G (pa 1) (P' 8) (top P') (kdP P') (lnP P') (dnP P') (moP P') lo' ++ (linesW G (pa 2) (fun k => P' (26 + 5 * k)) (fun k => P' (26 + 5 * k + 1)) (fun k => P' (26 + 5 * k + 2)) (fun k => P' (26 + 5 * k + 3)) (fun k => P' (26 + 5 * k + 4)) ++ (vialsW G (pa 3) (P' 14) (P' 15) (fun k => P' (126 + 3 * k)) (fun k => P' (126 + 3 * k + 1)) (fun k => P' (126 + 3 * k + 2)) ++ (plH G (pb 0) (pb 1) (pb 2) (pb 3) (fun k => P' k) (fun k => P' (19 + k)) (P' 9) (P' 10) (P' 11) (P' 12) (P' 13) (toldF P') (watF P') (P' 16) (P' 17) (P' 18) ++ (coreW G (pb 1) (P' 8) (top P') (kdP P') (lnP P') (dnP P') (moP P') lo' ++ (linesW G (pb 2) (fun k => P' (26 + 5 * k)) (fun k => P' (26 + 5 * k + 1)) (fun k => P' (26 + 5 * k + 2)) (fun k => P' (26 + 5 * k + 3)) (fun k => P' (26 + 5 * k + 4)) ++ (vialsW G (pb 3) (P' 14) (P' 15) (fun k => P' (126 + 3 * k)) (fun k => P' (126 + 3 * k + 1)) (fun k => P' (126 + 3 * k + 2)))))))))) F w 0 13 iX3 okX3 f81 rfl rfl rfl (by decide) (by decide +kernel) (Nat.le_of_ble_eq_true rfl) dX3_copyFrom_132 rfl (fun H locs w => ?_)
  refine lv_aload_n F.1 F.2.1 dX3_copyFrom_135 rfl (lv_at hl 0 rfl) ?_
  refine lv_aload_n F.1 F.2.1 dX3_copyFrom_136 rfl (lv_at hl 1 rfl) ?_
  refine r_get F w 19 14 iX3 f84 rfl rfl rfl (by decide) rfl dX3_copyFrom_137 ?_
  refine r_put (ws' := plH G (pa 0) (pa 1) (pa 2) (pa 3) (fun k => P' k) (fun k => P' (19 + k)) (P' 9) (P' 10) (P' 11) (P' 12) (P' 13) (toldF P') (watF P') (P' 16) (P' 17) (P' 18) ++ (coreW G (pa 1) (P' 8) (top P') (kdP P') (lnP P') (dnP P') (moP P') lo' ++ (linesW G (pa 2) (fun k => P' (26 + 5 * k)) (fun k => P' (26 + 5 * k + 1)) (fun k => P' (26 + 5 * k + 2)) (fun k => P' (26 + 5 * k + 3)) (fun k => P' (26 + 5 * k + 4)) ++ (vialsW G (pa 3) (P' 14) (P' 15) (fun k => P' (126 + 3 * k)) (fun k => P' (126 + 3 * k + 1)) (fun k => P' (126 + 3 * k + 2)) ++ (plH G (pb 0) (pb 1) (pb 2) (pb 3) (fun k => P' k) (fun k => P' (19 + k)) (P' 9) (P' 10) (P' 11) (P' 12) (P' 13) (toldF P') (watF P') (P' 16) (P' 17) (P' 18) ++ (coreW G (pb 1) (P' 8) (top P') (kdP P') (lnP P') (dnP P') (moP P') lo' ++ (linesW G (pb 2) (fun k => P' (26 + 5 * k)) (fun k => P' (26 + 5 * k + 1)) (fun k => P' (26 + 5 * k + 2)) (fun k => P' (26 + 5 * k + 3)) (fun k => P' (26 + 5 * k + 4)) ++ (vialsW G (pb 3) (P' 14) (P' 15) (fun k => P' (126 + 3 * k)) (fun k => P' (126 + 3 * k + 1)) (fun k => P' (126 + 3 * k + 2)))))))))) F w 0 14 iX3 okX3 f84 rfl rfl rfl (by decide) (by decide +kernel) (Nat.le_of_ble_eq_true rfl) dX3_copyFrom_140 rfl (fun H locs w => ?_)
  exact r_return F w dX3_copyFrom_143 (rfl)
theorem c_X3_copyFromF (l : Launch) (G : KG) (pa : Nat → Nat → Nat) (P lo : Nat → Nat) (pb : Nat → Nat → Nat) (P' lo' : Nat → Nat) : MetV l yX3_copyFrom wsX3_copyFrom 2 0 0 G (plateW G pa P lo ++ plateW G pb P' lo') [.ref (pa 0 0), .ref (pb 0 0)] (fun v => v = plateW G pa P' lo' ++ plateW G pb P' lo') := c_X3_copyFrom l G pa P lo pb P' lo'

