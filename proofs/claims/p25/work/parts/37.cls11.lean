/-- the first of n numbers that isn't less than d; n if there is none -/
def ft (f : Nat → Nat) (d : Nat) : Nat → Nat
  | 0 => 0
  | n + 1 => if ft f d n < n then ft f d n else if f n < d then n + 1 else n
theorem ft_all {f : Nat → Nat} {d : Nat} : ∀ {n : Nat}, (∀ j, j < n → f j < d) → ft f d n = n
  | 0, _ => rfl
  | n + 1, h => by
    have h1 := ft_all (n := n) (fun j hj => h j (by omega))
    unfold ft
    rw [if_neg (by omega), if_pos (h n (by omega))]
theorem ft_at {f : Nat → Nat} {d i : Nat} : ∀ {n : Nat}, i < n → (∀ j, j < i → f j < d) → d ≤ f i → ft f d n = i
  | 0, hi, _, _ => absurd hi (Nat.not_lt_zero _)
  | n + 1, hi, h, hd => by
    unfold ft
    by_cases e : i = n
    · subst e
      rw [ft_all h, if_neg (Nat.lt_irrefl _), if_neg (by omega)]
    · have h1 := ft_at (n := n) (by omega) h hd
      rw [h1, if_pos (by omega)]
def ifN (P : Nat → Nat) (q k : Nat) : Int32 := if k = 0 then nI (toldF (itF P q)) else if k = 1 then nI (itF P q 9) else if k = 2 then nI (itF P q 20) - nI (P 20) else if k = 3 then nI (itF P q 21) - nI (P 21) else if k = 4 then nI (itF P q 14) - nI (P 14) else if k = 5 then nI (stuckN (itF P q)) else nI (itF P q 18) - nI (P 18)
def toN (P : Nat → Nat) (d : Nat) : Nat := ft (fun j => toldF (itF P j)) d (min 2000 (20000 - P 16))
def ticksN (P : Nat → Nat) (d : Nat) : Int32 := if toldF (itF P (toN P d)) < d then -4 else nI (toN P d)
def flP (P : Nat → Nat) (q k : Nat) : Nat → Nat := itF (up P 3 (10 * k + 10)) q
def flM (P : Nat → Nat) (q : Nat) : Nat → Int32
  | 0 => -1
  | k + 1 => if flM P q k < nI (flP P q k 20) then nI (flP P q k 20) else flM P q k
def flB (P : Nat → Nat) (q : Nat) : Nat → Int32
  | 0 => nI 10
  | k + 1 => if flM P q k < nI (flP P q k 20) then nI (10 * k + 10) else flB P q k
theorem set_lo {P lo : Nat → Nat} (h : LoOk P lo) {w x : Nat} (hw : w < 8) : LoOk (up P w x) lo := by
  intro j hj
  rw [up_n _ _ (show (8 : Nat) ≠ w by omega)] at hj
  rw [h j hj]
  exact low_congr (fun i _ => (up_n P x (show 46 + 4 * i + 1 ≠ w by omega)).symm)
theorem itF_lo {P lo : Nat → Nat} (hI : Inv P) (h : LoOk P lo) {k : Nat} (hk : P 16 + k ≤ 20000) : LoOk (itF P k) lo := by
  have g := (it_ok hI k hk).2.2
  have g8 := hI.1.1
  intro j hj
  rw [g 8 (by omega)] at hj
  rw [h j hj]
  exact low_congr (fun i hi => (g (46 + 4 * i + 1) (by omega)).symm)
theorem fl_inv {P : Nat → Nat} (hI : Inv P) {k : Nat} (hk : k < 50) : Inv (up P 3 (10 * k + 10)) := set_inv hI (by decide) (set_ok P (by decide) (show 1 ≤ 10 * k + 10 by omega) (show 10 * k + 10 ≤ 500 by omega) hI.2.1)
set_option maxRecDepth 100000 in
set_option maxHeartbeats 4000000 in
theorem c_X7_ifRunM (l : Launch) (G : KG) (ma hb xa ra : Nat → Nat) (pn pt : Nat → Nat → Nat) (P lo Qt lt : Nat → Nat) (hI : Inv P) (hlk : LoOk P lo) (x y : Int32) (hx : ¬ ((nI 1 ≤ x ∧ x ≤ nI 1000) ∧ nI 0 ≤ y ∧ y ≤ nI 6)) : MetI l yX7_ifRun wsX7_ifRun 6 G (plateW G pn P lo ++ (mainW G ma ((pn 0) 0) ((pt 0) 0) (hb 0) (xa 0) (ra 0) ++ (plateW G pt Qt lt))) [.ref (ma 0), .int x, .int y] (fun r v => r = -1 ∧ v = plateW G pn P lo ++ (mainW G ma ((pn 0) 0) ((pt 0) 0) (hb 0) (xa 0) (ra 0) ++ (plateW G pt Qt lt))) := by
  refine MetI.by (cc := cX7_ifRun) (nL := 3) (ret := some .int) (by decide +kernel) rfl (Nat.le_of_ble_eq_true rfl) ?_
  intro p e s m args below meth c F w ls hl
  have hl : lv_has ls 3 [(0, .ref (ma 0)), (1, .int x), (2, .int y)] := hl
  have hts := F.ts
  have hD := hI.d
  obtain ⟨b9, b11, b20, b12, b13, b25, b23⟩ := hD.bnd
  have h8 := hD.1.1
  have ht := hD.1.top_le
  have h16 := hI.2.2.2.2.2.2.1
  refine lv_iload_n F.1 F.2.1 dX7_ifRun_0 rfl (lv_at hl 1 rfl) ?_
  refine lv_iconst (v := nI 1) F.1 F.2.1 dX7_ifRun_1 (by decide) ?_
  refine lv_icmp_lt (tgt := 22) F.1 F.2.1 dX7_ifRun_2 (by decide) (fun c2 => ?_) (fun c2 => ?_)
  · skip
    refine lv_iconst (v := (-1)) F.1 F.2.1 dX7_ifRun_22 (by decide) ?_
    exact r_ireturn F w dX7_ifRun_23 (⟨rfl, rfl⟩)
  · skip
    refine lv_iload_n F.1 F.2.1 dX7_ifRun_5 rfl (lv_at hl 1 rfl) ?_
    refine lv_sipush (v := nI 1000) F.1 F.2.1 dX7_ifRun_6 (by decide) ?_
    refine lv_icmp_gt (tgt := 22) F.1 F.2.1 dX7_ifRun_9 (by decide) (fun c9 => ?_) (fun c9 => ?_)
    · skip
      refine lv_iconst (v := (-1)) F.1 F.2.1 dX7_ifRun_22 (by decide) ?_
      exact r_ireturn F w dX7_ifRun_23 (⟨rfl, rfl⟩)
    · skip
      refine lv_iload_n F.1 F.2.1 dX7_ifRun_12 rfl (lv_at hl 2 rfl) ?_
      refine lv_if_lt (tgt := 22) F.1 F.2.1 dX7_ifRun_13 (by decide) (fun c13 => ?_) (fun c13 => ?_)
      · skip
        refine lv_iconst (v := (-1)) F.1 F.2.1 dX7_ifRun_22 (by decide) ?_
        exact r_ireturn F w dX7_ifRun_23 (⟨rfl, rfl⟩)
      · skip
        refine lv_iload_n F.1 F.2.1 dX7_ifRun_16 rfl (lv_at hl 2 rfl) ?_
        refine lv_bipush (v := nI 6) F.1 F.2.1 dX7_ifRun_17 (by decide) ?_
        refine lv_icmp_le (tgt := 24) F.1 F.2.1 dX7_ifRun_19 (by decide) (fun c19 => ?_) (fun c19 => ?_)
        · exact absurd ⟨⟨Int32.not_lt.mp c2, Int32.not_lt.mp c9⟩, Int32.not_lt.mp c13, c19⟩ hx
        · skip
          refine lv_iconst (v := (-1)) F.1 F.2.1 dX7_ifRun_22 (by decide) ?_
          exact r_ireturn F w dX7_ifRun_23 (⟨rfl, rfl⟩)
set_option maxRecDepth 100000 in
set_option maxHeartbeats 4000000 in
theorem c_X7_ifRunZ (l : Launch) (G : KG) (ma hb xa ra : Nat → Nat) (pn pt : Nat → Nat → Nat) (P lo Qt lt : Nat → Nat) (hI : Inv P) (hlk : LoOk P lo) (q k : Nat) (hq : 1 ≤ q ∧ q ≤ 1000) (hk : k ≤ 6) (hz : 20000 < P 16 + q) : MetI l yX7_ifRun wsX7_ifRun 6 G (plateW G pn P lo ++ (mainW G ma ((pn 0) 0) ((pt 0) 0) (hb 0) (xa 0) (ra 0) ++ (plateW G pt Qt lt))) [.ref (ma 0), .int (nI q), .int (nI k)] (fun r v => r = -3 ∧ v = plateW G pn P lo ++ (mainW G ma ((pn 0) 0) ((pt 0) 0) (hb 0) (xa 0) (ra 0) ++ (plateW G pt Qt lt))) := by
  refine MetI.by (cc := cX7_ifRun) (nL := 3) (ret := some .int) (by decide +kernel) rfl (Nat.le_of_ble_eq_true rfl) ?_
  intro p e s m args below meth c F w ls hl
  have hl : lv_has ls 3 [(0, .ref (ma 0)), (1, .int (nI q)), (2, .int (nI k))] := hl
  have hts := F.ts
  have iX7 : ∀ w ∈ wsX70, w ∈ wsX7_ifRun := by decide +kernel
  have f10 := hts (.fieldLink RX7 10 "CoreMelter" "now" "LCoreMelter$Plate;") (by decide +kernel)
  have hD := hI.d
  obtain ⟨b9, b11, b20, b12, b13, b25, b23⟩ := hD.bnd
  have h8 := hD.1.1
  have ht := hD.1.top_le
  have h16 := hI.2.2.2.2.2.2.1
  refine lv_iload_n F.1 F.2.1 dX7_ifRun_0 rfl (lv_at hl 1 rfl) ?_
  refine lv_iconst (v := nI 1) F.1 F.2.1 dX7_ifRun_1 (by decide) ?_
  refine r_clt (tgt := 22) F dX7_ifRun_2 (by decide) (by omega) (by omega) (fun c2 => ?_) (fun c2 => ?_)
  · exact absurd c2 (by omega)
  · skip
    refine lv_iload_n F.1 F.2.1 dX7_ifRun_5 rfl (lv_at hl 1 rfl) ?_
    refine lv_sipush (v := nI 1000) F.1 F.2.1 dX7_ifRun_6 (by decide) ?_
    refine r_cgt (tgt := 22) F dX7_ifRun_9 (by decide) (by omega) (by omega) (fun c9 => ?_) (fun c9 => ?_)
    · exact absurd c9 (by omega)
    · skip
      refine lv_iload_n F.1 F.2.1 dX7_ifRun_12 rfl (lv_at hl 2 rfl) ?_
      refine r_zlt (tgt := 22) F dX7_ifRun_13 (by decide) (by omega) ?_
      refine lv_iload_n F.1 F.2.1 dX7_ifRun_16 rfl (lv_at hl 2 rfl) ?_
      refine lv_bipush (v := nI 6) F.1 F.2.1 dX7_ifRun_17 (by decide) ?_
      refine r_cle (tgt := 24) F dX7_ifRun_19 (by decide) (by omega) (by omega) (fun c19 => ?_) (fun c19 => ?_)
      · skip
        refine lv_iload_n F.1 F.2.1 dX7_ifRun_24 rfl (lv_at hl 1 rfl) ?_
        have w := w.is (ws' := plH G (pn 0) (pn 1) (pn 2) (pn 3) (fun k => P k) (fun k => P (19 + k)) (P 9) (P 10) (P 11) (P 12) (P 13) (toldF P) (watF P) (P 16) (P 17) (P 18) ++ (coreW G (pn 1) (P 8) (top P) (kdP P) (lnP P) (dnP P) (moP P) lo ++ (linesW G (pn 2) (fun k => P (26 + 5 * k)) (fun k => P (26 + 5 * k + 1)) (fun k => P (26 + 5 * k + 2)) (fun k => P (26 + 5 * k + 3)) (fun k => P (26 + 5 * k + 4)) ++ (vialsW G (pn 3) (P 14) (P 15) (fun k => P (126 + 3 * k)) (fun k => P (126 + 3 * k + 1)) (fun k => P (126 + 3 * k + 2)) ++ (mainW G ma ((pn 0) 0) ((pt 0) 0) (hb 0) (xa 0) (ra 0) ++ (plateW G pt Qt lt)))))) (plate_app)
        refine lv_aload_n F.1 F.2.1 dX7_ifRun_25 rfl (lv_at hl 0 rfl) ?_
        refine r_get F w 19 0 iX7 f10 rfl rfl rfl (by decide) rfl dX7_ifRun_26 ?_
        refine b_callVI (rest := [.int (nI q)]) (wr := coreW G (pn 1) (P 8) (top P) (kdP P) (lnP P) (dnP P) (moP P) lo ++ (linesW G (pn 2) (fun k => P (26 + 5 * k)) (fun k => P (26 + 5 * k + 1)) (fun k => P (26 + 5 * k + 2)) (fun k => P (26 + 5 * k + 3)) (fun k => P (26 + 5 * k + 4)) ++ (vialsW G (pn 3) (P 14) (P 15) (fun k => P (126 + 3 * k)) (fun k => P (126 + 3 * k + 1)) (fun k => P (126 + 3 * k + 2)) ++ (mainW G ma ((pn 0) 0) ((pt 0) 0) (hb 0) (xa 0) (ra 0) ++ (plateW G pt Qt lt))))) F w (c_X3_ticksLeft l G (pn 0) (pn 1) (pn 2) (pn 3) (fun k => P k) (fun k => P (19 + k)) (P 9) (P 10) (P 11) (P 12) (P 13) (toldF P) (watF P) (P 16) (P 17) (P 18)  (by omega)) rfl gX7_ifRun_X3_ticksLeft (nA0 := 0) rfl (by decide +kernel) rfl ⟨Nat.le_of_ble_eq_true rfl, Nat.le_of_ble_eq_true rfl⟩ ⟨Nat.le_of_ble_eq_true rfl, Nat.le_of_ble_eq_true rfl⟩ rfl rfl hl rfl (Nat.le_of_ble_eq_true rfl) dX7_ifRun_29 (fun r_29 w1 H locs hp w => ?_)
        obtain ⟨rfl, rfl⟩ := hp
        refine r_cle (tgt := 38) F dX7_ifRun_32 (by decide) (by omega) (by omega) (fun c32 => ?_) (fun c32 => ?_)
        · exact absurd c32 (by omega)
        · skip
          refine lv_bipush (v := (-3)) F.1 F.2.1 dX7_ifRun_35 (by decide) ?_
          have w := w.is (ws' := plateW G pn P lo ++ (mainW G ma ((pn 0) 0) ((pt 0) 0) (hb 0) (xa 0) (ra 0) ++ (plateW G pt Qt lt))) (plate_app.symm)
          exact r_ireturn F w dX7_ifRun_37 (⟨rfl, rfl⟩)
      · exact absurd c19 (by omega)
set_option maxRecDepth 100000 in
set_option maxHeartbeats 4000000 in
theorem c_X7_ifRunN (l : Launch) (G : KG) (ma hb xa ra : Nat → Nat) (pn pt : Nat → Nat → Nat) (P lo Qt lt : Nat → Nat) (hI : Inv P) (hlk : LoOk P lo) (q k : Nat) (hq : 1 ≤ q ∧ q ≤ 1000) (hk : k ≤ 6) (hz : P 16 + q ≤ 20000) : MetI l yX7_ifRun wsX7_ifRun 6 G (plateW G pn P lo ++ (mainW G ma ((pn 0) 0) ((pt 0) 0) (hb 0) (xa 0) (ra 0) ++ (plateW G pt Qt lt))) [.ref (ma 0), .int (nI q), .int (nI k)] (fun r v => r = ifN P q k ∧ v = plateW G pn P lo ++ (mainW G ma ((pn 0) 0) ((pt 0) 0) (hb 0) (xa 0) (ra 0) ++ (plateW G pt (itF P q) lo))) := by
  refine MetI.by (cc := cX7_ifRun) (nL := 3) (ret := some .int) (by decide +kernel) rfl (Nat.le_of_ble_eq_true rfl) ?_
  intro p e s m args below meth c F w ls hl
  have hl : lv_has ls 3 [(0, .ref (ma 0)), (1, .int (nI q)), (2, .int (nI k))] := hl
  have hts := F.ts
  have iX3 : ∀ w ∈ wsX30, w ∈ wsX7_ifRun := by decide +kernel
  have iX6 : ∀ w ∈ wsX60, w ∈ wsX7_ifRun := by decide +kernel
  have iX7 : ∀ w ∈ wsX70, w ∈ wsX7_ifRun := by decide +kernel
  have f10 := hts (.fieldLink RX7 10 "CoreMelter" "now" "LCoreMelter$Plate;") (by decide +kernel)
  have f16 := hts (.fieldLink RX7 16 "CoreMelter" "trial" "LCoreMelter$Plate;") (by decide +kernel)
  have f82 := hts (.fieldLink RX7 82 "CoreMelter$Plate" "front" "I") (by decide +kernel)
  have f117 := hts (.fieldLink RX7 117 "CoreMelter$Plate" "lines" "LCoreMelter$Lines;") (by decide +kernel)
  have f138 := hts (.fieldLink RX7 138 "CoreMelter$Plate" "told" "I") (by decide +kernel)
  have f153 := hts (.fieldLink RX7 153 "CoreMelter$Plate" "vials" "LCoreMelter$Vials;") (by decide +kernel)
  have f157 := hts (.fieldLink RX7 157 "CoreMelter$Vials" "sealed" "I") (by decide +kernel)
  have f171 := hts (.fieldLink RX7 171 "CoreMelter$Plate" "stopped" "I") (by decide +kernel)
  have f180 := hts (.fieldLink RX7 180 "CoreMelter$Plate" "accounts" "[I") (by decide +kernel)
  have hD := hI.d
  obtain ⟨b9, b11, b20, b12, b13, b25, b23⟩ := hD.bnd
  have h8 := hD.1.1
  have ht := hD.1.top_le
  have h16 := hI.2.2.2.2.2.2.1
  refine lv_iload_n F.1 F.2.1 dX7_ifRun_0 rfl (lv_at hl 1 rfl) ?_
  refine lv_iconst (v := nI 1) F.1 F.2.1 dX7_ifRun_1 (by decide) ?_
  refine r_clt (tgt := 22) F dX7_ifRun_2 (by decide) (by omega) (by omega) (fun c2 => ?_) (fun c2 => ?_)
  · exact absurd c2 (by omega)
  · skip
    refine lv_iload_n F.1 F.2.1 dX7_ifRun_5 rfl (lv_at hl 1 rfl) ?_
    refine lv_sipush (v := nI 1000) F.1 F.2.1 dX7_ifRun_6 (by decide) ?_
    refine r_cgt (tgt := 22) F dX7_ifRun_9 (by decide) (by omega) (by omega) (fun c9 => ?_) (fun c9 => ?_)
    · exact absurd c9 (by omega)
    · skip
      refine lv_iload_n F.1 F.2.1 dX7_ifRun_12 rfl (lv_at hl 2 rfl) ?_
      refine r_zlt (tgt := 22) F dX7_ifRun_13 (by decide) (by omega) ?_
      refine lv_iload_n F.1 F.2.1 dX7_ifRun_16 rfl (lv_at hl 2 rfl) ?_
      refine lv_bipush (v := nI 6) F.1 F.2.1 dX7_ifRun_17 (by decide) ?_
      refine r_cle (tgt := 24) F dX7_ifRun_19 (by decide) (by omega) (by omega) (fun c19 => ?_) (fun c19 => ?_)
      · skip
        refine lv_iload_n F.1 F.2.1 dX7_ifRun_24 rfl (lv_at hl 1 rfl) ?_
        have w := w.is (ws' := plH G (pn 0) (pn 1) (pn 2) (pn 3) (fun k => P k) (fun k => P (19 + k)) (P 9) (P 10) (P 11) (P 12) (P 13) (toldF P) (watF P) (P 16) (P 17) (P 18) ++ (coreW G (pn 1) (P 8) (top P) (kdP P) (lnP P) (dnP P) (moP P) lo ++ (linesW G (pn 2) (fun k => P (26 + 5 * k)) (fun k => P (26 + 5 * k + 1)) (fun k => P (26 + 5 * k + 2)) (fun k => P (26 + 5 * k + 3)) (fun k => P (26 + 5 * k + 4)) ++ (vialsW G (pn 3) (P 14) (P 15) (fun k => P (126 + 3 * k)) (fun k => P (126 + 3 * k + 1)) (fun k => P (126 + 3 * k + 2)) ++ (mainW G ma ((pn 0) 0) ((pt 0) 0) (hb 0) (xa 0) (ra 0) ++ (plateW G pt Qt lt)))))) (plate_app)
        refine lv_aload_n F.1 F.2.1 dX7_ifRun_25 rfl (lv_at hl 0 rfl) ?_
        refine r_get F w 19 0 iX7 f10 rfl rfl rfl (by decide) rfl dX7_ifRun_26 ?_
        refine b_callVI (rest := [.int (nI q)]) (wr := coreW G (pn 1) (P 8) (top P) (kdP P) (lnP P) (dnP P) (moP P) lo ++ (linesW G (pn 2) (fun k => P (26 + 5 * k)) (fun k => P (26 + 5 * k + 1)) (fun k => P (26 + 5 * k + 2)) (fun k => P (26 + 5 * k + 3)) (fun k => P (26 + 5 * k + 4)) ++ (vialsW G (pn 3) (P 14) (P 15) (fun k => P (126 + 3 * k)) (fun k => P (126 + 3 * k + 1)) (fun k => P (126 + 3 * k + 2)) ++ (mainW G ma ((pn 0) 0) ((pt 0) 0) (hb 0) (xa 0) (ra 0) ++ (plateW G pt Qt lt))))) F w (c_X3_ticksLeft l G (pn 0) (pn 1) (pn 2) (pn 3) (fun k => P k) (fun k => P (19 + k)) (P 9) (P 10) (P 11) (P 12) (P 13) (toldF P) (watF P) (P 16) (P 17) (P 18)  (by omega)) rfl gX7_ifRun_X3_ticksLeft (nA0 := 0) rfl (by decide +kernel) rfl ⟨Nat.le_of_ble_eq_true rfl, Nat.le_of_ble_eq_true rfl⟩ ⟨Nat.le_of_ble_eq_true rfl, Nat.le_of_ble_eq_true rfl⟩ rfl rfl hl rfl (Nat.le_of_ble_eq_true rfl) dX7_ifRun_29 (fun r_29 w1 H locs hp w => ?_)
        obtain ⟨rfl, rfl⟩ := hp
        refine r_cle (tgt := 38) F dX7_ifRun_32 (by decide) (by omega) (by omega) (fun c32 => ?_) (fun c32 => ?_)
        · skip
          have w := w.is (ws' := plateW G pn P lo ++ (mainW G ma ((pn 0) 0) ((pt 0) 0) (hb 0) (xa 0) (ra 0) ++ (plateW G pt Qt lt))) (plate_app.symm)
          refine lv_aload_n F.1 F.2.1 dX7_ifRun_38 rfl (lv_at hl 0 rfl) ?_
          refine r_get F w 19 1 iX7 f16 rfl rfl rfl (by decide) rfl dX7_ifRun_39 ?_
          refine lv_aload_n F.1 F.2.1 dX7_ifRun_42 rfl (lv_at hl 0 rfl) ?_
          refine r_get F w 19 0 iX7 f10 rfl rfl rfl (by decide) rfl dX7_ifRun_43 ?_
          have w := w.perm (ws' := plateW G pt Qt lt ++ (plateW G pn P lo ++ (mainW G ma ((pn 0) 0) ((pt 0) 0) (hb 0) (xa 0) (ra 0)))) ((List.Perm.append_left _ List.perm_append_comm).trans (List.perm_append_comm_assoc _ _ _))
          refine b_callVV (rest := []) (wr := mainW G ma ((pn 0) 0) ((pt 0) 0) (hb 0) (xa 0) (ra 0)) F w (c_X3_copyFromF l G pt Qt lt pn P lo) (List.append_assoc _ _ _).symm gX7_ifRun_X3_copyFrom (nA0 := 1) rfl (by decide +kernel) rfl ⟨Nat.le_of_ble_eq_true rfl, Nat.le_of_ble_eq_true rfl⟩ ⟨Nat.le_of_ble_eq_true rfl, Nat.le_of_ble_eq_true rfl⟩ rfl rfl hl rfl (Nat.le_of_ble_eq_true rfl) dX7_ifRun_46 (fun w1 H locs hp w => ?_)
          obtain rfl := hp
          have w := w.is (ws' := plateW G pt P lo ++ (plateW G pn P lo ++ (mainW G ma ((pn 0) 0) ((pt 0) 0) (hb 0) (xa 0) (ra 0)))) ((List.append_assoc _ _ _).symm).symm
          have w := w.perm (ws' := plateW G pn P lo ++ (mainW G ma ((pn 0) 0) ((pt 0) 0) (hb 0) (xa 0) (ra 0) ++ (plateW G pt P lo))) ((List.perm_append_comm_assoc _ _ _).trans (List.Perm.append_left _ List.perm_append_comm))
          refine lv_aload_n F.1 F.2.1 dX7_ifRun_49 rfl (lv_at hl 0 rfl) ?_
          refine r_get F w 19 1 iX7 f16 rfl rfl rfl (by decide) rfl dX7_ifRun_50 ?_
          refine lv_iload_n F.1 F.2.1 dX7_ifRun_53 rfl (lv_at hl 1 rfl) ?_
          have w := w.perm (ws' := plateW G pt P lo ++ (plateW G pn P lo ++ (mainW G ma ((pn 0) 0) ((pt 0) 0) (hb 0) (xa 0) (ra 0)))) ((List.Perm.append_left _ List.perm_append_comm).trans (List.perm_append_comm_assoc _ _ _))
          refine b_callVV (rest := []) (wr := plateW G pn P lo ++ (mainW G ma ((pn 0) 0) ((pt 0) 0) (hb 0) (xa 0) (ra 0))) F w (c_X3_pass l G pt P lo q hI hz hlk) rfl gX7_ifRun_X3_pass (nA0 := 1) rfl (by decide +kernel) rfl ⟨Nat.le_of_ble_eq_true rfl, Nat.le_of_ble_eq_true rfl⟩ ⟨Nat.le_of_ble_eq_true rfl, Nat.le_of_ble_eq_true rfl⟩ rfl rfl hl rfl (Nat.le_of_ble_eq_true rfl) dX7_ifRun_54 (fun w1 H locs hp w => ?_)
          obtain rfl := hp
          have w := w.perm (ws' := plateW G pn P lo ++ (mainW G ma ((pn 0) 0) ((pt 0) 0) (hb 0) (xa 0) (ra 0) ++ (plateW G pt (itF P q) lo))) ((List.perm_append_comm_assoc _ _ _).trans (List.Perm.append_left _ List.perm_append_comm))
          refine lv_iload_n F.1 F.2.1 dX7_ifRun_57 rfl (lv_at hl 2 rfl) ?_
          by_cases k58_0 : k = 0
          · refine r_swIn (k := nI 0) (tgt := 96) F dX7_ifRun_58 (congrArg nI k58_0) (by decide) (by decide) (off := 38) (by decide) (by decide) ?_
            refine lv_aload_n F.1 F.2.1 dX7_ifRun_96 rfl (lv_at hl 0 rfl) ?_
            refine r_get F w 19 1 iX7 f16 rfl rfl rfl (by decide) rfl dX7_ifRun_97 ?_
            refine r_get F w 20 10 iX3 f138 rfl rfl rfl (by decide) rfl dX7_ifRun_100 ?_
            exact r_ireturn F w dX7_ifRun_103 (⟨by subst k58_0; rfl, rfl⟩)
          by_cases k58_1 : k = 1
          · refine r_swIn (k := nI 1) (tgt := 104) F dX7_ifRun_58 (congrArg nI k58_1) (by decide) (by decide) (off := 46) (by decide) (by decide) ?_
            refine lv_aload_n F.1 F.2.1 dX7_ifRun_104 rfl (lv_at hl 0 rfl) ?_
            refine r_get F w 19 1 iX7 f16 rfl rfl rfl (by decide) rfl dX7_ifRun_105 ?_
            refine r_get F w 20 5 iX3 f82 rfl rfl rfl (by decide) rfl dX7_ifRun_108 ?_
            exact r_ireturn F w dX7_ifRun_111 (⟨by subst k58_1; rfl, rfl⟩)
          by_cases k58_2 : k = 2
          · refine r_swIn (k := nI 2) (tgt := 112) F dX7_ifRun_58 (congrArg nI k58_2) (by decide) (by decide) (off := 54) (by decide) (by decide) ?_
            refine lv_aload_n F.1 F.2.1 dX7_ifRun_112 rfl (lv_at hl 0 rfl) ?_
            refine r_get F w 19 1 iX7 f16 rfl rfl rfl (by decide) rfl dX7_ifRun_113 ?_
            refine r_get F w 20 4 iX3 f180 rfl rfl rfl (by decide) rfl dX7_ifRun_116 ?_
            refine lv_iconst (v := nI 1) F.1 F.2.1 dX7_ifRun_119 (by decide) ?_
            refine r_iald F w 22 rfl (by omega) (by decide) dX7_ifRun_120 ?_
            refine lv_aload_n F.1 F.2.1 dX7_ifRun_121 rfl (lv_at hl 0 rfl) ?_
            refine r_get F w 19 0 iX7 f10 rfl rfl rfl (by decide) rfl dX7_ifRun_122 ?_
            refine r_get F w 0 4 iX3 f180 rfl rfl rfl (by decide) rfl dX7_ifRun_125 ?_
            refine lv_iconst (v := nI 1) F.1 F.2.1 dX7_ifRun_128 (by decide) ?_
            refine r_iald F w 2 rfl (by omega) (by decide) dX7_ifRun_129 ?_
            refine lv_isub F.1 F.2.1 dX7_ifRun_130 ?_
            exact r_ireturn F w dX7_ifRun_131 (⟨by subst k58_2; rfl, rfl⟩)
          by_cases k58_3 : k = 3
          · refine r_swIn (k := nI 3) (tgt := 132) F dX7_ifRun_58 (congrArg nI k58_3) (by decide) (by decide) (off := 74) (by decide) (by decide) ?_
            refine lv_aload_n F.1 F.2.1 dX7_ifRun_132 rfl (lv_at hl 0 rfl) ?_
            refine r_get F w 19 1 iX7 f16 rfl rfl rfl (by decide) rfl dX7_ifRun_133 ?_
            refine r_get F w 20 4 iX3 f180 rfl rfl rfl (by decide) rfl dX7_ifRun_136 ?_
            refine lv_iconst (v := nI 2) F.1 F.2.1 dX7_ifRun_139 (by decide) ?_
            refine r_iald F w 22 rfl (by omega) (by decide) dX7_ifRun_140 ?_
            refine lv_aload_n F.1 F.2.1 dX7_ifRun_141 rfl (lv_at hl 0 rfl) ?_
            refine r_get F w 19 0 iX7 f10 rfl rfl rfl (by decide) rfl dX7_ifRun_142 ?_
            refine r_get F w 0 4 iX3 f180 rfl rfl rfl (by decide) rfl dX7_ifRun_145 ?_
            refine lv_iconst (v := nI 2) F.1 F.2.1 dX7_ifRun_148 (by decide) ?_
            refine r_iald F w 2 rfl (by omega) (by decide) dX7_ifRun_149 ?_
            refine lv_isub F.1 F.2.1 dX7_ifRun_150 ?_
            exact r_ireturn F w dX7_ifRun_151 (⟨by subst k58_3; rfl, rfl⟩)
          by_cases k58_4 : k = 4
          · refine r_swIn (k := nI 4) (tgt := 152) F dX7_ifRun_58 (congrArg nI k58_4) (by decide) (by decide) (off := 94) (by decide) (by decide) ?_
            refine lv_aload_n F.1 F.2.1 dX7_ifRun_152 rfl (lv_at hl 0 rfl) ?_
            refine r_get F w 19 1 iX7 f16 rfl rfl rfl (by decide) rfl dX7_ifRun_153 ?_
            refine r_get F w 20 2 iX3 f153 rfl rfl rfl (by decide) rfl dX7_ifRun_156 ?_
            refine r_get F w 35 0 iX6 f157 rfl rfl rfl (by decide) rfl dX7_ifRun_159 ?_
            refine lv_aload_n F.1 F.2.1 dX7_ifRun_162 rfl (lv_at hl 0 rfl) ?_
            refine r_get F w 19 0 iX7 f10 rfl rfl rfl (by decide) rfl dX7_ifRun_163 ?_
            refine r_get F w 0 2 iX3 f153 rfl rfl rfl (by decide) rfl dX7_ifRun_166 ?_
            refine r_get F w 15 0 iX6 f157 rfl rfl rfl (by decide) rfl dX7_ifRun_169 ?_
            refine lv_isub F.1 F.2.1 dX7_ifRun_172 ?_
            exact r_ireturn F w dX7_ifRun_173 (⟨by subst k58_4; rfl, rfl⟩)
          by_cases k58_5 : k = 5
          · refine r_swIn (k := nI 5) (tgt := 174) F dX7_ifRun_58 (congrArg nI k58_5) (by decide) (by decide) (off := 116) (by decide) (by decide) ?_
            refine lv_aload_n F.1 F.2.1 dX7_ifRun_174 rfl (lv_at hl 0 rfl) ?_
            refine r_get F w 19 1 iX7 f16 rfl rfl rfl (by decide) rfl dX7_ifRun_175 ?_
            have w := w.is (ws' := plateW G pn P lo ++ (mainW G ma ((pn 0) 0) ((pt 0) 0) (hb 0) (xa 0) (ra 0) ++ (plH G (pt 0) (pt 1) (pt 2) (pt 3) (fun k => (itF P q) k) (fun k => (itF P q) (19 + k)) ((itF P q) 9) ((itF P q) 10) ((itF P q) 11) ((itF P q) 12) ((itF P q) 13) (toldF (itF P q)) (watF (itF P q)) ((itF P q) 16) ((itF P q) 17) ((itF P q) 18) ++ (coreW G (pt 1) ((itF P q) 8) (top (itF P q)) (kdP (itF P q)) (lnP (itF P q)) (dnP (itF P q)) (moP (itF P q)) lo ++ (linesW G (pt 2) (fun k => (itF P q) (26 + 5 * k)) (fun k => (itF P q) (26 + 5 * k + 1)) (fun k => (itF P q) (26 + 5 * k + 2)) (fun k => (itF P q) (26 + 5 * k + 3)) (fun k => (itF P q) (26 + 5 * k + 4)) ++ (vialsW G (pt 3) ((itF P q) 14) ((itF P q) 15) (fun k => (itF P q) (126 + 3 * k)) (fun k => (itF P q) (126 + 3 * k + 1)) (fun k => (itF P q) (126 + 3 * k + 2)))))))) (rfl)
            refine r_get F w 20 1 iX3 f117 rfl rfl rfl (by decide) rfl dX7_ifRun_178 ?_
            have w := w.perm (ws' := linesW G (pt 2) (fun k => (itF P q) (26 + 5 * k)) (fun k => (itF P q) (26 + 5 * k + 1)) (fun k => (itF P q) (26 + 5 * k + 2)) (fun k => (itF P q) (26 + 5 * k + 3)) (fun k => (itF P q) (26 + 5 * k + 4)) ++ (plateW G pn P lo ++ (mainW G ma ((pn 0) 0) ((pt 0) 0) (hb 0) (xa 0) (ra 0) ++ (plH G (pt 0) (pt 1) (pt 2) (pt 3) (fun k => (itF P q) k) (fun k => (itF P q) (19 + k)) ((itF P q) 9) ((itF P q) 10) ((itF P q) 11) ((itF P q) 12) ((itF P q) 13) (toldF (itF P q)) (watF (itF P q)) ((itF P q) 16) ((itF P q) 17) ((itF P q) 18) ++ (coreW G (pt 1) ((itF P q) 8) (top (itF P q)) (kdP (itF P q)) (lnP (itF P q)) (dnP (itF P q)) (moP (itF P q)) lo ++ (vialsW G (pt 3) ((itF P q) 14) ((itF P q) 15) (fun k => (itF P q) (126 + 3 * k)) (fun k => (itF P q) (126 + 3 * k + 1)) (fun k => (itF P q) (126 + 3 * k + 2)))))))) ((List.Perm.append_left _ ((List.Perm.append_left _ ((List.Perm.append_left _ (List.perm_append_comm_assoc _ _ _)).trans (List.perm_append_comm_assoc _ _ _))).trans (List.perm_append_comm_assoc _ _ _))).trans (List.perm_append_comm_assoc _ _ _))
            refine b_callVI (rest := []) (wr := plateW G pn P lo ++ (mainW G ma ((pn 0) 0) ((pt 0) 0) (hb 0) (xa 0) (ra 0) ++ (plH G (pt 0) (pt 1) (pt 2) (pt 3) (fun k => (itF P q) k) (fun k => (itF P q) (19 + k)) ((itF P q) 9) ((itF P q) 10) ((itF P q) 11) ((itF P q) 12) ((itF P q) 13) (toldF (itF P q)) (watF (itF P q)) ((itF P q) 16) ((itF P q) 17) ((itF P q) 18) ++ (coreW G (pt 1) ((itF P q) 8) (top (itF P q)) (kdP (itF P q)) (lnP (itF P q)) (dnP (itF P q)) (moP (itF P q)) lo ++ (vialsW G (pt 3) ((itF P q) 14) ((itF P q) 15) (fun k => (itF P q) (126 + 3 * k)) (fun k => (itF P q) (126 + 3 * k + 1)) (fun k => (itF P q) (126 + 3 * k + 2))))))) F w (c_X2_stuckOnes l G (pt 2) (fun k => (itF P q) (26 + 5 * k)) (fun k => (itF P q) (26 + 5 * k + 1)) (fun k => (itF P q) (26 + 5 * k + 2)) (fun k => (itF P q) (26 + 5 * k + 3)) (fun k => (itF P q) (26 + 5 * k + 4))  ) rfl gX7_ifRun_X2_stuckOnes (nA0 := 0) rfl (by decide +kernel) rfl ⟨Nat.le_of_ble_eq_true rfl, Nat.le_of_ble_eq_true rfl⟩ ⟨Nat.le_of_ble_eq_true rfl, Nat.le_of_ble_eq_true rfl⟩ rfl rfl hl rfl (Nat.le_of_ble_eq_true rfl) dX7_ifRun_181 (fun r_181 w1 H locs hp w => ?_)
            obtain ⟨rfl, rfl⟩ := hp
            have w := w.perm (ws' := plateW G pn P lo ++ (mainW G ma ((pn 0) 0) ((pt 0) 0) (hb 0) (xa 0) (ra 0) ++ (plH G (pt 0) (pt 1) (pt 2) (pt 3) (fun k => (itF P q) k) (fun k => (itF P q) (19 + k)) ((itF P q) 9) ((itF P q) 10) ((itF P q) 11) ((itF P q) 12) ((itF P q) 13) (toldF (itF P q)) (watF (itF P q)) ((itF P q) 16) ((itF P q) 17) ((itF P q) 18) ++ (coreW G (pt 1) ((itF P q) 8) (top (itF P q)) (kdP (itF P q)) (lnP (itF P q)) (dnP (itF P q)) (moP (itF P q)) lo ++ (linesW G (pt 2) (fun k => (itF P q) (26 + 5 * k)) (fun k => (itF P q) (26 + 5 * k + 1)) (fun k => (itF P q) (26 + 5 * k + 2)) (fun k => (itF P q) (26 + 5 * k + 3)) (fun k => (itF P q) (26 + 5 * k + 4)) ++ (vialsW G (pt 3) ((itF P q) 14) ((itF P q) 15) (fun k => (itF P q) (126 + 3 * k)) (fun k => (itF P q) (126 + 3 * k + 1)) (fun k => (itF P q) (126 + 3 * k + 2)))))))) ((List.perm_append_comm_assoc _ _ _).trans (List.Perm.append_left _ ((List.perm_append_comm_assoc _ _ _).trans (List.Perm.append_left _ ((List.perm_append_comm_assoc _ _ _).trans (List.Perm.append_left _ (List.perm_append_comm_assoc _ _ _)))))))
            have w := w.is (ws' := plateW G pn P lo ++ (mainW G ma ((pn 0) 0) ((pt 0) 0) (hb 0) (xa 0) (ra 0) ++ (plateW G pt (itF P q) lo))) (rfl)
            exact r_ireturn F w dX7_ifRun_184 (⟨by subst k58_5; exact congrArg nI (by simp [low, stuckN]), rfl⟩)
          refine r_swOutN (tgt := 185) F dX7_ifRun_58 (by omega) (by omega) (by decide) ?_
          refine lv_aload_n F.1 F.2.1 dX7_ifRun_185 rfl (lv_at hl 0 rfl) ?_
          refine r_get F w 19 1 iX7 f16 rfl rfl rfl (by decide) rfl dX7_ifRun_186 ?_
          refine r_get F w 20 14 iX3 f171 rfl rfl rfl (by decide) rfl dX7_ifRun_189 ?_
          refine lv_aload_n F.1 F.2.1 dX7_ifRun_192 rfl (lv_at hl 0 rfl) ?_
          refine r_get F w 19 0 iX7 f10 rfl rfl rfl (by decide) rfl dX7_ifRun_193 ?_
          refine r_get F w 0 14 iX3 f171 rfl rfl rfl (by decide) rfl dX7_ifRun_196 ?_
          refine lv_isub F.1 F.2.1 dX7_ifRun_199 ?_
          exact r_ireturn F w dX7_ifRun_200 (⟨by unfold ifN; rw [if_neg k58_0, if_neg k58_1, if_neg k58_2, if_neg k58_3, if_neg k58_4, if_neg k58_5], rfl⟩)
        · exact absurd c32 (by omega)
      · exact absurd c19 (by omega)
set_option maxRecDepth 100000 in
set_option maxHeartbeats 4000000 in
theorem c_X7_ticksToM (l : Launch) (G : KG) (ma hb xa ra : Nat → Nat) (pn pt : Nat → Nat → Nat) (P lo Qt lt : Nat → Nat) (hI : Inv P) (hlk : LoOk P lo) (x : Int32) (hx : x < 0) : MetI l yX7_ticksTo wsX7_ticksTo 6 G (plateW G pn P lo ++ (mainW G ma ((pn 0) 0) ((pt 0) 0) (hb 0) (xa 0) (ra 0) ++ (plateW G pt Qt lt))) [.ref (ma 0), .int x] (fun r v => r = -1 ∧ v = plateW G pn P lo ++ (mainW G ma ((pn 0) 0) ((pt 0) 0) (hb 0) (xa 0) (ra 0) ++ (plateW G pt Qt lt))) := by
  refine MetI.by (cc := cX7_ticksTo) (nL := 4) (ret := some .int) (by decide +kernel) rfl (Nat.le_of_ble_eq_true rfl) ?_
  intro p e s m args below meth c F w ls hl
  have hl : lv_has ls 4 [(0, .ref (ma 0)), (1, .int x)] := hl
  have hts := F.ts
  have hD := hI.d
  obtain ⟨b9, b11, b20, b12, b13, b25, b23⟩ := hD.bnd
  have h8 := hD.1.1
  have ht := hD.1.top_le
  have h16 := hI.2.2.2.2.2.2.1
  refine lv_iload_n F.1 F.2.1 dX7_ticksTo_0 rfl (lv_at hl 1 rfl) ?_
  refine lv_if_ge (tgt := 6) F.1 F.2.1 dX7_ticksTo_1 (by decide) (fun c1 => ?_) (fun c1 => ?_)
  · exact absurd hx (Int32.not_lt.mpr c1)
  · skip
    refine lv_iconst (v := (-1)) F.1 F.2.1 dX7_ticksTo_4 (by decide) ?_
    exact r_ireturn F w dX7_ticksTo_5 (⟨rfl, rfl⟩)
set_option maxRecDepth 100000 in
set_option maxHeartbeats 4000000 in
theorem c_X7_ticksToN (l : Launch) (G : KG) (ma hb xa ra : Nat → Nat) (pn pt : Nat → Nat → Nat) (P lo Qt lt : Nat → Nat) (hI : Inv P) (hlk : LoOk P lo) (d : Nat) (hd : d < 2 ^ 31) : MetI l yX7_ticksTo wsX7_ticksTo 6 G (plateW G pn P lo ++ (mainW G ma ((pn 0) 0) ((pt 0) 0) (hb 0) (xa 0) (ra 0) ++ (plateW G pt Qt lt))) [.ref (ma 0), .int (nI d)] (fun r v => r = ticksN P d ∧ v = plateW G pn P lo ++ (mainW G ma ((pn 0) 0) ((pt 0) 0) (hb 0) (xa 0) (ra 0) ++ (plateW G pt (itF P (toN P d)) lo))) := by
  refine MetI.by (cc := cX7_ticksTo) (nL := 4) (ret := some .int) (by decide +kernel) rfl (Nat.le_of_ble_eq_true rfl) ?_
  intro p e s m args below meth c F w ls hl
  have hl : lv_has ls 4 [(0, .ref (ma 0)), (1, .int (nI d))] := hl
  have hts := F.ts
  have iX3 : ∀ w ∈ wsX30, w ∈ wsX7_ticksTo := by decide +kernel
  have iX7 : ∀ w ∈ wsX70, w ∈ wsX7_ticksTo := by decide +kernel
  have f10 := hts (.fieldLink RX7 10 "CoreMelter" "now" "LCoreMelter$Plate;") (by decide +kernel)
  have f16 := hts (.fieldLink RX7 16 "CoreMelter" "trial" "LCoreMelter$Plate;") (by decide +kernel)
  have f138 := hts (.fieldLink RX7 138 "CoreMelter$Plate" "told" "I") (by decide +kernel)
  have f165 := hts (.fieldLink RX7 165 "CoreMelter$Plate" "ticks" "I") (by decide +kernel)
  have hm1 := hts (.methodLink RX7 197 Lib.Math.min.name) (by decide +kernel)
  have hm2 := hts (.static Lib.Math.min.name) (by decide +kernel)
  have hm3 := hts (.initialized "java/lang/Math") (by decide +kernel)
  have hm4 := hts (.code Lib.Math.min.name Lib.Math.min.code 2 (some .int)) (by decide +kernel)
  have hD := hI.d
  obtain ⟨b9, b11, b20, b12, b13, b25, b23⟩ := hD.bnd
  have h8 := hD.1.1
  have ht := hD.1.top_le
  have h16 := hI.2.2.2.2.2.2.1
  refine lv_iload_n F.1 F.2.1 dX7_ticksTo_0 rfl (lv_at hl 1 rfl) ?_
  refine r_zge (tgt := 6) F dX7_ticksTo_1 (by decide) (by omega) ?_
  refine lv_sipush (v := nI 2000) F.1 F.2.1 dX7_ticksTo_6 (by decide) ?_
  refine lv_aload_n F.1 F.2.1 dX7_ticksTo_9 rfl (lv_at hl 0 rfl) ?_
  have w := w.is (ws' := plH G (pn 0) (pn 1) (pn 2) (pn 3) (fun k => P k) (fun k => P (19 + k)) (P 9) (P 10) (P 11) (P 12) (P 13) (toldF P) (watF P) (P 16) (P 17) (P 18) ++ (coreW G (pn 1) (P 8) (top P) (kdP P) (lnP P) (dnP P) (moP P) lo ++ (linesW G (pn 2) (fun k => P (26 + 5 * k)) (fun k => P (26 + 5 * k + 1)) (fun k => P (26 + 5 * k + 2)) (fun k => P (26 + 5 * k + 3)) (fun k => P (26 + 5 * k + 4)) ++ (vialsW G (pn 3) (P 14) (P 15) (fun k => P (126 + 3 * k)) (fun k => P (126 + 3 * k + 1)) (fun k => P (126 + 3 * k + 2)) ++ (mainW G ma ((pn 0) 0) ((pt 0) 0) (hb 0) (xa 0) (ra 0) ++ (plateW G pt Qt lt)))))) (plate_app)
  refine r_get F w 19 0 iX7 f10 rfl rfl rfl (by decide) rfl dX7_ticksTo_10 ?_
  refine b_callVI (rest := [.int (nI 2000)]) (wr := coreW G (pn 1) (P 8) (top P) (kdP P) (lnP P) (dnP P) (moP P) lo ++ (linesW G (pn 2) (fun k => P (26 + 5 * k)) (fun k => P (26 + 5 * k + 1)) (fun k => P (26 + 5 * k + 2)) (fun k => P (26 + 5 * k + 3)) (fun k => P (26 + 5 * k + 4)) ++ (vialsW G (pn 3) (P 14) (P 15) (fun k => P (126 + 3 * k)) (fun k => P (126 + 3 * k + 1)) (fun k => P (126 + 3 * k + 2)) ++ (mainW G ma ((pn 0) 0) ((pt 0) 0) (hb 0) (xa 0) (ra 0) ++ (plateW G pt Qt lt))))) F w (c_X3_ticksLeft l G (pn 0) (pn 1) (pn 2) (pn 3) (fun k => P k) (fun k => P (19 + k)) (P 9) (P 10) (P 11) (P 12) (P 13) (toldF P) (watF P) (P 16) (P 17) (P 18)  (by omega)) rfl gX7_ticksTo_X3_ticksLeft (nA0 := 0) rfl (by decide +kernel) rfl ⟨Nat.le_of_ble_eq_true rfl, Nat.le_of_ble_eq_true rfl⟩ ⟨Nat.le_of_ble_eq_true rfl, Nat.le_of_ble_eq_true rfl⟩ rfl rfl hl rfl (Nat.le_of_ble_eq_true rfl) dX7_ticksTo_13 (fun r_13 w1 H locs hp w => ?_)
  obtain ⟨rfl, rfl⟩ := hp
  refine r_min F hm1 hm2 hm3 hm4 (by decide) (Nat.le_of_ble_eq_true rfl) ⟨Nat.le_of_ble_eq_true rfl, Nat.le_of_ble_eq_true rfl⟩ (by decide) (by omega) hl dX7_ticksTo_16 ?_
  refine lv_istore_n (lv' := [(2, .int (nI (min 2000 (20000 - (P 16))))), (0, .ref (ma 0)), (1, .int (nI d))]) F.1 F.2.1 dX7_ticksTo_19 rfl hl (by decide) rfl (fun ls hl => ?_)
  have w := w.is (ws' := plateW G pn P lo ++ (mainW G ma ((pn 0) 0) ((pt 0) 0) (hb 0) (xa 0) (ra 0) ++ (plateW G pt Qt lt))) (plate_app.symm)
  refine lv_aload_n F.1 F.2.1 dX7_ticksTo_20 rfl (lv_at hl 1 rfl) ?_
  refine r_get F w 19 1 iX7 f16 rfl rfl rfl (by decide) rfl dX7_ticksTo_21 ?_
  refine lv_aload_n F.1 F.2.1 dX7_ticksTo_24 rfl (lv_at hl 1 rfl) ?_
  refine r_get F w 19 0 iX7 f10 rfl rfl rfl (by decide) rfl dX7_ticksTo_25 ?_
  have w := w.perm (ws' := plateW G pt Qt lt ++ (plateW G pn P lo ++ (mainW G ma ((pn 0) 0) ((pt 0) 0) (hb 0) (xa 0) (ra 0)))) ((List.Perm.append_left _ List.perm_append_comm).trans (List.perm_append_comm_assoc _ _ _))
  refine b_callVV (rest := []) (wr := mainW G ma ((pn 0) 0) ((pt 0) 0) (hb 0) (xa 0) (ra 0)) F w (c_X3_copyFromF l G pt Qt lt pn P lo) (List.append_assoc _ _ _).symm gX7_ticksTo_X3_copyFrom (nA0 := 1) rfl (by decide +kernel) rfl ⟨Nat.le_of_ble_eq_true rfl, Nat.le_of_ble_eq_true rfl⟩ ⟨Nat.le_of_ble_eq_true rfl, Nat.le_of_ble_eq_true rfl⟩ rfl rfl hl rfl (Nat.le_of_ble_eq_true rfl) dX7_ticksTo_28 (fun w1 H locs hp w => ?_)
  obtain rfl := hp
  have w := w.is (ws' := plateW G pt P lo ++ (plateW G pn P lo ++ (mainW G ma ((pn 0) 0) ((pt 0) 0) (hb 0) (xa 0) (ra 0)))) ((List.append_assoc _ _ _).symm).symm
  have w := w.perm (ws' := plateW G pn P lo ++ (mainW G ma ((pn 0) 0) ((pt 0) 0) (hb 0) (xa 0) (ra 0) ++ (plateW G pt P lo))) ((List.perm_append_comm_assoc _ _ _).trans (List.Perm.append_left _ List.perm_append_comm))
  refine lv_iconst (v := nI 0) F.1 F.2.1 dX7_ticksTo_31 (by decide) ?_
  refine lv_istore_n (lv' := [(3, .int (nI 0)), (2, .int (nI (min 2000 (20000 - (P 16))))), (0, .ref (ma 0)), (1, .int (nI d))]) F.1 F.2.1 dX7_ticksTo_32 rfl hl (by decide) rfl (fun ls hl => ?_)
  have L33 : ∀ n : Nat, ∀ (k : Nat), (k ≤ min 2000 (20000 - P 16)) → (∀ j, j < k → toldF (itF P j) < d) → min 2000 (20000 - P 16) - k < n → ∀ (H : Heap) (locs : List Loc), Wd G s (va_A (plateW G pn P lo ++ (mainW G ma ((pn 0) 0) ((pt 0) 0) (hb 0) (xa 0) (ra 0) ++ (plateW G pt Qt lt))) s.heap.size) (plateW G pn P lo ++ (mainW G ma ((pn 0) 0) ((pt 0) 0) (hb 0) (xa 0) (ra 0) ++ (plateW G pt (itF P k) lo))) H locs → ∀ ls : Array Slot, lv_has ls 4 [(0, .ref (ma 0)), (1, .int (nI d)), (2, .int (nI (min 2000 (20000 - P 16)))), (3, .int (nI k))] → W p l e (rmK 6 0 0) s m args below meth c H locs 0 0 (MQ below (QI G (plateW G pn P lo ++ (mainW G ma ((pn 0) 0) ((pt 0) 0) (hb 0) (xa 0) (ra 0) ++ (plateW G pt Qt lt))) s.heap.size (fun r v => r = ticksN P d ∧ v = plateW G pn P lo ++ (mainW G ma ((pn 0) 0) ((pt 0) 0) (hb 0) (xa 0) (ra 0) ++ (plateW G pt (itF P (toN P d)) lo)))) args s 0 0 (va_A (plateW G pn P lo ++ (mainW G ma ((pn 0) 0) ((pt 0) 0) (hb 0) (xa 0) (ra 0) ++ (plateW G pt Qt lt))) s.heap.size)) (F0 m 33 ls []) := by
    intro n
    induction n with
    | zero => intro k h1 h2 hm; exact absurd hm (Nat.not_lt_zero _)
    | succ n ih33 =>
      intro k h1 h2 hm33 H locs w ls hl
      refine lv_iload_n F.1 F.2.1 dX7_ticksTo_33 rfl (lv_at hl 3 rfl) ?_
      refine lv_iload_n F.1 F.2.1 dX7_ticksTo_34 rfl (lv_at hl 2 rfl) ?_
      obtain ⟨hIk, h16k⟩ := it_ok hI k (by omega)
      have htk := toldF_le (itF P k)
      have h9k := hIk.d.bnd.1
      refine r_cge (tgt := 62) F dX7_ticksTo_35 (by decide) (by omega) (by omega) (fun c35 => ?_) (fun c35 => ?_)
      · skip
        refine lv_aload_n F.1 F.2.1 dX7_ticksTo_62 rfl (lv_at hl 0 rfl) ?_
        refine r_get F w 19 1 iX7 f16 rfl rfl rfl (by decide) rfl dX7_ticksTo_63 ?_
        refine r_get F w 20 10 iX3 f138 rfl rfl rfl (by decide) rfl dX7_ticksTo_66 ?_
        refine lv_iload_n F.1 F.2.1 dX7_ticksTo_69 rfl (lv_at hl 1 rfl) ?_
        have hkk : k = toN P d := by first | exact (ft_at c35 h2 (Nat.not_lt.mp c46)).symm | (rw [show k = min 2000 (20000 - P 16) by omega] at h2 ⊢; exact (ft_all h2).symm)
        refine r_cge (tgt := 78) F dX7_ticksTo_70 (by decide) (by omega) (by omega) (fun c70 => ?_) (fun c70 => ?_)
        · skip
          refine lv_aload_n F.1 F.2.1 dX7_ticksTo_78 rfl (lv_at hl 0 rfl) ?_
          refine r_get F w 19 1 iX7 f16 rfl rfl rfl (by decide) rfl dX7_ticksTo_79 ?_
          refine r_get F w 20 12 iX3 f165 rfl rfl rfl (by decide) rfl dX7_ticksTo_82 ?_
          refine lv_aload_n F.1 F.2.1 dX7_ticksTo_85 rfl (lv_at hl 0 rfl) ?_
          refine r_get F w 19 0 iX7 f10 rfl rfl rfl (by decide) rfl dX7_ticksTo_86 ?_
          refine r_get F w 0 12 iX3 f165 rfl rfl rfl (by decide) rfl dX7_ticksTo_89 ?_
          refine r_isub F dX7_ticksTo_92 (by omega) ?_
          exact r_ireturn F w dX7_ticksTo_93 (⟨by unfold ticksN; rw [← hkk]; first | exact (if_pos c70).symm | (rw [if_neg c70]; exact congrArg nI (by omega)), by rw [hkk]⟩)
        · skip
          refine lv_bipush (v := (-4)) F.1 F.2.1 dX7_ticksTo_73 (by decide) ?_
          refine lv_goto (tgt := 93) F.1 F.2.1 dX7_ticksTo_75 (by decide) ?_
          exact r_ireturn F w dX7_ticksTo_93 (⟨by unfold ticksN; rw [← hkk]; first | exact (if_pos c70).symm | (rw [if_neg c70]; exact congrArg nI (by omega)), by rw [hkk]⟩)
      · skip
        refine lv_aload_n F.1 F.2.1 dX7_ticksTo_38 rfl (lv_at hl 0 rfl) ?_
        refine r_get F w 19 1 iX7 f16 rfl rfl rfl (by decide) rfl dX7_ticksTo_39 ?_
        refine r_get F w 20 10 iX3 f138 rfl rfl rfl (by decide) rfl dX7_ticksTo_42 ?_
        refine lv_iload_n F.1 F.2.1 dX7_ticksTo_45 rfl (lv_at hl 1 rfl) ?_
        refine r_cge (tgt := 62) F dX7_ticksTo_46 (by decide) (by omega) (by omega) (fun c46 => ?_) (fun c46 => ?_)
        · skip
          refine lv_aload_n F.1 F.2.1 dX7_ticksTo_62 rfl (lv_at hl 0 rfl) ?_
          refine r_get F w 19 1 iX7 f16 rfl rfl rfl (by decide) rfl dX7_ticksTo_63 ?_
          refine r_get F w 20 10 iX3 f138 rfl rfl rfl (by decide) rfl dX7_ticksTo_66 ?_
          refine lv_iload_n F.1 F.2.1 dX7_ticksTo_69 rfl (lv_at hl 1 rfl) ?_
          have hkk : k = toN P d := by first | exact (ft_at c35 h2 (Nat.not_lt.mp c46)).symm | (rw [show k = min 2000 (20000 - P 16) by omega] at h2 ⊢; exact (ft_all h2).symm)
          refine r_cge (tgt := 78) F dX7_ticksTo_70 (by decide) (by omega) (by omega) (fun c70 => ?_) (fun c70 => ?_)
          · skip
            refine lv_aload_n F.1 F.2.1 dX7_ticksTo_78 rfl (lv_at hl 0 rfl) ?_
            refine r_get F w 19 1 iX7 f16 rfl rfl rfl (by decide) rfl dX7_ticksTo_79 ?_
            refine r_get F w 20 12 iX3 f165 rfl rfl rfl (by decide) rfl dX7_ticksTo_82 ?_
            refine lv_aload_n F.1 F.2.1 dX7_ticksTo_85 rfl (lv_at hl 0 rfl) ?_
            refine r_get F w 19 0 iX7 f10 rfl rfl rfl (by decide) rfl dX7_ticksTo_86 ?_
            refine r_get F w 0 12 iX3 f165 rfl rfl rfl (by decide) rfl dX7_ticksTo_89 ?_
            refine r_isub F dX7_ticksTo_92 (by omega) ?_
            exact r_ireturn F w dX7_ticksTo_93 (⟨by unfold ticksN; rw [← hkk]; first | exact (if_pos c70).symm | (rw [if_neg c70]; exact congrArg nI (by omega)), by rw [hkk]⟩)
          · skip
            refine lv_bipush (v := (-4)) F.1 F.2.1 dX7_ticksTo_73 (by decide) ?_
            refine lv_goto (tgt := 93) F.1 F.2.1 dX7_ticksTo_75 (by decide) ?_
            exact r_ireturn F w dX7_ticksTo_93 (⟨by unfold ticksN; rw [← hkk]; first | exact (if_pos c70).symm | (rw [if_neg c70]; exact congrArg nI (by omega)), by rw [hkk]⟩)
        · skip
          refine lv_aload_n F.1 F.2.1 dX7_ticksTo_49 rfl (lv_at hl 0 rfl) ?_
          refine r_get F w 19 1 iX7 f16 rfl rfl rfl (by decide) rfl dX7_ticksTo_50 ?_
          have w := w.perm (ws' := plateW G pt (itF P k) lo ++ (plateW G pn P lo ++ (mainW G ma ((pn 0) 0) ((pt 0) 0) (hb 0) (xa 0) (ra 0)))) ((List.Perm.append_left _ List.perm_append_comm).trans (List.perm_append_comm_assoc _ _ _))
          refine b_callVV (rest := []) (wr := plateW G pn P lo ++ (mainW G ma ((pn 0) 0) ((pt 0) 0) (hb 0) (xa 0) (ra 0))) F w (c_X3_tick l G pt (itF P k) lo hIk (by omega) (itF_lo hI hlk (by omega))) rfl gX7_ticksTo_X3_tick (nA0 := 0) rfl (by decide +kernel) rfl ⟨Nat.le_of_ble_eq_true rfl, Nat.le_of_ble_eq_true rfl⟩ ⟨Nat.le_of_ble_eq_true rfl, Nat.le_of_ble_eq_true rfl⟩ rfl rfl hl rfl (Nat.le_of_ble_eq_true rfl) dX7_ticksTo_53 (fun w1 H locs hp w => ?_)
          obtain rfl := hp
          have w := w.perm (ws' := plateW G pn P lo ++ (mainW G ma ((pn 0) 0) ((pt 0) 0) (hb 0) (xa 0) (ra 0) ++ (plateW G pt (tickF (itF P k)) lo))) ((List.perm_append_comm_assoc _ _ _).trans (List.Perm.append_left _ List.perm_append_comm))
          refine lv_iinc (v := nI (k + 1)) (lv' := [(3, .int (nI (k + 1))), (0, .ref (ma 0)), (1, .int (nI d)), (2, .int (nI (min 2000 (20000 - P 16))))]) F.1 F.2.1 dX7_ticksTo_56 hl (k := 3) rfl (nI_add _ _) (by decide) rfl (fun ls hl => ?_)
          refine lv_goto (tgt := 33) F.1 F.2.1 dX7_ticksTo_59 (by decide) ?_
          exact ih33 (k + 1) (by omega) (fun j hj => by rcases Nat.lt_succ_iff_lt_or_eq.mp hj with q | q; exact h2 j q; rw [q]; exact c46) (by omega) _ _ w ls (lv_sub hl [1, 2, 3, 0] rfl)
  exact L33 _ 0 (Nat.zero_le _) (fun j hj => absurd hj (Nat.not_lt_zero _)) (Nat.lt_succ_self _) _ _ w ls (lv_sub hl [2, 3, 1, 0] rfl)
set_option maxRecDepth 100000 in
set_option maxHeartbeats 4000000 in
theorem c_X7_flowForM (l : Launch) (G : KG) (ma hb xa ra : Nat → Nat) (pn pt : Nat → Nat → Nat) (P lo Qt lt : Nat → Nat) (hI : Inv P) (hlk : LoOk P lo) (tl tm ti : Nat) (x : Int32) (hx : ¬ (nI 1 ≤ x ∧ x ≤ nI 300)) : MetIX l yX7_flowFor wsX7_flowFor 6 G (plateW G pn P lo ++ (mainW G ma ((pn 0) 0) ((pt 0) 0) (hb 0) (xa 0) (ra 0) ++ (plateW G pt Qt lt))) [.ref (ma 0), .int x] (tabX tl tm ti) (fun r v => r = -1 ∧ v = plateW G pn P lo ++ (mainW G ma ((pn 0) 0) ((pt 0) 0) (hb 0) (xa 0) (ra 0) ++ (plateW G pt Qt lt))) := by
  refine MetIX.by (cc := cX7_flowFor) (nL := 5) (ret := some .int) (by decide +kernel) rfl (Nat.le_of_ble_eq_true rfl) ?_
  intro p e s m args below meth c F hX w ls hl
  have hl : lv_has ls 5 [(0, .ref (ma 0)), (1, .int x)] := hl
  have hts := F.ts
  have hD := hI.d
  obtain ⟨b9, b11, b20, b12, b13, b25, b23⟩ := hD.bnd
  have h8 := hD.1.1
  have ht := hD.1.top_le
  have h16 := hI.2.2.2.2.2.2.1
  refine lv_iload_n F.1 F.2.1 dX7_flowFor_0 rfl (lv_at hl 1 rfl) ?_
  refine lv_iconst (v := nI 1) F.1 F.2.1 dX7_flowFor_1 (by decide) ?_
  refine lv_icmp_lt (tgt := 12) F.1 F.2.1 dX7_flowFor_2 (by decide) (fun c2 => ?_) (fun c2 => ?_)
  · skip
    refine lv_iconst (v := (-1)) F.1 F.2.1 dX7_flowFor_12 (by decide) ?_
    exact r_ireturn F w dX7_flowFor_13 (⟨rfl, rfl⟩)
  · skip
    refine lv_iload_n F.1 F.2.1 dX7_flowFor_5 rfl (lv_at hl 1 rfl) ?_
    refine lv_sipush (v := nI 300) F.1 F.2.1 dX7_flowFor_6 (by decide) ?_
    refine lv_icmp_le (tgt := 14) F.1 F.2.1 dX7_flowFor_9 (by decide) (fun c9 => ?_) (fun c9 => ?_)
    · exact absurd ⟨Int32.not_lt.mp c2, c9⟩ hx
    · skip
      refine lv_iconst (v := (-1)) F.1 F.2.1 dX7_flowFor_12 (by decide) ?_
      exact r_ireturn F w dX7_flowFor_13 (⟨rfl, rfl⟩)
set_option maxRecDepth 100000 in
set_option maxHeartbeats 4000000 in
theorem c_X7_flowForZ (l : Launch) (G : KG) (ma hb xa ra : Nat → Nat) (pn pt : Nat → Nat → Nat) (P lo Qt lt : Nat → Nat) (hI : Inv P) (hlk : LoOk P lo) (tl tm ti : Nat) (q : Nat) (hq : 1 ≤ q ∧ q ≤ 300) (hz : 20000 < P 16 + q) : MetIX l yX7_flowFor wsX7_flowFor 6 G (plateW G pn P lo ++ (mainW G ma ((pn 0) 0) ((pt 0) 0) (hb 0) (xa 0) (ra 0) ++ (plateW G pt Qt lt))) [.ref (ma 0), .int (nI q)] (tabX tl tm ti) (fun r v => r = -3 ∧ v = plateW G pn P lo ++ (mainW G ma ((pn 0) 0) ((pt 0) 0) (hb 0) (xa 0) (ra 0) ++ (plateW G pt Qt lt))) := by
  refine MetIX.by (cc := cX7_flowFor) (nL := 5) (ret := some .int) (by decide +kernel) rfl (Nat.le_of_ble_eq_true rfl) ?_
  intro p e s m args below meth c F hX w ls hl
  have hl : lv_has ls 5 [(0, .ref (ma 0)), (1, .int (nI q))] := hl
  have hts := F.ts
  have iX7 : ∀ w ∈ wsX70, w ∈ wsX7_flowFor := by decide +kernel
  have f10 := hts (.fieldLink RX7 10 "CoreMelter" "now" "LCoreMelter$Plate;") (by decide +kernel)
  have hD := hI.d
  obtain ⟨b9, b11, b20, b12, b13, b25, b23⟩ := hD.bnd
  have h8 := hD.1.1
  have ht := hD.1.top_le
  have h16 := hI.2.2.2.2.2.2.1
  refine lv_iload_n F.1 F.2.1 dX7_flowFor_0 rfl (lv_at hl 1 rfl) ?_
  refine lv_iconst (v := nI 1) F.1 F.2.1 dX7_flowFor_1 (by decide) ?_
  refine r_clt (tgt := 12) F dX7_flowFor_2 (by decide) (by omega) (by omega) (fun c2 => ?_) (fun c2 => ?_)
  · exact absurd c2 (by omega)
  · skip
    refine lv_iload_n F.1 F.2.1 dX7_flowFor_5 rfl (lv_at hl 1 rfl) ?_
    refine lv_sipush (v := nI 300) F.1 F.2.1 dX7_flowFor_6 (by decide) ?_
    refine r_cle (tgt := 14) F dX7_flowFor_9 (by decide) (by omega) (by omega) (fun c9 => ?_) (fun c9 => ?_)
    · skip
      refine lv_iload_n F.1 F.2.1 dX7_flowFor_14 rfl (lv_at hl 1 rfl) ?_
      have w := w.is (ws' := plH G (pn 0) (pn 1) (pn 2) (pn 3) (fun k => P k) (fun k => P (19 + k)) (P 9) (P 10) (P 11) (P 12) (P 13) (toldF P) (watF P) (P 16) (P 17) (P 18) ++ (coreW G (pn 1) (P 8) (top P) (kdP P) (lnP P) (dnP P) (moP P) lo ++ (linesW G (pn 2) (fun k => P (26 + 5 * k)) (fun k => P (26 + 5 * k + 1)) (fun k => P (26 + 5 * k + 2)) (fun k => P (26 + 5 * k + 3)) (fun k => P (26 + 5 * k + 4)) ++ (vialsW G (pn 3) (P 14) (P 15) (fun k => P (126 + 3 * k)) (fun k => P (126 + 3 * k + 1)) (fun k => P (126 + 3 * k + 2)) ++ (mainW G ma ((pn 0) 0) ((pt 0) 0) (hb 0) (xa 0) (ra 0) ++ (plateW G pt Qt lt)))))) (plate_app)
      refine lv_aload_n F.1 F.2.1 dX7_flowFor_15 rfl (lv_at hl 0 rfl) ?_
      refine r_get F w 19 0 iX7 f10 rfl rfl rfl (by decide) rfl dX7_flowFor_16 ?_
      refine b_callVI (rest := [.int (nI q)]) (wr := coreW G (pn 1) (P 8) (top P) (kdP P) (lnP P) (dnP P) (moP P) lo ++ (linesW G (pn 2) (fun k => P (26 + 5 * k)) (fun k => P (26 + 5 * k + 1)) (fun k => P (26 + 5 * k + 2)) (fun k => P (26 + 5 * k + 3)) (fun k => P (26 + 5 * k + 4)) ++ (vialsW G (pn 3) (P 14) (P 15) (fun k => P (126 + 3 * k)) (fun k => P (126 + 3 * k + 1)) (fun k => P (126 + 3 * k + 2)) ++ (mainW G ma ((pn 0) 0) ((pt 0) 0) (hb 0) (xa 0) (ra 0) ++ (plateW G pt Qt lt))))) F w (c_X3_ticksLeft l G (pn 0) (pn 1) (pn 2) (pn 3) (fun k => P k) (fun k => P (19 + k)) (P 9) (P 10) (P 11) (P 12) (P 13) (toldF P) (watF P) (P 16) (P 17) (P 18)  (by omega)) rfl gX7_flowFor_X3_ticksLeft (nA0 := 0) rfl (by decide +kernel) rfl ⟨Nat.le_of_ble_eq_true rfl, Nat.le_of_ble_eq_true rfl⟩ ⟨Nat.le_of_ble_eq_true rfl, Nat.le_of_ble_eq_true rfl⟩ rfl rfl hl rfl (Nat.le_of_ble_eq_true rfl) dX7_flowFor_19 (fun r_19 w1 H locs hp w => ?_)
      obtain ⟨rfl, rfl⟩ := hp
      refine r_cle (tgt := 28) F dX7_flowFor_22 (by decide) (by omega) (by omega) (fun c22 => ?_) (fun c22 => ?_)
      · exact absurd c22 (by omega)
      · skip
        refine lv_bipush (v := (-3)) F.1 F.2.1 dX7_flowFor_25 (by decide) ?_
        have w := w.is (ws' := plateW G pn P lo ++ (mainW G ma ((pn 0) 0) ((pt 0) 0) (hb 0) (xa 0) (ra 0) ++ (plateW G pt Qt lt))) (plate_app.symm)
        exact r_ireturn F w dX7_flowFor_27 (⟨rfl, rfl⟩)
    · exact absurd c9 (by omega)
set_option maxRecDepth 100000 in
set_option maxHeartbeats 4000000 in
theorem c_X7_flowForN (l : Launch) (G : KG) (ma hb xa ra : Nat → Nat) (pn pt : Nat → Nat → Nat) (P lo Qt lt : Nat → Nat) (hI : Inv P) (hlk : LoOk P lo) (tl tm ti : Nat) (q : Nat) (hq : 1 ≤ q ∧ q ≤ 300) (hz : P 16 + q ≤ 20000) : MetIX l yX7_flowFor wsX7_flowFor 6 G (plateW G pn P lo ++ (mainW G ma ((pn 0) 0) ((pt 0) 0) (hb 0) (xa 0) (ra 0) ++ (plateW G pt Qt lt))) [.ref (ma 0), .int (nI q)] (tabX tl tm ti) (fun r v => r = flB P q 50 ∧ ∃ Qt lt : Nat → Nat, v = plateW G pn P lo ++ (mainW G ma ((pn 0) 0) ((pt 0) 0) (hb 0) (xa 0) (ra 0) ++ (plateW G pt Qt lt))) := by
  refine MetIX.by (cc := cX7_flowFor) (nL := 5) (ret := some .int) (by decide +kernel) rfl (Nat.le_of_ble_eq_true rfl) ?_
  intro p e s m args below meth c F hX w ls hl
  have hl : lv_has ls 5 [(0, .ref (ma 0)), (1, .int (nI q))] := hl
  have hts := F.ts
  have iX3 : ∀ w ∈ wsX30, w ∈ wsX7_flowFor := by decide +kernel
  have iX7 : ∀ w ∈ wsX70, w ∈ wsX7_flowFor := by decide +kernel
  have f10 := hts (.fieldLink RX7 10 "CoreMelter" "now" "LCoreMelter$Plate;") (by decide +kernel)
  have f16 := hts (.fieldLink RX7 16 "CoreMelter" "trial" "LCoreMelter$Plate;") (by decide +kernel)
  have f109 := hts (.fieldLink RX7 109 "CoreMelter$Plate" "MOST" "[I") (by decide +kernel)
  have f112 := hts (.fieldLink RX7 112 "CoreMelter$Plate" "settings" "[I") (by decide +kernel)
  have f180 := hts (.fieldLink RX7 180 "CoreMelter$Plate" "accounts" "[I") (by decide +kernel)
  have hD := hI.d
  obtain ⟨b9, b11, b20, b12, b13, b25, b23⟩ := hD.bnd
  have h8 := hD.1.1
  have ht := hD.1.top_le
  have h16 := hI.2.2.2.2.2.2.1
  refine lv_iload_n F.1 F.2.1 dX7_flowFor_0 rfl (lv_at hl 1 rfl) ?_
  refine lv_iconst (v := nI 1) F.1 F.2.1 dX7_flowFor_1 (by decide) ?_
  refine r_clt (tgt := 12) F dX7_flowFor_2 (by decide) (by omega) (by omega) (fun c2 => ?_) (fun c2 => ?_)
  · exact absurd c2 (by omega)
  · skip
    refine lv_iload_n F.1 F.2.1 dX7_flowFor_5 rfl (lv_at hl 1 rfl) ?_
    refine lv_sipush (v := nI 300) F.1 F.2.1 dX7_flowFor_6 (by decide) ?_
    refine r_cle (tgt := 14) F dX7_flowFor_9 (by decide) (by omega) (by omega) (fun c9 => ?_) (fun c9 => ?_)
    · skip
      refine lv_iload_n F.1 F.2.1 dX7_flowFor_14 rfl (lv_at hl 1 rfl) ?_
      have w := w.is (ws' := plH G (pn 0) (pn 1) (pn 2) (pn 3) (fun k => P k) (fun k => P (19 + k)) (P 9) (P 10) (P 11) (P 12) (P 13) (toldF P) (watF P) (P 16) (P 17) (P 18) ++ (coreW G (pn 1) (P 8) (top P) (kdP P) (lnP P) (dnP P) (moP P) lo ++ (linesW G (pn 2) (fun k => P (26 + 5 * k)) (fun k => P (26 + 5 * k + 1)) (fun k => P (26 + 5 * k + 2)) (fun k => P (26 + 5 * k + 3)) (fun k => P (26 + 5 * k + 4)) ++ (vialsW G (pn 3) (P 14) (P 15) (fun k => P (126 + 3 * k)) (fun k => P (126 + 3 * k + 1)) (fun k => P (126 + 3 * k + 2)) ++ (mainW G ma ((pn 0) 0) ((pt 0) 0) (hb 0) (xa 0) (ra 0) ++ (plateW G pt Qt lt)))))) (plate_app)
      refine lv_aload_n F.1 F.2.1 dX7_flowFor_15 rfl (lv_at hl 0 rfl) ?_
      refine r_get F w 19 0 iX7 f10 rfl rfl rfl (by decide) rfl dX7_flowFor_16 ?_
      refine b_callVI (rest := [.int (nI q)]) (wr := coreW G (pn 1) (P 8) (top P) (kdP P) (lnP P) (dnP P) (moP P) lo ++ (linesW G (pn 2) (fun k => P (26 + 5 * k)) (fun k => P (26 + 5 * k + 1)) (fun k => P (26 + 5 * k + 2)) (fun k => P (26 + 5 * k + 3)) (fun k => P (26 + 5 * k + 4)) ++ (vialsW G (pn 3) (P 14) (P 15) (fun k => P (126 + 3 * k)) (fun k => P (126 + 3 * k + 1)) (fun k => P (126 + 3 * k + 2)) ++ (mainW G ma ((pn 0) 0) ((pt 0) 0) (hb 0) (xa 0) (ra 0) ++ (plateW G pt Qt lt))))) F w (c_X3_ticksLeft l G (pn 0) (pn 1) (pn 2) (pn 3) (fun k => P k) (fun k => P (19 + k)) (P 9) (P 10) (P 11) (P 12) (P 13) (toldF P) (watF P) (P 16) (P 17) (P 18)  (by omega)) rfl gX7_flowFor_X3_ticksLeft (nA0 := 0) rfl (by decide +kernel) rfl ⟨Nat.le_of_ble_eq_true rfl, Nat.le_of_ble_eq_true rfl⟩ ⟨Nat.le_of_ble_eq_true rfl, Nat.le_of_ble_eq_true rfl⟩ rfl rfl hl rfl (Nat.le_of_ble_eq_true rfl) dX7_flowFor_19 (fun r_19 w1 H locs hp w => ?_)
      obtain ⟨rfl, rfl⟩ := hp
      refine r_cle (tgt := 28) F dX7_flowFor_22 (by decide) (by omega) (by omega) (fun c22 => ?_) (fun c22 => ?_)
      · skip
        have w := w.is (ws' := plateW G pn P lo ++ (mainW G ma ((pn 0) 0) ((pt 0) 0) (hb 0) (xa 0) (ra 0) ++ (plateW G pt Qt lt))) (plate_app.symm)
        refine lv_bipush (v := nI 10) F.1 F.2.1 dX7_flowFor_28 (by decide) ?_
        refine lv_istore_n (lv' := [(2, .int (nI 10)), (0, .ref (ma 0)), (1, .int (nI q))]) F.1 F.2.1 dX7_flowFor_30 rfl hl (by decide) rfl (fun ls hl => ?_)
        refine lv_iconst (v := (-1)) F.1 F.2.1 dX7_flowFor_31 (by decide) ?_
        refine lv_istore_n (lv' := [(3, .int ((-1))), (2, .int (nI 10)), (0, .ref (ma 0)), (1, .int (nI q))]) F.1 F.2.1 dX7_flowFor_32 rfl hl (by decide) rfl (fun ls hl => ?_)
        refine lv_bipush (v := nI 10) F.1 F.2.1 dX7_flowFor_33 (by decide) ?_
        refine lv_istore (lv' := [(4, .int (nI 10)), (3, .int ((-1))), (2, .int (nI 10)), (0, .ref (ma 0)), (1, .int (nI q))]) F.1 F.2.1 dX7_flowFor_35 hl (by decide) rfl (fun ls hl => ?_)
        have L37 : ∀ n : Nat, ∀ (u : Nat) (Qk lk : Nat → Nat), (u ≤ 50) → 50 - u < n → ∀ (H : Heap) (locs : List Loc), Wd G s (va_A (plateW G pn P lo ++ (mainW G ma ((pn 0) 0) ((pt 0) 0) (hb 0) (xa 0) (ra 0) ++ (plateW G pt Qt lt))) s.heap.size) (plateW G pn P lo ++ (mainW G ma ((pn 0) 0) ((pt 0) 0) (hb 0) (xa 0) (ra 0) ++ (plateW G pt Qk lk))) H locs → ∀ ls : Array Slot, lv_has ls 5 [(0, .ref (ma 0)), (1, .int (nI q)), (2, .int (flB P q u)), (3, .int (flM P q u)), (4, .int (nI (10 * u + 10)))] → W p l e (rmK 6 0 0) s m args below meth c H locs 0 0 (MQ below (QI G (plateW G pn P lo ++ (mainW G ma ((pn 0) 0) ((pt 0) 0) (hb 0) (xa 0) (ra 0) ++ (plateW G pt Qt lt))) s.heap.size (fun r v => r = flB P q 50 ∧ ∃ Qt lt : Nat → Nat, v = plateW G pn P lo ++ (mainW G ma ((pn 0) 0) ((pt 0) 0) (hb 0) (xa 0) (ra 0) ++ (plateW G pt Qt lt)))) args s 0 0 (va_A (plateW G pn P lo ++ (mainW G ma ((pn 0) 0) ((pt 0) 0) (hb 0) (xa 0) (ra 0) ++ (plateW G pt Qt lt))) s.heap.size)) (F0 m 37 ls []) := by
          intro n
          induction n with
          | zero => intro u Qk lk h1 hm; exact absurd hm (Nat.not_lt_zero _)
          | succ n ih37 =>
            intro u Qk lk h1 hm37 H locs w ls hl
            refine lv_iload F.1 F.2.1 dX7_flowFor_37 (lv_at hl 4 rfl) ?_
            refine r_gets F w hX.2.1.1 f109 rfl dX7_flowFor_39 ?_
            refine lv_iconst (v := nI 3) F.1 F.2.1 dX7_flowFor_42 (by decide) ?_
            refine r_tald F w hX.2.1.2 (by omega) (by decide) dX7_flowFor_43 ?_
            have hm3 : mostF 3 = 500 := rfl
            refine r_cgt (tgt := 109) F dX7_flowFor_44 (by decide) (by omega) (by decide) (fun c44 => ?_) (fun c44 => ?_)
            · skip
              refine lv_iload_n F.1 F.2.1 dX7_flowFor_109 rfl (lv_at hl 2 rfl) ?_
              exact r_ireturn F w dX7_flowFor_110 (⟨by rw [show u = 50 by omega], Qk, lk, rfl⟩)
            · skip
              have hkI := fl_inv hI (k := u) (by omega)
              refine lv_aload_n F.1 F.2.1 dX7_flowFor_47 rfl (lv_at hl 0 rfl) ?_
              refine r_get F w 19 1 iX7 f16 rfl rfl rfl (by decide) rfl dX7_flowFor_48 ?_
              refine lv_aload_n F.1 F.2.1 dX7_flowFor_51 rfl (lv_at hl 0 rfl) ?_
              refine r_get F w 19 0 iX7 f10 rfl rfl rfl (by decide) rfl dX7_flowFor_52 ?_
              have w := w.perm (ws' := plateW G pt Qk lk ++ (plateW G pn P lo ++ (mainW G ma ((pn 0) 0) ((pt 0) 0) (hb 0) (xa 0) (ra 0)))) ((List.Perm.append_left _ List.perm_append_comm).trans (List.perm_append_comm_assoc _ _ _))
              refine b_callVV (rest := []) (wr := mainW G ma ((pn 0) 0) ((pt 0) 0) (hb 0) (xa 0) (ra 0)) F w (c_X3_copyFromF l G pt Qk lk pn P lo) (List.append_assoc _ _ _).symm gX7_flowFor_X3_copyFrom (nA0 := 1) rfl (by decide +kernel) rfl ⟨Nat.le_of_ble_eq_true rfl, Nat.le_of_ble_eq_true rfl⟩ ⟨Nat.le_of_ble_eq_true rfl, Nat.le_of_ble_eq_true rfl⟩ rfl rfl hl rfl (Nat.le_of_ble_eq_true rfl) dX7_flowFor_55 (fun w1 H locs hp w => ?_)
              obtain rfl := hp
              have w := w.is (ws' := plateW G pt P lo ++ (plateW G pn P lo ++ (mainW G ma ((pn 0) 0) ((pt 0) 0) (hb 0) (xa 0) (ra 0)))) ((List.append_assoc _ _ _).symm).symm
              have w := w.perm (ws' := plateW G pn P lo ++ (mainW G ma ((pn 0) 0) ((pt 0) 0) (hb 0) (xa 0) (ra 0) ++ (plateW G pt P lo))) ((List.perm_append_comm_assoc _ _ _).trans (List.Perm.append_left _ List.perm_append_comm))
              refine lv_aload_n F.1 F.2.1 dX7_flowFor_58 rfl (lv_at hl 0 rfl) ?_
              have w := w.is (ws' := plateW G pn P lo ++ (mainW G ma ((pn 0) 0) ((pt 0) 0) (hb 0) (xa 0) (ra 0) ++ (plH G (pt 0) (pt 1) (pt 2) (pt 3) (fun k => P k) (fun k => P (19 + k)) (P 9) (P 10) (P 11) (P 12) (P 13) (toldF P) (watF P) (P 16) (P 17) (P 18) ++ (coreW G (pt 1) (P 8) (top P) (kdP P) (lnP P) (dnP P) (moP P) lo ++ (linesW G (pt 2) (fun k => P (26 + 5 * k)) (fun k => P (26 + 5 * k + 1)) (fun k => P (26 + 5 * k + 2)) (fun k => P (26 + 5 * k + 3)) (fun k => P (26 + 5 * k + 4)) ++ (vialsW G (pt 3) (P 14) (P 15) (fun k => P (126 + 3 * k)) (fun k => P (126 + 3 * k + 1)) (fun k => P (126 + 3 * k + 2)))))))) (rfl)
              refine r_get F w 19 1 iX7 f16 rfl rfl rfl (by decide) rfl dX7_flowFor_59 ?_
              refine r_get F w 20 3 iX3 f112 rfl rfl rfl (by decide) rfl dX7_flowFor_62 ?_
              refine lv_iconst (v := nI 3) F.1 F.2.1 dX7_flowFor_65 (by decide) ?_
              refine lv_iload F.1 F.2.1 dX7_flowFor_66 (lv_at hl 4 rfl) ?_
              refine r_iast (ws' := plateW G pn P lo ++ (mainW G ma ((pn 0) 0) ((pt 0) 0) (hb 0) (xa 0) (ra 0) ++ (plH G (pt 0) (pt 1) (pt 2) (pt 3) (up (fun k => P k) 3 (10 * u + 10)) (fun k => P (19 + k)) (P 9) (P 10) (P 11) (P 12) (P 13) (toldF P) (watF P) (P 16) (P 17) (P 18) ++ (coreW G (pt 1) (P 8) (top P) (kdP P) (lnP P) (dnP P) (moP P) lo ++ (linesW G (pt 2) (fun k => P (26 + 5 * k)) (fun k => P (26 + 5 * k + 1)) (fun k => P (26 + 5 * k + 2)) (fun k => P (26 + 5 * k + 3)) (fun k => P (26 + 5 * k + 4)) ++ (vialsW G (pt 3) (P 14) (P 15) (fun k => P (126 + 3 * k)) (fun k => P (126 + 3 * k + 1)) (fun k => P (126 + 3 * k + 2)))))))) F w 21 rfl (by omega) (by decide) dX7_flowFor_68 rfl (fun H locs w => ?_)
              have w := w.eq (ws' := plateW G pn P lo ++ (mainW G ma ((pn 0) 0) ((pt 0) 0) (hb 0) (xa 0) (ra 0) ++ (plH G (pt 0) (pt 1) (pt 2) (pt 3) (fun k => (up P 3 (10 * u + 10)) k) (fun k => (up P 3 (10 * u + 10)) (19 + k)) ((up P 3 (10 * u + 10)) 9) ((up P 3 (10 * u + 10)) 10) ((up P 3 (10 * u + 10)) 11) ((up P 3 (10 * u + 10)) 12) ((up P 3 (10 * u + 10)) 13) (toldF (up P 3 (10 * u + 10))) (watF (up P 3 (10 * u + 10))) ((up P 3 (10 * u + 10)) 16) ((up P 3 (10 * u + 10)) 17) ((up P 3 (10 * u + 10)) 18) ++ (coreW G (pt 1) ((up P 3 (10 * u + 10)) 8) (top (up P 3 (10 * u + 10))) (kdP (up P 3 (10 * u + 10))) (lnP (up P 3 (10 * u + 10))) (dnP (up P 3 (10 * u + 10))) (moP (up P 3 (10 * u + 10))) lo ++ (linesW G (pt 2) (fun k => (up P 3 (10 * u + 10)) (26 + 5 * k)) (fun k => (up P 3 (10 * u + 10)) (26 + 5 * k + 1)) (fun k => (up P 3 (10 * u + 10)) (26 + 5 * k + 2)) (fun k => (up P 3 (10 * u + 10)) (26 + 5 * k + 3)) (fun k => (up P 3 (10 * u + 10)) (26 + 5 * k + 4)) ++ (vialsW G (pt 3) ((up P 3 (10 * u + 10)) 14) ((up P 3 (10 * u + 10)) 15) (fun k => (up P 3 (10 * u + 10)) (126 + 3 * k)) (fun k => (up P 3 (10 * u + 10)) (126 + 3 * k + 1)) (fun k => (up P 3 (10 * u + 10)) (126 + 3 * k + 2)))))))) (eqW.app (eqW.rf _) (eqW.app (eqW.rf _) (eqW.app (plH_eq (up_n _ _ (by omega)).symm (up_n _ _ (by omega)).symm (up_n _ _ (by omega)).symm (up_n _ _ (by omega)).symm (up_n _ _ (by omega)).symm (set_told h8 (show 3 < 8 by decide)).symm (set_watF h8 (show 3 < 8 by decide)).symm (up_n _ _ (by omega)).symm (up_n _ _ (by omega)).symm (up_n _ _ (by omega)).symm (fun j hj => rfl) (fun j hj => (up_n _ _ (by omega)).symm)) (eqW.app (coreW_eq (up_n _ _ (by omega)).symm (set_top (show 3 < 8 by decide)).symm (fun j hj => (up_n P (10 * u + 10) (show 46 + 4 * j ≠ 3 by omega)).symm) (fun j hj => (up_n P (10 * u + 10) (show 46 + 4 * j + 1 ≠ 3 by omega)).symm) (fun j hj => (up_n P (10 * u + 10) (show 46 + 4 * j + 2 ≠ 3 by omega)).symm) (fun j hj => (up_n P (10 * u + 10) (show 46 + 4 * j + 3 ≠ 3 by omega)).symm) (fun _ _ => rfl)) (eqW.app (linesW_eq (fun j hj => (up_n _ _ (by omega)).symm) (fun j hj => (up_n _ _ (by omega)).symm) (fun j hj => (up_n _ _ (by omega)).symm) (fun j hj => (up_n _ _ (by omega)).symm) (fun j hj => (up_n _ _ (by omega)).symm)) (vialsW_eq (up_n _ _ (by omega)).symm (up_n _ _ (by omega)).symm (fun j hj => (up_n _ _ (by omega)).symm) (fun j hj => (up_n _ _ (by omega)).symm) (fun j hj => (up_n _ _ (by omega)).symm)))))))
              have w := w.is (ws' := plateW G pn P lo ++ (mainW G ma ((pn 0) 0) ((pt 0) 0) (hb 0) (xa 0) (ra 0) ++ (plateW G pt (up P 3 (10 * u + 10)) lo))) (rfl)
              refine lv_aload_n F.1 F.2.1 dX7_flowFor_69 rfl (lv_at hl 0 rfl) ?_
              refine r_get F w 19 1 iX7 f16 rfl rfl rfl (by decide) rfl dX7_flowFor_70 ?_
              refine lv_iload_n F.1 F.2.1 dX7_flowFor_73 rfl (lv_at hl 1 rfl) ?_
              have w := w.perm (ws' := plateW G pt (up P 3 (10 * u + 10)) lo ++ (plateW G pn P lo ++ (mainW G ma ((pn 0) 0) ((pt 0) 0) (hb 0) (xa 0) (ra 0)))) ((List.Perm.append_left _ List.perm_append_comm).trans (List.perm_append_comm_assoc _ _ _))
              refine b_callVV (rest := []) (wr := plateW G pn P lo ++ (mainW G ma ((pn 0) 0) ((pt 0) 0) (hb 0) (xa 0) (ra 0))) F w (c_X3_pass l G pt (up P 3 (10 * u + 10)) lo q hkI (by rw [up_n _ _ (by decide)]; exact hz) (set_lo hlk (by decide))) rfl gX7_flowFor_X3_pass (nA0 := 1) rfl (by decide +kernel) rfl ⟨Nat.le_of_ble_eq_true rfl, Nat.le_of_ble_eq_true rfl⟩ ⟨Nat.le_of_ble_eq_true rfl, Nat.le_of_ble_eq_true rfl⟩ rfl rfl hl rfl (Nat.le_of_ble_eq_true rfl) dX7_flowFor_74 (fun w1 H locs hp w => ?_)
              obtain rfl := hp
              have w := w.perm (ws' := plateW G pn P lo ++ (mainW G ma ((pn 0) 0) ((pt 0) 0) (hb 0) (xa 0) (ra 0) ++ (plateW G pt (itF (up P 3 (10 * u + 10)) q) lo))) ((List.perm_append_comm_assoc _ _ _).trans (List.Perm.append_left _ List.perm_append_comm))
              have w := w.is (ws' := plateW G pn P lo ++ (mainW G ma ((pn 0) 0) ((pt 0) 0) (hb 0) (xa 0) (ra 0) ++ (plateW G pt (flP P q u) lo))) (rfl)
              refine lv_aload_n F.1 F.2.1 dX7_flowFor_77 rfl (lv_at hl 0 rfl) ?_
              refine r_get F w 19 1 iX7 f16 rfl rfl rfl (by decide) rfl dX7_flowFor_78 ?_
              refine r_get F w 20 4 iX3 f180 rfl rfl rfl (by decide) rfl dX7_flowFor_81 ?_
              refine lv_iconst (v := nI 1) F.1 F.2.1 dX7_flowFor_84 (by decide) ?_
              refine r_iald F w 22 rfl (by omega) (by decide) dX7_flowFor_85 ?_
              refine lv_iload_n F.1 F.2.1 dX7_flowFor_86 rfl (lv_at hl 3 rfl) ?_
              refine lv_icmp_le (tgt := 103) F.1 F.2.1 dX7_flowFor_87 (by decide) (fun c87 => ?_) (fun c87 => ?_)
              · skip
                have hl : lv_has ls 5 [(0, .ref (ma 0)), (1, .int (nI q)), (2, .int (flB P q (u + 1))), (3, .int (flM P q (u + 1))), (4, .int (nI (10 * u + 10)))] := by rw [show flB P q (u + 1) = flB P q u from if_neg (Int32.not_lt.mpr c87), show flM P q (u + 1) = flM P q u from if_neg (Int32.not_lt.mpr c87)]; exact hl
                refine lv_iinc (v := nI ((10 * u + 10) + 10)) (lv' := [(4, .int (nI ((10 * u + 10) + 10))), (0, .ref (ma 0)), (1, .int (nI q)), (2, .int (flB P q (u + 1))), (3, .int (flM P q (u + 1)))]) F.1 F.2.1 dX7_flowFor_103 hl (k := 4) rfl (nI_add _ _) (by decide) rfl (fun ls hl => ?_)
                refine lv_goto (tgt := 37) F.1 F.2.1 dX7_flowFor_106 (by decide) ?_
                exact ih37 (u + 1) (flP P q u) lo (by omega) (by omega) _ _ w ls (lv_sub hl [1, 2, 3, 4, 0] rfl)
              · skip
                refine lv_aload_n F.1 F.2.1 dX7_flowFor_90 rfl (lv_at hl 0 rfl) ?_
                refine r_get F w 19 1 iX7 f16 rfl rfl rfl (by decide) rfl dX7_flowFor_91 ?_
                refine r_get F w 20 4 iX3 f180 rfl rfl rfl (by decide) rfl dX7_flowFor_94 ?_
                refine lv_iconst (v := nI 1) F.1 F.2.1 dX7_flowFor_97 (by decide) ?_
                refine r_iald F w 22 rfl (by omega) (by decide) dX7_flowFor_98 ?_
                refine r_to (y := (flM P q (u + 1))) ((if_pos (Int32.not_le.mp c87)).symm) ?_
                refine lv_istore_n (lv' := [(3, .int (flM P q (u + 1))), (0, .ref (ma 0)), (1, .int (nI q)), (2, .int (flB P q u)), (4, .int (nI (10 * u + 10)))]) F.1 F.2.1 dX7_flowFor_99 rfl hl (by decide) rfl (fun ls hl => ?_)
                refine lv_iload F.1 F.2.1 dX7_flowFor_100 (lv_at hl 4 rfl) ?_
                refine r_to (y := (flB P q (u + 1))) ((if_pos (Int32.not_le.mp c87)).symm) ?_
                refine lv_istore_n (lv' := [(2, .int (flB P q (u + 1))), (3, .int (flM P q (u + 1))), (0, .ref (ma 0)), (1, .int (nI q)), (4, .int (nI (10 * u + 10)))]) F.1 F.2.1 dX7_flowFor_102 rfl hl (by decide) rfl (fun ls hl => ?_)
                
                refine lv_iinc (v := nI ((10 * u + 10) + 10)) (lv' := [(4, .int (nI ((10 * u + 10) + 10))), (2, .int (flB P q (u + 1))), (3, .int (flM P q (u + 1))), (0, .ref (ma 0)), (1, .int (nI q))]) F.1 F.2.1 dX7_flowFor_103 hl (k := 4) rfl (nI_add _ _) (by decide) rfl (fun ls hl => ?_)
                refine lv_goto (tgt := 37) F.1 F.2.1 dX7_flowFor_106 (by decide) ?_
                exact ih37 (u + 1) (flP P q u) lo (by omega) (by omega) _ _ w ls (lv_sub hl [3, 4, 1, 2, 0] rfl)
        exact L37 _ 0 Qt lt (Nat.zero_le _) (Nat.lt_succ_self _) _ _ w ls (lv_sub hl [3, 4, 2, 1, 0] rfl)
      · exact absurd c22 (by omega)
    · exact absurd c9 (by omega)

