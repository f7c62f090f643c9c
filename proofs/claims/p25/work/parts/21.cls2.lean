theorem up_id {f : Nat → Nat} {i x : Nat} (h : x = f i) : up f i x = f := by
  funext k
  unfold up
  by_cases e : k = i
  · rw [if_pos e, h, e]
  · rw [if_neg e]
theorem up_up (f : Nat → Nat) (i x y : Nat) : up (up f i x) i y = up f i y := by
  funext k
  unfold up
  by_cases e : k = i
  · rw [if_pos e, if_pos e]
  · rw [if_neg e, if_neg e, if_neg e]
/-- the first of n numbers that is greater than d; n if there is none -/
def fb (f : Nat → Nat) (d : Nat) : Nat → Nat
  | 0 => 0
  | n + 1 => if fb f d n < n then fb f d n else if f n ≤ d then n + 1 else n
theorem fb_all {f : Nat → Nat} {d : Nat} : ∀ {n : Nat}, (∀ j, j < n → f j ≤ d) → fb f d n = n
  | 0, _ => rfl
  | n + 1, h => by
    have h1 := fb_all (n := n) (fun j hj => h j (by omega))
    unfold fb
    rw [if_neg (by omega), if_pos (h n (by omega))]
theorem fb_at {f : Nat → Nat} {d i : Nat} : ∀ {n : Nat}, i < n → (∀ j, j < i → f j ≤ d) → d < f i → fb f d n = i
  | 0, hi, _, _ => absurd hi (Nat.not_lt_zero _)
  | n + 1, hi, h, hd => by
    unfold fb
    by_cases e : i = n
    · subst e
      rw [fb_all h, if_neg (Nat.lt_irrefl _), if_neg (by omega)]
    · have h1 := fb_at (n := n) (by omega) h hd
      rw [h1, if_pos (by omega)]
theorem fb_le (f : Nat → Nat) (d : Nat) : ∀ n, fb f d n ≤ n
  | 0 => Nat.le_refl _
  | n + 1 => by
    have := fb_le f d n
    unfold fb
    split
    · omega
    · split <;> omega
def gapB (g i lag : Nat) (q : Prop) [Decidable q] : Nat := if q then 1 else if g = 0 then 0 else if lag < g + 1 then 0 else g + 1
set_option maxRecDepth 100000 in
set_option maxHeartbeats 4000000 in
theorem c_J7_fill_53178 (l : Launch) (G : KG) (x q : Nat) (f : Nat → Nat) (v : Nat) (hq : q < 2 ^ 31) : MetV l yJ7_fill_53178 wsJ7_fill_53178 0 0 0 G (iA G x q f) [.ref x, .int (nI v)] (fun w => w = iA G x q (fun _ => v)) := by
  refine MetV.by (cc := cJ7_fill_53178) (nL := 4) (ret := none) (by decide +kernel) rfl (Nat.le_of_ble_eq_true rfl) ?_
  intro p e s m args below meth c F hname w ls hl
  have hl : lv_has ls 4 [(0, .ref x), (1, .int (nI v))] := hl
  have hts := F.ts
  refine lv_iconst (v := nI 0) F.1 F.2.1 dJ7_fill_53178_0 (by decide) ?_
  refine lv_istore_n (lv' := [(2, .int (nI 0)), (0, .ref x), (1, .int (nI v))]) F.1 F.2.1 dJ7_fill_53178_1 rfl hl (by decide) rfl (fun ls hl => ?_)
  refine lv_aload_n F.1 F.2.1 dJ7_fill_53178_2 rfl (lv_at hl 1 rfl) ?_
  refine r_alen F w 0 rfl dJ7_fill_53178_3 ?_
  refine lv_istore_n (lv' := [(3, .int (nI q)), (2, .int (nI 0)), (0, .ref x), (1, .int (nI v))]) F.1 F.2.1 dJ7_fill_53178_4 rfl hl (by decide) rfl (fun ls hl => ?_)
  have L5 : ∀ n : Nat, ∀ (k : Nat) (g : Nat → Nat), (k ≤ q) → (∀ j, j < k → g j = v) → q - k < n → ∀ (H : Heap) (locs : List Loc), Wd G s (va_A (iA G x q f) s.heap.size) (iA G x q g) H locs → ∀ ls : Array Slot, lv_has ls 4 [(0, .ref x), (1, .int (nI v)), (2, .int (nI k)), (3, .int (nI q))] → W p l e (rmK 0 0 0) s m args below meth c H locs 0 0 (MQ below (QV G (iA G x q f) s.heap.size (fun w => w = iA G x q (fun _ => v))) args s 0 0 (va_A (iA G x q f) s.heap.size)) (F0 m 5 ls []) := by
    intro n
    induction n with
    | zero => intro k g h1 h2 hm; exact absurd hm (Nat.not_lt_zero _)
    | succ n ih5 =>
      intro k g h1 h2 hm5 H locs w ls hl
      refine lv_iload_n F.1 F.2.1 dJ7_fill_53178_5 rfl (lv_at hl 2 rfl) ?_
      refine lv_iload_n F.1 F.2.1 dJ7_fill_53178_6 rfl (lv_at hl 3 rfl) ?_
      refine r_cge (tgt := 20) F dJ7_fill_53178_7 (by decide) (by omega) (by omega) (fun c7 => ?_) (fun c7 => ?_)
      · skip
        have w := w.eq (ws' := iA G x q (fun _ => v)) (⟨rfl, ⟨rfl, rfl, fun j hj => congrArg nI (h2 j (by omega))⟩, trivial⟩)
        exact r_return F w dJ7_fill_53178_20 (rfl)
      · skip
        refine lv_aload_n F.1 F.2.1 dJ7_fill_53178_10 rfl (lv_at hl 0 rfl) ?_
        refine lv_iload_n F.1 F.2.1 dJ7_fill_53178_11 rfl (lv_at hl 2 rfl) ?_
        refine lv_iload_n F.1 F.2.1 dJ7_fill_53178_12 rfl (lv_at hl 1 rfl) ?_
        refine r_iast (ws' := iA G x q (up g k v)) F w 0 rfl (by omega) hq dJ7_fill_53178_13 rfl (fun H locs w => ?_)
        refine lv_iinc (v := nI (k + 1)) (lv' := [(2, .int (nI (k + 1))), (0, .ref x), (1, .int (nI v)), (3, .int (nI q))]) F.1 F.2.1 dJ7_fill_53178_14 hl (k := 2) rfl (nI_add _ _) (by decide) rfl (fun ls hl => ?_)
        refine lv_goto (tgt := 5) F.1 F.2.1 dJ7_fill_53178_17 (by decide) ?_
        exact ih5 (k + 1) (up g k v) (by omega) (fun j hj => by unfold up; split; rfl; exact h2 j (by omega)) (by omega) _ _ w ls (lv_sub hl [1, 2, 0, 3] rfl)
  exact L5 _ 0 f (Nat.zero_le _) (fun j hj => absurd hj (Nat.not_lt_zero _)) (Nat.lt_succ_self _) _ _ w ls (lv_sub hl [2, 3, 1, 0] rfl)
set_option maxRecDepth 100000 in
set_option maxHeartbeats 4000000 in
theorem c_X2_beginAnew (l : Launch) (G : KG) (a st di ga dr wa : Nat → Nat) : MetV l yX2_beginAnew wsX2_beginAnew 1 0 0 G (linesW G a st di ga dr wa) [.ref (a 0)] (fun v => v = linesW G a (fun _ => 0) (fun _ => 0) (fun _ => 0) (fun _ => 0) (fun _ => 0)) := by
  refine MetV.by (cc := cX2_beginAnew) (nL := 1) (ret := none) (by decide +kernel) rfl (Nat.le_of_ble_eq_true rfl) ?_
  intro p e s m args below meth c F hname w ls hl
  have hl : lv_has ls 1 [(0, .ref (a 0))] := hl
  have hts := F.ts
  have iX2 : ∀ w ∈ wsX20, w ∈ wsX2_beginAnew := by decide +kernel
  have f9 := hts (.fieldLink RX2 9 "CoreMelter$Lines" "stuck" "[I") (by decide +kernel)
  have f13 := hts (.fieldLink RX2 13 "CoreMelter$Lines" "dirt" "[I") (by decide +kernel)
  have f16 := hts (.fieldLink RX2 16 "CoreMelter$Lines" "gap" "[I") (by decide +kernel)
  have f19 := hts (.fieldLink RX2 19 "CoreMelter$Lines" "drawn" "[I") (by decide +kernel)
  have f22 := hts (.fieldLink RX2 22 "CoreMelter$Lines" "wasted" "[I") (by decide +kernel)
  refine lv_aload_n F.1 F.2.1 dX2_beginAnew_0 rfl (lv_at hl 0 rfl) ?_
  refine r_get F w 0 0 iX2 f9 rfl rfl rfl (by decide) rfl dX2_beginAnew_1 ?_
  refine lv_iconst (v := nI 0) F.1 F.2.1 dX2_beginAnew_4 (by decide) ?_
  refine r_callSV (rest := []) F w (c_J7_fill_53178 l G (a 1) 4 st 0 (by decide)) gX2_beginAnew_J7_fill_53178 [1] [0, 2, 3, 4, 5] (nA0 := 2) rfl (by decide +kernel) rfl ⟨Nat.le_of_ble_eq_true rfl, Nat.le_of_ble_eq_true rfl⟩ ⟨Nat.le_of_ble_eq_true rfl, Nat.le_of_ble_eq_true rfl⟩ rfl rfl rfl rfl rfl hl rfl (Nat.le_of_ble_eq_true rfl) dX2_beginAnew_5 (fun w1 H locs hp w => ?_)
  obtain rfl := hp
  have w := w.sub (ws' := linesW G a (fun _ => 0) di ga dr wa) [0, 5, 1, 2, 3, 4] (by decide) rfl
  refine lv_aload_n F.1 F.2.1 dX2_beginAnew_8 rfl (lv_at hl 0 rfl) ?_
  refine r_get F w 0 1 iX2 f13 rfl rfl rfl (by decide) rfl dX2_beginAnew_9 ?_
  refine lv_iconst (v := nI 0) F.1 F.2.1 dX2_beginAnew_12 (by decide) ?_
  refine r_callSV (rest := []) F w (c_J7_fill_53178 l G (a 2) 4 di 0 (by decide)) gX2_beginAnew_J7_fill_53178 [2] [0, 1, 3, 4, 5] (nA0 := 2) rfl (by decide +kernel) rfl ⟨Nat.le_of_ble_eq_true rfl, Nat.le_of_ble_eq_true rfl⟩ ⟨Nat.le_of_ble_eq_true rfl, Nat.le_of_ble_eq_true rfl⟩ rfl rfl rfl rfl rfl hl rfl (Nat.le_of_ble_eq_true rfl) dX2_beginAnew_13 (fun w1 H locs hp w => ?_)
  obtain rfl := hp
  have w := w.sub (ws' := linesW G a (fun _ => 0) (fun _ => 0) ga dr wa) [0, 1, 5, 2, 3, 4] (by decide) rfl
  refine lv_aload_n F.1 F.2.1 dX2_beginAnew_16 rfl (lv_at hl 0 rfl) ?_
  refine r_get F w 0 2 iX2 f16 rfl rfl rfl (by decide) rfl dX2_beginAnew_17 ?_
  refine lv_iconst (v := nI 0) F.1 F.2.1 dX2_beginAnew_20 (by decide) ?_
  refine r_callSV (rest := []) F w (c_J7_fill_53178 l G (a 3) 4 ga 0 (by decide)) gX2_beginAnew_J7_fill_53178 [3] [0, 1, 2, 4, 5] (nA0 := 2) rfl (by decide +kernel) rfl ⟨Nat.le_of_ble_eq_true rfl, Nat.le_of_ble_eq_true rfl⟩ ⟨Nat.le_of_ble_eq_true rfl, Nat.le_of_ble_eq_true rfl⟩ rfl rfl rfl rfl rfl hl rfl (Nat.le_of_ble_eq_true rfl) dX2_beginAnew_21 (fun w1 H locs hp w => ?_)
  obtain rfl := hp
  have w := w.sub (ws' := linesW G a (fun _ => 0) (fun _ => 0) (fun _ => 0) dr wa) [0, 1, 2, 5, 3, 4] (by decide) rfl
  refine lv_aload_n F.1 F.2.1 dX2_beginAnew_24 rfl (lv_at hl 0 rfl) ?_
  refine r_get F w 0 3 iX2 f19 rfl rfl rfl (by decide) rfl dX2_beginAnew_25 ?_
  refine lv_iconst (v := nI 0) F.1 F.2.1 dX2_beginAnew_28 (by decide) ?_
  refine r_callSV (rest := []) F w (c_J7_fill_53178 l G (a 4) 4 dr 0 (by decide)) gX2_beginAnew_J7_fill_53178 [4] [0, 1, 2, 3, 5] (nA0 := 2) rfl (by decide +kernel) rfl ⟨Nat.le_of_ble_eq_true rfl, Nat.le_of_ble_eq_true rfl⟩ ⟨Nat.le_of_ble_eq_true rfl, Nat.le_of_ble_eq_true rfl⟩ rfl rfl rfl rfl rfl hl rfl (Nat.le_of_ble_eq_true rfl) dX2_beginAnew_29 (fun w1 H locs hp w => ?_)
  obtain rfl := hp
  have w := w.sub (ws' := linesW G a (fun _ => 0) (fun _ => 0) (fun _ => 0) (fun _ => 0) wa) [0, 1, 2, 3, 5, 4] (by decide) rfl
  refine lv_aload_n F.1 F.2.1 dX2_beginAnew_32 rfl (lv_at hl 0 rfl) ?_
  refine r_get F w 0 4 iX2 f22 rfl rfl rfl (by decide) rfl dX2_beginAnew_33 ?_
  refine lv_iconst (v := nI 0) F.1 F.2.1 dX2_beginAnew_36 (by decide) ?_
  refine r_callSV (rest := []) F w (c_J7_fill_53178 l G (a 5) 4 wa 0 (by decide)) gX2_beginAnew_J7_fill_53178 [5] [0, 1, 2, 3, 4] (nA0 := 2) rfl (by decide +kernel) rfl ⟨Nat.le_of_ble_eq_true rfl, Nat.le_of_ble_eq_true rfl⟩ ⟨Nat.le_of_ble_eq_true rfl, Nat.le_of_ble_eq_true rfl⟩ rfl rfl rfl rfl rfl hl rfl (Nat.le_of_ble_eq_true rfl) dX2_beginAnew_37 (fun w1 H locs hp w => ?_)
  obtain rfl := hp
  have w := w.sub (ws' := linesW G a (fun _ => 0) (fun _ => 0) (fun _ => 0) (fun _ => 0) (fun _ => 0)) [0, 1, 2, 3, 4, 5] (by decide) rfl
  exact r_return F w dX2_beginAnew_40 (rfl)
set_option maxRecDepth 100000 in
set_option maxHeartbeats 4000000 in
theorem c_X2_open (l : Launch) (G : KG) (a st di ga dr wa : Nat → Nat) (i : Nat) (hi : i < 4) : MetV l yX2_open wsX2_open 0 0 0 G (linesW G a st di ga dr wa) [.ref (a 0), .int (nI i)] (fun v => v = linesW G a (up st i 0) (up di i 0) (up ga i 0) dr wa) := by
  refine MetV.by (cc := cX2_open) (nL := 2) (ret := none) (by decide +kernel) rfl (Nat.le_of_ble_eq_true rfl) ?_
  intro p e s m args below meth c F hname w ls hl
  have hl : lv_has ls 2 [(0, .ref (a 0)), (1, .int (nI i))] := hl
  have hts := F.ts
  have iX2 : ∀ w ∈ wsX20, w ∈ wsX2_open := by decide +kernel
  have f9 := hts (.fieldLink RX2 9 "CoreMelter$Lines" "stuck" "[I") (by decide +kernel)
  have f13 := hts (.fieldLink RX2 13 "CoreMelter$Lines" "dirt" "[I") (by decide +kernel)
  have f16 := hts (.fieldLink RX2 16 "CoreMelter$Lines" "gap" "[I") (by decide +kernel)
  refine lv_aload_n F.1 F.2.1 dX2_open_0 rfl (lv_at hl 0 rfl) ?_
  refine r_get F w 0 0 iX2 f9 rfl rfl rfl (by decide) rfl dX2_open_1 ?_
  refine lv_iload_n F.1 F.2.1 dX2_open_4 rfl (lv_at hl 1 rfl) ?_
  refine lv_iconst (v := nI 0) F.1 F.2.1 dX2_open_5 (by decide) ?_
  refine r_iast (ws' := linesW G a (up st i 0) di ga dr wa) F w 1 rfl (by omega) (by decide) dX2_open_6 rfl (fun H locs w => ?_)
  refine lv_aload_n F.1 F.2.1 dX2_open_7 rfl (lv_at hl 0 rfl) ?_
  refine r_get F w 0 1 iX2 f13 rfl rfl rfl (by decide) rfl dX2_open_8 ?_
  refine lv_iload_n F.1 F.2.1 dX2_open_11 rfl (lv_at hl 1 rfl) ?_
  refine lv_iconst (v := nI 0) F.1 F.2.1 dX2_open_12 (by decide) ?_
  refine r_iast (ws' := linesW G a (up st i 0) (up di i 0) ga dr wa) F w 2 rfl (by omega) (by decide) dX2_open_13 rfl (fun H locs w => ?_)
  refine lv_aload_n F.1 F.2.1 dX2_open_14 rfl (lv_at hl 0 rfl) ?_
  refine r_get F w 0 2 iX2 f16 rfl rfl rfl (by decide) rfl dX2_open_15 ?_
  refine lv_iload_n F.1 F.2.1 dX2_open_18 rfl (lv_at hl 1 rfl) ?_
  refine lv_iconst (v := nI 0) F.1 F.2.1 dX2_open_19 (by decide) ?_
  refine r_iast (ws' := linesW G a (up st i 0) (up di i 0) (up ga i 0) dr wa) F w 3 rfl (by omega) (by decide) dX2_open_20 rfl (fun H locs w => ?_)
  exact r_return F w dX2_open_21 (rfl)
set_option maxRecDepth 100000 in
set_option maxHeartbeats 4000000 in
theorem c_X2_stuckOnes (l : Launch) (G : KG) (a st di ga dr wa : Nat → Nat) : MetI l yX2_stuckOnes wsX2_stuckOnes 0 G (linesW G a st di ga dr wa) [.ref (a 0)] (fun r v => r = nI (low st 4) ∧ v = linesW G a st di ga dr wa) := by
  refine MetI.by (cc := cX2_stuckOnes) (nL := 3) (ret := some .int) (by decide +kernel) rfl (Nat.le_of_ble_eq_true rfl) ?_
  intro p e s m args below meth c F w ls hl
  have hl : lv_has ls 3 [(0, .ref (a 0))] := hl
  have hts := F.ts
  have iX2 : ∀ w ∈ wsX20, w ∈ wsX2_stuckOnes := by decide +kernel
  have f9 := hts (.fieldLink RX2 9 "CoreMelter$Lines" "stuck" "[I") (by decide +kernel)
  refine lv_iconst (v := nI 0) F.1 F.2.1 dX2_stuckOnes_0 (by decide) ?_
  refine lv_istore_n (lv' := [(1, .int (nI 0)), (0, .ref (a 0))]) F.1 F.2.1 dX2_stuckOnes_1 rfl hl (by decide) rfl (fun ls hl => ?_)
  refine lv_iconst (v := nI 0) F.1 F.2.1 dX2_stuckOnes_2 (by decide) ?_
  refine lv_istore_n (lv' := [(2, .int (nI 0)), (1, .int (nI 0)), (0, .ref (a 0))]) F.1 F.2.1 dX2_stuckOnes_3 rfl hl (by decide) rfl (fun ls hl => ?_)
  have L4 : ∀ n : Nat, ∀ (k : Nat), (k ≤ 4) → 4 - k < n → ∀ (H : Heap) (locs : List Loc), Wd G s (va_A (linesW G a st di ga dr wa) s.heap.size) (linesW G a st di ga dr wa) H locs → ∀ ls : Array Slot, lv_has ls 3 [(0, .ref (a 0)), (1, .int (nI (low st k))), (2, .int (nI k))] → W p l e (rmK 0 0 0) s m args below meth c H locs 0 0 (MQ below (QI G (linesW G a st di ga dr wa) s.heap.size (fun r v => r = nI (low st 4) ∧ v = linesW G a st di ga dr wa)) args s 0 0 (va_A (linesW G a st di ga dr wa) s.heap.size)) (F0 m 4 ls []) := by
    intro n
    induction n with
    | zero => intro k h1 hm; exact absurd hm (Nat.not_lt_zero _)
    | succ n ih4 =>
      intro k h1 hm4 H locs w ls hl
      refine lv_iload_n F.1 F.2.1 dX2_stuckOnes_4 rfl (lv_at hl 2 rfl) ?_
      refine lv_iconst (v := nI 4) F.1 F.2.1 dX2_stuckOnes_5 (by decide) ?_
      refine r_cge (tgt := 24) F dX2_stuckOnes_6 (by decide) (by omega) (by omega) (fun c6 => ?_) (fun c6 => ?_)
      · skip
        refine lv_iload_n F.1 F.2.1 dX2_stuckOnes_24 rfl (lv_at hl 1 rfl) ?_
        exact r_ireturn F w dX2_stuckOnes_25 (⟨congrArg nI (by rw [show k = 4 by omega]), rfl⟩)
      · skip
        refine lv_iload_n F.1 F.2.1 dX2_stuckOnes_9 rfl (lv_at hl 1 rfl) ?_
        refine lv_aload_n F.1 F.2.1 dX2_stuckOnes_10 rfl (lv_at hl 0 rfl) ?_
        refine r_get F w 0 0 iX2 f9 rfl rfl rfl (by decide) rfl dX2_stuckOnes_11 ?_
        refine lv_iload_n F.1 F.2.1 dX2_stuckOnes_14 rfl (lv_at hl 2 rfl) ?_
        refine r_iald F w 1 rfl (by omega) (by decide) dX2_stuckOnes_15 ?_
        refine r_iadd F dX2_stuckOnes_16 ?_
        refine lv_istore_n (lv' := [(1, .int (nI ((low st k) + (st k)))), (0, .ref (a 0)), (2, .int (nI k))]) F.1 F.2.1 dX2_stuckOnes_17 rfl hl (by decide) rfl (fun ls hl => ?_)
        refine lv_iinc (v := nI (k + 1)) (lv' := [(2, .int (nI (k + 1))), (1, .int (nI ((low st k) + (st k)))), (0, .ref (a 0))]) F.1 F.2.1 dX2_stuckOnes_18 hl (k := 2) rfl (nI_add _ _) (by decide) rfl (fun ls hl => ?_)
        refine lv_goto (tgt := 4) F.1 F.2.1 dX2_stuckOnes_21 (by decide) ?_
        exact ih4 (k + 1) (by omega) (by omega) _ _ w ls (lv_sub hl [2, 1, 0] rfl)
  exact L4 _ 0 (Nat.zero_le _) (Nat.lt_succ_self _) _ _ w ls (lv_sub hl [2, 1, 0] rfl)
set_option maxRecDepth 100000 in
set_option maxHeartbeats 4000000 in
theorem c_X2_breaks (l : Launch) (G : KG) (a st di ga dr wa : Nat → Nat) (i lag : Nat) (q : Prop) [hq : Decidable q] (hi : i < 4) (hl0 : lag ≤ 50) (hg : ga i ≤ 100) : MetI l yX2_breaks wsX2_breaks 0 G (linesW G a st di ga dr wa) [.ref (a 0), .int (nI i), .int (yn q), .int (nI lag)] (fun r v => r = yn (q ∨ 0 < ga i) ∧ v = linesW G a st di (up ga i (gapB (ga i) i lag q)) dr wa) := by
  refine MetI.by (cc := cX2_breaks) (nL := 4) (ret := some .boolean) (by decide +kernel) rfl (Nat.le_of_ble_eq_true rfl) ?_
  intro p e s m args below meth c F w ls hl
  have hl : lv_has ls 4 [(0, .ref (a 0)), (1, .int (nI i)), (2, .int (yn q)), (3, .int (nI lag))] := hl
  have hts := F.ts
  have iX2 : ∀ w ∈ wsX20, w ∈ wsX2_breaks := by decide +kernel
  have f16 := hts (.fieldLink RX2 16 "CoreMelter$Lines" "gap" "[I") (by decide +kernel)
  refine lv_iload_n F.1 F.2.1 dX2_breaks_0 rfl (lv_at hl 2 rfl) ?_
  refine r_yeq (tgt := 13) F dX2_breaks_1 (by decide) (fun c1 => ?_) (fun c1 => ?_)
  · skip
    refine lv_aload_n F.1 F.2.1 dX2_breaks_13 rfl (lv_at hl 0 rfl) ?_
    refine r_get F w 0 2 iX2 f16 rfl rfl rfl (by decide) rfl dX2_breaks_14 ?_
    refine lv_iload_n F.1 F.2.1 dX2_breaks_17 rfl (lv_at hl 1 rfl) ?_
    refine r_iald F w 3 rfl (by omega) (by decide) dX2_breaks_18 ?_
    refine r_zne (tgt := 24) F dX2_breaks_19 (by decide) (by omega) (fun c19 => ?_) (fun c19 => ?_)
    · skip
      refine lv_aload_n F.1 F.2.1 dX2_breaks_24 rfl (lv_at hl 0 rfl) ?_
      refine r_get F w 0 2 iX2 f16 rfl rfl rfl (by decide) rfl dX2_breaks_25 ?_
      refine lv_iload_n F.1 F.2.1 dX2_breaks_28 rfl (lv_at hl 1 rfl) ?_
      refine lv_dup2_11 F.1 F.2.1 dX2_breaks_29 rfl rfl ?_
      refine r_iald F w 3 rfl (by omega) (by decide) dX2_breaks_30 ?_
      refine lv_iconst (v := nI 1) F.1 F.2.1 dX2_breaks_31 (by decide) ?_
      refine r_iadd F dX2_breaks_32 ?_
      refine r_iast (ws' := linesW G a st di (up ga i ((ga i) + 1)) dr wa) F w 3 rfl (by omega) (by decide) dX2_breaks_33 rfl (fun H locs w => ?_)
      refine lv_aload_n F.1 F.2.1 dX2_breaks_34 rfl (lv_at hl 0 rfl) ?_
      refine r_get F w 0 2 iX2 f16 rfl rfl rfl (by decide) rfl dX2_breaks_35 ?_
      refine lv_iload_n F.1 F.2.1 dX2_breaks_38 rfl (lv_at hl 1 rfl) ?_
      refine r_iald F w 3 rfl (by omega) (by decide) dX2_breaks_39 ?_
      refine r_to (y := nI ((ga i) + 1)) (congrArg nI (up_s _ _ _)) ?_
      refine lv_iload_n F.1 F.2.1 dX2_breaks_40 rfl (lv_at hl 3 rfl) ?_
      refine r_cle (tgt := 51) F dX2_breaks_41 (by decide) (by omega) (by omega) (fun c41 => ?_) (fun c41 => ?_)
      · skip
        refine lv_iconst (v := nI 1) F.1 F.2.1 dX2_breaks_51 (by decide) ?_
        exact r_zreturn F w dX2_breaks_52 rfl (⟨yn_t (Or.inr (by omega)), by unfold gapB; first | rw [if_neg c1, if_neg c19, if_pos (by omega), up_up] | rw [if_neg c1, if_neg c19, if_neg (by omega)]⟩)
      · skip
        refine lv_aload_n F.1 F.2.1 dX2_breaks_44 rfl (lv_at hl 0 rfl) ?_
        refine r_get F w 0 2 iX2 f16 rfl rfl rfl (by decide) rfl dX2_breaks_45 ?_
        refine lv_iload_n F.1 F.2.1 dX2_breaks_48 rfl (lv_at hl 1 rfl) ?_
        refine lv_iconst (v := nI 0) F.1 F.2.1 dX2_breaks_49 (by decide) ?_
        refine r_iast (ws' := linesW G a st di (up (up ga i ((ga i) + 1)) i 0) dr wa) F w 3 rfl (by omega) (by decide) dX2_breaks_50 rfl (fun H locs w => ?_)
        refine lv_iconst (v := nI 1) F.1 F.2.1 dX2_breaks_51 (by decide) ?_
        exact r_zreturn F w dX2_breaks_52 rfl (⟨yn_t (Or.inr (by omega)), by unfold gapB; first | rw [if_neg c1, if_neg c19, if_pos (by omega), up_up] | rw [if_neg c1, if_neg c19, if_neg (by omega)]⟩)
    · skip
      refine lv_iconst (v := nI 0) F.1 F.2.1 dX2_breaks_22 (by decide) ?_
      exact r_zreturn F w dX2_breaks_23 rfl (⟨yn_f (fun z => z.elim c1 (by omega)), by unfold gapB; rw [if_neg c1, if_pos c19, up_id c19.symm]⟩)
  · skip
    refine lv_aload_n F.1 F.2.1 dX2_breaks_4 rfl (lv_at hl 0 rfl) ?_
    refine r_get F w 0 2 iX2 f16 rfl rfl rfl (by decide) rfl dX2_breaks_5 ?_
    refine lv_iload_n F.1 F.2.1 dX2_breaks_8 rfl (lv_at hl 1 rfl) ?_
    refine lv_iconst (v := nI 1) F.1 F.2.1 dX2_breaks_9 (by decide) ?_
    refine r_iast (ws' := linesW G a st di (up ga i 1) dr wa) F w 3 rfl (by omega) (by decide) dX2_breaks_10 rfl (fun H locs w => ?_)
    refine lv_iconst (v := nI 1) F.1 F.2.1 dX2_breaks_11 (by decide) ?_
    exact r_zreturn F w dX2_breaks_12 rfl (⟨yn_t (Or.inl c1), by unfold gapB; rw [if_pos c1]⟩)
set_option maxRecDepth 100000 in
set_option maxHeartbeats 4000000 in
theorem c_X2_soil (l : Launch) (G : KG) (a st di ga dr wa : Nat → Nat) (i t lim : Nat) (hi : i < 4) (hz : st i = 0) (hd : di i + t < 2 ^ 31) (hm : lim ≤ 5000) : MetV l yX2_soil wsX2_soil 0 0 0 G (linesW G a st di ga dr wa) [.ref (a 0), .int (nI i), .int (nI t), .int (nI lim)] (fun v => v = linesW G a (up st i (if lim ≤ di i + t then 1 else 0)) (up di i (di i + t)) ga dr wa) := by
  refine MetV.by (cc := cX2_soil) (nL := 4) (ret := none) (by decide +kernel) rfl (Nat.le_of_ble_eq_true rfl) ?_
  intro p e s m args below meth c F hname w ls hl
  have hl : lv_has ls 4 [(0, .ref (a 0)), (1, .int (nI i)), (2, .int (nI t)), (3, .int (nI lim))] := hl
  have hts := F.ts
  have iX2 : ∀ w ∈ wsX20, w ∈ wsX2_soil := by decide +kernel
  have f9 := hts (.fieldLink RX2 9 "CoreMelter$Lines" "stuck" "[I") (by decide +kernel)
  have f13 := hts (.fieldLink RX2 13 "CoreMelter$Lines" "dirt" "[I") (by decide +kernel)
  refine lv_aload_n F.1 F.2.1 dX2_soil_0 rfl (lv_at hl 0 rfl) ?_
  refine r_get F w 0 1 iX2 f13 rfl rfl rfl (by decide) rfl dX2_soil_1 ?_
  refine lv_iload_n F.1 F.2.1 dX2_soil_4 rfl (lv_at hl 1 rfl) ?_
  refine lv_dup2_11 F.1 F.2.1 dX2_soil_5 rfl rfl ?_
  refine r_iald F w 2 rfl (by omega) (by decide) dX2_soil_6 ?_
  refine lv_iload_n F.1 F.2.1 dX2_soil_7 rfl (lv_at hl 2 rfl) ?_
  refine r_iadd F dX2_soil_8 ?_
  refine r_iast (ws' := linesW G a st (up di i ((di i) + t)) ga dr wa) F w 2 rfl (by omega) (by decide) dX2_soil_9 rfl (fun H locs w => ?_)
  refine lv_aload_n F.1 F.2.1 dX2_soil_10 rfl (lv_at hl 0 rfl) ?_
  refine r_get F w 0 1 iX2 f13 rfl rfl rfl (by decide) rfl dX2_soil_11 ?_
  refine lv_iload_n F.1 F.2.1 dX2_soil_14 rfl (lv_at hl 1 rfl) ?_
  refine r_iald F w 2 rfl (by omega) (by decide) dX2_soil_15 ?_
  refine r_to (y := nI ((di i) + t)) (congrArg nI (up_s _ _ _)) ?_
  refine lv_iload_n F.1 F.2.1 dX2_soil_16 rfl (lv_at hl 3 rfl) ?_
  refine r_clt (tgt := 27) F dX2_soil_17 (by decide) (by omega) (by omega) (fun c17 => ?_) (fun c17 => ?_)
  · skip
    exact r_return F w dX2_soil_27 (by first | rw [if_pos (by omega)] | rw [if_neg (by omega), up_id hz.symm])
  · skip
    refine lv_aload_n F.1 F.2.1 dX2_soil_20 rfl (lv_at hl 0 rfl) ?_
    refine r_get F w 0 0 iX2 f9 rfl rfl rfl (by decide) rfl dX2_soil_21 ?_
    refine lv_iload_n F.1 F.2.1 dX2_soil_24 rfl (lv_at hl 1 rfl) ?_
    refine lv_iconst (v := nI 1) F.1 F.2.1 dX2_soil_25 (by decide) ?_
    refine r_iast (ws' := linesW G a (up st i 1) (up di i ((di i) + t)) ga dr wa) F w 1 rfl (by omega) (by decide) dX2_soil_26 rfl (fun H locs w => ?_)
    exact r_return F w dX2_soil_27 (by first | rw [if_pos (by omega)] | rw [if_neg (by omega), up_id hz.symm])
set_option maxRecDepth 100000 in
set_option maxHeartbeats 4000000 in
theorem c_X6_beginAnew (l : Launch) (G : KG) (a : Nat → Nat) (se pr : Nat) (wt dp tk : Nat → Nat) : MetV l yX6_beginAnew wsX6_beginAnew 0 0 0 G (vialsW G a se pr wt dp tk) [.ref (a 0)] (fun v => v = vialsW G a 0 0 wt dp tk) := by
  refine MetV.by (cc := cX6_beginAnew) (nL := 1) (ret := none) (by decide +kernel) rfl (Nat.le_of_ble_eq_true rfl) ?_
  intro p e s m args below meth c F hname w ls hl
  have hl : lv_has ls 1 [(0, .ref (a 0))] := hl
  have hts := F.ts
  have iX6 : ∀ w ∈ wsX60, w ∈ wsX6_beginAnew := by decide +kernel
  have f19 := hts (.fieldLink RX6 19 "CoreMelter$Vials" "sealed" "I") (by decide +kernel)
  have f23 := hts (.fieldLink RX6 23 "CoreMelter$Vials" "present" "I") (by decide +kernel)
  refine lv_aload_n F.1 F.2.1 dX6_beginAnew_0 rfl (lv_at hl 0 rfl) ?_
  refine lv_iconst (v := nI 0) F.1 F.2.1 dX6_beginAnew_1 (by decide) ?_
  refine r_put (ws' := vialsW G a 0 pr wt dp tk) F w 0 0 iX6 okX6 f19 rfl rfl rfl (by decide) (by decide +kernel) (Nat.le_of_ble_eq_true rfl) dX6_beginAnew_2 rfl (fun H locs w => ?_)
  refine lv_aload_n F.1 F.2.1 dX6_beginAnew_5 rfl (lv_at hl 0 rfl) ?_
  refine lv_iconst (v := nI 0) F.1 F.2.1 dX6_beginAnew_6 (by decide) ?_
  refine r_put (ws' := vialsW G a 0 0 wt dp tk) F w 0 1 iX6 okX6 f23 rfl rfl rfl (by decide) (by decide +kernel) (Nat.le_of_ble_eq_true rfl) dX6_beginAnew_7 rfl (fun H locs w => ?_)
  exact r_return F w dX6_beginAnew_10 (rfl)
set_option maxRecDepth 100000 in
set_option maxHeartbeats 4000000 in
theorem c_X6_sealIfFull (l : Launch) (G : KG) (a : Nat → Nat) (se pr : Nat) (wt dp tk : Nat → Nat) (x t g : Nat) (hs : se ≤ 40) (hp : pr < 2 ^ 31) (hx : x < 2 ^ 31) : MetV l yX6_sealIfFull wsX6_sealIfFull 0 0 0 G (vialsW G a se pr wt dp tk) [.ref (a 0), .int (nI x), .int (nI t), .int (nI g)] (fun v => v = vialsW G a (if pr < x ∨ 40 ≤ se then se else se + 1) (if pr < x ∨ 40 ≤ se then pr else 0) (if pr < x ∨ 40 ≤ se then wt else up wt se pr) (if pr < x ∨ 40 ≤ se then dp else up dp se t) (if pr < x ∨ 40 ≤ se then tk else up tk se g)) := by
  refine MetV.by (cc := cX6_sealIfFull) (nL := 4) (ret := none) (by decide +kernel) rfl (Nat.le_of_ble_eq_true rfl) ?_
  intro p e s m args below meth c F hname w ls hl
  have hl : lv_has ls 4 [(0, .ref (a 0)), (1, .int (nI x)), (2, .int (nI t)), (3, .int (nI g))] := hl
  have hts := F.ts
  have iX6 : ∀ w ∈ wsX60, w ∈ wsX6_sealIfFull := by decide +kernel
  have f9 := hts (.fieldLink RX6 9 "CoreMelter$Vials" "water" "[I") (by decide +kernel)
  have f13 := hts (.fieldLink RX6 13 "CoreMelter$Vials" "depth" "[I") (by decide +kernel)
  have f16 := hts (.fieldLink RX6 16 "CoreMelter$Vials" "ticks" "[I") (by decide +kernel)
  have f19 := hts (.fieldLink RX6 19 "CoreMelter$Vials" "sealed" "I") (by decide +kernel)
  have f23 := hts (.fieldLink RX6 23 "CoreMelter$Vials" "present" "I") (by decide +kernel)
  refine lv_aload_n F.1 F.2.1 dX6_sealIfFull_0 rfl (lv_at hl 0 rfl) ?_
  refine r_get F w 0 1 iX6 f23 rfl rfl rfl (by decide) rfl dX6_sealIfFull_1 ?_
  refine lv_iload_n F.1 F.2.1 dX6_sealIfFull_4 rfl (lv_at hl 1 rfl) ?_
  refine r_clt (tgt := 17) F dX6_sealIfFull_5 (by decide) (by omega) (by omega) (fun c5 => ?_) (fun c5 => ?_)
  · skip
    exact r_return F w dX6_sealIfFull_17 (by first | simp only [if_pos (show pr < x ∨ 40 ≤ se from Or.inl c5)] | simp only [if_pos (show pr < x ∨ 40 ≤ se from Or.inr (by omega))])
  · skip
    refine lv_aload_n F.1 F.2.1 dX6_sealIfFull_8 rfl (lv_at hl 0 rfl) ?_
    refine r_get F w 0 0 iX6 f19 rfl rfl rfl (by decide) rfl dX6_sealIfFull_9 ?_
    refine lv_bipush (v := nI 40) F.1 F.2.1 dX6_sealIfFull_12 (by decide) ?_
    refine r_clt (tgt := 18) F dX6_sealIfFull_14 (by decide) (by omega) (by omega) (fun c14 => ?_) (fun c14 => ?_)
    · skip
      refine lv_aload_n F.1 F.2.1 dX6_sealIfFull_18 rfl (lv_at hl 0 rfl) ?_
      refine r_get F w 0 2 iX6 f9 rfl rfl rfl (by decide) rfl dX6_sealIfFull_19 ?_
      refine lv_aload_n F.1 F.2.1 dX6_sealIfFull_22 rfl (lv_at hl 0 rfl) ?_
      refine r_get F w 0 0 iX6 f19 rfl rfl rfl (by decide) rfl dX6_sealIfFull_23 ?_
      refine lv_aload_n F.1 F.2.1 dX6_sealIfFull_26 rfl (lv_at hl 0 rfl) ?_
      refine r_get F w 0 1 iX6 f23 rfl rfl rfl (by decide) rfl dX6_sealIfFull_27 ?_
      refine r_iast (ws' := vialsW G a se pr (up wt se pr) dp tk) F w 1 rfl (by omega) (by decide) dX6_sealIfFull_30 rfl (fun H locs w => ?_)
      refine lv_aload_n F.1 F.2.1 dX6_sealIfFull_31 rfl (lv_at hl 0 rfl) ?_
      refine r_get F w 0 3 iX6 f13 rfl rfl rfl (by decide) rfl dX6_sealIfFull_32 ?_
      refine lv_aload_n F.1 F.2.1 dX6_sealIfFull_35 rfl (lv_at hl 0 rfl) ?_
      refine r_get F w 0 0 iX6 f19 rfl rfl rfl (by decide) rfl dX6_sealIfFull_36 ?_
      refine lv_iload_n F.1 F.2.1 dX6_sealIfFull_39 rfl (lv_at hl 2 rfl) ?_
      refine r_iast (ws' := vialsW G a se pr (up wt se pr) (up dp se t) tk) F w 2 rfl (by omega) (by decide) dX6_sealIfFull_40 rfl (fun H locs w => ?_)
      refine lv_aload_n F.1 F.2.1 dX6_sealIfFull_41 rfl (lv_at hl 0 rfl) ?_
      refine r_get F w 0 4 iX6 f16 rfl rfl rfl (by decide) rfl dX6_sealIfFull_42 ?_
      refine lv_aload_n F.1 F.2.1 dX6_sealIfFull_45 rfl (lv_at hl 0 rfl) ?_
      refine r_get F w 0 0 iX6 f19 rfl rfl rfl (by decide) rfl dX6_sealIfFull_46 ?_
      refine lv_iload_n F.1 F.2.1 dX6_sealIfFull_49 rfl (lv_at hl 3 rfl) ?_
      refine r_iast (ws' := vialsW G a se pr (up wt se pr) (up dp se t) (up tk se g)) F w 3 rfl (by omega) (by decide) dX6_sealIfFull_50 rfl (fun H locs w => ?_)
      refine lv_aload_n F.1 F.2.1 dX6_sealIfFull_51 rfl (lv_at hl 0 rfl) ?_
      refine lv_dup F.1 F.2.1 dX6_sealIfFull_52 rfl ?_
      refine r_get F w 0 0 iX6 f19 rfl rfl rfl (by decide) rfl dX6_sealIfFull_53 ?_
      refine lv_iconst (v := nI 1) F.1 F.2.1 dX6_sealIfFull_56 (by decide) ?_
      refine r_iadd F dX6_sealIfFull_57 ?_
      refine r_put (ws' := vialsW G a (se + 1) pr (up wt se pr) (up dp se t) (up tk se g)) F w 0 0 iX6 okX6 f19 rfl rfl rfl (by decide) (by decide +kernel) (Nat.le_of_ble_eq_true rfl) dX6_sealIfFull_58 rfl (fun H locs w => ?_)
      refine lv_aload_n F.1 F.2.1 dX6_sealIfFull_61 rfl (lv_at hl 0 rfl) ?_
      refine lv_iconst (v := nI 0) F.1 F.2.1 dX6_sealIfFull_62 (by decide) ?_
      refine r_put (ws' := vialsW G a (se + 1) 0 (up wt se pr) (up dp se t) (up tk se g)) F w 0 1 iX6 okX6 f23 rfl rfl rfl (by decide) (by decide +kernel) (Nat.le_of_ble_eq_true rfl) dX6_sealIfFull_63 rfl (fun H locs w => ?_)
      exact r_return F w dX6_sealIfFull_66 (by simp only [if_neg (show ¬ (pr < x ∨ 40 ≤ se) from fun q => q.elim c5 (by omega))])
    · skip
      exact r_return F w dX6_sealIfFull_17 (by first | simp only [if_pos (show pr < x ∨ 40 ≤ se from Or.inl c5)] | simp only [if_pos (show pr < x ∨ 40 ≤ se from Or.inr (by omega))])
set_option maxRecDepth 100000 in
set_option maxHeartbeats 4000000 in
theorem c_X6_firstBeyond (l : Launch) (G : KG) (a : Nat → Nat) (se pr : Nat) (wt dp tk : Nat → Nat) (d : Nat) (hs : se ≤ 40) (hd : d < 2 ^ 31) (hb : ∀ k, k < se → dp k ≤ 6000) : MetI l yX6_firstBeyond wsX6_firstBeyond 0 G (vialsW G a se pr wt dp tk) [.ref (a 0), .int (nI d)] (fun r v => r = nI (fb dp d se) ∧ v = vialsW G a se pr wt dp tk) := by
  refine MetI.by (cc := cX6_firstBeyond) (nL := 3) (ret := some .int) (by decide +kernel) rfl (Nat.le_of_ble_eq_true rfl) ?_
  intro p e s m args below meth c F w ls hl
  have hl : lv_has ls 3 [(0, .ref (a 0)), (1, .int (nI d))] := hl
  have hts := F.ts
  have iX6 : ∀ w ∈ wsX60, w ∈ wsX6_firstBeyond := by decide +kernel
  have f13 := hts (.fieldLink RX6 13 "CoreMelter$Vials" "depth" "[I") (by decide +kernel)
  have f19 := hts (.fieldLink RX6 19 "CoreMelter$Vials" "sealed" "I") (by decide +kernel)
  refine lv_iconst (v := nI 0) F.1 F.2.1 dX6_firstBeyond_0 (by decide) ?_
  refine lv_istore_n (lv' := [(2, .int (nI 0)), (0, .ref (a 0)), (1, .int (nI d))]) F.1 F.2.1 dX6_firstBeyond_1 rfl hl (by decide) rfl (fun ls hl => ?_)
  have L2 : ∀ n : Nat, ∀ (k : Nat), (k ≤ se) → (∀ j, j < k → dp j ≤ d) → se - k < n → ∀ (H : Heap) (locs : List Loc), Wd G s (va_A (vialsW G a se pr wt dp tk) s.heap.size) (vialsW G a se pr wt dp tk) H locs → ∀ ls : Array Slot, lv_has ls 3 [(0, .ref (a 0)), (1, .int (nI d)), (2, .int (nI k))] → W p l e (rmK 0 0 0) s m args below meth c H locs 0 0 (MQ below (QI G (vialsW G a se pr wt dp tk) s.heap.size (fun r v => r = nI (fb dp d se) ∧ v = vialsW G a se pr wt dp tk)) args s 0 0 (va_A (vialsW G a se pr wt dp tk) s.heap.size)) (F0 m 2 ls []) := by
    intro n
    induction n with
    | zero => intro k h1 h2 hm; exact absurd hm (Nat.not_lt_zero _)
    | succ n ih2 =>
      intro k h1 h2 hm2 H locs w ls hl
      refine lv_iload_n F.1 F.2.1 dX6_firstBeyond_2 rfl (lv_at hl 2 rfl) ?_
      refine lv_aload_n F.1 F.2.1 dX6_firstBeyond_3 rfl (lv_at hl 0 rfl) ?_
      refine r_get F w 0 0 iX6 f19 rfl rfl rfl (by decide) rfl dX6_firstBeyond_4 ?_
      refine r_cge (tgt := 26) F dX6_firstBeyond_7 (by decide) (by omega) (by omega) (fun c7 => ?_) (fun c7 => ?_)
      · skip
        refine lv_iload_n F.1 F.2.1 dX6_firstBeyond_26 rfl (lv_at hl 2 rfl) ?_
        exact r_ireturn F w dX6_firstBeyond_27 (⟨congrArg nI (by first | exact (fb_at c7 h2 (by omega)).symm | (rw [fb_all (n := se) (fun j hj => h2 j (by omega))]; omega)), rfl⟩)
      · skip
        refine lv_aload_n F.1 F.2.1 dX6_firstBeyond_10 rfl (lv_at hl 0 rfl) ?_
        refine r_get F w 0 3 iX6 f13 rfl rfl rfl (by decide) rfl dX6_firstBeyond_11 ?_
        refine lv_iload_n F.1 F.2.1 dX6_firstBeyond_14 rfl (lv_at hl 2 rfl) ?_
        refine r_iald F w 2 rfl (by omega) (by decide) dX6_firstBeyond_15 ?_
        refine lv_iload_n F.1 F.2.1 dX6_firstBeyond_16 rfl (lv_at hl 1 rfl) ?_
        refine r_cgt (tgt := 26) F dX6_firstBeyond_17 (by decide) (by have := hb k c7; omega) (by omega) (fun c17 => ?_) (fun c17 => ?_)
        · skip
          refine lv_iload_n F.1 F.2.1 dX6_firstBeyond_26 rfl (lv_at hl 2 rfl) ?_
          exact r_ireturn F w dX6_firstBeyond_27 (⟨congrArg nI (by first | exact (fb_at c7 h2 (by omega)).symm | (rw [fb_all (n := se) (fun j hj => h2 j (by omega))]; omega)), rfl⟩)
        · skip
          refine lv_iinc (v := nI (k + 1)) (lv' := [(2, .int (nI (k + 1))), (0, .ref (a 0)), (1, .int (nI d))]) F.1 F.2.1 dX6_firstBeyond_20 hl (k := 2) rfl (nI_add _ _) (by decide) rfl (fun ls hl => ?_)
          refine lv_goto (tgt := 2) F.1 F.2.1 dX6_firstBeyond_23 (by decide) ?_
          exact ih2 (k + 1) (by omega) (fun j hj => by rcases Nat.lt_succ_iff_lt_or_eq.mp hj with q | q; exact h2 j q; rw [q]; omega) (by omega) _ _ w ls (lv_sub hl [1, 2, 0] rfl)
  exact L2 _ 0 (Nat.zero_le _) (fun j hj => absurd hj (Nat.not_lt_zero _)) (Nat.lt_succ_self _) _ _ w ls (lv_sub hl [1, 2, 0] rfl)
set_option maxRecDepth 100000 in
set_option maxHeartbeats 4000000 in
theorem c_X2_copyFrom (l : Launch) (G : KG) (a st di ga dr wa : Nat → Nat) (b st' di' ga' dr' wa' : Nat → Nat) : MetV l yX2_copyFrom wsX2_copyFrom 1 0 0 G (linesW G a st di ga dr wa ++ (linesW G b st' di' ga' dr' wa')) [.ref (a 0), .ref (b 0)] (fun v => v = linesW G a st' di' ga' dr' wa' ++ (linesW G b st' di' ga' dr' wa')) := by
  refine MetV.by (cc := cX2_copyFrom) (nL := 2) (ret := none) (by decide +kernel) rfl (Nat.le_of_ble_eq_true rfl) ?_
  intro p e s m args below meth c F hname w ls hl
  have hl : lv_has ls 2 [(0, .ref (a 0)), (1, .ref (b 0))] := hl
  have hts := F.ts
  have iX2 : ∀ w ∈ wsX20, w ∈ wsX2_copyFrom := by decide +kernel
  have f9 := hts (.fieldLink RX2 9 "CoreMelter$Lines" "stuck" "[I") (by decide +kernel)
  have f13 := hts (.fieldLink RX2 13 "CoreMelter$Lines" "dirt" "[I") (by decide +kernel)
  have f16 := hts (.fieldLink RX2 16 "CoreMelter$Lines" "gap" "[I") (by decide +kernel)
  have f19 := hts (.fieldLink RX2 19 "CoreMelter$Lines" "drawn" "[I") (by decide +kernel)
  have f22 := hts (.fieldLink RX2 22 "CoreMelter$Lines" "wasted" "[I") (by decide +kernel)
  have hy1 := hts (.methodLink RX2 25 arraycopyName) (by decide +kernel)
  have hy2 := hts (.native arraycopyName) (by decide +kernel)
  have hy3 := hts (.static arraycopyName) (by decide +kernel)
  have hy4 := hts (.initialized "java/lang/System") (by decide +kernel)
  refine lv_aload_n F.1 F.2.1 dX2_copyFrom_0 rfl (lv_at hl 1 rfl) ?_
  refine r_get F w 6 0 iX2 f9 rfl rfl rfl (by decide) rfl dX2_copyFrom_1 ?_
  refine lv_iconst (v := nI 0) F.1 F.2.1 dX2_copyFrom_4 (by decide) ?_
  refine lv_aload_n F.1 F.2.1 dX2_copyFrom_5 rfl (lv_at hl 0 rfl) ?_
  refine r_get F w 0 0 iX2 f9 rfl rfl rfl (by decide) rfl dX2_copyFrom_6 ?_
  refine lv_iconst (v := nI 0) F.1 F.2.1 dX2_copyFrom_9 (by decide) ?_
  refine lv_iconst (v := nI 4) F.1 F.2.1 dX2_copyFrom_10 (by decide) ?_
  refine r_copy (ws' := linesW G a st' di ga dr wa ++ (linesW G b st' di' ga' dr' wa')) F w 7 1 hy1 hy2 hy3 hy4 rfl rfl (by decide) (by decide) (Nat.le_of_ble_eq_true rfl) hl dX2_copyFrom_11 rfl (fun H locs w => ?_)
  refine lv_aload_n F.1 F.2.1 dX2_copyFrom_14 rfl (lv_at hl 1 rfl) ?_
  refine r_get F w 6 1 iX2 f13 rfl rfl rfl (by decide) rfl dX2_copyFrom_15 ?_
  refine lv_iconst (v := nI 0) F.1 F.2.1 dX2_copyFrom_18 (by decide) ?_
  refine lv_aload_n F.1 F.2.1 dX2_copyFrom_19 rfl (lv_at hl 0 rfl) ?_
  refine r_get F w 0 1 iX2 f13 rfl rfl rfl (by decide) rfl dX2_copyFrom_20 ?_
  refine lv_iconst (v := nI 0) F.1 F.2.1 dX2_copyFrom_23 (by decide) ?_
  refine lv_iconst (v := nI 4) F.1 F.2.1 dX2_copyFrom_24 (by decide) ?_
  refine r_copy (ws' := linesW G a st' di' ga dr wa ++ (linesW G b st' di' ga' dr' wa')) F w 8 2 hy1 hy2 hy3 hy4 rfl rfl (by decide) (by decide) (Nat.le_of_ble_eq_true rfl) hl dX2_copyFrom_25 rfl (fun H locs w => ?_)
  refine lv_aload_n F.1 F.2.1 dX2_copyFrom_28 rfl (lv_at hl 1 rfl) ?_
  refine r_get F w 6 2 iX2 f16 rfl rfl rfl (by decide) rfl dX2_copyFrom_29 ?_
  refine lv_iconst (v := nI 0) F.1 F.2.1 dX2_copyFrom_32 (by decide) ?_
  refine lv_aload_n F.1 F.2.1 dX2_copyFrom_33 rfl (lv_at hl 0 rfl) ?_
  refine r_get F w 0 2 iX2 f16 rfl rfl rfl (by decide) rfl dX2_copyFrom_34 ?_
  refine lv_iconst (v := nI 0) F.1 F.2.1 dX2_copyFrom_37 (by decide) ?_
  refine lv_iconst (v := nI 4) F.1 F.2.1 dX2_copyFrom_38 (by decide) ?_
  refine r_copy (ws' := linesW G a st' di' ga' dr wa ++ (linesW G b st' di' ga' dr' wa')) F w 9 3 hy1 hy2 hy3 hy4 rfl rfl (by decide) (by decide) (Nat.le_of_ble_eq_true rfl) hl dX2_copyFrom_39 rfl (fun H locs w => ?_)
  refine lv_aload_n F.1 F.2.1 dX2_copyFrom_42 rfl (lv_at hl 1 rfl) ?_
  refine r_get F w 6 3 iX2 f19 rfl rfl rfl (by decide) rfl dX2_copyFrom_43 ?_
  refine lv_iconst (v := nI 0) F.1 F.2.1 dX2_copyFrom_46 (by decide) ?_
  refine lv_aload_n F.1 F.2.1 dX2_copyFrom_47 rfl (lv_at hl 0 rfl) ?_
  refine r_get F w 0 3 iX2 f19 rfl rfl rfl (by decide) rfl dX2_copyFrom_48 ?_
  refine lv_iconst (v := nI 0) F.1 F.2.1 dX2_copyFrom_51 (by decide) ?_
  refine lv_iconst (v := nI 4) F.1 F.2.1 dX2_copyFrom_52 (by decide) ?_
  refine r_copy (ws' := linesW G a st' di' ga' dr' wa ++ (linesW G b st' di' ga' dr' wa')) F w 10 4 hy1 hy2 hy3 hy4 rfl rfl (by decide) (by decide) (Nat.le_of_ble_eq_true rfl) hl dX2_copyFrom_53 rfl (fun H locs w => ?_)
  refine lv_aload_n F.1 F.2.1 dX2_copyFrom_56 rfl (lv_at hl 1 rfl) ?_
  refine r_get F w 6 4 iX2 f22 rfl rfl rfl (by decide) rfl dX2_copyFrom_57 ?_
  refine lv_iconst (v := nI 0) F.1 F.2.1 dX2_copyFrom_60 (by decide) ?_
  refine lv_aload_n F.1 F.2.1 dX2_copyFrom_61 rfl (lv_at hl 0 rfl) ?_
  refine r_get F w 0 4 iX2 f22 rfl rfl rfl (by decide) rfl dX2_copyFrom_62 ?_
  refine lv_iconst (v := nI 0) F.1 F.2.1 dX2_copyFrom_65 (by decide) ?_
  refine lv_iconst (v := nI 4) F.1 F.2.1 dX2_copyFrom_66 (by decide) ?_
  refine r_copy (ws' := linesW G a st' di' ga' dr' wa' ++ (linesW G b st' di' ga' dr' wa')) F w 11 5 hy1 hy2 hy3 hy4 rfl rfl (by decide) (by decide) (Nat.le_of_ble_eq_true rfl) hl dX2_copyFrom_67 rfl (fun H locs w => ?_)
  exact r_return F w dX2_copyFrom_70 (rfl)
set_option maxRecDepth 100000 in
set_option maxHeartbeats 4000000 in
theorem c_X6_copyFrom (l : Launch) (G : KG) (a : Nat → Nat) (se pr : Nat) (wt dp tk : Nat → Nat) (b : Nat → Nat) (se' pr' : Nat) (wt' dp' tk' : Nat → Nat) : MetV l yX6_copyFrom wsX6_copyFrom 1 0 0 G (vialsW G a se pr wt dp tk ++ (vialsW G b se' pr' wt' dp' tk')) [.ref (a 0), .ref (b 0)] (fun v => v = vialsW G a se' pr' wt' dp' tk' ++ (vialsW G b se' pr' wt' dp' tk')) := by
  refine MetV.by (cc := cX6_copyFrom) (nL := 2) (ret := none) (by decide +kernel) rfl (Nat.le_of_ble_eq_true rfl) ?_
  intro p e s m args below meth c F hname w ls hl
  have hl : lv_has ls 2 [(0, .ref (a 0)), (1, .ref (b 0))] := hl
  have hts := F.ts
  have iX6 : ∀ w ∈ wsX60, w ∈ wsX6_copyFrom := by decide +kernel
  have f9 := hts (.fieldLink RX6 9 "CoreMelter$Vials" "water" "[I") (by decide +kernel)
  have f13 := hts (.fieldLink RX6 13 "CoreMelter$Vials" "depth" "[I") (by decide +kernel)
  have f16 := hts (.fieldLink RX6 16 "CoreMelter$Vials" "ticks" "[I") (by decide +kernel)
  have f19 := hts (.fieldLink RX6 19 "CoreMelter$Vials" "sealed" "I") (by decide +kernel)
  have f23 := hts (.fieldLink RX6 23 "CoreMelter$Vials" "present" "I") (by decide +kernel)
  have hy1 := hts (.methodLink RX6 26 arraycopyName) (by decide +kernel)
  have hy2 := hts (.native arraycopyName) (by decide +kernel)
  have hy3 := hts (.static arraycopyName) (by decide +kernel)
  have hy4 := hts (.initialized "java/lang/System") (by decide +kernel)
  refine lv_aload_n F.1 F.2.1 dX6_copyFrom_0 rfl (lv_at hl 0 rfl) ?_
  refine lv_aload_n F.1 F.2.1 dX6_copyFrom_1 rfl (lv_at hl 1 rfl) ?_
  refine r_get F w 4 0 iX6 f19 rfl rfl rfl (by decide) rfl dX6_copyFrom_2 ?_
  refine r_put (ws' := vialsW G a se' pr wt dp tk ++ (vialsW G b se' pr' wt' dp' tk')) F w 0 0 iX6 okX6 f19 rfl rfl rfl (by decide) (by decide +kernel) (Nat.le_of_ble_eq_true rfl) dX6_copyFrom_5 rfl (fun H locs w => ?_)
  refine lv_aload_n F.1 F.2.1 dX6_copyFrom_8 rfl (lv_at hl 0 rfl) ?_
  refine lv_aload_n F.1 F.2.1 dX6_copyFrom_9 rfl (lv_at hl 1 rfl) ?_
  refine r_get F w 4 1 iX6 f23 rfl rfl rfl (by decide) rfl dX6_copyFrom_10 ?_
  refine r_put (ws' := vialsW G a se' pr' wt dp tk ++ (vialsW G b se' pr' wt' dp' tk')) F w 0 1 iX6 okX6 f23 rfl rfl rfl (by decide) (by decide +kernel) (Nat.le_of_ble_eq_true rfl) dX6_copyFrom_13 rfl (fun H locs w => ?_)
  refine lv_aload_n F.1 F.2.1 dX6_copyFrom_16 rfl (lv_at hl 1 rfl) ?_
  refine r_get F w 4 2 iX6 f9 rfl rfl rfl (by decide) rfl dX6_copyFrom_17 ?_
  refine lv_iconst (v := nI 0) F.1 F.2.1 dX6_copyFrom_20 (by decide) ?_
  refine lv_aload_n F.1 F.2.1 dX6_copyFrom_21 rfl (lv_at hl 0 rfl) ?_
  refine r_get F w 0 2 iX6 f9 rfl rfl rfl (by decide) rfl dX6_copyFrom_22 ?_
  refine lv_iconst (v := nI 0) F.1 F.2.1 dX6_copyFrom_25 (by decide) ?_
  refine lv_bipush (v := nI 40) F.1 F.2.1 dX6_copyFrom_26 (by decide) ?_
  refine r_copy (ws' := vialsW G a se' pr' wt' dp tk ++ (vialsW G b se' pr' wt' dp' tk')) F w 5 1 hy1 hy2 hy3 hy4 rfl rfl (by decide) (by decide) (Nat.le_of_ble_eq_true rfl) hl dX6_copyFrom_28 rfl (fun H locs w => ?_)
  refine lv_aload_n F.1 F.2.1 dX6_copyFrom_31 rfl (lv_at hl 1 rfl) ?_
  refine r_get F w 4 3 iX6 f13 rfl rfl rfl (by decide) rfl dX6_copyFrom_32 ?_
  refine lv_iconst (v := nI 0) F.1 F.2.1 dX6_copyFrom_35 (by decide) ?_
  refine lv_aload_n F.1 F.2.1 dX6_copyFrom_36 rfl (lv_at hl 0 rfl) ?_
  refine r_get F w 0 3 iX6 f13 rfl rfl rfl (by decide) rfl dX6_copyFrom_37 ?_
  refine lv_iconst (v := nI 0) F.1 F.2.1 dX6_copyFrom_40 (by decide) ?_
  refine lv_bipush (v := nI 40) F.1 F.2.1 dX6_copyFrom_41 (by decide) ?_
  refine r_copy (ws' := vialsW G a se' pr' wt' dp' tk ++ (vialsW G b se' pr' wt' dp' tk')) F w 6 2 hy1 hy2 hy3 hy4 rfl rfl (by decide) (by decide) (Nat.le_of_ble_eq_true rfl) hl dX6_copyFrom_43 rfl (fun H locs w => ?_)
  refine lv_aload_n F.1 F.2.1 dX6_copyFrom_46 rfl (lv_at hl 1 rfl) ?_
  refine r_get F w 4 4 iX6 f16 rfl rfl rfl (by decide) rfl dX6_copyFrom_47 ?_
  refine lv_iconst (v := nI 0) F.1 F.2.1 dX6_copyFrom_50 (by decide) ?_
  refine lv_aload_n F.1 F.2.1 dX6_copyFrom_51 rfl (lv_at hl 0 rfl) ?_
  refine r_get F w 0 4 iX6 f16 rfl rfl rfl (by decide) rfl dX6_copyFrom_52 ?_
  refine lv_iconst (v := nI 0) F.1 F.2.1 dX6_copyFrom_55 (by decide) ?_
  refine lv_bipush (v := nI 40) F.1 F.2.1 dX6_copyFrom_56 (by decide) ?_
  refine r_copy (ws' := vialsW G a se' pr' wt' dp' tk' ++ (vialsW G b se' pr' wt' dp' tk')) F w 7 3 hy1 hy2 hy3 hy4 rfl rfl (by decide) (by decide) (Nat.le_of_ble_eq_true rfl) hl dX6_copyFrom_58 rfl (fun H locs w => ?_)
  exact r_return F w dX6_copyFrom_61 (rfl)

