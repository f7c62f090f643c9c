def brK (g : Nat → Nat) (j : Nat) (f : Nat → Nat) (i k : Nat) : Nat → Nat := fun t => if j ≤ t ∧ t < j + k then f (i + (t - j)) else g t
abbrev brF (g : Nat → Nat) (j : Nat) (f : Nat → Nat) (i : Nat) : Nat → Nat := brK g j f i 246
theorem brK_0 (g : Nat → Nat) (j : Nat) (f : Nat → Nat) (i : Nat) : brK g j f i 0 = g := by
  funext t
  exact if_neg (by omega)
theorem brK_s (g : Nat → Nat) (j : Nat) (f : Nat → Nat) (i k : Nat) : up (brK g j f i k) (j + k) (f (i + k)) = brK g j f i (k + 1) := by
  funext t
  unfold up brK
  by_cases q : t = j + k
  · subst q
    rw [if_pos rfl, if_pos (by omega), Nat.add_sub_cancel_left]
  · rw [if_neg q]
    by_cases q2 : j ≤ t ∧ t < j + k
    · rw [if_pos q2, if_pos (by omega)]
    · rw [if_neg q2, if_neg (by omega)]
/-- the first cells of the states moved down by one state -/
def shK (g : Nat → Nat) (k : Nat) : Nat → Nat := fun t => if t < k then g (t + 246) else g t
theorem shK_0 (g : Nat → Nat) : shK g 0 = g := by
  funext t
  exact if_neg (by omega)
theorem shK_r (g : Nat → Nat) (k : Nat) : shK g k (k + 246) = g (k + 246) := if_neg (by omega)
theorem shK_s (g : Nat → Nat) (k : Nat) : up (shK g k) k (g (k + 246)) = shK g (k + 1) := by
  funext t
  unfold up shK
  by_cases q : t = k
  · subst q
    rw [if_pos rfl, if_pos (by omega)]
  · rw [if_neg q]
    by_cases q2 : t < k
    · rw [if_pos q2, if_pos (by omega)]
    · rw [if_neg q2, if_neg (by omega)]
def h0F (g : Nat → Nat) (n : Nat) : Nat → Nat := if n = 5 then shK g 984 else g
def recF (g : Nat → Nat) (n : Nat) (P : Nat → Nat) : Nat → Nat := brF (h0F g n) (246 * min n 4) P 0
def KIND (k d m : Int32) : Prop := (k = nI 0 ∧ (nI 60 ≤ d ∧ d ≤ nI 92) ∧ (nI 0 ≤ m ∧ m ≤ nI 50)) ∨ (k = nI 1 ∧ d = 0 ∧ m = 0) ∨ (k = nI 2 ∧ (nI 60 ≤ d ∧ d ≤ nI 92) ∧ (nI 1 ≤ m ∧ m ≤ nI 100))
theorem segI_of2 {k l d m : Int32} (h1 : nI 1 ≤ l ∧ l ≤ nI 300) (h : KIND k d m) : segI k l d m := by
  obtain ⟨b, hb, rfl⟩ := i_of (n := 300) (Int32.le_trans (by decide) h1.1) h1.2 (by decide)
  have hb1 := (nI_leI (a := 1) (by decide) (by omega)).mp h1.1
  rcases h with ⟨rfl, ⟨q1, q2⟩, q3, q4⟩ | ⟨rfl, rfl, rfl⟩ | ⟨rfl, ⟨q1, q2⟩, q3, q4⟩
  · obtain ⟨c, hc, rfl⟩ := i_of (n := 92) (Int32.le_trans (by decide) q1) q2 (by decide)
    obtain ⟨e, he, rfl⟩ := i_of q3 q4 (by decide)
    have hc1 := (nI_leI (a := 60) (by decide) (by omega)).mp q1
    exact ⟨0, b, c, e, rfl, rfl, rfl, rfl, hb1, hb, Or.inl ⟨rfl, hc1, hc, he⟩⟩
  · exact ⟨1, b, 0, 0, rfl, rfl, rfl, rfl, hb1, hb, Or.inr (Or.inl ⟨rfl, rfl, rfl⟩)⟩
  · obtain ⟨c, hc, rfl⟩ := i_of (n := 92) (Int32.le_trans (by decide) q1) q2 (by decide)
    obtain ⟨e, he, rfl⟩ := i_of (n := 100) (Int32.le_trans (by decide) q3) q4 (by decide)
    have hc1 := (nI_leI (a := 60) (by decide) (by omega)).mp q1
    have he1 := (nI_leI (a := 1) (by decide) (by omega)).mp q3
    exact ⟨2, b, c, e, rfl, rfl, rfl, rfl, hb1, hb, Or.inr (Or.inr ⟨rfl, hc1, hc, he1, he⟩)⟩
theorem kind_ok {k l d m : Nat} (h : SegK k l d m) : KIND (nI k) (nI d) (nI m) := by
  have b := segK_lt h
  rcases h.2.2 with ⟨rfl, q⟩ | ⟨rfl, rfl, rfl⟩ | ⟨rfl, q⟩
  · exact Or.inl ⟨rfl, ⟨(nI_leI (by decide) (by omega)).mpr q.1, (nI_leI (by omega) (by decide)).mpr q.2.1⟩, (nI_leI (by decide) (by omega)).mpr (Nat.zero_le _), (nI_leI (by omega) (by decide)).mpr q.2.2⟩
  · exact Or.inr (Or.inl ⟨rfl, rfl, rfl⟩)
  · exact Or.inr (Or.inr ⟨rfl, ⟨(nI_leI (by decide) (by omega)).mpr q.1, (nI_leI (by omega) (by decide)).mpr q.2.1⟩, (nI_leI (by decide) (by omega)).mpr q.2.2.1, (nI_leI (by omega) (by decide)).mpr q.2.2.2⟩)
def zrK (P : Nat → Nat) (k : Nat) : Nat → Nat := fun t => if 9 ≤ t ∧ t < k then 0 else P t
theorem zrK_0 (P : Nat → Nat) : zrK P 9 = P := by
  funext t
  exact if_neg (by omega)
theorem zrK_s (P : Nat → Nat) {k : Nat} (h : 9 ≤ k) : up (zrK P k) k 0 = zrK P (k + 1) := by
  funext t
  unfold up zrK
  by_cases q : t = k
  · subst q
    rw [if_pos rfl, if_pos (by omega)]
  · rw [if_neg q]
    by_cases q2 : 9 ≤ t ∧ t < k
    · rw [if_pos q2, if_pos (by omega)]
    · rw [if_neg q2, if_neg (by omega)]
def clnK (P : Nat → Nat) (i : Nat) : Nat → (Nat → Nat)
  | 0 => P
  | j + 1 => up (clnK P i j) (26 + 5 * i + j) 0
theorem clnK_3 (P : Nat → Nat) (i : Nat) : clnK P i 3 = clnF P i := rfl
set_option maxRecDepth 100000 in
set_option maxHeartbeats 4000000 in
theorem c_X8_bring (l : Launch) (G : KG) (x y nx ny i j : Nat) (f g : Nat → Nat) (hx : nx < 2 ^ 31) (hy : ny < 2 ^ 31) (hi : i + 246 ≤ nx) (hj : j + 246 ≤ ny) : MetV l yX8_bring wsX8_bring 0 0 0 G (iA G x nx f ++ (iA G y ny g)) [.ref x, .int (nI i), .ref y, .int (nI j)] (fun w => w = iA G x nx f ++ (iA G y ny (brF g j f i))) := by
  refine MetV.by (cc := cX8_bring) (nL := 5) (ret := none) (by decide +kernel) rfl (Nat.le_of_ble_eq_true rfl) ?_
  intro p e s m args below meth c F hname w ls hl
  have hl : lv_has ls 5 [(0, .ref x), (1, .int (nI i)), (2, .ref y), (3, .int (nI j))] := hl
  have hts := F.ts
  refine lv_iconst (v := nI 0) F.1 F.2.1 dX8_bring_0 (by decide) ?_
  refine lv_istore (lv' := [(4, .int (nI 0)), (0, .ref x), (1, .int (nI i)), (2, .ref y), (3, .int (nI j))]) F.1 F.2.1 dX8_bring_1 hl (by decide) rfl (fun ls hl => ?_)
  have L3 : ∀ n : Nat, ∀ (k : Nat), (k ≤ 246) → 246 - k < n → ∀ (H : Heap) (locs : List Loc), Wd G s (va_A (iA G x nx f ++ (iA G y ny g)) s.heap.size) (iA G x nx f ++ (iA G y ny (brK g j f i k))) H locs → ∀ ls : Array Slot, lv_has ls 5 [(0, .ref x), (1, .int (nI i)), (2, .ref y), (3, .int (nI j)), (4, .int (nI k))] → W p l e (rmK 0 0 0) s m args below meth c H locs 0 0 (MQ below (QV G (iA G x nx f ++ (iA G y ny g)) s.heap.size (fun w => w = iA G x nx f ++ (iA G y ny (brF g j f i)))) args s 0 0 (va_A (iA G x nx f ++ (iA G y ny g)) s.heap.size)) (F0 m 3 ls []) := by
    intro n
    induction n with
    | zero => intro k h1 hm; exact absurd hm (Nat.not_lt_zero _)
    | succ n ih3 =>
      intro k h1 hm3 H locs w ls hl
      refine lv_iload F.1 F.2.1 dX8_bring_3 (lv_at hl 4 rfl) ?_
      refine lv_sipush (v := nI 246) F.1 F.2.1 dX8_bring_5 (by decide) ?_
      refine r_cge (tgt := 29) F dX8_bring_8 (by decide) (by omega) (by omega) (fun c8 => ?_) (fun c8 => ?_)
      · skip
        exact r_return F w dX8_bring_29 (by rw [show k = 246 by omega])
      · skip
        refine lv_aload_n F.1 F.2.1 dX8_bring_11 rfl (lv_at hl 2 rfl) ?_
        refine lv_iload_n F.1 F.2.1 dX8_bring_12 rfl (lv_at hl 3 rfl) ?_
        refine lv_iload F.1 F.2.1 dX8_bring_13 (lv_at hl 4 rfl) ?_
        refine r_iadd F dX8_bring_15 ?_
        refine lv_aload_n F.1 F.2.1 dX8_bring_16 rfl (lv_at hl 0 rfl) ?_
        refine lv_iload_n F.1 F.2.1 dX8_bring_17 rfl (lv_at hl 1 rfl) ?_
        refine lv_iload F.1 F.2.1 dX8_bring_18 (lv_at hl 4 rfl) ?_
        refine r_iadd F dX8_bring_20 ?_
        refine r_iald F w 0 rfl (by omega) hx dX8_bring_21 ?_
        refine r_iast (ws' := iA G x nx f ++ (iA G y ny (up (brK g j f i k) (j + k) (f (i + k))))) F w 1 rfl (by omega) hy dX8_bring_22 rfl (fun H locs w => ?_)
        have w := w.is (ws' := iA G x nx f ++ (iA G y ny (brK g j f i (k + 1)))) (by rw [brK_s])
        refine lv_iinc (v := nI (k + 1)) (lv' := [(4, .int (nI (k + 1))), (0, .ref x), (1, .int (nI i)), (2, .ref y), (3, .int (nI j))]) F.1 F.2.1 dX8_bring_23 hl (k := 4) rfl (nI_add _ _) (by decide) rfl (fun ls hl => ?_)
        refine lv_goto (tgt := 3) F.1 F.2.1 dX8_bring_26 (by decide) ?_
        exact ih3 (k + 1) (by omega) (by omega) _ _ w ls (lv_sub hl [1, 2, 3, 4, 0] rfl)
  have w := w.is (ws' := iA G x nx f ++ (iA G y ny (brK g j f i 0))) (by rw [brK_0])
  exact L3 _ 0 (Nat.zero_le _) (Nat.lt_succ_self _) _ _ w ls (lv_sub hl [1, 2, 3, 4, 0] rfl)
set_option maxRecDepth 100000 in
set_option maxHeartbeats 4000000 in
theorem c_X8_record (l : Launch) (G : KG) (a P Sp Hs T N : Nat → Nat) (sc tl tp fa fr fn : Nat) (h5 : sc ≤ 5) : MetV l yX8_record wsX8_record 1 0 0 G (mW G a P Sp Hs sc T tl tp fa fr fn N) [.ref (a 0)] (fun v => v = mW G a P Sp (recF Hs sc P) (min sc 4 + 1) T tl tp fa fr fn N) := by
  refine MetV.by (cc := cX8_record) (nL := 2) (ret := none) (by decide +kernel) rfl (Nat.le_of_ble_eq_true rfl) ?_
  intro p e s m args below meth c F hname w ls hl
  have hl : lv_has ls 2 [(0, .ref (a 0))] := hl
  have hts := F.ts
  have iX8 : ∀ w ∈ wsX80, w ∈ wsX8_record := by decide +kernel
  have f7 := hts (.fieldLink RX8 7 "CoreMelterModel" "m" "[I") (by decide +kernel)
  have f16 := hts (.fieldLink RX8 16 "CoreMelterModel" "states" "[I") (by decide +kernel)
  have f25 := hts (.fieldLink RX8 25 "CoreMelterModel" "stateCount" "I") (by decide +kernel)
  have L49 :  ∀ (H : Heap) (locs : List Loc), Wd G s (va_A (mW G a P Sp Hs sc T tl tp fa fr fn N) s.heap.size) (mW G a P Sp (h0F Hs sc) (min sc 4) T tl tp fa fr fn N) H locs → ∀ ls : Array Slot, lv_has ls 2 [(0, .ref (a 0))] → W p l e (rmK 1 0 0) s m args below meth c H locs 0 0 (MQ below (QV G (mW G a P Sp Hs sc T tl tp fa fr fn N) s.heap.size (fun v => v = mW G a P Sp (recF Hs sc P) (min sc 4 + 1) T tl tp fa fr fn N)) args s 0 0 (va_A (mW G a P Sp Hs sc T tl tp fa fr fn N) s.heap.size)) (F0 m 49 ls []) := by
    intro  H locs w ls hl
    refine lv_aload_n F.1 F.2.1 dX8_record_49 rfl (lv_at hl 0 rfl) ?_
    refine r_get F w 0 0 iX8 f7 rfl rfl rfl (by decide) rfl dX8_record_50 ?_
    refine lv_iconst (v := nI 0) F.1 F.2.1 dX8_record_53 (by decide) ?_
    refine lv_aload_n F.1 F.2.1 dX8_record_54 rfl (lv_at hl 0 rfl) ?_
    refine r_get F w 0 2 iX8 f16 rfl rfl rfl (by decide) rfl dX8_record_55 ?_
    refine lv_sipush (v := nI 246) F.1 F.2.1 dX8_record_58 (by decide) ?_
    refine lv_aload_n F.1 F.2.1 dX8_record_61 rfl (lv_at hl 0 rfl) ?_
    refine r_get F w 0 3 iX8 f25 rfl rfl rfl (by decide) rfl dX8_record_62 ?_
    refine r_imul F dX8_record_65 ?_
    refine r_callSV (rest := []) F w (c_X8_bring l G (a 1) (a 3) 246 1230 0 (246 * (min sc 4)) P (h0F Hs sc) (by decide) (by decide) (by omega) (by omega)) gX8_record_X8_bring [1, 3] [0, 2, 4, 5] (nA0 := 4) rfl (by decide +kernel) rfl ⟨Nat.le_of_ble_eq_true rfl, Nat.le_of_ble_eq_true rfl⟩ ⟨Nat.le_of_ble_eq_true rfl, Nat.le_of_ble_eq_true rfl⟩ rfl rfl rfl rfl rfl hl rfl (Nat.le_of_ble_eq_true rfl) dX8_record_66 (fun w1 H locs hp w => ?_)
    obtain rfl := hp
    have w := w.sub (ws' := mW G a P Sp (brF (h0F Hs sc) (246 * (min sc 4)) P 0) (min sc 4) T tl tp fa fr fn N) [0, 4, 1, 5, 2, 3] (by decide) rfl
    refine lv_aload_n F.1 F.2.1 dX8_record_69 rfl (lv_at hl 0 rfl) ?_
    refine lv_dup F.1 F.2.1 dX8_record_70 rfl ?_
    refine r_get F w 0 3 iX8 f25 rfl rfl rfl (by decide) rfl dX8_record_71 ?_
    refine lv_iconst (v := nI 1) F.1 F.2.1 dX8_record_74 (by decide) ?_
    refine r_iadd F dX8_record_75 ?_
    refine r_put (ws' := mW G a P Sp (brF (h0F Hs sc) (246 * (min sc 4)) P 0) ((min sc 4) + 1) T tl tp fa fr fn N) F w 0 3 iX8 okX8 f25 rfl rfl rfl (by decide) (by decide +kernel) (Nat.le_of_ble_eq_true rfl) dX8_record_76 rfl (fun H locs w => ?_)
    exact r_return F w dX8_record_79 (rfl)
  refine lv_aload_n F.1 F.2.1 dX8_record_0 rfl (lv_at hl 0 rfl) ?_
  refine r_get F w 0 3 iX8 f25 rfl rfl rfl (by decide) rfl dX8_record_1 ?_
  refine lv_iconst (v := nI 5) F.1 F.2.1 dX8_record_4 (by decide) ?_
  refine r_cne (tgt := 49) F dX8_record_5 (by decide) (by omega) (by omega) (fun c5 => ?_) (fun c5 => ?_)
  · skip
    have w := w.is (ws' := mW G a P Sp (h0F Hs sc) (min sc 4) T tl tp fa fr fn N) (by unfold h0F; first | (rw [if_neg c5, show min sc 4 = sc by omega]) | (rw [if_pos c5, show min sc 4 = sc - 1 by omega, show k = 984 by omega]))
    exact L49  _ _ w ls (lv_sub hl [0] rfl)
  · skip
    refine lv_iconst (v := nI 0) F.1 F.2.1 dX8_record_8 (by decide) ?_
    refine lv_istore_n (lv' := [(1, .int (nI 0)), (0, .ref (a 0))]) F.1 F.2.1 dX8_record_9 rfl hl (by decide) rfl (fun ls hl => ?_)
    have L10 : ∀ n : Nat, ∀ (k : Nat), (k ≤ 984) → 984 - k < n → ∀ (H : Heap) (locs : List Loc), Wd G s (va_A (mW G a P Sp Hs sc T tl tp fa fr fn N) s.heap.size) (mW G a P Sp (shK Hs k) sc T tl tp fa fr fn N) H locs → ∀ ls : Array Slot, lv_has ls 2 [(0, .ref (a 0)), (1, .int (nI k))] → W p l e (rmK 1 0 0) s m args below meth c H locs 0 0 (MQ below (QV G (mW G a P Sp Hs sc T tl tp fa fr fn N) s.heap.size (fun v => v = mW G a P Sp (recF Hs sc P) (min sc 4 + 1) T tl tp fa fr fn N)) args s 0 0 (va_A (mW G a P Sp Hs sc T tl tp fa fr fn N) s.heap.size)) (F0 m 10 ls []) := by
      intro n
      induction n with
      | zero => intro k h1 hm; exact absurd hm (Nat.not_lt_zero _)
      | succ n ih10 =>
        intro k h1 hm10 H locs w ls hl
        refine lv_iload_n F.1 F.2.1 dX8_record_10 rfl (lv_at hl 1 rfl) ?_
        refine lv_sipush (v := nI 984) F.1 F.2.1 dX8_record_11 (by decide) ?_
        refine r_cge (tgt := 39) F dX8_record_14 (by decide) (by omega) (by omega) (fun c14 => ?_) (fun c14 => ?_)
        · skip
          refine lv_aload_n F.1 F.2.1 dX8_record_39 rfl (lv_at hl 0 rfl) ?_
          refine lv_dup F.1 F.2.1 dX8_record_40 rfl ?_
          refine r_get F w 0 3 iX8 f25 rfl rfl rfl (by decide) rfl dX8_record_41 ?_
          refine lv_iconst (v := nI 1) F.1 F.2.1 dX8_record_44 (by decide) ?_
          refine r_isub F dX8_record_45 (by omega) ?_
          refine r_put (ws' := mW G a P Sp (shK Hs k) (sc - 1) T tl tp fa fr fn N) F w 0 3 iX8 okX8 f25 rfl rfl rfl (by decide) (by decide +kernel) (Nat.le_of_ble_eq_true rfl) dX8_record_46 rfl (fun H locs w => ?_)
          have w := w.is (ws' := mW G a P Sp (h0F Hs sc) (min sc 4) T tl tp fa fr fn N) (by unfold h0F; first | (rw [if_neg c5, show min sc 4 = sc by omega]) | (rw [if_pos c5, show min sc 4 = sc - 1 by omega, show k = 984 by omega]))
          exact L49  _ _ w ls (lv_sub hl [0] rfl)
        · skip
          refine lv_aload_n F.1 F.2.1 dX8_record_17 rfl (lv_at hl 0 rfl) ?_
          refine r_get F w 0 2 iX8 f16 rfl rfl rfl (by decide) rfl dX8_record_18 ?_
          refine lv_iload_n F.1 F.2.1 dX8_record_21 rfl (lv_at hl 1 rfl) ?_
          refine lv_aload_n F.1 F.2.1 dX8_record_22 rfl (lv_at hl 0 rfl) ?_
          refine r_get F w 0 2 iX8 f16 rfl rfl rfl (by decide) rfl dX8_record_23 ?_
          refine lv_iload_n F.1 F.2.1 dX8_record_26 rfl (lv_at hl 1 rfl) ?_
          refine lv_sipush (v := nI 246) F.1 F.2.1 dX8_record_27 (by decide) ?_
          refine r_iadd F dX8_record_30 ?_
          refine r_iald F w 3 rfl (by omega) (by decide) dX8_record_31 ?_
          refine r_to (y := (nI (Hs (k + 246)))) (congrArg nI (shK_r Hs k)) ?_
          refine r_iast (ws' := mW G a P Sp (up (shK Hs k) k (Hs (k + 246))) sc T tl tp fa fr fn N) F w 3 rfl (by omega) (by decide) dX8_record_32 rfl (fun H locs w => ?_)
          have w := w.is (ws' := mW G a P Sp (shK Hs (k + 1)) sc T tl tp fa fr fn N) (by rw [shK_s])
          refine lv_iinc (v := nI (k + 1)) (lv' := [(1, .int (nI (k + 1))), (0, .ref (a 0))]) F.1 F.2.1 dX8_record_33 hl (k := 1) rfl (nI_add _ _) (by decide) rfl (fun ls hl => ?_)
          refine lv_goto (tgt := 10) F.1 F.2.1 dX8_record_36 (by decide) ?_
          exact ih10 (k + 1) (by omega) (by omega) _ _ w ls (lv_sub hl [1, 0] rfl)
    have w := w.is (ws' := mW G a P Sp (shK Hs 0) sc T tl tp fa fr fn N) (by rw [shK_0])
    exact L10 _ 0 (Nat.zero_le _) (Nat.lt_succ_self _) _ _ w ls (lv_sub hl [1, 0] rfl)
set_option maxRecDepth 100000 in
set_option maxHeartbeats 4000000 in
theorem c_X8_isDensity (l : Launch) (G : KG) (x : Int32) : MetI l yX8_isDensity wsX8_isDensity 1 G (([] : va_W)) [.int x] (fun r w => r = yn (nI 60 ≤ x ∧ x ≤ nI 92) ∧ w = []) := by
  refine MetI.by (cc := cX8_isDensity) (nL := 1) (ret := some .boolean) (by decide +kernel) rfl (Nat.le_of_ble_eq_true rfl) ?_
  intro p e s m args below meth c F w ls hl
  have hl : lv_has ls 1 [(0, .int x)] := hl
  have hts := F.ts
  refine lv_iload_n F.1 F.2.1 dX8_isDensity_0 rfl (lv_at hl 0 rfl) ?_
  refine lv_bipush (v := nI 60) F.1 F.2.1 dX8_isDensity_1 (by decide) ?_
  refine lv_bipush (v := nI 92) F.1 F.2.1 dX8_isDensity_3 (by decide) ?_
  refine r_callS0 (rest := []) F w (c_X8_in l G x (nI 60) (nI 92)) gX8_isDensity_X8_in (nA0 := 3) rfl (by decide +kernel) rfl ⟨Nat.le_of_ble_eq_true rfl, Nat.le_of_ble_eq_true rfl⟩ ⟨Nat.le_of_ble_eq_true rfl, Nat.le_of_ble_eq_true rfl⟩ hl rfl (Nat.le_of_ble_eq_true rfl) dX8_isDensity_5 (fun r_5 w1 H locs hp w => ?_)
  obtain ⟨rfl, rfl⟩ := hp
  exact r_zreturn F w dX8_isDensity_8 (yn_nar _) (⟨rfl, rfl⟩)
set_option maxRecDepth 100000 in
set_option maxHeartbeats 4000000 in
theorem c_X8_isKind (l : Launch) (G : KG) (kx d mo : Int32) : MetI l yX8_isKind wsX8_isKind 2 G (([] : va_W)) [.int kx, .int d, .int mo] (fun r w => r = yn ((kx = nI 0 ∧ (nI 60 ≤ d ∧ d ≤ nI 92) ∧ (nI 0 ≤ mo ∧ mo ≤ nI 50)) ∨ (kx = nI 1 ∧ d = 0 ∧ mo = 0) ∨ (kx = nI 2 ∧ (nI 60 ≤ d ∧ d ≤ nI 92) ∧ (nI 1 ≤ mo ∧ mo ≤ nI 100))) ∧ w = []) := by
  refine MetI.by (cc := cX8_isKind) (nL := 3) (ret := some .boolean) (by decide +kernel) rfl (Nat.le_of_ble_eq_true rfl) ?_
  intro p e s m args below meth c F w ls hl
  have hl : lv_has ls 3 [(0, .int kx), (1, .int d), (2, .int mo)] := hl
  have hts := F.ts
  refine lv_iload_n F.1 F.2.1 dX8_isKind_0 rfl (lv_at hl 0 rfl) ?_
  by_cases k1_0 : kx = nI 0
  · refine r_swIn (k := nI 0) (tgt := 28) F dX8_isKind_1 k1_0 (by decide) (by decide) (off := 27) (by decide) (by decide) ?_
    refine lv_iload_n F.1 F.2.1 dX8_isKind_28 rfl (lv_at hl 1 rfl) ?_
    refine r_callS0 (rest := []) F w (c_X8_isDensity l G d) gX8_isKind_X8_isDensity (nA0 := 1) rfl (by decide +kernel) rfl ⟨Nat.le_of_ble_eq_true rfl, Nat.le_of_ble_eq_true rfl⟩ ⟨Nat.le_of_ble_eq_true rfl, Nat.le_of_ble_eq_true rfl⟩ hl rfl (Nat.le_of_ble_eq_true rfl) dX8_isKind_29 (fun r_29 w1 H locs hp w => ?_)
    obtain ⟨rfl, rfl⟩ := hp
    refine r_yeq (tgt := 49) F dX8_isKind_32 (by decide) (fun c32 => ?_) (fun c32 => ?_)
    · skip
      refine lv_iconst (v := nI 0) F.1 F.2.1 dX8_isKind_49 (by decide) ?_
      exact r_zreturn F w dX8_isKind_50 rfl (⟨yn_f (fun q => by rcases q with ⟨q1, q2, q3⟩ | ⟨q1, q2, q3⟩ | ⟨q1, q2, q3⟩ <;> first | exact c32 q2 | exact c42 q3 | exact c52 q2 | exact c56 q3 | exact c69 q2 | exact c79 q3 | exact k1_0 q1 | exact k1_1 q1 | exact k1_2 q1 | exact absurd (k1_0.symm.trans q1) (by decide) | exact absurd (k1_1.symm.trans q1) (by decide) | exact absurd (k1_2.symm.trans q1) (by decide)), rfl⟩)
    · skip
      refine lv_iload_n F.1 F.2.1 dX8_isKind_35 rfl (lv_at hl 2 rfl) ?_
      refine lv_iconst (v := nI 0) F.1 F.2.1 dX8_isKind_36 (by decide) ?_
      refine lv_bipush (v := nI 50) F.1 F.2.1 dX8_isKind_37 (by decide) ?_
      refine r_callS0 (rest := []) F w (c_X8_in l G mo (nI 0) (nI 50)) gX8_isKind_X8_in (nA0 := 3) rfl (by decide +kernel) rfl ⟨Nat.le_of_ble_eq_true rfl, Nat.le_of_ble_eq_true rfl⟩ ⟨Nat.le_of_ble_eq_true rfl, Nat.le_of_ble_eq_true rfl⟩ hl rfl (Nat.le_of_ble_eq_true rfl) dX8_isKind_39 (fun r_39 w1 H locs hp w => ?_)
      obtain ⟨rfl, rfl⟩ := hp
      refine r_yeq (tgt := 49) F dX8_isKind_42 (by decide) (fun c42 => ?_) (fun c42 => ?_)
      · skip
        refine lv_iconst (v := nI 0) F.1 F.2.1 dX8_isKind_49 (by decide) ?_
        exact r_zreturn F w dX8_isKind_50 rfl (⟨yn_f (fun q => by rcases q with ⟨q1, q2, q3⟩ | ⟨q1, q2, q3⟩ | ⟨q1, q2, q3⟩ <;> first | exact c32 q2 | exact c42 q3 | exact c52 q2 | exact c56 q3 | exact c69 q2 | exact c79 q3 | exact k1_0 q1 | exact k1_1 q1 | exact k1_2 q1 | exact absurd (k1_0.symm.trans q1) (by decide) | exact absurd (k1_1.symm.trans q1) (by decide) | exact absurd (k1_2.symm.trans q1) (by decide)), rfl⟩)
      · skip
        refine lv_iconst (v := nI 1) F.1 F.2.1 dX8_isKind_45 (by decide) ?_
        refine lv_goto (tgt := 50) F.1 F.2.1 dX8_isKind_46 (by decide) ?_
        exact r_zreturn F w dX8_isKind_50 rfl (⟨by first | exact yn_t (Or.inl ⟨k1_0, c32, c42⟩) | exact yn_t (Or.inr (Or.inl ⟨k1_1, c52, c56⟩)) | exact yn_t (Or.inr (Or.inr ⟨k1_2, c69, c79⟩)), rfl⟩)
  by_cases k1_1 : kx = nI 1
  · refine r_swIn (k := nI 1) (tgt := 51) F dX8_isKind_1 k1_1 (by decide) (by decide) (off := 50) (by decide) (by decide) ?_
    refine lv_iload_n F.1 F.2.1 dX8_isKind_51 rfl (lv_at hl 1 rfl) ?_
    refine lv_if_ne (tgt := 63) F.1 F.2.1 dX8_isKind_52 (by decide) (fun c52 => ?_) (fun c52 => ?_)
    · skip
      refine lv_iconst (v := nI 0) F.1 F.2.1 dX8_isKind_63 (by decide) ?_
      exact r_zreturn F w dX8_isKind_64 rfl (⟨yn_f (fun q => by rcases q with ⟨q1, q2, q3⟩ | ⟨q1, q2, q3⟩ | ⟨q1, q2, q3⟩ <;> first | exact c32 q2 | exact c42 q3 | exact c52 q2 | exact c56 q3 | exact c69 q2 | exact c79 q3 | exact k1_0 q1 | exact k1_1 q1 | exact k1_2 q1 | exact absurd (k1_0.symm.trans q1) (by decide) | exact absurd (k1_1.symm.trans q1) (by decide) | exact absurd (k1_2.symm.trans q1) (by decide)), rfl⟩)
    · skip
      refine lv_iload_n F.1 F.2.1 dX8_isKind_55 rfl (lv_at hl 2 rfl) ?_
      refine lv_if_ne (tgt := 63) F.1 F.2.1 dX8_isKind_56 (by decide) (fun c56 => ?_) (fun c56 => ?_)
      · skip
        refine lv_iconst (v := nI 0) F.1 F.2.1 dX8_isKind_63 (by decide) ?_
        exact r_zreturn F w dX8_isKind_64 rfl (⟨yn_f (fun q => by rcases q with ⟨q1, q2, q3⟩ | ⟨q1, q2, q3⟩ | ⟨q1, q2, q3⟩ <;> first | exact c32 q2 | exact c42 q3 | exact c52 q2 | exact c56 q3 | exact c69 q2 | exact c79 q3 | exact k1_0 q1 | exact k1_1 q1 | exact k1_2 q1 | exact absurd (k1_0.symm.trans q1) (by decide) | exact absurd (k1_1.symm.trans q1) (by decide) | exact absurd (k1_2.symm.trans q1) (by decide)), rfl⟩)
      · skip
        refine lv_iconst (v := nI 1) F.1 F.2.1 dX8_isKind_59 (by decide) ?_
        refine lv_goto (tgt := 64) F.1 F.2.1 dX8_isKind_60 (by decide) ?_
        exact r_zreturn F w dX8_isKind_64 rfl (⟨by first | exact yn_t (Or.inl ⟨k1_0, c32, c42⟩) | exact yn_t (Or.inr (Or.inl ⟨k1_1, c52, c56⟩)) | exact yn_t (Or.inr (Or.inr ⟨k1_2, c69, c79⟩)), rfl⟩)
  by_cases k1_2 : kx = nI 2
  · refine r_swIn (k := nI 2) (tgt := 65) F dX8_isKind_1 k1_2 (by decide) (by decide) (off := 64) (by decide) (by decide) ?_
    refine lv_iload_n F.1 F.2.1 dX8_isKind_65 rfl (lv_at hl 1 rfl) ?_
    refine r_callS0 (rest := []) F w (c_X8_isDensity l G d) gX8_isKind_X8_isDensity (nA0 := 1) rfl (by decide +kernel) rfl ⟨Nat.le_of_ble_eq_true rfl, Nat.le_of_ble_eq_true rfl⟩ ⟨Nat.le_of_ble_eq_true rfl, Nat.le_of_ble_eq_true rfl⟩ hl rfl (Nat.le_of_ble_eq_true rfl) dX8_isKind_66 (fun r_66 w1 H locs hp w => ?_)
    obtain ⟨rfl, rfl⟩ := hp
    refine r_yeq (tgt := 86) F dX8_isKind_69 (by decide) (fun c69 => ?_) (fun c69 => ?_)
    · skip
      refine lv_iconst (v := nI 0) F.1 F.2.1 dX8_isKind_86 (by decide) ?_
      exact r_zreturn F w dX8_isKind_87 rfl (⟨yn_f (fun q => by rcases q with ⟨q1, q2, q3⟩ | ⟨q1, q2, q3⟩ | ⟨q1, q2, q3⟩ <;> first | exact c32 q2 | exact c42 q3 | exact c52 q2 | exact c56 q3 | exact c69 q2 | exact c79 q3 | exact k1_0 q1 | exact k1_1 q1 | exact k1_2 q1 | exact absurd (k1_0.symm.trans q1) (by decide) | exact absurd (k1_1.symm.trans q1) (by decide) | exact absurd (k1_2.symm.trans q1) (by decide)), rfl⟩)
    · skip
      refine lv_iload_n F.1 F.2.1 dX8_isKind_72 rfl (lv_at hl 2 rfl) ?_
      refine lv_iconst (v := nI 1) F.1 F.2.1 dX8_isKind_73 (by decide) ?_
      refine lv_bipush (v := nI 100) F.1 F.2.1 dX8_isKind_74 (by decide) ?_
      refine r_callS0 (rest := []) F w (c_X8_in l G mo (nI 1) (nI 100)) gX8_isKind_X8_in (nA0 := 3) rfl (by decide +kernel) rfl ⟨Nat.le_of_ble_eq_true rfl, Nat.le_of_ble_eq_true rfl⟩ ⟨Nat.le_of_ble_eq_true rfl, Nat.le_of_ble_eq_true rfl⟩ hl rfl (Nat.le_of_ble_eq_true rfl) dX8_isKind_76 (fun r_76 w1 H locs hp w => ?_)
      obtain ⟨rfl, rfl⟩ := hp
      refine r_yeq (tgt := 86) F dX8_isKind_79 (by decide) (fun c79 => ?_) (fun c79 => ?_)
      · skip
        refine lv_iconst (v := nI 0) F.1 F.2.1 dX8_isKind_86 (by decide) ?_
        exact r_zreturn F w dX8_isKind_87 rfl (⟨yn_f (fun q => by rcases q with ⟨q1, q2, q3⟩ | ⟨q1, q2, q3⟩ | ⟨q1, q2, q3⟩ <;> first | exact c32 q2 | exact c42 q3 | exact c52 q2 | exact c56 q3 | exact c69 q2 | exact c79 q3 | exact k1_0 q1 | exact k1_1 q1 | exact k1_2 q1 | exact absurd (k1_0.symm.trans q1) (by decide) | exact absurd (k1_1.symm.trans q1) (by decide) | exact absurd (k1_2.symm.trans q1) (by decide)), rfl⟩)
      · skip
        refine lv_iconst (v := nI 1) F.1 F.2.1 dX8_isKind_82 (by decide) ?_
        refine lv_goto (tgt := 87) F.1 F.2.1 dX8_isKind_83 (by decide) ?_
        exact r_zreturn F w dX8_isKind_87 rfl (⟨by first | exact yn_t (Or.inl ⟨k1_0, c32, c42⟩) | exact yn_t (Or.inr (Or.inl ⟨k1_1, c52, c56⟩)) | exact yn_t (Or.inr (Or.inr ⟨k1_2, c69, c79⟩)), rfl⟩)
  refine r_swOut (tgt := 88) F dX8_isKind_1 (by have q0 := lv_neT (a := 0) k1_0 (by decide); have q1 := lv_neT (a := 1) k1_1 (by decide); have q2 := lv_neT (a := 2) k1_2 (by decide); omega) (by decide) ?_
  refine lv_iconst (v := nI 0) F.1 F.2.1 dX8_isKind_88 (by decide) ?_
  exact r_zreturn F w dX8_isKind_89 rfl (⟨yn_f (fun q => by rcases q with ⟨q1, q2, q3⟩ | ⟨q1, q2, q3⟩ | ⟨q1, q2, q3⟩ <;> first | exact c32 q2 | exact c42 q3 | exact c52 q2 | exact c56 q3 | exact c69 q2 | exact c79 q3 | exact k1_0 q1 | exact k1_1 q1 | exact k1_2 q1 | exact absurd (k1_0.symm.trans q1) (by decide) | exact absurd (k1_1.symm.trans q1) (by decide) | exact absurd (k1_2.symm.trans q1) (by decide)), rfl⟩)
set_option maxRecDepth 100000 in
set_option maxHeartbeats 4000000 in
theorem c_X8_puts (l : Launch) (G : KG) (a P Sp Hs T N : Nat → Nat) (sc tl tp fa fr fn : Nat) (k1 l1 d1 m1 : Nat) (h8 : P 8 < 20) : MetV l yX8_puts wsX8_puts 0 0 0 G (mW G a P Sp Hs sc T tl tp fa fr fn N) [.ref (a 0), .int (nI k1), .int (nI l1), .int (nI d1), .int (nI m1)] (fun v => v = mW G a (addF P k1 l1 d1 m1) Sp Hs sc T tl tp fa fr fn N) := by
  refine MetV.by (cc := cX8_puts) (nL := 6) (ret := none) (by decide +kernel) rfl (Nat.le_of_ble_eq_true rfl) ?_
  intro p e s m args below meth c F hname w ls hl
  have hl : lv_has ls 6 [(0, .ref (a 0)), (1, .int (nI k1)), (2, .int (nI l1)), (3, .int (nI d1)), (4, .int (nI m1))] := hl
  have hts := F.ts
  have iX8 : ∀ w ∈ wsX80, w ∈ wsX8_puts := by decide +kernel
  have f7 := hts (.fieldLink RX8 7 "CoreMelterModel" "m" "[I") (by decide +kernel)
  refine lv_bipush (v := nI 46) F.1 F.2.1 dX8_puts_0 (by decide) ?_
  refine lv_iconst (v := nI 4) F.1 F.2.1 dX8_puts_2 (by decide) ?_
  refine lv_aload_n F.1 F.2.1 dX8_puts_3 rfl (lv_at hl 0 rfl) ?_
  refine r_get F w 0 0 iX8 f7 rfl rfl rfl (by decide) rfl dX8_puts_4 ?_
  refine lv_bipush (v := nI 8) F.1 F.2.1 dX8_puts_7 (by decide) ?_
  refine r_iald F w 1 rfl (by omega) (by decide) dX8_puts_9 ?_
  refine r_imul F dX8_puts_10 ?_
  refine r_iadd F dX8_puts_11 ?_
  refine lv_istore (lv' := [(5, .int (nI (46 + (4 * (P 8))))), (0, .ref (a 0)), (1, .int (nI k1)), (2, .int (nI l1)), (3, .int (nI d1)), (4, .int (nI m1))]) F.1 F.2.1 dX8_puts_12 hl (by decide) rfl (fun ls hl => ?_)
  refine lv_aload_n F.1 F.2.1 dX8_puts_14 rfl (lv_at hl 1 rfl) ?_
  refine r_get F w 0 0 iX8 f7 rfl rfl rfl (by decide) rfl dX8_puts_15 ?_
  refine lv_iload F.1 F.2.1 dX8_puts_18 (lv_at hl 0 rfl) ?_
  refine lv_iload_n F.1 F.2.1 dX8_puts_20 rfl (lv_at hl 2 rfl) ?_
  refine r_iast (ws' := mW G a (up P (46 + (4 * (P 8))) k1) Sp Hs sc T tl tp fa fr fn N) F w 1 rfl (by omega) (by decide) dX8_puts_21 rfl (fun H locs w => ?_)
  refine lv_aload_n F.1 F.2.1 dX8_puts_22 rfl (lv_at hl 1 rfl) ?_
  refine r_get F w 0 0 iX8 f7 rfl rfl rfl (by decide) rfl dX8_puts_23 ?_
  refine lv_iload F.1 F.2.1 dX8_puts_26 (lv_at hl 0 rfl) ?_
  refine lv_iconst (v := nI 1) F.1 F.2.1 dX8_puts_28 (by decide) ?_
  refine r_iadd F dX8_puts_29 ?_
  refine lv_iload_n F.1 F.2.1 dX8_puts_30 rfl (lv_at hl 3 rfl) ?_
  refine r_iast (ws' := mW G a (up (up P (46 + (4 * (P 8))) k1) ((46 + (4 * (P 8))) + 1) l1) Sp Hs sc T tl tp fa fr fn N) F w 1 rfl (by omega) (by decide) dX8_puts_31 rfl (fun H locs w => ?_)
  refine lv_aload_n F.1 F.2.1 dX8_puts_32 rfl (lv_at hl 1 rfl) ?_
  refine r_get F w 0 0 iX8 f7 rfl rfl rfl (by decide) rfl dX8_puts_33 ?_
  refine lv_iload F.1 F.2.1 dX8_puts_36 (lv_at hl 0 rfl) ?_
  refine lv_iconst (v := nI 2) F.1 F.2.1 dX8_puts_38 (by decide) ?_
  refine r_iadd F dX8_puts_39 ?_
  refine lv_iload_n F.1 F.2.1 dX8_puts_40 rfl (lv_at hl 4 rfl) ?_
  refine r_iast (ws' := mW G a (up (up (up P (46 + (4 * (P 8))) k1) ((46 + (4 * (P 8))) + 1) l1) ((46 + (4 * (P 8))) + 2) d1) Sp Hs sc T tl tp fa fr fn N) F w 1 rfl (by omega) (by decide) dX8_puts_41 rfl (fun H locs w => ?_)
  refine lv_aload_n F.1 F.2.1 dX8_puts_42 rfl (lv_at hl 1 rfl) ?_
  refine r_get F w 0 0 iX8 f7 rfl rfl rfl (by decide) rfl dX8_puts_43 ?_
  refine lv_iload F.1 F.2.1 dX8_puts_46 (lv_at hl 0 rfl) ?_
  refine lv_iconst (v := nI 3) F.1 F.2.1 dX8_puts_48 (by decide) ?_
  refine r_iadd F dX8_puts_49 ?_
  refine lv_iload F.1 F.2.1 dX8_puts_50 (lv_at hl 5 rfl) ?_
  refine r_iast (ws' := mW G a (up (up (up (up P (46 + (4 * (P 8))) k1) ((46 + (4 * (P 8))) + 1) l1) ((46 + (4 * (P 8))) + 2) d1) ((46 + (4 * (P 8))) + 3) m1) Sp Hs sc T tl tp fa fr fn N) F w 1 rfl (by omega) (by decide) dX8_puts_52 rfl (fun H locs w => ?_)
  refine lv_aload_n F.1 F.2.1 dX8_puts_53 rfl (lv_at hl 1 rfl) ?_
  refine r_get F w 0 0 iX8 f7 rfl rfl rfl (by decide) rfl dX8_puts_54 ?_
  refine lv_bipush (v := nI 8) F.1 F.2.1 dX8_puts_57 (by decide) ?_
  refine lv_dup2_11 F.1 F.2.1 dX8_puts_59 rfl rfl ?_
  refine r_iald F w 1 rfl (by omega) (by decide) dX8_puts_60 ?_
  refine r_to (y := nI (P 8)) (congrArg nI ((up_n _ _ (by omega)).trans ((up_n _ _ (by omega)).trans ((up_n _ _ (by omega)).trans (up_n _ _ (by omega)))))) ?_
  refine lv_iconst (v := nI 1) F.1 F.2.1 dX8_puts_61 (by decide) ?_
  refine r_iadd F dX8_puts_62 ?_
  refine r_iast (ws' := mW G a (up (up (up (up (up P (46 + (4 * (P 8))) k1) ((46 + (4 * (P 8))) + 1) l1) ((46 + (4 * (P 8))) + 2) d1) ((46 + (4 * (P 8))) + 3) m1) 8 ((P 8) + 1)) Sp Hs sc T tl tp fa fr fn N) F w 1 rfl (by omega) (by decide) dX8_puts_63 rfl (fun H locs w => ?_)
  exact r_return F w dX8_puts_64 (rfl)
set_option maxRecDepth 100000 in
set_option maxHeartbeats 4000000 in
theorem c_X8_addSegmentM (l : Launch) (G : KG) (a P Sp Hs T N : Nat → Nat) (sc tl tp fa fr fn : Nat) (hI : Inv P) (h5 : sc ≤ 5) (kx ln dn mo : Int32) (hx : ¬ segI kx ln dn mo) : MetI l yX8_addSegment wsX8_addSegment 3 G (mW G a P Sp Hs sc T tl tp fa fr fn N) [.ref (a 0), .int kx, .int ln, .int dn, .int mo] (fun r v => r = -1 ∧ v = mW G a P Sp Hs sc T tl tp fa fr fn N) := by
  refine MetI.by (cc := cX8_addSegment) (nL := 5) (ret := some .int) (by decide +kernel) rfl (Nat.le_of_ble_eq_true rfl) ?_
  intro p e s m args below meth c F w ls hl
  have hl : lv_has ls 5 [(0, .ref (a 0)), (1, .int kx), (2, .int ln), (3, .int dn), (4, .int mo)] := hl
  have hts := F.ts
  have hD := hI.d
  obtain ⟨b9, b11, b20, b12, b13, b25, b23⟩ := hD.bnd
  have h8 := hD.1.1
  have ht := hD.1.top_le
  have h14 := hI.2.2.2.2.2.1.1
  have h16 := hI.2.2.2.2.2.2.1
  refine lv_iload_n F.1 F.2.1 dX8_addSegment_0 rfl (lv_at hl 2 rfl) ?_
  refine lv_iconst (v := nI 1) F.1 F.2.1 dX8_addSegment_1 (by decide) ?_
  refine lv_sipush (v := nI 300) F.1 F.2.1 dX8_addSegment_2 (by decide) ?_
  refine r_callS0 (rest := []) F w (c_X8_in l G ln (nI 1) (nI 300)) gX8_addSegment_X8_in (nA0 := 3) rfl (by decide +kernel) rfl ⟨Nat.le_of_ble_eq_true rfl, Nat.le_of_ble_eq_true rfl⟩ ⟨Nat.le_of_ble_eq_true rfl, Nat.le_of_ble_eq_true rfl⟩ hl rfl (Nat.le_of_ble_eq_true rfl) dX8_addSegment_5 (fun r_5 w1 H locs hp w => ?_)
  obtain ⟨rfl, rfl⟩ := hp
  refine r_yeq (tgt := 21) F dX8_addSegment_8 (by decide) (fun c8 => ?_) (fun c8 => ?_)
  · skip
    refine lv_iconst (v := (-1)) F.1 F.2.1 dX8_addSegment_21 (by decide) ?_
    exact r_ireturn F w dX8_addSegment_22 (⟨rfl, rfl⟩)
  · skip
    refine lv_iload_n F.1 F.2.1 dX8_addSegment_11 rfl (lv_at hl 1 rfl) ?_
    refine lv_iload_n F.1 F.2.1 dX8_addSegment_12 rfl (lv_at hl 3 rfl) ?_
    refine lv_iload F.1 F.2.1 dX8_addSegment_13 (lv_at hl 4 rfl) ?_
    refine r_callS0 (rest := []) F w (c_X8_isKind l G kx dn mo) gX8_addSegment_X8_isKind (nA0 := 3) rfl (by decide +kernel) rfl ⟨Nat.le_of_ble_eq_true rfl, Nat.le_of_ble_eq_true rfl⟩ ⟨Nat.le_of_ble_eq_true rfl, Nat.le_of_ble_eq_true rfl⟩ hl rfl (Nat.le_of_ble_eq_true rfl) dX8_addSegment_15 (fun r_15 w1 H locs hp w => ?_)
    obtain ⟨rfl, rfl⟩ := hp
    refine r_yne (tgt := 23) F dX8_addSegment_18 (by decide) (fun c18 => ?_) (fun c18 => ?_)
    · exact absurd (segI_of2 c8 c18) hx
    · skip
      refine lv_iconst (v := (-1)) F.1 F.2.1 dX8_addSegment_21 (by decide) ?_
      exact r_ireturn F w dX8_addSegment_22 (⟨rfl, rfl⟩)
set_option maxRecDepth 100000 in
set_option maxHeartbeats 4000000 in
theorem c_X8_addSegmentZ (l : Launch) (G : KG) (a P Sp Hs T N : Nat → Nat) (sc tl tp fa fr fn : Nat) (hI : Inv P) (h5 : sc ≤ 5) (kx ln dn mo : Nat) (hs4 : SegK kx ln dn mo) (hz : P 8 = 20) : MetI l yX8_addSegment wsX8_addSegment 3 G (mW G a P Sp Hs sc T tl tp fa fr fn N) [.ref (a 0), .int (nI kx), .int (nI ln), .int (nI dn), .int (nI mo)] (fun r v => r = -3 ∧ v = mW G a P Sp Hs sc T tl tp fa fr fn N) := by
  refine MetI.by (cc := cX8_addSegment) (nL := 5) (ret := some .int) (by decide +kernel) rfl (Nat.le_of_ble_eq_true rfl) ?_
  intro p e s m args below meth c F w ls hl
  have hl : lv_has ls 5 [(0, .ref (a 0)), (1, .int (nI kx)), (2, .int (nI ln)), (3, .int (nI dn)), (4, .int (nI mo))] := hl
  have hts := F.ts
  have iX8 : ∀ w ∈ wsX80, w ∈ wsX8_addSegment := by decide +kernel
  have f7 := hts (.fieldLink RX8 7 "CoreMelterModel" "m" "[I") (by decide +kernel)
  have hD := hI.d
  obtain ⟨b9, b11, b20, b12, b13, b25, b23⟩ := hD.bnd
  have h8 := hD.1.1
  have ht := hD.1.top_le
  have h14 := hI.2.2.2.2.2.1.1
  have h16 := hI.2.2.2.2.2.2.1
  obtain ⟨g1, g2, g3, g4⟩ := segK_lt hs4
  refine lv_iload_n F.1 F.2.1 dX8_addSegment_0 rfl (lv_at hl 2 rfl) ?_
  refine lv_iconst (v := nI 1) F.1 F.2.1 dX8_addSegment_1 (by decide) ?_
  refine lv_sipush (v := nI 300) F.1 F.2.1 dX8_addSegment_2 (by decide) ?_
  refine r_callS0 (rest := []) F w (c_X8_inN l G ln 1 300 (by omega) (by omega) (by omega)) gX8_addSegment_X8_in (nA0 := 3) rfl (by decide +kernel) rfl ⟨Nat.le_of_ble_eq_true rfl, Nat.le_of_ble_eq_true rfl⟩ ⟨Nat.le_of_ble_eq_true rfl, Nat.le_of_ble_eq_true rfl⟩ hl rfl (Nat.le_of_ble_eq_true rfl) dX8_addSegment_5 (fun r_5 w1 H locs hp w => ?_)
  obtain ⟨rfl, rfl⟩ := hp
  refine r_yeq (tgt := 21) F dX8_addSegment_8 (by decide) (fun c8 => ?_) (fun c8 => ?_)
  · exact absurd ⟨hs4.1, hs4.2.1⟩ c8
  · skip
    refine lv_iload_n F.1 F.2.1 dX8_addSegment_11 rfl (lv_at hl 1 rfl) ?_
    refine lv_iload_n F.1 F.2.1 dX8_addSegment_12 rfl (lv_at hl 3 rfl) ?_
    refine lv_iload F.1 F.2.1 dX8_addSegment_13 (lv_at hl 4 rfl) ?_
    refine r_callS0 (rest := []) F w (c_X8_isKind l G (nI kx) (nI dn) (nI mo)) gX8_addSegment_X8_isKind (nA0 := 3) rfl (by decide +kernel) rfl ⟨Nat.le_of_ble_eq_true rfl, Nat.le_of_ble_eq_true rfl⟩ ⟨Nat.le_of_ble_eq_true rfl, Nat.le_of_ble_eq_true rfl⟩ hl rfl (Nat.le_of_ble_eq_true rfl) dX8_addSegment_15 (fun r_15 w1 H locs hp w => ?_)
    obtain ⟨rfl, rfl⟩ := hp
    refine r_yne (tgt := 23) F dX8_addSegment_18 (by decide) (fun c18 => ?_) (fun c18 => ?_)
    · skip
      refine lv_aload_n F.1 F.2.1 dX8_addSegment_23 rfl (lv_at hl 0 rfl) ?_
      refine r_get F w 0 0 iX8 f7 rfl rfl rfl (by decide) rfl dX8_addSegment_24 ?_
      refine lv_bipush (v := nI 8) F.1 F.2.1 dX8_addSegment_27 (by decide) ?_
      refine r_iald F w 1 rfl (by omega) (by decide) dX8_addSegment_29 ?_
      refine lv_bipush (v := nI 20) F.1 F.2.1 dX8_addSegment_30 (by decide) ?_
      refine r_cne (tgt := 38) F dX8_addSegment_32 (by decide) (by omega) (by omega) (fun c32 => ?_) (fun c32 => ?_)
      · exact absurd hz c32
      · skip
        refine lv_bipush (v := (-3)) F.1 F.2.1 dX8_addSegment_35 (by decide) ?_
        exact r_ireturn F w dX8_addSegment_37 (⟨rfl, rfl⟩)
    · exact absurd (kind_ok hs4) c18
set_option maxRecDepth 100000 in
set_option maxHeartbeats 4000000 in
theorem c_X8_addSegmentN (l : Launch) (G : KG) (a P Sp Hs T N : Nat → Nat) (sc tl tp fa fr fn : Nat) (hI : Inv P) (h5 : sc ≤ 5) (kx ln dn mo : Nat) (hs4 : SegK kx ln dn mo) (hz : P 8 < 20) : MetI l yX8_addSegment wsX8_addSegment 3 G (mW G a P Sp Hs sc T tl tp fa fr fn N) [.ref (a 0), .int (nI kx), .int (nI ln), .int (nI dn), .int (nI mo)] (fun r v => r = nI (P 8) ∧ v = mW G a (addF P kx ln dn mo) Sp (recF Hs sc P) (min sc 4 + 1) T tl tp fa fr fn N) := by
  refine MetI.by (cc := cX8_addSegment) (nL := 5) (ret := some .int) (by decide +kernel) rfl (Nat.le_of_ble_eq_true rfl) ?_
  intro p e s m args below meth c F w ls hl
  have hl : lv_has ls 5 [(0, .ref (a 0)), (1, .int (nI kx)), (2, .int (nI ln)), (3, .int (nI dn)), (4, .int (nI mo))] := hl
  have hts := F.ts
  have iX8 : ∀ w ∈ wsX80, w ∈ wsX8_addSegment := by decide +kernel
  have f7 := hts (.fieldLink RX8 7 "CoreMelterModel" "m" "[I") (by decide +kernel)
  have hD := hI.d
  obtain ⟨b9, b11, b20, b12, b13, b25, b23⟩ := hD.bnd
  have h8 := hD.1.1
  have ht := hD.1.top_le
  have h14 := hI.2.2.2.2.2.1.1
  have h16 := hI.2.2.2.2.2.2.1
  obtain ⟨g1, g2, g3, g4⟩ := segK_lt hs4
  refine lv_iload_n F.1 F.2.1 dX8_addSegment_0 rfl (lv_at hl 2 rfl) ?_
  refine lv_iconst (v := nI 1) F.1 F.2.1 dX8_addSegment_1 (by decide) ?_
  refine lv_sipush (v := nI 300) F.1 F.2.1 dX8_addSegment_2 (by decide) ?_
  refine r_callS0 (rest := []) F w (c_X8_inN l G ln 1 300 (by omega) (by omega) (by omega)) gX8_addSegment_X8_in (nA0 := 3) rfl (by decide +kernel) rfl ⟨Nat.le_of_ble_eq_true rfl, Nat.le_of_ble_eq_true rfl⟩ ⟨Nat.le_of_ble_eq_true rfl, Nat.le_of_ble_eq_true rfl⟩ hl rfl (Nat.le_of_ble_eq_true rfl) dX8_addSegment_5 (fun r_5 w1 H locs hp w => ?_)
  obtain ⟨rfl, rfl⟩ := hp
  refine r_yeq (tgt := 21) F dX8_addSegment_8 (by decide) (fun c8 => ?_) (fun c8 => ?_)
  · exact absurd ⟨hs4.1, hs4.2.1⟩ c8
  · skip
    refine lv_iload_n F.1 F.2.1 dX8_addSegment_11 rfl (lv_at hl 1 rfl) ?_
    refine lv_iload_n F.1 F.2.1 dX8_addSegment_12 rfl (lv_at hl 3 rfl) ?_
    refine lv_iload F.1 F.2.1 dX8_addSegment_13 (lv_at hl 4 rfl) ?_
    refine r_callS0 (rest := []) F w (c_X8_isKind l G (nI kx) (nI dn) (nI mo)) gX8_addSegment_X8_isKind (nA0 := 3) rfl (by decide +kernel) rfl ⟨Nat.le_of_ble_eq_true rfl, Nat.le_of_ble_eq_true rfl⟩ ⟨Nat.le_of_ble_eq_true rfl, Nat.le_of_ble_eq_true rfl⟩ hl rfl (Nat.le_of_ble_eq_true rfl) dX8_addSegment_15 (fun r_15 w1 H locs hp w => ?_)
    obtain ⟨rfl, rfl⟩ := hp
    refine r_yne (tgt := 23) F dX8_addSegment_18 (by decide) (fun c18 => ?_) (fun c18 => ?_)
    · skip
      refine lv_aload_n F.1 F.2.1 dX8_addSegment_23 rfl (lv_at hl 0 rfl) ?_
      refine r_get F w 0 0 iX8 f7 rfl rfl rfl (by decide) rfl dX8_addSegment_24 ?_
      refine lv_bipush (v := nI 8) F.1 F.2.1 dX8_addSegment_27 (by decide) ?_
      refine r_iald F w 1 rfl (by omega) (by decide) dX8_addSegment_29 ?_
      refine lv_bipush (v := nI 20) F.1 F.2.1 dX8_addSegment_30 (by decide) ?_
      refine r_cne (tgt := 38) F dX8_addSegment_32 (by decide) (by omega) (by omega) (fun c32 => ?_) (fun c32 => ?_)
      · skip
        refine lv_aload_n F.1 F.2.1 dX8_addSegment_38 rfl (lv_at hl 0 rfl) ?_
        refine r_callVV (rest := []) F w (c_X8_record l G a P Sp Hs T N sc tl tp fa fr fn  (by omega)) gX8_addSegment_X8_record [0, 1, 2, 3, 4, 5] [] (nA0 := 0) rfl (by decide +kernel) rfl ⟨Nat.le_of_ble_eq_true rfl, Nat.le_of_ble_eq_true rfl⟩ ⟨Nat.le_of_ble_eq_true rfl, Nat.le_of_ble_eq_true rfl⟩ rfl rfl rfl rfl rfl rfl rfl hl rfl (Nat.le_of_ble_eq_true rfl) dX8_addSegment_39 (fun w1 H locs hp w => ?_)
        obtain rfl := hp
        have w := w.sub (ws' := mW G a P Sp (recF Hs sc P) (min sc 4 + 1) T tl tp fa fr fn N) [0, 1, 2, 3, 4, 5] (by decide) rfl
        refine lv_aload_n F.1 F.2.1 dX8_addSegment_42 rfl (lv_at hl 0 rfl) ?_
        refine lv_iload_n F.1 F.2.1 dX8_addSegment_43 rfl (lv_at hl 1 rfl) ?_
        refine lv_iload_n F.1 F.2.1 dX8_addSegment_44 rfl (lv_at hl 2 rfl) ?_
        refine lv_iload_n F.1 F.2.1 dX8_addSegment_45 rfl (lv_at hl 3 rfl) ?_
        refine lv_iload F.1 F.2.1 dX8_addSegment_46 (lv_at hl 4 rfl) ?_
        refine r_callVV (rest := []) F w (c_X8_puts l G a P Sp (recF Hs sc P) T N (min sc 4 + 1) tl tp fa fr fn kx ln dn mo (by omega)) gX8_addSegment_X8_puts [0, 1, 2, 3, 4, 5] [] (nA0 := 4) rfl (by decide +kernel) rfl ⟨Nat.le_of_ble_eq_true rfl, Nat.le_of_ble_eq_true rfl⟩ ⟨Nat.le_of_ble_eq_true rfl, Nat.le_of_ble_eq_true rfl⟩ rfl rfl rfl rfl rfl rfl rfl hl rfl (Nat.le_of_ble_eq_true rfl) dX8_addSegment_48 (fun w1 H locs hp w => ?_)
        obtain rfl := hp
        have w := w.sub (ws' := mW G a (addF P kx ln dn mo) Sp (recF Hs sc P) (min sc 4 + 1) T tl tp fa fr fn N) [0, 1, 2, 3, 4, 5] (by decide) rfl
        refine lv_aload_n F.1 F.2.1 dX8_addSegment_51 rfl (lv_at hl 0 rfl) ?_
        refine r_get F w 0 0 iX8 f7 rfl rfl rfl (by decide) rfl dX8_addSegment_52 ?_
        refine lv_bipush (v := nI 8) F.1 F.2.1 dX8_addSegment_55 (by decide) ?_
        refine r_iald F w 1 rfl (by omega) (by decide) dX8_addSegment_57 ?_
        refine r_to (y := (nI (P 8 + 1))) (congrArg nI (addF_8 P kx ln dn mo)) ?_
        refine lv_iconst (v := nI 1) F.1 F.2.1 dX8_addSegment_58 (by decide) ?_
        refine r_isub F dX8_addSegment_59 (by omega) ?_
        refine r_to (y := (nI (P 8))) (congrArg nI (Nat.add_sub_cancel (P 8) 1)) ?_
        exact r_ireturn F w dX8_addSegment_60 (⟨rfl, rfl⟩)
      · exact absurd c32 (by omega)
    · exact absurd (kind_ok hs4) c18
set_option maxRecDepth 100000 in
set_option maxHeartbeats 4000000 in
theorem c_X8_renew (l : Launch) (G : KG) (a P Sp Hs T N : Nat → Nat) (sc tl tp fa fr fn : Nat) (hI : Inv P) (h5 : sc ≤ 5) : MetI l yX8_renew wsX8_renew 2 G (mW G a P Sp Hs sc T tl tp fa fr fn N) [.ref (a 0)] (fun r v => r = nI (P 9) ∧ v = mW G a (newF P) Sp (recF Hs sc P) (min sc 4 + 1) T tl tp fa fr fn N) := by
  refine MetI.by (cc := cX8_renew) (nL := 3) (ret := some .int) (by decide +kernel) rfl (Nat.le_of_ble_eq_true rfl) ?_
  intro p e s m args below meth c F w ls hl
  have hl : lv_has ls 3 [(0, .ref (a 0))] := hl
  have hts := F.ts
  have iX8 : ∀ w ∈ wsX80, w ∈ wsX8_renew := by decide +kernel
  have f7 := hts (.fieldLink RX8 7 "CoreMelterModel" "m" "[I") (by decide +kernel)
  have hD := hI.d
  obtain ⟨b9, b11, b20, b12, b13, b25, b23⟩ := hD.bnd
  have h8 := hD.1.1
  have ht := hD.1.top_le
  have h14 := hI.2.2.2.2.2.1.1
  have h16 := hI.2.2.2.2.2.2.1
  refine lv_aload_n F.1 F.2.1 dX8_renew_0 rfl (lv_at hl 0 rfl) ?_
  refine r_callVV (rest := []) F w (c_X8_record l G a P Sp Hs T N sc tl tp fa fr fn  (by omega)) gX8_renew_X8_record [0, 1, 2, 3, 4, 5] [] (nA0 := 0) rfl (by decide +kernel) rfl ⟨Nat.le_of_ble_eq_true rfl, Nat.le_of_ble_eq_true rfl⟩ ⟨Nat.le_of_ble_eq_true rfl, Nat.le_of_ble_eq_true rfl⟩ rfl rfl rfl rfl rfl rfl rfl hl rfl (Nat.le_of_ble_eq_true rfl) dX8_renew_1 (fun w1 H locs hp w => ?_)
  obtain rfl := hp
  have w := w.sub (ws' := mW G a P Sp (recF Hs sc P) (min sc 4 + 1) T tl tp fa fr fn N) [0, 1, 2, 3, 4, 5] (by decide) rfl
  refine lv_aload_n F.1 F.2.1 dX8_renew_4 rfl (lv_at hl 0 rfl) ?_
  refine r_get F w 0 0 iX8 f7 rfl rfl rfl (by decide) rfl dX8_renew_5 ?_
  refine lv_bipush (v := nI 9) F.1 F.2.1 dX8_renew_8 (by decide) ?_
  refine r_iald F w 1 rfl (by omega) (by decide) dX8_renew_10 ?_
  refine lv_istore_n (lv' := [(1, .int (nI (P 9))), (0, .ref (a 0))]) F.1 F.2.1 dX8_renew_11 rfl hl (by decide) rfl (fun ls hl => ?_)
  refine lv_bipush (v := nI 9) F.1 F.2.1 dX8_renew_12 (by decide) ?_
  refine lv_istore_n (lv' := [(2, .int (nI 9)), (1, .int (nI (P 9))), (0, .ref (a 0))]) F.1 F.2.1 dX8_renew_14 rfl hl (by decide) rfl (fun ls hl => ?_)
  have L15 : ∀ n : Nat, ∀ (k : Nat), (9 ≤ k) → (k ≤ 46) → 46 - k < n → ∀ (H : Heap) (locs : List Loc), Wd G s (va_A (mW G a P Sp Hs sc T tl tp fa fr fn N) s.heap.size) (mW G a (zrK P k) Sp (recF Hs sc P) (min sc 4 + 1) T tl tp fa fr fn N) H locs → ∀ ls : Array Slot, lv_has ls 3 [(0, .ref (a 0)), (1, .int (nI (P 9))), (2, .int (nI k))] → W p l e (rmK 2 0 0) s m args below meth c H locs 0 0 (MQ below (QI G (mW G a P Sp Hs sc T tl tp fa fr fn N) s.heap.size (fun r v => r = nI (P 9) ∧ v = mW G a (newF P) Sp (recF Hs sc P) (min sc 4 + 1) T tl tp fa fr fn N)) args s 0 0 (va_A (mW G a P Sp Hs sc T tl tp fa fr fn N) s.heap.size)) (F0 m 15 ls []) := by
    intro n
    induction n with
    | zero => intro k h0 h1 hm; exact absurd hm (Nat.not_lt_zero _)
    | succ n ih15 =>
      intro k h0 h1 hm15 H locs w ls hl
      refine lv_iload_n F.1 F.2.1 dX8_renew_15 rfl (lv_at hl 2 rfl) ?_
      refine lv_bipush (v := nI 46) F.1 F.2.1 dX8_renew_16 (by decide) ?_
      refine r_cge (tgt := 34) F dX8_renew_18 (by decide) (by omega) (by omega) (fun c18 => ?_) (fun c18 => ?_)
      · skip
        refine lv_iload_n F.1 F.2.1 dX8_renew_34 rfl (lv_at hl 1 rfl) ?_
        exact r_ireturn F w dX8_renew_35 (⟨rfl, by rw [show k = 46 by omega]; rfl⟩)
      · skip
        refine lv_aload_n F.1 F.2.1 dX8_renew_21 rfl (lv_at hl 0 rfl) ?_
        refine r_get F w 0 0 iX8 f7 rfl rfl rfl (by decide) rfl dX8_renew_22 ?_
        refine lv_iload_n F.1 F.2.1 dX8_renew_25 rfl (lv_at hl 2 rfl) ?_
        refine lv_iconst (v := nI 0) F.1 F.2.1 dX8_renew_26 (by decide) ?_
        refine r_iast (ws' := mW G a (up (zrK P k) k 0) Sp (recF Hs sc P) (min sc 4 + 1) T tl tp fa fr fn N) F w 1 rfl (by omega) (by decide) dX8_renew_27 rfl (fun H locs w => ?_)
        have w := w.is (ws' := mW G a (zrK P (k + 1)) Sp (recF Hs sc P) (min sc 4 + 1) T tl tp fa fr fn N) (by rw [zrK_s P h0])
        refine lv_iinc (v := nI (k + 1)) (lv' := [(2, .int (nI (k + 1))), (0, .ref (a 0)), (1, .int (nI (P 9)))]) F.1 F.2.1 dX8_renew_28 hl (k := 2) rfl (nI_add _ _) (by decide) rfl (fun ls hl => ?_)
        refine lv_goto (tgt := 15) F.1 F.2.1 dX8_renew_31 (by decide) ?_
        exact ih15 (k + 1) (by omega) (by omega) (by omega) _ _ w ls (lv_sub hl [1, 2, 0] rfl)
  have w := w.is (ws' := mW G a (zrK P 9) Sp (recF Hs sc P) (min sc 4 + 1) T tl tp fa fr fn N) (by rw [zrK_0])
  exact L15 _ 9 (Nat.le_refl _) (by decide) (Nat.lt_succ_self _) _ _ w ls (lv_sub hl [2, 1, 0] rfl)
set_option maxRecDepth 100000 in
set_option maxHeartbeats 4000000 in
theorem c_X8_undoM (l : Launch) (G : KG) (a P Sp Hs T N : Nat → Nat) (sc tl tp fa fr fn : Nat) (h0 : sc = 0) : MetI l yX8_undo wsX8_undo 1 G (mW G a P Sp Hs sc T tl tp fa fr fn N) [.ref (a 0)] (fun r v => r = -2 ∧ v = mW G a P Sp Hs sc T tl tp fa fr fn N) := by
  refine MetI.by (cc := cX8_undo) (nL := 1) (ret := some .int) (by decide +kernel) rfl (Nat.le_of_ble_eq_true rfl) ?_
  intro p e s m args below meth c F w ls hl
  have hl : lv_has ls 1 [(0, .ref (a 0))] := hl
  have hts := F.ts
  have iX8 : ∀ w ∈ wsX80, w ∈ wsX8_undo := by decide +kernel
  have f25 := hts (.fieldLink RX8 25 "CoreMelterModel" "stateCount" "I") (by decide +kernel)
  refine lv_aload_n F.1 F.2.1 dX8_undo_0 rfl (lv_at hl 0 rfl) ?_
  refine r_get F w 0 3 iX8 f25 rfl rfl rfl (by decide) rfl dX8_undo_1 ?_
  refine r_zne (tgt := 10) F dX8_undo_4 (by decide) (by omega) (fun c4 => ?_) (fun c4 => ?_)
  · exact absurd h0 c4
  · skip
    refine lv_bipush (v := (-2)) F.1 F.2.1 dX8_undo_7 (by decide) ?_
    exact r_ireturn F w dX8_undo_9 (⟨rfl, rfl⟩)
set_option maxRecDepth 100000 in
set_option maxHeartbeats 4000000 in
theorem c_X8_undoN (l : Launch) (G : KG) (a P Sp Hs T N : Nat → Nat) (sc tl tp fa fr fn : Nat) (h0 : 0 < sc) (h5 : sc ≤ 5) : MetI l yX8_undo wsX8_undo 1 G (mW G a P Sp Hs sc T tl tp fa fr fn N) [.ref (a 0)] (fun r v => r = nI (sc - 1) ∧ v = mW G a (brF P 0 Hs (246 * (sc - 1))) Sp Hs (sc - 1) T tl tp fa fr fn N) := by
  refine MetI.by (cc := cX8_undo) (nL := 1) (ret := some .int) (by decide +kernel) rfl (Nat.le_of_ble_eq_true rfl) ?_
  intro p e s m args below meth c F w ls hl
  have hl : lv_has ls 1 [(0, .ref (a 0))] := hl
  have hts := F.ts
  have iX8 : ∀ w ∈ wsX80, w ∈ wsX8_undo := by decide +kernel
  have f7 := hts (.fieldLink RX8 7 "CoreMelterModel" "m" "[I") (by decide +kernel)
  have f16 := hts (.fieldLink RX8 16 "CoreMelterModel" "states" "[I") (by decide +kernel)
  have f25 := hts (.fieldLink RX8 25 "CoreMelterModel" "stateCount" "I") (by decide +kernel)
  refine lv_aload_n F.1 F.2.1 dX8_undo_0 rfl (lv_at hl 0 rfl) ?_
  refine r_get F w 0 3 iX8 f25 rfl rfl rfl (by decide) rfl dX8_undo_1 ?_
  refine r_zne (tgt := 10) F dX8_undo_4 (by decide) (by omega) (fun c4 => ?_) (fun c4 => ?_)
  · skip
    refine lv_aload_n F.1 F.2.1 dX8_undo_10 rfl (lv_at hl 0 rfl) ?_
    refine lv_dup F.1 F.2.1 dX8_undo_11 rfl ?_
    refine r_get F w 0 3 iX8 f25 rfl rfl rfl (by decide) rfl dX8_undo_12 ?_
    refine lv_iconst (v := nI 1) F.1 F.2.1 dX8_undo_15 (by decide) ?_
    refine r_isub F dX8_undo_16 (by omega) ?_
    refine r_put (ws' := mW G a P Sp Hs (sc - 1) T tl tp fa fr fn N) F w 0 3 iX8 okX8 f25 rfl rfl rfl (by decide) (by decide +kernel) (Nat.le_of_ble_eq_true rfl) dX8_undo_17 rfl (fun H locs w => ?_)
    refine lv_aload_n F.1 F.2.1 dX8_undo_20 rfl (lv_at hl 0 rfl) ?_
    refine r_get F w 0 2 iX8 f16 rfl rfl rfl (by decide) rfl dX8_undo_21 ?_
    refine lv_sipush (v := nI 246) F.1 F.2.1 dX8_undo_24 (by decide) ?_
    refine lv_aload_n F.1 F.2.1 dX8_undo_27 rfl (lv_at hl 0 rfl) ?_
    refine r_get F w 0 3 iX8 f25 rfl rfl rfl (by decide) rfl dX8_undo_28 ?_
    refine r_imul F dX8_undo_31 ?_
    refine lv_aload_n F.1 F.2.1 dX8_undo_32 rfl (lv_at hl 0 rfl) ?_
    refine r_get F w 0 0 iX8 f7 rfl rfl rfl (by decide) rfl dX8_undo_33 ?_
    refine lv_iconst (v := nI 0) F.1 F.2.1 dX8_undo_36 (by decide) ?_
    refine r_callSV (rest := []) F w (c_X8_bring l G (a 3) (a 1) 1230 246 (246 * (sc - 1)) 0 Hs P (by decide) (by decide) (by omega) (by omega)) gX8_undo_X8_bring [3, 1] [0, 2, 4, 5] (nA0 := 4) rfl (by decide +kernel) rfl ⟨Nat.le_of_ble_eq_true rfl, Nat.le_of_ble_eq_true rfl⟩ ⟨Nat.le_of_ble_eq_true rfl, Nat.le_of_ble_eq_true rfl⟩ rfl rfl rfl rfl rfl hl rfl (Nat.le_of_ble_eq_true rfl) dX8_undo_37 (fun w1 H locs hp w => ?_)
    obtain rfl := hp
    have w := w.sub (ws' := mW G a (brF P 0 Hs (246 * (sc - 1))) Sp Hs (sc - 1) T tl tp fa fr fn N) [0, 5, 1, 4, 2, 3] (by decide) rfl
    refine lv_aload_n F.1 F.2.1 dX8_undo_40 rfl (lv_at hl 0 rfl) ?_
    refine r_get F w 0 3 iX8 f25 rfl rfl rfl (by decide) rfl dX8_undo_41 ?_
    exact r_ireturn F w dX8_undo_44 (⟨rfl, rfl⟩)
  · exact absurd c4 (by omega)
