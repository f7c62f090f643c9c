/-! ===== one segment of a text ===== -/
abbrev qw (T : Nat → Nat) (tl q : Nat) : Nat := q + wl T tl q
def mny (T : Nat → Nat) (tl q : Nat) : Nat := if kdT T tl q = 1 then 1 else 3
def wiN (T : Nat → Nat) (tl q i : Nat) : Nat := if rngB (kdT T tl q) i (numV T tl (qw T tl q) i) = 1 then 0 else 1
/-- the first of the segment's numbers that is out of its range -/
def wi (T : Nat → Nat) (tl q : Nat) : Nat := ft (wiN T tl q) 1 (mny T tl q)
abbrev mq (T : Nat → Nat) (tl q : Nat) : Nat := mi T tl (qw T tl q) (mny T tl q)
/-- why the segment at q isn't one, n segments lying below it; 0 if it is -/
def sgR (T : Nat → Nat) (tl q n : Nat) : Nat := if kdT T tl q = 3 then 1 else if mq T tl q < mny T tl q then 2 else if wi T tl q < mny T tl q then 3 else if 20 ≤ n then 4 else if chT T tl (ps T tl (qw T tl q) (mny T tl q)) = 59 then 0 else 5
def sgN (T : Nat → Nat) (tl q : Nat) : Nat := if kdT T tl q = 3 then 0 else if mq T tl q < mny T tl q then mq T tl q + 1 else if wi T tl q < mny T tl q then wi T tl q + 1 else 0
def sgE (T : Nat → Nat) (tl q : Nat) : Nat := ps T tl (qw T tl q) (mny T tl q) + 1
theorem mny_le (T : Nat → Nat) (tl q : Nat) : 1 ≤ mny T tl q ∧ mny T tl q ≤ 3 := by
  unfold mny
  split <;> omega
theorem kdT_le (T : Nat → Nat) (tl q : Nat) : kdT T tl q ≤ 3 := by
  unfold kdT kdF
  split
  · omega
  · split
    · omega
    · split <;> omega
theorem rngB_1 (k i x : Nat) : rngB k i x ≤ 1 := by
  unfold rngB
  repeat (first | split | omega)
theorem nI_m4 {k : Nat} (h : k < 2 ^ 31) : nI k ≠ -4 := fun z => nI_pos h (by rw [z]; decide)
theorem wl_le (T : Nat → Nat) (tl q : Nat) : wl T tl q ≤ tl - q := ft_le _ _ _
theorem wi_at {T : Nat → Nat} {tl q u : Nat} (h : u < mny T tl q) (h2 : ∀ j, j < u → wiN T tl q j < 1) (h3 : rngB (kdT T tl q) u (numV T tl (qw T tl q) u) = 0) : wi T tl q = u := ft_at h h2 (by
  unfold wiN
  rw [h3, if_neg (by decide)]
  exact Nat.le_refl _)
theorem wi_all {T : Nat → Nat} {tl q : Nat} (h2 : ∀ j, j < mny T tl q → wiN T tl q j < 1) : wi T tl q = mny T tl q := ft_all h2
theorem wiN_1 {T : Nat → Nat} {tl q u : Nat} (h : ¬ rngB (kdT T tl q) u (numV T tl (qw T tl q) u) = 0) : wiN T tl q u < 1 := by
  have := rngB_1 (kdT T tl q) u (numV T tl (qw T tl q) u)
  unfold wiN
  rw [if_pos (by omega)]
  decide
set_option maxRecDepth 100000 in
set_option maxHeartbeats 4000000 in
theorem c_X8_readSegmentA (l : Launch) (G : KG) (a P Sp Hs T N : Nat → Nat) (sc tl tp fa fr fn : Nat) (hT : TxtOk T) (h1 : tl ≤ 100) (hp : tp ≤ tl) (n1 : Nat) (hn1 : n1 < 2 ^ 31) (hk3 : kdT T tl tp = 3) : MetI l yX8_readSegment wsX8_readSegment 3 G (mW G a P Sp Hs sc T tl tp fa fr fn N) [.ref (a 0), .int (nI n1)] (fun r v => (sgR T tl tp n1 = 0 ∧ r = nI (kdT T tl tp) ∧ ∃ M : Nat → Nat, (∀ j, j < 3 → M j = fnN T tl (qw T tl tp) (mny T tl tp) j) ∧ v = mW G a P Sp Hs sc T tl (sgE T tl tp) tp fr fn M) ∨ (sgR T tl tp n1 ≠ 0 ∧ r = -4 ∧ ∃ (t2 : Nat) (M : Nat → Nat), v = mW G a P Sp Hs sc T tl t2 tp (sgR T tl tp n1) (sgN T tl tp) M)) := by
  refine MetI.by (cc := cX8_readSegment) (nL := 5) (ret := some .int) (by decide +kernel) rfl (Nat.le_of_ble_eq_true rfl) ?_
  intro p e s m args below meth c F w ls hl
  have hl : lv_has ls 5 [(0, .ref (a 0)), (1, .int (nI n1))] := hl
  have hts := F.ts
  have iX8 : ∀ w ∈ wsX80, w ∈ wsX8_readSegment := by decide +kernel
  have f122 := hts (.fieldLink RX8 122 "CoreMelterModel" "at" "I") (by decide +kernel)
  have f146 := hts (.fieldLink RX8 146 "CoreMelterModel" "faultAt" "I") (by decide +kernel)
  refine lv_aload_n F.1 F.2.1 dX8_readSegment_0 rfl (lv_at hl 0 rfl) ?_
  refine lv_aload_n F.1 F.2.1 dX8_readSegment_1 rfl (lv_at hl 0 rfl) ?_
  refine r_get F w 0 6 iX8 f122 rfl rfl rfl (by decide) rfl dX8_readSegment_2 ?_
  refine r_put (ws' := mW G a P Sp Hs sc T tl tp tp fr fn N) F w 0 7 iX8 okX8 f146 rfl rfl rfl (by decide) (by decide +kernel) (Nat.le_of_ble_eq_true rfl) dX8_readSegment_5 rfl (fun H locs w => ?_)
  refine lv_aload_n F.1 F.2.1 dX8_readSegment_8 rfl (lv_at hl 0 rfl) ?_
  refine r_callVI (rest := []) F w (c_X8_readKind l G a P Sp Hs T N sc tl tp tp fr fn hT h1 (by omega)) gX8_readSegment_X8_readKind [0, 1, 2, 3, 4, 5] [] (nA0 := 0) rfl (by decide +kernel) rfl ⟨Nat.le_of_ble_eq_true rfl, Nat.le_of_ble_eq_true rfl⟩ ⟨Nat.le_of_ble_eq_true rfl, Nat.le_of_ble_eq_true rfl⟩ rfl rfl rfl rfl rfl rfl rfl hl rfl (Nat.le_of_ble_eq_true rfl) dX8_readSegment_9 (fun r_9 w1 H locs hp w => ?_)
  obtain ⟨rfl, rfl⟩ := hp
  have w := w.sub (ws' := mW G a P Sp Hs sc T tl (tp + wl T tl tp) tp fr fn N) [0, 1, 2, 3, 4, 5] (by decide) rfl
  refine r_to (y := ((-4))) (if_pos hk3) ?_
  refine lv_istore_n (lv' := [(2, .int ((-4))), (0, .ref (a 0)), (1, .int (nI n1))]) F.1 F.2.1 dX8_readSegment_12 rfl hl (by decide) rfl (fun ls hl => ?_)
  refine lv_iload_n F.1 F.2.1 dX8_readSegment_13 rfl (lv_at hl 0 rfl) ?_
  refine lv_bipush (v := (-4)) F.1 F.2.1 dX8_readSegment_14 (by decide) ?_
  refine lv_icmp_ne (tgt := 26) F.1 F.2.1 dX8_readSegment_16 (by decide) (fun c16 => ?_) (fun c16 => ?_)
  · exact absurd rfl c16
  · skip
    refine lv_aload_n F.1 F.2.1 dX8_readSegment_19 rfl (lv_at hl 1 rfl) ?_
    refine lv_iconst (v := nI 1) F.1 F.2.1 dX8_readSegment_20 (by decide) ?_
    refine lv_iconst (v := nI 0) F.1 F.2.1 dX8_readSegment_21 (by decide) ?_
    refine r_callVI (rest := []) F w (c_X8_fails l G a P Sp Hs T N sc tl (tp + wl T tl tp) tp fr fn 1 0) gX8_readSegment_X8_fails [0, 1, 2, 3, 4, 5] [] (nA0 := 2) rfl (by decide +kernel) rfl ⟨Nat.le_of_ble_eq_true rfl, Nat.le_of_ble_eq_true rfl⟩ ⟨Nat.le_of_ble_eq_true rfl, Nat.le_of_ble_eq_true rfl⟩ rfl rfl rfl rfl rfl rfl rfl hl rfl (Nat.le_of_ble_eq_true rfl) dX8_readSegment_22 (fun r_22 w1 H locs hp w => ?_)
    obtain ⟨rfl, rfl⟩ := hp
    have w := w.sub (ws' := mW G a P Sp Hs sc T tl (tp + wl T tl tp) tp 1 0 N) [0, 1, 2, 3, 4, 5] (by decide) rfl
    exact r_ireturn F w dX8_readSegment_25 (Or.inr (by have e1 : sgR T tl tp n1 = 1 := if_pos hk3; have e2 : sgN T tl tp = 0 := if_pos hk3; exact ⟨by rw [e1]; decide, rfl, _, _, by rw [e1, e2]⟩))
set_option maxRecDepth 100000 in
set_option maxHeartbeats 4000000 in
theorem c_X8_readSegmentB (l : Launch) (G : KG) (a P Sp Hs T N : Nat → Nat) (sc tl tp fa fr fn : Nat) (hT : TxtOk T) (h1 : tl ≤ 100) (hp : tp ≤ tl) (n1 : Nat) (hn1 : n1 < 2 ^ 31) (hk3 : ¬ kdT T tl tp = 3) : MetI l yX8_readSegment wsX8_readSegment 3 G (mW G a P Sp Hs sc T tl tp fa fr fn N) [.ref (a 0), .int (nI n1)] (fun r v => (sgR T tl tp n1 = 0 ∧ r = nI (kdT T tl tp) ∧ ∃ M : Nat → Nat, (∀ j, j < 3 → M j = fnN T tl (qw T tl tp) (mny T tl tp) j) ∧ v = mW G a P Sp Hs sc T tl (sgE T tl tp) tp fr fn M) ∨ (sgR T tl tp n1 ≠ 0 ∧ r = -4 ∧ ∃ (t2 : Nat) (M : Nat → Nat), v = mW G a P Sp Hs sc T tl t2 tp (sgR T tl tp n1) (sgN T tl tp) M)) := by
  refine MetI.by (cc := cX8_readSegment) (nL := 5) (ret := some .int) (by decide +kernel) rfl (Nat.le_of_ble_eq_true rfl) ?_
  intro p e s m args below meth c F w ls hl
  have hl : lv_has ls 5 [(0, .ref (a 0)), (1, .int (nI n1))] := hl
  have hts := F.ts
  have iX8 : ∀ w ∈ wsX80, w ∈ wsX8_readSegment := by decide +kernel
  have f22 := hts (.fieldLink RX8 22 "CoreMelterModel" "numbers" "[I") (by decide +kernel)
  have f122 := hts (.fieldLink RX8 122 "CoreMelterModel" "at" "I") (by decide +kernel)
  have f146 := hts (.fieldLink RX8 146 "CoreMelterModel" "faultAt" "I") (by decide +kernel)
  have hk2 : kdT T tl tp ≤ 2 := by have := kdT_le T tl tp; omega
  obtain ⟨hy1, hy3⟩ := mny_le T tl tp
  have hwl := wl_le T tl tp
  refine lv_aload_n F.1 F.2.1 dX8_readSegment_0 rfl (lv_at hl 0 rfl) ?_
  refine lv_aload_n F.1 F.2.1 dX8_readSegment_1 rfl (lv_at hl 0 rfl) ?_
  refine r_get F w 0 6 iX8 f122 rfl rfl rfl (by decide) rfl dX8_readSegment_2 ?_
  refine r_put (ws' := mW G a P Sp Hs sc T tl tp tp fr fn N) F w 0 7 iX8 okX8 f146 rfl rfl rfl (by decide) (by decide +kernel) (Nat.le_of_ble_eq_true rfl) dX8_readSegment_5 rfl (fun H locs w => ?_)
  refine lv_aload_n F.1 F.2.1 dX8_readSegment_8 rfl (lv_at hl 0 rfl) ?_
  refine r_callVI (rest := []) F w (c_X8_readKind l G a P Sp Hs T N sc tl tp tp fr fn hT h1 (by omega)) gX8_readSegment_X8_readKind [0, 1, 2, 3, 4, 5] [] (nA0 := 0) rfl (by decide +kernel) rfl ⟨Nat.le_of_ble_eq_true rfl, Nat.le_of_ble_eq_true rfl⟩ ⟨Nat.le_of_ble_eq_true rfl, Nat.le_of_ble_eq_true rfl⟩ rfl rfl rfl rfl rfl rfl rfl hl rfl (Nat.le_of_ble_eq_true rfl) dX8_readSegment_9 (fun r_9 w1 H locs hp w => ?_)
  obtain ⟨rfl, rfl⟩ := hp
  have w := w.sub (ws' := mW G a P Sp Hs sc T tl (tp + wl T tl tp) tp fr fn N) [0, 1, 2, 3, 4, 5] (by decide) rfl
  refine r_to (y := (nI (kdT T tl tp))) (if_neg hk3) ?_
  refine lv_istore_n (lv' := [(2, .int (nI (kdT T tl tp))), (0, .ref (a 0)), (1, .int (nI n1))]) F.1 F.2.1 dX8_readSegment_12 rfl hl (by decide) rfl (fun ls hl => ?_)
  refine lv_iload_n F.1 F.2.1 dX8_readSegment_13 rfl (lv_at hl 0 rfl) ?_
  refine lv_bipush (v := (-4)) F.1 F.2.1 dX8_readSegment_14 (by decide) ?_
  refine lv_icmp_ne (tgt := 26) F.1 F.2.1 dX8_readSegment_16 (by decide) (fun c16 => ?_) (fun c16 => ?_)
  · skip
    have L36 :  ∀ (H : Heap) (locs : List Loc), Wd G s (va_A (mW G a P Sp Hs sc T tl tp fa fr fn N) s.heap.size) (mW G a P Sp Hs sc T tl (tp + wl T tl tp) tp fr fn N) H locs → ∀ ls : Array Slot, lv_has ls 5 [(2, .int (nI (kdT T tl tp))), (0, .ref (a 0)), (1, .int (nI n1))] → W p l e (rmK 3 0 0) s m args below meth c H locs 0 0 (MQ below (QI G (mW G a P Sp Hs sc T tl tp fa fr fn N) s.heap.size (fun r v => (sgR T tl tp n1 = 0 ∧ r = nI (kdT T tl tp) ∧ ∃ M : Nat → Nat, (∀ j, j < 3 → M j = fnN T tl (qw T tl tp) (mny T tl tp) j) ∧ v = mW G a P Sp Hs sc T tl (sgE T tl tp) tp fr fn M) ∨ (sgR T tl tp n1 ≠ 0 ∧ r = -4 ∧ ∃ (t2 : Nat) (M : Nat → Nat), v = mW G a P Sp Hs sc T tl t2 tp (sgR T tl tp n1) (sgN T tl tp) M))) args s 0 0 (va_A (mW G a P Sp Hs sc T tl tp fa fr fn N) s.heap.size)) (F0 m 36 ls [.int (nI (mny T tl tp))]) := by
      intro  H locs w ls hl
      refine lv_istore_n (lv' := [(3, .int (nI (mny T tl tp))), (2, .int (nI (kdT T tl tp))), (0, .ref (a 0)), (1, .int (nI n1))]) F.1 F.2.1 dX8_readSegment_36 rfl hl (by decide) rfl (fun ls hl => ?_)
      refine lv_aload_n F.1 F.2.1 dX8_readSegment_37 rfl (lv_at hl 2 rfl) ?_
      refine r_get F w 0 10 iX8 f22 rfl rfl rfl (by decide) rfl dX8_readSegment_38 ?_
      refine lv_iconst (v := nI 1) F.1 F.2.1 dX8_readSegment_41 (by decide) ?_
      refine lv_iconst (v := nI 0) F.1 F.2.1 dX8_readSegment_42 (by decide) ?_
      refine r_iast (ws' := mW G a P Sp Hs sc T tl (tp + wl T tl tp) tp fr fn (up N 1 0)) F w 5 rfl (by omega) (by decide) dX8_readSegment_43 rfl (fun H locs w => ?_)
      refine lv_aload_n F.1 F.2.1 dX8_readSegment_44 rfl (lv_at hl 2 rfl) ?_
      refine r_get F w 0 10 iX8 f22 rfl rfl rfl (by decide) rfl dX8_readSegment_45 ?_
      refine lv_iconst (v := nI 2) F.1 F.2.1 dX8_readSegment_48 (by decide) ?_
      refine lv_iconst (v := nI 0) F.1 F.2.1 dX8_readSegment_49 (by decide) ?_
      refine r_iast (ws' := mW G a P Sp Hs sc T tl (tp + wl T tl tp) tp fr fn (up (up N 1 0) 2 0)) F w 5 rfl (by omega) (by decide) dX8_readSegment_50 rfl (fun H locs w => ?_)
      refine lv_iconst (v := nI 0) F.1 F.2.1 dX8_readSegment_51 (by decide) ?_
      refine lv_istore (lv' := [(4, .int (nI 0)), (3, .int (nI (mny T tl tp))), (2, .int (nI (kdT T tl tp))), (0, .ref (a 0)), (1, .int (nI n1))]) F.1 F.2.1 dX8_readSegment_52 hl (by decide) rfl (fun ls hl => ?_)
      have L54 : ∀ n : Nat, ∀ (k : Nat) (M : Nat → Nat), (k ≤ mny T tl tp) → (∀ j, j < k → M j = numV T tl (qw T tl tp) j) → (∀ j, k ≤ j → 1 ≤ j → j < 3 → M j = 0) → (∀ j, j < k → nbN T tl (qw T tl tp) j < 1) → (ps T tl (qw T tl tp) k ≤ tl) → mny T tl tp - k < n → ∀ (H : Heap) (locs : List Loc), Wd G s (va_A (mW G a P Sp Hs sc T tl tp fa fr fn N) s.heap.size) (mW G a P Sp Hs sc T tl (ps T tl (qw T tl tp) k) tp fr fn M) H locs → ∀ ls : Array Slot, lv_has ls 5 [(0, .ref (a 0)), (1, .int (nI n1)), (2, .int (nI (kdT T tl tp))), (3, .int (nI (mny T tl tp))), (4, .int (nI k))] → W p l e (rmK 3 0 0) s m args below meth c H locs 0 0 (MQ below (QI G (mW G a P Sp Hs sc T tl tp fa fr fn N) s.heap.size (fun r v => (sgR T tl tp n1 = 0 ∧ r = nI (kdT T tl tp) ∧ ∃ M : Nat → Nat, (∀ j, j < 3 → M j = fnN T tl (qw T tl tp) (mny T tl tp) j) ∧ v = mW G a P Sp Hs sc T tl (sgE T tl tp) tp fr fn M) ∨ (sgR T tl tp n1 ≠ 0 ∧ r = -4 ∧ ∃ (t2 : Nat) (M : Nat → Nat), v = mW G a P Sp Hs sc T tl t2 tp (sgR T tl tp n1) (sgN T tl tp) M))) args s 0 0 (va_A (mW G a P Sp Hs sc T tl tp fa fr fn N) s.heap.size)) (F0 m 54 ls []) := by
        intro n
        induction n with
        | zero => intro k M h2 hM hz ho h4 hm; exact absurd hm (Nat.not_lt_zero _)
        | succ n ih54 =>
          intro k M h2 hM hz ho h4 hm54 H locs w ls hl
          refine lv_iload F.1 F.2.1 dX8_readSegment_54 (lv_at hl 4 rfl) ?_
          refine lv_iload_n F.1 F.2.1 dX8_readSegment_56 rfl (lv_at hl 3 rfl) ?_
          refine r_cge (tgt := 85) F dX8_readSegment_57 (by decide) (by omega) (by omega) (fun c57 => ?_) (fun c57 => ?_)
          · skip
            have hkm : k = mny T tl tp := by omega
            have hmi : mq T tl tp = mny T tl tp := mi_all (by rw [← hkm]; exact ho)
            refine lv_iconst (v := nI 0) F.1 F.2.1 dX8_readSegment_85 (by decide) ?_
            refine lv_istore (lv' := [(4, .int (nI 0)), (0, .ref (a 0)), (1, .int (nI n1)), (2, .int (nI (kdT T tl tp))), (3, .int (nI (mny T tl tp)))]) F.1 F.2.1 dX8_readSegment_86 hl (by decide) rfl (fun ls hl => ?_)
            have L88 : ∀ n : Nat, ∀ (u : Nat), (u ≤ mny T tl tp) → (∀ j, j < u → wiN T tl tp j < 1) → mny T tl tp - u < n → ∀ (H : Heap) (locs : List Loc), Wd G s (va_A (mW G a P Sp Hs sc T tl tp fa fr fn N) s.heap.size) (mW G a P Sp Hs sc T tl (ps T tl (qw T tl tp) k) tp fr fn M) H locs → ∀ ls : Array Slot, lv_has ls 5 [(0, .ref (a 0)), (1, .int (nI n1)), (2, .int (nI (kdT T tl tp))), (3, .int (nI (mny T tl tp))), (4, .int (nI u))] → W p l e (rmK 3 0 0) s m args below meth c H locs 0 0 (MQ below (QI G (mW G a P Sp Hs sc T tl tp fa fr fn N) s.heap.size (fun r v => (sgR T tl tp n1 = 0 ∧ r = nI (kdT T tl tp) ∧ ∃ M : Nat → Nat, (∀ j, j < 3 → M j = fnN T tl (qw T tl tp) (mny T tl tp) j) ∧ v = mW G a P Sp Hs sc T tl (sgE T tl tp) tp fr fn M) ∨ (sgR T tl tp n1 ≠ 0 ∧ r = -4 ∧ ∃ (t2 : Nat) (M : Nat → Nat), v = mW G a P Sp Hs sc T tl t2 tp (sgR T tl tp n1) (sgN T tl tp) M))) args s 0 0 (va_A (mW G a P Sp Hs sc T tl tp fa fr fn N) s.heap.size)) (F0 m 88 ls []) := by
              intro n
              induction n with
              | zero => intro u h5 h6 hm; exact absurd hm (Nat.not_lt_zero _)
              | succ n ih88 =>
                intro u h5 h6 hm88 H locs w ls hl
                refine lv_iload F.1 F.2.1 dX8_readSegment_88 (lv_at hl 4 rfl) ?_
                refine lv_iload_n F.1 F.2.1 dX8_readSegment_90 rfl (lv_at hl 3 rfl) ?_
                refine r_cge (tgt := 126) F dX8_readSegment_91 (by decide) (by omega) (by omega) (fun c91 => ?_) (fun c91 => ?_)
                · skip
                  have hwi : wi T tl tp = mny T tl tp := wi_all (by rw [show mny T tl tp = u by omega]; exact h6)
                  refine lv_iload_n F.1 F.2.1 dX8_readSegment_126 rfl (lv_at hl 1 rfl) ?_
                  refine lv_bipush (v := nI 20) F.1 F.2.1 dX8_readSegment_127 (by decide) ?_
                  refine r_clt (tgt := 139) F dX8_readSegment_129 (by decide) (by omega) (by omega) (fun c129 => ?_) (fun c129 => ?_)
                  · skip
                    refine lv_aload_n F.1 F.2.1 dX8_readSegment_139 rfl (lv_at hl 0 rfl) ?_
                    refine r_callVI (rest := []) F w (c_X8_here l G a P Sp Hs T M sc tl (ps T tl (qw T tl tp) k) tp fr fn hT h1 (by omega)) gX8_readSegment_X8_here [0, 1, 2, 3, 4, 5] [] (nA0 := 0) rfl (by decide +kernel) rfl ⟨Nat.le_of_ble_eq_true rfl, Nat.le_of_ble_eq_true rfl⟩ ⟨Nat.le_of_ble_eq_true rfl, Nat.le_of_ble_eq_true rfl⟩ rfl rfl rfl rfl rfl rfl rfl hl rfl (Nat.le_of_ble_eq_true rfl) dX8_readSegment_140 (fun r_140 w1 H locs hp w => ?_)
                    obtain ⟨rfl, rfl⟩ := hp
                    have w := w.sub (ws' := mW G a P Sp Hs sc T tl (ps T tl (qw T tl tp) k) tp fr fn M) [0, 1, 2, 3, 4, 5] (by decide) rfl
                    refine lv_bipush (v := nI 59) F.1 F.2.1 dX8_readSegment_143 (by decide) ?_
                    refine r_ceq (tgt := 155) F dX8_readSegment_145 (by decide) (by have := chT_lt hT tl (ps T tl (qw T tl tp) k); omega) (by omega) (fun c145 => ?_) (fun c145 => ?_)
                    · skip
                      refine lv_aload_n F.1 F.2.1 dX8_readSegment_155 rfl (lv_at hl 0 rfl) ?_
                      refine lv_dup F.1 F.2.1 dX8_readSegment_156 rfl ?_
                      refine r_get F w 0 6 iX8 f122 rfl rfl rfl (by decide) rfl dX8_readSegment_157 ?_
                      refine lv_iconst (v := nI 1) F.1 F.2.1 dX8_readSegment_160 (by decide) ?_
                      refine r_iadd F dX8_readSegment_161 ?_
                      refine r_put (ws' := mW G a P Sp Hs sc T tl ((ps T tl (qw T tl tp) k) + 1) tp fr fn M) F w 0 6 iX8 okX8 f122 rfl rfl rfl (by decide) (by decide +kernel) (Nat.le_of_ble_eq_true rfl) dX8_readSegment_162 rfl (fun H locs w => ?_)
                      refine lv_iload_n F.1 F.2.1 dX8_readSegment_165 rfl (lv_at hl 2 rfl) ?_
                      exact r_ireturn F w dX8_readSegment_166 (Or.inl ⟨by unfold sgR; rw [if_neg hk3, if_neg (by omega), if_neg (by omega), if_neg (by omega), if_pos (by rw [← hkm]; exact c145)], rfl, M, fun j hj => by unfold fnN; split; (exact hM j (by omega)); (exact hz j (by omega) (by omega) hj), by unfold sgE; rw [hkm]⟩)
                    · skip
                      refine lv_aload_n F.1 F.2.1 dX8_readSegment_148 rfl (lv_at hl 0 rfl) ?_
                      refine lv_iconst (v := nI 5) F.1 F.2.1 dX8_readSegment_149 (by decide) ?_
                      refine lv_iconst (v := nI 0) F.1 F.2.1 dX8_readSegment_150 (by decide) ?_
                      refine r_callVI (rest := []) F w (c_X8_fails l G a P Sp Hs T M sc tl (ps T tl (qw T tl tp) k) tp fr fn 5 0) gX8_readSegment_X8_fails [0, 1, 2, 3, 4, 5] [] (nA0 := 2) rfl (by decide +kernel) rfl ⟨Nat.le_of_ble_eq_true rfl, Nat.le_of_ble_eq_true rfl⟩ ⟨Nat.le_of_ble_eq_true rfl, Nat.le_of_ble_eq_true rfl⟩ rfl rfl rfl rfl rfl rfl rfl hl rfl (Nat.le_of_ble_eq_true rfl) dX8_readSegment_151 (fun r_151 w1 H locs hp w => ?_)
                      obtain ⟨rfl, rfl⟩ := hp
                      have w := w.sub (ws' := mW G a P Sp Hs sc T tl (ps T tl (qw T tl tp) k) tp 5 0 M) [0, 1, 2, 3, 4, 5] (by decide) rfl
                      exact r_ireturn F w dX8_readSegment_154 (Or.inr (by have e1 : sgR T tl tp n1 = 5 := (by unfold sgR; rw [if_neg hk3, if_neg (by omega), if_neg (by omega), if_neg (by omega), if_neg (by rw [← hkm]; exact c145)]); have e2 : sgN T tl tp = 0 := (by unfold sgN; rw [if_neg hk3, if_neg (by omega), if_neg (by omega)]); exact ⟨by rw [e1]; decide, rfl, _, _, by rw [e1, e2]⟩))
                  · skip
                    refine lv_aload_n F.1 F.2.1 dX8_readSegment_132 rfl (lv_at hl 0 rfl) ?_
                    refine lv_iconst (v := nI 4) F.1 F.2.1 dX8_readSegment_133 (by decide) ?_
                    refine lv_iconst (v := nI 0) F.1 F.2.1 dX8_readSegment_134 (by decide) ?_
                    refine r_callVI (rest := []) F w (c_X8_fails l G a P Sp Hs T M sc tl (ps T tl (qw T tl tp) k) tp fr fn 4 0) gX8_readSegment_X8_fails [0, 1, 2, 3, 4, 5] [] (nA0 := 2) rfl (by decide +kernel) rfl ⟨Nat.le_of_ble_eq_true rfl, Nat.le_of_ble_eq_true rfl⟩ ⟨Nat.le_of_ble_eq_true rfl, Nat.le_of_ble_eq_true rfl⟩ rfl rfl rfl rfl rfl rfl rfl hl rfl (Nat.le_of_ble_eq_true rfl) dX8_readSegment_135 (fun r_135 w1 H locs hp w => ?_)
                    obtain ⟨rfl, rfl⟩ := hp
                    have w := w.sub (ws' := mW G a P Sp Hs sc T tl (ps T tl (qw T tl tp) k) tp 4 0 M) [0, 1, 2, 3, 4, 5] (by decide) rfl
                    exact r_ireturn F w dX8_readSegment_138 (Or.inr (by have e1 : sgR T tl tp n1 = 4 := (by unfold sgR; rw [if_neg hk3, if_neg (by omega), if_neg (by omega), if_pos (by omega)]); have e2 : sgN T tl tp = 0 := (by unfold sgN; rw [if_neg hk3, if_neg (by omega), if_neg (by omega)]); exact ⟨by rw [e1]; decide, rfl, _, _, by rw [e1, e2]⟩))
                · skip
                  refine lv_iload_n F.1 F.2.1 dX8_readSegment_94 rfl (lv_at hl 2 rfl) ?_
                  refine lv_iload F.1 F.2.1 dX8_readSegment_95 (lv_at hl 4 rfl) ?_
                  refine lv_aload_n F.1 F.2.1 dX8_readSegment_97 rfl (lv_at hl 0 rfl) ?_
                  refine r_get F w 0 10 iX8 f22 rfl rfl rfl (by decide) rfl dX8_readSegment_98 ?_
                  refine lv_iload F.1 F.2.1 dX8_readSegment_101 (lv_at hl 4 rfl) ?_
                  refine r_iald F w 5 rfl (by omega) (by decide) dX8_readSegment_103 ?_
                  refine r_callS0 (rest := []) F w (c_X8_isRanged l G (kdT T tl tp) u (M u) hk2 (by omega) (by rw [hM u (by omega)]; exact numV_999 _ _ _ _)) gX8_readSegment_X8_isRanged (nA0 := 3) rfl (by decide +kernel) rfl ⟨Nat.le_of_ble_eq_true rfl, Nat.le_of_ble_eq_true rfl⟩ ⟨Nat.le_of_ble_eq_true rfl, Nat.le_of_ble_eq_true rfl⟩ hl rfl (Nat.le_of_ble_eq_true rfl) dX8_readSegment_104 (fun r_104 w1 H locs hp w => ?_)
                  obtain ⟨rfl, rfl⟩ := hp
                  refine r_zne (tgt := 120) F dX8_readSegment_107 (by decide) (by have := rngB_1 (kdT T tl tp) u (M u); omega) (fun c107 => ?_) (fun c107 => ?_)
                  · skip
                    refine lv_iinc (v := nI (u + 1)) (lv' := [(4, .int (nI (u + 1))), (0, .ref (a 0)), (1, .int (nI n1)), (2, .int (nI (kdT T tl tp))), (3, .int (nI (mny T tl tp)))]) F.1 F.2.1 dX8_readSegment_120 hl (k := 4) rfl (nI_add _ _) (by decide) rfl (fun ls hl => ?_)
                    refine lv_goto (tgt := 88) F.1 F.2.1 dX8_readSegment_123 (by decide) ?_
                    exact ih88 (u + 1) (by omega) (fun j hj => by rcases Nat.lt_succ_iff_lt_or_eq.mp hj with q | q; exact h6 j q; rw [q]; exact wiN_1 (by rw [← hM u (by omega)]; exact c107)) (by omega) _ _ w ls (lv_sub hl [1, 2, 3, 4, 0] rfl)
                  · skip
                    have hwi : wi T tl tp = u := wi_at c91 h6 (by rw [← hM u (by omega)]; exact c107)
                    refine lv_aload_n F.1 F.2.1 dX8_readSegment_110 rfl (lv_at hl 0 rfl) ?_
                    refine lv_iconst (v := nI 3) F.1 F.2.1 dX8_readSegment_111 (by decide) ?_
                    refine lv_iload F.1 F.2.1 dX8_readSegment_112 (lv_at hl 4 rfl) ?_
                    refine lv_iconst (v := nI 1) F.1 F.2.1 dX8_readSegment_114 (by decide) ?_
                    refine r_iadd F dX8_readSegment_115 ?_
                    refine r_callVI (rest := []) F w (c_X8_fails l G a P Sp Hs T M sc tl (ps T tl (qw T tl tp) k) tp fr fn 3 (u + 1)) gX8_readSegment_X8_fails [0, 1, 2, 3, 4, 5] [] (nA0 := 2) rfl (by decide +kernel) rfl ⟨Nat.le_of_ble_eq_true rfl, Nat.le_of_ble_eq_true rfl⟩ ⟨Nat.le_of_ble_eq_true rfl, Nat.le_of_ble_eq_true rfl⟩ rfl rfl rfl rfl rfl rfl rfl hl rfl (Nat.le_of_ble_eq_true rfl) dX8_readSegment_116 (fun r_116 w1 H locs hp w => ?_)
                    obtain ⟨rfl, rfl⟩ := hp
                    have w := w.sub (ws' := mW G a P Sp Hs sc T tl (ps T tl (qw T tl tp) k) tp 3 (u + 1) M) [0, 1, 2, 3, 4, 5] (by decide) rfl
                    exact r_ireturn F w dX8_readSegment_119 (Or.inr (by have e1 : sgR T tl tp n1 = 3 := (by unfold sgR; rw [if_neg hk3, if_neg (by omega), if_pos (by omega)]); have e2 : sgN T tl tp = u + 1 := (by unfold sgN; rw [if_neg hk3, if_neg (by omega), if_pos (by omega), hwi]); exact ⟨by rw [e1]; decide, rfl, _, _, by rw [e1, e2]⟩))
            exact L88 _ 0 (Nat.zero_le _) (fun j hj => absurd hj (Nat.not_lt_zero _)) (Nat.lt_succ_self _) _ _ w ls (lv_sub hl [1, 2, 3, 4, 0] rfl)
          · skip
            refine lv_aload_n F.1 F.2.1 dX8_readSegment_60 rfl (lv_at hl 0 rfl) ?_
            refine lv_iload F.1 F.2.1 dX8_readSegment_61 (lv_at hl 4 rfl) ?_
            refine r_callVI (rest := []) F w (c_X8_readNumber l G a P Sp Hs T M sc tl (ps T tl (qw T tl tp) k) tp fr fn hT h1 (by omega) k (by omega)) gX8_readSegment_X8_readNumber [0, 1, 2, 3, 4, 5] [] (nA0 := 1) rfl (by decide +kernel) rfl ⟨Nat.le_of_ble_eq_true rfl, Nat.le_of_ble_eq_true rfl⟩ ⟨Nat.le_of_ble_eq_true rfl, Nat.le_of_ble_eq_true rfl⟩ rfl rfl rfl rfl rfl rfl rfl hl rfl (Nat.le_of_ble_eq_true rfl) dX8_readSegment_63 (fun r_63 w1 H locs hp w => ?_)
            obtain ⟨rfl, t2, N2, rfl, hok⟩ := hp
            have w := w.sub (ws' := mW G a P Sp Hs sc T tl t2 tp fr fn N2) [0, 1, 2, 3, 4, 5] (by decide) rfl
            refine r_yne (tgt := 79) F dX8_readSegment_66 (by decide) (fun c66 => ?_) (fun c66 => ?_)
            · skip
              have w := w.is (ws' := mW G a P Sp Hs sc T tl (ps T tl (qw T tl tp) (k + 1)) tp fr fn (up M k (numV T tl (qw T tl tp) k))) (by obtain ⟨e1, e2⟩ := hok c66; rw [e1, e2]; rfl)
              refine lv_iinc (v := nI (k + 1)) (lv' := [(4, .int (nI (k + 1))), (0, .ref (a 0)), (1, .int (nI n1)), (2, .int (nI (kdT T tl tp))), (3, .int (nI (mny T tl tp)))]) F.1 F.2.1 dX8_readSegment_79 hl (k := 4) rfl (nI_add _ _) (by decide) rfl (fun ls hl => ?_)
              refine lv_goto (tgt := 54) F.1 F.2.1 dX8_readSegment_82 (by decide) ?_
              exact ih54 (k + 1) (up M k (numV T tl (qw T tl tp) k)) (by omega) (fun j hj => by by_cases q : j = k; (subst q; exact up_s _ _ _); (rw [up_n _ _ q]; exact hM j (by omega))) (fun j hj hj1 hj3 => by rw [up_n _ _ (by omega)]; exact hz j (by omega) hj1 hj3) (fun j hj => by rcases Nat.lt_succ_iff_lt_or_eq.mp hj with q | q; exact ho j q; rw [q]; exact nbN_lt.mpr c66) (ps_in h4 c66) (by omega) _ _ w ls (lv_sub hl [1, 2, 3, 4, 0] rfl)
            · skip
              have hmi : mq T tl tp = k := mi_at c57 ho c66
              refine lv_aload_n F.1 F.2.1 dX8_readSegment_69 rfl (lv_at hl 0 rfl) ?_
              refine lv_iconst (v := nI 2) F.1 F.2.1 dX8_readSegment_70 (by decide) ?_
              refine lv_iload F.1 F.2.1 dX8_readSegment_71 (lv_at hl 4 rfl) ?_
              refine lv_iconst (v := nI 1) F.1 F.2.1 dX8_readSegment_73 (by decide) ?_
              refine r_iadd F dX8_readSegment_74 ?_
              refine r_callVI (rest := []) F w (c_X8_fails l G a P Sp Hs T N2 sc tl t2 tp fr fn 2 (k + 1)) gX8_readSegment_X8_fails [0, 1, 2, 3, 4, 5] [] (nA0 := 2) rfl (by decide +kernel) rfl ⟨Nat.le_of_ble_eq_true rfl, Nat.le_of_ble_eq_true rfl⟩ ⟨Nat.le_of_ble_eq_true rfl, Nat.le_of_ble_eq_true rfl⟩ rfl rfl rfl rfl rfl rfl rfl hl rfl (Nat.le_of_ble_eq_true rfl) dX8_readSegment_75 (fun r_75 w1 H locs hp w => ?_)
              obtain ⟨rfl, rfl⟩ := hp
              have w := w.sub (ws' := mW G a P Sp Hs sc T tl t2 tp 2 (k + 1) N2) [0, 1, 2, 3, 4, 5] (by decide) rfl
              exact r_ireturn F w dX8_readSegment_78 (Or.inr (by have e1 : sgR T tl tp n1 = 2 := (by unfold sgR; rw [if_neg hk3, if_pos (by omega)]); have e2 : sgN T tl tp = k + 1 := (by unfold sgN; rw [if_neg hk3, if_pos (by omega), hmi]); exact ⟨by rw [e1]; decide, rfl, _, _, by rw [e1, e2]⟩))
      exact L54 _ 0 (up (up N 1 0) 2 0) (Nat.zero_le _) (fun j hj => absurd hj (Nat.not_lt_zero _)) (fun j _ hj1 hj3 => by rcases (show j = 1 ∨ j = 2 by omega) with rfl | rfl <;> simp [up]) (fun j hj => absurd hj (Nat.not_lt_zero _)) (by show tp + wl T tl tp ≤ tl; omega) (Nat.lt_succ_self _) _ _ w ls (lv_sub hl [3, 4, 2, 1, 0] rfl)
    refine lv_iload_n F.1 F.2.1 dX8_readSegment_26 rfl (lv_at hl 0 rfl) ?_
    refine lv_iconst (v := nI 1) F.1 F.2.1 dX8_readSegment_27 (by decide) ?_
    refine r_cne (tgt := 35) F dX8_readSegment_28 (by decide) (by omega) (by omega) (fun c28 => ?_) (fun c28 => ?_)
    · skip
      refine lv_iconst (v := nI 3) F.1 F.2.1 dX8_readSegment_35 (by decide) ?_
      refine r_to (y := (nI (mny T tl tp))) (by unfold mny; first | rw [if_pos c28] | rw [if_neg c28]) ?_
      exact L36  _ _ w ls (lv_sub hl [0, 1, 2] rfl)
    · skip
      refine lv_iconst (v := nI 1) F.1 F.2.1 dX8_readSegment_31 (by decide) ?_
      refine lv_goto (tgt := 36) F.1 F.2.1 dX8_readSegment_32 (by decide) ?_
      refine r_to (y := (nI (mny T tl tp))) (by unfold mny; first | rw [if_pos c28] | rw [if_neg c28]) ?_
      exact L36  _ _ w ls (lv_sub hl [0, 1, 2] rfl)
  · exact absurd c16 (nI_m4 (by omega))
theorem c_X8_readSegment (l : Launch) (G : KG) (a P Sp Hs T N : Nat → Nat) (sc tl tp fa fr fn : Nat) (hT : TxtOk T) (h1 : tl ≤ 100) (hp : tp ≤ tl) (n1 : Nat) (hn1 : n1 < 2 ^ 31) : MetI l yX8_readSegment wsX8_readSegment 3 G (mW G a P Sp Hs sc T tl tp fa fr fn N) [.ref (a 0), .int (nI n1)] (fun r v => (sgR T tl tp n1 = 0 ∧ r = nI (kdT T tl tp) ∧ ∃ M : Nat → Nat, (∀ j, j < 3 → M j = fnN T tl (qw T tl tp) (mny T tl tp) j) ∧ v = mW G a P Sp Hs sc T tl (sgE T tl tp) tp fr fn M) ∨ (sgR T tl tp n1 ≠ 0 ∧ r = -4 ∧ ∃ (t2 : Nat) (M : Nat → Nat), v = mW G a P Sp Hs sc T tl t2 tp (sgR T tl tp n1) (sgN T tl tp) M)) := by
  by_cases h : kdT T tl tp = 3
  · exact c_X8_readSegmentA l G a P Sp Hs T N sc tl tp fa fr fn hT h1 hp n1 hn1 h
  · exact c_X8_readSegmentB l G a P Sp Hs T N sc tl tp fa fr fn hT h1 hp n1 hn1 h
