/-! ===== a whole text ===== -/
/-- where the segment after j segments begins -/
def qj (T : Nat → Nat) (tl : Nat) : Nat → Nat
  | 0 => 0
  | j + 1 => sgE T tl (qj T tl j)
def gdN (T : Nat → Nat) (tl n j : Nat) : Nat := if qj T tl j < tl ∧ sgR T tl (qj T tl j) (n + j) = 0 then 0 else 1
/-- how many segments are read before the text ends or one isn't a segment; n lie below -/
def lj (T : Nat → Nat) (tl n : Nat) : Nat := ft (gdN T tl n) 1 21
/-- why the text isn't one of segments; 0 if it is -/
def txR (T : Nat → Nat) (tl n : Nat) : Nat := if qj T tl (lj T tl n) < tl then sgR T tl (qj T tl (lj T tl n)) (n + lj T tl n) else 0
theorem gdN_lt {T : Nat → Nat} {tl n j : Nat} : gdN T tl n j < 1 ↔ (qj T tl j < tl ∧ sgR T tl (qj T tl j) (n + j) = 0) := by
  unfold gdN
  split
  · exact ⟨fun _ => by assumption, fun _ => by decide⟩
  · exact ⟨fun h => absurd h (by decide), fun h => absurd h (by assumption)⟩
theorem sgR_0 {T : Nat → Nat} {tl q n : Nat} (h : sgR T tl q n = 0) : kdT T tl q ≤ 2 ∧ ¬ mq T tl q < mny T tl q ∧ ¬ wi T tl q < mny T tl q ∧ n < 20 ∧ chT T tl (ps T tl (qw T tl q) (mny T tl q)) = 59 := by
  have hk := kdT_le T tl q
  unfold sgR at h
  split at h
  · exact absurd h (by decide)
  · split at h
    · exact absurd h (by decide)
    · split at h
      · exact absurd h (by decide)
      · split at h
        · exact absurd h (by decide)
        · split at h
          · exact ⟨by omega, by assumption, by assumption, by omega, by assumption⟩
          · exact absurd h (by decide)
theorem sgE_in {T : Nat → Nat} {tl q n : Nat} (h : sgR T tl q n = 0) : sgE T tl q ≤ tl := by
  have := chT_in (T := T) (tl := tl) (i := ps T tl (qw T tl q) (mny T tl q)) (by rw [(sgR_0 h).2.2.2.2]; decide)
  unfold sgE
  omega
theorem gd_20 {T : Nat → Nat} {tl n j : Nat} (h : gdN T tl n j < 1) : n + j < 20 := (sgR_0 (gdN_lt.mp h).2).2.2.2.1
theorem lj_at {T : Nat → Nat} {tl n k : Nat} (h : ∀ j, j < k → gdN T tl n j < 1) (h2 : ¬ (qj T tl k < tl ∧ sgR T tl (qj T tl k) (n + k) = 0)) : lj T tl n = k := by
  have hk : k ≤ 20 := by
    rcases Nat.eq_zero_or_pos k with z | z
    · omega
    · have := gd_20 (h (k - 1) (by omega)); omega
  exact ft_at (by omega) h (by
    by_cases z : gdN T tl n k < 1
    · exact absurd (gdN_lt.mp z) h2
    · omega)
theorem sgR_le (T : Nat → Nat) (tl q n : Nat) : sgR T tl q n ≤ 5 := by
  unfold sgR
  repeat (first | split | omega)
set_option maxRecDepth 100000 in
set_option maxHeartbeats 4000000 in
theorem c_X8_reads (l : Launch) (G : KG) (a P Sp Hs T N : Nat → Nat) (sc tl tp fa fr fn : Nat) (hT : TxtOk T) (h1 : tl ≤ 100) (h8 : P 8 ≤ 20) : MetI l yX8_reads wsX8_reads 4 G (mW G a P Sp Hs sc T tl tp fa fr fn N) [.ref (a 0)] (fun r v => (txR T tl (P 8) = 0 ∧ r = nI (lj T tl (P 8)) ∧ ∃ (t2 f2 : Nat) (M : Nat → Nat), v = mW G a P Sp Hs sc T tl t2 f2 fr fn M) ∨ (txR T tl (P 8) ≠ 0 ∧ r = -4 ∧ ∃ (t2 : Nat) (M : Nat → Nat), v = mW G a P Sp Hs sc T tl t2 (qj T tl (lj T tl (P 8))) (txR T tl (P 8)) (sgN T tl (qj T tl (lj T tl (P 8)))) M)) := by
  refine MetI.by (cc := cX8_reads) (nL := 3) (ret := some .int) (by decide +kernel) rfl (Nat.le_of_ble_eq_true rfl) ?_
  intro p e s m args below meth c F w ls hl
  have hl : lv_has ls 3 [(0, .ref (a 0))] := hl
  have hts := F.ts
  have iX8 : ∀ w ∈ wsX80, w ∈ wsX8_reads := by decide +kernel
  have f7 := hts (.fieldLink RX8 7 "CoreMelterModel" "m" "[I") (by decide +kernel)
  have f113 := hts (.fieldLink RX8 113 "CoreMelterModel" "textLength" "I") (by decide +kernel)
  have f122 := hts (.fieldLink RX8 122 "CoreMelterModel" "at" "I") (by decide +kernel)
  refine lv_aload_n F.1 F.2.1 dX8_reads_0 rfl (lv_at hl 0 rfl) ?_
  refine lv_iconst (v := nI 0) F.1 F.2.1 dX8_reads_1 (by decide) ?_
  refine r_put (ws' := mW G a P Sp Hs sc T tl 0 fa fr fn N) F w 0 6 iX8 okX8 f122 rfl rfl rfl (by decide) (by decide +kernel) (Nat.le_of_ble_eq_true rfl) dX8_reads_2 rfl (fun H locs w => ?_)
  refine lv_iconst (v := nI 0) F.1 F.2.1 dX8_reads_5 (by decide) ?_
  refine lv_istore_n (lv' := [(1, .int (nI 0)), (0, .ref (a 0))]) F.1 F.2.1 dX8_reads_6 rfl hl (by decide) rfl (fun ls hl => ?_)
  have L7 : ∀ n : Nat, ∀ (u f2 : Nat) (M : Nat → Nat), (u ≤ 20) → (∀ j, j < u → gdN T tl (P 8) j < 1) → (qj T tl u ≤ tl) → 21 - u < n → ∀ (H : Heap) (locs : List Loc), Wd G s (va_A (mW G a P Sp Hs sc T tl tp fa fr fn N) s.heap.size) (mW G a P Sp Hs sc T tl (qj T tl u) f2 fr fn M) H locs → ∀ ls : Array Slot, lv_has ls 3 [(0, .ref (a 0)), (1, .int (nI u))] → W p l e (rmK 4 0 0) s m args below meth c H locs 0 0 (MQ below (QI G (mW G a P Sp Hs sc T tl tp fa fr fn N) s.heap.size (fun r v => (txR T tl (P 8) = 0 ∧ r = nI (lj T tl (P 8)) ∧ ∃ (t2 f2 : Nat) (M : Nat → Nat), v = mW G a P Sp Hs sc T tl t2 f2 fr fn M) ∨ (txR T tl (P 8) ≠ 0 ∧ r = -4 ∧ ∃ (t2 : Nat) (M : Nat → Nat), v = mW G a P Sp Hs sc T tl t2 (qj T tl (lj T tl (P 8))) (txR T tl (P 8)) (sgN T tl (qj T tl (lj T tl (P 8)))) M))) args s 0 0 (va_A (mW G a P Sp Hs sc T tl tp fa fr fn N) s.heap.size)) (F0 m 7 ls []) := by
    intro n
    induction n with
    | zero => intro u f2 M h2 h3 h4 hm; exact absurd hm (Nat.not_lt_zero _)
    | succ n ih7 =>
      intro u f2 M h2 h3 h4 hm7 H locs w ls hl
      refine lv_aload_n F.1 F.2.1 dX8_reads_7 rfl (lv_at hl 0 rfl) ?_
      refine r_get F w 0 6 iX8 f122 rfl rfl rfl (by decide) rfl dX8_reads_8 ?_
      refine lv_aload_n F.1 F.2.1 dX8_reads_11 rfl (lv_at hl 0 rfl) ?_
      refine r_get F w 0 5 iX8 f113 rfl rfl rfl (by decide) rfl dX8_reads_12 ?_
      refine r_cge (tgt := 47) F dX8_reads_15 (by decide) (by omega) (by omega) (fun c15 => ?_) (fun c15 => ?_)
      · skip
        have hlj := lj_at h3 (fun z => c15 z.1)
        have htx : txR T tl (P 8) = 0 := by unfold txR; rw [hlj, if_neg c15]
        refine lv_iload_n F.1 F.2.1 dX8_reads_47 rfl (lv_at hl 1 rfl) ?_
        exact r_ireturn F w dX8_reads_48 (Or.inl ⟨htx, by rw [hlj], _, _, _, rfl⟩)
      · skip
        refine lv_aload_n F.1 F.2.1 dX8_reads_18 rfl (lv_at hl 0 rfl) ?_
        refine lv_aload_n F.1 F.2.1 dX8_reads_19 rfl (lv_at hl 0 rfl) ?_
        refine r_get F w 0 0 iX8 f7 rfl rfl rfl (by decide) rfl dX8_reads_20 ?_
        refine lv_bipush (v := nI 8) F.1 F.2.1 dX8_reads_23 (by decide) ?_
        refine r_iald F w 1 rfl (by omega) (by decide) dX8_reads_25 ?_
        refine lv_iload_n F.1 F.2.1 dX8_reads_26 rfl (lv_at hl 1 rfl) ?_
        refine r_iadd F dX8_reads_27 ?_
        by_cases hf : sgR T tl (qj T tl u) (P 8 + u) = 0
        · skip
          refine r_callVI (rest := []) F w (c_X8_readSegment l G a P Sp Hs T M sc tl (qj T tl u) f2 fr fn hT h1 h4 ((P 8) + u) (by omega)) gX8_reads_X8_readSegment [0, 1, 2, 3, 4, 5] [] (nA0 := 1) rfl (by decide +kernel) rfl ⟨Nat.le_of_ble_eq_true rfl, Nat.le_of_ble_eq_true rfl⟩ ⟨Nat.le_of_ble_eq_true rfl, Nat.le_of_ble_eq_true rfl⟩ rfl rfl rfl rfl rfl rfl rfl hl rfl (Nat.le_of_ble_eq_true rfl) dX8_reads_28 (fun r_28 w1 H locs hp w => ?_)
          obtain (⟨e0, rfl, M2, hM2, rfl⟩ | ⟨e0, e9⟩) := hp
          rotate_left
          · exact absurd hf e0
          have w := w.sub (ws' := mW G a P Sp Hs sc T tl (sgE T tl (qj T tl u)) (qj T tl u) fr fn M2) [0, 1, 2, 3, 4, 5] (by decide) rfl
          refine lv_istore_n (lv' := [(2, .int (nI (kdT T tl (qj T tl u)))), (0, .ref (a 0)), (1, .int (nI u))]) F.1 F.2.1 dX8_reads_31 rfl hl (by decide) rfl (fun ls hl => ?_)
          refine lv_iload_n F.1 F.2.1 dX8_reads_32 rfl (lv_at hl 0 rfl) ?_
          refine lv_bipush (v := (-4)) F.1 F.2.1 dX8_reads_33 (by decide) ?_
          refine lv_icmp_ne (tgt := 41) F.1 F.2.1 dX8_reads_35 (by decide) (fun c35 => ?_) (fun c35 => ?_)
          · skip
            refine lv_iinc (v := nI (u + 1)) (lv' := [(1, .int (nI (u + 1))), (2, .int (nI (kdT T tl (qj T tl u)))), (0, .ref (a 0))]) F.1 F.2.1 dX8_reads_41 hl (k := 2) rfl (nI_add _ _) (by decide) rfl (fun ls hl => ?_)
            refine lv_goto (tgt := 7) F.1 F.2.1 dX8_reads_44 (by decide) ?_
            exact ih7 (u + 1) (qj T tl u) M2 (by have := gd_20 (gdN_lt.mpr ⟨c15, hf⟩); omega) (fun j hj => by rcases Nat.lt_succ_iff_lt_or_eq.mp hj with q | q; exact h3 j q; rw [q]; exact gdN_lt.mpr ⟨c15, hf⟩) (sgE_in hf) (by omega) _ _ w ls (lv_sub hl [2, 0] rfl)
          · exact absurd c35 (nI_m4 (by have := kdT_le T tl (qj T tl u); omega))
        · skip
          have hlj := lj_at h3 (fun z => hf z.2)
          have htx : txR T tl (P 8) = sgR T tl (qj T tl u) (P 8 + u) := by unfold txR; rw [hlj, if_pos c15]
          refine r_callVI (rest := []) F w (c_X8_readSegment l G a P Sp Hs T M sc tl (qj T tl u) f2 fr fn hT h1 h4 ((P 8) + u) (by omega)) gX8_reads_X8_readSegment [0, 1, 2, 3, 4, 5] [] (nA0 := 1) rfl (by decide +kernel) rfl ⟨Nat.le_of_ble_eq_true rfl, Nat.le_of_ble_eq_true rfl⟩ ⟨Nat.le_of_ble_eq_true rfl, Nat.le_of_ble_eq_true rfl⟩ rfl rfl rfl rfl rfl rfl rfl hl rfl (Nat.le_of_ble_eq_true rfl) dX8_reads_28 (fun r_28 w1 H locs hp w => ?_)
          obtain (⟨e0, e9⟩ | ⟨e0, rfl, t2, M2, rfl⟩) := hp
          · exact absurd e0 hf
          have w := w.sub (ws' := mW G a P Sp Hs sc T tl t2 (qj T tl u) (sgR T tl (qj T tl u) ((P 8) + u)) (sgN T tl (qj T tl u)) M2) [0, 1, 2, 3, 4, 5] (by decide) rfl
          refine lv_istore_n (lv' := [(2, .int ((-4))), (0, .ref (a 0)), (1, .int (nI u))]) F.1 F.2.1 dX8_reads_31 rfl hl (by decide) rfl (fun ls hl => ?_)
          refine lv_iload_n F.1 F.2.1 dX8_reads_32 rfl (lv_at hl 0 rfl) ?_
          refine lv_bipush (v := (-4)) F.1 F.2.1 dX8_reads_33 (by decide) ?_
          refine lv_icmp_ne (tgt := 41) F.1 F.2.1 dX8_reads_35 (by decide) (fun c35 => ?_) (fun c35 => ?_)
          · exact absurd rfl c35
          · skip
            refine lv_bipush (v := (-4)) F.1 F.2.1 dX8_reads_38 (by decide) ?_
            exact r_ireturn F w dX8_reads_40 (Or.inr ⟨by rw [htx]; exact hf, rfl, t2, M2, by rw [htx, hlj]⟩)
  exact L7 _ 0 fa N (Nat.zero_le _) (fun j hj => absurd hj (Nat.not_lt_zero _)) (Nat.zero_le _) (Nat.lt_succ_self _) _ _ w ls (lv_sub hl [1, 0] rfl)
