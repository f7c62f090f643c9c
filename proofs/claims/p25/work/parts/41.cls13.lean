/-! ===== reading a text, in numbers ===== -/
def dgB (T : Nat → Nat) (tl i : Nat) : Prop := 48 ≤ chT T tl i ∧ chT T tl i ≤ 57
def dgN (T : Nat → Nat) (tl i k : Nat) : Nat := if 48 ≤ chT T tl (i + k) ∧ chT T tl (i + k) ≤ 57 then 0 else 1
/-- how many digits stand at i, three at most -/
def nd (T : Nat → Nat) (tl i : Nat) : Nat := ft (dgN T tl i) 1 3
def nv (T : Nat → Nat) (tl i : Nat) : Nat → Nat
  | 0 => 0
  | k + 1 => 10 * nv T tl i k + chT T tl (i + k) - 48
theorem ft_le (f : Nat → Nat) (d : Nat) : ∀ n, ft f d n ≤ n
  | 0 => Nat.le_refl _
  | n + 1 => by
    have := ft_le f d n
    unfold ft
    split
    · omega
    · split <;> omega
theorem nd_le (T : Nat → Nat) (tl i : Nat) : nd T tl i ≤ 3 := ft_le _ _ _
theorem dgN_lt {T : Nat → Nat} {tl i k : Nat} : dgN T tl i k < 1 ↔ (48 ≤ chT T tl (i + k) ∧ chT T tl (i + k) ≤ 57) := by
  unfold dgN
  split
  · exact ⟨fun _ => by assumption, fun _ => by decide⟩
  · exact ⟨fun h => absurd h (by decide), fun h => absurd h (by assumption)⟩
theorem nv_b {T : Nat → Nat} {tl i : Nat} : ∀ {k : Nat}, (∀ j, j < k → dgN T tl i j < 1) → nv T tl i k < 10 ^ k
  | 0, _ => Nat.lt_succ_self 0
  | k + 1, h => by
    have h1 := nv_b (k := k) (fun j hj => h j (by omega))
    have h2 := dgN_lt.mp (h k (Nat.lt_succ_self k))
    show 10 * nv T tl i k + chT T tl (i + k) - 48 < 10 ^ (k + 1)
    rw [Nat.pow_succ]
    omega
theorem nd_all (T : Nat → Nat) (tl i : Nat) : ∀ n, ∀ j, j < ft (dgN T tl i) 1 n → dgN T tl i j < 1
  | 0, j, h => absurd h (Nat.not_lt_zero _)
  | n + 1, j, h => by
    have h1 := nd_all T tl i n
    unfold ft at h
    split at h
    · exact h1 j h
    · rename_i q
      have q2 : ft (dgN T tl i) 1 n = n := Nat.le_antisymm (ft_le _ _ _) (Nat.not_lt.mp q)
      rw [q2] at h1
      split at h
      · rename_i q3
        rcases Nat.lt_succ_iff_lt_or_eq.mp h with z | z
        · exact h1 j z
        · rw [z]; exact q3
      · exact h1 j h
theorem nv_999 (T : Nat → Nat) (tl i : Nat) : nv T tl i (nd T tl i) ≤ 999 := by
  have h := nv_b (k := nd T tl i) (nd_all T tl i 3)
  have h2 := nd_le T tl i
  have h3 : 10 ^ nd T tl i ≤ 10 ^ 3 := Nat.pow_le_pow_right (by decide) h2
  omega
/-- where the number after k numbers begins, the first's blank being at q -/
def ps (T : Nat → Nat) (tl q : Nat) : Nat → Nat
  | 0 => q
  | k + 1 => ps T tl q k + 1 + nd T tl (ps T tl q k + 1)
def numOk (T : Nat → Nat) (tl q k : Nat) : Prop := chT T tl (ps T tl q k) = 32 ∧ 48 ≤ chT T tl (ps T tl q k + 1) ∧ chT T tl (ps T tl q k + 1) ≤ 57
def numV (T : Nat → Nat) (tl q k : Nat) : Nat := nv T tl (ps T tl q k + 1) (nd T tl (ps T tl q k + 1))
def nbN (T : Nat → Nat) (tl q k : Nat) : Nat := if chT T tl (ps T tl q k) = 32 ∧ 48 ≤ chT T tl (ps T tl q k + 1) ∧ chT T tl (ps T tl q k + 1) ≤ 57 then 0 else 1
/-- the first number of many that doesn't stand -/
def mi (T : Nat → Nat) (tl q many : Nat) : Nat := ft (nbN T tl q) 1 many
theorem nbN_lt {T : Nat → Nat} {tl q k : Nat} : nbN T tl q k < 1 ↔ numOk T tl q k := by
  unfold nbN numOk
  split
  · exact ⟨fun _ => by assumption, fun _ => by decide⟩
  · exact ⟨fun h => absurd h (by decide), fun h => absurd h (by assumption)⟩
theorem nd_pos {T : Nat → Nat} {tl i : Nat} (h : 48 ≤ chT T tl i ∧ chT T tl i ≤ 57) : 1 ≤ nd T tl i := by
  have h0 : dgN T tl i 0 < 1 := dgN_lt.mpr h
  unfold nd
  by_cases q : ft (dgN T tl i) 1 3 = 0
  · exfalso
    have e : ∀ n, ft (dgN T tl i) 1 (n + 1) ≠ 0 := by
      intro n
      induction n with
      | zero =>
        unfold ft
        rw [if_neg (Nat.not_lt_zero _), if_pos h0]
        decide
      | succ n ih =>
        unfold ft
        split
        · exact ih
        · split <;> omega
    exact e 2 q
  · omega
theorem chT_in {T : Nat → Nat} {tl i : Nat} (h : chT T tl i ≠ 0) : i < tl := by
  unfold chT at h
  by_cases q : i < tl
  · exact q
  · rw [if_neg q] at h; exact absurd rfl h
theorem nd_in {T : Nat → Nat} {tl i : Nat} (h : i ≤ tl) : i + nd T tl i ≤ tl := by
  have h1 := nd_all T tl i 3
  rcases Nat.eq_zero_or_pos (nd T tl i) with q | q
  · omega
  · have h2 := dgN_lt.mp (h1 (nd T tl i - 1) (by unfold nd at q ⊢; omega))
    have := chT_in (T := T) (tl := tl) (i := i + (nd T tl i - 1)) (by omega)
    omega
theorem ps_in {T : Nat → Nat} {tl q k : Nat} (h : ps T tl q k ≤ tl) (ho : numOk T tl q k) : ps T tl q (k + 1) ≤ tl := by
  have := chT_in (T := T) (tl := tl) (i := ps T tl q k) (by rw [ho.1]; decide)
  exact nd_in (i := ps T tl q k + 1) (by omega)
set_option maxRecDepth 100000 in
set_option maxHeartbeats 4000000 in
theorem c_X4_readNumber (l : Launch) (G : KG) (ra rc xa : Nat → Nat) (fi re nu nx : Nat) (N : Nat → Nat) (tl : Nat) (T : Nat → Nat) (hT : TxtOk T) (h1 : tl ≤ 100) (hn : nx ≤ 100) : MetI l yX4_readNumber wsX4_readNumber 2 G (readH G ra rc fi re nu nx N ++ (textW G xa tl T)) [.ref (ra 0), .ref (xa 0)] (fun r v => r = nI (nv T tl nx (nd T tl nx)) ∧ v = readH G ra rc fi re nu (nx + nd T tl nx) N ++ (textW G xa tl T)) := by
  refine MetI.by (cc := cX4_readNumber) (nL := 4) (ret := some .int) (by decide +kernel) rfl (Nat.le_of_ble_eq_true rfl) ?_
  intro p e s m args below meth c F w ls hl
  have hl : lv_has ls 4 [(0, .ref (ra 0)), (1, .ref (xa 0))] := hl
  have hts := F.ts
  have iX4 : ∀ w ∈ wsX40, w ∈ wsX4_readNumber := by decide +kernel
  have f31 := hts (.fieldLink RX4 31 "CoreMelter$Reading" "next" "I") (by decide +kernel)
  refine lv_iconst (v := nI 0) F.1 F.2.1 dX4_readNumber_0 (by decide) ?_
  refine lv_istore_n (lv' := [(2, .int (nI 0)), (0, .ref (ra 0)), (1, .ref (xa 0))]) F.1 F.2.1 dX4_readNumber_1 rfl hl (by decide) rfl (fun ls hl => ?_)
  refine lv_iconst (v := nI 0) F.1 F.2.1 dX4_readNumber_2 (by decide) ?_
  refine lv_istore_n (lv' := [(3, .int (nI 0)), (2, .int (nI 0)), (0, .ref (ra 0)), (1, .ref (xa 0))]) F.1 F.2.1 dX4_readNumber_3 rfl hl (by decide) rfl (fun ls hl => ?_)
  have L4 : ∀ n : Nat, ∀ (k : Nat), (k ≤ 3) → (∀ j, j < k → dgN T tl nx j < 1) → 3 - k < n → ∀ (H : Heap) (locs : List Loc), Wd G s (va_A (readH G ra rc fi re nu nx N ++ (textW G xa tl T)) s.heap.size) (readH G ra rc fi re nu (nx + k) N ++ (textW G xa tl T)) H locs → ∀ ls : Array Slot, lv_has ls 4 [(0, .ref (ra 0)), (1, .ref (xa 0)), (2, .int (nI (nv T tl nx k))), (3, .int (nI k))] → W p l e (rmK 2 0 0) s m args below meth c H locs 0 0 (MQ below (QI G (readH G ra rc fi re nu nx N ++ (textW G xa tl T)) s.heap.size (fun r v => r = nI (nv T tl nx (nd T tl nx)) ∧ v = readH G ra rc fi re nu (nx + nd T tl nx) N ++ (textW G xa tl T))) args s 0 0 (va_A (readH G ra rc fi re nu nx N ++ (textW G xa tl T)) s.heap.size)) (F0 m 4 ls []) := by
    intro n
    induction n with
    | zero => intro k h2 h3 hm; exact absurd hm (Nat.not_lt_zero _)
    | succ n ih4 =>
      intro k h2 h3 hm4 H locs w ls hl
      refine lv_iload_n F.1 F.2.1 dX4_readNumber_4 rfl (lv_at hl 3 rfl) ?_
      refine lv_iconst (v := nI 3) F.1 F.2.1 dX4_readNumber_5 (by decide) ?_
      refine r_cge (tgt := 53) F dX4_readNumber_6 (by decide) (by omega) (by omega) (fun c6 => ?_) (fun c6 => ?_)
      · skip
        have hkn : k = nd T tl nx := by first | exact (ft_at (show k < 3 by omega) h3 (by have := dgN_lt (T := T) (tl := tl) (i := nx) (k := k); omega)).symm | (rw [show k = 3 by omega] at h3 ⊢; exact (ft_all h3).symm)
        refine lv_iload_n F.1 F.2.1 dX4_readNumber_53 rfl (lv_at hl 2 rfl) ?_
        exact r_ireturn F w dX4_readNumber_54 (⟨by rw [show k = nd T tl nx from hkn], by rw [hkn]⟩)
      · skip
        refine lv_aload_n F.1 F.2.1 dX4_readNumber_9 rfl (lv_at hl 1 rfl) ?_
        refine lv_aload_n F.1 F.2.1 dX4_readNumber_10 rfl (lv_at hl 0 rfl) ?_
        refine r_get F w 0 4 iX4 f31 rfl rfl rfl (by decide) rfl dX4_readNumber_11 ?_
        refine r_callVI (rest := []) F w (c_X5_isDigit l G xa tl T hT (by omega) (nx + k) (by omega)) gX4_readNumber_X5_isDigit [2, 3] [0, 1] (nA0 := 1) rfl (by decide +kernel) rfl ⟨Nat.le_of_ble_eq_true rfl, Nat.le_of_ble_eq_true rfl⟩ ⟨Nat.le_of_ble_eq_true rfl, Nat.le_of_ble_eq_true rfl⟩ rfl rfl rfl rfl rfl rfl rfl hl rfl (Nat.le_of_ble_eq_true rfl) dX4_readNumber_14 (fun r_14 w1 H locs hp w => ?_)
        obtain ⟨rfl, rfl⟩ := hp
        have w := w.sub (ws' := readH G ra rc fi re nu (nx + k) N ++ (textW G xa tl T)) [0, 1, 2, 3] (by decide) rfl
        refine r_yeq (tgt := 53) F dX4_readNumber_17 (by decide) (fun c17 => ?_) (fun c17 => ?_)
        · skip
          have hkn : k = nd T tl nx := by first | exact (ft_at (show k < 3 by omega) h3 (by have := dgN_lt (T := T) (tl := tl) (i := nx) (k := k); omega)).symm | (rw [show k = 3 by omega] at h3 ⊢; exact (ft_all h3).symm)
          refine lv_iload_n F.1 F.2.1 dX4_readNumber_53 rfl (lv_at hl 2 rfl) ?_
          exact r_ireturn F w dX4_readNumber_54 (⟨by rw [show k = nd T tl nx from hkn], by rw [hkn]⟩)
        · skip
          refine lv_bipush (v := nI 10) F.1 F.2.1 dX4_readNumber_20 (by decide) ?_
          refine lv_iload_n F.1 F.2.1 dX4_readNumber_22 rfl (lv_at hl 2 rfl) ?_
          refine r_imul F dX4_readNumber_23 ?_
          refine lv_aload_n F.1 F.2.1 dX4_readNumber_24 rfl (lv_at hl 1 rfl) ?_
          refine lv_aload_n F.1 F.2.1 dX4_readNumber_25 rfl (lv_at hl 0 rfl) ?_
          refine r_get F w 0 4 iX4 f31 rfl rfl rfl (by decide) rfl dX4_readNumber_26 ?_
          refine r_callVI (rest := [.int (nI (10 * (nv T tl nx k)))]) F w (c_X5_at l G xa tl T hT (by omega) (nx + k) (by omega)) gX4_readNumber_X5_at [2, 3] [0, 1] (nA0 := 1) rfl (by decide +kernel) rfl ⟨Nat.le_of_ble_eq_true rfl, Nat.le_of_ble_eq_true rfl⟩ ⟨Nat.le_of_ble_eq_true rfl, Nat.le_of_ble_eq_true rfl⟩ rfl rfl rfl rfl rfl rfl rfl hl rfl (Nat.le_of_ble_eq_true rfl) dX4_readNumber_29 (fun r_29 w1 H locs hp w => ?_)
          obtain ⟨rfl, rfl⟩ := hp
          have w := w.sub (ws' := readH G ra rc fi re nu (nx + k) N ++ (textW G xa tl T)) [0, 1, 2, 3] (by decide) rfl
          refine r_iadd F dX4_readNumber_32 ?_
          refine lv_bipush (v := nI 48) F.1 F.2.1 dX4_readNumber_33 (by decide) ?_
          refine r_isub F dX4_readNumber_35 (by omega) ?_
          refine lv_istore_n (lv' := [(2, .int (nI (((10 * (nv T tl nx k)) + (chT T tl (nx + k))) - 48))), (0, .ref (ra 0)), (1, .ref (xa 0)), (3, .int (nI k))]) F.1 F.2.1 dX4_readNumber_36 rfl hl (by decide) rfl (fun ls hl => ?_)
          refine lv_aload_n F.1 F.2.1 dX4_readNumber_37 rfl (lv_at hl 1 rfl) ?_
          refine lv_dup F.1 F.2.1 dX4_readNumber_38 rfl ?_
          refine r_get F w 0 4 iX4 f31 rfl rfl rfl (by decide) rfl dX4_readNumber_39 ?_
          refine lv_iconst (v := nI 1) F.1 F.2.1 dX4_readNumber_42 (by decide) ?_
          refine r_iadd F dX4_readNumber_43 ?_
          refine r_put (ws' := readH G ra rc fi re nu ((nx + k) + 1) N ++ (textW G xa tl T)) F w 0 4 iX4 okX4 f31 rfl rfl rfl (by decide) (by decide +kernel) (Nat.le_of_ble_eq_true rfl) dX4_readNumber_44 rfl (fun H locs w => ?_)
          refine lv_iinc (v := nI (k + 1)) (lv' := [(3, .int (nI (k + 1))), (2, .int (nI (((10 * (nv T tl nx k)) + (chT T tl (nx + k))) - 48))), (0, .ref (ra 0)), (1, .ref (xa 0))]) F.1 F.2.1 dX4_readNumber_47 hl (k := 3) rfl (nI_add _ _) (by decide) rfl (fun ls hl => ?_)
          refine lv_goto (tgt := 4) F.1 F.2.1 dX4_readNumber_50 (by decide) ?_
          exact ih4 (k + 1) (by omega) (fun j hj => by rcases Nat.lt_succ_iff_lt_or_eq.mp hj with q | q; exact h3 j q; rw [q]; exact dgN_lt.mpr c17) (by omega) _ _ w ls (lv_sub hl [2, 3, 1, 0] rfl)
  exact L4 _ 0 (Nat.zero_le _) (fun j hj => absurd hj (Nat.not_lt_zero _)) (Nat.lt_succ_self _) _ _ w ls (lv_sub hl [2, 3, 1, 0] rfl)
def fnN (T : Nat → Nat) (tl q k : Nat) : Nat → Nat := fun j => if j < k then numV T tl q j else 0
theorem fnN_s (T : Nat → Nat) (tl q k : Nat) : up (fnN T tl q k) k (numV T tl q k) = fnN T tl q (k + 1) := by
  funext j
  unfold up fnN
  by_cases h : j = k
  · subst h
    rw [if_pos rfl, if_pos (by omega)]
  · rw [if_neg h]
    by_cases h2 : j < k
    · rw [if_pos h2, if_pos (by omega)]
    · rw [if_neg h2, if_neg (by omega)]
theorem numV_999 (T : Nat → Nat) (tl q k : Nat) : numV T tl q k ≤ 999 := nv_999 _ _ _
theorem fnN_999 (T : Nat → Nat) (tl q k j : Nat) : fnN T tl q k j ≤ 999 := by
  unfold fnN
  split
  · exact numV_999 _ _ _ _
  · decide
def rdR (T : Nat → Nat) (tl q many : Nat) : Nat := if mi T tl q many < many then mi T tl q many + 1 else 0
theorem mi_at {T : Nat → Nat} {tl q many k : Nat} (h : k < many) (h2 : ∀ j, j < k → nbN T tl q j < 1) (h3 : ¬ numOk T tl q k) : mi T tl q many = k := ft_at h h2 (by
  have := nbN_lt (T := T) (tl := tl) (q := q) (k := k)
  by_cases z : nbN T tl q k < 1
  · exact absurd (this.mp z) h3
  · omega)
theorem mi_all {T : Nat → Nat} {tl q many : Nat} (h2 : ∀ j, j < many → nbN T tl q j < 1) : mi T tl q many = many := ft_all h2
set_option maxRecDepth 100000 in
set_option maxHeartbeats 4000000 in
theorem c_X4_readNumbers (l : Launch) (G : KG) (ra rc xa : Nat → Nat) (fi re nu nx : Nat) (N : Nat → Nat) (tl : Nat) (T : Nat → Nat) (hT : TxtOk T) (h1 : tl ≤ 100) (hn : nx ≤ tl) (many : Nat) (hmy : many ≤ 3) : MetI l yX4_readNumbers wsX4_readNumbers 3 G (readH G ra rc fi re nu nx N ++ (textW G xa tl T)) [.ref (ra 0), .ref (xa 0), .int (nI many)] (fun r v => r = nI (rdR T tl nx many) ∧ v = readH G ra rc fi re nu (ps T tl nx (mi T tl nx many)) (fnN T tl nx (mi T tl nx many)) ++ (textW G xa tl T)) := by
  refine MetI.by (cc := cX4_readNumbers) (nL := 4) (ret := some .int) (by decide +kernel) rfl (Nat.le_of_ble_eq_true rfl) ?_
  intro p e s m args below meth c F w ls hl
  have hl : lv_has ls 4 [(0, .ref (ra 0)), (1, .ref (xa 0)), (2, .int (nI many))] := hl
  have hts := F.ts
  have iX4 : ∀ w ∈ wsX40, w ∈ wsX4_readNumbers := by decide +kernel
  have f16 := hts (.fieldLink RX4 16 "CoreMelter$Reading" "numbers" "[I") (by decide +kernel)
  have f31 := hts (.fieldLink RX4 31 "CoreMelter$Reading" "next" "I") (by decide +kernel)
  refine lv_aload_n F.1 F.2.1 dX4_readNumbers_0 rfl (lv_at hl 0 rfl) ?_
  refine r_get F w 0 5 iX4 f16 rfl rfl rfl (by decide) rfl dX4_readNumbers_1 ?_
  refine lv_iconst (v := nI 0) F.1 F.2.1 dX4_readNumbers_4 (by decide) ?_
  refine r_callSV (rest := []) F w (c_J7_fill_53178 l G (ra 1) 3 N 0 (by decide)) gX4_readNumbers_J7_fill_53178 [1] [0, 2, 3] (nA0 := 2) rfl (by decide +kernel) rfl ⟨Nat.le_of_ble_eq_true rfl, Nat.le_of_ble_eq_true rfl⟩ ⟨Nat.le_of_ble_eq_true rfl, Nat.le_of_ble_eq_true rfl⟩ rfl rfl rfl rfl rfl hl rfl (Nat.le_of_ble_eq_true rfl) dX4_readNumbers_5 (fun w1 H locs hp w => ?_)
  obtain rfl := hp
  have w := w.sub (ws' := readH G ra rc fi re nu nx (fun _ => 0) ++ (textW G xa tl T)) [0, 3, 1, 2] (by decide) rfl
  have w := w.is (ws' := readH G ra rc fi re nu nx (fnN T tl nx 0) ++ (textW G xa tl T)) (rfl)
  refine lv_iconst (v := nI 0) F.1 F.2.1 dX4_readNumbers_8 (by decide) ?_
  refine lv_istore_n (lv' := [(3, .int (nI 0)), (0, .ref (ra 0)), (1, .ref (xa 0)), (2, .int (nI many))]) F.1 F.2.1 dX4_readNumbers_9 rfl hl (by decide) rfl (fun ls hl => ?_)
  have L10 : ∀ n : Nat, ∀ (k : Nat), (k ≤ many) → (∀ j, j < k → nbN T tl nx j < 1) → (ps T tl nx k ≤ tl) → many - k < n → ∀ (H : Heap) (locs : List Loc), Wd G s (va_A (readH G ra rc fi re nu nx N ++ (textW G xa tl T)) s.heap.size) (readH G ra rc fi re nu (ps T tl nx k) (fnN T tl nx k) ++ (textW G xa tl T)) H locs → ∀ ls : Array Slot, lv_has ls 4 [(0, .ref (ra 0)), (1, .ref (xa 0)), (2, .int (nI many)), (3, .int (nI k))] → W p l e (rmK 3 0 0) s m args below meth c H locs 0 0 (MQ below (QI G (readH G ra rc fi re nu nx N ++ (textW G xa tl T)) s.heap.size (fun r v => r = nI (rdR T tl nx many) ∧ v = readH G ra rc fi re nu (ps T tl nx (mi T tl nx many)) (fnN T tl nx (mi T tl nx many)) ++ (textW G xa tl T))) args s 0 0 (va_A (readH G ra rc fi re nu nx N ++ (textW G xa tl T)) s.heap.size)) (F0 m 10 ls []) := by
    intro n
    induction n with
    | zero => intro k h2 h3 h4 hm; exact absurd hm (Nat.not_lt_zero _)
    | succ n ih10 =>
      intro k h2 h3 h4 hm10 H locs w ls hl
      refine lv_iload_n F.1 F.2.1 dX4_readNumbers_10 rfl (lv_at hl 3 rfl) ?_
      refine lv_iload_n F.1 F.2.1 dX4_readNumbers_11 rfl (lv_at hl 2 rfl) ?_
      refine r_cge (tgt := 77) F dX4_readNumbers_12 (by decide) (by omega) (by omega) (fun c12 => ?_) (fun c12 => ?_)
      · skip
        have hm : mi T tl nx many = k := by rw [show k = many by omega] at h3 ⊢; exact mi_all h3
        refine lv_iconst (v := nI 0) F.1 F.2.1 dX4_readNumbers_77 (by decide) ?_
        exact r_ireturn F w dX4_readNumbers_78 (⟨by unfold rdR; rw [hm, if_neg c12], by rw [hm]⟩)
      · skip
        refine lv_iload_n F.1 F.2.1 dX4_readNumbers_15 rfl (lv_at hl 3 rfl) ?_
        refine lv_iconst (v := nI 3) F.1 F.2.1 dX4_readNumbers_16 (by decide) ?_
        refine r_cge (tgt := 77) F dX4_readNumbers_17 (by decide) (by omega) (by omega) (fun c17 => ?_) (fun c17 => ?_)
        · exact absurd c17 (by omega)
        · skip
          refine lv_aload_n F.1 F.2.1 dX4_readNumbers_20 rfl (lv_at hl 1 rfl) ?_
          refine lv_aload_n F.1 F.2.1 dX4_readNumbers_21 rfl (lv_at hl 0 rfl) ?_
          refine r_get F w 0 4 iX4 f31 rfl rfl rfl (by decide) rfl dX4_readNumbers_22 ?_
          refine r_callVI (rest := []) F w (c_X5_at l G xa tl T hT (by omega) (ps T tl nx k) (by omega)) gX4_readNumbers_X5_at [2, 3] [0, 1] (nA0 := 1) rfl (by decide +kernel) rfl ⟨Nat.le_of_ble_eq_true rfl, Nat.le_of_ble_eq_true rfl⟩ ⟨Nat.le_of_ble_eq_true rfl, Nat.le_of_ble_eq_true rfl⟩ rfl rfl rfl rfl rfl rfl rfl hl rfl (Nat.le_of_ble_eq_true rfl) dX4_readNumbers_25 (fun r_25 w1 H locs hp w => ?_)
          obtain ⟨rfl, rfl⟩ := hp
          have w := w.sub (ws' := readH G ra rc fi re nu (ps T tl nx k) (fnN T tl nx k) ++ (textW G xa tl T)) [0, 1, 2, 3] (by decide) rfl
          refine lv_bipush (v := nI 32) F.1 F.2.1 dX4_readNumbers_28 (by decide) ?_
          refine r_cne (tgt := 46) F dX4_readNumbers_30 (by decide) (by have := chT_lt hT tl (ps T tl nx k); omega) (by omega) (fun c30 => ?_) (fun c30 => ?_)
          · skip
            have hm := mi_at (many := many) c12 h3 (fun z => by first | exact c30 z.1 | exact c43 z.2)
            refine lv_iload_n F.1 F.2.1 dX4_readNumbers_46 rfl (lv_at hl 3 rfl) ?_
            refine lv_iconst (v := nI 1) F.1 F.2.1 dX4_readNumbers_47 (by decide) ?_
            refine r_iadd F dX4_readNumbers_48 ?_
            exact r_ireturn F w dX4_readNumbers_49 (⟨by unfold rdR; rw [hm, if_pos c12], by rw [hm]⟩)
          · skip
            refine lv_aload_n F.1 F.2.1 dX4_readNumbers_33 rfl (lv_at hl 1 rfl) ?_
            refine lv_aload_n F.1 F.2.1 dX4_readNumbers_34 rfl (lv_at hl 0 rfl) ?_
            refine r_get F w 0 4 iX4 f31 rfl rfl rfl (by decide) rfl dX4_readNumbers_35 ?_
            refine lv_iconst (v := nI 1) F.1 F.2.1 dX4_readNumbers_38 (by decide) ?_
            refine r_iadd F dX4_readNumbers_39 ?_
            refine r_callVI (rest := []) F w (c_X5_isDigit l G xa tl T hT (by omega) ((ps T tl nx k) + 1) (by omega)) gX4_readNumbers_X5_isDigit [2, 3] [0, 1] (nA0 := 1) rfl (by decide +kernel) rfl ⟨Nat.le_of_ble_eq_true rfl, Nat.le_of_ble_eq_true rfl⟩ ⟨Nat.le_of_ble_eq_true rfl, Nat.le_of_ble_eq_true rfl⟩ rfl rfl rfl rfl rfl rfl rfl hl rfl (Nat.le_of_ble_eq_true rfl) dX4_readNumbers_40 (fun r_40 w1 H locs hp w => ?_)
            obtain ⟨rfl, rfl⟩ := hp
            have w := w.sub (ws' := readH G ra rc fi re nu (ps T tl nx k) (fnN T tl nx k) ++ (textW G xa tl T)) [0, 1, 2, 3] (by decide) rfl
            refine r_yne (tgt := 50) F dX4_readNumbers_43 (by decide) (fun c43 => ?_) (fun c43 => ?_)
            · skip
              refine lv_aload_n F.1 F.2.1 dX4_readNumbers_50 rfl (lv_at hl 0 rfl) ?_
              refine lv_dup F.1 F.2.1 dX4_readNumbers_51 rfl ?_
              refine r_get F w 0 4 iX4 f31 rfl rfl rfl (by decide) rfl dX4_readNumbers_52 ?_
              refine lv_iconst (v := nI 1) F.1 F.2.1 dX4_readNumbers_55 (by decide) ?_
              refine r_iadd F dX4_readNumbers_56 ?_
              refine r_put (ws' := readH G ra rc fi re nu ((ps T tl nx k) + 1) (fnN T tl nx k) ++ (textW G xa tl T)) F w 0 4 iX4 okX4 f31 rfl rfl rfl (by decide) (by decide +kernel) (Nat.le_of_ble_eq_true rfl) dX4_readNumbers_57 rfl (fun H locs w => ?_)
              refine lv_aload_n F.1 F.2.1 dX4_readNumbers_60 rfl (lv_at hl 0 rfl) ?_
              refine r_get F w 0 5 iX4 f16 rfl rfl rfl (by decide) rfl dX4_readNumbers_61 ?_
              refine lv_iload_n F.1 F.2.1 dX4_readNumbers_64 rfl (lv_at hl 3 rfl) ?_
              refine lv_aload_n F.1 F.2.1 dX4_readNumbers_65 rfl (lv_at hl 0 rfl) ?_
              refine lv_aload_n F.1 F.2.1 dX4_readNumbers_66 rfl (lv_at hl 1 rfl) ?_
              refine r_callVI (rest := [.int (nI k), .ref (ra 1)]) F w (c_X4_readNumber l G ra rc xa fi re nu ((ps T tl nx k) + 1) (fnN T tl nx k) tl T hT h1 (by have := chT_in (T := T) (tl := tl) (i := ps T tl nx k) (by rw [c30]; decide); omega)) gX4_readNumbers_X4_readNumber [0, 1, 2, 3] [] (nA0 := 1) rfl (by decide +kernel) rfl ⟨Nat.le_of_ble_eq_true rfl, Nat.le_of_ble_eq_true rfl⟩ ⟨Nat.le_of_ble_eq_true rfl, Nat.le_of_ble_eq_true rfl⟩ rfl rfl rfl rfl rfl rfl rfl hl rfl (Nat.le_of_ble_eq_true rfl) dX4_readNumbers_67 (fun r_67 w1 H locs hp w => ?_)
              obtain ⟨rfl, rfl⟩ := hp
              have w := w.sub (ws' := readH G ra rc fi re nu ((ps T tl nx k) + 1 + nd T tl ((ps T tl nx k) + 1)) (fnN T tl nx k) ++ (textW G xa tl T)) [0, 1, 2, 3] (by decide) rfl
              refine r_to (y := (nI (numV T tl nx k))) (rfl) ?_
              refine r_iast (ws' := readH G ra rc fi re nu ((ps T tl nx k) + 1 + nd T tl ((ps T tl nx k) + 1)) (up (fnN T tl nx k) k (numV T tl nx k)) ++ (textW G xa tl T)) F w 1 rfl (by omega) (by decide) dX4_readNumbers_70 rfl (fun H locs w => ?_)
              have w := w.is (ws' := readH G ra rc fi re nu (ps T tl nx (k + 1)) (fnN T tl nx (k + 1)) ++ (textW G xa tl T)) (by rw [← fnN_s]; rfl)
              refine lv_iinc (v := nI (k + 1)) (lv' := [(3, .int (nI (k + 1))), (0, .ref (ra 0)), (1, .ref (xa 0)), (2, .int (nI many))]) F.1 F.2.1 dX4_readNumbers_71 hl (k := 3) rfl (nI_add _ _) (by decide) rfl (fun ls hl => ?_)
              refine lv_goto (tgt := 10) F.1 F.2.1 dX4_readNumbers_74 (by decide) ?_
              exact ih10 (k + 1) (by omega) (fun j hj => by rcases Nat.lt_succ_iff_lt_or_eq.mp hj with q | q; exact h3 j q; rw [q]; exact nbN_lt.mpr ⟨c30, c43⟩) (ps_in h4 ⟨c30, c43⟩) (by omega) _ _ w ls (lv_sub hl [1, 2, 3, 0] rfl)
            · skip
              have hm := mi_at (many := many) c12 h3 (fun z => by first | exact c30 z.1 | exact c43 z.2)
              refine lv_iload_n F.1 F.2.1 dX4_readNumbers_46 rfl (lv_at hl 3 rfl) ?_
              refine lv_iconst (v := nI 1) F.1 F.2.1 dX4_readNumbers_47 (by decide) ?_
              refine r_iadd F dX4_readNumbers_48 ?_
              exact r_ireturn F w dX4_readNumbers_49 (⟨by unfold rdR; rw [hm, if_pos c12], by rw [hm]⟩)
  exact L10 _ 0 (Nat.zero_le _) (fun j hj => absurd hj (Nat.not_lt_zero _)) hn (Nat.lt_succ_self _) _ _ w ls (lv_sub hl [1, 2, 3, 0] rfl)

