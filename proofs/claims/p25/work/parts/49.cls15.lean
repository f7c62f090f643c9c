def iceF (k : Nat) : Nat := if k = 0 then 105 else if k = 1 then 99 else 101
def crackF (k : Nat) : Nat := if k = 0 then 99 else if k = 1 then 114 else if k = 2 then 97 else if k = 3 then 99 else 107
def dustF (k : Nat) : Nat := if k = 0 then 100 else if k = 1 then 117 else if k = 2 then 115 else 116
theorem iceF_b (k : Nat) : iceF k < 128 := by unfold iceF; repeat (first | split | omega)
theorem crackF_b (k : Nat) : crackF k < 128 := by unfold crackF; repeat (first | split | omega)
theorem dustF_b (k : Nat) : dustF k < 128 := by unfold dustF; repeat (first | split | omega)
def hold (T : Nat → Nat) (tl f0 t0 n : Nat) (sb : Nat → Nat) : Prop := t0 - f0 = n ∧ ∀ j, j < n → chT T tl (f0 + j) = sb j
theorem wl_sm {T : Nat → Nat} {tl q k : Nat} (h : k < wl T tl q) : 97 ≤ chT T tl (q + k) ∧ chT T tl (q + k) ≤ 122 := smN_lt.mp (ft_lt _ _ _ _ h)
theorem vl_dn {T : Nat → Nat} {tl q k u r : Nat} (hs : 97 ≤ chT T tl (q + k) ∧ chT T tl (q + k) ≤ 122) (h : vl T tl q (k + 1) = u * 27 + r) (hr : 1 ≤ r ∧ r ≤ 26) (hu : u * 27 + r ≤ 100000000) : vl T tl q k = u ∧ chT T tl (q + k) = 96 + r := by
  have h : (if vl T tl q k ≤ 100000000 then vl T tl q k * 27 + chT T tl (q + k) - 96 else vl T tl q k) = u * 27 + r := h
  split at h <;> omega
theorem vl_pos {T : Nat → Nat} {tl q : Nat} : ∀ {k : Nat}, k < wl T tl q → 1 ≤ vl T tl q (k + 1)
  | k, h => by
    have hs := wl_sm h
    show 1 ≤ (if vl T tl q k ≤ 100000000 then vl T tl q k * 27 + chT T tl (q + k) - 96 else vl T tl q k)
    split <;> omega
theorem vl_up {T : Nat → Nat} {tl q k u r : Nat} (h : vl T tl q k = u) (hc : chT T tl (q + k) = 96 + r) (hr : 1 ≤ r) (hu : u ≤ 100000000) : vl T tl q (k + 1) = u * 27 + r := by
  show (if vl T tl q k ≤ 100000000 then vl T tl q k * 27 + chT T tl (q + k) - 96 else vl T tl q k) = _
  rw [h, if_pos hu]
  omega
theorem kd_cases (v : Nat) : (kdF v = 0 ↔ v = 6647) ∧ (kdF v = 1 ↔ v = 1949438) ∧ (kdF v = 2 ↔ v = 94574) := by
  unfold kdF
  by_cases h1 : v = 6647
  · subst h1; decide
  · rw [if_neg h1]
    by_cases h2 : v = 1949438
    · subst h2; decide
    · rw [if_neg h2]
      by_cases h3 : v = 94574
      · subst h3; decide
      · rw [if_neg h3]
        omega
theorem kd_ice (T : Nat → Nat) (tl q : Nat) : kdT T tl q = 0 ↔ hold T tl q (q + wl T tl q) 3 iceF := by
  unfold kdT
  rw [(kd_cases _).1]
  unfold hold
  rw [Nat.add_sub_cancel_left]
  have sm := fun (k : Nat) (h : k < wl T tl q) => wl_sm h
  have po := fun (k : Nat) (h : k < wl T tl q) => vl_pos h
  constructor
  · intro h
    generalize wl T tl q = n at h sm po ⊢
    rcases n with _ | n1
    · exact absurd h (by show (0 : Nat) ≠ 6647; decide)
    obtain ⟨a1, b1⟩ := vl_dn (u := 246) (r := 5) (sm n1 (by omega)) h (by decide) (by decide)
    rcases n1 with _ | n2
    · exact absurd a1 (by show (0 : Nat) ≠ 246; decide)
    obtain ⟨a2, b2⟩ := vl_dn (u := 9) (r := 3) (sm n2 (by omega)) a1 (by decide) (by decide)
    rcases n2 with _ | n3
    · exact absurd a2 (by show (0 : Nat) ≠ 9; decide)
    obtain ⟨a3, b3⟩ := vl_dn (u := 0) (r := 9) (sm n3 (by omega)) a2 (by decide) (by decide)
    rcases n3 with _ | n4
    · refine ⟨rfl, fun j hj => ?_⟩
      rcases (show j = 0 ∨ j = 1 ∨ j = 2 by omega) with rfl | rfl | rfl
      · exact b3
      · exact b2
      · exact b1
    · exact absurd (po n4 (by omega)) (by omega)
  · rintro ⟨hn, h⟩
    rw [hn]
    exact vl_up (u := 246) (r := 5) (vl_up (u := 9) (r := 3) (vl_up (u := 0) (r := 9) rfl (h 0 (by decide)) (by decide) (by decide)) (h 1 (by decide)) (by decide) (by decide)) (h 2 (by decide)) (by decide) (by decide)
theorem kd_crack (T : Nat → Nat) (tl q : Nat) : kdT T tl q = 1 ↔ hold T tl q (q + wl T tl q) 5 crackF := by
  unfold kdT
  rw [(kd_cases _).2.1]
  unfold hold
  rw [Nat.add_sub_cancel_left]
  have sm := fun (k : Nat) (h : k < wl T tl q) => wl_sm h
  have po := fun (k : Nat) (h : k < wl T tl q) => vl_pos h
  constructor
  · intro h
    generalize wl T tl q = n at h sm po ⊢
    rcases n with _ | n1
    · exact absurd h (by show (0 : Nat) ≠ 1949438; decide)
    obtain ⟨a1, b1⟩ := vl_dn (u := 72201) (r := 11) (sm n1 (by omega)) h (by decide) (by decide)
    rcases n1 with _ | n2
    · exact absurd a1 (by show (0 : Nat) ≠ 72201; decide)
    obtain ⟨a2, b2⟩ := vl_dn (u := 2674) (r := 3) (sm n2 (by omega)) a1 (by decide) (by decide)
    rcases n2 with _ | n3
    · exact absurd a2 (by show (0 : Nat) ≠ 2674; decide)
    obtain ⟨a3, b3⟩ := vl_dn (u := 99) (r := 1) (sm n3 (by omega)) a2 (by decide) (by decide)
    rcases n3 with _ | n4
    · exact absurd a3 (by show (0 : Nat) ≠ 99; decide)
    obtain ⟨a4, b4⟩ := vl_dn (u := 3) (r := 18) (sm n4 (by omega)) a3 (by decide) (by decide)
    rcases n4 with _ | n5
    · exact absurd a4 (by show (0 : Nat) ≠ 3; decide)
    obtain ⟨a5, b5⟩ := vl_dn (u := 0) (r := 3) (sm n5 (by omega)) a4 (by decide) (by decide)
    rcases n5 with _ | n6
    · refine ⟨rfl, fun j hj => ?_⟩
      rcases (show j = 0 ∨ j = 1 ∨ j = 2 ∨ j = 3 ∨ j = 4 by omega) with rfl | rfl | rfl | rfl | rfl
      · exact b5
      · exact b4
      · exact b3
      · exact b2
      · exact b1
    · exact absurd (po n6 (by omega)) (by omega)
  · rintro ⟨hn, h⟩
    rw [hn]
    exact vl_up (u := 72201) (r := 11) (vl_up (u := 2674) (r := 3) (vl_up (u := 99) (r := 1) (vl_up (u := 3) (r := 18) (vl_up (u := 0) (r := 3) rfl (h 0 (by decide)) (by decide) (by decide)) (h 1 (by decide)) (by decide) (by decide)) (h 2 (by decide)) (by decide) (by decide)) (h 3 (by decide)) (by decide) (by decide)) (h 4 (by decide)) (by decide) (by decide)
theorem kd_dust (T : Nat → Nat) (tl q : Nat) : kdT T tl q = 2 ↔ hold T tl q (q + wl T tl q) 4 dustF := by
  unfold kdT
  rw [(kd_cases _).2.2]
  unfold hold
  rw [Nat.add_sub_cancel_left]
  have sm := fun (k : Nat) (h : k < wl T tl q) => wl_sm h
  have po := fun (k : Nat) (h : k < wl T tl q) => vl_pos h
  constructor
  · intro h
    generalize wl T tl q = n at h sm po ⊢
    rcases n with _ | n1
    · exact absurd h (by show (0 : Nat) ≠ 94574; decide)
    obtain ⟨a1, b1⟩ := vl_dn (u := 3502) (r := 20) (sm n1 (by omega)) h (by decide) (by decide)
    rcases n1 with _ | n2
    · exact absurd a1 (by show (0 : Nat) ≠ 3502; decide)
    obtain ⟨a2, b2⟩ := vl_dn (u := 129) (r := 19) (sm n2 (by omega)) a1 (by decide) (by decide)
    rcases n2 with _ | n3
    · exact absurd a2 (by show (0 : Nat) ≠ 129; decide)
    obtain ⟨a3, b3⟩ := vl_dn (u := 4) (r := 21) (sm n3 (by omega)) a2 (by decide) (by decide)
    rcases n3 with _ | n4
    · exact absurd a3 (by show (0 : Nat) ≠ 4; decide)
    obtain ⟨a4, b4⟩ := vl_dn (u := 0) (r := 4) (sm n4 (by omega)) a3 (by decide) (by decide)
    rcases n4 with _ | n5
    · refine ⟨rfl, fun j hj => ?_⟩
      rcases (show j = 0 ∨ j = 1 ∨ j = 2 ∨ j = 3 by omega) with rfl | rfl | rfl | rfl
      · exact b4
      · exact b3
      · exact b2
      · exact b1
    · exact absurd (po n5 (by omega)) (by omega)
  · rintro ⟨hn, h⟩
    rw [hn]
    exact vl_up (u := 3502) (r := 20) (vl_up (u := 129) (r := 19) (vl_up (u := 4) (r := 21) (vl_up (u := 0) (r := 4) rfl (h 0 (by decide)) (by decide) (by decide)) (h 1 (by decide)) (by decide) (by decide)) (h 2 (by decide)) (by decide) (by decide)) (h 3 (by decide)) (by decide) (by decide)
set_option maxRecDepth 100000 in
set_option maxHeartbeats 4000000 in
theorem c_X5_holdsY (l : Launch) (G : KG) (q sv sl : Nat) (sb : Nat → Nat) (a : Nat → Nat) (tl : Nat) (T : Nat → Nat) (hT : TxtOk T) (h1 : tl ≤ 100) (hn : sl < 2 ^ 31) (hb : ∀ k, sb k < 128) (f0 t0 : Nat) (h0 : f0 ≤ t0) (h2 : t0 ≤ 100) (hh : hold T tl f0 t0 sl sb) : MetIX l yX5_holds wsX5_holds 4 G (textW G a tl T) [.ref (a 0), .ref q, .int (nI f0), .int (nI t0)] (strX q sv sl sb) (fun r v => r = nI 1 ∧ v = textW G a tl T) := by
  refine MetIX.by (cc := cX5_holds) (nL := 5) (ret := some .boolean) (by decide +kernel) rfl (Nat.le_of_ble_eq_true rfl) ?_
  intro p e s m args below meth c F hX w ls hl
  have hl : lv_has ls 5 [(0, .ref (a 0)), (1, .ref q), (2, .int (nI f0)), (3, .int (nI t0))] := hl
  have hts := F.ts
  refine lv_iload_n F.1 F.2.1 dX5_holds_0 rfl (lv_at hl 3 rfl) ?_
  refine lv_iload_n F.1 F.2.1 dX5_holds_1 rfl (lv_at hl 2 rfl) ?_
  refine r_isub F dX5_holds_2 (by omega) ?_
  refine lv_aload_n F.1 F.2.1 dX5_holds_3 rfl (lv_at hl 1 rfl) ?_
  refine q_callVI (rest := [.int (nI (t0 - f0))]) (fine_str _ _ _ _) hX hX.2.1.1 F w (c_J0_length_8abf5 l G q sv sl sb) gX5_holds_J0_length_8abf5 (nA0 := 0) rfl (by decide +kernel) rfl ⟨Nat.le_of_ble_eq_true rfl, Nat.le_of_ble_eq_true rfl⟩ ⟨Nat.le_of_ble_eq_true rfl, Nat.le_of_ble_eq_true rfl⟩ hl rfl (Nat.le_of_ble_eq_true rfl) dX5_holds_4 (fun r_4 w1 H locs hp w => ?_)
  obtain ⟨rfl, rfl⟩ := hp
  have w := w.is (ws' := textW G a tl T) rfl
  refine r_ceq (tgt := 12) F dX5_holds_7 (by decide) (by omega) (by omega) (fun c7 => ?_) (fun c7 => ?_)
  · skip
    refine lv_iconst (v := nI 0) F.1 F.2.1 dX5_holds_12 (by decide) ?_
    refine lv_istore (lv' := [(4, .int (nI 0)), (0, .ref (a 0)), (1, .ref q), (2, .int (nI f0)), (3, .int (nI t0))]) F.1 F.2.1 dX5_holds_13 hl (by decide) rfl (fun ls hl => ?_)
    have L15 : ∀ n : Nat, ∀ (k : Nat), (k ≤ sl) → (∀ j, j < k → chT T tl (f0 + j) = sb j) → sl - k < n → ∀ (H : Heap) (locs : List Loc), Wd G s (va_A (textW G a tl T) s.heap.size) (textW G a tl T) H locs → ∀ ls : Array Slot, lv_has ls 5 [(0, .ref (a 0)), (1, .ref q), (2, .int (nI f0)), (3, .int (nI t0)), (4, .int (nI k))] → W p l e (rmK 4 0 0) s m args below meth c H locs 0 0 (MQ below (QI G (textW G a tl T) s.heap.size (fun r v => r = nI 1 ∧ v = textW G a tl T)) args s 0 0 (va_A (textW G a tl T) s.heap.size)) (F0 m 15 ls []) := by
      intro n
      induction n with
      | zero => intro k h5 h3 hm; exact absurd hm (Nat.not_lt_zero _)
      | succ n ih15 =>
        intro k h5 h3 hm15 H locs w ls hl
        refine lv_iload F.1 F.2.1 dX5_holds_15 (lv_at hl 4 rfl) ?_
        refine lv_aload_n F.1 F.2.1 dX5_holds_17 rfl (lv_at hl 1 rfl) ?_
        refine q_callVI (rest := [.int (nI k)]) (fine_str _ _ _ _) hX hX.2.1.1 F w (c_J0_length_8abf5 l G q sv sl sb) gX5_holds_J0_length_8abf5 (nA0 := 0) rfl (by decide +kernel) rfl ⟨Nat.le_of_ble_eq_true rfl, Nat.le_of_ble_eq_true rfl⟩ ⟨Nat.le_of_ble_eq_true rfl, Nat.le_of_ble_eq_true rfl⟩ hl rfl (Nat.le_of_ble_eq_true rfl) dX5_holds_18 (fun r_18 w1 H locs hp w => ?_)
        obtain ⟨rfl, rfl⟩ := hp
        have w := w.is (ws' := textW G a tl T) rfl
        refine r_cge (tgt := 49) F dX5_holds_21 (by decide) (by omega) (by omega) (fun c21 => ?_) (fun c21 => ?_)
        · skip
          refine lv_iconst (v := nI 1) F.1 F.2.1 dX5_holds_49 (by decide) ?_
          exact r_zreturn F w dX5_holds_50 rfl (⟨rfl, rfl⟩)
        · skip
          refine lv_aload_n F.1 F.2.1 dX5_holds_24 rfl (lv_at hl 0 rfl) ?_
          refine lv_iload_n F.1 F.2.1 dX5_holds_25 rfl (lv_at hl 2 rfl) ?_
          refine lv_iload F.1 F.2.1 dX5_holds_26 (lv_at hl 4 rfl) ?_
          refine r_iadd F dX5_holds_28 ?_
          refine r_callVI (rest := []) F w (c_X5_at l G a tl T hT (by omega) (f0 + k) (by omega)) gX5_holds_X5_at [0, 1] [] (nA0 := 1) rfl (by decide +kernel) rfl ⟨Nat.le_of_ble_eq_true rfl, Nat.le_of_ble_eq_true rfl⟩ ⟨Nat.le_of_ble_eq_true rfl, Nat.le_of_ble_eq_true rfl⟩ rfl rfl rfl rfl rfl rfl rfl hl rfl (Nat.le_of_ble_eq_true rfl) dX5_holds_29 (fun r_29 w1 H locs hp w => ?_)
          obtain ⟨rfl, rfl⟩ := hp
          have w := w.sub (ws' := textW G a tl T) [0, 1] (by decide) rfl
          refine lv_aload_n F.1 F.2.1 dX5_holds_32 rfl (lv_at hl 1 rfl) ?_
          refine lv_iload F.1 F.2.1 dX5_holds_33 (lv_at hl 4 rfl) ?_
          refine q_callVI (rest := [.int (nI (chT T tl (f0 + k)))]) (fine_str _ _ _ _) hX hX.2.1.1 F w (c_J0_charAt_5068e l G q sv sl sb k c21 hn hb) gX5_holds_J0_charAt_5068e (nA0 := 1) rfl (by decide +kernel) rfl ⟨Nat.le_of_ble_eq_true rfl, Nat.le_of_ble_eq_true rfl⟩ ⟨Nat.le_of_ble_eq_true rfl, Nat.le_of_ble_eq_true rfl⟩ hl rfl (Nat.le_of_ble_eq_true rfl) dX5_holds_35 (fun r_35 w1 H locs hp w => ?_)
          obtain ⟨rfl, rfl⟩ := hp
          have w := w.is (ws' := textW G a tl T) rfl
          refine r_ceq (tgt := 43) F dX5_holds_38 (by decide) (by have := chT_lt hT tl (f0 + k); omega) (by have := hb k; omega) (fun c38 => ?_) (fun c38 => ?_)
          · skip
            refine lv_iinc (v := nI (k + 1)) (lv' := [(4, .int (nI (k + 1))), (0, .ref (a 0)), (1, .ref q), (2, .int (nI f0)), (3, .int (nI t0))]) F.1 F.2.1 dX5_holds_43 hl (k := 4) rfl (nI_add _ _) (by decide) rfl (fun ls hl => ?_)
            refine lv_goto (tgt := 15) F.1 F.2.1 dX5_holds_46 (by decide) ?_
            exact ih15 (k + 1) (by omega) (fun j hj => by rcases Nat.lt_succ_iff_lt_or_eq.mp hj with q | q; exact h3 j q; rw [q]; exact c38) (by omega) _ _ w ls (lv_sub hl [1, 2, 3, 4, 0] rfl)
          · exact absurd (hh.2 k c21) c38
    exact L15 _ 0 (Nat.zero_le _) (fun j hj => absurd hj (Nat.not_lt_zero _)) (Nat.lt_succ_self _) _ _ w ls (lv_sub hl [1, 2, 3, 4, 0] rfl)
  · exact absurd hh.1 c7
set_option maxRecDepth 100000 in
set_option maxHeartbeats 4000000 in
theorem c_X5_holdsN (l : Launch) (G : KG) (q sv sl : Nat) (sb : Nat → Nat) (a : Nat → Nat) (tl : Nat) (T : Nat → Nat) (hT : TxtOk T) (h1 : tl ≤ 100) (hn : sl < 2 ^ 31) (hb : ∀ k, sb k < 128) (f0 t0 : Nat) (h0 : f0 ≤ t0) (h2 : t0 ≤ 100) (hh : ¬ hold T tl f0 t0 sl sb) : MetIX l yX5_holds wsX5_holds 4 G (textW G a tl T) [.ref (a 0), .ref q, .int (nI f0), .int (nI t0)] (strX q sv sl sb) (fun r v => r = nI 0 ∧ v = textW G a tl T) := by
  refine MetIX.by (cc := cX5_holds) (nL := 5) (ret := some .boolean) (by decide +kernel) rfl (Nat.le_of_ble_eq_true rfl) ?_
  intro p e s m args below meth c F hX w ls hl
  have hl : lv_has ls 5 [(0, .ref (a 0)), (1, .ref q), (2, .int (nI f0)), (3, .int (nI t0))] := hl
  have hts := F.ts
  refine lv_iload_n F.1 F.2.1 dX5_holds_0 rfl (lv_at hl 3 rfl) ?_
  refine lv_iload_n F.1 F.2.1 dX5_holds_1 rfl (lv_at hl 2 rfl) ?_
  refine r_isub F dX5_holds_2 (by omega) ?_
  refine lv_aload_n F.1 F.2.1 dX5_holds_3 rfl (lv_at hl 1 rfl) ?_
  refine q_callVI (rest := [.int (nI (t0 - f0))]) (fine_str _ _ _ _) hX hX.2.1.1 F w (c_J0_length_8abf5 l G q sv sl sb) gX5_holds_J0_length_8abf5 (nA0 := 0) rfl (by decide +kernel) rfl ⟨Nat.le_of_ble_eq_true rfl, Nat.le_of_ble_eq_true rfl⟩ ⟨Nat.le_of_ble_eq_true rfl, Nat.le_of_ble_eq_true rfl⟩ hl rfl (Nat.le_of_ble_eq_true rfl) dX5_holds_4 (fun r_4 w1 H locs hp w => ?_)
  obtain ⟨rfl, rfl⟩ := hp
  have w := w.is (ws' := textW G a tl T) rfl
  refine r_ceq (tgt := 12) F dX5_holds_7 (by decide) (by omega) (by omega) (fun c7 => ?_) (fun c7 => ?_)
  · skip
    refine lv_iconst (v := nI 0) F.1 F.2.1 dX5_holds_12 (by decide) ?_
    refine lv_istore (lv' := [(4, .int (nI 0)), (0, .ref (a 0)), (1, .ref q), (2, .int (nI f0)), (3, .int (nI t0))]) F.1 F.2.1 dX5_holds_13 hl (by decide) rfl (fun ls hl => ?_)
    have L15 : ∀ n : Nat, ∀ (k : Nat), (k ≤ sl) → (∀ j, j < k → chT T tl (f0 + j) = sb j) → sl - k < n → ∀ (H : Heap) (locs : List Loc), Wd G s (va_A (textW G a tl T) s.heap.size) (textW G a tl T) H locs → ∀ ls : Array Slot, lv_has ls 5 [(0, .ref (a 0)), (1, .ref q), (2, .int (nI f0)), (3, .int (nI t0)), (4, .int (nI k))] → W p l e (rmK 4 0 0) s m args below meth c H locs 0 0 (MQ below (QI G (textW G a tl T) s.heap.size (fun r v => r = nI 0 ∧ v = textW G a tl T)) args s 0 0 (va_A (textW G a tl T) s.heap.size)) (F0 m 15 ls []) := by
      intro n
      induction n with
      | zero => intro k h5 h3 hm; exact absurd hm (Nat.not_lt_zero _)
      | succ n ih15 =>
        intro k h5 h3 hm15 H locs w ls hl
        refine lv_iload F.1 F.2.1 dX5_holds_15 (lv_at hl 4 rfl) ?_
        refine lv_aload_n F.1 F.2.1 dX5_holds_17 rfl (lv_at hl 1 rfl) ?_
        refine q_callVI (rest := [.int (nI k)]) (fine_str _ _ _ _) hX hX.2.1.1 F w (c_J0_length_8abf5 l G q sv sl sb) gX5_holds_J0_length_8abf5 (nA0 := 0) rfl (by decide +kernel) rfl ⟨Nat.le_of_ble_eq_true rfl, Nat.le_of_ble_eq_true rfl⟩ ⟨Nat.le_of_ble_eq_true rfl, Nat.le_of_ble_eq_true rfl⟩ hl rfl (Nat.le_of_ble_eq_true rfl) dX5_holds_18 (fun r_18 w1 H locs hp w => ?_)
        obtain ⟨rfl, rfl⟩ := hp
        have w := w.is (ws' := textW G a tl T) rfl
        refine r_cge (tgt := 49) F dX5_holds_21 (by decide) (by omega) (by omega) (fun c21 => ?_) (fun c21 => ?_)
        · skip
          exact absurd ⟨c7, by rw [show sl = k by omega]; exact h3⟩ hh
        · skip
          refine lv_aload_n F.1 F.2.1 dX5_holds_24 rfl (lv_at hl 0 rfl) ?_
          refine lv_iload_n F.1 F.2.1 dX5_holds_25 rfl (lv_at hl 2 rfl) ?_
          refine lv_iload F.1 F.2.1 dX5_holds_26 (lv_at hl 4 rfl) ?_
          refine r_iadd F dX5_holds_28 ?_
          refine r_callVI (rest := []) F w (c_X5_at l G a tl T hT (by omega) (f0 + k) (by omega)) gX5_holds_X5_at [0, 1] [] (nA0 := 1) rfl (by decide +kernel) rfl ⟨Nat.le_of_ble_eq_true rfl, Nat.le_of_ble_eq_true rfl⟩ ⟨Nat.le_of_ble_eq_true rfl, Nat.le_of_ble_eq_true rfl⟩ rfl rfl rfl rfl rfl rfl rfl hl rfl (Nat.le_of_ble_eq_true rfl) dX5_holds_29 (fun r_29 w1 H locs hp w => ?_)
          obtain ⟨rfl, rfl⟩ := hp
          have w := w.sub (ws' := textW G a tl T) [0, 1] (by decide) rfl
          refine lv_aload_n F.1 F.2.1 dX5_holds_32 rfl (lv_at hl 1 rfl) ?_
          refine lv_iload F.1 F.2.1 dX5_holds_33 (lv_at hl 4 rfl) ?_
          refine q_callVI (rest := [.int (nI (chT T tl (f0 + k)))]) (fine_str _ _ _ _) hX hX.2.1.1 F w (c_J0_charAt_5068e l G q sv sl sb k c21 hn hb) gX5_holds_J0_charAt_5068e (nA0 := 1) rfl (by decide +kernel) rfl ⟨Nat.le_of_ble_eq_true rfl, Nat.le_of_ble_eq_true rfl⟩ ⟨Nat.le_of_ble_eq_true rfl, Nat.le_of_ble_eq_true rfl⟩ hl rfl (Nat.le_of_ble_eq_true rfl) dX5_holds_35 (fun r_35 w1 H locs hp w => ?_)
          obtain ⟨rfl, rfl⟩ := hp
          have w := w.is (ws' := textW G a tl T) rfl
          refine r_ceq (tgt := 43) F dX5_holds_38 (by decide) (by have := chT_lt hT tl (f0 + k); omega) (by have := hb k; omega) (fun c38 => ?_) (fun c38 => ?_)
          · skip
            refine lv_iinc (v := nI (k + 1)) (lv' := [(4, .int (nI (k + 1))), (0, .ref (a 0)), (1, .ref q), (2, .int (nI f0)), (3, .int (nI t0))]) F.1 F.2.1 dX5_holds_43 hl (k := 4) rfl (nI_add _ _) (by decide) rfl (fun ls hl => ?_)
            refine lv_goto (tgt := 15) F.1 F.2.1 dX5_holds_46 (by decide) ?_
            exact ih15 (k + 1) (by omega) (fun j hj => by rcases Nat.lt_succ_iff_lt_or_eq.mp hj with q | q; exact h3 j q; rw [q]; exact c38) (by omega) _ _ w ls (lv_sub hl [1, 2, 3, 4, 0] rfl)
          · skip
            refine lv_iconst (v := nI 0) F.1 F.2.1 dX5_holds_41 (by decide) ?_
            exact r_zreturn F w dX5_holds_42 rfl (⟨rfl, rfl⟩)
    exact L15 _ 0 (Nat.zero_le _) (fun j hj => absurd hj (Nat.not_lt_zero _)) (Nat.lt_succ_self _) _ _ w ls (lv_sub hl [1, 2, 3, 4, 0] rfl)
  · skip
    refine lv_iconst (v := nI 0) F.1 F.2.1 dX5_holds_10 (by decide) ?_
    exact r_zreturn F w dX5_holds_11 rfl (⟨rfl, rfl⟩)
def wrdX (q0 v0 q1 v1 q2 v2 : Nat) : XF := fun A U H => jdkX A U H ∧ (strO q0 v0 3 iceF A U H ∧ vk_R "CoreMelter$Reading" 74 "ice" q0 U) ∧ (strO q1 v1 5 crackF A U H ∧ vk_R "CoreMelter$Reading" 80 "crack" q1 U) ∧ (strO q2 v2 4 dustF A U H ∧ vk_R "CoreMelter$Reading" 82 "dust" q2 U)
theorem fine_wrd (q0 v0 q1 v1 q2 v2 : Nat) : fineX (wrdX q0 v0 q1 v1 q2 v2) := fine_jdk.and (((fine_strO _ _ _ _).and fineX.R).and (((fine_strO _ _ _ _).and fineX.R).and ((fine_strO _ _ _ _).and fineX.R)))
set_option maxRecDepth 100000 in
set_option maxHeartbeats 4000000 in
theorem c_X4_readWord0 (l : Launch) (G : KG) (q0 v0 q1 v1 q2 v2 : Nat) (ra rc xa : Nat → Nat) (fi re nu nx : Nat) (N : Nat → Nat) (tl : Nat) (T : Nat → Nat) (hT : TxtOk T) (h1 : tl ≤ 100) (hn : nx ≤ tl) (hk : kdT T tl nx = 0) : MetIX l yX4_readWord wsX4_readWord 5 G (readH G ra rc fi re nu nx N ++ (textW G xa tl T)) [.ref (ra 0), .ref (xa 0)] (wrdX q0 v0 q1 v1 q2 v2) (fun r v => r = nI 0 ∧ v = readH G ra rc fi re nu (nx + wl T tl nx) N ++ (textW G xa tl T)) := by
  refine MetIX.by (cc := cX4_readWord) (nL := 3) (ret := some .int) (by decide +kernel) rfl (Nat.le_of_ble_eq_true rfl) ?_
  intro p e s m args below meth c F hX w ls hl
  have hl : lv_has ls 3 [(0, .ref (ra 0)), (1, .ref (xa 0))] := hl
  have hts := F.ts
  have iX4 : ∀ w ∈ wsX40, w ∈ wsX4_readWord := by decide +kernel
  have iX5 : ∀ w ∈ wsX50, w ∈ wsX4_readWord := by decide +kernel
  have f31 := hts (.fieldLink RX4 31 "CoreMelter$Reading" "next" "I") (by decide +kernel)
  have f34 := hts (.fieldLink RX4 34 "CoreMelter$Text" "length" "I") (by decide +kernel)
  refine lv_aload_n F.1 F.2.1 dX4_readWord_0 rfl (lv_at hl 0 rfl) ?_
  refine r_get F w 0 4 iX4 f31 rfl rfl rfl (by decide) rfl dX4_readWord_1 ?_
  refine lv_istore_n (lv' := [(2, .int (nI nx)), (0, .ref (ra 0)), (1, .ref (xa 0))]) F.1 F.2.1 dX4_readWord_4 rfl hl (by decide) rfl (fun ls hl => ?_)
  have L5 : ∀ n : Nat, ∀ (k : Nat), (nx + k ≤ tl) → (∀ j, j < k → smN T tl nx j < 1) → tl - nx - k < n → ∀ (H : Heap) (locs : List Loc), Wd G s (va_A (readH G ra rc fi re nu nx N ++ (textW G xa tl T)) s.heap.size) (readH G ra rc fi re nu (nx + k) N ++ (textW G xa tl T)) H locs → ∀ ls : Array Slot, lv_has ls 3 [(0, .ref (ra 0)), (1, .ref (xa 0)), (2, .int (nI nx))] → W p l e (rmK 5 0 0) s m args below meth c H locs 0 0 (MQ below (QI G (readH G ra rc fi re nu nx N ++ (textW G xa tl T)) s.heap.size (fun r v => r = nI 0 ∧ v = readH G ra rc fi re nu (nx + wl T tl nx) N ++ (textW G xa tl T))) args s 0 0 (va_A (readH G ra rc fi re nu nx N ++ (textW G xa tl T)) s.heap.size)) (F0 m 5 ls []) := by
    intro n
    induction n with
    | zero => intro k h2 h3 hm; exact absurd hm (Nat.not_lt_zero _)
    | succ n ih5 =>
      intro k h2 h3 hm5 H locs w ls hl
      refine lv_aload_n F.1 F.2.1 dX4_readWord_5 rfl (lv_at hl 0 rfl) ?_
      refine r_get F w 0 4 iX4 f31 rfl rfl rfl (by decide) rfl dX4_readWord_6 ?_
      refine lv_aload_n F.1 F.2.1 dX4_readWord_9 rfl (lv_at hl 1 rfl) ?_
      refine r_get F w 2 0 iX5 f34 rfl rfl rfl (by decide) rfl dX4_readWord_10 ?_
      refine r_cge (tgt := 40) F dX4_readWord_13 (by decide) (by omega) (by omega) (fun c13 => ?_) (fun c13 => ?_)
      · skip
        have hw : wl T tl nx = k := by first | exact wl_at h2 h3 c24 | exact wl_at h2 h3 (fun z => by have := chT_in (T := T) (tl := tl) (i := nx + k) (by omega); omega)
        have w := w.is (ws' := readH G ra rc fi re nu (nx + wl T tl nx) N ++ (textW G xa tl T)) (by rw [hw])
        refine lv_aload_n F.1 F.2.1 dX4_readWord_40 rfl (lv_at hl 1 rfl) ?_
        refine r_ldcS F hX.2.1.2 dX4_readWord_41 ?_
        refine lv_iload_n F.1 F.2.1 dX4_readWord_43 rfl (lv_at hl 2 rfl) ?_
        refine lv_aload_n F.1 F.2.1 dX4_readWord_44 rfl (lv_at hl 0 rfl) ?_
        refine r_get F w 0 4 iX4 f31 rfl rfl rfl (by decide) rfl dX4_readWord_45 ?_
        have w := w.perm (ws' := textW G xa tl T ++ (readH G ra rc fi re nu (nx + wl T tl nx) N)) (List.perm_append_comm)
        refine x_callVI (fine_str _ _ _ _) ⟨hX.1, hX.2.1.1⟩ (rest := []) (wr := readH G ra rc fi re nu (nx + wl T tl nx) N) F w (c_X5_holdsY l G q0 v0 3 iceF xa tl T hT h1 (by decide) iceF_b nx (nx + wl T tl nx) (by omega) (by omega) ((kd_ice T tl nx).mp hk)) rfl gX4_readWord_X5_holds (nA0 := 3) rfl (by decide +kernel) rfl ⟨Nat.le_of_ble_eq_true rfl, Nat.le_of_ble_eq_true rfl⟩ ⟨Nat.le_of_ble_eq_true rfl, Nat.le_of_ble_eq_true rfl⟩ rfl rfl hl rfl (Nat.le_of_ble_eq_true rfl) dX4_readWord_48 (fun r_48 w1 H locs hp w => ?_)
        obtain ⟨rfl, rfl⟩ := hp
        have w := w.perm (ws' := readH G ra rc fi re nu (nx + wl T tl nx) N ++ (textW G xa tl T)) (List.perm_append_comm)
        refine r_zeq (tgt := 56) F dX4_readWord_51 (by decide) (by omega) (fun c51 => ?_) (fun c51 => ?_)
        · exact absurd c51 (by decide)
        · skip
          refine lv_iconst (v := nI 0) F.1 F.2.1 dX4_readWord_54 (by decide) ?_
          exact r_ireturn F w dX4_readWord_55 (⟨rfl, rfl⟩)
      · skip
        refine lv_aload_n F.1 F.2.1 dX4_readWord_16 rfl (lv_at hl 1 rfl) ?_
        refine lv_aload_n F.1 F.2.1 dX4_readWord_17 rfl (lv_at hl 0 rfl) ?_
        refine r_get F w 0 4 iX4 f31 rfl rfl rfl (by decide) rfl dX4_readWord_18 ?_
        refine r_callVI (rest := []) F w (c_X5_isSmallLetter l G xa tl T hT (by omega) (nx + k) (by omega)) gX4_readWord_X5_isSmallLetter [2, 3] [0, 1] (nA0 := 1) rfl (by decide +kernel) rfl ⟨Nat.le_of_ble_eq_true rfl, Nat.le_of_ble_eq_true rfl⟩ ⟨Nat.le_of_ble_eq_true rfl, Nat.le_of_ble_eq_true rfl⟩ rfl rfl rfl rfl rfl rfl rfl hl rfl (Nat.le_of_ble_eq_true rfl) dX4_readWord_21 (fun r_21 w1 H locs hp w => ?_)
        obtain ⟨rfl, rfl⟩ := hp
        have w := w.sub (ws' := readH G ra rc fi re nu (nx + k) N ++ (textW G xa tl T)) [0, 1, 2, 3] (by decide) rfl
        refine r_yeq (tgt := 40) F dX4_readWord_24 (by decide) (fun c24 => ?_) (fun c24 => ?_)
        · skip
          have hw : wl T tl nx = k := by first | exact wl_at h2 h3 c24 | exact wl_at h2 h3 (fun z => by have := chT_in (T := T) (tl := tl) (i := nx + k) (by omega); omega)
          have w := w.is (ws' := readH G ra rc fi re nu (nx + wl T tl nx) N ++ (textW G xa tl T)) (by rw [hw])
          refine lv_aload_n F.1 F.2.1 dX4_readWord_40 rfl (lv_at hl 1 rfl) ?_
          refine r_ldcS F hX.2.1.2 dX4_readWord_41 ?_
          refine lv_iload_n F.1 F.2.1 dX4_readWord_43 rfl (lv_at hl 2 rfl) ?_
          refine lv_aload_n F.1 F.2.1 dX4_readWord_44 rfl (lv_at hl 0 rfl) ?_
          refine r_get F w 0 4 iX4 f31 rfl rfl rfl (by decide) rfl dX4_readWord_45 ?_
          have w := w.perm (ws' := textW G xa tl T ++ (readH G ra rc fi re nu (nx + wl T tl nx) N)) (List.perm_append_comm)
          refine x_callVI (fine_str _ _ _ _) ⟨hX.1, hX.2.1.1⟩ (rest := []) (wr := readH G ra rc fi re nu (nx + wl T tl nx) N) F w (c_X5_holdsY l G q0 v0 3 iceF xa tl T hT h1 (by decide) iceF_b nx (nx + wl T tl nx) (by omega) (by omega) ((kd_ice T tl nx).mp hk)) rfl gX4_readWord_X5_holds (nA0 := 3) rfl (by decide +kernel) rfl ⟨Nat.le_of_ble_eq_true rfl, Nat.le_of_ble_eq_true rfl⟩ ⟨Nat.le_of_ble_eq_true rfl, Nat.le_of_ble_eq_true rfl⟩ rfl rfl hl rfl (Nat.le_of_ble_eq_true rfl) dX4_readWord_48 (fun r_48 w1 H locs hp w => ?_)
          obtain ⟨rfl, rfl⟩ := hp
          have w := w.perm (ws' := readH G ra rc fi re nu (nx + wl T tl nx) N ++ (textW G xa tl T)) (List.perm_append_comm)
          refine r_zeq (tgt := 56) F dX4_readWord_51 (by decide) (by omega) (fun c51 => ?_) (fun c51 => ?_)
          · exact absurd c51 (by decide)
          · skip
            refine lv_iconst (v := nI 0) F.1 F.2.1 dX4_readWord_54 (by decide) ?_
            exact r_ireturn F w dX4_readWord_55 (⟨rfl, rfl⟩)
        · skip
          refine lv_aload_n F.1 F.2.1 dX4_readWord_27 rfl (lv_at hl 0 rfl) ?_
          refine lv_dup F.1 F.2.1 dX4_readWord_28 rfl ?_
          refine r_get F w 0 4 iX4 f31 rfl rfl rfl (by decide) rfl dX4_readWord_29 ?_
          refine lv_iconst (v := nI 1) F.1 F.2.1 dX4_readWord_32 (by decide) ?_
          refine r_iadd F dX4_readWord_33 ?_
          refine r_put (ws' := readH G ra rc fi re nu ((nx + k) + 1) N ++ (textW G xa tl T)) F w 0 4 iX4 okX4 f31 rfl rfl rfl (by decide) (by decide +kernel) (Nat.le_of_ble_eq_true rfl) dX4_readWord_34 rfl (fun H locs w => ?_)
          refine lv_goto (tgt := 5) F.1 F.2.1 dX4_readWord_37 (by decide) ?_
          exact ih5 (k + 1) (by omega) (fun j hj => by rcases Nat.lt_succ_iff_lt_or_eq.mp hj with q | q; exact h3 j q; rw [q]; exact smN_lt.mpr c24) (by omega) _ _ w ls (lv_sub hl [0, 1, 2] rfl)
  exact L5 _ 0 (by omega) (fun j hj => absurd hj (Nat.not_lt_zero _)) (Nat.lt_succ_self _) _ _ w ls (lv_sub hl [1, 2, 0] rfl)
set_option maxRecDepth 100000 in
set_option maxHeartbeats 4000000 in
theorem c_X4_readWord1 (l : Launch) (G : KG) (q0 v0 q1 v1 q2 v2 : Nat) (ra rc xa : Nat → Nat) (fi re nu nx : Nat) (N : Nat → Nat) (tl : Nat) (T : Nat → Nat) (hT : TxtOk T) (h1 : tl ≤ 100) (hn : nx ≤ tl) (hk : kdT T tl nx = 1) : MetIX l yX4_readWord wsX4_readWord 5 G (readH G ra rc fi re nu nx N ++ (textW G xa tl T)) [.ref (ra 0), .ref (xa 0)] (wrdX q0 v0 q1 v1 q2 v2) (fun r v => r = nI 1 ∧ v = readH G ra rc fi re nu (nx + wl T tl nx) N ++ (textW G xa tl T)) := by
  refine MetIX.by (cc := cX4_readWord) (nL := 3) (ret := some .int) (by decide +kernel) rfl (Nat.le_of_ble_eq_true rfl) ?_
  intro p e s m args below meth c F hX w ls hl
  have hl : lv_has ls 3 [(0, .ref (ra 0)), (1, .ref (xa 0))] := hl
  have hts := F.ts
  have iX4 : ∀ w ∈ wsX40, w ∈ wsX4_readWord := by decide +kernel
  have iX5 : ∀ w ∈ wsX50, w ∈ wsX4_readWord := by decide +kernel
  have f31 := hts (.fieldLink RX4 31 "CoreMelter$Reading" "next" "I") (by decide +kernel)
  have f34 := hts (.fieldLink RX4 34 "CoreMelter$Text" "length" "I") (by decide +kernel)
  refine lv_aload_n F.1 F.2.1 dX4_readWord_0 rfl (lv_at hl 0 rfl) ?_
  refine r_get F w 0 4 iX4 f31 rfl rfl rfl (by decide) rfl dX4_readWord_1 ?_
  refine lv_istore_n (lv' := [(2, .int (nI nx)), (0, .ref (ra 0)), (1, .ref (xa 0))]) F.1 F.2.1 dX4_readWord_4 rfl hl (by decide) rfl (fun ls hl => ?_)
  have L5 : ∀ n : Nat, ∀ (k : Nat), (nx + k ≤ tl) → (∀ j, j < k → smN T tl nx j < 1) → tl - nx - k < n → ∀ (H : Heap) (locs : List Loc), Wd G s (va_A (readH G ra rc fi re nu nx N ++ (textW G xa tl T)) s.heap.size) (readH G ra rc fi re nu (nx + k) N ++ (textW G xa tl T)) H locs → ∀ ls : Array Slot, lv_has ls 3 [(0, .ref (ra 0)), (1, .ref (xa 0)), (2, .int (nI nx))] → W p l e (rmK 5 0 0) s m args below meth c H locs 0 0 (MQ below (QI G (readH G ra rc fi re nu nx N ++ (textW G xa tl T)) s.heap.size (fun r v => r = nI 1 ∧ v = readH G ra rc fi re nu (nx + wl T tl nx) N ++ (textW G xa tl T))) args s 0 0 (va_A (readH G ra rc fi re nu nx N ++ (textW G xa tl T)) s.heap.size)) (F0 m 5 ls []) := by
    intro n
    induction n with
    | zero => intro k h2 h3 hm; exact absurd hm (Nat.not_lt_zero _)
    | succ n ih5 =>
      intro k h2 h3 hm5 H locs w ls hl
      refine lv_aload_n F.1 F.2.1 dX4_readWord_5 rfl (lv_at hl 0 rfl) ?_
      refine r_get F w 0 4 iX4 f31 rfl rfl rfl (by decide) rfl dX4_readWord_6 ?_
      refine lv_aload_n F.1 F.2.1 dX4_readWord_9 rfl (lv_at hl 1 rfl) ?_
      refine r_get F w 2 0 iX5 f34 rfl rfl rfl (by decide) rfl dX4_readWord_10 ?_
      refine r_cge (tgt := 40) F dX4_readWord_13 (by decide) (by omega) (by omega) (fun c13 => ?_) (fun c13 => ?_)
      · skip
        have hw : wl T tl nx = k := by first | exact wl_at h2 h3 c24 | exact wl_at h2 h3 (fun z => by have := chT_in (T := T) (tl := tl) (i := nx + k) (by omega); omega)
        have w := w.is (ws' := readH G ra rc fi re nu (nx + wl T tl nx) N ++ (textW G xa tl T)) (by rw [hw])
        refine lv_aload_n F.1 F.2.1 dX4_readWord_40 rfl (lv_at hl 1 rfl) ?_
        refine r_ldcS F hX.2.1.2 dX4_readWord_41 ?_
        refine lv_iload_n F.1 F.2.1 dX4_readWord_43 rfl (lv_at hl 2 rfl) ?_
        refine lv_aload_n F.1 F.2.1 dX4_readWord_44 rfl (lv_at hl 0 rfl) ?_
        refine r_get F w 0 4 iX4 f31 rfl rfl rfl (by decide) rfl dX4_readWord_45 ?_
        have w := w.perm (ws' := textW G xa tl T ++ (readH G ra rc fi re nu (nx + wl T tl nx) N)) (List.perm_append_comm)
        refine x_callVI (fine_str _ _ _ _) ⟨hX.1, hX.2.1.1⟩ (rest := []) (wr := readH G ra rc fi re nu (nx + wl T tl nx) N) F w (c_X5_holdsN l G q0 v0 3 iceF xa tl T hT h1 (by decide) iceF_b nx (nx + wl T tl nx) (by omega) (by omega) (fun z => absurd ((kd_ice T tl nx).mpr z) (by omega))) rfl gX4_readWord_X5_holds (nA0 := 3) rfl (by decide +kernel) rfl ⟨Nat.le_of_ble_eq_true rfl, Nat.le_of_ble_eq_true rfl⟩ ⟨Nat.le_of_ble_eq_true rfl, Nat.le_of_ble_eq_true rfl⟩ rfl rfl hl rfl (Nat.le_of_ble_eq_true rfl) dX4_readWord_48 (fun r_48 w1 H locs hp w => ?_)
        obtain ⟨rfl, rfl⟩ := hp
        have w := w.perm (ws' := readH G ra rc fi re nu (nx + wl T tl nx) N ++ (textW G xa tl T)) (List.perm_append_comm)
        refine r_zeq (tgt := 56) F dX4_readWord_51 (by decide) (by omega) (fun c51 => ?_) (fun c51 => ?_)
        · skip
          refine lv_aload_n F.1 F.2.1 dX4_readWord_56 rfl (lv_at hl 1 rfl) ?_
          refine r_ldcS F hX.2.2.1.2 dX4_readWord_57 ?_
          refine lv_iload_n F.1 F.2.1 dX4_readWord_59 rfl (lv_at hl 2 rfl) ?_
          refine lv_aload_n F.1 F.2.1 dX4_readWord_60 rfl (lv_at hl 0 rfl) ?_
          refine r_get F w 0 4 iX4 f31 rfl rfl rfl (by decide) rfl dX4_readWord_61 ?_
          have w := w.perm (ws' := textW G xa tl T ++ (readH G ra rc fi re nu (nx + wl T tl nx) N)) (List.perm_append_comm)
          refine x_callVI (fine_str _ _ _ _) ⟨hX.1, hX.2.2.1.1⟩ (rest := []) (wr := readH G ra rc fi re nu (nx + wl T tl nx) N) F w (c_X5_holdsY l G q1 v1 5 crackF xa tl T hT h1 (by decide) crackF_b nx (nx + wl T tl nx) (by omega) (by omega) ((kd_crack T tl nx).mp hk)) rfl gX4_readWord_X5_holds (nA0 := 3) rfl (by decide +kernel) rfl ⟨Nat.le_of_ble_eq_true rfl, Nat.le_of_ble_eq_true rfl⟩ ⟨Nat.le_of_ble_eq_true rfl, Nat.le_of_ble_eq_true rfl⟩ rfl rfl hl rfl (Nat.le_of_ble_eq_true rfl) dX4_readWord_64 (fun r_64 w1 H locs hp w => ?_)
          obtain ⟨rfl, rfl⟩ := hp
          have w := w.perm (ws' := readH G ra rc fi re nu (nx + wl T tl nx) N ++ (textW G xa tl T)) (List.perm_append_comm)
          refine r_zeq (tgt := 72) F dX4_readWord_67 (by decide) (by omega) (fun c67 => ?_) (fun c67 => ?_)
          · exact absurd c67 (by decide)
          · skip
            refine lv_iconst (v := nI 1) F.1 F.2.1 dX4_readWord_70 (by decide) ?_
            exact r_ireturn F w dX4_readWord_71 (⟨rfl, rfl⟩)
        · exact absurd rfl c51
      · skip
        refine lv_aload_n F.1 F.2.1 dX4_readWord_16 rfl (lv_at hl 1 rfl) ?_
        refine lv_aload_n F.1 F.2.1 dX4_readWord_17 rfl (lv_at hl 0 rfl) ?_
        refine r_get F w 0 4 iX4 f31 rfl rfl rfl (by decide) rfl dX4_readWord_18 ?_
        refine r_callVI (rest := []) F w (c_X5_isSmallLetter l G xa tl T hT (by omega) (nx + k) (by omega)) gX4_readWord_X5_isSmallLetter [2, 3] [0, 1] (nA0 := 1) rfl (by decide +kernel) rfl ⟨Nat.le_of_ble_eq_true rfl, Nat.le_of_ble_eq_true rfl⟩ ⟨Nat.le_of_ble_eq_true rfl, Nat.le_of_ble_eq_true rfl⟩ rfl rfl rfl rfl rfl rfl rfl hl rfl (Nat.le_of_ble_eq_true rfl) dX4_readWord_21 (fun r_21 w1 H locs hp w => ?_)
        obtain ⟨rfl, rfl⟩ := hp
        have w := w.sub (ws' := readH G ra rc fi re nu (nx + k) N ++ (textW G xa tl T)) [0, 1, 2, 3] (by decide) rfl
        refine r_yeq (tgt := 40) F dX4_readWord_24 (by decide) (fun c24 => ?_) (fun c24 => ?_)
        · skip
          have hw : wl T tl nx = k := by first | exact wl_at h2 h3 c24 | exact wl_at h2 h3 (fun z => by have := chT_in (T := T) (tl := tl) (i := nx + k) (by omega); omega)
          have w := w.is (ws' := readH G ra rc fi re nu (nx + wl T tl nx) N ++ (textW G xa tl T)) (by rw [hw])
          refine lv_aload_n F.1 F.2.1 dX4_readWord_40 rfl (lv_at hl 1 rfl) ?_
          refine r_ldcS F hX.2.1.2 dX4_readWord_41 ?_
          refine lv_iload_n F.1 F.2.1 dX4_readWord_43 rfl (lv_at hl 2 rfl) ?_
          refine lv_aload_n F.1 F.2.1 dX4_readWord_44 rfl (lv_at hl 0 rfl) ?_
          refine r_get F w 0 4 iX4 f31 rfl rfl rfl (by decide) rfl dX4_readWord_45 ?_
          have w := w.perm (ws' := textW G xa tl T ++ (readH G ra rc fi re nu (nx + wl T tl nx) N)) (List.perm_append_comm)
          refine x_callVI (fine_str _ _ _ _) ⟨hX.1, hX.2.1.1⟩ (rest := []) (wr := readH G ra rc fi re nu (nx + wl T tl nx) N) F w (c_X5_holdsN l G q0 v0 3 iceF xa tl T hT h1 (by decide) iceF_b nx (nx + wl T tl nx) (by omega) (by omega) (fun z => absurd ((kd_ice T tl nx).mpr z) (by omega))) rfl gX4_readWord_X5_holds (nA0 := 3) rfl (by decide +kernel) rfl ⟨Nat.le_of_ble_eq_true rfl, Nat.le_of_ble_eq_true rfl⟩ ⟨Nat.le_of_ble_eq_true rfl, Nat.le_of_ble_eq_true rfl⟩ rfl rfl hl rfl (Nat.le_of_ble_eq_true rfl) dX4_readWord_48 (fun r_48 w1 H locs hp w => ?_)
          obtain ⟨rfl, rfl⟩ := hp
          have w := w.perm (ws' := readH G ra rc fi re nu (nx + wl T tl nx) N ++ (textW G xa tl T)) (List.perm_append_comm)
          refine r_zeq (tgt := 56) F dX4_readWord_51 (by decide) (by omega) (fun c51 => ?_) (fun c51 => ?_)
          · skip
            refine lv_aload_n F.1 F.2.1 dX4_readWord_56 rfl (lv_at hl 1 rfl) ?_
            refine r_ldcS F hX.2.2.1.2 dX4_readWord_57 ?_
            refine lv_iload_n F.1 F.2.1 dX4_readWord_59 rfl (lv_at hl 2 rfl) ?_
            refine lv_aload_n F.1 F.2.1 dX4_readWord_60 rfl (lv_at hl 0 rfl) ?_
            refine r_get F w 0 4 iX4 f31 rfl rfl rfl (by decide) rfl dX4_readWord_61 ?_
            have w := w.perm (ws' := textW G xa tl T ++ (readH G ra rc fi re nu (nx + wl T tl nx) N)) (List.perm_append_comm)
            refine x_callVI (fine_str _ _ _ _) ⟨hX.1, hX.2.2.1.1⟩ (rest := []) (wr := readH G ra rc fi re nu (nx + wl T tl nx) N) F w (c_X5_holdsY l G q1 v1 5 crackF xa tl T hT h1 (by decide) crackF_b nx (nx + wl T tl nx) (by omega) (by omega) ((kd_crack T tl nx).mp hk)) rfl gX4_readWord_X5_holds (nA0 := 3) rfl (by decide +kernel) rfl ⟨Nat.le_of_ble_eq_true rfl, Nat.le_of_ble_eq_true rfl⟩ ⟨Nat.le_of_ble_eq_true rfl, Nat.le_of_ble_eq_true rfl⟩ rfl rfl hl rfl (Nat.le_of_ble_eq_true rfl) dX4_readWord_64 (fun r_64 w1 H locs hp w => ?_)
            obtain ⟨rfl, rfl⟩ := hp
            have w := w.perm (ws' := readH G ra rc fi re nu (nx + wl T tl nx) N ++ (textW G xa tl T)) (List.perm_append_comm)
            refine r_zeq (tgt := 72) F dX4_readWord_67 (by decide) (by omega) (fun c67 => ?_) (fun c67 => ?_)
            · exact absurd c67 (by decide)
            · skip
              refine lv_iconst (v := nI 1) F.1 F.2.1 dX4_readWord_70 (by decide) ?_
              exact r_ireturn F w dX4_readWord_71 (⟨rfl, rfl⟩)
          · exact absurd rfl c51
        · skip
          refine lv_aload_n F.1 F.2.1 dX4_readWord_27 rfl (lv_at hl 0 rfl) ?_
          refine lv_dup F.1 F.2.1 dX4_readWord_28 rfl ?_
          refine r_get F w 0 4 iX4 f31 rfl rfl rfl (by decide) rfl dX4_readWord_29 ?_
          refine lv_iconst (v := nI 1) F.1 F.2.1 dX4_readWord_32 (by decide) ?_
          refine r_iadd F dX4_readWord_33 ?_
          refine r_put (ws' := readH G ra rc fi re nu ((nx + k) + 1) N ++ (textW G xa tl T)) F w 0 4 iX4 okX4 f31 rfl rfl rfl (by decide) (by decide +kernel) (Nat.le_of_ble_eq_true rfl) dX4_readWord_34 rfl (fun H locs w => ?_)
          refine lv_goto (tgt := 5) F.1 F.2.1 dX4_readWord_37 (by decide) ?_
          exact ih5 (k + 1) (by omega) (fun j hj => by rcases Nat.lt_succ_iff_lt_or_eq.mp hj with q | q; exact h3 j q; rw [q]; exact smN_lt.mpr c24) (by omega) _ _ w ls (lv_sub hl [0, 1, 2] rfl)
  exact L5 _ 0 (by omega) (fun j hj => absurd hj (Nat.not_lt_zero _)) (Nat.lt_succ_self _) _ _ w ls (lv_sub hl [1, 2, 0] rfl)
set_option maxRecDepth 100000 in
set_option maxHeartbeats 4000000 in
theorem c_X4_readWord2 (l : Launch) (G : KG) (q0 v0 q1 v1 q2 v2 : Nat) (ra rc xa : Nat → Nat) (fi re nu nx : Nat) (N : Nat → Nat) (tl : Nat) (T : Nat → Nat) (hT : TxtOk T) (h1 : tl ≤ 100) (hn : nx ≤ tl) (hk : kdT T tl nx = 2) : MetIX l yX4_readWord wsX4_readWord 5 G (readH G ra rc fi re nu nx N ++ (textW G xa tl T)) [.ref (ra 0), .ref (xa 0)] (wrdX q0 v0 q1 v1 q2 v2) (fun r v => r = nI 2 ∧ v = readH G ra rc fi re nu (nx + wl T tl nx) N ++ (textW G xa tl T)) := by
  refine MetIX.by (cc := cX4_readWord) (nL := 3) (ret := some .int) (by decide +kernel) rfl (Nat.le_of_ble_eq_true rfl) ?_
  intro p e s m args below meth c F hX w ls hl
  have hl : lv_has ls 3 [(0, .ref (ra 0)), (1, .ref (xa 0))] := hl
  have hts := F.ts
  have iX4 : ∀ w ∈ wsX40, w ∈ wsX4_readWord := by decide +kernel
  have iX5 : ∀ w ∈ wsX50, w ∈ wsX4_readWord := by decide +kernel
  have f31 := hts (.fieldLink RX4 31 "CoreMelter$Reading" "next" "I") (by decide +kernel)
  have f34 := hts (.fieldLink RX4 34 "CoreMelter$Text" "length" "I") (by decide +kernel)
  refine lv_aload_n F.1 F.2.1 dX4_readWord_0 rfl (lv_at hl 0 rfl) ?_
  refine r_get F w 0 4 iX4 f31 rfl rfl rfl (by decide) rfl dX4_readWord_1 ?_
  refine lv_istore_n (lv' := [(2, .int (nI nx)), (0, .ref (ra 0)), (1, .ref (xa 0))]) F.1 F.2.1 dX4_readWord_4 rfl hl (by decide) rfl (fun ls hl => ?_)
  have L5 : ∀ n : Nat, ∀ (k : Nat), (nx + k ≤ tl) → (∀ j, j < k → smN T tl nx j < 1) → tl - nx - k < n → ∀ (H : Heap) (locs : List Loc), Wd G s (va_A (readH G ra rc fi re nu nx N ++ (textW G xa tl T)) s.heap.size) (readH G ra rc fi re nu (nx + k) N ++ (textW G xa tl T)) H locs → ∀ ls : Array Slot, lv_has ls 3 [(0, .ref (ra 0)), (1, .ref (xa 0)), (2, .int (nI nx))] → W p l e (rmK 5 0 0) s m args below meth c H locs 0 0 (MQ below (QI G (readH G ra rc fi re nu nx N ++ (textW G xa tl T)) s.heap.size (fun r v => r = nI 2 ∧ v = readH G ra rc fi re nu (nx + wl T tl nx) N ++ (textW G xa tl T))) args s 0 0 (va_A (readH G ra rc fi re nu nx N ++ (textW G xa tl T)) s.heap.size)) (F0 m 5 ls []) := by
    intro n
    induction n with
    | zero => intro k h2 h3 hm; exact absurd hm (Nat.not_lt_zero _)
    | succ n ih5 =>
      intro k h2 h3 hm5 H locs w ls hl
      refine lv_aload_n F.1 F.2.1 dX4_readWord_5 rfl (lv_at hl 0 rfl) ?_
      refine r_get F w 0 4 iX4 f31 rfl rfl rfl (by decide) rfl dX4_readWord_6 ?_
      refine lv_aload_n F.1 F.2.1 dX4_readWord_9 rfl (lv_at hl 1 rfl) ?_
      refine r_get F w 2 0 iX5 f34 rfl rfl rfl (by decide) rfl dX4_readWord_10 ?_
      refine r_cge (tgt := 40) F dX4_readWord_13 (by decide) (by omega) (by omega) (fun c13 => ?_) (fun c13 => ?_)
      · skip
        have hw : wl T tl nx = k := by first | exact wl_at h2 h3 c24 | exact wl_at h2 h3 (fun z => by have := chT_in (T := T) (tl := tl) (i := nx + k) (by omega); omega)
        have w := w.is (ws' := readH G ra rc fi re nu (nx + wl T tl nx) N ++ (textW G xa tl T)) (by rw [hw])
        refine lv_aload_n F.1 F.2.1 dX4_readWord_40 rfl (lv_at hl 1 rfl) ?_
        refine r_ldcS F hX.2.1.2 dX4_readWord_41 ?_
        refine lv_iload_n F.1 F.2.1 dX4_readWord_43 rfl (lv_at hl 2 rfl) ?_
        refine lv_aload_n F.1 F.2.1 dX4_readWord_44 rfl (lv_at hl 0 rfl) ?_
        refine r_get F w 0 4 iX4 f31 rfl rfl rfl (by decide) rfl dX4_readWord_45 ?_
        have w := w.perm (ws' := textW G xa tl T ++ (readH G ra rc fi re nu (nx + wl T tl nx) N)) (List.perm_append_comm)
        refine x_callVI (fine_str _ _ _ _) ⟨hX.1, hX.2.1.1⟩ (rest := []) (wr := readH G ra rc fi re nu (nx + wl T tl nx) N) F w (c_X5_holdsN l G q0 v0 3 iceF xa tl T hT h1 (by decide) iceF_b nx (nx + wl T tl nx) (by omega) (by omega) (fun z => absurd ((kd_ice T tl nx).mpr z) (by omega))) rfl gX4_readWord_X5_holds (nA0 := 3) rfl (by decide +kernel) rfl ⟨Nat.le_of_ble_eq_true rfl, Nat.le_of_ble_eq_true rfl⟩ ⟨Nat.le_of_ble_eq_true rfl, Nat.le_of_ble_eq_true rfl⟩ rfl rfl hl rfl (Nat.le_of_ble_eq_true rfl) dX4_readWord_48 (fun r_48 w1 H locs hp w => ?_)
        obtain ⟨rfl, rfl⟩ := hp
        have w := w.perm (ws' := readH G ra rc fi re nu (nx + wl T tl nx) N ++ (textW G xa tl T)) (List.perm_append_comm)
        refine r_zeq (tgt := 56) F dX4_readWord_51 (by decide) (by omega) (fun c51 => ?_) (fun c51 => ?_)
        · skip
          refine lv_aload_n F.1 F.2.1 dX4_readWord_56 rfl (lv_at hl 1 rfl) ?_
          refine r_ldcS F hX.2.2.1.2 dX4_readWord_57 ?_
          refine lv_iload_n F.1 F.2.1 dX4_readWord_59 rfl (lv_at hl 2 rfl) ?_
          refine lv_aload_n F.1 F.2.1 dX4_readWord_60 rfl (lv_at hl 0 rfl) ?_
          refine r_get F w 0 4 iX4 f31 rfl rfl rfl (by decide) rfl dX4_readWord_61 ?_
          have w := w.perm (ws' := textW G xa tl T ++ (readH G ra rc fi re nu (nx + wl T tl nx) N)) (List.perm_append_comm)
          refine x_callVI (fine_str _ _ _ _) ⟨hX.1, hX.2.2.1.1⟩ (rest := []) (wr := readH G ra rc fi re nu (nx + wl T tl nx) N) F w (c_X5_holdsN l G q1 v1 5 crackF xa tl T hT h1 (by decide) crackF_b nx (nx + wl T tl nx) (by omega) (by omega) (fun z => absurd ((kd_crack T tl nx).mpr z) (by omega))) rfl gX4_readWord_X5_holds (nA0 := 3) rfl (by decide +kernel) rfl ⟨Nat.le_of_ble_eq_true rfl, Nat.le_of_ble_eq_true rfl⟩ ⟨Nat.le_of_ble_eq_true rfl, Nat.le_of_ble_eq_true rfl⟩ rfl rfl hl rfl (Nat.le_of_ble_eq_true rfl) dX4_readWord_64 (fun r_64 w1 H locs hp w => ?_)
          obtain ⟨rfl, rfl⟩ := hp
          have w := w.perm (ws' := readH G ra rc fi re nu (nx + wl T tl nx) N ++ (textW G xa tl T)) (List.perm_append_comm)
          refine r_zeq (tgt := 72) F dX4_readWord_67 (by decide) (by omega) (fun c67 => ?_) (fun c67 => ?_)
          · skip
            refine lv_aload_n F.1 F.2.1 dX4_readWord_72 rfl (lv_at hl 1 rfl) ?_
            refine r_ldcS F hX.2.2.2.2 dX4_readWord_73 ?_
            refine lv_iload_n F.1 F.2.1 dX4_readWord_75 rfl (lv_at hl 2 rfl) ?_
            refine lv_aload_n F.1 F.2.1 dX4_readWord_76 rfl (lv_at hl 0 rfl) ?_
            refine r_get F w 0 4 iX4 f31 rfl rfl rfl (by decide) rfl dX4_readWord_77 ?_
            have w := w.perm (ws' := textW G xa tl T ++ (readH G ra rc fi re nu (nx + wl T tl nx) N)) (List.perm_append_comm)
            refine x_callVI (fine_str _ _ _ _) ⟨hX.1, hX.2.2.2.1⟩ (rest := []) (wr := readH G ra rc fi re nu (nx + wl T tl nx) N) F w (c_X5_holdsY l G q2 v2 4 dustF xa tl T hT h1 (by decide) dustF_b nx (nx + wl T tl nx) (by omega) (by omega) ((kd_dust T tl nx).mp hk)) rfl gX4_readWord_X5_holds (nA0 := 3) rfl (by decide +kernel) rfl ⟨Nat.le_of_ble_eq_true rfl, Nat.le_of_ble_eq_true rfl⟩ ⟨Nat.le_of_ble_eq_true rfl, Nat.le_of_ble_eq_true rfl⟩ rfl rfl hl rfl (Nat.le_of_ble_eq_true rfl) dX4_readWord_80 (fun r_80 w1 H locs hp w => ?_)
            obtain ⟨rfl, rfl⟩ := hp
            have w := w.perm (ws' := readH G ra rc fi re nu (nx + wl T tl nx) N ++ (textW G xa tl T)) (List.perm_append_comm)
            refine r_zeq (tgt := 90) F dX4_readWord_83 (by decide) (by omega) (fun c83 => ?_) (fun c83 => ?_)
            · exact absurd c83 (by decide)
            · skip
              refine lv_iconst (v := nI 2) F.1 F.2.1 dX4_readWord_86 (by decide) ?_
              refine lv_goto (tgt := 91) F.1 F.2.1 dX4_readWord_87 (by decide) ?_
              exact r_ireturn F w dX4_readWord_91 (⟨rfl, rfl⟩)
          · exact absurd rfl c67
        · exact absurd rfl c51
      · skip
        refine lv_aload_n F.1 F.2.1 dX4_readWord_16 rfl (lv_at hl 1 rfl) ?_
        refine lv_aload_n F.1 F.2.1 dX4_readWord_17 rfl (lv_at hl 0 rfl) ?_
        refine r_get F w 0 4 iX4 f31 rfl rfl rfl (by decide) rfl dX4_readWord_18 ?_
        refine r_callVI (rest := []) F w (c_X5_isSmallLetter l G xa tl T hT (by omega) (nx + k) (by omega)) gX4_readWord_X5_isSmallLetter [2, 3] [0, 1] (nA0 := 1) rfl (by decide +kernel) rfl ⟨Nat.le_of_ble_eq_true rfl, Nat.le_of_ble_eq_true rfl⟩ ⟨Nat.le_of_ble_eq_true rfl, Nat.le_of_ble_eq_true rfl⟩ rfl rfl rfl rfl rfl rfl rfl hl rfl (Nat.le_of_ble_eq_true rfl) dX4_readWord_21 (fun r_21 w1 H locs hp w => ?_)
        obtain ⟨rfl, rfl⟩ := hp
        have w := w.sub (ws' := readH G ra rc fi re nu (nx + k) N ++ (textW G xa tl T)) [0, 1, 2, 3] (by decide) rfl
        refine r_yeq (tgt := 40) F dX4_readWord_24 (by decide) (fun c24 => ?_) (fun c24 => ?_)
        · skip
          have hw : wl T tl nx = k := by first | exact wl_at h2 h3 c24 | exact wl_at h2 h3 (fun z => by have := chT_in (T := T) (tl := tl) (i := nx + k) (by omega); omega)
          have w := w.is (ws' := readH G ra rc fi re nu (nx + wl T tl nx) N ++ (textW G xa tl T)) (by rw [hw])
          refine lv_aload_n F.1 F.2.1 dX4_readWord_40 rfl (lv_at hl 1 rfl) ?_
          refine r_ldcS F hX.2.1.2 dX4_readWord_41 ?_
          refine lv_iload_n F.1 F.2.1 dX4_readWord_43 rfl (lv_at hl 2 rfl) ?_
          refine lv_aload_n F.1 F.2.1 dX4_readWord_44 rfl (lv_at hl 0 rfl) ?_
          refine r_get F w 0 4 iX4 f31 rfl rfl rfl (by decide) rfl dX4_readWord_45 ?_
          have w := w.perm (ws' := textW G xa tl T ++ (readH G ra rc fi re nu (nx + wl T tl nx) N)) (List.perm_append_comm)
          refine x_callVI (fine_str _ _ _ _) ⟨hX.1, hX.2.1.1⟩ (rest := []) (wr := readH G ra rc fi re nu (nx + wl T tl nx) N) F w (c_X5_holdsN l G q0 v0 3 iceF xa tl T hT h1 (by decide) iceF_b nx (nx + wl T tl nx) (by omega) (by omega) (fun z => absurd ((kd_ice T tl nx).mpr z) (by omega))) rfl gX4_readWord_X5_holds (nA0 := 3) rfl (by decide +kernel) rfl ⟨Nat.le_of_ble_eq_true rfl, Nat.le_of_ble_eq_true rfl⟩ ⟨Nat.le_of_ble_eq_true rfl, Nat.le_of_ble_eq_true rfl⟩ rfl rfl hl rfl (Nat.le_of_ble_eq_true rfl) dX4_readWord_48 (fun r_48 w1 H locs hp w => ?_)
          obtain ⟨rfl, rfl⟩ := hp
          have w := w.perm (ws' := readH G ra rc fi re nu (nx + wl T tl nx) N ++ (textW G xa tl T)) (List.perm_append_comm)
          refine r_zeq (tgt := 56) F dX4_readWord_51 (by decide) (by omega) (fun c51 => ?_) (fun c51 => ?_)
          · skip
            refine lv_aload_n F.1 F.2.1 dX4_readWord_56 rfl (lv_at hl 1 rfl) ?_
            refine r_ldcS F hX.2.2.1.2 dX4_readWord_57 ?_
            refine lv_iload_n F.1 F.2.1 dX4_readWord_59 rfl (lv_at hl 2 rfl) ?_
            refine lv_aload_n F.1 F.2.1 dX4_readWord_60 rfl (lv_at hl 0 rfl) ?_
            refine r_get F w 0 4 iX4 f31 rfl rfl rfl (by decide) rfl dX4_readWord_61 ?_
            have w := w.perm (ws' := textW G xa tl T ++ (readH G ra rc fi re nu (nx + wl T tl nx) N)) (List.perm_append_comm)
            refine x_callVI (fine_str _ _ _ _) ⟨hX.1, hX.2.2.1.1⟩ (rest := []) (wr := readH G ra rc fi re nu (nx + wl T tl nx) N) F w (c_X5_holdsN l G q1 v1 5 crackF xa tl T hT h1 (by decide) crackF_b nx (nx + wl T tl nx) (by omega) (by omega) (fun z => absurd ((kd_crack T tl nx).mpr z) (by omega))) rfl gX4_readWord_X5_holds (nA0 := 3) rfl (by decide +kernel) rfl ⟨Nat.le_of_ble_eq_true rfl, Nat.le_of_ble_eq_true rfl⟩ ⟨Nat.le_of_ble_eq_true rfl, Nat.le_of_ble_eq_true rfl⟩ rfl rfl hl rfl (Nat.le_of_ble_eq_true rfl) dX4_readWord_64 (fun r_64 w1 H locs hp w => ?_)
            obtain ⟨rfl, rfl⟩ := hp
            have w := w.perm (ws' := readH G ra rc fi re nu (nx + wl T tl nx) N ++ (textW G xa tl T)) (List.perm_append_comm)
            refine r_zeq (tgt := 72) F dX4_readWord_67 (by decide) (by omega) (fun c67 => ?_) (fun c67 => ?_)
            · skip
              refine lv_aload_n F.1 F.2.1 dX4_readWord_72 rfl (lv_at hl 1 rfl) ?_
              refine r_ldcS F hX.2.2.2.2 dX4_readWord_73 ?_
              refine lv_iload_n F.1 F.2.1 dX4_readWord_75 rfl (lv_at hl 2 rfl) ?_
              refine lv_aload_n F.1 F.2.1 dX4_readWord_76 rfl (lv_at hl 0 rfl) ?_
              refine r_get F w 0 4 iX4 f31 rfl rfl rfl (by decide) rfl dX4_readWord_77 ?_
              have w := w.perm (ws' := textW G xa tl T ++ (readH G ra rc fi re nu (nx + wl T tl nx) N)) (List.perm_append_comm)
              refine x_callVI (fine_str _ _ _ _) ⟨hX.1, hX.2.2.2.1⟩ (rest := []) (wr := readH G ra rc fi re nu (nx + wl T tl nx) N) F w (c_X5_holdsY l G q2 v2 4 dustF xa tl T hT h1 (by decide) dustF_b nx (nx + wl T tl nx) (by omega) (by omega) ((kd_dust T tl nx).mp hk)) rfl gX4_readWord_X5_holds (nA0 := 3) rfl (by decide +kernel) rfl ⟨Nat.le_of_ble_eq_true rfl, Nat.le_of_ble_eq_true rfl⟩ ⟨Nat.le_of_ble_eq_true rfl, Nat.le_of_ble_eq_true rfl⟩ rfl rfl hl rfl (Nat.le_of_ble_eq_true rfl) dX4_readWord_80 (fun r_80 w1 H locs hp w => ?_)
              obtain ⟨rfl, rfl⟩ := hp
              have w := w.perm (ws' := readH G ra rc fi re nu (nx + wl T tl nx) N ++ (textW G xa tl T)) (List.perm_append_comm)
              refine r_zeq (tgt := 90) F dX4_readWord_83 (by decide) (by omega) (fun c83 => ?_) (fun c83 => ?_)
              · exact absurd c83 (by decide)
              · skip
                refine lv_iconst (v := nI 2) F.1 F.2.1 dX4_readWord_86 (by decide) ?_
                refine lv_goto (tgt := 91) F.1 F.2.1 dX4_readWord_87 (by decide) ?_
                exact r_ireturn F w dX4_readWord_91 (⟨rfl, rfl⟩)
            · exact absurd rfl c67
          · exact absurd rfl c51
        · skip
          refine lv_aload_n F.1 F.2.1 dX4_readWord_27 rfl (lv_at hl 0 rfl) ?_
          refine lv_dup F.1 F.2.1 dX4_readWord_28 rfl ?_
          refine r_get F w 0 4 iX4 f31 rfl rfl rfl (by decide) rfl dX4_readWord_29 ?_
          refine lv_iconst (v := nI 1) F.1 F.2.1 dX4_readWord_32 (by decide) ?_
          refine r_iadd F dX4_readWord_33 ?_
          refine r_put (ws' := readH G ra rc fi re nu ((nx + k) + 1) N ++ (textW G xa tl T)) F w 0 4 iX4 okX4 f31 rfl rfl rfl (by decide) (by decide +kernel) (Nat.le_of_ble_eq_true rfl) dX4_readWord_34 rfl (fun H locs w => ?_)
          refine lv_goto (tgt := 5) F.1 F.2.1 dX4_readWord_37 (by decide) ?_
          exact ih5 (k + 1) (by omega) (fun j hj => by rcases Nat.lt_succ_iff_lt_or_eq.mp hj with q | q; exact h3 j q; rw [q]; exact smN_lt.mpr c24) (by omega) _ _ w ls (lv_sub hl [0, 1, 2] rfl)
  exact L5 _ 0 (by omega) (fun j hj => absurd hj (Nat.not_lt_zero _)) (Nat.lt_succ_self _) _ _ w ls (lv_sub hl [1, 2, 0] rfl)
set_option maxRecDepth 100000 in
set_option maxHeartbeats 4000000 in
theorem c_X4_readWord3 (l : Launch) (G : KG) (q0 v0 q1 v1 q2 v2 : Nat) (ra rc xa : Nat → Nat) (fi re nu nx : Nat) (N : Nat → Nat) (tl : Nat) (T : Nat → Nat) (hT : TxtOk T) (h1 : tl ≤ 100) (hn : nx ≤ tl) (hk : kdT T tl nx = 3) : MetIX l yX4_readWord wsX4_readWord 5 G (readH G ra rc fi re nu nx N ++ (textW G xa tl T)) [.ref (ra 0), .ref (xa 0)] (wrdX q0 v0 q1 v1 q2 v2) (fun r v => r = -1 ∧ v = readH G ra rc fi re nu (nx + wl T tl nx) N ++ (textW G xa tl T)) := by
  refine MetIX.by (cc := cX4_readWord) (nL := 3) (ret := some .int) (by decide +kernel) rfl (Nat.le_of_ble_eq_true rfl) ?_
  intro p e s m args below meth c F hX w ls hl
  have hl : lv_has ls 3 [(0, .ref (ra 0)), (1, .ref (xa 0))] := hl
  have hts := F.ts
  have iX4 : ∀ w ∈ wsX40, w ∈ wsX4_readWord := by decide +kernel
  have iX5 : ∀ w ∈ wsX50, w ∈ wsX4_readWord := by decide +kernel
  have f31 := hts (.fieldLink RX4 31 "CoreMelter$Reading" "next" "I") (by decide +kernel)
  have f34 := hts (.fieldLink RX4 34 "CoreMelter$Text" "length" "I") (by decide +kernel)
  refine lv_aload_n F.1 F.2.1 dX4_readWord_0 rfl (lv_at hl 0 rfl) ?_
  refine r_get F w 0 4 iX4 f31 rfl rfl rfl (by decide) rfl dX4_readWord_1 ?_
  refine lv_istore_n (lv' := [(2, .int (nI nx)), (0, .ref (ra 0)), (1, .ref (xa 0))]) F.1 F.2.1 dX4_readWord_4 rfl hl (by decide) rfl (fun ls hl => ?_)
  have L5 : ∀ n : Nat, ∀ (k : Nat), (nx + k ≤ tl) → (∀ j, j < k → smN T tl nx j < 1) → tl - nx - k < n → ∀ (H : Heap) (locs : List Loc), Wd G s (va_A (readH G ra rc fi re nu nx N ++ (textW G xa tl T)) s.heap.size) (readH G ra rc fi re nu (nx + k) N ++ (textW G xa tl T)) H locs → ∀ ls : Array Slot, lv_has ls 3 [(0, .ref (ra 0)), (1, .ref (xa 0)), (2, .int (nI nx))] → W p l e (rmK 5 0 0) s m args below meth c H locs 0 0 (MQ below (QI G (readH G ra rc fi re nu nx N ++ (textW G xa tl T)) s.heap.size (fun r v => r = -1 ∧ v = readH G ra rc fi re nu (nx + wl T tl nx) N ++ (textW G xa tl T))) args s 0 0 (va_A (readH G ra rc fi re nu nx N ++ (textW G xa tl T)) s.heap.size)) (F0 m 5 ls []) := by
    intro n
    induction n with
    | zero => intro k h2 h3 hm; exact absurd hm (Nat.not_lt_zero _)
    | succ n ih5 =>
      intro k h2 h3 hm5 H locs w ls hl
      refine lv_aload_n F.1 F.2.1 dX4_readWord_5 rfl (lv_at hl 0 rfl) ?_
      refine r_get F w 0 4 iX4 f31 rfl rfl rfl (by decide) rfl dX4_readWord_6 ?_
      refine lv_aload_n F.1 F.2.1 dX4_readWord_9 rfl (lv_at hl 1 rfl) ?_
      refine r_get F w 2 0 iX5 f34 rfl rfl rfl (by decide) rfl dX4_readWord_10 ?_
      refine r_cge (tgt := 40) F dX4_readWord_13 (by decide) (by omega) (by omega) (fun c13 => ?_) (fun c13 => ?_)
      · skip
        have hw : wl T tl nx = k := by first | exact wl_at h2 h3 c24 | exact wl_at h2 h3 (fun z => by have := chT_in (T := T) (tl := tl) (i := nx + k) (by omega); omega)
        have w := w.is (ws' := readH G ra rc fi re nu (nx + wl T tl nx) N ++ (textW G xa tl T)) (by rw [hw])
        refine lv_aload_n F.1 F.2.1 dX4_readWord_40 rfl (lv_at hl 1 rfl) ?_
        refine r_ldcS F hX.2.1.2 dX4_readWord_41 ?_
        refine lv_iload_n F.1 F.2.1 dX4_readWord_43 rfl (lv_at hl 2 rfl) ?_
        refine lv_aload_n F.1 F.2.1 dX4_readWord_44 rfl (lv_at hl 0 rfl) ?_
        refine r_get F w 0 4 iX4 f31 rfl rfl rfl (by decide) rfl dX4_readWord_45 ?_
        have w := w.perm (ws' := textW G xa tl T ++ (readH G ra rc fi re nu (nx + wl T tl nx) N)) (List.perm_append_comm)
        refine x_callVI (fine_str _ _ _ _) ⟨hX.1, hX.2.1.1⟩ (rest := []) (wr := readH G ra rc fi re nu (nx + wl T tl nx) N) F w (c_X5_holdsN l G q0 v0 3 iceF xa tl T hT h1 (by decide) iceF_b nx (nx + wl T tl nx) (by omega) (by omega) (fun z => absurd ((kd_ice T tl nx).mpr z) (by omega))) rfl gX4_readWord_X5_holds (nA0 := 3) rfl (by decide +kernel) rfl ⟨Nat.le_of_ble_eq_true rfl, Nat.le_of_ble_eq_true rfl⟩ ⟨Nat.le_of_ble_eq_true rfl, Nat.le_of_ble_eq_true rfl⟩ rfl rfl hl rfl (Nat.le_of_ble_eq_true rfl) dX4_readWord_48 (fun r_48 w1 H locs hp w => ?_)
        obtain ⟨rfl, rfl⟩ := hp
        have w := w.perm (ws' := readH G ra rc fi re nu (nx + wl T tl nx) N ++ (textW G xa tl T)) (List.perm_append_comm)
        refine r_zeq (tgt := 56) F dX4_readWord_51 (by decide) (by omega) (fun c51 => ?_) (fun c51 => ?_)
        · skip
          refine lv_aload_n F.1 F.2.1 dX4_readWord_56 rfl (lv_at hl 1 rfl) ?_
          refine r_ldcS F hX.2.2.1.2 dX4_readWord_57 ?_
          refine lv_iload_n F.1 F.2.1 dX4_readWord_59 rfl (lv_at hl 2 rfl) ?_
          refine lv_aload_n F.1 F.2.1 dX4_readWord_60 rfl (lv_at hl 0 rfl) ?_
          refine r_get F w 0 4 iX4 f31 rfl rfl rfl (by decide) rfl dX4_readWord_61 ?_
          have w := w.perm (ws' := textW G xa tl T ++ (readH G ra rc fi re nu (nx + wl T tl nx) N)) (List.perm_append_comm)
          refine x_callVI (fine_str _ _ _ _) ⟨hX.1, hX.2.2.1.1⟩ (rest := []) (wr := readH G ra rc fi re nu (nx + wl T tl nx) N) F w (c_X5_holdsN l G q1 v1 5 crackF xa tl T hT h1 (by decide) crackF_b nx (nx + wl T tl nx) (by omega) (by omega) (fun z => absurd ((kd_crack T tl nx).mpr z) (by omega))) rfl gX4_readWord_X5_holds (nA0 := 3) rfl (by decide +kernel) rfl ⟨Nat.le_of_ble_eq_true rfl, Nat.le_of_ble_eq_true rfl⟩ ⟨Nat.le_of_ble_eq_true rfl, Nat.le_of_ble_eq_true rfl⟩ rfl rfl hl rfl (Nat.le_of_ble_eq_true rfl) dX4_readWord_64 (fun r_64 w1 H locs hp w => ?_)
          obtain ⟨rfl, rfl⟩ := hp
          have w := w.perm (ws' := readH G ra rc fi re nu (nx + wl T tl nx) N ++ (textW G xa tl T)) (List.perm_append_comm)
          refine r_zeq (tgt := 72) F dX4_readWord_67 (by decide) (by omega) (fun c67 => ?_) (fun c67 => ?_)
          · skip
            refine lv_aload_n F.1 F.2.1 dX4_readWord_72 rfl (lv_at hl 1 rfl) ?_
            refine r_ldcS F hX.2.2.2.2 dX4_readWord_73 ?_
            refine lv_iload_n F.1 F.2.1 dX4_readWord_75 rfl (lv_at hl 2 rfl) ?_
            refine lv_aload_n F.1 F.2.1 dX4_readWord_76 rfl (lv_at hl 0 rfl) ?_
            refine r_get F w 0 4 iX4 f31 rfl rfl rfl (by decide) rfl dX4_readWord_77 ?_
            have w := w.perm (ws' := textW G xa tl T ++ (readH G ra rc fi re nu (nx + wl T tl nx) N)) (List.perm_append_comm)
            refine x_callVI (fine_str _ _ _ _) ⟨hX.1, hX.2.2.2.1⟩ (rest := []) (wr := readH G ra rc fi re nu (nx + wl T tl nx) N) F w (c_X5_holdsN l G q2 v2 4 dustF xa tl T hT h1 (by decide) dustF_b nx (nx + wl T tl nx) (by omega) (by omega) (fun z => absurd ((kd_dust T tl nx).mpr z) (by omega))) rfl gX4_readWord_X5_holds (nA0 := 3) rfl (by decide +kernel) rfl ⟨Nat.le_of_ble_eq_true rfl, Nat.le_of_ble_eq_true rfl⟩ ⟨Nat.le_of_ble_eq_true rfl, Nat.le_of_ble_eq_true rfl⟩ rfl rfl hl rfl (Nat.le_of_ble_eq_true rfl) dX4_readWord_80 (fun r_80 w1 H locs hp w => ?_)
            obtain ⟨rfl, rfl⟩ := hp
            have w := w.perm (ws' := readH G ra rc fi re nu (nx + wl T tl nx) N ++ (textW G xa tl T)) (List.perm_append_comm)
            refine r_zeq (tgt := 90) F dX4_readWord_83 (by decide) (by omega) (fun c83 => ?_) (fun c83 => ?_)
            · skip
              refine lv_iconst (v := (-1)) F.1 F.2.1 dX4_readWord_90 (by decide) ?_
              exact r_ireturn F w dX4_readWord_91 (⟨rfl, rfl⟩)
            · exact absurd rfl c83
          · exact absurd rfl c67
        · exact absurd rfl c51
      · skip
        refine lv_aload_n F.1 F.2.1 dX4_readWord_16 rfl (lv_at hl 1 rfl) ?_
        refine lv_aload_n F.1 F.2.1 dX4_readWord_17 rfl (lv_at hl 0 rfl) ?_
        refine r_get F w 0 4 iX4 f31 rfl rfl rfl (by decide) rfl dX4_readWord_18 ?_
        refine r_callVI (rest := []) F w (c_X5_isSmallLetter l G xa tl T hT (by omega) (nx + k) (by omega)) gX4_readWord_X5_isSmallLetter [2, 3] [0, 1] (nA0 := 1) rfl (by decide +kernel) rfl ⟨Nat.le_of_ble_eq_true rfl, Nat.le_of_ble_eq_true rfl⟩ ⟨Nat.le_of_ble_eq_true rfl, Nat.le_of_ble_eq_true rfl⟩ rfl rfl rfl rfl rfl rfl rfl hl rfl (Nat.le_of_ble_eq_true rfl) dX4_readWord_21 (fun r_21 w1 H locs hp w => ?_)
        obtain ⟨rfl, rfl⟩ := hp
        have w := w.sub (ws' := readH G ra rc fi re nu (nx + k) N ++ (textW G xa tl T)) [0, 1, 2, 3] (by decide) rfl
        refine r_yeq (tgt := 40) F dX4_readWord_24 (by decide) (fun c24 => ?_) (fun c24 => ?_)
        · skip
          have hw : wl T tl nx = k := by first | exact wl_at h2 h3 c24 | exact wl_at h2 h3 (fun z => by have := chT_in (T := T) (tl := tl) (i := nx + k) (by omega); omega)
          have w := w.is (ws' := readH G ra rc fi re nu (nx + wl T tl nx) N ++ (textW G xa tl T)) (by rw [hw])
          refine lv_aload_n F.1 F.2.1 dX4_readWord_40 rfl (lv_at hl 1 rfl) ?_
          refine r_ldcS F hX.2.1.2 dX4_readWord_41 ?_
          refine lv_iload_n F.1 F.2.1 dX4_readWord_43 rfl (lv_at hl 2 rfl) ?_
          refine lv_aload_n F.1 F.2.1 dX4_readWord_44 rfl (lv_at hl 0 rfl) ?_
          refine r_get F w 0 4 iX4 f31 rfl rfl rfl (by decide) rfl dX4_readWord_45 ?_
          have w := w.perm (ws' := textW G xa tl T ++ (readH G ra rc fi re nu (nx + wl T tl nx) N)) (List.perm_append_comm)
          refine x_callVI (fine_str _ _ _ _) ⟨hX.1, hX.2.1.1⟩ (rest := []) (wr := readH G ra rc fi re nu (nx + wl T tl nx) N) F w (c_X5_holdsN l G q0 v0 3 iceF xa tl T hT h1 (by decide) iceF_b nx (nx + wl T tl nx) (by omega) (by omega) (fun z => absurd ((kd_ice T tl nx).mpr z) (by omega))) rfl gX4_readWord_X5_holds (nA0 := 3) rfl (by decide +kernel) rfl ⟨Nat.le_of_ble_eq_true rfl, Nat.le_of_ble_eq_true rfl⟩ ⟨Nat.le_of_ble_eq_true rfl, Nat.le_of_ble_eq_true rfl⟩ rfl rfl hl rfl (Nat.le_of_ble_eq_true rfl) dX4_readWord_48 (fun r_48 w1 H locs hp w => ?_)
          obtain ⟨rfl, rfl⟩ := hp
          have w := w.perm (ws' := readH G ra rc fi re nu (nx + wl T tl nx) N ++ (textW G xa tl T)) (List.perm_append_comm)
          refine r_zeq (tgt := 56) F dX4_readWord_51 (by decide) (by omega) (fun c51 => ?_) (fun c51 => ?_)
          · skip
            refine lv_aload_n F.1 F.2.1 dX4_readWord_56 rfl (lv_at hl 1 rfl) ?_
            refine r_ldcS F hX.2.2.1.2 dX4_readWord_57 ?_
            refine lv_iload_n F.1 F.2.1 dX4_readWord_59 rfl (lv_at hl 2 rfl) ?_
            refine lv_aload_n F.1 F.2.1 dX4_readWord_60 rfl (lv_at hl 0 rfl) ?_
            refine r_get F w 0 4 iX4 f31 rfl rfl rfl (by decide) rfl dX4_readWord_61 ?_
            have w := w.perm (ws' := textW G xa tl T ++ (readH G ra rc fi re nu (nx + wl T tl nx) N)) (List.perm_append_comm)
            refine x_callVI (fine_str _ _ _ _) ⟨hX.1, hX.2.2.1.1⟩ (rest := []) (wr := readH G ra rc fi re nu (nx + wl T tl nx) N) F w (c_X5_holdsN l G q1 v1 5 crackF xa tl T hT h1 (by decide) crackF_b nx (nx + wl T tl nx) (by omega) (by omega) (fun z => absurd ((kd_crack T tl nx).mpr z) (by omega))) rfl gX4_readWord_X5_holds (nA0 := 3) rfl (by decide +kernel) rfl ⟨Nat.le_of_ble_eq_true rfl, Nat.le_of_ble_eq_true rfl⟩ ⟨Nat.le_of_ble_eq_true rfl, Nat.le_of_ble_eq_true rfl⟩ rfl rfl hl rfl (Nat.le_of_ble_eq_true rfl) dX4_readWord_64 (fun r_64 w1 H locs hp w => ?_)
            obtain ⟨rfl, rfl⟩ := hp
            have w := w.perm (ws' := readH G ra rc fi re nu (nx + wl T tl nx) N ++ (textW G xa tl T)) (List.perm_append_comm)
            refine r_zeq (tgt := 72) F dX4_readWord_67 (by decide) (by omega) (fun c67 => ?_) (fun c67 => ?_)
            · skip
              refine lv_aload_n F.1 F.2.1 dX4_readWord_72 rfl (lv_at hl 1 rfl) ?_
              refine r_ldcS F hX.2.2.2.2 dX4_readWord_73 ?_
              refine lv_iload_n F.1 F.2.1 dX4_readWord_75 rfl (lv_at hl 2 rfl) ?_
              refine lv_aload_n F.1 F.2.1 dX4_readWord_76 rfl (lv_at hl 0 rfl) ?_
              refine r_get F w 0 4 iX4 f31 rfl rfl rfl (by decide) rfl dX4_readWord_77 ?_
              have w := w.perm (ws' := textW G xa tl T ++ (readH G ra rc fi re nu (nx + wl T tl nx) N)) (List.perm_append_comm)
              refine x_callVI (fine_str _ _ _ _) ⟨hX.1, hX.2.2.2.1⟩ (rest := []) (wr := readH G ra rc fi re nu (nx + wl T tl nx) N) F w (c_X5_holdsN l G q2 v2 4 dustF xa tl T hT h1 (by decide) dustF_b nx (nx + wl T tl nx) (by omega) (by omega) (fun z => absurd ((kd_dust T tl nx).mpr z) (by omega))) rfl gX4_readWord_X5_holds (nA0 := 3) rfl (by decide +kernel) rfl ⟨Nat.le_of_ble_eq_true rfl, Nat.le_of_ble_eq_true rfl⟩ ⟨Nat.le_of_ble_eq_true rfl, Nat.le_of_ble_eq_true rfl⟩ rfl rfl hl rfl (Nat.le_of_ble_eq_true rfl) dX4_readWord_80 (fun r_80 w1 H locs hp w => ?_)
              obtain ⟨rfl, rfl⟩ := hp
              have w := w.perm (ws' := readH G ra rc fi re nu (nx + wl T tl nx) N ++ (textW G xa tl T)) (List.perm_append_comm)
              refine r_zeq (tgt := 90) F dX4_readWord_83 (by decide) (by omega) (fun c83 => ?_) (fun c83 => ?_)
              · skip
                refine lv_iconst (v := (-1)) F.1 F.2.1 dX4_readWord_90 (by decide) ?_
                exact r_ireturn F w dX4_readWord_91 (⟨rfl, rfl⟩)
              · exact absurd rfl c83
            · exact absurd rfl c67
          · exact absurd rfl c51
        · skip
          refine lv_aload_n F.1 F.2.1 dX4_readWord_27 rfl (lv_at hl 0 rfl) ?_
          refine lv_dup F.1 F.2.1 dX4_readWord_28 rfl ?_
          refine r_get F w 0 4 iX4 f31 rfl rfl rfl (by decide) rfl dX4_readWord_29 ?_
          refine lv_iconst (v := nI 1) F.1 F.2.1 dX4_readWord_32 (by decide) ?_
          refine r_iadd F dX4_readWord_33 ?_
          refine r_put (ws' := readH G ra rc fi re nu ((nx + k) + 1) N ++ (textW G xa tl T)) F w 0 4 iX4 okX4 f31 rfl rfl rfl (by decide) (by decide +kernel) (Nat.le_of_ble_eq_true rfl) dX4_readWord_34 rfl (fun H locs w => ?_)
          refine lv_goto (tgt := 5) F.1 F.2.1 dX4_readWord_37 (by decide) ?_
          exact ih5 (k + 1) (by omega) (fun j hj => by rcases Nat.lt_succ_iff_lt_or_eq.mp hj with q | q; exact h3 j q; rw [q]; exact smN_lt.mpr c24) (by omega) _ _ w ls (lv_sub hl [0, 1, 2] rfl)
  exact L5 _ 0 (by omega) (fun j hj => absurd hj (Nat.not_lt_zero _)) (Nat.lt_succ_self _) _ _ w ls (lv_sub hl [1, 2, 0] rfl)

