/-! ===== longs, over numbers ===== -/
def nL (n : Nat) : Int64 := Int64.ofNat n
theorem nL_toInt {n : Nat} (h : n < 2 ^ 63) : (nL n).toInt = n := Int64.toInt_ofNat_of_lt h
theorem nL_le {x y : Nat} (hx : x < 2 ^ 63) (hy : y < 2 ^ 63) : nL x ≤ nL y ↔ x ≤ y := by
  rw [Int64.le_iff_toInt_le, nL_toInt hx, nL_toInt hy]
  omega
theorem nL_eq {x y : Nat} (hx : x < 2 ^ 63) (hy : y < 2 ^ 63) : nL x = nL y ↔ x = y := by
  rw [← Int64.toInt_inj, nL_toInt hx, nL_toInt hy]
  omega
theorem nL_sub {a b : Nat} (h : b ≤ a) : nL a - nL b = nL (a - b) := by
  have e : nL (a - b) + nL b = nL a := by
    show Int64.ofNat (a - b) + Int64.ofNat b = Int64.ofNat a
    rw [← Int64.ofNat_add, Nat.sub_add_cancel h]
  rw [← e, Int64.add_sub_cancel]
theorem i2l_ok : ∀ {x : Nat}, x < 128 → (nI x).toInt64 = nL x := by
  have h : ∀ x : Fin 128, (nI x).toInt64 = nL x := by decide +kernel
  exact fun {x} hx => h ⟨x, hx⟩
section RLG
variable {p : Program} {l : Launch} {e : Env} {R : Room} {s : State} {m : MethodId} {args : Array Value} {below : List Frame} {meth : Method} {c : Code} {H : Heap} {locs : List Loc} {cells slots : Nat} {Q : State → Prop}
variable {cc : ByteArray} {nN : Nat} {own : String} {Ts : List Cond} {ret : Option FieldType} {pc : Nat} {ls : Array Slot} {rest : List Value} {a b : Nat}
theorem r_ladd (F : Fx p s m args meth c cc nN own Ts ret) (hdg : decode cc pc = .ok (.ladd, 1)) (kk : W p l e R s m args below meth c H locs cells slots Q (F0 m (pc + 1) ls (.long (nL (a + b)) :: rest))) : W p l e R s m args below meth c H locs cells slots Q (F0 m pc ls (.long (nL b) :: .long (nL a) :: rest)) :=
  lv_ladd F.1 F.2.1 hdg (by rw [show nL a + nL b = nL (a + b) from (Int64.ofNat_add a b).symm]; exact kk)
theorem r_lmul (F : Fx p s m args meth c cc nN own Ts ret) (hdg : decode cc pc = .ok (.lmul, 1)) (kk : W p l e R s m args below meth c H locs cells slots Q (F0 m (pc + 1) ls (.long (nL (a * b)) :: rest))) : W p l e R s m args below meth c H locs cells slots Q (F0 m pc ls (.long (nL b) :: .long (nL a) :: rest)) :=
  lv_lmul F.1 F.2.1 hdg (by rw [show nL a * nL b = nL (a * b) from (Int64.ofNat_mul a b).symm]; exact kk)
theorem r_lsub (F : Fx p s m args meth c cc nN own Ts ret) (hdg : decode cc pc = .ok (.lsub, 1)) (h : b ≤ a) (kk : W p l e R s m args below meth c H locs cells slots Q (F0 m (pc + 1) ls (.long (nL (a - b)) :: rest))) : W p l e R s m args below meth c H locs cells slots Q (F0 m pc ls (.long (nL b) :: .long (nL a) :: rest)) :=
  lv_lsub F.1 F.2.1 hdg (by rw [nL_sub h]; exact kk)
theorem r_lle (F : Fx p s m args meth c cc nN own Ts ret) {off : Int} {tgt : Nat} (hdg : decode cc pc = .ok (.ifCond .le off, 3)) (ht : (pc : Int) + off = (tgt : Int)) (ha : a < 2 ^ 63) (hb : b < 2 ^ 63)
    (kt : a ≤ b → W p l e R s m args below meth c H locs cells slots Q (F0 m tgt ls rest)) (kf : b < a → W p l e R s m args below meth c H locs cells slots Q (F0 m (pc + 3) ls rest)) : W p l e R s m args below meth c H locs cells slots Q (F0 m pc ls (.int (lg_cmp (nL a) (nL b)) :: rest)) :=
  lv_if_le F.1 F.2.1 hdg ht (fun h => kt ((nL_le ha hb).mp ((lg_cmp_le _ _).mp h))) (fun h => kf (Nat.not_le.mp (fun z => h ((lg_cmp_le _ _).mpr ((nL_le ha hb).mpr z)))))
theorem r_lne (F : Fx p s m args meth c cc nN own Ts ret) {off : Int} {tgt : Nat} (hdg : decode cc pc = .ok (.ifCond .ne off, 3)) (ht : (pc : Int) + off = (tgt : Int)) (ha : a < 2 ^ 63) (hb : b < 2 ^ 63)
    (kt : ¬ a = b → W p l e R s m args below meth c H locs cells slots Q (F0 m tgt ls rest)) (kf : a = b → W p l e R s m args below meth c H locs cells slots Q (F0 m (pc + 3) ls rest)) : W p l e R s m args below meth c H locs cells slots Q (F0 m pc ls (.int (lg_cmp (nL a) (nL b)) :: rest)) :=
  lv_if_ne F.1 F.2.1 hdg ht (fun h => kt (fun z => h ((lg_cmp_eq _ _).mpr ((nL_eq ha hb).mpr z)))) (fun h => kf ((nL_eq ha hb).mp ((lg_cmp_eq _ _).mp h)))
theorem r_toL {x y : Nat} (h : x = y) (kk : W p l e R s m args below meth c H locs cells slots Q (F0 m pc ls (.long (nL y) :: rest))) : W p l e R s m args below meth c H locs cells slots Q (F0 m pc ls (.long (nL x) :: rest)) := by
  subst h
  exact kk
end RLG
/-! ===== words ===== -/
def smN (T : Nat → Nat) (tl q k : Nat) : Nat := if 97 ≤ chT T tl (q + k) ∧ chT T tl (q + k) ≤ 122 then 0 else 1
theorem smN_lt {T : Nat → Nat} {tl q k : Nat} : smN T tl q k < 1 ↔ (97 ≤ chT T tl (q + k) ∧ chT T tl (q + k) ≤ 122) := by
  unfold smN
  split
  · exact ⟨fun _ => by assumption, fun _ => by decide⟩
  · exact ⟨fun h => absurd h (by decide), fun h => absurd h (by assumption)⟩
/-- how many small letters stand at q -/
def wl (T : Nat → Nat) (tl q : Nat) : Nat := ft (smN T tl q) 1 (tl - q)
/-- the word's number by the first k letters, to the base of 27 -/
def vl (T : Nat → Nat) (tl q : Nat) : Nat → Nat
  | 0 => 0
  | k + 1 => if vl T tl q k ≤ 100000000 then vl T tl q k * 27 + chT T tl (q + k) - 96 else vl T tl q k
theorem vl_b {T : Nat → Nat} {tl q : Nat} (hT : TxtOk T) : ∀ k, vl T tl q k ≤ 2700000031
  | 0 => Nat.zero_le _
  | k + 1 => by
    have h1 := vl_b (q := q) (tl := tl) hT k
    have h2 := chT_lt hT tl (q + k)
    unfold vl
    split <;> omega
def kdF (v : Nat) : Nat := if v = 6647 then 0 else if v = 1949438 then 1 else if v = 94574 then 2 else 3
/-- the kind of the word at q; 3 if it's none -/
def kdT (T : Nat → Nat) (tl q : Nat) : Nat := kdF (vl T tl q (wl T tl q))
theorem wl_at {T : Nat → Nat} {tl q k : Nat} (h0 : q + k ≤ tl) (h : ∀ j, j < k → smN T tl q j < 1) (h2 : ¬ (97 ≤ chT T tl (q + k) ∧ chT T tl (q + k) ≤ 122)) : wl T tl q = k := by
  rcases Nat.lt_or_ge k (tl - q) with z | z
  · exact ft_at z h (by
      have := smN_lt (T := T) (tl := tl) (q := q) (k := k)
      by_cases y : smN T tl q k < 1
      · exact absurd (this.mp y) h2
      · omega)
  · have e : k = tl - q := by omega
    rw [e] at h ⊢
    exact ft_all h
set_option maxRecDepth 100000 in
set_option maxHeartbeats 4000000 in
theorem c_X8_readKind (l : Launch) (G : KG) (a P Sp Hs T N : Nat → Nat) (sc tl tp fa fr fn : Nat) (hT : TxtOk T) (h1 : tl ≤ 100) (hp : tp ≤ tl) : MetI l yX8_readKind wsX8_readKind 1 G (mW G a P Sp Hs sc T tl tp fa fr fn N) [.ref (a 0)] (fun r v => r = (if kdT T tl tp = 3 then -4 else nI (kdT T tl tp)) ∧ v = mW G a P Sp Hs sc T tl (tp + wl T tl tp) fa fr fn N) := by
  refine MetI.by (cc := cX8_readKind) (nL := 3) (ret := some .int) (by decide +kernel) rfl (Nat.le_of_ble_eq_true rfl) ?_
  intro p e s m args below meth c F w ls hl
  have hl : lv_has ls 3 [(0, .ref (a 0))] := hl
  have hts := F.ts
  have iX8 : ∀ w ∈ wsX80, w ∈ wsX8_readKind := by decide +kernel
  have f122 := hts (.fieldLink RX8 122 "CoreMelterModel" "at" "I") (by decide +kernel)
  refine lv_lconst (v := nL 0) F.1 F.2.1 dX8_readKind_0 rfl ?_
  refine lv_lstore_n (lv' := [(1, .long (nL 0)), (0, .ref (a 0))]) F.1 F.2.1 dX8_readKind_1 rfl hl (by decide) rfl (fun ls hl => ?_)
  have L2 : ∀ n : Nat, ∀ (k : Nat), (tp + k ≤ tl) → (∀ j, j < k → smN T tl tp j < 1) → tl - tp - k < n → ∀ (H : Heap) (locs : List Loc), Wd G s (va_A (mW G a P Sp Hs sc T tl tp fa fr fn N) s.heap.size) (mW G a P Sp Hs sc T tl (tp + k) fa fr fn N) H locs → ∀ ls : Array Slot, lv_has ls 3 [(0, .ref (a 0)), (1, .long (nL (vl T tl tp k)))] → W p l e (rmK 1 0 0) s m args below meth c H locs 0 0 (MQ below (QI G (mW G a P Sp Hs sc T tl tp fa fr fn N) s.heap.size (fun r v => r = (if kdT T tl tp = 3 then -4 else nI (kdT T tl tp)) ∧ v = mW G a P Sp Hs sc T tl (tp + wl T tl tp) fa fr fn N)) args s 0 0 (va_A (mW G a P Sp Hs sc T tl tp fa fr fn N) s.heap.size)) (F0 m 2 ls []) := by
    intro n
    induction n with
    | zero => intro k h2 h3 hm; exact absurd hm (Nat.not_lt_zero _)
    | succ n ih2 =>
      intro k h2 h3 hm2 H locs w ls hl
      refine lv_aload_n F.1 F.2.1 dX8_readKind_2 rfl (lv_at hl 0 rfl) ?_
      refine r_callVI (rest := []) F w (c_X8_here l G a P Sp Hs T N sc tl (tp + k) fa fr fn hT h1 (by omega)) gX8_readKind_X8_here [0, 1, 2, 3, 4, 5] [] (nA0 := 0) rfl (by decide +kernel) rfl ⟨Nat.le_of_ble_eq_true rfl, Nat.le_of_ble_eq_true rfl⟩ ⟨Nat.le_of_ble_eq_true rfl, Nat.le_of_ble_eq_true rfl⟩ rfl rfl rfl rfl rfl rfl rfl hl rfl (Nat.le_of_ble_eq_true rfl) dX8_readKind_3 (fun r_3 w1 H locs hp w => ?_)
      obtain ⟨rfl, rfl⟩ := hp
      have w := w.sub (ws' := mW G a P Sp Hs sc T tl (tp + k) fa fr fn N) [0, 1, 2, 3, 4, 5] (by decide) rfl
      refine lv_bipush (v := nI 97) F.1 F.2.1 dX8_readKind_6 (by decide) ?_
      refine lv_bipush (v := nI 122) F.1 F.2.1 dX8_readKind_8 (by decide) ?_
      refine r_callS0 (rest := []) F w (c_X8_inN l G (chT T tl (tp + k)) 97 122 (by have := chT_lt hT tl (tp + k); omega) (by omega) (by omega)) gX8_readKind_X8_in (nA0 := 3) rfl (by decide +kernel) rfl ⟨Nat.le_of_ble_eq_true rfl, Nat.le_of_ble_eq_true rfl⟩ ⟨Nat.le_of_ble_eq_true rfl, Nat.le_of_ble_eq_true rfl⟩ hl rfl (Nat.le_of_ble_eq_true rfl) dX8_readKind_10 (fun r_10 w1 H locs hp w => ?_)
      obtain ⟨rfl, rfl⟩ := hp
      refine r_yeq (tgt := 57) F dX8_readKind_13 (by decide) (fun c13 => ?_) (fun c13 => ?_)
      · skip
        have hw := wl_at h2 h3 c13
        have hvb := vl_b (q := tp) (tl := tl) hT k
        refine lv_lload_n F.1 F.2.1 dX8_readKind_57 rfl (lv_at hl 1 rfl) ?_
        refine lv_ldc2 (v := nL 6647) F.1 F.2.1 F.2.2.2.1 (hts (.constantLong RX8 134 (6647)) (by decide +kernel)) dX8_readKind_58 ?_
        refine W.lcmp F.1 F.2.1 dX8_readKind_61 ?_
        refine r_lne (tgt := 69) F dX8_readKind_62 (by decide) (by omega) (by omega) (fun c62 => ?_) (fun c62 => ?_)
        · skip
          refine lv_lload_n F.1 F.2.1 dX8_readKind_69 rfl (lv_at hl 1 rfl) ?_
          refine lv_ldc2 (v := nL 1949438) F.1 F.2.1 F.2.2.2.1 (hts (.constantLong RX8 136 (1949438)) (by decide +kernel)) dX8_readKind_70 ?_
          refine W.lcmp F.1 F.2.1 dX8_readKind_73 ?_
          refine r_lne (tgt := 81) F dX8_readKind_74 (by decide) (by omega) (by omega) (fun c74 => ?_) (fun c74 => ?_)
          · skip
            refine lv_lload_n F.1 F.2.1 dX8_readKind_81 rfl (lv_at hl 1 rfl) ?_
            refine lv_ldc2 (v := nL 94574) F.1 F.2.1 F.2.2.2.1 (hts (.constantLong RX8 138 (94574)) (by decide +kernel)) dX8_readKind_82 ?_
            refine W.lcmp F.1 F.2.1 dX8_readKind_85 ?_
            refine r_lne (tgt := 93) F dX8_readKind_86 (by decide) (by omega) (by omega) (fun c86 => ?_) (fun c86 => ?_)
            · skip
              refine lv_bipush (v := (-4)) F.1 F.2.1 dX8_readKind_93 (by decide) ?_
              exact r_ireturn F w dX8_readKind_95 (⟨by unfold kdT; rw [hw]; unfold kdF; first | (rw [if_pos c62]; rfl) | (rw [if_neg c62, if_pos c74]; rfl) | (rw [if_neg c62, if_neg c74, if_pos c86]; rfl) | (rw [if_neg c62, if_neg c74, if_neg c86]; rfl), by rw [hw]⟩)
            · skip
              refine lv_iconst (v := nI 2) F.1 F.2.1 dX8_readKind_89 (by decide) ?_
              refine lv_goto (tgt := 95) F.1 F.2.1 dX8_readKind_90 (by decide) ?_
              exact r_ireturn F w dX8_readKind_95 (⟨by unfold kdT; rw [hw]; unfold kdF; first | (rw [if_pos c62]; rfl) | (rw [if_neg c62, if_pos c74]; rfl) | (rw [if_neg c62, if_neg c74, if_pos c86]; rfl) | (rw [if_neg c62, if_neg c74, if_neg c86]; rfl), by rw [hw]⟩)
          · skip
            refine lv_iconst (v := nI 1) F.1 F.2.1 dX8_readKind_77 (by decide) ?_
            refine lv_goto (tgt := 95) F.1 F.2.1 dX8_readKind_78 (by decide) ?_
            exact r_ireturn F w dX8_readKind_95 (⟨by unfold kdT; rw [hw]; unfold kdF; first | (rw [if_pos c62]; rfl) | (rw [if_neg c62, if_pos c74]; rfl) | (rw [if_neg c62, if_neg c74, if_pos c86]; rfl) | (rw [if_neg c62, if_neg c74, if_neg c86]; rfl), by rw [hw]⟩)
        · skip
          refine lv_iconst (v := nI 0) F.1 F.2.1 dX8_readKind_65 (by decide) ?_
          refine lv_goto (tgt := 95) F.1 F.2.1 dX8_readKind_66 (by decide) ?_
          exact r_ireturn F w dX8_readKind_95 (⟨by unfold kdT; rw [hw]; unfold kdF; first | (rw [if_pos c62]; rfl) | (rw [if_neg c62, if_pos c74]; rfl) | (rw [if_neg c62, if_neg c74, if_pos c86]; rfl) | (rw [if_neg c62, if_neg c74, if_neg c86]; rfl), by rw [hw]⟩)
      · skip
        refine lv_lload_n F.1 F.2.1 dX8_readKind_16 rfl (lv_at hl 1 rfl) ?_
        refine lv_ldc2 (v := nL 100000000) F.1 F.2.1 F.2.2.2.1 (hts (.constantLong RX8 128 (100000000)) (by decide +kernel)) dX8_readKind_17 ?_
        refine W.lcmp F.1 F.2.1 dX8_readKind_20 ?_
        refine r_lle (tgt := 28) F dX8_readKind_21 (by decide) (by have := vl_b (q := tp) (tl := tl) hT k; omega) (by omega) (fun c21 => ?_) (fun c21 => ?_)
        · skip
          refine lv_lload_n F.1 F.2.1 dX8_readKind_28 rfl (lv_at hl 1 rfl) ?_
          refine lv_ldc2 (v := nL 27) F.1 F.2.1 F.2.2.2.1 (hts (.constantLong RX8 130 (27)) (by decide +kernel)) dX8_readKind_29 ?_
          refine r_lmul F dX8_readKind_32 ?_
          refine lv_aload_n F.1 F.2.1 dX8_readKind_33 rfl (lv_at hl 0 rfl) ?_
          refine r_callVI (rest := [.long (nL ((vl T tl tp k) * 27))]) F w (c_X8_here l G a P Sp Hs T N sc tl (tp + k) fa fr fn hT h1 (by omega)) gX8_readKind_X8_here [0, 1, 2, 3, 4, 5] [] (nA0 := 0) rfl (by decide +kernel) rfl ⟨Nat.le_of_ble_eq_true rfl, Nat.le_of_ble_eq_true rfl⟩ ⟨Nat.le_of_ble_eq_true rfl, Nat.le_of_ble_eq_true rfl⟩ rfl rfl rfl rfl rfl rfl rfl hl rfl (Nat.le_of_ble_eq_true rfl) dX8_readKind_34 (fun r_34 w1 H locs hp w => ?_)
          obtain ⟨rfl, rfl⟩ := hp
          have w := w.sub (ws' := mW G a P Sp Hs sc T tl (tp + k) fa fr fn N) [0, 1, 2, 3, 4, 5] (by decide) rfl
          refine lv_i2l (v := nL (chT T tl (tp + k))) F.1 F.2.1 dX8_readKind_37 (i2l_ok (chT_lt hT tl (tp + k))) ?_
          refine r_ladd F dX8_readKind_38 ?_
          refine lv_ldc2 (v := nL 96) F.1 F.2.1 F.2.2.2.1 (hts (.constantLong RX8 132 (96)) (by decide +kernel)) dX8_readKind_39 ?_
          refine r_lsub F dX8_readKind_42 (by omega) ?_
          refine r_toL (y := vl T tl tp (k + 1)) (by show _ = if vl T tl tp k ≤ 100000000 then vl T tl tp k * 27 + chT T tl (tp + k) - 96 else vl T tl tp k; first | rw [if_pos c21] | rw [if_neg (Nat.not_le.mpr c21)]) ?_
          refine lv_lstore_n (lv' := [(1, .long (nL (vl T tl tp (k + 1)))), (0, .ref (a 0))]) F.1 F.2.1 dX8_readKind_43 rfl hl (by decide) rfl (fun ls hl => ?_)
          refine lv_aload_n F.1 F.2.1 dX8_readKind_44 rfl (lv_at hl 1 rfl) ?_
          refine lv_dup F.1 F.2.1 dX8_readKind_45 rfl ?_
          refine r_get F w 0 6 iX8 f122 rfl rfl rfl (by decide) rfl dX8_readKind_46 ?_
          refine lv_iconst (v := nI 1) F.1 F.2.1 dX8_readKind_49 (by decide) ?_
          refine r_iadd F dX8_readKind_50 ?_
          refine r_put (ws' := mW G a P Sp Hs sc T tl ((tp + k) + 1) fa fr fn N) F w 0 6 iX8 okX8 f122 rfl rfl rfl (by decide) (by decide +kernel) (Nat.le_of_ble_eq_true rfl) dX8_readKind_51 rfl (fun H locs w => ?_)
          refine lv_goto (tgt := 2) F.1 F.2.1 dX8_readKind_54 (by decide) ?_
          exact ih2 (k + 1) (by have := chT_in (T := T) (tl := tl) (i := tp + k) (by omega); omega) (fun j hj => by rcases Nat.lt_succ_iff_lt_or_eq.mp hj with q | q; exact h3 j q; rw [q]; exact smN_lt.mpr c13) (by have := chT_in (T := T) (tl := tl) (i := tp + k) (by omega); omega) _ _ w ls (lv_sub hl [1, 0] rfl)
        · skip
          refine lv_lload_n F.1 F.2.1 dX8_readKind_24 rfl (lv_at hl 1 rfl) ?_
          refine lv_goto (tgt := 43) F.1 F.2.1 dX8_readKind_25 (by decide) ?_
          refine r_toL (y := vl T tl tp (k + 1)) (by show _ = if vl T tl tp k ≤ 100000000 then vl T tl tp k * 27 + chT T tl (tp + k) - 96 else vl T tl tp k; first | rw [if_pos c21] | rw [if_neg (Nat.not_le.mpr c21)]) ?_
          refine lv_lstore_n (lv' := [(1, .long (nL (vl T tl tp (k + 1)))), (0, .ref (a 0))]) F.1 F.2.1 dX8_readKind_43 rfl hl (by decide) rfl (fun ls hl => ?_)
          refine lv_aload_n F.1 F.2.1 dX8_readKind_44 rfl (lv_at hl 1 rfl) ?_
          refine lv_dup F.1 F.2.1 dX8_readKind_45 rfl ?_
          refine r_get F w 0 6 iX8 f122 rfl rfl rfl (by decide) rfl dX8_readKind_46 ?_
          refine lv_iconst (v := nI 1) F.1 F.2.1 dX8_readKind_49 (by decide) ?_
          refine r_iadd F dX8_readKind_50 ?_
          refine r_put (ws' := mW G a P Sp Hs sc T tl ((tp + k) + 1) fa fr fn N) F w 0 6 iX8 okX8 f122 rfl rfl rfl (by decide) (by decide +kernel) (Nat.le_of_ble_eq_true rfl) dX8_readKind_51 rfl (fun H locs w => ?_)
          refine lv_goto (tgt := 2) F.1 F.2.1 dX8_readKind_54 (by decide) ?_
          exact ih2 (k + 1) (by have := chT_in (T := T) (tl := tl) (i := tp + k) (by omega); omega) (fun j hj => by rcases Nat.lt_succ_iff_lt_or_eq.mp hj with q | q; exact h3 j q; rw [q]; exact smN_lt.mpr c13) (by have := chT_in (T := T) (tl := tl) (i := tp + k) (by omega); omega) _ _ w ls (lv_sub hl [1, 0] rfl)
  exact L2 _ 0 (by omega) (fun j hj => absurd hj (Nat.not_lt_zero _)) (Nat.lt_succ_self _) _ _ w ls (lv_sub hl [1, 0] rfl)
