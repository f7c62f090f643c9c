theorem i2c_ok : ∀ {x : Nat}, x < 128 → ((nI x).toUInt32 % 65536).toInt32 = nI x := by
  have h : ∀ x : Fin 128, ((nI x).toUInt32 % 65536).toInt32 = nI x := by decide +kernel
  exact fun {x} hx => h ⟨x, hx⟩
theorem char_nar : ∀ {x : Nat}, x < 128 → vp_nar .char (nI x) = nI x := by
  have h : ∀ x : Fin 128, vp_nar .char (nI x) = nI x := by decide +kernel
  exact fun {x} hx => h ⟨x, hx⟩
theorem char_ok {x : Nat} (hx : x < 128) : narrow .char (.int (nI x)) = .int (nI x) := congrArg Value.int (char_nar hx)
section RT
variable {p : Program} {l : Launch} {e : Env} {R : Room} {s : State} {m : MethodId} {args : Array Value} {below : List Frame} {meth : Method} {c : Code} {H : Heap} {locs : List Loc} {cells slots : Nat} {Q : State → Prop}
variable {cc : ByteArray} {nL : Nat} {own : String} {Ts : List Cond} {ret : Option FieldType} {G : KG} {A : Nat → Prop} {ws : va_W} {pc : Nat} {ls : Array Slot} {rest : List Value}
theorem r_nreturn {post : Int32 → va_W → Prop} {ws0 : va_W} {v : Int32} {ty : FieldType} (F : Fx p s m args meth c cc nL own Ts (some ty)) (w : Wd G s (va_A ws0 s.heap.size) ws H locs) (hdg : decode cc pc = .ok (.ireturn, 1)) (hv : narrow ty (.int v) = .int v) (hpost : post v ws) :
    W p l e R s m args below meth c H locs cells slots (MQ below (QI G ws0 s.heap.size post) args s cells slots (va_A ws0 s.heap.size)) (F0 m pc ls [.int v]) :=
  W.zret (v := v) F.1 F.2.1 F.2.2.2.2.2.1 hv (fun t ht hW => ⟨⟨v, ws, rfl, hpost, by rw [ht]; exact w.1, va_K.moved hW.alike w.2.2.2.1, w.2.1⟩, w.2.2.1.F ht⟩) w.2.2.1.2.2 hdg F.2.2.2.2.2.2
theorem r_cast (F : Fx p s m args meth c cc nL own Ts ret) (w : Wd G s A ws H locs) (q0 : Nat) {a n i x : Nat} {f : Nat → Nat} {ws' : va_W} (ha : ws[q0]? = some (aC G a n f)) (hx : x < 128) (hi : i < n) (hn : n < 2 ^ 31) (hdg : decode cc pc = .ok (.castore, 1)) (hw : ws.set q0 (aC G a n (up f i x)) = ws')
    (kk : ∀ (H1 : Heap) (locs1 : List Loc), Wd G s A ws' H1 locs1 → W p l e R s m args below meth c H1 locs1 cells slots Q (F0 m (pc + 1) ls rest)) : W p l e R s m args below meth c H locs cells slots Q (F0 m pc ls (.int (nI x) :: .int (nI i) :: .ref a :: rest)) := by
  subst hw
  refine va_cast F.1 F.2.1 w.2.2.2.1 w.1 w.2.1 w.2.2.1 q0 1 ha rfl (vp_in_nI hi hn) hdg (fun H1 locs1 h1 h2 h3 => kk H1 locs1 ⟨?_, ?_, h3, w.2.2.2⟩)
  · rw [char_nar hx, nA_up (Nat.lt_trans hi hn)] at h1; exact h1
  · rw [char_nar hx, nA_up (Nat.lt_trans hi hn)] at h2; exact h2
end RT
def TxtOk (T : Nat → Nat) : Prop := ∀ k, T k < 128
theorem TxtOk_up {T : Nat → Nat} (h : TxtOk T) {i x : Nat} (hx : x < 128) : TxtOk (up T i x) := fun k => by
  show (if k = i then x else T k) < 128
  split
  · exact hx
  · exact h k
def chT (T : Nat → Nat) (tl i : Nat) : Nat := if i < tl then T i else 0
theorem chT_lt {T : Nat → Nat} (h : TxtOk T) (tl i : Nat) : chT T tl i < 128 := by
  unfold chT
  split
  · exact h i
  · decide
set_option maxRecDepth 100000 in
set_option maxHeartbeats 4000000 in
theorem c_X5_isFull (l : Launch) (G : KG) (a : Nat → Nat) (tl : Nat) (T : Nat → Nat) (h : tl ≤ 100) : MetI l yX5_isFull wsX5_isFull 0 G (textW G a tl T) [.ref (a 0)] (fun r v => r = yn (100 ≤ tl) ∧ v = textW G a tl T) := by
  refine MetI.by (cc := cX5_isFull) (nL := 1) (ret := some .boolean) (by decide +kernel) rfl (Nat.le_of_ble_eq_true rfl) ?_
  intro p e s m args below meth c F w ls hl
  have hl : lv_has ls 1 [(0, .ref (a 0))] := hl
  have hts := F.ts
  have iX5 : ∀ w ∈ wsX50, w ∈ wsX5_isFull := by decide +kernel
  have f13 := hts (.fieldLink RX5 13 "CoreMelter$Text" "length" "I") (by decide +kernel)
  refine lv_aload_n F.1 F.2.1 dX5_isFull_0 rfl (lv_at hl 0 rfl) ?_
  refine r_get F w 0 0 iX5 f13 rfl rfl rfl (by decide) rfl dX5_isFull_1 ?_
  refine lv_bipush (v := nI 100) F.1 F.2.1 dX5_isFull_4 (by decide) ?_
  refine r_clt (tgt := 13) F dX5_isFull_6 (by decide) (by omega) (by omega) (fun c6 => ?_) (fun c6 => ?_)
  · skip
    refine lv_iconst (v := nI 0) F.1 F.2.1 dX5_isFull_13 (by decide) ?_
    exact r_zreturn F w dX5_isFull_14 rfl (⟨by first | exact yn_f (by omega) | exact yn_t (by omega), rfl⟩)
  · skip
    refine lv_iconst (v := nI 1) F.1 F.2.1 dX5_isFull_9 (by decide) ?_
    refine lv_goto (tgt := 14) F.1 F.2.1 dX5_isFull_10 (by decide) ?_
    exact r_zreturn F w dX5_isFull_14 rfl (⟨by first | exact yn_f (by omega) | exact yn_t (by omega), rfl⟩)
set_option maxRecDepth 100000 in
set_option maxHeartbeats 4000000 in
theorem c_X5_append (l : Launch) (G : KG) (a : Nat → Nat) (tl : Nat) (T : Nat → Nat) (x1 : Nat) (h : tl < 100) (hx : x1 < 128) : MetV l yX5_append wsX5_append 1 0 0 G (textW G a tl T) [.ref (a 0), .int (nI x1)] (fun v => v = textW G a (tl + 1) (up T tl x1)) := by
  refine MetV.by (cc := cX5_append) (nL := 2) (ret := none) (by decide +kernel) rfl (Nat.le_of_ble_eq_true rfl) ?_
  intro p e s m args below meth c F hname w ls hl
  have hl : lv_has ls 2 [(0, .ref (a 0)), (1, .int (nI x1))] := hl
  have hts := F.ts
  have iX5 : ∀ w ∈ wsX50, w ∈ wsX5_append := by decide +kernel
  have f9 := hts (.fieldLink RX5 9 "CoreMelter$Text" "characters" "[C") (by decide +kernel)
  have f13 := hts (.fieldLink RX5 13 "CoreMelter$Text" "length" "I") (by decide +kernel)
  refine lv_aload_n F.1 F.2.1 dX5_append_0 rfl (lv_at hl 0 rfl) ?_
  refine r_callVI (rest := []) F w (c_X5_isFull l G a tl T  (by omega)) gX5_append_X5_isFull [0, 1] [] (nA0 := 0) rfl (by decide +kernel) rfl ⟨Nat.le_of_ble_eq_true rfl, Nat.le_of_ble_eq_true rfl⟩ ⟨Nat.le_of_ble_eq_true rfl, Nat.le_of_ble_eq_true rfl⟩ rfl rfl rfl rfl rfl rfl rfl hl rfl (Nat.le_of_ble_eq_true rfl) dX5_append_1 (fun r_1 w1 H locs hp w => ?_)
  obtain ⟨rfl, rfl⟩ := hp
  have w := w.sub (ws' := textW G a tl T) [0, 1] (by decide) rfl
  refine r_yeq (tgt := 8) F dX5_append_4 (by decide) (fun c4 => ?_) (fun c4 => ?_)
  · skip
    refine lv_aload_n F.1 F.2.1 dX5_append_8 rfl (lv_at hl 0 rfl) ?_
    refine r_get F w 0 1 iX5 f9 rfl rfl rfl (by decide) rfl dX5_append_9 ?_
    refine lv_aload_n F.1 F.2.1 dX5_append_12 rfl (lv_at hl 0 rfl) ?_
    refine r_get F w 0 0 iX5 f13 rfl rfl rfl (by decide) rfl dX5_append_13 ?_
    refine lv_iload_n F.1 F.2.1 dX5_append_16 rfl (lv_at hl 1 rfl) ?_
    refine r_cast (ws' := textW G a tl (up T tl x1)) F w 1 rfl hx (by omega) (by decide) dX5_append_17 rfl (fun H locs w => ?_)
    refine lv_aload_n F.1 F.2.1 dX5_append_18 rfl (lv_at hl 0 rfl) ?_
    refine lv_dup F.1 F.2.1 dX5_append_19 rfl ?_
    refine r_get F w 0 0 iX5 f13 rfl rfl rfl (by decide) rfl dX5_append_20 ?_
    refine lv_iconst (v := nI 1) F.1 F.2.1 dX5_append_23 (by decide) ?_
    refine r_iadd F dX5_append_24 ?_
    refine r_put (ws' := textW G a (tl + 1) (up T tl x1)) F w 0 0 iX5 okX5 f13 rfl rfl rfl (by decide) (by decide +kernel) (Nat.le_of_ble_eq_true rfl) dX5_append_25 rfl (fun H locs w => ?_)
    exact r_return F w dX5_append_28 (rfl)
  · exact absurd c4 (by omega)
set_option maxRecDepth 100000 in
set_option maxHeartbeats 4000000 in
theorem c_X5_at (l : Launch) (G : KG) (a : Nat → Nat) (tl : Nat) (T : Nat → Nat) (hT : TxtOk T) (h : tl ≤ 100) (i : Nat) (hi : i < 2 ^ 31) : MetI l yX5_at wsX5_at 0 G (textW G a tl T) [.ref (a 0), .int (nI i)] (fun r v => r = nI (chT T tl i) ∧ v = textW G a tl T) := by
  refine MetI.by (cc := cX5_at) (nL := 2) (ret := some .char) (by decide +kernel) rfl (Nat.le_of_ble_eq_true rfl) ?_
  intro p e s m args below meth c F w ls hl
  have hl : lv_has ls 2 [(0, .ref (a 0)), (1, .int (nI i))] := hl
  have hts := F.ts
  have iX5 : ∀ w ∈ wsX50, w ∈ wsX5_at := by decide +kernel
  have f9 := hts (.fieldLink RX5 9 "CoreMelter$Text" "characters" "[C") (by decide +kernel)
  have f13 := hts (.fieldLink RX5 13 "CoreMelter$Text" "length" "I") (by decide +kernel)
  refine lv_iload_n F.1 F.2.1 dX5_at_0 rfl (lv_at hl 1 rfl) ?_
  refine r_zlt (tgt := 21) F dX5_at_1 (by decide) (by omega) ?_
  refine lv_iload_n F.1 F.2.1 dX5_at_4 rfl (lv_at hl 1 rfl) ?_
  refine lv_aload_n F.1 F.2.1 dX5_at_5 rfl (lv_at hl 0 rfl) ?_
  refine r_get F w 0 0 iX5 f13 rfl rfl rfl (by decide) rfl dX5_at_6 ?_
  refine r_cge (tgt := 21) F dX5_at_9 (by decide) (by omega) (by omega) (fun c9 => ?_) (fun c9 => ?_)
  · skip
    refine lv_iconst (v := nI 0) F.1 F.2.1 dX5_at_21 (by decide) ?_
    exact r_nreturn F w dX5_at_22 (char_ok (by first | exact hT _ | decide)) (⟨congrArg nI (by unfold chT; first | exact (if_pos (by omega)).symm | exact (if_neg (by omega)).symm), rfl⟩)
  · skip
    refine lv_aload_n F.1 F.2.1 dX5_at_12 rfl (lv_at hl 0 rfl) ?_
    refine r_get F w 0 1 iX5 f9 rfl rfl rfl (by decide) rfl dX5_at_13 ?_
    refine lv_iload_n F.1 F.2.1 dX5_at_16 rfl (lv_at hl 1 rfl) ?_
    refine r_cald F w 1 rfl (by omega) (by decide) dX5_at_17 ?_
    refine lv_goto (tgt := 22) F.1 F.2.1 dX5_at_18 (by decide) ?_
    exact r_nreturn F w dX5_at_22 (char_ok (by first | exact hT _ | decide)) (⟨congrArg nI (by unfold chT; first | exact (if_pos (by omega)).symm | exact (if_neg (by omega)).symm), rfl⟩)
set_option maxRecDepth 100000 in
set_option maxHeartbeats 4000000 in
theorem c_X5_isSmallLetter (l : Launch) (G : KG) (a : Nat → Nat) (tl : Nat) (T : Nat → Nat) (hT : TxtOk T) (h : tl ≤ 100) (i : Nat) (hi : i < 2 ^ 31) : MetI l yX5_isSmallLetter wsX5_isSmallLetter 1 G (textW G a tl T) [.ref (a 0), .int (nI i)] (fun r v => r = yn (97 ≤ chT T tl i ∧ chT T tl i ≤ 122) ∧ v = textW G a tl T) := by
  refine MetI.by (cc := cX5_isSmallLetter) (nL := 2) (ret := some .boolean) (by decide +kernel) rfl (Nat.le_of_ble_eq_true rfl) ?_
  intro p e s m args below meth c F w ls hl
  have hl : lv_has ls 2 [(0, .ref (a 0)), (1, .int (nI i))] := hl
  have hts := F.ts
  have hc := chT_lt hT tl i
  refine lv_aload_n F.1 F.2.1 dX5_isSmallLetter_0 rfl (lv_at hl 0 rfl) ?_
  refine lv_iload_n F.1 F.2.1 dX5_isSmallLetter_1 rfl (lv_at hl 1 rfl) ?_
  refine r_callVI (rest := []) F w (c_X5_at l G a tl T hT (by omega) i (by omega)) gX5_isSmallLetter_X5_at [0, 1] [] (nA0 := 1) rfl (by decide +kernel) rfl ⟨Nat.le_of_ble_eq_true rfl, Nat.le_of_ble_eq_true rfl⟩ ⟨Nat.le_of_ble_eq_true rfl, Nat.le_of_ble_eq_true rfl⟩ rfl rfl rfl rfl rfl rfl rfl hl rfl (Nat.le_of_ble_eq_true rfl) dX5_isSmallLetter_2 (fun r_2 w1 H locs hp w => ?_)
  obtain ⟨rfl, rfl⟩ := hp
  have w := w.sub (ws' := textW G a tl T) [0, 1] (by decide) rfl
  refine lv_bipush (v := nI 97) F.1 F.2.1 dX5_isSmallLetter_5 (by decide) ?_
  refine r_clt (tgt := 24) F dX5_isSmallLetter_7 (by decide) (by omega) (by omega) (fun c7 => ?_) (fun c7 => ?_)
  · skip
    refine lv_iconst (v := nI 0) F.1 F.2.1 dX5_isSmallLetter_24 (by decide) ?_
    exact r_zreturn F w dX5_isSmallLetter_25 rfl (⟨by first | exact yn_f (by omega) | exact yn_t (by omega), rfl⟩)
  · skip
    refine lv_aload_n F.1 F.2.1 dX5_isSmallLetter_10 rfl (lv_at hl 0 rfl) ?_
    refine lv_iload_n F.1 F.2.1 dX5_isSmallLetter_11 rfl (lv_at hl 1 rfl) ?_
    refine r_callVI (rest := []) F w (c_X5_at l G a tl T hT (by omega) i (by omega)) gX5_isSmallLetter_X5_at [0, 1] [] (nA0 := 1) rfl (by decide +kernel) rfl ⟨Nat.le_of_ble_eq_true rfl, Nat.le_of_ble_eq_true rfl⟩ ⟨Nat.le_of_ble_eq_true rfl, Nat.le_of_ble_eq_true rfl⟩ rfl rfl rfl rfl rfl rfl rfl hl rfl (Nat.le_of_ble_eq_true rfl) dX5_isSmallLetter_12 (fun r_12 w1 H locs hp w => ?_)
    obtain ⟨rfl, rfl⟩ := hp
    have w := w.sub (ws' := textW G a tl T) [0, 1] (by decide) rfl
    refine lv_bipush (v := nI 122) F.1 F.2.1 dX5_isSmallLetter_15 (by decide) ?_
    refine r_cgt (tgt := 24) F dX5_isSmallLetter_17 (by decide) (by omega) (by omega) (fun c17 => ?_) (fun c17 => ?_)
    · skip
      refine lv_iconst (v := nI 0) F.1 F.2.1 dX5_isSmallLetter_24 (by decide) ?_
      exact r_zreturn F w dX5_isSmallLetter_25 rfl (⟨by first | exact yn_f (by omega) | exact yn_t (by omega), rfl⟩)
    · skip
      refine lv_iconst (v := nI 1) F.1 F.2.1 dX5_isSmallLetter_20 (by decide) ?_
      refine lv_goto (tgt := 25) F.1 F.2.1 dX5_isSmallLetter_21 (by decide) ?_
      exact r_zreturn F w dX5_isSmallLetter_25 rfl (⟨by first | exact yn_f (by omega) | exact yn_t (by omega), rfl⟩)
set_option maxRecDepth 100000 in
set_option maxHeartbeats 4000000 in
theorem c_X5_isDigit (l : Launch) (G : KG) (a : Nat → Nat) (tl : Nat) (T : Nat → Nat) (hT : TxtOk T) (h : tl ≤ 100) (i : Nat) (hi : i < 2 ^ 31) : MetI l yX5_isDigit wsX5_isDigit 1 G (textW G a tl T) [.ref (a 0), .int (nI i)] (fun r v => r = yn (48 ≤ chT T tl i ∧ chT T tl i ≤ 57) ∧ v = textW G a tl T) := by
  refine MetI.by (cc := cX5_isDigit) (nL := 2) (ret := some .boolean) (by decide +kernel) rfl (Nat.le_of_ble_eq_true rfl) ?_
  intro p e s m args below meth c F w ls hl
  have hl : lv_has ls 2 [(0, .ref (a 0)), (1, .int (nI i))] := hl
  have hts := F.ts
  have hc := chT_lt hT tl i
  refine lv_aload_n F.1 F.2.1 dX5_isDigit_0 rfl (lv_at hl 0 rfl) ?_
  refine lv_iload_n F.1 F.2.1 dX5_isDigit_1 rfl (lv_at hl 1 rfl) ?_
  refine r_callVI (rest := []) F w (c_X5_at l G a tl T hT (by omega) i (by omega)) gX5_isDigit_X5_at [0, 1] [] (nA0 := 1) rfl (by decide +kernel) rfl ⟨Nat.le_of_ble_eq_true rfl, Nat.le_of_ble_eq_true rfl⟩ ⟨Nat.le_of_ble_eq_true rfl, Nat.le_of_ble_eq_true rfl⟩ rfl rfl rfl rfl rfl rfl rfl hl rfl (Nat.le_of_ble_eq_true rfl) dX5_isDigit_2 (fun r_2 w1 H locs hp w => ?_)
  obtain ⟨rfl, rfl⟩ := hp
  have w := w.sub (ws' := textW G a tl T) [0, 1] (by decide) rfl
  refine lv_bipush (v := nI 48) F.1 F.2.1 dX5_isDigit_5 (by decide) ?_
  refine r_clt (tgt := 24) F dX5_isDigit_7 (by decide) (by omega) (by omega) (fun c7 => ?_) (fun c7 => ?_)
  · skip
    refine lv_iconst (v := nI 0) F.1 F.2.1 dX5_isDigit_24 (by decide) ?_
    exact r_zreturn F w dX5_isDigit_25 rfl (⟨by first | exact yn_f (by omega) | exact yn_t (by omega), rfl⟩)
  · skip
    refine lv_aload_n F.1 F.2.1 dX5_isDigit_10 rfl (lv_at hl 0 rfl) ?_
    refine lv_iload_n F.1 F.2.1 dX5_isDigit_11 rfl (lv_at hl 1 rfl) ?_
    refine r_callVI (rest := []) F w (c_X5_at l G a tl T hT (by omega) i (by omega)) gX5_isDigit_X5_at [0, 1] [] (nA0 := 1) rfl (by decide +kernel) rfl ⟨Nat.le_of_ble_eq_true rfl, Nat.le_of_ble_eq_true rfl⟩ ⟨Nat.le_of_ble_eq_true rfl, Nat.le_of_ble_eq_true rfl⟩ rfl rfl rfl rfl rfl rfl rfl hl rfl (Nat.le_of_ble_eq_true rfl) dX5_isDigit_12 (fun r_12 w1 H locs hp w => ?_)
    obtain ⟨rfl, rfl⟩ := hp
    have w := w.sub (ws' := textW G a tl T) [0, 1] (by decide) rfl
    refine lv_bipush (v := nI 57) F.1 F.2.1 dX5_isDigit_15 (by decide) ?_
    refine r_cgt (tgt := 24) F dX5_isDigit_17 (by decide) (by omega) (by omega) (fun c17 => ?_) (fun c17 => ?_)
    · skip
      refine lv_iconst (v := nI 0) F.1 F.2.1 dX5_isDigit_24 (by decide) ?_
      exact r_zreturn F w dX5_isDigit_25 rfl (⟨by first | exact yn_f (by omega) | exact yn_t (by omega), rfl⟩)
    · skip
      refine lv_iconst (v := nI 1) F.1 F.2.1 dX5_isDigit_20 (by decide) ?_
      refine lv_goto (tgt := 25) F.1 F.2.1 dX5_isDigit_21 (by decide) ?_
      exact r_zreturn F w dX5_isDigit_25 rfl (⟨by first | exact yn_f (by omega) | exact yn_t (by omega), rfl⟩)
set_option maxRecDepth 100000 in
set_option maxHeartbeats 4000000 in
theorem c_X7_typeM (l : Launch) (G : KG) (ma hb xa ra : Nat → Nat) (pn pt : Nat → Nat → Nat) (tl : Nat) (T : Nat → Nat) (h : tl ≤ 100) (x : Int32) (hx : ¬ (nI 32 ≤ x ∧ x ≤ nI 126)) : MetI l yX7_type wsX7_type 2 G (mainW G ma ((pn 0) 0) ((pt 0) 0) (hb 0) (xa 0) (ra 0) ++ (textW G xa tl T)) [.ref (ma 0), .int x] (fun r v => r = -1 ∧ v = mainW G ma ((pn 0) 0) ((pt 0) 0) (hb 0) (xa 0) (ra 0) ++ (textW G xa tl T)) := by
  refine MetI.by (cc := cX7_type) (nL := 2) (ret := some .int) (by decide +kernel) rfl (Nat.le_of_ble_eq_true rfl) ?_
  intro p e s m args below meth c F w ls hl
  have hl : lv_has ls 2 [(0, .ref (ma 0)), (1, .int x)] := hl
  have hts := F.ts
  refine lv_iload_n F.1 F.2.1 dX7_type_0 rfl (lv_at hl 1 rfl) ?_
  refine lv_bipush (v := nI 32) F.1 F.2.1 dX7_type_1 (by decide) ?_
  refine lv_icmp_lt (tgt := 12) F.1 F.2.1 dX7_type_3 (by decide) (fun c3 => ?_) (fun c3 => ?_)
  · skip
    refine lv_iconst (v := (-1)) F.1 F.2.1 dX7_type_12 (by decide) ?_
    exact r_ireturn F w dX7_type_13 (⟨rfl, rfl⟩)
  · skip
    refine lv_iload_n F.1 F.2.1 dX7_type_6 rfl (lv_at hl 1 rfl) ?_
    refine lv_bipush (v := nI 126) F.1 F.2.1 dX7_type_7 (by decide) ?_
    refine lv_icmp_le (tgt := 14) F.1 F.2.1 dX7_type_9 (by decide) (fun c9 => ?_) (fun c9 => ?_)
    · exact absurd ⟨Int32.not_lt.mp c3, c9⟩ hx
    · skip
      refine lv_iconst (v := (-1)) F.1 F.2.1 dX7_type_12 (by decide) ?_
      exact r_ireturn F w dX7_type_13 (⟨rfl, rfl⟩)
set_option maxRecDepth 100000 in
set_option maxHeartbeats 4000000 in
theorem c_X7_typeZ (l : Launch) (G : KG) (ma hb xa ra : Nat → Nat) (pn pt : Nat → Nat → Nat) (tl : Nat) (T : Nat → Nat) (x1 : Nat) (hx : 32 ≤ x1 ∧ x1 ≤ 126) (hz : tl = 100) : MetI l yX7_type wsX7_type 2 G (mainW G ma ((pn 0) 0) ((pt 0) 0) (hb 0) (xa 0) (ra 0) ++ (textW G xa tl T)) [.ref (ma 0), .int (nI x1)] (fun r v => r = -3 ∧ v = mainW G ma ((pn 0) 0) ((pt 0) 0) (hb 0) (xa 0) (ra 0) ++ (textW G xa tl T)) := by
  refine MetI.by (cc := cX7_type) (nL := 2) (ret := some .int) (by decide +kernel) rfl (Nat.le_of_ble_eq_true rfl) ?_
  intro p e s m args below meth c F w ls hl
  have hl : lv_has ls 2 [(0, .ref (ma 0)), (1, .int (nI x1))] := hl
  have hts := F.ts
  have iX7 : ∀ w ∈ wsX70, w ∈ wsX7_type := by decide +kernel
  have f29 := hts (.fieldLink RX7 29 "CoreMelter" "text" "LCoreMelter$Text;") (by decide +kernel)
  refine lv_iload_n F.1 F.2.1 dX7_type_0 rfl (lv_at hl 1 rfl) ?_
  refine lv_bipush (v := nI 32) F.1 F.2.1 dX7_type_1 (by decide) ?_
  refine r_clt (tgt := 12) F dX7_type_3 (by decide) (by omega) (by omega) (fun c3 => ?_) (fun c3 => ?_)
  · exact absurd c3 (by omega)
  · skip
    refine lv_iload_n F.1 F.2.1 dX7_type_6 rfl (lv_at hl 1 rfl) ?_
    refine lv_bipush (v := nI 126) F.1 F.2.1 dX7_type_7 (by decide) ?_
    refine r_cle (tgt := 14) F dX7_type_9 (by decide) (by omega) (by omega) (fun c9 => ?_) (fun c9 => ?_)
    · skip
      refine lv_aload_n F.1 F.2.1 dX7_type_14 rfl (lv_at hl 0 rfl) ?_
      refine r_get F w 0 3 iX7 f29 rfl rfl rfl (by decide) rfl dX7_type_15 ?_
      refine r_callVI (rest := []) F w (c_X5_isFull l G xa tl T  (by omega)) gX7_type_X5_isFull [1, 2] [0] (nA0 := 0) rfl (by decide +kernel) rfl ⟨Nat.le_of_ble_eq_true rfl, Nat.le_of_ble_eq_true rfl⟩ ⟨Nat.le_of_ble_eq_true rfl, Nat.le_of_ble_eq_true rfl⟩ rfl rfl rfl rfl rfl rfl rfl hl rfl (Nat.le_of_ble_eq_true rfl) dX7_type_18 (fun r_18 w1 H locs hp w => ?_)
      obtain ⟨rfl, rfl⟩ := hp
      have w := w.sub (ws' := mainW G ma ((pn 0) 0) ((pt 0) 0) (hb 0) (xa 0) (ra 0) ++ (textW G xa tl T)) [0, 1, 2] (by decide) rfl
      refine r_yeq (tgt := 27) F dX7_type_21 (by decide) (fun c21 => ?_) (fun c21 => ?_)
      · exact absurd c21 (by omega)
      · skip
        refine lv_bipush (v := (-3)) F.1 F.2.1 dX7_type_24 (by decide) ?_
        exact r_ireturn F w dX7_type_26 (⟨rfl, rfl⟩)
    · exact absurd c9 (by omega)
set_option maxRecDepth 100000 in
set_option maxHeartbeats 4000000 in
theorem c_X7_typeN (l : Launch) (G : KG) (ma hb xa ra : Nat → Nat) (pn pt : Nat → Nat → Nat) (tl : Nat) (T : Nat → Nat) (x1 : Nat) (hx : 32 ≤ x1 ∧ x1 ≤ 126) (hz : tl < 100) : MetI l yX7_type wsX7_type 2 G (mainW G ma ((pn 0) 0) ((pt 0) 0) (hb 0) (xa 0) (ra 0) ++ (textW G xa tl T)) [.ref (ma 0), .int (nI x1)] (fun r v => r = nI (tl + 1) ∧ v = mainW G ma ((pn 0) 0) ((pt 0) 0) (hb 0) (xa 0) (ra 0) ++ (textW G xa (tl + 1) (up T tl x1))) := by
  refine MetI.by (cc := cX7_type) (nL := 2) (ret := some .int) (by decide +kernel) rfl (Nat.le_of_ble_eq_true rfl) ?_
  intro p e s m args below meth c F w ls hl
  have hl : lv_has ls 2 [(0, .ref (ma 0)), (1, .int (nI x1))] := hl
  have hts := F.ts
  have iX5 : ∀ w ∈ wsX50, w ∈ wsX7_type := by decide +kernel
  have iX7 : ∀ w ∈ wsX70, w ∈ wsX7_type := by decide +kernel
  have f29 := hts (.fieldLink RX7 29 "CoreMelter" "text" "LCoreMelter$Text;") (by decide +kernel)
  have f177 := hts (.fieldLink RX7 177 "CoreMelter$Text" "length" "I") (by decide +kernel)
  refine lv_iload_n F.1 F.2.1 dX7_type_0 rfl (lv_at hl 1 rfl) ?_
  refine lv_bipush (v := nI 32) F.1 F.2.1 dX7_type_1 (by decide) ?_
  refine r_clt (tgt := 12) F dX7_type_3 (by decide) (by omega) (by omega) (fun c3 => ?_) (fun c3 => ?_)
  · exact absurd c3 (by omega)
  · skip
    refine lv_iload_n F.1 F.2.1 dX7_type_6 rfl (lv_at hl 1 rfl) ?_
    refine lv_bipush (v := nI 126) F.1 F.2.1 dX7_type_7 (by decide) ?_
    refine r_cle (tgt := 14) F dX7_type_9 (by decide) (by omega) (by omega) (fun c9 => ?_) (fun c9 => ?_)
    · skip
      refine lv_aload_n F.1 F.2.1 dX7_type_14 rfl (lv_at hl 0 rfl) ?_
      refine r_get F w 0 3 iX7 f29 rfl rfl rfl (by decide) rfl dX7_type_15 ?_
      refine r_callVI (rest := []) F w (c_X5_isFull l G xa tl T  (by omega)) gX7_type_X5_isFull [1, 2] [0] (nA0 := 0) rfl (by decide +kernel) rfl ⟨Nat.le_of_ble_eq_true rfl, Nat.le_of_ble_eq_true rfl⟩ ⟨Nat.le_of_ble_eq_true rfl, Nat.le_of_ble_eq_true rfl⟩ rfl rfl rfl rfl rfl rfl rfl hl rfl (Nat.le_of_ble_eq_true rfl) dX7_type_18 (fun r_18 w1 H locs hp w => ?_)
      obtain ⟨rfl, rfl⟩ := hp
      have w := w.sub (ws' := mainW G ma ((pn 0) 0) ((pt 0) 0) (hb 0) (xa 0) (ra 0) ++ (textW G xa tl T)) [0, 1, 2] (by decide) rfl
      refine r_yeq (tgt := 27) F dX7_type_21 (by decide) (fun c21 => ?_) (fun c21 => ?_)
      · skip
        refine lv_aload_n F.1 F.2.1 dX7_type_27 rfl (lv_at hl 0 rfl) ?_
        refine r_get F w 0 3 iX7 f29 rfl rfl rfl (by decide) rfl dX7_type_28 ?_
        refine lv_iload_n F.1 F.2.1 dX7_type_31 rfl (lv_at hl 1 rfl) ?_
        refine lv_i2c (v := nI x1) F.1 F.2.1 dX7_type_32 (i2c_ok (by omega)) ?_
        refine r_callVV (rest := []) F w (c_X5_append l G xa tl T x1 (by omega) (by omega)) gX7_type_X5_append [1, 2] [0] (nA0 := 1) rfl (by decide +kernel) rfl ⟨Nat.le_of_ble_eq_true rfl, Nat.le_of_ble_eq_true rfl⟩ ⟨Nat.le_of_ble_eq_true rfl, Nat.le_of_ble_eq_true rfl⟩ rfl rfl rfl rfl rfl rfl rfl hl rfl (Nat.le_of_ble_eq_true rfl) dX7_type_33 (fun w1 H locs hp w => ?_)
        obtain rfl := hp
        have w := w.sub (ws' := mainW G ma ((pn 0) 0) ((pt 0) 0) (hb 0) (xa 0) (ra 0) ++ (textW G xa (tl + 1) (up T tl x1))) [0, 1, 2] (by decide) rfl
        refine lv_aload_n F.1 F.2.1 dX7_type_36 rfl (lv_at hl 0 rfl) ?_
        refine r_get F w 0 3 iX7 f29 rfl rfl rfl (by decide) rfl dX7_type_37 ?_
        refine r_get F w 1 0 iX5 f177 rfl rfl rfl (by decide) rfl dX7_type_40 ?_
        exact r_ireturn F w dX7_type_43 (⟨rfl, rfl⟩)
      · exact absurd c21 (by omega)
    · exact absurd c9 (by omega)
