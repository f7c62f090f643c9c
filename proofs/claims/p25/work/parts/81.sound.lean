/-! ===== p25: the law's method sound ===== -/
theorem vsF_up (P : Nat → Nat) : ∀ {i j : Nat}, i ≤ j → vsF P i ≤ vsF P j := by
  intro i j h
  induction h with
  | refl => exact Nat.le_refl _
  | step h ih => exact Nat.le_trans ih (Nat.le_add_right _ _)
set_option maxRecDepth 100000 in
set_option maxHeartbeats 8000000 in
theorem c_L_sound (l : Launch) (G : KG) (a1 a2 a3 q0 v0 q1 v1 q2 v2 : Nat) {P : Nat → Nat} {n : Nat} {h : Nat → Nat → Nat} (hS : SI P n h) (hJ : JI P) (b : Nat) : KL l G (lawX a1 a2 a3 q0 v0 q1 v1 q2 v2) yL_sound wsL_sound 4 b [] P n h (nI 1) (CS G b P 0 (fun _ => 0) n h) := by
  intro ws hc
  refine MetIX.by (cc := cL_sound) (nL := 13) (ret := some .boolean) (by decide +kernel) rfl (Nat.le_of_ble_eq_true rfl) ?_
  intro p e s m args below meth c F hX w ls hl
  have w : CW G s (va_A ws s.heap.size) s.heap [] b P n h := ⟨ws, hc, w⟩
  have hf := fine_law a1 a2 a3 q0 v0 q1 v1 q2 v2
  have hl : lv_has ls 13 [(0, .ref b)] := hl
  have hI := hS.1
  obtain ⟨f8, f14, ft1, ft2, ft3, fd1, fd2, fd3, fw1, fw2, fw3, fb1, fb2, fb3, fb4, fb5, fb6, fc1, fc2, fc3, fc4, fn5, fs1, fs2⟩ := S_facts hS hJ
  refine lv_aload_n F.1 F.2.1 dL_sound_0 rfl (lv_at hl 0 rfl) ?_
  refine lv_bipush (v := nI 10) F.1 F.2.1 dL_sound_1 (by decide) ?_
  refine k_call (As := [.int (nI 10)]) (rest := []) hf hX F w (k_count l G a1 a2 a3 q0 v0 q1 v1 q2 v2 hS a_c10) (gL_sound_X7_count) rfl (nA0 := 1) (by decide +kernel) rfl ⟨Nat.le_of_ble_eq_true rfl, Nat.le_of_ble_eq_true rfl⟩ ⟨Nat.le_of_ble_eq_true rfl, Nat.le_of_ble_eq_true rfl⟩ hl rfl (Nat.le_of_ble_eq_true rfl) dL_sound_3 (fun H locs w => ?_)
  refine lv_istore_n (lv' := [(1, .int (nI (P 9))), (0, .ref b)]) F.1 F.2.1 dL_sound_6 rfl hl (by decide) rfl (fun ls hl => ?_)
  refine lv_aload_n F.1 F.2.1 dL_sound_7 rfl (lv_at hl 1 rfl) ?_
  refine lv_bipush (v := nI 15) F.1 F.2.1 dL_sound_8 (by decide) ?_
  refine k_call (As := [.int (nI 15)]) (rest := []) hf hX F w (k_count l G a1 a2 a3 q0 v0 q1 v1 q2 v2 hS a_c15) (gL_sound_X7_count) rfl (nA0 := 1) (by decide +kernel) rfl ⟨Nat.le_of_ble_eq_true rfl, Nat.le_of_ble_eq_true rfl⟩ ⟨Nat.le_of_ble_eq_true rfl, Nat.le_of_ble_eq_true rfl⟩ hl rfl (Nat.le_of_ble_eq_true rfl) dL_sound_10 (fun H locs w => ?_)
  refine lv_istore_n (lv' := [(2, .int (nI (toldF P))), (1, .int (nI (P 9))), (0, .ref b)]) F.1 F.2.1 dL_sound_13 rfl hl (by decide) rfl (fun ls hl => ?_)
  refine lv_aload_n F.1 F.2.1 dL_sound_14 rfl (lv_at hl 2 rfl) ?_
  refine lv_iconst (v := nI 1) F.1 F.2.1 dL_sound_15 (by decide) ?_
  refine k_call (As := [.int (nI 1)]) (rest := []) hf hX F w (k_account l G a1 a2 a3 q0 v0 q1 v1 q2 v2 hS a_a1) (gL_sound_X7_account) rfl (nA0 := 1) (by decide +kernel) rfl ⟨Nat.le_of_ble_eq_true rfl, Nat.le_of_ble_eq_true rfl⟩ ⟨Nat.le_of_ble_eq_true rfl, Nat.le_of_ble_eq_true rfl⟩ hl rfl (Nat.le_of_ble_eq_true rfl) dL_sound_16 (fun H locs w => ?_)
  refine lv_aload_n F.1 F.2.1 dL_sound_19 rfl (lv_at hl 2 rfl) ?_
  refine lv_iconst (v := nI 2) F.1 F.2.1 dL_sound_20 (by decide) ?_
  refine k_call (As := [.int (nI 2)]) (rest := [.int (nI (P 20))]) hf hX F w (k_account l G a1 a2 a3 q0 v0 q1 v1 q2 v2 hS a_a2) (gL_sound_X7_account) rfl (nA0 := 1) (by decide +kernel) rfl ⟨Nat.le_of_ble_eq_true rfl, Nat.le_of_ble_eq_true rfl⟩ ⟨Nat.le_of_ble_eq_true rfl, Nat.le_of_ble_eq_true rfl⟩ hl rfl (Nat.le_of_ble_eq_true rfl) dL_sound_21 (fun H locs w => ?_)
  refine r_iadd F dL_sound_24 ?_
  refine lv_istore_n (lv' := [(3, .int (nI ((P 20) + (P 21)))), (2, .int (nI (toldF P))), (1, .int (nI (P 9))), (0, .ref b)]) F.1 F.2.1 dL_sound_25 rfl hl (by decide) rfl (fun ls hl => ?_)
  refine lv_aload_n F.1 F.2.1 dL_sound_26 rfl (lv_at hl 3 rfl) ?_
  refine lv_bipush (v := nI 9) F.1 F.2.1 dL_sound_27 (by decide) ?_
  refine k_call (As := [.int (nI 9)]) (rest := []) hf hX F w (k_count l G a1 a2 a3 q0 v0 q1 v1 q2 v2 hS a_c9) (gL_sound_X7_count) rfl (nA0 := 1) (by decide +kernel) rfl ⟨Nat.le_of_ble_eq_true rfl, Nat.le_of_ble_eq_true rfl⟩ ⟨Nat.le_of_ble_eq_true rfl, Nat.le_of_ble_eq_true rfl⟩ hl rfl (Nat.le_of_ble_eq_true rfl) dL_sound_29 (fun H locs w => ?_)
  refine lv_istore (lv' := [(4, .int (nI (top P))), (3, .int (nI ((P 20) + (P 21)))), (2, .int (nI (toldF P))), (1, .int (nI (P 9))), (0, .ref b)]) F.1 F.2.1 dL_sound_32 hl (by decide) rfl (fun ls hl => ?_)
  refine lv_iconst (v := nI 0) F.1 F.2.1 dL_sound_34 (by decide) ?_
  refine lv_istore (lv' := [(5, .int (nI 0)), (4, .int (nI (top P))), (3, .int (nI ((P 20) + (P 21)))), (2, .int (nI (toldF P))), (1, .int (nI (P 9))), (0, .ref b)]) F.1 F.2.1 dL_sound_35 hl (by decide) rfl (fun ls hl => ?_)
  refine lv_iconst (v := nI 0) F.1 F.2.1 dL_sound_37 (by decide) ?_
  refine lv_istore (lv' := [(6, .int (nI 0)), (5, .int (nI 0)), (4, .int (nI (top P))), (3, .int (nI ((P 20) + (P 21)))), (2, .int (nI (toldF P))), (1, .int (nI (P 9))), (0, .ref b)]) F.1 F.2.1 dL_sound_38 hl (by decide) rfl (fun ls hl => ?_)
  refine lv_iconst (v := nI 0) F.1 F.2.1 dL_sound_40 (by decide) ?_
  refine lv_istore (lv' := [(7, .int (nI 0)), (6, .int (nI 0)), (5, .int (nI 0)), (4, .int (nI (top P))), (3, .int (nI ((P 20) + (P 21)))), (2, .int (nI (toldF P))), (1, .int (nI (P 9))), (0, .ref b)]) F.1 F.2.1 dL_sound_41 hl (by decide) rfl (fun ls hl => ?_)
  refine lv_iconst (v := nI 0) F.1 F.2.1 dL_sound_43 (by decide) ?_
  refine lv_istore (lv' := [(8, .int (nI 0)), (7, .int (nI 0)), (6, .int (nI 0)), (5, .int (nI 0)), (4, .int (nI (top P))), (3, .int (nI ((P 20) + (P 21)))), (2, .int (nI (toldF P))), (1, .int (nI (P 9))), (0, .ref b)]) F.1 F.2.1 dL_sound_44 hl (by decide) rfl (fun ls hl => ?_)
  have L46 : ∀ (N k : Nat), 4 - k < N → k ≤ 4 → ∀ (H : Heap) (locs : List Loc), CW G s (va_A ws s.heap.size) H locs b P n h → ∀ ls : Array Slot, lv_has ls 13 [(8, .int (nI k)), (7, .int (nI (lsF P 4 k))), (6, .int (nI (lsF P 0 k))), (5, .int (nI (lsF P 3 k))), (4, .int (nI (top P))), (3, .int (nI (P 20 + P 21))), (2, .int (nI (toldF P))), (1, .int (nI (P 9))), (0, .ref b)] → W p l e (rmK 4 0 0) s m args below meth c H locs 0 0 (MQ below (QI G ws s.heap.size (fun r v => r = nI 1 ∧ (CS G b P 0 (fun _ => 0) n h) v)) args s 0 0 (va_A ws s.heap.size)) (F0 m 46 ls []) := by
    intro N
    induction N with
    | zero => intro k hm; exact absurd hm (Nat.not_lt_zero _)
    | succ N ih46 =>
      intro k hm hk4 H locs w ls hl
      refine lv_iload F.1 F.2.1 dL_sound_46 (lv_at hl 0 rfl) ?_
      refine lv_iconst (v := nI 4) F.1 F.2.1 dL_sound_48 (by decide) ?_
      refine r_cge (tgt := 133) F dL_sound_49 (by decide) (by omega) (by decide) (fun c49 => ?_) (fun c49 => ?_)
      · skip
        have hk : k = 4 := by omega
        subst hk
        obtain ⟨fe3, fe4, fe0⟩ := ls_4 P
        obtain ⟨fj1, fj2, fj3⟩ := hJ.1
        refine lv_aload_n F.1 F.2.1 dL_sound_133 rfl (lv_at hl 8 rfl) ?_
        refine k_call (As := []) (rest := []) hf hX F w (k_again l G a1 a2 a3 q0 v0 q1 v1 q2 v2 hS) (gL_sound_X7_again) rfl (nA0 := 0) (by decide +kernel) rfl ⟨Nat.le_of_ble_eq_true rfl, Nat.le_of_ble_eq_true rfl⟩ ⟨Nat.le_of_ble_eq_true rfl, Nat.le_of_ble_eq_true rfl⟩ hl rfl (Nat.le_of_ble_eq_true rfl) dL_sound_134 (fun H locs w => ?_)
        refine lv_iload_n F.1 F.2.1 dL_sound_137 rfl (lv_at hl 6 rfl) ?_
        refine r_cne (tgt := 344) F dL_sound_138 (by decide) (by omega) (by omega) (fun c138 => by exfalso; omega) (fun c138 => ?_)
        refine lv_iload_n F.1 F.2.1 dL_sound_141 rfl (lv_at hl 6 rfl) ?_
        refine r_zlt (tgt := 344) F dL_sound_142 (by decide) (by omega) ?_
        refine lv_iload_n F.1 F.2.1 dL_sound_145 rfl (lv_at hl 6 rfl) ?_
        refine lv_iload_n F.1 F.2.1 dL_sound_146 rfl (lv_at hl 7 rfl) ?_
        refine r_cgt (tgt := 344) F dL_sound_147 (by decide) (by omega) (by omega) (fun c147 => by exfalso; omega) (fun c147 => ?_)
        refine lv_iload_n F.1 F.2.1 dL_sound_150 rfl (lv_at hl 7 rfl) ?_
        refine lv_iload F.1 F.2.1 dL_sound_151 (lv_at hl 4 rfl) ?_
        refine r_cgt (tgt := 344) F dL_sound_153 (by decide) (by omega) (by omega) (fun c153 => by exfalso; omega) (fun c153 => ?_)
        refine lv_aload_n F.1 F.2.1 dL_sound_156 rfl (lv_at hl 8 rfl) ?_
        refine lv_iconst (v := nI 0) F.1 F.2.1 dL_sound_157 (by decide) ?_
        refine k_call (As := [.int (nI 0)]) (rest := []) hf hX F w (k_account l G a1 a2 a3 q0 v0 q1 v1 q2 v2 hS a_a0) (gL_sound_X7_account) rfl (nA0 := 1) (by decide +kernel) rfl ⟨Nat.le_of_ble_eq_true rfl, Nat.le_of_ble_eq_true rfl⟩ ⟨Nat.le_of_ble_eq_true rfl, Nat.le_of_ble_eq_true rfl⟩ hl rfl (Nat.le_of_ble_eq_true rfl) dL_sound_158 (fun H locs w => ?_)
        refine lv_iload_n F.1 F.2.1 dL_sound_161 rfl (lv_at hl 5 rfl) ?_
        refine lv_aload_n F.1 F.2.1 dL_sound_162 rfl (lv_at hl 8 rfl) ?_
        refine lv_bipush (v := nI 12) F.1 F.2.1 dL_sound_163 (by decide) ?_
        refine k_call (As := [.int (nI 12)]) (rest := [.int (nI (P 20 + P 21)), .int (nI (P 19))]) hf hX F w (k_count l G a1 a2 a3 q0 v0 q1 v1 q2 v2 hS a_c12) (gL_sound_X7_count) rfl (nA0 := 1) (by decide +kernel) rfl ⟨Nat.le_of_ble_eq_true rfl, Nat.le_of_ble_eq_true rfl⟩ ⟨Nat.le_of_ble_eq_true rfl, Nat.le_of_ble_eq_true rfl⟩ hl rfl (Nat.le_of_ble_eq_true rfl) dL_sound_165 (fun H locs w => ?_)
        refine r_iadd F dL_sound_168 ?_
        refine r_cne (tgt := 344) F dL_sound_169 (by decide) (by omega) (by omega) (fun c169 => by exfalso; omega) (fun c169 => ?_)
        refine lv_aload_n F.1 F.2.1 dL_sound_172 rfl (lv_at hl 8 rfl) ?_
        refine lv_iconst (v := nI 3) F.1 F.2.1 dL_sound_173 (by decide) ?_
        refine k_call (As := [.int (nI 3)]) (rest := []) hf hX F w (k_account l G a1 a2 a3 q0 v0 q1 v1 q2 v2 hS a_a3) (gL_sound_X7_account) rfl (nA0 := 1) (by decide +kernel) rfl ⟨Nat.le_of_ble_eq_true rfl, Nat.le_of_ble_eq_true rfl⟩ ⟨Nat.le_of_ble_eq_true rfl, Nat.le_of_ble_eq_true rfl⟩ hl rfl (Nat.le_of_ble_eq_true rfl) dL_sound_174 (fun H locs w => ?_)
        refine lv_aload_n F.1 F.2.1 dL_sound_177 rfl (lv_at hl 8 rfl) ?_
        refine lv_iconst (v := nI 4) F.1 F.2.1 dL_sound_178 (by decide) ?_
        refine k_call (As := [.int (nI 4)]) (rest := [.int (nI (P 22))]) hf hX F w (k_account l G a1 a2 a3 q0 v0 q1 v1 q2 v2 hS a_a4) (gL_sound_X7_account) rfl (nA0 := 1) (by decide +kernel) rfl ⟨Nat.le_of_ble_eq_true rfl, Nat.le_of_ble_eq_true rfl⟩ ⟨Nat.le_of_ble_eq_true rfl, Nat.le_of_ble_eq_true rfl⟩ hl rfl (Nat.le_of_ble_eq_true rfl) dL_sound_179 (fun H locs w => ?_)
        refine lv_aload_n F.1 F.2.1 dL_sound_182 rfl (lv_at hl 8 rfl) ?_
        refine lv_bipush (v := nI 13) F.1 F.2.1 dL_sound_183 (by decide) ?_
        refine k_call (As := [.int (nI 13)]) (rest := [.int (nI (P 23)), .int (nI (P 22))]) hf hX F w (k_count l G a1 a2 a3 q0 v0 q1 v1 q2 v2 hS a_c13) (gL_sound_X7_count) rfl (nA0 := 1) (by decide +kernel) rfl ⟨Nat.le_of_ble_eq_true rfl, Nat.le_of_ble_eq_true rfl⟩ ⟨Nat.le_of_ble_eq_true rfl, Nat.le_of_ble_eq_true rfl⟩ hl rfl (Nat.le_of_ble_eq_true rfl) dL_sound_185 (fun H locs w => ?_)
        refine r_iadd F dL_sound_188 ?_
        refine r_cne (tgt := 344) F dL_sound_189 (by decide) (by omega) (by omega) (fun c189 => by exfalso; omega) (fun c189 => ?_)
        refine lv_aload_n F.1 F.2.1 dL_sound_192 rfl (lv_at hl 8 rfl) ?_
        refine lv_iconst (v := nI 5) F.1 F.2.1 dL_sound_193 (by decide) ?_
        refine k_call (As := [.int (nI 5)]) (rest := []) hf hX F w (k_account l G a1 a2 a3 q0 v0 q1 v1 q2 v2 hS a_a5) (gL_sound_X7_account) rfl (nA0 := 1) (by decide +kernel) rfl ⟨Nat.le_of_ble_eq_true rfl, Nat.le_of_ble_eq_true rfl⟩ ⟨Nat.le_of_ble_eq_true rfl, Nat.le_of_ble_eq_true rfl⟩ hl rfl (Nat.le_of_ble_eq_true rfl) dL_sound_194 (fun H locs w => ?_)
        refine lv_aload_n F.1 F.2.1 dL_sound_197 rfl (lv_at hl 8 rfl) ?_
        refine lv_bipush (v := nI 6) F.1 F.2.1 dL_sound_198 (by decide) ?_
        refine k_call (As := [.int (nI 6)]) (rest := [.int (nI (P 24))]) hf hX F w (k_account l G a1 a2 a3 q0 v0 q1 v1 q2 v2 hS a_a6) (gL_sound_X7_account) rfl (nA0 := 1) (by decide +kernel) rfl ⟨Nat.le_of_ble_eq_true rfl, Nat.le_of_ble_eq_true rfl⟩ ⟨Nat.le_of_ble_eq_true rfl, Nat.le_of_ble_eq_true rfl⟩ hl rfl (Nat.le_of_ble_eq_true rfl) dL_sound_200 (fun H locs w => ?_)
        refine lv_aload_n F.1 F.2.1 dL_sound_203 rfl (lv_at hl 8 rfl) ?_
        refine lv_bipush (v := nI 14) F.1 F.2.1 dL_sound_204 (by decide) ?_
        refine k_call (As := [.int (nI 14)]) (rest := [.int (nI (P 25)), .int (nI (P 24))]) hf hX F w (k_count l G a1 a2 a3 q0 v0 q1 v1 q2 v2 hS a_c14) (gL_sound_X7_count) rfl (nA0 := 1) (by decide +kernel) rfl ⟨Nat.le_of_ble_eq_true rfl, Nat.le_of_ble_eq_true rfl⟩ ⟨Nat.le_of_ble_eq_true rfl, Nat.le_of_ble_eq_true rfl⟩ hl rfl (Nat.le_of_ble_eq_true rfl) dL_sound_206 (fun H locs w => ?_)
        refine r_iadd F dL_sound_209 ?_
        refine r_cne (tgt := 344) F dL_sound_210 (by decide) (by omega) (by omega) (fun c210 => by exfalso; omega) (fun c210 => ?_)
        refine lv_aload_n F.1 F.2.1 dL_sound_213 rfl (lv_at hl 8 rfl) ?_
        refine lv_iload_n F.1 F.2.1 dL_sound_214 rfl (lv_at hl 7 rfl) ?_
        refine k_call (As := [.int (nI (P 9))]) (rest := []) hf hX F w (k_waterBelow l G a1 a2 a3 q0 v0 q1 v1 q2 v2 hS (a_w (d := P 9) (by omega) (by omega))) (gL_sound_X7_waterBelow) rfl (nA0 := 1) (by decide +kernel) rfl ⟨Nat.le_of_ble_eq_true rfl, Nat.le_of_ble_eq_true rfl⟩ ⟨Nat.le_of_ble_eq_true rfl, Nat.le_of_ble_eq_true rfl⟩ hl rfl (Nat.le_of_ble_eq_true rfl) dL_sound_215 (fun H locs w => ?_)
        refine lv_aload_n F.1 F.2.1 dL_sound_218 rfl (lv_at hl 8 rfl) ?_
        refine lv_iconst (v := nI 0) F.1 F.2.1 dL_sound_219 (by decide) ?_
        refine k_call (As := [.int (nI 0)]) (rest := [.int (nI (wF P (P 9)))]) hf hX F w (k_account l G a1 a2 a3 q0 v0 q1 v1 q2 v2 hS a_a0) (gL_sound_X7_account) rfl (nA0 := 1) (by decide +kernel) rfl ⟨Nat.le_of_ble_eq_true rfl, Nat.le_of_ble_eq_true rfl⟩ ⟨Nat.le_of_ble_eq_true rfl, Nat.le_of_ble_eq_true rfl⟩ hl rfl (Nat.le_of_ble_eq_true rfl) dL_sound_220 (fun H locs w => ?_)
        refine r_cne (tgt := 344) F dL_sound_223 (by decide) (by omega) (by omega) (fun c223 => by exfalso; omega) (fun c223 => ?_)
        refine lv_aload_n F.1 F.2.1 dL_sound_226 rfl (lv_at hl 8 rfl) ?_
        refine lv_iload_n F.1 F.2.1 dL_sound_227 rfl (lv_at hl 6 rfl) ?_
        refine k_call (As := [.int (nI (toldF P))]) (rest := []) hf hX F w (k_waterBelow l G a1 a2 a3 q0 v0 q1 v1 q2 v2 hS (a_w (d := toldF P) (by omega) (by omega))) (gL_sound_X7_waterBelow) rfl (nA0 := 1) (by decide +kernel) rfl ⟨Nat.le_of_ble_eq_true rfl, Nat.le_of_ble_eq_true rfl⟩ ⟨Nat.le_of_ble_eq_true rfl, Nat.le_of_ble_eq_true rfl⟩ hl rfl (Nat.le_of_ble_eq_true rfl) dL_sound_228 (fun H locs w => ?_)
        refine lv_iload_n F.1 F.2.1 dL_sound_231 rfl (lv_at hl 5 rfl) ?_
        refine r_cgt (tgt := 344) F dL_sound_232 (by decide) (by omega) (by omega) (fun c232 => by exfalso; omega) (fun c232 => ?_)
        have L251 : ∀ (H : Heap) (locs : List Loc), CW G s (va_A ws s.heap.size) H locs b P n h → ∀ ls : Array Slot, lv_has ls 13 [(8, .int (nI 4)), (7, .int (nI (lsF P 4 4))), (6, .int (nI (lsF P 0 4))), (5, .int (nI (lsF P 3 4))), (4, .int (nI (top P))), (3, .int (nI (P 20 + P 21))), (2, .int (nI (toldF P))), (1, .int (nI (P 9))), (0, .ref b)] → W p l e (rmK 4 0 0) s m args below meth c H locs 0 0 (MQ below (QI G ws s.heap.size (fun r v => r = nI 1 ∧ (CS G b P 0 (fun _ => 0) n h) v)) args s 0 0 (va_A ws s.heap.size)) (F0 m 251 ls []) := by
          intro H locs w ls hl
          refine lv_iload F.1 F.2.1 dL_sound_251 (lv_at hl 3 rfl) ?_
          refine lv_iload_n F.1 F.2.1 dL_sound_253 rfl (lv_at hl 5 rfl) ?_
          refine r_cne (tgt := 344) F dL_sound_254 (by decide) (by omega) (by omega) (fun c254 => by exfalso; omega) (fun c254 => ?_)
          refine lv_iload F.1 F.2.1 dL_sound_257 (lv_at hl 1 rfl) ?_
          refine lv_aload_n F.1 F.2.1 dL_sound_259 rfl (lv_at hl 8 rfl) ?_
          refine lv_iconst (v := nI 2) F.1 F.2.1 dL_sound_260 (by decide) ?_
          refine k_call (As := [.int (nI 2)]) (rest := [.int (nI (lsF P 4 4))]) hf hX F w (k_account l G a1 a2 a3 q0 v0 q1 v1 q2 v2 hS a_a2) (gL_sound_X7_account) rfl (nA0 := 1) (by decide +kernel) rfl ⟨Nat.le_of_ble_eq_true rfl, Nat.le_of_ble_eq_true rfl⟩ ⟨Nat.le_of_ble_eq_true rfl, Nat.le_of_ble_eq_true rfl⟩ hl rfl (Nat.le_of_ble_eq_true rfl) dL_sound_261 (fun H locs w => ?_)
          refine r_cne (tgt := 344) F dL_sound_264 (by decide) (by omega) (by omega) (fun c264 => by exfalso; omega) (fun c264 => ?_)
          refine lv_iload F.1 F.2.1 dL_sound_267 (lv_at hl 2 rfl) ?_
          refine lv_aload_n F.1 F.2.1 dL_sound_269 rfl (lv_at hl 8 rfl) ?_
          refine lv_bipush (v := nI 21) F.1 F.2.1 dL_sound_270 (by decide) ?_
          refine k_call (As := [.int (nI 21)]) (rest := [.int (nI (lsF P 0 4))]) hf hX F w (k_count l G a1 a2 a3 q0 v0 q1 v1 q2 v2 hS a_c21) (gL_sound_X7_count) rfl (nA0 := 1) (by decide +kernel) rfl ⟨Nat.le_of_ble_eq_true rfl, Nat.le_of_ble_eq_true rfl⟩ ⟨Nat.le_of_ble_eq_true rfl, Nat.le_of_ble_eq_true rfl⟩ hl rfl (Nat.le_of_ble_eq_true rfl) dL_sound_272 (fun H locs w => ?_)
          refine r_cne (tgt := 344) F dL_sound_275 (by decide) (by omega) (by omega) (fun c275 => by exfalso; omega) (fun c275 => ?_)
          refine lv_aload_n F.1 F.2.1 dL_sound_278 rfl (lv_at hl 8 rfl) ?_
          refine lv_bipush (v := nI 11) F.1 F.2.1 dL_sound_279 (by decide) ?_
          refine k_call (As := [.int (nI 11)]) (rest := []) hf hX F w (k_count l G a1 a2 a3 q0 v0 q1 v1 q2 v2 hS a_c11) (gL_sound_X7_count) rfl (nA0 := 1) (by decide +kernel) rfl ⟨Nat.le_of_ble_eq_true rfl, Nat.le_of_ble_eq_true rfl⟩ ⟨Nat.le_of_ble_eq_true rfl, Nat.le_of_ble_eq_true rfl⟩ hl rfl (Nat.le_of_ble_eq_true rfl) dL_sound_281 (fun H locs w => ?_)
          refine r_zlt (tgt := 344) F dL_sound_284 (by decide) (by omega) ?_
          refine lv_aload_n F.1 F.2.1 dL_sound_287 rfl (lv_at hl 8 rfl) ?_
          refine lv_bipush (v := nI 12) F.1 F.2.1 dL_sound_288 (by decide) ?_
          refine k_call (As := [.int (nI 12)]) (rest := []) hf hX F w (k_count l G a1 a2 a3 q0 v0 q1 v1 q2 v2 hS a_c12) (gL_sound_X7_count) rfl (nA0 := 1) (by decide +kernel) rfl ⟨Nat.le_of_ble_eq_true rfl, Nat.le_of_ble_eq_true rfl⟩ ⟨Nat.le_of_ble_eq_true rfl, Nat.le_of_ble_eq_true rfl⟩ hl rfl (Nat.le_of_ble_eq_true rfl) dL_sound_290 (fun H locs w => ?_)
          refine r_zlt (tgt := 344) F dL_sound_293 (by decide) (by omega) ?_
          refine lv_aload_n F.1 F.2.1 dL_sound_296 rfl (lv_at hl 8 rfl) ?_
          refine lv_bipush (v := nI 13) F.1 F.2.1 dL_sound_297 (by decide) ?_
          refine k_call (As := [.int (nI 13)]) (rest := []) hf hX F w (k_count l G a1 a2 a3 q0 v0 q1 v1 q2 v2 hS a_c13) (gL_sound_X7_count) rfl (nA0 := 1) (by decide +kernel) rfl ⟨Nat.le_of_ble_eq_true rfl, Nat.le_of_ble_eq_true rfl⟩ ⟨Nat.le_of_ble_eq_true rfl, Nat.le_of_ble_eq_true rfl⟩ hl rfl (Nat.le_of_ble_eq_true rfl) dL_sound_299 (fun H locs w => ?_)
          refine r_zlt (tgt := 344) F dL_sound_302 (by decide) (by omega) ?_
          refine lv_aload_n F.1 F.2.1 dL_sound_305 rfl (lv_at hl 8 rfl) ?_
          refine lv_bipush (v := nI 14) F.1 F.2.1 dL_sound_306 (by decide) ?_
          refine k_call (As := [.int (nI 14)]) (rest := []) hf hX F w (k_count l G a1 a2 a3 q0 v0 q1 v1 q2 v2 hS a_c14) (gL_sound_X7_count) rfl (nA0 := 1) (by decide +kernel) rfl ⟨Nat.le_of_ble_eq_true rfl, Nat.le_of_ble_eq_true rfl⟩ ⟨Nat.le_of_ble_eq_true rfl, Nat.le_of_ble_eq_true rfl⟩ hl rfl (Nat.le_of_ble_eq_true rfl) dL_sound_308 (fun H locs w => ?_)
          refine r_zlt (tgt := 344) F dL_sound_311 (by decide) (by omega) ?_
          refine lv_aload_n F.1 F.2.1 dL_sound_314 rfl (lv_at hl 8 rfl) ?_
          refine lv_bipush (v := nI 20) F.1 F.2.1 dL_sound_315 (by decide) ?_
          refine k_call (As := [.int (nI 20)]) (rest := []) hf hX F w (k_count l G a1 a2 a3 q0 v0 q1 v1 q2 v2 hS a_c20) (gL_sound_X7_count) rfl (nA0 := 1) (by decide +kernel) rfl ⟨Nat.le_of_ble_eq_true rfl, Nat.le_of_ble_eq_true rfl⟩ ⟨Nat.le_of_ble_eq_true rfl, Nat.le_of_ble_eq_true rfl⟩ hl rfl (Nat.le_of_ble_eq_true rfl) dL_sound_317 (fun H locs w => ?_)
          refine lv_aload_n F.1 F.2.1 dL_sound_320 rfl (lv_at hl 8 rfl) ?_
          refine lv_bipush (v := nI 18) F.1 F.2.1 dL_sound_321 (by decide) ?_
          refine k_call (As := [.int (nI 18)]) (rest := [.int (nI (P 18))]) hf hX F w (k_count l G a1 a2 a3 q0 v0 q1 v1 q2 v2 hS a_c18) (gL_sound_X7_count) rfl (nA0 := 1) (by decide +kernel) rfl ⟨Nat.le_of_ble_eq_true rfl, Nat.le_of_ble_eq_true rfl⟩ ⟨Nat.le_of_ble_eq_true rfl, Nat.le_of_ble_eq_true rfl⟩ hl rfl (Nat.le_of_ble_eq_true rfl) dL_sound_323 (fun H locs w => ?_)
          refine r_cgt (tgt := 344) F dL_sound_326 (by decide) (by omega) (by omega) (fun c326 => by exfalso; omega) (fun c326 => ?_)
          refine lv_aload_n F.1 F.2.1 dL_sound_329 rfl (lv_at hl 8 rfl) ?_
          refine lv_bipush (v := nI 16) F.1 F.2.1 dL_sound_330 (by decide) ?_
          refine k_call (As := [.int (nI 16)]) (rest := []) hf hX F w (k_count l G a1 a2 a3 q0 v0 q1 v1 q2 v2 hS a_c16) (gL_sound_X7_count) rfl (nA0 := 1) (by decide +kernel) rfl ⟨Nat.le_of_ble_eq_true rfl, Nat.le_of_ble_eq_true rfl⟩ ⟨Nat.le_of_ble_eq_true rfl, Nat.le_of_ble_eq_true rfl⟩ hl rfl (Nat.le_of_ble_eq_true rfl) dL_sound_332 (fun H locs w => ?_)
          refine lv_bipush (v := nI 40) F.1 F.2.1 dL_sound_335 (by decide) ?_
          refine r_cgt (tgt := 344) F dL_sound_337 (by decide) (by omega) (by decide) (fun c337 => by exfalso; omega) (fun c337 => ?_)
          refine lv_iconst (v := nI 1) F.1 F.2.1 dL_sound_340 (by decide) ?_
          refine lv_goto (tgt := 345) F.1 F.2.1 dL_sound_341 (by decide) ?_
          refine lv_istore (lv' := [(8, .int (nI 1)), (7, .int (nI (lsF P 4 4))), (6, .int (nI (lsF P 0 4))), (5, .int (nI (lsF P 3 4))), (4, .int (nI (top P))), (3, .int (nI (P 20 + P 21))), (2, .int (nI (toldF P))), (1, .int (nI (P 9))), (0, .ref b)]) F.1 F.2.1 dL_sound_345 hl (by decide) rfl (fun ls hl => ?_)
          refine lv_aload_n F.1 F.2.1 dL_sound_347 rfl (lv_at hl 8 rfl) ?_
          refine lv_bipush (v := nI 17) F.1 F.2.1 dL_sound_348 (by decide) ?_
          refine k_call (As := [.int (nI 17)]) (rest := []) hf hX F w (k_count l G a1 a2 a3 q0 v0 q1 v1 q2 v2 hS a_c17) (gL_sound_X7_count) rfl (nA0 := 1) (by decide +kernel) rfl ⟨Nat.le_of_ble_eq_true rfl, Nat.le_of_ble_eq_true rfl⟩ ⟨Nat.le_of_ble_eq_true rfl, Nat.le_of_ble_eq_true rfl⟩ hl rfl (Nat.le_of_ble_eq_true rfl) dL_sound_350 (fun H locs w => ?_)
          refine r_to (y := nI (P 15 + vsF P 0)) (rfl) ?_
          refine lv_istore (lv' := [(9, .int (nI (P 15 + vsF P 0))), (8, .int (nI 1)), (7, .int (nI (lsF P 4 4))), (6, .int (nI (lsF P 0 4))), (5, .int (nI (lsF P 3 4))), (4, .int (nI (top P))), (3, .int (nI (P 20 + P 21))), (2, .int (nI (toldF P))), (1, .int (nI (P 9))), (0, .ref b)]) F.1 F.2.1 dL_sound_353 hl (by decide) rfl (fun ls hl => ?_)
          refine lv_iconst (v := nI 0) F.1 F.2.1 dL_sound_355 (by decide) ?_
          refine r_to (y := nI (pdF P 0)) (rfl) ?_
          refine lv_istore (lv' := [(10, .int (nI (pdF P 0))), (9, .int (nI (P 15 + vsF P 0))), (8, .int (nI 1)), (7, .int (nI (lsF P 4 4))), (6, .int (nI (lsF P 0 4))), (5, .int (nI (lsF P 3 4))), (4, .int (nI (top P))), (3, .int (nI (P 20 + P 21))), (2, .int (nI (toldF P))), (1, .int (nI (P 9))), (0, .ref b)]) F.1 F.2.1 dL_sound_356 hl (by decide) rfl (fun ls hl => ?_)
          refine lv_iconst (v := nI 0) F.1 F.2.1 dL_sound_358 (by decide) ?_
          refine r_to (y := nI (ptF P 0)) (rfl) ?_
          refine lv_istore (lv' := [(11, .int (nI (ptF P 0))), (10, .int (nI (pdF P 0))), (9, .int (nI (P 15 + vsF P 0))), (8, .int (nI 1)), (7, .int (nI (lsF P 4 4))), (6, .int (nI (lsF P 0 4))), (5, .int (nI (lsF P 3 4))), (4, .int (nI (top P))), (3, .int (nI (P 20 + P 21))), (2, .int (nI (toldF P))), (1, .int (nI (P 9))), (0, .ref b)]) F.1 F.2.1 dL_sound_359 hl (by decide) rfl (fun ls hl => ?_)
          refine lv_iconst (v := nI 0) F.1 F.2.1 dL_sound_361 (by decide) ?_
          refine lv_istore (lv' := [(12, .int (nI 0)), (11, .int (nI (ptF P 0))), (10, .int (nI (pdF P 0))), (9, .int (nI (P 15 + vsF P 0))), (8, .int (nI 1)), (7, .int (nI (lsF P 4 4))), (6, .int (nI (lsF P 0 4))), (5, .int (nI (lsF P 3 4))), (4, .int (nI (top P))), (3, .int (nI (P 20 + P 21))), (2, .int (nI (toldF P))), (1, .int (nI (P 9))), (0, .ref b)]) F.1 F.2.1 dL_sound_362 hl (by decide) rfl (fun ls hl => ?_)
          have L364 : ∀ (N k : Nat), P 14 - k < N → k ≤ P 14 → ∀ (H : Heap) (locs : List Loc), CW G s (va_A ws s.heap.size) H locs b P n h → ∀ ls : Array Slot, lv_has ls 13 [(12, .int (nI k)), (11, .int (nI (ptF P k))), (10, .int (nI (pdF P k))), (9, .int (nI (P 15 + vsF P k))), (8, .int (nI 1)), (2, .int (nI (toldF P))), (0, .ref b)] → W p l e (rmK 4 0 0) s m args below meth c H locs 0 0 (MQ below (QI G ws s.heap.size (fun r v => r = nI 1 ∧ (CS G b P 0 (fun _ => 0) n h) v)) args s 0 0 (va_A ws s.heap.size)) (F0 m 364 ls []) := by
            intro N
            induction N with
            | zero => intro k hm; exact absurd hm (Nat.not_lt_zero _)
            | succ N ih364 =>
              intro k hm hk4 H locs w ls hl
              refine lv_iload F.1 F.2.1 dL_sound_364 (lv_at hl 0 rfl) ?_
              refine lv_aload_n F.1 F.2.1 dL_sound_366 rfl (lv_at hl 6 rfl) ?_
              refine lv_bipush (v := nI 16) F.1 F.2.1 dL_sound_367 (by decide) ?_
              refine k_call (As := [.int (nI 16)]) (rest := [.int (nI k)]) hf hX F w (k_count l G a1 a2 a3 q0 v0 q1 v1 q2 v2 hS a_c16) (gL_sound_X7_count) rfl (nA0 := 1) (by decide +kernel) rfl ⟨Nat.le_of_ble_eq_true rfl, Nat.le_of_ble_eq_true rfl⟩ ⟨Nat.le_of_ble_eq_true rfl, Nat.le_of_ble_eq_true rfl⟩ hl rfl (Nat.le_of_ble_eq_true rfl) dL_sound_369 (fun H locs w => ?_)
              refine r_cge (tgt := 488) F dL_sound_372 (by decide) (by omega) (by omega) (fun c372 => ?_) (fun c372 => ?_)
              · skip
                have hk : k = P 14 := by omega
                subst hk
                have fv8 := hJ.2.1
                refine lv_iload F.1 F.2.1 dL_sound_488 (lv_at hl 4 rfl) ?_
                refine r_zeq (tgt := 522) F dL_sound_490 (by decide) (by decide) (fun c490 => by exfalso; omega) (fun c490 => ?_)
                refine lv_iload F.1 F.2.1 dL_sound_493 (lv_at hl 3 rfl) ?_
                refine lv_aload_n F.1 F.2.1 dL_sound_495 rfl (lv_at hl 6 rfl) ?_
                refine lv_iconst (v := nI 1) F.1 F.2.1 dL_sound_496 (by decide) ?_
                refine k_call (As := [.int (nI 1)]) (rest := [.int (nI (P 15 + vsF P (P 14)))]) hf hX F w (k_account l G a1 a2 a3 q0 v0 q1 v1 q2 v2 hS a_a1) (gL_sound_X7_account) rfl (nA0 := 1) (by decide +kernel) rfl ⟨Nat.le_of_ble_eq_true rfl, Nat.le_of_ble_eq_true rfl⟩ ⟨Nat.le_of_ble_eq_true rfl, Nat.le_of_ble_eq_true rfl⟩ hl rfl (Nat.le_of_ble_eq_true rfl) dL_sound_497 (fun H locs w => ?_)
                refine r_cne (tgt := 522) F dL_sound_500 (by decide) (by omega) (by omega) (fun c500 => by exfalso; omega) (fun c500 => ?_)
                refine lv_aload_n F.1 F.2.1 dL_sound_503 rfl (lv_at hl 6 rfl) ?_
                refine lv_aload_n F.1 F.2.1 dL_sound_504 rfl (lv_at hl 6 rfl) ?_
                refine lv_bipush (v := nI 16) F.1 F.2.1 dL_sound_505 (by decide) ?_
                refine k_call (As := [.int (nI 16)]) (rest := [.ref b]) hf hX F w (k_count l G a1 a2 a3 q0 v0 q1 v1 q2 v2 hS a_c16) (gL_sound_X7_count) rfl (nA0 := 1) (by decide +kernel) rfl ⟨Nat.le_of_ble_eq_true rfl, Nat.le_of_ble_eq_true rfl⟩ ⟨Nat.le_of_ble_eq_true rfl, Nat.le_of_ble_eq_true rfl⟩ hl rfl (Nat.le_of_ble_eq_true rfl) dL_sound_507 (fun H locs w => ?_)
                refine lv_iconst (v := nI 0) F.1 F.2.1 dL_sound_510 (by decide) ?_
                refine k_call (As := [.int (nI (P 14)), .int (nI 0)]) (rest := []) hf hX F w (k_vial l G a1 a2 a3 q0 v0 q1 v1 q2 v2 hS (a_vX (by omega))) (gL_sound_X7_vial) rfl (nA0 := 2) (by decide +kernel) rfl ⟨Nat.le_of_ble_eq_true rfl, Nat.le_of_ble_eq_true rfl⟩ ⟨Nat.le_of_ble_eq_true rfl, Nat.le_of_ble_eq_true rfl⟩ hl rfl (Nat.le_of_ble_eq_true rfl) dL_sound_511 (fun H locs w => ?_)
                refine lv_iconst (v := (-1)) F.1 F.2.1 dL_sound_514 (by decide) ?_
                refine lv_icmp_ne (tgt := 522) F.1 F.2.1 dL_sound_515 (by decide) (fun q => absurd rfl q) (fun _ => ?_)
                refine lv_iconst (v := nI 1) F.1 F.2.1 dL_sound_518 (by decide) ?_
                refine lv_goto (tgt := 523) F.1 F.2.1 dL_sound_519 (by decide) ?_
                obtain ⟨ws', hc', w'⟩ := w
                exact r_zreturn F w' dL_sound_523 rfl ⟨rfl, hc'⟩
              · skip
                obtain ⟨fv1, fv2, fv3, fv4, fv5, fv6⟩ := V_facts hS hJ (v := k) (by omega)
                have fv7 : vsF P k + P (126 + 3 * k) ≤ P 20 := by have z1 := hJ.2.1; have z2 := vsF_up P (show k + 1 ≤ P 14 by omega); have z3 : vsF P (k + 1) = vsF P k + P (126 + 3 * k) := rfl; omega
                refine lv_iload F.1 F.2.1 dL_sound_375 (lv_at hl 3 rfl) ?_
                refine lv_aload_n F.1 F.2.1 dL_sound_377 rfl (lv_at hl 6 rfl) ?_
                refine lv_iload F.1 F.2.1 dL_sound_378 (lv_at hl 0 rfl) ?_
                refine lv_iconst (v := nI 0) F.1 F.2.1 dL_sound_380 (by decide) ?_
                refine k_call (As := [.int (nI k), .int (nI 0)]) (rest := [.int (nI (P 15 + vsF P k))]) hf hX F w (k_vial l G a1 a2 a3 q0 v0 q1 v1 q2 v2 hS (a_v0 (v := k) (by omega) (by omega))) (gL_sound_X7_vial) rfl (nA0 := 2) (by decide +kernel) rfl ⟨Nat.le_of_ble_eq_true rfl, Nat.le_of_ble_eq_true rfl⟩ ⟨Nat.le_of_ble_eq_true rfl, Nat.le_of_ble_eq_true rfl⟩ hl rfl (Nat.le_of_ble_eq_true rfl) dL_sound_381 (fun H locs w => ?_)
                refine r_iadd F dL_sound_384 ?_
                refine r_to (y := nI (P 15 + vsF P (k + 1))) (congrArg nI (Nat.add_assoc _ _ _)) ?_
                refine lv_istore (lv' := [(9, .int (nI (P 15 + vsF P (k + 1)))), (12, .int (nI k)), (11, .int (nI (ptF P k))), (10, .int (nI (pdF P k))), (8, .int (nI 1)), (2, .int (nI (toldF P))), (0, .ref b)]) F.1 F.2.1 dL_sound_385 hl (by decide) rfl (fun ls hl => ?_)
                refine lv_aload_n F.1 F.2.1 dL_sound_387 rfl (lv_at hl 6 rfl) ?_
                refine lv_iload F.1 F.2.1 dL_sound_388 (lv_at hl 1 rfl) ?_
                refine lv_iconst (v := nI 0) F.1 F.2.1 dL_sound_390 (by decide) ?_
                refine k_call (As := [.int (nI k), .int (nI 0)]) (rest := []) hf hX F w (k_vial l G a1 a2 a3 q0 v0 q1 v1 q2 v2 hS (a_v0 (v := k) (by omega) (by omega))) (gL_sound_X7_vial) rfl (nA0 := 2) (by decide +kernel) rfl ⟨Nat.le_of_ble_eq_true rfl, Nat.le_of_ble_eq_true rfl⟩ ⟨Nat.le_of_ble_eq_true rfl, Nat.le_of_ble_eq_true rfl⟩ hl rfl (Nat.le_of_ble_eq_true rfl) dL_sound_391 (fun H locs w => ?_)
                refine lv_bipush (v := nI 50) F.1 F.2.1 dL_sound_394 (by decide) ?_
                refine r_clt (tgt := 462) F dL_sound_396 (by decide) (by omega) (by decide) (fun c396 => by exfalso; omega) (fun c396 => ?_)
                refine lv_aload_n F.1 F.2.1 dL_sound_399 rfl (lv_at hl 6 rfl) ?_
                refine lv_iload F.1 F.2.1 dL_sound_400 (lv_at hl 1 rfl) ?_
                refine lv_iconst (v := nI 2) F.1 F.2.1 dL_sound_402 (by decide) ?_
                refine k_call (As := [.int (nI k), .int (nI 2)]) (rest := []) hf hX F w (k_vial l G a1 a2 a3 q0 v0 q1 v1 q2 v2 hS (a_v2 (v := k) (by omega) (by omega))) (gL_sound_X7_vial) rfl (nA0 := 2) (by decide +kernel) rfl ⟨Nat.le_of_ble_eq_true rfl, Nat.le_of_ble_eq_true rfl⟩ ⟨Nat.le_of_ble_eq_true rfl, Nat.le_of_ble_eq_true rfl⟩ hl rfl (Nat.le_of_ble_eq_true rfl) dL_sound_403 (fun H locs w => ?_)
                refine lv_iload F.1 F.2.1 dL_sound_406 (lv_at hl 3 rfl) ?_
                refine r_cne (tgt := 462) F dL_sound_408 (by decide) (by omega) (by omega) (fun c408 => by exfalso; omega) (fun c408 => ?_)
                refine lv_aload_n F.1 F.2.1 dL_sound_411 rfl (lv_at hl 6 rfl) ?_
                refine lv_iload F.1 F.2.1 dL_sound_412 (lv_at hl 1 rfl) ?_
                refine lv_iconst (v := nI 1) F.1 F.2.1 dL_sound_414 (by decide) ?_
                refine k_call (As := [.int (nI k), .int (nI 1)]) (rest := []) hf hX F w (k_vial l G a1 a2 a3 q0 v0 q1 v1 q2 v2 hS (a_v1 (v := k) (by omega) (by omega))) (gL_sound_X7_vial) rfl (nA0 := 2) (by decide +kernel) rfl ⟨Nat.le_of_ble_eq_true rfl, Nat.le_of_ble_eq_true rfl⟩ ⟨Nat.le_of_ble_eq_true rfl, Nat.le_of_ble_eq_true rfl⟩ hl rfl (Nat.le_of_ble_eq_true rfl) dL_sound_415 (fun H locs w => ?_)
                refine lv_iload F.1 F.2.1 dL_sound_418 (lv_at hl 3 rfl) ?_
                refine r_clt (tgt := 462) F dL_sound_420 (by decide) (by omega) (by omega) (fun c420 => by exfalso; omega) (fun c420 => ?_)
                refine lv_aload_n F.1 F.2.1 dL_sound_423 rfl (lv_at hl 6 rfl) ?_
                refine lv_iload F.1 F.2.1 dL_sound_424 (lv_at hl 1 rfl) ?_
                refine lv_iconst (v := nI 1) F.1 F.2.1 dL_sound_426 (by decide) ?_
                refine k_call (As := [.int (nI k), .int (nI 1)]) (rest := []) hf hX F w (k_vial l G a1 a2 a3 q0 v0 q1 v1 q2 v2 hS (a_v1 (v := k) (by omega) (by omega))) (gL_sound_X7_vial) rfl (nA0 := 2) (by decide +kernel) rfl ⟨Nat.le_of_ble_eq_true rfl, Nat.le_of_ble_eq_true rfl⟩ ⟨Nat.le_of_ble_eq_true rfl, Nat.le_of_ble_eq_true rfl⟩ hl rfl (Nat.le_of_ble_eq_true rfl) dL_sound_427 (fun H locs w => ?_)
                refine lv_iload_n F.1 F.2.1 dL_sound_430 rfl (lv_at hl 5 rfl) ?_
                refine r_cgt (tgt := 462) F dL_sound_431 (by decide) (by omega) (by omega) (fun c431 => by exfalso; omega) (fun c431 => ?_)
                refine lv_aload_n F.1 F.2.1 dL_sound_434 rfl (lv_at hl 6 rfl) ?_
                refine lv_iload F.1 F.2.1 dL_sound_435 (lv_at hl 1 rfl) ?_
                refine lv_iconst (v := nI 3) F.1 F.2.1 dL_sound_437 (by decide) ?_
                refine k_call (As := [.int (nI k), .int (nI 3)]) (rest := []) hf hX F w (k_vial l G a1 a2 a3 q0 v0 q1 v1 q2 v2 hS (a_v3 (v := k) (by omega) (by omega))) (gL_sound_X7_vial) rfl (nA0 := 2) (by decide +kernel) rfl ⟨Nat.le_of_ble_eq_true rfl, Nat.le_of_ble_eq_true rfl⟩ ⟨Nat.le_of_ble_eq_true rfl, Nat.le_of_ble_eq_true rfl⟩ hl rfl (Nat.le_of_ble_eq_true rfl) dL_sound_438 (fun H locs w => ?_)
                refine lv_iload F.1 F.2.1 dL_sound_441 (lv_at hl 2 rfl) ?_
                refine r_cle (tgt := 462) F dL_sound_443 (by decide) (by omega) (by omega) (fun c443 => by exfalso; omega) (fun c443 => ?_)
                refine lv_aload_n F.1 F.2.1 dL_sound_446 rfl (lv_at hl 6 rfl) ?_
                refine lv_iload F.1 F.2.1 dL_sound_447 (lv_at hl 1 rfl) ?_
                refine lv_iconst (v := nI 3) F.1 F.2.1 dL_sound_449 (by decide) ?_
                refine k_call (As := [.int (nI k), .int (nI 3)]) (rest := []) hf hX F w (k_vial l G a1 a2 a3 q0 v0 q1 v1 q2 v2 hS (a_v3 (v := k) (by omega) (by omega))) (gL_sound_X7_vial) rfl (nA0 := 2) (by decide +kernel) rfl ⟨Nat.le_of_ble_eq_true rfl, Nat.le_of_ble_eq_true rfl⟩ ⟨Nat.le_of_ble_eq_true rfl, Nat.le_of_ble_eq_true rfl⟩ hl rfl (Nat.le_of_ble_eq_true rfl) dL_sound_450 (fun H locs w => ?_)
                refine lv_aload_n F.1 F.2.1 dL_sound_453 rfl (lv_at hl 6 rfl) ?_
                refine lv_bipush (v := nI 18) F.1 F.2.1 dL_sound_454 (by decide) ?_
                refine k_call (As := [.int (nI 18)]) (rest := [.int (nI (P (126 + 3 * k + 2)))]) hf hX F w (k_count l G a1 a2 a3 q0 v0 q1 v1 q2 v2 hS a_c18) (gL_sound_X7_count) rfl (nA0 := 1) (by decide +kernel) rfl ⟨Nat.le_of_ble_eq_true rfl, Nat.le_of_ble_eq_true rfl⟩ ⟨Nat.le_of_ble_eq_true rfl, Nat.le_of_ble_eq_true rfl⟩ hl rfl (Nat.le_of_ble_eq_true rfl) dL_sound_456 (fun H locs w => ?_)
                refine r_cle (tgt := 464) F dL_sound_459 (by decide) (by omega) (by omega) (fun c459 => ?_) (fun c459 => by exfalso; omega)
                refine lv_aload_n F.1 F.2.1 dL_sound_464 rfl (lv_at hl 6 rfl) ?_
                refine lv_iload F.1 F.2.1 dL_sound_465 (lv_at hl 1 rfl) ?_
                refine lv_iconst (v := nI 1) F.1 F.2.1 dL_sound_467 (by decide) ?_
                refine k_call (As := [.int (nI k), .int (nI 1)]) (rest := []) hf hX F w (k_vial l G a1 a2 a3 q0 v0 q1 v1 q2 v2 hS (a_v1s (v := k) (by omega) (by omega))) (gL_sound_X7_vial) rfl (nA0 := 2) (by decide +kernel) rfl ⟨Nat.le_of_ble_eq_true rfl, Nat.le_of_ble_eq_true rfl⟩ ⟨Nat.le_of_ble_eq_true rfl, Nat.le_of_ble_eq_true rfl⟩ hl rfl (Nat.le_of_ble_eq_true rfl) dL_sound_468 (fun H locs w => ?_)
                refine lv_istore (lv' := [(10, .int (nI (pdF P (k + 1)))), (9, .int (nI (P 15 + vsF P (k + 1)))), (12, .int (nI k)), (11, .int (nI (ptF P k))), (8, .int (nI 1)), (2, .int (nI (toldF P))), (0, .ref b)]) F.1 F.2.1 dL_sound_471 hl (by decide) rfl (fun ls hl => ?_)
                refine lv_aload_n F.1 F.2.1 dL_sound_473 rfl (lv_at hl 6 rfl) ?_
                refine lv_iload F.1 F.2.1 dL_sound_474 (lv_at hl 2 rfl) ?_
                refine lv_iconst (v := nI 3) F.1 F.2.1 dL_sound_476 (by decide) ?_
                refine k_call (As := [.int (nI k), .int (nI 3)]) (rest := []) hf hX F w (k_vial l G a1 a2 a3 q0 v0 q1 v1 q2 v2 hS (a_v3s (v := k) (by omega) (by omega))) (gL_sound_X7_vial) rfl (nA0 := 2) (by decide +kernel) rfl ⟨Nat.le_of_ble_eq_true rfl, Nat.le_of_ble_eq_true rfl⟩ ⟨Nat.le_of_ble_eq_true rfl, Nat.le_of_ble_eq_true rfl⟩ hl rfl (Nat.le_of_ble_eq_true rfl) dL_sound_477 (fun H locs w => ?_)
                refine lv_istore (lv' := [(11, .int (nI (ptF P (k + 1)))), (10, .int (nI (pdF P (k + 1)))), (9, .int (nI (P 15 + vsF P (k + 1)))), (12, .int (nI k)), (8, .int (nI 1)), (2, .int (nI (toldF P))), (0, .ref b)]) F.1 F.2.1 dL_sound_480 hl (by decide) rfl (fun ls hl => ?_)
                refine lv_iinc (v := nI (k + 1)) (lv' := [(12, .int (nI (k + 1))), (11, .int (nI (ptF P (k + 1)))), (10, .int (nI (pdF P (k + 1)))), (9, .int (nI (P 15 + vsF P (k + 1)))), (8, .int (nI 1)), (2, .int (nI (toldF P))), (0, .ref b)]) F.1 F.2.1 dL_sound_482 hl (k := 3) rfl (nI_add _ _) (by decide) rfl (fun ls hl => ?_)
                refine lv_goto (tgt := 364) F.1 F.2.1 dL_sound_485 (by decide) ?_
                exact ih364 (k + 1) (by omega) (by omega) H locs w ls (lv_sub hl [0, 1, 2, 3, 4, 5, 6] rfl)
          exact L364 _ 0 (Nat.lt_succ_self _) (Nat.zero_le _) H locs w ls (lv_sub hl [0, 1, 2, 3, 4, 10, 12] rfl)
        refine lv_iload_n F.1 F.2.1 dL_sound_235 rfl (lv_at hl 6 rfl) ?_
        refine lv_iload_n F.1 F.2.1 dL_sound_236 rfl (lv_at hl 7 rfl) ?_
        refine r_ceq (tgt := 251) F dL_sound_237 (by decide) (by omega) (by omega) (fun c237 => ?_) (fun c237 => ?_)
        · skip
          exact L251 H locs w ls hl
        · skip
          have fw4 := wF_b hI (toldF P + 1)
          refine lv_aload_n F.1 F.2.1 dL_sound_240 rfl (lv_at hl 8 rfl) ?_
          refine lv_iload_n F.1 F.2.1 dL_sound_241 rfl (lv_at hl 6 rfl) ?_
          refine lv_iconst (v := nI 1) F.1 F.2.1 dL_sound_242 (by decide) ?_
          refine r_iadd F dL_sound_243 ?_
          refine k_call (As := [.int (nI ((toldF P) + 1))]) (rest := []) hf hX F w (k_waterBelow l G a1 a2 a3 q0 v0 q1 v1 q2 v2 hS (a_w (d := (toldF P) + 1) (by omega) (by omega))) (gL_sound_X7_waterBelow) rfl (nA0 := 1) (by decide +kernel) rfl ⟨Nat.le_of_ble_eq_true rfl, Nat.le_of_ble_eq_true rfl⟩ ⟨Nat.le_of_ble_eq_true rfl, Nat.le_of_ble_eq_true rfl⟩ hl rfl (Nat.le_of_ble_eq_true rfl) dL_sound_244 (fun H locs w => ?_)
          refine lv_iload_n F.1 F.2.1 dL_sound_247 rfl (lv_at hl 5 rfl) ?_
          refine r_cle (tgt := 344) F dL_sound_248 (by decide) (by omega) (by omega) (fun c248 => by exfalso; omega) (fun c248 => ?_)
          exact L251 H locs w ls hl
      · skip
        obtain ⟨fl0, fl1, fl2, fl3, fl4⟩ := L_facts hS hJ (i := k) (by omega)
        refine lv_iload F.1 F.2.1 dL_sound_52 (lv_at hl 3 rfl) ?_
        refine lv_aload_n F.1 F.2.1 dL_sound_54 rfl (lv_at hl 8 rfl) ?_
        refine lv_iload F.1 F.2.1 dL_sound_55 (lv_at hl 0 rfl) ?_
        refine lv_iconst (v := nI 3) F.1 F.2.1 dL_sound_57 (by decide) ?_
        refine k_call (As := [.int (nI k), .int (nI 3)]) (rest := [.int (nI (lsF P 3 k))]) hf hX F w (k_line l G a1 a2 a3 q0 v0 q1 v1 q2 v2 hS (a_l3 (i := k) (by omega))) (gL_sound_X7_line) rfl (nA0 := 2) (by decide +kernel) rfl ⟨Nat.le_of_ble_eq_true rfl, Nat.le_of_ble_eq_true rfl⟩ ⟨Nat.le_of_ble_eq_true rfl, Nat.le_of_ble_eq_true rfl⟩ hl rfl (Nat.le_of_ble_eq_true rfl) dL_sound_58 (fun H locs w => ?_)
        refine r_iadd F dL_sound_61 ?_
        refine lv_istore (lv' := [(5, .int (nI ((lsF P 3 k) + (P (26 + 5 * k + 3))))), (8, .int (nI k)), (7, .int (nI (lsF P 4 k))), (6, .int (nI (lsF P 0 k))), (4, .int (nI (top P))), (3, .int (nI (P 20 + P 21))), (2, .int (nI (toldF P))), (1, .int (nI (P 9))), (0, .ref b)]) F.1 F.2.1 dL_sound_62 hl (by decide) rfl (fun ls hl => ?_)
        refine lv_iload F.1 F.2.1 dL_sound_64 (lv_at hl 2 rfl) ?_
        refine lv_aload_n F.1 F.2.1 dL_sound_66 rfl (lv_at hl 8 rfl) ?_
        refine lv_iload F.1 F.2.1 dL_sound_67 (lv_at hl 1 rfl) ?_
        refine lv_iconst (v := nI 4) F.1 F.2.1 dL_sound_69 (by decide) ?_
        refine k_call (As := [.int (nI k), .int (nI 4)]) (rest := [.int (nI (lsF P 4 k))]) hf hX F w (k_line l G a1 a2 a3 q0 v0 q1 v1 q2 v2 hS (a_l4 (i := k) (by omega))) (gL_sound_X7_line) rfl (nA0 := 2) (by decide +kernel) rfl ⟨Nat.le_of_ble_eq_true rfl, Nat.le_of_ble_eq_true rfl⟩ ⟨Nat.le_of_ble_eq_true rfl, Nat.le_of_ble_eq_true rfl⟩ hl rfl (Nat.le_of_ble_eq_true rfl) dL_sound_70 (fun H locs w => ?_)
        refine r_iadd F dL_sound_73 ?_
        refine lv_istore (lv' := [(7, .int (nI ((lsF P 4 k) + (P (26 + 5 * k + 4))))), (5, .int (nI ((lsF P 3 k) + (P (26 + 5 * k + 3))))), (8, .int (nI k)), (6, .int (nI (lsF P 0 k))), (4, .int (nI (top P))), (3, .int (nI (P 20 + P 21))), (2, .int (nI (toldF P))), (1, .int (nI (P 9))), (0, .ref b)]) F.1 F.2.1 dL_sound_74 hl (by decide) rfl (fun ls hl => ?_)
        refine lv_iload F.1 F.2.1 dL_sound_76 (lv_at hl 3 rfl) ?_
        refine lv_aload_n F.1 F.2.1 dL_sound_78 rfl (lv_at hl 8 rfl) ?_
        refine lv_iload F.1 F.2.1 dL_sound_79 (lv_at hl 2 rfl) ?_
        refine lv_iconst (v := nI 0) F.1 F.2.1 dL_sound_81 (by decide) ?_
        refine k_call (As := [.int (nI k), .int (nI 0)]) (rest := [.int (nI (lsF P 0 k))]) hf hX F w (k_line l G a1 a2 a3 q0 v0 q1 v1 q2 v2 hS (a_l0 (i := k) (by omega))) (gL_sound_X7_line) rfl (nA0 := 2) (by decide +kernel) rfl ⟨Nat.le_of_ble_eq_true rfl, Nat.le_of_ble_eq_true rfl⟩ ⟨Nat.le_of_ble_eq_true rfl, Nat.le_of_ble_eq_true rfl⟩ hl rfl (Nat.le_of_ble_eq_true rfl) dL_sound_82 (fun H locs w => ?_)
        refine r_iadd F dL_sound_85 ?_
        refine lv_istore (lv' := [(6, .int (nI ((lsF P 0 k) + (P (26 + 5 * k))))), (7, .int (nI ((lsF P 4 k) + (P (26 + 5 * k + 4))))), (5, .int (nI ((lsF P 3 k) + (P (26 + 5 * k + 3))))), (8, .int (nI k)), (4, .int (nI (top P))), (3, .int (nI (P 20 + P 21))), (2, .int (nI (toldF P))), (1, .int (nI (P 9))), (0, .ref b)]) F.1 F.2.1 dL_sound_86 hl (by decide) rfl (fun ls hl => ?_)
        refine lv_aload_n F.1 F.2.1 dL_sound_88 rfl (lv_at hl 8 rfl) ?_
        refine lv_iload F.1 F.2.1 dL_sound_89 (lv_at hl 3 rfl) ?_
        refine lv_iconst (v := nI 1) F.1 F.2.1 dL_sound_91 (by decide) ?_
        refine k_call (As := [.int (nI k), .int (nI 1)]) (rest := []) hf hX F w (k_line l G a1 a2 a3 q0 v0 q1 v1 q2 v2 hS (a_l1 (i := k) (by omega))) (gL_sound_X7_line) rfl (nA0 := 2) (by decide +kernel) rfl ⟨Nat.le_of_ble_eq_true rfl, Nat.le_of_ble_eq_true rfl⟩ ⟨Nat.le_of_ble_eq_true rfl, Nat.le_of_ble_eq_true rfl⟩ hl rfl (Nat.le_of_ble_eq_true rfl) dL_sound_92 (fun H locs w => ?_)
        refine r_zlt (tgt := 125) F dL_sound_95 (by decide) (by omega) ?_
        refine lv_aload_n F.1 F.2.1 dL_sound_98 rfl (lv_at hl 8 rfl) ?_
        refine lv_iload F.1 F.2.1 dL_sound_99 (lv_at hl 3 rfl) ?_
        refine lv_iconst (v := nI 2) F.1 F.2.1 dL_sound_101 (by decide) ?_
        refine k_call (As := [.int (nI k), .int (nI 2)]) (rest := []) hf hX F w (k_line l G a1 a2 a3 q0 v0 q1 v1 q2 v2 hS (a_l2 (i := k) (by omega))) (gL_sound_X7_line) rfl (nA0 := 2) (by decide +kernel) rfl ⟨Nat.le_of_ble_eq_true rfl, Nat.le_of_ble_eq_true rfl⟩ ⟨Nat.le_of_ble_eq_true rfl, Nat.le_of_ble_eq_true rfl⟩ hl rfl (Nat.le_of_ble_eq_true rfl) dL_sound_102 (fun H locs w => ?_)
        refine r_zlt (tgt := 125) F dL_sound_105 (by decide) (by omega) ?_
        refine lv_aload_n F.1 F.2.1 dL_sound_108 rfl (lv_at hl 8 rfl) ?_
        refine lv_iload F.1 F.2.1 dL_sound_109 (lv_at hl 3 rfl) ?_
        refine lv_iconst (v := nI 4) F.1 F.2.1 dL_sound_111 (by decide) ?_
        refine k_call (As := [.int (nI k), .int (nI 4)]) (rest := []) hf hX F w (k_line l G a1 a2 a3 q0 v0 q1 v1 q2 v2 hS (a_l4 (i := k) (by omega))) (gL_sound_X7_line) rfl (nA0 := 2) (by decide +kernel) rfl ⟨Nat.le_of_ble_eq_true rfl, Nat.le_of_ble_eq_true rfl⟩ ⟨Nat.le_of_ble_eq_true rfl, Nat.le_of_ble_eq_true rfl⟩ hl rfl (Nat.le_of_ble_eq_true rfl) dL_sound_112 (fun H locs w => ?_)
        refine lv_aload_n F.1 F.2.1 dL_sound_115 rfl (lv_at hl 8 rfl) ?_
        refine lv_iload F.1 F.2.1 dL_sound_116 (lv_at hl 3 rfl) ?_
        refine lv_iconst (v := nI 3) F.1 F.2.1 dL_sound_118 (by decide) ?_
        refine k_call (As := [.int (nI k), .int (nI 3)]) (rest := [.int (nI (P (26 + 5 * k + 4)))]) hf hX F w (k_line l G a1 a2 a3 q0 v0 q1 v1 q2 v2 hS (a_l3 (i := k) (by omega))) (gL_sound_X7_line) rfl (nA0 := 2) (by decide +kernel) rfl ⟨Nat.le_of_ble_eq_true rfl, Nat.le_of_ble_eq_true rfl⟩ ⟨Nat.le_of_ble_eq_true rfl, Nat.le_of_ble_eq_true rfl⟩ hl rfl (Nat.le_of_ble_eq_true rfl) dL_sound_119 (fun H locs w => ?_)
        refine r_cle (tgt := 127) F dL_sound_122 (by decide) (by omega) (by omega) (fun c122 => ?_) (fun c122 => by exfalso; omega)
        refine lv_iinc (v := nI (k + 1)) (lv' := [(8, .int (nI (k + 1))), (6, .int (nI ((lsF P 0 k) + (P (26 + 5 * k))))), (7, .int (nI ((lsF P 4 k) + (P (26 + 5 * k + 4))))), (5, .int (nI ((lsF P 3 k) + (P (26 + 5 * k + 3))))), (4, .int (nI (top P))), (3, .int (nI (P 20 + P 21))), (2, .int (nI (toldF P))), (1, .int (nI (P 9))), (0, .ref b)]) F.1 F.2.1 dL_sound_127 hl (k := 3) rfl (nI_add _ _) (by decide) rfl (fun ls hl => ?_)
        refine lv_goto (tgt := 46) F.1 F.2.1 dL_sound_130 (by decide) ?_
        exact ih46 (k + 1) (by omega) (by omega) H locs w ls (lv_sub hl [0, 2, 1, 3, 4, 5, 6, 7, 8] rfl)
  exact L46 _ 0 (Nat.lt_succ_self _) (by decide) H locs w ls (lv_sub hl [0, 1, 2, 3, 4, 5, 6, 7, 8] rfl)
