/-! ===== p25: the law's method segments ===== -/
set_option maxRecDepth 100000 in
set_option maxHeartbeats 8000000 in
theorem c_L_segments (l : Launch) (G : KG) (a1 a2 a3 q0 v0 q1 v1 q2 v2 : Nat) {P : Nat → Nat} {n : Nat} {h : Nat → Nat → Nat} (hS : SI P n h) (hJ : JI P) (x : Int32) (b : Nat) : KL l G (lawX a1 a2 a3 q0 v0 q1 v1 q2 v2) yL_segments wsL_segments 4 b [.int x] P n h (nI 1) (CS G b P 0 (fun _ => 0) n h) := by
  intro ws hc
  refine MetIX.by (cc := cL_segments) (nL := 7) (ret := some .boolean) (by decide +kernel) rfl (Nat.le_of_ble_eq_true rfl) ?_
  intro p e s m args below meth c F hX w ls hl
  have w : CW G s (va_A ws s.heap.size) s.heap [] b P n h := ⟨ws, hc, w⟩
  have hf := fine_law a1 a2 a3 q0 v0 q1 v1 q2 v2
  have hl : lv_has ls 7 [(0, .ref b), (1, .int x)] := hl
  have hI := hS.1
  obtain ⟨f8, f14, ft1, ft2, ft3, fd1, fd2, fd3, fw1, fw2, fw3, fb1, fb2, fb3, fb4, fb5, fb6, fc1, fc2, fc3, fc4, fn5, fs1, fs2⟩ := S_facts hS hJ
  refine lv_iconst (v := nI 0) F.1 F.2.1 dL_segments_0 (by decide) ?_
  refine lv_istore_n (lv' := [(2, .int (nI 0)), (0, .ref b), (1, .int x)]) F.1 F.2.1 dL_segments_1 rfl hl (by decide) rfl (fun ls hl => ?_)
  refine lv_iconst (v := nI 0) F.1 F.2.1 dL_segments_2 (by decide) ?_
  refine r_to (y := nI (min (P 9) (low (lnP P) 0))) (by rw [show min (P 9) (low (lnP P) 0) = 0 from Nat.min_zero _]) ?_
  refine lv_istore_n (lv' := [(3, .int (nI (min (P 9) (low (lnP P) 0)))), (2, .int (nI 0)), (0, .ref b), (1, .int x)]) F.1 F.2.1 dL_segments_3 rfl hl (by decide) rfl (fun ls hl => ?_)
  refine lv_iconst (v := nI 0) F.1 F.2.1 dL_segments_4 (by decide) ?_
  refine lv_istore (lv' := [(4, .int (nI 0)), (3, .int (nI (min (P 9) (low (lnP P) 0)))), (2, .int (nI 0)), (0, .ref b), (1, .int x)]) F.1 F.2.1 dL_segments_5 hl (by decide) rfl (fun ls hl => ?_)
  have L7 : ∀ (N k : Nat), P 8 - k < N → k ≤ P 8 → ∀ (H : Heap) (locs : List Loc), CW G s (va_A ws s.heap.size) H locs b P n h → ∀ ls : Array Slot, lv_has ls 7 [(4, .int (nI k)), (3, .int (nI (min (P 9) (low (lnP P) k)))), (2, .int (nI (low (lnP P) k))), (1, .int x), (0, .ref b)] → W p l e (rmK 4 0 0) s m args below meth c H locs 0 0 (MQ below (QI G ws s.heap.size (fun r v => r = nI 1 ∧ (CS G b P 0 (fun _ => 0) n h) v)) args s 0 0 (va_A ws s.heap.size)) (F0 m 7 ls []) := by
    intro N
    induction N with
    | zero => intro k hm; exact absurd hm (Nat.not_lt_zero _)
    | succ N ih7 =>
      intro k hm hk4 H locs w ls hl
      refine lv_iload F.1 F.2.1 dL_segments_7 (lv_at hl 0 rfl) ?_
      refine lv_aload_n F.1 F.2.1 dL_segments_9 rfl (lv_at hl 4 rfl) ?_
      refine lv_bipush (v := nI 8) F.1 F.2.1 dL_segments_10 (by decide) ?_
      refine k_call (As := [.int (nI 8)]) (rest := [.int (nI k)]) hf hX F w (k_count l G a1 a2 a3 q0 v0 q1 v1 q2 v2 hS a_c8) (gL_segments_X7_count) rfl (nA0 := 1) (by decide +kernel) rfl ⟨Nat.le_of_ble_eq_true rfl, Nat.le_of_ble_eq_true rfl⟩ ⟨Nat.le_of_ble_eq_true rfl, Nat.le_of_ble_eq_true rfl⟩ hl rfl (Nat.le_of_ble_eq_true rfl) dL_segments_12 (fun H locs w => ?_)
      refine r_cge (tgt := 179) F dL_segments_15 (by decide) (by omega) (by omega) (fun c15 => ?_) (fun c15 => ?_)
      · skip
        have hk : k = P 8 := by omega
        subst hk
        have gt : low (lnP P) (P 8) = top P := rfl
        have L269 : ∀ (H : Heap) (locs : List Loc), CW G s (va_A ws s.heap.size) H locs b P n h → ∀ ls : Array Slot, lv_has ls 7 [(6, .int (nI 1)), (3, .int (nI (min (P 9) (low (lnP P) (P 8))))), (2, .int (nI (low (lnP P) (P 8)))), (0, .ref b)] → W p l e (rmK 4 0 0) s m args below meth c H locs 0 0 (MQ below (QI G ws s.heap.size (fun r v => r = nI 1 ∧ (CS G b P 0 (fun _ => 0) n h) v)) args s 0 0 (va_A ws s.heap.size)) (F0 m 269 ls []) := by
          intro H locs w ls hl
          refine lv_iload F.1 F.2.1 dL_segments_269 (lv_at hl 0 rfl) ?_
          refine r_zeq (tgt := 334) F dL_segments_271 (by decide) (by decide) (fun c271 => by exfalso; omega) (fun c271 => ?_)
          refine lv_iload_n F.1 F.2.1 dL_segments_274 rfl (lv_at hl 2 rfl) ?_
          refine lv_aload_n F.1 F.2.1 dL_segments_275 rfl (lv_at hl 3 rfl) ?_
          refine lv_bipush (v := nI 9) F.1 F.2.1 dL_segments_276 (by decide) ?_
          refine k_call (As := [.int (nI 9)]) (rest := [.int (nI (low (lnP P) (P 8)))]) hf hX F w (k_count l G a1 a2 a3 q0 v0 q1 v1 q2 v2 hS a_c9) (gL_segments_X7_count) rfl (nA0 := 1) (by decide +kernel) rfl ⟨Nat.le_of_ble_eq_true rfl, Nat.le_of_ble_eq_true rfl⟩ ⟨Nat.le_of_ble_eq_true rfl, Nat.le_of_ble_eq_true rfl⟩ hl rfl (Nat.le_of_ble_eq_true rfl) dL_segments_278 (fun H locs w => ?_)
          refine r_cne (tgt := 334) F dL_segments_281 (by decide) (by omega) (by omega) (fun c281 => by exfalso; omega) (fun c281 => ?_)
          refine lv_iload_n F.1 F.2.1 dL_segments_284 rfl (lv_at hl 1 rfl) ?_
          refine lv_aload_n F.1 F.2.1 dL_segments_285 rfl (lv_at hl 3 rfl) ?_
          refine lv_bipush (v := nI 10) F.1 F.2.1 dL_segments_286 (by decide) ?_
          refine k_call (As := [.int (nI 10)]) (rest := [.int (nI (min (P 9) (low (lnP P) (P 8))))]) hf hX F w (k_count l G a1 a2 a3 q0 v0 q1 v1 q2 v2 hS a_c10) (gL_segments_X7_count) rfl (nA0 := 1) (by decide +kernel) rfl ⟨Nat.le_of_ble_eq_true rfl, Nat.le_of_ble_eq_true rfl⟩ ⟨Nat.le_of_ble_eq_true rfl, Nat.le_of_ble_eq_true rfl⟩ hl rfl (Nat.le_of_ble_eq_true rfl) dL_segments_288 (fun H locs w => ?_)
          refine r_cne (tgt := 334) F dL_segments_291 (by decide) (by omega) (by omega) (fun c291 => by exfalso; omega) (fun c291 => ?_)
          refine lv_aload_n F.1 F.2.1 dL_segments_294 rfl (lv_at hl 3 rfl) ?_
          refine lv_iload_n F.1 F.2.1 dL_segments_295 rfl (lv_at hl 2 rfl) ?_
          refine k_call (As := [.int (nI (low (lnP P) (P 8)))]) (rest := []) hf hX F w (k_segmentAt l G a1 a2 a3 q0 v0 q1 v1 q2 v2 hS (a_saX (d := low (lnP P) (P 8)) (by omega) (by omega))) (gL_segments_X7_segmentAt) rfl (nA0 := 1) (by decide +kernel) rfl ⟨Nat.le_of_ble_eq_true rfl, Nat.le_of_ble_eq_true rfl⟩ ⟨Nat.le_of_ble_eq_true rfl, Nat.le_of_ble_eq_true rfl⟩ hl rfl (Nat.le_of_ble_eq_true rfl) dL_segments_296 (fun H locs w => ?_)
          refine lv_bipush (v := (-4)) F.1 F.2.1 dL_segments_299 (by decide) ?_
          refine lv_icmp_ne (tgt := 334) F.1 F.2.1 dL_segments_301 (by decide) (fun q => absurd rfl q) (fun _ => ?_)
          refine lv_aload_n F.1 F.2.1 dL_segments_304 rfl (lv_at hl 3 rfl) ?_
          refine lv_iload_n F.1 F.2.1 dL_segments_305 rfl (lv_at hl 2 rfl) ?_
          refine lv_iconst (v := nI 1) F.1 F.2.1 dL_segments_306 (by decide) ?_
          refine r_iadd F dL_segments_307 ?_
          refine k_call (As := [.int (nI ((low (lnP P) (P 8)) + 1))]) (rest := []) hf hX F w (k_waterBelow l G a1 a2 a3 q0 v0 q1 v1 q2 v2 hS (a_wX (d := low (lnP P) (P 8) + 1) (by omega) (by omega))) (gL_segments_X7_waterBelow) rfl (nA0 := 1) (by decide +kernel) rfl ⟨Nat.le_of_ble_eq_true rfl, Nat.le_of_ble_eq_true rfl⟩ ⟨Nat.le_of_ble_eq_true rfl, Nat.le_of_ble_eq_true rfl⟩ hl rfl (Nat.le_of_ble_eq_true rfl) dL_segments_308 (fun H locs w => ?_)
          refine lv_iconst (v := (-1)) F.1 F.2.1 dL_segments_311 (by decide) ?_
          refine lv_icmp_ne (tgt := 334) F.1 F.2.1 dL_segments_312 (by decide) (fun q => absurd rfl q) (fun _ => ?_)
          refine lv_aload_n F.1 F.2.1 dL_segments_315 rfl (lv_at hl 3 rfl) ?_
          refine lv_aload_n F.1 F.2.1 dL_segments_316 rfl (lv_at hl 3 rfl) ?_
          refine lv_bipush (v := nI 8) F.1 F.2.1 dL_segments_317 (by decide) ?_
          refine k_call (As := [.int (nI 8)]) (rest := [.ref b]) hf hX F w (k_count l G a1 a2 a3 q0 v0 q1 v1 q2 v2 hS a_c8) (gL_segments_X7_count) rfl (nA0 := 1) (by decide +kernel) rfl ⟨Nat.le_of_ble_eq_true rfl, Nat.le_of_ble_eq_true rfl⟩ ⟨Nat.le_of_ble_eq_true rfl, Nat.le_of_ble_eq_true rfl⟩ hl rfl (Nat.le_of_ble_eq_true rfl) dL_segments_319 (fun H locs w => ?_)
          refine lv_iconst (v := nI 0) F.1 F.2.1 dL_segments_322 (by decide) ?_
          refine k_call (As := [.int (nI (P 8)), .int (nI 0)]) (rest := []) hf hX F w (k_segment l G a1 a2 a3 q0 v0 q1 v1 q2 v2 hS (a_sX (by omega))) (gL_segments_X7_segment) rfl (nA0 := 2) (by decide +kernel) rfl ⟨Nat.le_of_ble_eq_true rfl, Nat.le_of_ble_eq_true rfl⟩ ⟨Nat.le_of_ble_eq_true rfl, Nat.le_of_ble_eq_true rfl⟩ hl rfl (Nat.le_of_ble_eq_true rfl) dL_segments_323 (fun H locs w => ?_)
          refine lv_iconst (v := (-1)) F.1 F.2.1 dL_segments_326 (by decide) ?_
          refine lv_icmp_ne (tgt := 334) F.1 F.2.1 dL_segments_327 (by decide) (fun q => absurd rfl q) (fun _ => ?_)
          refine lv_iconst (v := nI 1) F.1 F.2.1 dL_segments_330 (by decide) ?_
          refine lv_goto (tgt := 335) F.1 F.2.1 dL_segments_331 (by decide) ?_
          obtain ⟨ws', hc', w'⟩ := w
          exact r_zreturn F w' dL_segments_335 rfl ⟨rfl, hc'⟩
        refine lv_iload_n F.1 F.2.1 dL_segments_179 rfl (lv_at hl 3 rfl) ?_
        refine lv_sipush (v := nI 300) F.1 F.2.1 dL_segments_180 (by decide) ?_
        refine k_call0 (As := [.int x, .int (nI 300)]) (rest := []) hf hX F w ((c_L_low l G x (n := 300) (by decide)).toX) (gL_segments_L_low) rfl (nA0 := 2) (by decide +kernel) rfl ⟨Nat.le_of_ble_eq_true rfl, Nat.le_of_ble_eq_true rfl⟩ ⟨Nat.le_of_ble_eq_true rfl, Nat.le_of_ble_eq_true rfl⟩ hl rfl (Nat.le_of_ble_eq_true rfl) dL_segments_183 (fun r H locs hr w => ?_)
        subst hr
        have z183 := lowF_lt x (n := 300) (by decide)
        refine lv_istore (lv' := [(4, .int (nI (lowF x 300))), (3, .int (nI (min (P 9) (low (lnP P) (P 8))))), (2, .int (nI (low (lnP P) (P 8)))), (1, .int x), (0, .ref b)]) F.1 F.2.1 dL_segments_186 hl (by decide) rfl (fun ls hl => ?_)
        by_cases hv : fb (fun k => P (126 + 3 * k + 1)) (lowF x 300) (P 14) < P 14
        · skip
          have vv1 : lowF x 300 < P (126 + 3 * (fb (fun k => P (126 + 3 * k + 1)) (lowF x 300) (P 14)) + 1) := fb_gt (fun k => P (126 + 3 * k + 1)) (lowF x 300) (P 14) hv
          have vv2 : pdF P (fb (fun k => P (126 + 3 * k + 1)) (lowF x 300) (P 14)) ≤ lowF x 300 := by
            unfold pdF
            split
            · exact Nat.zero_le _
            · exact fb_lt (fun k => P (126 + 3 * k + 1)) (lowF x 300) (P 14) (fb (fun k => P (126 + 3 * k + 1)) (lowF x 300) (P 14) - 1) (by omega)
          obtain ⟨u1, u2, u3, u4, u5, u6⟩ := V_facts hS hJ hv
          generalize hq : fb (fun k => P (126 + 3 * k + 1)) (lowF x 300) (P 14) = q at hv vv1 vv2 u1 u2 u3 u4 u5 u6
          refine lv_aload_n F.1 F.2.1 dL_segments_188 rfl (lv_at hl 4 rfl) ?_
          refine lv_iload F.1 F.2.1 dL_segments_189 (lv_at hl 0 rfl) ?_
          refine k_call (As := [.int (nI (lowF x 300))]) (rest := []) hf hX F w (k_vialAt l G a1 a2 a3 q0 v0 q1 v1 q2 v2 hS ((a_va (d := lowF x 300) (by omega) (by rw [hq]; exact hv)).trans (congrArg nI hq))) (gL_segments_X7_vialAt) rfl (nA0 := 1) (by decide +kernel) rfl ⟨Nat.le_of_ble_eq_true rfl, Nat.le_of_ble_eq_true rfl⟩ ⟨Nat.le_of_ble_eq_true rfl, Nat.le_of_ble_eq_true rfl⟩ hl rfl (Nat.le_of_ble_eq_true rfl) dL_segments_191 (fun H locs w => ?_)
          refine lv_istore (lv' := [(5, .int (nI q)), (4, .int (nI (lowF x 300))), (3, .int (nI (min (P 9) (low (lnP P) (P 8))))), (2, .int (nI (low (lnP P) (P 8)))), (1, .int x), (0, .ref b)]) F.1 F.2.1 dL_segments_194 hl (by decide) rfl (fun ls hl => ?_)
          refine lv_iload F.1 F.2.1 dL_segments_196 (lv_at hl 0 rfl) ?_
          refine lv_bipush (v := (-4)) F.1 F.2.1 dL_segments_198 (by decide) ?_
          refine lv_icmp_ne (tgt := 238) F.1 F.2.1 dL_segments_200 (by decide) (fun _ => ?_) (fun q => absurd q (nI_m4 (by omega)))
          refine lv_aload_n F.1 F.2.1 dL_segments_238 rfl (lv_at hl 5 rfl) ?_
          refine lv_iload F.1 F.2.1 dL_segments_239 (lv_at hl 0 rfl) ?_
          refine lv_iconst (v := nI 1) F.1 F.2.1 dL_segments_241 (by decide) ?_
          refine k_call (As := [.int (nI q), .int (nI 1)]) (rest := []) hf hX F w (k_vial l G a1 a2 a3 q0 v0 q1 v1 q2 v2 hS (a_v1 (v := q) (by omega) (by omega))) (gL_segments_X7_vial) rfl (nA0 := 2) (by decide +kernel) rfl ⟨Nat.le_of_ble_eq_true rfl, Nat.le_of_ble_eq_true rfl⟩ ⟨Nat.le_of_ble_eq_true rfl, Nat.le_of_ble_eq_true rfl⟩ hl rfl (Nat.le_of_ble_eq_true rfl) dL_segments_242 (fun H locs w => ?_)
          refine lv_iload F.1 F.2.1 dL_segments_245 (lv_at hl 1 rfl) ?_
          refine r_cle (tgt := 266) F dL_segments_247 (by decide) (by omega) (by omega) (fun c247 => by exfalso; omega) (fun c247 => ?_)
          refine lv_aload_n F.1 F.2.1 dL_segments_250 rfl (lv_at hl 5 rfl) ?_
          refine lv_iload F.1 F.2.1 dL_segments_251 (lv_at hl 0 rfl) ?_
          refine lv_iconst (v := nI 2) F.1 F.2.1 dL_segments_253 (by decide) ?_
          refine k_call (As := [.int (nI q), .int (nI 2)]) (rest := []) hf hX F w (k_vial l G a1 a2 a3 q0 v0 q1 v1 q2 v2 hS (a_v2 (v := q) (by omega) (by omega))) (gL_segments_X7_vial) rfl (nA0 := 2) (by decide +kernel) rfl ⟨Nat.le_of_ble_eq_true rfl, Nat.le_of_ble_eq_true rfl⟩ ⟨Nat.le_of_ble_eq_true rfl, Nat.le_of_ble_eq_true rfl⟩ hl rfl (Nat.le_of_ble_eq_true rfl) dL_segments_254 (fun H locs w => ?_)
          refine lv_iload F.1 F.2.1 dL_segments_257 (lv_at hl 1 rfl) ?_
          refine r_cgt (tgt := 266) F dL_segments_259 (by decide) (by omega) (by omega) (fun c259 => by exfalso; omega) (fun c259 => ?_)
          refine lv_iconst (v := nI 1) F.1 F.2.1 dL_segments_262 (by decide) ?_
          refine lv_goto (tgt := 267) F.1 F.2.1 dL_segments_263 (by decide) ?_
          refine lv_istore (lv' := [(6, .int (nI 1)), (5, .int (nI q)), (4, .int (nI (lowF x 300))), (3, .int (nI (min (P 9) (low (lnP P) (P 8))))), (2, .int (nI (low (lnP P) (P 8)))), (1, .int x), (0, .ref b)]) F.1 F.2.1 dL_segments_267 hl (by decide) rfl (fun ls hl => ?_)
          exact L269 H locs w ls (lv_sub hl [0, 3, 4, 6] rfl)
        · skip
          have vv3 : ∀ j, j < P 14 → P (126 + 3 * j + 1) ≤ lowF x 300 := fun j hj => fb_lt (fun k => P (126 + 3 * k + 1)) (lowF x 300) (P 14) j (by have z := fb_le (fun k => P (126 + 3 * k + 1)) (lowF x 300) (P 14); omega)
          refine lv_aload_n F.1 F.2.1 dL_segments_188 rfl (lv_at hl 4 rfl) ?_
          refine lv_iload F.1 F.2.1 dL_segments_189 (lv_at hl 0 rfl) ?_
          refine k_call (As := [.int (nI (lowF x 300))]) (rest := []) hf hX F w (k_vialAt l G a1 a2 a3 q0 v0 q1 v1 q2 v2 hS (a_vaX (d := lowF x 300) (by omega) hv)) (gL_segments_X7_vialAt) rfl (nA0 := 1) (by decide +kernel) rfl ⟨Nat.le_of_ble_eq_true rfl, Nat.le_of_ble_eq_true rfl⟩ ⟨Nat.le_of_ble_eq_true rfl, Nat.le_of_ble_eq_true rfl⟩ hl rfl (Nat.le_of_ble_eq_true rfl) dL_segments_191 (fun H locs w => ?_)
          refine lv_istore (lv' := [(5, .int (-4)), (4, .int (nI (lowF x 300))), (3, .int (nI (min (P 9) (low (lnP P) (P 8))))), (2, .int (nI (low (lnP P) (P 8)))), (1, .int x), (0, .ref b)]) F.1 F.2.1 dL_segments_194 hl (by decide) rfl (fun ls hl => ?_)
          refine lv_iload F.1 F.2.1 dL_segments_196 (lv_at hl 0 rfl) ?_
          refine lv_bipush (v := (-4)) F.1 F.2.1 dL_segments_198 (by decide) ?_
          refine lv_icmp_ne (tgt := 238) F.1 F.2.1 dL_segments_200 (by decide) (fun q => absurd rfl q) (fun _ => ?_)
          refine lv_aload_n F.1 F.2.1 dL_segments_203 rfl (lv_at hl 5 rfl) ?_
          refine lv_bipush (v := nI 16) F.1 F.2.1 dL_segments_204 (by decide) ?_
          refine k_call (As := [.int (nI 16)]) (rest := []) hf hX F w (k_count l G a1 a2 a3 q0 v0 q1 v1 q2 v2 hS a_c16) (gL_segments_X7_count) rfl (nA0 := 1) (by decide +kernel) rfl ⟨Nat.le_of_ble_eq_true rfl, Nat.le_of_ble_eq_true rfl⟩ ⟨Nat.le_of_ble_eq_true rfl, Nat.le_of_ble_eq_true rfl⟩ hl rfl (Nat.le_of_ble_eq_true rfl) dL_segments_206 (fun H locs w => ?_)
          refine r_zeq (tgt := 230) F dL_segments_209 (by decide) (by omega) (fun c209 => ?_) (fun c209 => ?_)
          · skip
            refine lv_iconst (v := nI 1) F.1 F.2.1 dL_segments_230 (by decide) ?_
            refine lv_goto (tgt := 267) F.1 F.2.1 dL_segments_231 (by decide) ?_
            refine lv_istore (lv' := [(6, .int (nI 1)), (5, .int (-4)), (4, .int (nI (lowF x 300))), (3, .int (nI (min (P 9) (low (lnP P) (P 8))))), (2, .int (nI (low (lnP P) (P 8)))), (1, .int x), (0, .ref b)]) F.1 F.2.1 dL_segments_267 hl (by decide) rfl (fun ls hl => ?_)
            exact L269 H locs w ls (lv_sub hl [0, 3, 4, 6] rfl)
          · skip
            have vv4 := vv3 (P 14 - 1) (by omega)
            refine lv_aload_n F.1 F.2.1 dL_segments_212 rfl (lv_at hl 5 rfl) ?_
            refine lv_aload_n F.1 F.2.1 dL_segments_213 rfl (lv_at hl 5 rfl) ?_
            refine lv_bipush (v := nI 16) F.1 F.2.1 dL_segments_214 (by decide) ?_
            refine k_call (As := [.int (nI 16)]) (rest := [.ref b]) hf hX F w (k_count l G a1 a2 a3 q0 v0 q1 v1 q2 v2 hS a_c16) (gL_segments_X7_count) rfl (nA0 := 1) (by decide +kernel) rfl ⟨Nat.le_of_ble_eq_true rfl, Nat.le_of_ble_eq_true rfl⟩ ⟨Nat.le_of_ble_eq_true rfl, Nat.le_of_ble_eq_true rfl⟩ hl rfl (Nat.le_of_ble_eq_true rfl) dL_segments_216 (fun H locs w => ?_)
            refine lv_iconst (v := nI 1) F.1 F.2.1 dL_segments_219 (by decide) ?_
            refine r_isub F dL_segments_220 (by omega) ?_
            refine lv_iconst (v := nI 1) F.1 F.2.1 dL_segments_221 (by decide) ?_
            refine k_call (As := [.int (nI ((P 14) - 1)), .int (nI 1)]) (rest := []) hf hX F w (k_vial l G a1 a2 a3 q0 v0 q1 v1 q2 v2 hS (a_v1 (v := (P 14) - 1) (by omega) (by omega))) (gL_segments_X7_vial) rfl (nA0 := 2) (by decide +kernel) rfl ⟨Nat.le_of_ble_eq_true rfl, Nat.le_of_ble_eq_true rfl⟩ ⟨Nat.le_of_ble_eq_true rfl, Nat.le_of_ble_eq_true rfl⟩ hl rfl (Nat.le_of_ble_eq_true rfl) dL_segments_222 (fun H locs w => ?_)
            refine lv_iload F.1 F.2.1 dL_segments_225 (lv_at hl 1 rfl) ?_
            refine r_cgt (tgt := 234) F dL_segments_227 (by decide) (by omega) (by omega) (fun c227 => by exfalso; omega) (fun c227 => ?_)
            refine lv_iconst (v := nI 1) F.1 F.2.1 dL_segments_230 (by decide) ?_
            refine lv_goto (tgt := 267) F.1 F.2.1 dL_segments_231 (by decide) ?_
            refine lv_istore (lv' := [(6, .int (nI 1)), (5, .int (-4)), (4, .int (nI (lowF x 300))), (3, .int (nI (min (P 9) (low (lnP P) (P 8))))), (2, .int (nI (low (lnP P) (P 8)))), (1, .int x), (0, .ref b)]) F.1 F.2.1 dL_segments_267 hl (by decide) rfl (fun ls hl => ?_)
            exact L269 H locs w ls (lv_sub hl [0, 3, 4, 6] rfl)
      · skip
        obtain ⟨g0, g1, g2, g3, g4, g5, g6, g7, g8, g9⟩ := G_facts hS (k := k) (by omega)
        have g10 := wF_b hI (low (lnP P) k + P (46 + 4 * k + 1))
        have g11 := wF_b hI (low (lnP P) k)
        refine lv_aload_n F.1 F.2.1 dL_segments_18 rfl (lv_at hl 4 rfl) ?_
        refine lv_iload F.1 F.2.1 dL_segments_19 (lv_at hl 0 rfl) ?_
        refine lv_iconst (v := nI 5) F.1 F.2.1 dL_segments_21 (by decide) ?_
        refine k_call (As := [.int (nI k), .int (nI 5)]) (rest := []) hf hX F w (k_segment l G a1 a2 a3 q0 v0 q1 v1 q2 v2 hS (a_s5 (i := k) (by omega) (by omega))) (gL_segments_X7_segment) rfl (nA0 := 2) (by decide +kernel) rfl ⟨Nat.le_of_ble_eq_true rfl, Nat.le_of_ble_eq_true rfl⟩ ⟨Nat.le_of_ble_eq_true rfl, Nat.le_of_ble_eq_true rfl⟩ hl rfl (Nat.le_of_ble_eq_true rfl) dL_segments_22 (fun H locs w => ?_)
        refine lv_istore (lv' := [(5, .int (nI (min (P 9 - low (lnP P) k) (P (46 + 4 * k + 1))))), (4, .int (nI k)), (3, .int (nI (min (P 9) (low (lnP P) k)))), (2, .int (nI (low (lnP P) k))), (1, .int x), (0, .ref b)]) F.1 F.2.1 dL_segments_25 hl (by decide) rfl (fun ls hl => ?_)
        refine lv_iload_n F.1 F.2.1 dL_segments_27 rfl (lv_at hl 3 rfl) ?_
        refine lv_aload_n F.1 F.2.1 dL_segments_28 rfl (lv_at hl 5 rfl) ?_
        refine lv_iload F.1 F.2.1 dL_segments_29 (lv_at hl 1 rfl) ?_
        refine lv_iconst (v := nI 1) F.1 F.2.1 dL_segments_31 (by decide) ?_
        refine k_call (As := [.int (nI k), .int (nI 1)]) (rest := [.int (nI (low (lnP P) k))]) hf hX F w (k_segment l G a1 a2 a3 q0 v0 q1 v1 q2 v2 hS (a_s1 (i := k) (by omega) (by omega))) (gL_segments_X7_segment) rfl (nA0 := 2) (by decide +kernel) rfl ⟨Nat.le_of_ble_eq_true rfl, Nat.le_of_ble_eq_true rfl⟩ ⟨Nat.le_of_ble_eq_true rfl, Nat.le_of_ble_eq_true rfl⟩ hl rfl (Nat.le_of_ble_eq_true rfl) dL_segments_32 (fun H locs w => ?_)
        refine r_iadd F dL_segments_35 ?_
        refine lv_istore (lv' := [(6, .int (nI ((low (lnP P) k) + (P (46 + 4 * k + 1))))), (5, .int (nI (min (P 9 - low (lnP P) k) (P (46 + 4 * k + 1))))), (4, .int (nI k)), (3, .int (nI (min (P 9) (low (lnP P) k)))), (2, .int (nI (low (lnP P) k))), (1, .int x), (0, .ref b)]) F.1 F.2.1 dL_segments_36 hl (by decide) rfl (fun ls hl => ?_)
        refine lv_aload_n F.1 F.2.1 dL_segments_38 rfl (lv_at hl 6 rfl) ?_
        refine lv_iload F.1 F.2.1 dL_segments_39 (lv_at hl 2 rfl) ?_
        refine lv_iconst (v := nI 4) F.1 F.2.1 dL_segments_41 (by decide) ?_
        refine k_call (As := [.int (nI k), .int (nI 4)]) (rest := []) hf hX F w (k_segment l G a1 a2 a3 q0 v0 q1 v1 q2 v2 hS (a_s4 (i := k) (by omega) (by omega))) (gL_segments_X7_segment) rfl (nA0 := 2) (by decide +kernel) rfl ⟨Nat.le_of_ble_eq_true rfl, Nat.le_of_ble_eq_true rfl⟩ ⟨Nat.le_of_ble_eq_true rfl, Nat.le_of_ble_eq_true rfl⟩ hl rfl (Nat.le_of_ble_eq_true rfl) dL_segments_42 (fun H locs w => ?_)
        refine lv_iload_n F.1 F.2.1 dL_segments_45 rfl (lv_at hl 4 rfl) ?_
        refine r_cne (tgt := 163) F dL_segments_46 (by decide) (by omega) (by omega) (fun c46 => by exfalso; omega) (fun c46 => ?_)
        refine lv_iload F.1 F.2.1 dL_segments_49 (lv_at hl 1 rfl) ?_
        refine r_zlt (tgt := 163) F dL_segments_51 (by decide) (by omega) ?_
        refine lv_iload F.1 F.2.1 dL_segments_54 (lv_at hl 1 rfl) ?_
        refine lv_aload_n F.1 F.2.1 dL_segments_56 rfl (lv_at hl 6 rfl) ?_
        refine lv_iload F.1 F.2.1 dL_segments_57 (lv_at hl 2 rfl) ?_
        refine lv_iconst (v := nI 1) F.1 F.2.1 dL_segments_59 (by decide) ?_
        refine k_call (As := [.int (nI k), .int (nI 1)]) (rest := [.int (nI (min (P 9 - low (lnP P) k) (P (46 + 4 * k + 1))))]) hf hX F w (k_segment l G a1 a2 a3 q0 v0 q1 v1 q2 v2 hS (a_s1 (i := k) (by omega) (by omega))) (gL_segments_X7_segment) rfl (nA0 := 2) (by decide +kernel) rfl ⟨Nat.le_of_ble_eq_true rfl, Nat.le_of_ble_eq_true rfl⟩ ⟨Nat.le_of_ble_eq_true rfl, Nat.le_of_ble_eq_true rfl⟩ hl rfl (Nat.le_of_ble_eq_true rfl) dL_segments_60 (fun H locs w => ?_)
        refine r_cgt (tgt := 163) F dL_segments_63 (by decide) (by omega) (by omega) (fun c63 => by exfalso; omega) (fun c63 => ?_)
        have L76 : ∀ (H : Heap) (locs : List Loc), CW G s (va_A ws s.heap.size) H locs b P n h → ∀ ls : Array Slot, lv_has ls 7 [(6, .int (nI ((low (lnP P) k) + (P (46 + 4 * k + 1))))), (5, .int (nI (min (P 9 - low (lnP P) k) (P (46 + 4 * k + 1))))), (4, .int (nI k)), (3, .int (nI (min (P 9) (low (lnP P) k)))), (2, .int (nI (low (lnP P) k))), (1, .int x), (0, .ref b)] → W p l e (rmK 4 0 0) s m args below meth c H locs 0 0 (MQ below (QI G ws s.heap.size (fun r v => r = nI 1 ∧ (CS G b P 0 (fun _ => 0) n h) v)) args s 0 0 (va_A ws s.heap.size)) (F0 m 76 ls []) := by
          intro H locs w ls hl
          refine lv_aload_n F.1 F.2.1 dL_segments_76 rfl (lv_at hl 6 rfl) ?_
          refine lv_iload_n F.1 F.2.1 dL_segments_77 rfl (lv_at hl 4 rfl) ?_
          refine k_call (As := [.int (nI (low (lnP P) k))]) (rest := []) hf hX F w (k_segmentAt l G a1 a2 a3 q0 v0 q1 v1 q2 v2 hS ((a_sa (d := low (lnP P) k) (by omega) (by omega)).trans (congrArg nI g7))) (gL_segments_X7_segmentAt) rfl (nA0 := 1) (by decide +kernel) rfl ⟨Nat.le_of_ble_eq_true rfl, Nat.le_of_ble_eq_true rfl⟩ ⟨Nat.le_of_ble_eq_true rfl, Nat.le_of_ble_eq_true rfl⟩ hl rfl (Nat.le_of_ble_eq_true rfl) dL_segments_78 (fun H locs w => ?_)
          refine lv_iload F.1 F.2.1 dL_segments_81 (lv_at hl 2 rfl) ?_
          refine r_cne (tgt := 163) F dL_segments_83 (by decide) (by omega) (by omega) (fun c83 => by exfalso; omega) (fun c83 => ?_)
          refine lv_aload_n F.1 F.2.1 dL_segments_86 rfl (lv_at hl 6 rfl) ?_
          refine lv_iload F.1 F.2.1 dL_segments_87 (lv_at hl 0 rfl) ?_
          refine lv_iconst (v := nI 1) F.1 F.2.1 dL_segments_89 (by decide) ?_
          refine r_isub F dL_segments_90 (by omega) ?_
          refine k_call (As := [.int (nI (((low (lnP P) k) + (P (46 + 4 * k + 1))) - 1))]) (rest := []) hf hX F w (k_segmentAt l G a1 a2 a3 q0 v0 q1 v1 q2 v2 hS ((a_sa (d := low (lnP P) k + P (46 + 4 * k + 1) - 1) (by omega) (by omega)).trans (congrArg nI g8))) (gL_segments_X7_segmentAt) rfl (nA0 := 1) (by decide +kernel) rfl ⟨Nat.le_of_ble_eq_true rfl, Nat.le_of_ble_eq_true rfl⟩ ⟨Nat.le_of_ble_eq_true rfl, Nat.le_of_ble_eq_true rfl⟩ hl rfl (Nat.le_of_ble_eq_true rfl) dL_segments_91 (fun H locs w => ?_)
          refine lv_iload F.1 F.2.1 dL_segments_94 (lv_at hl 2 rfl) ?_
          refine r_cne (tgt := 163) F dL_segments_96 (by decide) (by omega) (by omega) (fun c96 => by exfalso; omega) (fun c96 => ?_)
          refine lv_aload_n F.1 F.2.1 dL_segments_99 rfl (lv_at hl 6 rfl) ?_
          refine lv_iload F.1 F.2.1 dL_segments_100 (lv_at hl 0 rfl) ?_
          refine k_call (As := [.int (nI ((low (lnP P) k) + (P (46 + 4 * k + 1))))]) (rest := []) hf hX F w (k_waterBelow l G a1 a2 a3 q0 v0 q1 v1 q2 v2 hS (a_w (d := (low (lnP P) k) + (P (46 + 4 * k + 1))) (by omega) (by omega))) (gL_segments_X7_waterBelow) rfl (nA0 := 1) (by decide +kernel) rfl ⟨Nat.le_of_ble_eq_true rfl, Nat.le_of_ble_eq_true rfl⟩ ⟨Nat.le_of_ble_eq_true rfl, Nat.le_of_ble_eq_true rfl⟩ hl rfl (Nat.le_of_ble_eq_true rfl) dL_segments_102 (fun H locs w => ?_)
          refine lv_aload_n F.1 F.2.1 dL_segments_105 rfl (lv_at hl 6 rfl) ?_
          refine lv_iload_n F.1 F.2.1 dL_segments_106 rfl (lv_at hl 4 rfl) ?_
          refine k_call (As := [.int (nI (low (lnP P) k))]) (rest := [.int (nI (wF P ((low (lnP P) k) + (P (46 + 4 * k + 1)))))]) hf hX F w (k_waterBelow l G a1 a2 a3 q0 v0 q1 v1 q2 v2 hS (a_w (d := low (lnP P) k) (by omega) (by omega))) (gL_segments_X7_waterBelow) rfl (nA0 := 1) (by decide +kernel) rfl ⟨Nat.le_of_ble_eq_true rfl, Nat.le_of_ble_eq_true rfl⟩ ⟨Nat.le_of_ble_eq_true rfl, Nat.le_of_ble_eq_true rfl⟩ hl rfl (Nat.le_of_ble_eq_true rfl) dL_segments_107 (fun H locs w => ?_)
          refine r_isub F dL_segments_110 (by omega) ?_
          refine lv_aload_n F.1 F.2.1 dL_segments_111 rfl (lv_at hl 6 rfl) ?_
          refine lv_iload F.1 F.2.1 dL_segments_112 (lv_at hl 2 rfl) ?_
          refine lv_iconst (v := nI 1) F.1 F.2.1 dL_segments_114 (by decide) ?_
          refine k_call (As := [.int (nI k), .int (nI 1)]) (rest := [.int (nI ((wF P ((low (lnP P) k) + (P (46 + 4 * k + 1)))) - (wF P (low (lnP P) k))))]) hf hX F w (k_segment l G a1 a2 a3 q0 v0 q1 v1 q2 v2 hS (a_s1 (i := k) (by omega) (by omega))) (gL_segments_X7_segment) rfl (nA0 := 2) (by decide +kernel) rfl ⟨Nat.le_of_ble_eq_true rfl, Nat.le_of_ble_eq_true rfl⟩ ⟨Nat.le_of_ble_eq_true rfl, Nat.le_of_ble_eq_true rfl⟩ hl rfl (Nat.le_of_ble_eq_true rfl) dL_segments_115 (fun H locs w => ?_)
          refine lv_aload_n F.1 F.2.1 dL_segments_118 rfl (lv_at hl 6 rfl) ?_
          refine lv_iload F.1 F.2.1 dL_segments_119 (lv_at hl 2 rfl) ?_
          refine lv_iconst (v := nI 2) F.1 F.2.1 dL_segments_121 (by decide) ?_
          refine k_call (As := [.int (nI k), .int (nI 2)]) (rest := [.int (nI (P (46 + 4 * k + 1))), .int (nI ((wF P ((low (lnP P) k) + (P (46 + 4 * k + 1)))) - (wF P (low (lnP P) k))))]) hf hX F w (k_segment l G a1 a2 a3 q0 v0 q1 v1 q2 v2 hS (a_s2 (i := k) (by omega) (by omega))) (gL_segments_X7_segment) rfl (nA0 := 2) (by decide +kernel) rfl ⟨Nat.le_of_ble_eq_true rfl, Nat.le_of_ble_eq_true rfl⟩ ⟨Nat.le_of_ble_eq_true rfl, Nat.le_of_ble_eq_true rfl⟩ hl rfl (Nat.le_of_ble_eq_true rfl) dL_segments_122 (fun H locs w => ?_)
          refine r_imul F dL_segments_125 ?_
          refine r_cne (tgt := 163) F dL_segments_126 (by decide) (by omega) (by omega) (fun c126 => by exfalso; omega) (fun c126 => ?_)
          refine lv_aload_n F.1 F.2.1 dL_segments_129 rfl (lv_at hl 6 rfl) ?_
          refine lv_iload F.1 F.2.1 dL_segments_130 (lv_at hl 2 rfl) ?_
          refine lv_iconst (v := nI 0) F.1 F.2.1 dL_segments_132 (by decide) ?_
          refine k_call (As := [.int (nI k), .int (nI 0)]) (rest := []) hf hX F w (k_segment l G a1 a2 a3 q0 v0 q1 v1 q2 v2 hS (a_s0 (i := k) (by omega) (by omega))) (gL_segments_X7_segment) rfl (nA0 := 2) (by decide +kernel) rfl ⟨Nat.le_of_ble_eq_true rfl, Nat.le_of_ble_eq_true rfl⟩ ⟨Nat.le_of_ble_eq_true rfl, Nat.le_of_ble_eq_true rfl⟩ hl rfl (Nat.le_of_ble_eq_true rfl) dL_segments_133 (fun H locs w => ?_)
          refine lv_iconst (v := nI 1) F.1 F.2.1 dL_segments_136 (by decide) ?_
          refine r_cne (tgt := 144) F dL_segments_137 (by decide) (by omega) (by decide) (fun c137 => ?_) (fun c137 => ?_)
          · skip
            refine lv_iconst (v := nI 0) F.1 F.2.1 dL_segments_144 (by decide) ?_
            refine lv_aload_n F.1 F.2.1 dL_segments_145 rfl (lv_at hl 6 rfl) ?_
            refine lv_iload F.1 F.2.1 dL_segments_146 (lv_at hl 2 rfl) ?_
            refine lv_iconst (v := nI 2) F.1 F.2.1 dL_segments_148 (by decide) ?_
            refine k_call (As := [.int (nI k), .int (nI 2)]) (rest := [.int (nI 0)]) hf hX F w (k_segment l G a1 a2 a3 q0 v0 q1 v1 q2 v2 hS (a_s2 (i := k) (by omega) (by omega))) (gL_segments_X7_segment) rfl (nA0 := 2) (by decide +kernel) rfl ⟨Nat.le_of_ble_eq_true rfl, Nat.le_of_ble_eq_true rfl⟩ ⟨Nat.le_of_ble_eq_true rfl, Nat.le_of_ble_eq_true rfl⟩ hl rfl (Nat.le_of_ble_eq_true rfl) dL_segments_149 (fun H locs w => ?_)
            refine r_zne (tgt := 159) F dL_segments_152 (by decide) (by omega) (fun c152 => ?_) (fun c152 => by exfalso; omega)
            refine lv_iconst (v := nI 0) F.1 F.2.1 dL_segments_159 (by decide) ?_
            refine r_ceq (tgt := 165) F dL_segments_160 (by decide) (by decide) (by decide) (fun c160 => ?_) (fun c160 => by exfalso; omega)
            refine lv_iload_n F.1 F.2.1 dL_segments_165 rfl (lv_at hl 3 rfl) ?_
            refine lv_iload F.1 F.2.1 dL_segments_166 (lv_at hl 1 rfl) ?_
            refine r_iadd F dL_segments_168 ?_
            refine r_to (y := nI (min (P 9) (low (lnP P) (k + 1)))) (congrArg nI (show _ = min (P 9) (low (lnP P) k + P (46 + 4 * k + 1)) by omega)) ?_
            refine lv_istore_n (lv' := [(3, .int (nI (min (P 9) (low (lnP P) (k + 1))))), (6, .int (nI ((low (lnP P) k) + (P (46 + 4 * k + 1))))), (5, .int (nI (min (P 9 - low (lnP P) k) (P (46 + 4 * k + 1))))), (4, .int (nI k)), (2, .int (nI (low (lnP P) k))), (1, .int x), (0, .ref b)]) F.1 F.2.1 dL_segments_169 rfl hl (by decide) rfl (fun ls hl => ?_)
            refine lv_iload F.1 F.2.1 dL_segments_170 (lv_at hl 1 rfl) ?_
            refine lv_istore_n (lv' := [(2, .int (nI ((low (lnP P) k) + (P (46 + 4 * k + 1))))), (3, .int (nI (min (P 9) (low (lnP P) (k + 1))))), (6, .int (nI ((low (lnP P) k) + (P (46 + 4 * k + 1))))), (5, .int (nI (min (P 9 - low (lnP P) k) (P (46 + 4 * k + 1))))), (4, .int (nI k)), (1, .int x), (0, .ref b)]) F.1 F.2.1 dL_segments_172 rfl hl (by decide) rfl (fun ls hl => ?_)
            refine lv_iinc (v := nI (k + 1)) (lv' := [(4, .int (nI (k + 1))), (2, .int (nI ((low (lnP P) k) + (P (46 + 4 * k + 1))))), (3, .int (nI (min (P 9) (low (lnP P) (k + 1))))), (6, .int (nI ((low (lnP P) k) + (P (46 + 4 * k + 1))))), (5, .int (nI (min (P 9 - low (lnP P) k) (P (46 + 4 * k + 1))))), (1, .int x), (0, .ref b)]) F.1 F.2.1 dL_segments_173 hl (k := 4) rfl (nI_add _ _) (by decide) rfl (fun ls hl => ?_)
            refine lv_goto (tgt := 7) F.1 F.2.1 dL_segments_176 (by decide) ?_
            exact ih7 (k + 1) (by omega) (by omega) H locs w ls (lv_sub hl [0, 2, 1, 5, 6] rfl)
          · skip
            refine lv_iconst (v := nI 1) F.1 F.2.1 dL_segments_140 (by decide) ?_
            refine lv_goto (tgt := 145) F.1 F.2.1 dL_segments_141 (by decide) ?_
            refine lv_aload_n F.1 F.2.1 dL_segments_145 rfl (lv_at hl 6 rfl) ?_
            refine lv_iload F.1 F.2.1 dL_segments_146 (lv_at hl 2 rfl) ?_
            refine lv_iconst (v := nI 2) F.1 F.2.1 dL_segments_148 (by decide) ?_
            refine k_call (As := [.int (nI k), .int (nI 2)]) (rest := [.int (nI 1)]) hf hX F w (k_segment l G a1 a2 a3 q0 v0 q1 v1 q2 v2 hS (a_s2 (i := k) (by omega) (by omega))) (gL_segments_X7_segment) rfl (nA0 := 2) (by decide +kernel) rfl ⟨Nat.le_of_ble_eq_true rfl, Nat.le_of_ble_eq_true rfl⟩ ⟨Nat.le_of_ble_eq_true rfl, Nat.le_of_ble_eq_true rfl⟩ hl rfl (Nat.le_of_ble_eq_true rfl) dL_segments_149 (fun H locs w => ?_)
            refine r_zne (tgt := 159) F dL_segments_152 (by decide) (by omega) (fun c152 => by exfalso; omega) (fun c152 => ?_)
            refine lv_iconst (v := nI 1) F.1 F.2.1 dL_segments_155 (by decide) ?_
            refine lv_goto (tgt := 160) F.1 F.2.1 dL_segments_156 (by decide) ?_
            refine r_ceq (tgt := 165) F dL_segments_160 (by decide) (by decide) (by decide) (fun c160 => ?_) (fun c160 => by exfalso; omega)
            refine lv_iload_n F.1 F.2.1 dL_segments_165 rfl (lv_at hl 3 rfl) ?_
            refine lv_iload F.1 F.2.1 dL_segments_166 (lv_at hl 1 rfl) ?_
            refine r_iadd F dL_segments_168 ?_
            refine r_to (y := nI (min (P 9) (low (lnP P) (k + 1)))) (congrArg nI (show _ = min (P 9) (low (lnP P) k + P (46 + 4 * k + 1)) by omega)) ?_
            refine lv_istore_n (lv' := [(3, .int (nI (min (P 9) (low (lnP P) (k + 1))))), (6, .int (nI ((low (lnP P) k) + (P (46 + 4 * k + 1))))), (5, .int (nI (min (P 9 - low (lnP P) k) (P (46 + 4 * k + 1))))), (4, .int (nI k)), (2, .int (nI (low (lnP P) k))), (1, .int x), (0, .ref b)]) F.1 F.2.1 dL_segments_169 rfl hl (by decide) rfl (fun ls hl => ?_)
            refine lv_iload F.1 F.2.1 dL_segments_170 (lv_at hl 1 rfl) ?_
            refine lv_istore_n (lv' := [(2, .int (nI ((low (lnP P) k) + (P (46 + 4 * k + 1))))), (3, .int (nI (min (P 9) (low (lnP P) (k + 1))))), (6, .int (nI ((low (lnP P) k) + (P (46 + 4 * k + 1))))), (5, .int (nI (min (P 9 - low (lnP P) k) (P (46 + 4 * k + 1))))), (4, .int (nI k)), (1, .int x), (0, .ref b)]) F.1 F.2.1 dL_segments_172 rfl hl (by decide) rfl (fun ls hl => ?_)
            refine lv_iinc (v := nI (k + 1)) (lv' := [(4, .int (nI (k + 1))), (2, .int (nI ((low (lnP P) k) + (P (46 + 4 * k + 1))))), (3, .int (nI (min (P 9) (low (lnP P) (k + 1))))), (6, .int (nI ((low (lnP P) k) + (P (46 + 4 * k + 1))))), (5, .int (nI (min (P 9 - low (lnP P) k) (P (46 + 4 * k + 1))))), (1, .int x), (0, .ref b)]) F.1 F.2.1 dL_segments_173 hl (k := 4) rfl (nI_add _ _) (by decide) rfl (fun ls hl => ?_)
            refine lv_goto (tgt := 7) F.1 F.2.1 dL_segments_176 (by decide) ?_
            exact ih7 (k + 1) (by omega) (by omega) H locs w ls (lv_sub hl [0, 2, 1, 5, 6] rfl)
        refine lv_iload F.1 F.2.1 dL_segments_66 (lv_at hl 1 rfl) ?_
        refine r_zle (tgt := 76) F dL_segments_68 (by decide) (by omega) (fun c68 => ?_) (fun c68 => ?_)
        · skip
          exact L76 H locs w ls hl
        · skip
          refine lv_iload_n F.1 F.2.1 dL_segments_71 rfl (lv_at hl 3 rfl) ?_
          refine lv_iload_n F.1 F.2.1 dL_segments_72 rfl (lv_at hl 4 rfl) ?_
          refine r_cne (tgt := 163) F dL_segments_73 (by decide) (by omega) (by omega) (fun c73 => by exfalso; omega) (fun c73 => ?_)
          exact L76 H locs w ls hl
  exact L7 _ 0 (Nat.lt_succ_self _) (Nat.zero_le _) _ _ w ls (lv_sub hl [0, 1, 2, 4, 3] rfl)
