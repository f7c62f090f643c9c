/-! ===== p25: the law's method passes ===== -/
set_option maxRecDepth 100000 in
set_option maxHeartbeats 8000000 in
theorem c_L_passes (l : Launch) (G : KG) (a1 a2 a3 q0 v0 q1 v1 q2 v2 : Nat) {P : Nat → Nat} {n : Nat} {h : Nat → Nat → Nat} (hS : SI P n h) (hJ : JI P) {q : Nat} (hq : 1 ≤ q ∧ q ≤ 200) (hz : P 16 + q ≤ 20000) (x : Int32) (b : Nat) : KL l G (lawX a1 a2 a3 q0 v0 q1 v1 q2 v2) yL_passes wsL_passes 7 b [.int (nI q), .int x] P n h (nI 1) (fun v => ∃ (n' : Nat) (h' : Nat → Nat → Nat), SI (itF P q) n' h' ∧ CS G b (itF P q) 0 (fun _ => 0) n' h' v) := by
  intro ws hc
  refine MetIX.by (cc := cL_passes) (nL := 14) (ret := some .boolean) (by decide +kernel) rfl (Nat.le_of_ble_eq_true rfl) ?_
  intro p e s m args below meth c F hX w ls hl
  have w : CW G s (va_A ws s.heap.size) s.heap [] b P n h := ⟨ws, hc, w⟩
  have hf := fine_law a1 a2 a3 q0 v0 q1 v1 q2 v2
  have hl : lv_has ls 14 [(0, .ref b), (1, .int (nI q)), (2, .int x)] := hl
  have hI := hS.1
  obtain ⟨f8, f14, ft1, ft2, ft3, fd1, fd2, fd3, fw1, fw2, fw3, fb1, fb2, fb3, fb4, fb5, fb6, fc1, fc2, fc3, fc4, fn5, fs1, fs2⟩ := S_facts hS hJ
  obtain ⟨hIQ, e16, egeo⟩ := it_ok hI q hz
  obtain ⟨j0, j1, j2, j3, j4, j5, j6⟩ := it_J hI hJ q hz
  obtain ⟨r1, r2⟩ := it_end hI hJ hq.1 hz
  have hS' : SI (itF P q) (sizeN n) (recH h n P) := SI_rec hS hIQ
  have hS2 : SI P (sizeN n - 1) (recH h n P) := SI_undo hS hI
  have hS3 : SI (itF P q) (sizeN (sizeN n - 1)) (recH (recH h n P) (sizeN n - 1) P) := SI_rec hS2 hIQ
  obtain ⟨q8, q14, qt1, qt2, qt3, qd1, qd2, qd3, qw1, qw2, qw3, qb1, qb2, qb3, qb4, qb5, qb6, qc1, qc2, qc3, qc4, qn5, qs1, qs2⟩ := S_facts hS' j0
  refine lv_aload_n F.1 F.2.1 dL_passes_0 rfl (lv_at hl 0 rfl) ?_
  refine lv_iload_n F.1 F.2.1 dL_passes_1 rfl (lv_at hl 1 rfl) ?_
  refine lv_iconst (v := nI 0) F.1 F.2.1 dL_passes_2 (by decide) ?_
  refine k_call (As := [.int (nI q), .int (nI 0)]) (rest := []) hf hX F w (k_ifN l G a1 a2 a3 q0 v0 q1 v1 q2 v2 hS (q := q) (j := 0) (by omega) (by decide) (by omega) (a_if0 _)) (gL_passes_X7_ifRun) rfl (nA0 := 2) (by decide +kernel) rfl ⟨Nat.le_of_ble_eq_true rfl, Nat.le_of_ble_eq_true rfl⟩ ⟨Nat.le_of_ble_eq_true rfl, Nat.le_of_ble_eq_true rfl⟩ hl rfl (Nat.le_of_ble_eq_true rfl) dL_passes_3 (fun H locs w => ?_)
  refine lv_istore_n (lv' := [(3, .int (nI (toldF (itF P q)))), (0, .ref b), (1, .int (nI q)), (2, .int x)]) F.1 F.2.1 dL_passes_6 rfl hl (by decide) rfl (fun ls hl => ?_)
  refine lv_aload_n F.1 F.2.1 dL_passes_7 rfl (lv_at hl 1 rfl) ?_
  refine lv_iload_n F.1 F.2.1 dL_passes_8 rfl (lv_at hl 2 rfl) ?_
  refine lv_iconst (v := nI 1) F.1 F.2.1 dL_passes_9 (by decide) ?_
  refine k_call (As := [.int (nI q), .int (nI 1)]) (rest := []) hf hX F w (k_ifN l G a1 a2 a3 q0 v0 q1 v1 q2 v2 hS (q := q) (j := 1) (by omega) (by decide) (by omega) (a_if1 _)) (gL_passes_X7_ifRun) rfl (nA0 := 2) (by decide +kernel) rfl ⟨Nat.le_of_ble_eq_true rfl, Nat.le_of_ble_eq_true rfl⟩ ⟨Nat.le_of_ble_eq_true rfl, Nat.le_of_ble_eq_true rfl⟩ hl rfl (Nat.le_of_ble_eq_true rfl) dL_passes_10 (fun H locs w => ?_)
  refine lv_istore (lv' := [(4, .int (nI (itF P q 9))), (3, .int (nI (toldF (itF P q)))), (0, .ref b), (1, .int (nI q)), (2, .int x)]) F.1 F.2.1 dL_passes_13 hl (by decide) rfl (fun ls hl => ?_)
  refine lv_aload_n F.1 F.2.1 dL_passes_15 rfl (lv_at hl 2 rfl) ?_
  refine lv_iload_n F.1 F.2.1 dL_passes_16 rfl (lv_at hl 3 rfl) ?_
  refine lv_iconst (v := nI 2) F.1 F.2.1 dL_passes_17 (by decide) ?_
  refine k_call (As := [.int (nI q), .int (nI 2)]) (rest := []) hf hX F w (k_ifN l G a1 a2 a3 q0 v0 q1 v1 q2 v2 hS (q := q) (j := 2) (by omega) (by decide) (by omega) (a_if2 (by omega))) (gL_passes_X7_ifRun) rfl (nA0 := 2) (by decide +kernel) rfl ⟨Nat.le_of_ble_eq_true rfl, Nat.le_of_ble_eq_true rfl⟩ ⟨Nat.le_of_ble_eq_true rfl, Nat.le_of_ble_eq_true rfl⟩ hl rfl (Nat.le_of_ble_eq_true rfl) dL_passes_18 (fun H locs w => ?_)
  refine lv_istore (lv' := [(5, .int (nI (itF P q 20 - P 20))), (4, .int (nI (itF P q 9))), (3, .int (nI (toldF (itF P q)))), (0, .ref b), (1, .int (nI q)), (2, .int x)]) F.1 F.2.1 dL_passes_21 hl (by decide) rfl (fun ls hl => ?_)
  refine lv_aload_n F.1 F.2.1 dL_passes_23 rfl (lv_at hl 3 rfl) ?_
  refine lv_iload_n F.1 F.2.1 dL_passes_24 rfl (lv_at hl 4 rfl) ?_
  refine lv_bipush (v := nI 6) F.1 F.2.1 dL_passes_25 (by decide) ?_
  refine k_call (As := [.int (nI q), .int (nI 6)]) (rest := []) hf hX F w (k_ifN l G a1 a2 a3 q0 v0 q1 v1 q2 v2 hS (q := q) (j := 6) (by omega) (by decide) (by omega) (a_if6 (by omega))) (gL_passes_X7_ifRun) rfl (nA0 := 2) (by decide +kernel) rfl ⟨Nat.le_of_ble_eq_true rfl, Nat.le_of_ble_eq_true rfl⟩ ⟨Nat.le_of_ble_eq_true rfl, Nat.le_of_ble_eq_true rfl⟩ hl rfl (Nat.le_of_ble_eq_true rfl) dL_passes_27 (fun H locs w => ?_)
  refine lv_istore (lv' := [(6, .int (nI (itF P q 18 - P 18))), (5, .int (nI (itF P q 20 - P 20))), (4, .int (nI (itF P q 9))), (3, .int (nI (toldF (itF P q)))), (0, .ref b), (1, .int (nI q)), (2, .int x)]) F.1 F.2.1 dL_passes_30 hl (by decide) rfl (fun ls hl => ?_)
  refine lv_aload_n F.1 F.2.1 dL_passes_32 rfl (lv_at hl 4 rfl) ?_
  refine lv_bipush (v := nI 15) F.1 F.2.1 dL_passes_33 (by decide) ?_
  refine k_call (As := [.int (nI 15)]) (rest := []) hf hX F w (k_count l G a1 a2 a3 q0 v0 q1 v1 q2 v2 hS a_c15) (gL_passes_X7_count) rfl (nA0 := 1) (by decide +kernel) rfl ⟨Nat.le_of_ble_eq_true rfl, Nat.le_of_ble_eq_true rfl⟩ ⟨Nat.le_of_ble_eq_true rfl, Nat.le_of_ble_eq_true rfl⟩ hl rfl (Nat.le_of_ble_eq_true rfl) dL_passes_35 (fun H locs w => ?_)
  refine lv_istore (lv' := [(7, .int (nI (toldF P))), (6, .int (nI (itF P q 18 - P 18))), (5, .int (nI (itF P q 20 - P 20))), (4, .int (nI (itF P q 9))), (3, .int (nI (toldF (itF P q)))), (0, .ref b), (1, .int (nI q)), (2, .int x)]) F.1 F.2.1 dL_passes_38 hl (by decide) rfl (fun ls hl => ?_)
  refine lv_aload_n F.1 F.2.1 dL_passes_40 rfl (lv_at hl 5 rfl) ?_
  refine lv_bipush (v := nI 18) F.1 F.2.1 dL_passes_41 (by decide) ?_
  refine k_call (As := [.int (nI 18)]) (rest := []) hf hX F w (k_count l G a1 a2 a3 q0 v0 q1 v1 q2 v2 hS a_c18) (gL_passes_X7_count) rfl (nA0 := 1) (by decide +kernel) rfl ⟨Nat.le_of_ble_eq_true rfl, Nat.le_of_ble_eq_true rfl⟩ ⟨Nat.le_of_ble_eq_true rfl, Nat.le_of_ble_eq_true rfl⟩ hl rfl (Nat.le_of_ble_eq_true rfl) dL_passes_43 (fun H locs w => ?_)
  refine lv_istore (lv' := [(8, .int (nI (P 16))), (7, .int (nI (toldF P))), (6, .int (nI (itF P q 18 - P 18))), (5, .int (nI (itF P q 20 - P 20))), (4, .int (nI (itF P q 9))), (3, .int (nI (toldF (itF P q)))), (0, .ref b), (1, .int (nI q)), (2, .int x)]) F.1 F.2.1 dL_passes_46 hl (by decide) rfl (fun ls hl => ?_)
  refine lv_aload_n F.1 F.2.1 dL_passes_48 rfl (lv_at hl 6 rfl) ?_
  refine lv_iconst (v := nI 0) F.1 F.2.1 dL_passes_49 (by decide) ?_
  refine k_call (As := [.int (nI 0)]) (rest := []) hf hX F w (k_account l G a1 a2 a3 q0 v0 q1 v1 q2 v2 hS a_a0) (gL_passes_X7_account) rfl (nA0 := 1) (by decide +kernel) rfl ⟨Nat.le_of_ble_eq_true rfl, Nat.le_of_ble_eq_true rfl⟩ ⟨Nat.le_of_ble_eq_true rfl, Nat.le_of_ble_eq_true rfl⟩ hl rfl (Nat.le_of_ble_eq_true rfl) dL_passes_50 (fun H locs w => ?_)
  refine lv_istore (lv' := [(9, .int (nI (P 19))), (8, .int (nI (P 16))), (7, .int (nI (toldF P))), (6, .int (nI (itF P q 18 - P 18))), (5, .int (nI (itF P q 20 - P 20))), (4, .int (nI (itF P q 9))), (3, .int (nI (toldF (itF P q)))), (0, .ref b), (1, .int (nI q)), (2, .int x)]) F.1 F.2.1 dL_passes_53 hl (by decide) rfl (fun ls hl => ?_)
  refine lv_aload_n F.1 F.2.1 dL_passes_55 rfl (lv_at hl 7 rfl) ?_
  refine lv_iconst (v := nI 1) F.1 F.2.1 dL_passes_56 (by decide) ?_
  refine k_call (As := [.int (nI 1)]) (rest := []) hf hX F w (k_account l G a1 a2 a3 q0 v0 q1 v1 q2 v2 hS a_a1) (gL_passes_X7_account) rfl (nA0 := 1) (by decide +kernel) rfl ⟨Nat.le_of_ble_eq_true rfl, Nat.le_of_ble_eq_true rfl⟩ ⟨Nat.le_of_ble_eq_true rfl, Nat.le_of_ble_eq_true rfl⟩ hl rfl (Nat.le_of_ble_eq_true rfl) dL_passes_57 (fun H locs w => ?_)
  refine lv_istore (lv' := [(10, .int (nI (P 20))), (9, .int (nI (P 19))), (8, .int (nI (P 16))), (7, .int (nI (toldF P))), (6, .int (nI (itF P q 18 - P 18))), (5, .int (nI (itF P q 20 - P 20))), (4, .int (nI (itF P q 9))), (3, .int (nI (toldF (itF P q)))), (0, .ref b), (1, .int (nI q)), (2, .int x)]) F.1 F.2.1 dL_passes_60 hl (by decide) rfl (fun ls hl => ?_)
  refine lv_aload_n F.1 F.2.1 dL_passes_62 rfl (lv_at hl 8 rfl) ?_
  refine lv_bipush (v := nI 20) F.1 F.2.1 dL_passes_63 (by decide) ?_
  refine k_call (As := [.int (nI 20)]) (rest := []) hf hX F w (k_count l G a1 a2 a3 q0 v0 q1 v1 q2 v2 hS a_c20) (gL_passes_X7_count) rfl (nA0 := 1) (by decide +kernel) rfl ⟨Nat.le_of_ble_eq_true rfl, Nat.le_of_ble_eq_true rfl⟩ ⟨Nat.le_of_ble_eq_true rfl, Nat.le_of_ble_eq_true rfl⟩ hl rfl (Nat.le_of_ble_eq_true rfl) dL_passes_65 (fun H locs w => ?_)
  refine lv_istore (lv' := [(11, .int (nI (P 18))), (10, .int (nI (P 20))), (9, .int (nI (P 19))), (8, .int (nI (P 16))), (7, .int (nI (toldF P))), (6, .int (nI (itF P q 18 - P 18))), (5, .int (nI (itF P q 20 - P 20))), (4, .int (nI (itF P q 9))), (3, .int (nI (toldF (itF P q)))), (0, .ref b), (1, .int (nI q)), (2, .int x)]) F.1 F.2.1 dL_passes_68 hl (by decide) rfl (fun ls hl => ?_)
  refine lv_iload F.1 F.2.1 dL_passes_70 (lv_at hl 4 rfl) ?_
  refine lv_iload_n F.1 F.2.1 dL_passes_72 rfl (lv_at hl 11 rfl) ?_
  refine lv_bipush (v := nI 20) F.1 F.2.1 dL_passes_73 (by decide) ?_
  refine k_call0 (As := [.int x, .int (nI 20)]) (rest := [.int (nI (toldF P))]) hf hX F w ((c_L_low l G x (n := 20) (by decide)).toX) (gL_passes_L_low) rfl (nA0 := 2) (by decide +kernel) rfl ⟨Nat.le_of_ble_eq_true rfl, Nat.le_of_ble_eq_true rfl⟩ ⟨Nat.le_of_ble_eq_true rfl, Nat.le_of_ble_eq_true rfl⟩ hl rfl (Nat.le_of_ble_eq_true rfl) dL_passes_75 (fun r H locs hr w => ?_)
  subst hr
  have z75 := lowF_lt x (n := 20) (by decide)
  refine r_iadd F dL_passes_78 ?_
  refine lv_istore (lv' := [(12, .int (nI ((toldF P) + (lowF x 20)))), (11, .int (nI (P 18))), (10, .int (nI (P 20))), (9, .int (nI (P 19))), (8, .int (nI (P 16))), (7, .int (nI (toldF P))), (6, .int (nI (itF P q 18 - P 18))), (5, .int (nI (itF P q 20 - P 20))), (4, .int (nI (itF P q 9))), (3, .int (nI (toldF (itF P q)))), (0, .ref b), (1, .int (nI q)), (2, .int x)]) F.1 F.2.1 dL_passes_79 hl (by decide) rfl (fun ls hl => ?_)
  have L214 : ∀ (H : Heap) (locs : List Loc), CW G s (va_A ws s.heap.size) H locs b P n h → ∀ ls : Array Slot, lv_has ls 14 [(11, .int (nI (P 18))), (10, .int (nI (P 20))), (9, .int (nI (P 19))), (8, .int (nI (P 16))), (7, .int (nI (toldF P))), (6, .int (nI (itF P q 18 - P 18))), (5, .int (nI (itF P q 20 - P 20))), (4, .int (nI (itF P q 9))), (3, .int (nI (toldF (itF P q)))), (0, .ref b), (1, .int (nI q)), (2, .int x)] → W p l e (rmK 7 0 0) s m args below meth c H locs 0 0 (MQ below (QI G ws s.heap.size (fun r v => r = nI 1 ∧ (fun v => ∃ (n' : Nat) (h' : Nat → Nat → Nat), SI (itF P q) n' h' ∧ CS G b (itF P q) 0 (fun _ => 0) n' h' v) v)) args s 0 0 (va_A ws s.heap.size)) (F0 m 214 ls []) := by
    intro H locs w ls hl
    refine lv_aload_n F.1 F.2.1 dL_passes_214 rfl (lv_at hl 9 rfl) ?_
    refine lv_iload_n F.1 F.2.1 dL_passes_215 rfl (lv_at hl 10 rfl) ?_
    refine k_call (As := [.int (nI q)]) (rest := []) hf hX F w (k_runN l G a1 a2 a3 q0 v0 q1 v1 q2 v2 hS (q := q) (by omega) (by omega)) (gL_passes_X7_run) rfl (nA0 := 1) (by decide +kernel) rfl ⟨Nat.le_of_ble_eq_true rfl, Nat.le_of_ble_eq_true rfl⟩ ⟨Nat.le_of_ble_eq_true rfl, Nat.le_of_ble_eq_true rfl⟩ hl rfl (Nat.le_of_ble_eq_true rfl) dL_passes_216 (fun H locs w => ?_)
    refine lv_iload_n F.1 F.2.1 dL_passes_219 rfl (lv_at hl 8 rfl) ?_
    refine r_cne (tgt := 301) F dL_passes_220 (by decide) (by omega) (by omega) (fun c220 => by exfalso; omega) (fun c220 => ?_)
    refine lv_aload_n F.1 F.2.1 dL_passes_223 rfl (lv_at hl 9 rfl) ?_
    refine lv_bipush (v := nI 15) F.1 F.2.1 dL_passes_224 (by decide) ?_
    refine k_call (As := [.int (nI 15)]) (rest := []) hf hX F w (k_count l G a1 a2 a3 q0 v0 q1 v1 q2 v2 hS' a_c15) (gL_passes_X7_count) rfl (nA0 := 1) (by decide +kernel) rfl ⟨Nat.le_of_ble_eq_true rfl, Nat.le_of_ble_eq_true rfl⟩ ⟨Nat.le_of_ble_eq_true rfl, Nat.le_of_ble_eq_true rfl⟩ hl rfl (Nat.le_of_ble_eq_true rfl) dL_passes_226 (fun H locs w => ?_)
    refine lv_iload_n F.1 F.2.1 dL_passes_229 rfl (lv_at hl 8 rfl) ?_
    refine r_cne (tgt := 301) F dL_passes_230 (by decide) (by omega) (by omega) (fun c230 => by exfalso; omega) (fun c230 => ?_)
    refine lv_aload_n F.1 F.2.1 dL_passes_233 rfl (lv_at hl 9 rfl) ?_
    refine lv_bipush (v := nI 10) F.1 F.2.1 dL_passes_234 (by decide) ?_
    refine k_call (As := [.int (nI 10)]) (rest := []) hf hX F w (k_count l G a1 a2 a3 q0 v0 q1 v1 q2 v2 hS' a_c10) (gL_passes_X7_count) rfl (nA0 := 1) (by decide +kernel) rfl ⟨Nat.le_of_ble_eq_true rfl, Nat.le_of_ble_eq_true rfl⟩ ⟨Nat.le_of_ble_eq_true rfl, Nat.le_of_ble_eq_true rfl⟩ hl rfl (Nat.le_of_ble_eq_true rfl) dL_passes_236 (fun H locs w => ?_)
    refine lv_iload F.1 F.2.1 dL_passes_239 (lv_at hl 7 rfl) ?_
    refine r_cne (tgt := 301) F dL_passes_241 (by decide) (by omega) (by omega) (fun c241 => by exfalso; omega) (fun c241 => ?_)
    refine lv_aload_n F.1 F.2.1 dL_passes_244 rfl (lv_at hl 9 rfl) ?_
    refine lv_iconst (v := nI 1) F.1 F.2.1 dL_passes_245 (by decide) ?_
    refine k_call (As := [.int (nI 1)]) (rest := []) hf hX F w (k_account l G a1 a2 a3 q0 v0 q1 v1 q2 v2 hS' a_a1) (gL_passes_X7_account) rfl (nA0 := 1) (by decide +kernel) rfl ⟨Nat.le_of_ble_eq_true rfl, Nat.le_of_ble_eq_true rfl⟩ ⟨Nat.le_of_ble_eq_true rfl, Nat.le_of_ble_eq_true rfl⟩ hl rfl (Nat.le_of_ble_eq_true rfl) dL_passes_246 (fun H locs w => ?_)
    refine lv_iload F.1 F.2.1 dL_passes_249 (lv_at hl 1 rfl) ?_
    refine lv_iload F.1 F.2.1 dL_passes_251 (lv_at hl 6 rfl) ?_
    refine r_iadd F dL_passes_253 ?_
    refine r_cne (tgt := 301) F dL_passes_254 (by decide) (by omega) (by omega) (fun c254 => by exfalso; omega) (fun c254 => ?_)
    refine lv_aload_n F.1 F.2.1 dL_passes_257 rfl (lv_at hl 9 rfl) ?_
    refine lv_bipush (v := nI 18) F.1 F.2.1 dL_passes_258 (by decide) ?_
    refine k_call (As := [.int (nI 18)]) (rest := []) hf hX F w (k_count l G a1 a2 a3 q0 v0 q1 v1 q2 v2 hS' a_c18) (gL_passes_X7_count) rfl (nA0 := 1) (by decide +kernel) rfl ⟨Nat.le_of_ble_eq_true rfl, Nat.le_of_ble_eq_true rfl⟩ ⟨Nat.le_of_ble_eq_true rfl, Nat.le_of_ble_eq_true rfl⟩ hl rfl (Nat.le_of_ble_eq_true rfl) dL_passes_260 (fun H locs w => ?_)
    refine lv_iload F.1 F.2.1 dL_passes_263 (lv_at hl 3 rfl) ?_
    refine lv_iload_n F.1 F.2.1 dL_passes_265 rfl (lv_at hl 10 rfl) ?_
    refine r_iadd F dL_passes_266 ?_
    refine r_cne (tgt := 301) F dL_passes_267 (by decide) (by omega) (by omega) (fun c267 => by exfalso; omega) (fun c267 => ?_)
    refine lv_aload_n F.1 F.2.1 dL_passes_270 rfl (lv_at hl 9 rfl) ?_
    refine lv_bipush (v := nI 20) F.1 F.2.1 dL_passes_271 (by decide) ?_
    refine k_call (As := [.int (nI 20)]) (rest := []) hf hX F w (k_count l G a1 a2 a3 q0 v0 q1 v1 q2 v2 hS' a_c20) (gL_passes_X7_count) rfl (nA0 := 1) (by decide +kernel) rfl ⟨Nat.le_of_ble_eq_true rfl, Nat.le_of_ble_eq_true rfl⟩ ⟨Nat.le_of_ble_eq_true rfl, Nat.le_of_ble_eq_true rfl⟩ hl rfl (Nat.le_of_ble_eq_true rfl) dL_passes_273 (fun H locs w => ?_)
    refine lv_iload F.1 F.2.1 dL_passes_276 (lv_at hl 0 rfl) ?_
    refine lv_iload F.1 F.2.1 dL_passes_278 (lv_at hl 5 rfl) ?_
    refine r_iadd F dL_passes_280 ?_
    refine r_cne (tgt := 301) F dL_passes_281 (by decide) (by omega) (by omega) (fun c281 => by exfalso; omega) (fun c281 => ?_)
    refine lv_aload_n F.1 F.2.1 dL_passes_284 rfl (lv_at hl 9 rfl) ?_
    refine lv_iconst (v := nI 0) F.1 F.2.1 dL_passes_285 (by decide) ?_
    refine k_call (As := [.int (nI 0)]) (rest := []) hf hX F w (k_account l G a1 a2 a3 q0 v0 q1 v1 q2 v2 hS' a_a0) (gL_passes_X7_account) rfl (nA0 := 1) (by decide +kernel) rfl ⟨Nat.le_of_ble_eq_true rfl, Nat.le_of_ble_eq_true rfl⟩ ⟨Nat.le_of_ble_eq_true rfl, Nat.le_of_ble_eq_true rfl⟩ hl rfl (Nat.le_of_ble_eq_true rfl) dL_passes_286 (fun H locs w => ?_)
    refine lv_iload F.1 F.2.1 dL_passes_289 (lv_at hl 2 rfl) ?_
    refine r_clt (tgt := 301) F dL_passes_291 (by decide) (by omega) (by omega) (fun c291 => by exfalso; omega) (fun c291 => ?_)
    refine lv_aload_n F.1 F.2.1 dL_passes_294 rfl (lv_at hl 9 rfl) ?_
    refine k_callL (As := []) (rest := []) hf hX F w (c_L_sound l G a1 a2 a3 q0 v0 q1 v1 q2 v2 hS' j0 b) (gL_passes_L_sound) rfl (nA0 := 1) (by decide +kernel) rfl ⟨Nat.le_of_ble_eq_true rfl, Nat.le_of_ble_eq_true rfl⟩ ⟨Nat.le_of_ble_eq_true rfl, Nat.le_of_ble_eq_true rfl⟩ hl rfl (Nat.le_of_ble_eq_true rfl) dL_passes_295 (fun w1 H locs hv w => ?_)
    have w : CW G s (va_A ws s.heap.size) H locs b (itF P q) (sizeN n) (recH h n P) := ⟨w1, hv, w⟩
    refine r_zne (tgt := 303) F dL_passes_298 (by decide) (by decide) (fun c298 => ?_) (fun c298 => by exfalso; omega)
    refine lv_iload_n F.1 F.2.1 dL_passes_303 rfl (lv_at hl 11 rfl) ?_
    refine lv_bipush (v := nI 8) F.1 F.2.1 dL_passes_304 (by decide) ?_
    refine lv_ishr F.1 F.2.1 dL_passes_306 ?_
    refine lv_iconst (v := nI 3) F.1 F.2.1 dL_passes_307 (by decide) ?_
    refine k_call0 (As := [.int (x >>> (nI 8 &&& 31)), .int (nI 3)]) (rest := []) hf hX F w ((c_L_low l G (x >>> (nI 8 &&& 31)) (n := 3) (by decide)).toX) (gL_passes_L_low) rfl (nA0 := 2) (by decide +kernel) rfl ⟨Nat.le_of_ble_eq_true rfl, Nat.le_of_ble_eq_true rfl⟩ ⟨Nat.le_of_ble_eq_true rfl, Nat.le_of_ble_eq_true rfl⟩ hl rfl (Nat.le_of_ble_eq_true rfl) dL_passes_308 (fun r H locs hr w => ?_)
    subst hr
    have z308 := lowF_lt (x >>> (nI 8 &&& 31)) (n := 3) (by decide)
    refine r_zne (tgt := 364) F dL_passes_311 (by decide) (by omega) (fun c311 => ?_) (fun c311 => ?_)
    · skip
      refine lv_aload_n F.1 F.2.1 dL_passes_364 rfl (lv_at hl 9 rfl) ?_
      refine lv_bipush (v := nI 19) F.1 F.2.1 dL_passes_365 (by decide) ?_
      refine k_call (As := [.int (nI 19)]) (rest := []) hf hX F w (k_count l G a1 a2 a3 q0 v0 q1 v1 q2 v2 hS' a_c19) (gL_passes_X7_count) rfl (nA0 := 1) (by decide +kernel) rfl ⟨Nat.le_of_ble_eq_true rfl, Nat.le_of_ble_eq_true rfl⟩ ⟨Nat.le_of_ble_eq_true rfl, Nat.le_of_ble_eq_true rfl⟩ hl rfl (Nat.le_of_ble_eq_true rfl) dL_passes_367 (fun H locs w => ?_)
      refine r_zeq (tgt := 378) F dL_passes_370 (by decide) (by omega) (fun c370 => ?_) (fun c370 => ?_)
      · skip
        refine lv_aload_n F.1 F.2.1 dL_passes_378 rfl (lv_at hl 9 rfl) ?_
        refine lv_bipush (v := nI 19) F.1 F.2.1 dL_passes_379 (by decide) ?_
        refine k_call (As := [.int (nI 19)]) (rest := []) hf hX F w (k_count l G a1 a2 a3 q0 v0 q1 v1 q2 v2 hS' a_c19) (gL_passes_X7_count) rfl (nA0 := 1) (by decide +kernel) rfl ⟨Nat.le_of_ble_eq_true rfl, Nat.le_of_ble_eq_true rfl⟩ ⟨Nat.le_of_ble_eq_true rfl, Nat.le_of_ble_eq_true rfl⟩ hl rfl (Nat.le_of_ble_eq_true rfl) dL_passes_381 (fun H locs w => ?_)
        refine lv_iconst (v := nI 1) F.1 F.2.1 dL_passes_384 (by decide) ?_
        refine r_cne (tgt := 403) F dL_passes_385 (by decide) (by omega) (by decide) (fun c385 => ?_) (fun c385 => ?_)
        · skip
          refine lv_iconst (v := nI 1) F.1 F.2.1 dL_passes_403 (by decide) ?_
          refine lv_goto (tgt := 408) F.1 F.2.1 dL_passes_404 (by decide) ?_
          obtain ⟨ws', hc', w'⟩ := w
          exact r_zreturn F w' dL_passes_408 rfl ⟨rfl, ⟨_, _, hS', hc'⟩⟩
        · skip
          refine lv_aload_n F.1 F.2.1 dL_passes_388 rfl (lv_at hl 9 rfl) ?_
          refine lv_bipush (v := nI 10) F.1 F.2.1 dL_passes_389 (by decide) ?_
          refine k_call (As := [.int (nI 10)]) (rest := []) hf hX F w (k_count l G a1 a2 a3 q0 v0 q1 v1 q2 v2 hS' a_c10) (gL_passes_X7_count) rfl (nA0 := 1) (by decide +kernel) rfl ⟨Nat.le_of_ble_eq_true rfl, Nat.le_of_ble_eq_true rfl⟩ ⟨Nat.le_of_ble_eq_true rfl, Nat.le_of_ble_eq_true rfl⟩ hl rfl (Nat.le_of_ble_eq_true rfl) dL_passes_391 (fun H locs w => ?_)
          refine lv_aload_n F.1 F.2.1 dL_passes_394 rfl (lv_at hl 9 rfl) ?_
          refine lv_bipush (v := nI 9) F.1 F.2.1 dL_passes_395 (by decide) ?_
          refine k_call (As := [.int (nI 9)]) (rest := [.int (nI ((itF P q) 9))]) hf hX F w (k_count l G a1 a2 a3 q0 v0 q1 v1 q2 v2 hS' a_c9) (gL_passes_X7_count) rfl (nA0 := 1) (by decide +kernel) rfl ⟨Nat.le_of_ble_eq_true rfl, Nat.le_of_ble_eq_true rfl⟩ ⟨Nat.le_of_ble_eq_true rfl, Nat.le_of_ble_eq_true rfl⟩ hl rfl (Nat.le_of_ble_eq_true rfl) dL_passes_397 (fun H locs w => ?_)
          refine r_cne (tgt := 407) F dL_passes_400 (by decide) (by omega) (by omega) (fun c400 => by exfalso; omega) (fun c400 => ?_)
          refine lv_iconst (v := nI 1) F.1 F.2.1 dL_passes_403 (by decide) ?_
          refine lv_goto (tgt := 408) F.1 F.2.1 dL_passes_404 (by decide) ?_
          obtain ⟨ws', hc', w'⟩ := w
          exact r_zreturn F w' dL_passes_408 rfl ⟨rfl, ⟨_, _, hS', hc'⟩⟩
      · skip
        refine lv_iload F.1 F.2.1 dL_passes_373 (lv_at hl 5 rfl) ?_
        refine r_zle (tgt := 407) F dL_passes_375 (by decide) (by omega) (fun c375 => by exfalso; omega) (fun c375 => ?_)
        refine lv_aload_n F.1 F.2.1 dL_passes_378 rfl (lv_at hl 9 rfl) ?_
        refine lv_bipush (v := nI 19) F.1 F.2.1 dL_passes_379 (by decide) ?_
        refine k_call (As := [.int (nI 19)]) (rest := []) hf hX F w (k_count l G a1 a2 a3 q0 v0 q1 v1 q2 v2 hS' a_c19) (gL_passes_X7_count) rfl (nA0 := 1) (by decide +kernel) rfl ⟨Nat.le_of_ble_eq_true rfl, Nat.le_of_ble_eq_true rfl⟩ ⟨Nat.le_of_ble_eq_true rfl, Nat.le_of_ble_eq_true rfl⟩ hl rfl (Nat.le_of_ble_eq_true rfl) dL_passes_381 (fun H locs w => ?_)
        refine lv_iconst (v := nI 1) F.1 F.2.1 dL_passes_384 (by decide) ?_
        refine r_cne (tgt := 403) F dL_passes_385 (by decide) (by omega) (by decide) (fun c385 => ?_) (fun c385 => ?_)
        · skip
          refine lv_iconst (v := nI 1) F.1 F.2.1 dL_passes_403 (by decide) ?_
          refine lv_goto (tgt := 408) F.1 F.2.1 dL_passes_404 (by decide) ?_
          obtain ⟨ws', hc', w'⟩ := w
          exact r_zreturn F w' dL_passes_408 rfl ⟨rfl, ⟨_, _, hS', hc'⟩⟩
        · skip
          refine lv_aload_n F.1 F.2.1 dL_passes_388 rfl (lv_at hl 9 rfl) ?_
          refine lv_bipush (v := nI 10) F.1 F.2.1 dL_passes_389 (by decide) ?_
          refine k_call (As := [.int (nI 10)]) (rest := []) hf hX F w (k_count l G a1 a2 a3 q0 v0 q1 v1 q2 v2 hS' a_c10) (gL_passes_X7_count) rfl (nA0 := 1) (by decide +kernel) rfl ⟨Nat.le_of_ble_eq_true rfl, Nat.le_of_ble_eq_true rfl⟩ ⟨Nat.le_of_ble_eq_true rfl, Nat.le_of_ble_eq_true rfl⟩ hl rfl (Nat.le_of_ble_eq_true rfl) dL_passes_391 (fun H locs w => ?_)
          refine lv_aload_n F.1 F.2.1 dL_passes_394 rfl (lv_at hl 9 rfl) ?_
          refine lv_bipush (v := nI 9) F.1 F.2.1 dL_passes_395 (by decide) ?_
          refine k_call (As := [.int (nI 9)]) (rest := [.int (nI ((itF P q) 9))]) hf hX F w (k_count l G a1 a2 a3 q0 v0 q1 v1 q2 v2 hS' a_c9) (gL_passes_X7_count) rfl (nA0 := 1) (by decide +kernel) rfl ⟨Nat.le_of_ble_eq_true rfl, Nat.le_of_ble_eq_true rfl⟩ ⟨Nat.le_of_ble_eq_true rfl, Nat.le_of_ble_eq_true rfl⟩ hl rfl (Nat.le_of_ble_eq_true rfl) dL_passes_397 (fun H locs w => ?_)
          refine r_cne (tgt := 407) F dL_passes_400 (by decide) (by omega) (by omega) (fun c400 => by exfalso; omega) (fun c400 => ?_)
          refine lv_iconst (v := nI 1) F.1 F.2.1 dL_passes_403 (by decide) ?_
          refine lv_goto (tgt := 408) F.1 F.2.1 dL_passes_404 (by decide) ?_
          obtain ⟨ws', hc', w'⟩ := w
          exact r_zreturn F w' dL_passes_408 rfl ⟨rfl, ⟨_, _, hS', hc'⟩⟩
    · skip
      refine lv_aload_n F.1 F.2.1 dL_passes_314 rfl (lv_at hl 9 rfl) ?_
      refine k_call (As := []) (rest := []) hf hX F w (k_back l G a1 a2 a3 q0 v0 q1 v1 q2 v2 hS hIQ) (gL_passes_X7_undo) rfl (nA0 := 0) (by decide +kernel) rfl ⟨Nat.le_of_ble_eq_true rfl, Nat.le_of_ble_eq_true rfl⟩ ⟨Nat.le_of_ble_eq_true rfl, Nat.le_of_ble_eq_true rfl⟩ hl rfl (Nat.le_of_ble_eq_true rfl) dL_passes_315 (fun H locs w => ?_)
      refine r_zlt (tgt := 362) F dL_passes_318 (by decide) (by omega) ?_
      refine lv_aload_n F.1 F.2.1 dL_passes_321 rfl (lv_at hl 9 rfl) ?_
      refine lv_bipush (v := nI 18) F.1 F.2.1 dL_passes_322 (by decide) ?_
      refine k_call (As := [.int (nI 18)]) (rest := []) hf hX F w (k_count l G a1 a2 a3 q0 v0 q1 v1 q2 v2 hS2 a_c18) (gL_passes_X7_count) rfl (nA0 := 1) (by decide +kernel) rfl ⟨Nat.le_of_ble_eq_true rfl, Nat.le_of_ble_eq_true rfl⟩ ⟨Nat.le_of_ble_eq_true rfl, Nat.le_of_ble_eq_true rfl⟩ hl rfl (Nat.le_of_ble_eq_true rfl) dL_passes_324 (fun H locs w => ?_)
      refine lv_iload F.1 F.2.1 dL_passes_327 (lv_at hl 3 rfl) ?_
      refine r_cne (tgt := 362) F dL_passes_329 (by decide) (by omega) (by omega) (fun c329 => by exfalso; omega) (fun c329 => ?_)
      refine lv_aload_n F.1 F.2.1 dL_passes_332 rfl (lv_at hl 9 rfl) ?_
      refine lv_bipush (v := nI 15) F.1 F.2.1 dL_passes_333 (by decide) ?_
      refine k_call (As := [.int (nI 15)]) (rest := []) hf hX F w (k_count l G a1 a2 a3 q0 v0 q1 v1 q2 v2 hS2 a_c15) (gL_passes_X7_count) rfl (nA0 := 1) (by decide +kernel) rfl ⟨Nat.le_of_ble_eq_true rfl, Nat.le_of_ble_eq_true rfl⟩ ⟨Nat.le_of_ble_eq_true rfl, Nat.le_of_ble_eq_true rfl⟩ hl rfl (Nat.le_of_ble_eq_true rfl) dL_passes_335 (fun H locs w => ?_)
      refine lv_iload F.1 F.2.1 dL_passes_338 (lv_at hl 4 rfl) ?_
      refine r_cne (tgt := 362) F dL_passes_340 (by decide) (by omega) (by omega) (fun c340 => by exfalso; omega) (fun c340 => ?_)
      refine lv_aload_n F.1 F.2.1 dL_passes_343 rfl (lv_at hl 9 rfl) ?_
      refine lv_iconst (v := nI 0) F.1 F.2.1 dL_passes_344 (by decide) ?_
      refine k_call (As := [.int (nI 0)]) (rest := []) hf hX F w (k_account l G a1 a2 a3 q0 v0 q1 v1 q2 v2 hS2 a_a0) (gL_passes_X7_account) rfl (nA0 := 1) (by decide +kernel) rfl ⟨Nat.le_of_ble_eq_true rfl, Nat.le_of_ble_eq_true rfl⟩ ⟨Nat.le_of_ble_eq_true rfl, Nat.le_of_ble_eq_true rfl⟩ hl rfl (Nat.le_of_ble_eq_true rfl) dL_passes_345 (fun H locs w => ?_)
      refine lv_iload F.1 F.2.1 dL_passes_348 (lv_at hl 2 rfl) ?_
      refine r_cne (tgt := 362) F dL_passes_350 (by decide) (by omega) (by omega) (fun c350 => by exfalso; omega) (fun c350 => ?_)
      refine lv_aload_n F.1 F.2.1 dL_passes_353 rfl (lv_at hl 9 rfl) ?_
      refine lv_iload_n F.1 F.2.1 dL_passes_354 rfl (lv_at hl 10 rfl) ?_
      refine k_call (As := [.int (nI q)]) (rest := []) hf hX F w (k_runN l G a1 a2 a3 q0 v0 q1 v1 q2 v2 hS2 (q := q) (by omega) (by omega)) (gL_passes_X7_run) rfl (nA0 := 1) (by decide +kernel) rfl ⟨Nat.le_of_ble_eq_true rfl, Nat.le_of_ble_eq_true rfl⟩ ⟨Nat.le_of_ble_eq_true rfl, Nat.le_of_ble_eq_true rfl⟩ hl rfl (Nat.le_of_ble_eq_true rfl) dL_passes_355 (fun H locs w => ?_)
      refine lv_iload_n F.1 F.2.1 dL_passes_358 rfl (lv_at hl 8 rfl) ?_
      refine r_ceq (tgt := 364) F dL_passes_359 (by decide) (by omega) (by omega) (fun c359 => ?_) (fun c359 => by exfalso; omega)
      refine lv_aload_n F.1 F.2.1 dL_passes_364 rfl (lv_at hl 9 rfl) ?_
      refine lv_bipush (v := nI 19) F.1 F.2.1 dL_passes_365 (by decide) ?_
      refine k_call (As := [.int (nI 19)]) (rest := []) hf hX F w (k_count l G a1 a2 a3 q0 v0 q1 v1 q2 v2 hS3 a_c19) (gL_passes_X7_count) rfl (nA0 := 1) (by decide +kernel) rfl ⟨Nat.le_of_ble_eq_true rfl, Nat.le_of_ble_eq_true rfl⟩ ⟨Nat.le_of_ble_eq_true rfl, Nat.le_of_ble_eq_true rfl⟩ hl rfl (Nat.le_of_ble_eq_true rfl) dL_passes_367 (fun H locs w => ?_)
      refine r_zeq (tgt := 378) F dL_passes_370 (by decide) (by omega) (fun c370 => ?_) (fun c370 => ?_)
      · skip
        refine lv_aload_n F.1 F.2.1 dL_passes_378 rfl (lv_at hl 9 rfl) ?_
        refine lv_bipush (v := nI 19) F.1 F.2.1 dL_passes_379 (by decide) ?_
        refine k_call (As := [.int (nI 19)]) (rest := []) hf hX F w (k_count l G a1 a2 a3 q0 v0 q1 v1 q2 v2 hS3 a_c19) (gL_passes_X7_count) rfl (nA0 := 1) (by decide +kernel) rfl ⟨Nat.le_of_ble_eq_true rfl, Nat.le_of_ble_eq_true rfl⟩ ⟨Nat.le_of_ble_eq_true rfl, Nat.le_of_ble_eq_true rfl⟩ hl rfl (Nat.le_of_ble_eq_true rfl) dL_passes_381 (fun H locs w => ?_)
        refine lv_iconst (v := nI 1) F.1 F.2.1 dL_passes_384 (by decide) ?_
        refine r_cne (tgt := 403) F dL_passes_385 (by decide) (by omega) (by decide) (fun c385 => ?_) (fun c385 => ?_)
        · skip
          refine lv_iconst (v := nI 1) F.1 F.2.1 dL_passes_403 (by decide) ?_
          refine lv_goto (tgt := 408) F.1 F.2.1 dL_passes_404 (by decide) ?_
          obtain ⟨ws', hc', w'⟩ := w
          exact r_zreturn F w' dL_passes_408 rfl ⟨rfl, ⟨_, _, hS3, hc'⟩⟩
        · skip
          refine lv_aload_n F.1 F.2.1 dL_passes_388 rfl (lv_at hl 9 rfl) ?_
          refine lv_bipush (v := nI 10) F.1 F.2.1 dL_passes_389 (by decide) ?_
          refine k_call (As := [.int (nI 10)]) (rest := []) hf hX F w (k_count l G a1 a2 a3 q0 v0 q1 v1 q2 v2 hS3 a_c10) (gL_passes_X7_count) rfl (nA0 := 1) (by decide +kernel) rfl ⟨Nat.le_of_ble_eq_true rfl, Nat.le_of_ble_eq_true rfl⟩ ⟨Nat.le_of_ble_eq_true rfl, Nat.le_of_ble_eq_true rfl⟩ hl rfl (Nat.le_of_ble_eq_true rfl) dL_passes_391 (fun H locs w => ?_)
          refine lv_aload_n F.1 F.2.1 dL_passes_394 rfl (lv_at hl 9 rfl) ?_
          refine lv_bipush (v := nI 9) F.1 F.2.1 dL_passes_395 (by decide) ?_
          refine k_call (As := [.int (nI 9)]) (rest := [.int (nI ((itF P q) 9))]) hf hX F w (k_count l G a1 a2 a3 q0 v0 q1 v1 q2 v2 hS3 a_c9) (gL_passes_X7_count) rfl (nA0 := 1) (by decide +kernel) rfl ⟨Nat.le_of_ble_eq_true rfl, Nat.le_of_ble_eq_true rfl⟩ ⟨Nat.le_of_ble_eq_true rfl, Nat.le_of_ble_eq_true rfl⟩ hl rfl (Nat.le_of_ble_eq_true rfl) dL_passes_397 (fun H locs w => ?_)
          refine r_cne (tgt := 407) F dL_passes_400 (by decide) (by omega) (by omega) (fun c400 => by exfalso; omega) (fun c400 => ?_)
          refine lv_iconst (v := nI 1) F.1 F.2.1 dL_passes_403 (by decide) ?_
          refine lv_goto (tgt := 408) F.1 F.2.1 dL_passes_404 (by decide) ?_
          obtain ⟨ws', hc', w'⟩ := w
          exact r_zreturn F w' dL_passes_408 rfl ⟨rfl, ⟨_, _, hS3, hc'⟩⟩
      · skip
        refine lv_iload F.1 F.2.1 dL_passes_373 (lv_at hl 5 rfl) ?_
        refine r_zle (tgt := 407) F dL_passes_375 (by decide) (by omega) (fun c375 => by exfalso; omega) (fun c375 => ?_)
        refine lv_aload_n F.1 F.2.1 dL_passes_378 rfl (lv_at hl 9 rfl) ?_
        refine lv_bipush (v := nI 19) F.1 F.2.1 dL_passes_379 (by decide) ?_
        refine k_call (As := [.int (nI 19)]) (rest := []) hf hX F w (k_count l G a1 a2 a3 q0 v0 q1 v1 q2 v2 hS3 a_c19) (gL_passes_X7_count) rfl (nA0 := 1) (by decide +kernel) rfl ⟨Nat.le_of_ble_eq_true rfl, Nat.le_of_ble_eq_true rfl⟩ ⟨Nat.le_of_ble_eq_true rfl, Nat.le_of_ble_eq_true rfl⟩ hl rfl (Nat.le_of_ble_eq_true rfl) dL_passes_381 (fun H locs w => ?_)
        refine lv_iconst (v := nI 1) F.1 F.2.1 dL_passes_384 (by decide) ?_
        refine r_cne (tgt := 403) F dL_passes_385 (by decide) (by omega) (by decide) (fun c385 => ?_) (fun c385 => ?_)
        · skip
          refine lv_iconst (v := nI 1) F.1 F.2.1 dL_passes_403 (by decide) ?_
          refine lv_goto (tgt := 408) F.1 F.2.1 dL_passes_404 (by decide) ?_
          obtain ⟨ws', hc', w'⟩ := w
          exact r_zreturn F w' dL_passes_408 rfl ⟨rfl, ⟨_, _, hS3, hc'⟩⟩
        · skip
          refine lv_aload_n F.1 F.2.1 dL_passes_388 rfl (lv_at hl 9 rfl) ?_
          refine lv_bipush (v := nI 10) F.1 F.2.1 dL_passes_389 (by decide) ?_
          refine k_call (As := [.int (nI 10)]) (rest := []) hf hX F w (k_count l G a1 a2 a3 q0 v0 q1 v1 q2 v2 hS3 a_c10) (gL_passes_X7_count) rfl (nA0 := 1) (by decide +kernel) rfl ⟨Nat.le_of_ble_eq_true rfl, Nat.le_of_ble_eq_true rfl⟩ ⟨Nat.le_of_ble_eq_true rfl, Nat.le_of_ble_eq_true rfl⟩ hl rfl (Nat.le_of_ble_eq_true rfl) dL_passes_391 (fun H locs w => ?_)
          refine lv_aload_n F.1 F.2.1 dL_passes_394 rfl (lv_at hl 9 rfl) ?_
          refine lv_bipush (v := nI 9) F.1 F.2.1 dL_passes_395 (by decide) ?_
          refine k_call (As := [.int (nI 9)]) (rest := [.int (nI ((itF P q) 9))]) hf hX F w (k_count l G a1 a2 a3 q0 v0 q1 v1 q2 v2 hS3 a_c9) (gL_passes_X7_count) rfl (nA0 := 1) (by decide +kernel) rfl ⟨Nat.le_of_ble_eq_true rfl, Nat.le_of_ble_eq_true rfl⟩ ⟨Nat.le_of_ble_eq_true rfl, Nat.le_of_ble_eq_true rfl⟩ hl rfl (Nat.le_of_ble_eq_true rfl) dL_passes_397 (fun H locs w => ?_)
          refine r_cne (tgt := 407) F dL_passes_400 (by decide) (by omega) (by omega) (fun c400 => by exfalso; omega) (fun c400 => ?_)
          refine lv_iconst (v := nI 1) F.1 F.2.1 dL_passes_403 (by decide) ?_
          refine lv_goto (tgt := 408) F.1 F.2.1 dL_passes_404 (by decide) ?_
          obtain ⟨ws', hc', w'⟩ := w
          exact r_zreturn F w' dL_passes_408 rfl ⟨rfl, ⟨_, _, hS3, hc'⟩⟩
  rcases ticks_is P (lowF x 20) with ⟨u1, u2⟩ | ⟨j, u1, u2, u3, u4, u5, u6⟩
  · skip
    refine lv_aload_n F.1 F.2.1 dL_passes_81 rfl (lv_at hl 10 rfl) ?_
    refine lv_iload F.1 F.2.1 dL_passes_82 (lv_at hl 0 rfl) ?_
    refine k_call (As := [.int (nI ((toldF P) + (lowF x 20)))]) (rest := []) hf hX F w (k_toN l G a1 a2 a3 q0 v0 q1 v1 q2 v2 hS (d := toldF P + lowF x 20) (by omega) u1) (gL_passes_X7_ticksTo) rfl (nA0 := 1) (by decide +kernel) rfl ⟨Nat.le_of_ble_eq_true rfl, Nat.le_of_ble_eq_true rfl⟩ ⟨Nat.le_of_ble_eq_true rfl, Nat.le_of_ble_eq_true rfl⟩ hl rfl (Nat.le_of_ble_eq_true rfl) dL_passes_84 (fun H locs w => ?_)
    refine lv_istore (lv' := [(13, .int (-4)), (12, .int (nI ((toldF P) + (lowF x 20)))), (11, .int (nI (P 18))), (10, .int (nI (P 20))), (9, .int (nI (P 19))), (8, .int (nI (P 16))), (7, .int (nI (toldF P))), (6, .int (nI (itF P q 18 - P 18))), (5, .int (nI (itF P q 20 - P 20))), (4, .int (nI (itF P q 9))), (3, .int (nI (toldF (itF P q)))), (0, .ref b), (1, .int (nI q)), (2, .int x)]) F.1 F.2.1 dL_passes_87 hl (by decide) rfl (fun ls hl => ?_)
    refine lv_aload_n F.1 F.2.1 dL_passes_89 rfl (lv_at hl 11 rfl) ?_
    refine lv_bipush (v := nI 18) F.1 F.2.1 dL_passes_90 (by decide) ?_
    refine k_call (As := [.int (nI 18)]) (rest := []) hf hX F w (k_count l G a1 a2 a3 q0 v0 q1 v1 q2 v2 hS a_c18) (gL_passes_X7_count) rfl (nA0 := 1) (by decide +kernel) rfl ⟨Nat.le_of_ble_eq_true rfl, Nat.le_of_ble_eq_true rfl⟩ ⟨Nat.le_of_ble_eq_true rfl, Nat.le_of_ble_eq_true rfl⟩ hl rfl (Nat.le_of_ble_eq_true rfl) dL_passes_92 (fun H locs w => ?_)
    refine lv_iload F.1 F.2.1 dL_passes_95 (lv_at hl 5 rfl) ?_
    refine r_cne (tgt := 165) F dL_passes_97 (by decide) (by omega) (by omega) (fun c97 => by exfalso; omega) (fun c97 => ?_)
    refine lv_iload_n F.1 F.2.1 dL_passes_100 rfl (lv_at hl 10 rfl) ?_
    refine lv_iload F.1 F.2.1 dL_passes_101 (lv_at hl 6 rfl) ?_
    refine r_clt (tgt := 165) F dL_passes_103 (by decide) (by omega) (by omega) (fun c103 => by exfalso; omega) (fun c103 => ?_)
    refine lv_iload F.1 F.2.1 dL_passes_106 (lv_at hl 9 rfl) ?_
    refine lv_aload_n F.1 F.2.1 dL_passes_108 rfl (lv_at hl 11 rfl) ?_
    refine lv_bipush (v := nI 10) F.1 F.2.1 dL_passes_109 (by decide) ?_
    refine k_call (As := [.int (nI 10)]) (rest := [.int (nI (itF P q 9))]) hf hX F w (k_count l G a1 a2 a3 q0 v0 q1 v1 q2 v2 hS a_c10) (gL_passes_X7_count) rfl (nA0 := 1) (by decide +kernel) rfl ⟨Nat.le_of_ble_eq_true rfl, Nat.le_of_ble_eq_true rfl⟩ ⟨Nat.le_of_ble_eq_true rfl, Nat.le_of_ble_eq_true rfl⟩ hl rfl (Nat.le_of_ble_eq_true rfl) dL_passes_111 (fun H locs w => ?_)
    refine r_clt (tgt := 165) F dL_passes_114 (by decide) (by omega) (by omega) (fun c114 => by exfalso; omega) (fun c114 => ?_)
    refine lv_iload F.1 F.2.1 dL_passes_117 (lv_at hl 7 rfl) ?_
    refine r_zlt (tgt := 165) F dL_passes_119 (by decide) (by omega) ?_
    refine lv_iload F.1 F.2.1 dL_passes_122 (lv_at hl 7 rfl) ?_
    refine lv_iload_n F.1 F.2.1 dL_passes_124 rfl (lv_at hl 12 rfl) ?_
    refine r_cgt (tgt := 165) F dL_passes_125 (by decide) (by omega) (by omega) (fun c125 => by exfalso; omega) (fun c125 => ?_)
    refine lv_iload F.1 F.2.1 dL_passes_128 (lv_at hl 0 rfl) ?_
    refine lv_if_ne (tgt := 137) F.1 F.2.1 dL_passes_130 (by decide) (fun _ => ?_) (fun q => absurd q (by decide))
    refine lv_iconst (v := nI 0) F.1 F.2.1 dL_passes_137 (by decide) ?_
    refine lv_iload F.1 F.2.1 dL_passes_138 (lv_at hl 1 rfl) ?_
    refine lv_iload F.1 F.2.1 dL_passes_140 (lv_at hl 6 rfl) ?_
    refine r_cne (tgt := 149) F dL_passes_142 (by decide) (by omega) (by omega) (fun c142 => ?_) (fun c142 => by exfalso; omega)
    refine lv_iconst (v := nI 0) F.1 F.2.1 dL_passes_149 (by decide) ?_
    refine r_cne (tgt := 165) F dL_passes_150 (by decide) (by decide) (by decide) (fun c150 => by exfalso; omega) (fun c150 => ?_)
    refine lv_iload F.1 F.2.1 dL_passes_153 (lv_at hl 0 rfl) ?_
    refine lv_if_ge (tgt := 167) F.1 F.2.1 dL_passes_155 (by decide) (fun q => absurd q (by decide)) (fun _ => ?_)
    refine lv_iload F.1 F.2.1 dL_passes_158 (lv_at hl 0 rfl) ?_
    refine lv_bipush (v := (-4)) F.1 F.2.1 dL_passes_160 (by decide) ?_
    refine lv_icmp_eq (tgt := 167) F.1 F.2.1 dL_passes_162 (by decide) (fun _ => ?_) (fun q => absurd rfl q)
    refine lv_iload F.1 F.2.1 dL_passes_167 (lv_at hl 0 rfl) ?_
    refine lv_if_le (tgt := 214) F.1 F.2.1 dL_passes_169 (by decide) (fun _ => ?_) (fun q => absurd (by decide) q)
    exact L214 H locs w ls (lv_sub hl [2, 3, 4, 5, 6, 7, 8, 9, 10, 11, 12, 13] rfl)
  · skip
    have u3 := u3 (by omega)
    have u7 := told_b (it_ok hI j u3).1
    by_cases hj0 : j = 0
    · skip
      refine lv_aload_n F.1 F.2.1 dL_passes_81 rfl (lv_at hl 10 rfl) ?_
      refine lv_iload F.1 F.2.1 dL_passes_82 (lv_at hl 0 rfl) ?_
      refine k_call (As := [.int (nI ((toldF P) + (lowF x 20)))]) (rest := []) hf hX F w (k_toN l G a1 a2 a3 q0 v0 q1 v1 q2 v2 hS (d := toldF P + lowF x 20) (by omega) u1) (gL_passes_X7_ticksTo) rfl (nA0 := 1) (by decide +kernel) rfl ⟨Nat.le_of_ble_eq_true rfl, Nat.le_of_ble_eq_true rfl⟩ ⟨Nat.le_of_ble_eq_true rfl, Nat.le_of_ble_eq_true rfl⟩ hl rfl (Nat.le_of_ble_eq_true rfl) dL_passes_84 (fun H locs w => ?_)
      refine lv_istore (lv' := [(13, .int (nI j)), (12, .int (nI ((toldF P) + (lowF x 20)))), (11, .int (nI (P 18))), (10, .int (nI (P 20))), (9, .int (nI (P 19))), (8, .int (nI (P 16))), (7, .int (nI (toldF P))), (6, .int (nI (itF P q 18 - P 18))), (5, .int (nI (itF P q 20 - P 20))), (4, .int (nI (itF P q 9))), (3, .int (nI (toldF (itF P q)))), (0, .ref b), (1, .int (nI q)), (2, .int x)]) F.1 F.2.1 dL_passes_87 hl (by decide) rfl (fun ls hl => ?_)
      refine lv_aload_n F.1 F.2.1 dL_passes_89 rfl (lv_at hl 11 rfl) ?_
      refine lv_bipush (v := nI 18) F.1 F.2.1 dL_passes_90 (by decide) ?_
      refine k_call (As := [.int (nI 18)]) (rest := []) hf hX F w (k_count l G a1 a2 a3 q0 v0 q1 v1 q2 v2 hS a_c18) (gL_passes_X7_count) rfl (nA0 := 1) (by decide +kernel) rfl ⟨Nat.le_of_ble_eq_true rfl, Nat.le_of_ble_eq_true rfl⟩ ⟨Nat.le_of_ble_eq_true rfl, Nat.le_of_ble_eq_true rfl⟩ hl rfl (Nat.le_of_ble_eq_true rfl) dL_passes_92 (fun H locs w => ?_)
      refine lv_iload F.1 F.2.1 dL_passes_95 (lv_at hl 5 rfl) ?_
      refine r_cne (tgt := 165) F dL_passes_97 (by decide) (by omega) (by omega) (fun c97 => by exfalso; omega) (fun c97 => ?_)
      refine lv_iload_n F.1 F.2.1 dL_passes_100 rfl (lv_at hl 10 rfl) ?_
      refine lv_iload F.1 F.2.1 dL_passes_101 (lv_at hl 6 rfl) ?_
      refine r_clt (tgt := 165) F dL_passes_103 (by decide) (by omega) (by omega) (fun c103 => by exfalso; omega) (fun c103 => ?_)
      refine lv_iload F.1 F.2.1 dL_passes_106 (lv_at hl 9 rfl) ?_
      refine lv_aload_n F.1 F.2.1 dL_passes_108 rfl (lv_at hl 11 rfl) ?_
      refine lv_bipush (v := nI 10) F.1 F.2.1 dL_passes_109 (by decide) ?_
      refine k_call (As := [.int (nI 10)]) (rest := [.int (nI (itF P q 9))]) hf hX F w (k_count l G a1 a2 a3 q0 v0 q1 v1 q2 v2 hS a_c10) (gL_passes_X7_count) rfl (nA0 := 1) (by decide +kernel) rfl ⟨Nat.le_of_ble_eq_true rfl, Nat.le_of_ble_eq_true rfl⟩ ⟨Nat.le_of_ble_eq_true rfl, Nat.le_of_ble_eq_true rfl⟩ hl rfl (Nat.le_of_ble_eq_true rfl) dL_passes_111 (fun H locs w => ?_)
      refine r_clt (tgt := 165) F dL_passes_114 (by decide) (by omega) (by omega) (fun c114 => by exfalso; omega) (fun c114 => ?_)
      refine lv_iload F.1 F.2.1 dL_passes_117 (lv_at hl 7 rfl) ?_
      refine r_zlt (tgt := 165) F dL_passes_119 (by decide) (by omega) ?_
      refine lv_iload F.1 F.2.1 dL_passes_122 (lv_at hl 7 rfl) ?_
      refine lv_iload_n F.1 F.2.1 dL_passes_124 rfl (lv_at hl 12 rfl) ?_
      refine r_cgt (tgt := 165) F dL_passes_125 (by decide) (by omega) (by omega) (fun c125 => by exfalso; omega) (fun c125 => ?_)
      refine lv_iload F.1 F.2.1 dL_passes_128 (lv_at hl 0 rfl) ?_
      refine r_zne (tgt := 137) F dL_passes_130 (by decide) (by omega) (fun c130 => by exfalso; omega) (fun c130 => ?_)
      refine lv_iconst (v := nI 1) F.1 F.2.1 dL_passes_133 (by decide) ?_
      refine lv_goto (tgt := 138) F.1 F.2.1 dL_passes_134 (by decide) ?_
      refine lv_iload F.1 F.2.1 dL_passes_138 (lv_at hl 1 rfl) ?_
      refine lv_iload F.1 F.2.1 dL_passes_140 (lv_at hl 6 rfl) ?_
      refine r_cne (tgt := 149) F dL_passes_142 (by decide) (by omega) (by omega) (fun c142 => by exfalso; omega) (fun c142 => ?_)
      refine lv_iconst (v := nI 1) F.1 F.2.1 dL_passes_145 (by decide) ?_
      refine lv_goto (tgt := 150) F.1 F.2.1 dL_passes_146 (by decide) ?_
      refine r_cne (tgt := 165) F dL_passes_150 (by decide) (by decide) (by decide) (fun c150 => by exfalso; omega) (fun c150 => ?_)
      refine lv_iload F.1 F.2.1 dL_passes_153 (lv_at hl 0 rfl) ?_
      refine r_zge (tgt := 167) F dL_passes_155 (by decide) (by omega) ?_
      refine lv_iload F.1 F.2.1 dL_passes_167 (lv_at hl 0 rfl) ?_
      refine r_zle (tgt := 214) F dL_passes_169 (by decide) (by omega) (fun c169 => ?_) (fun c169 => by exfalso; omega)
      exact L214 H locs w ls (lv_sub hl [2, 3, 4, 5, 6, 7, 8, 9, 10, 11, 12, 13] rfl)
    · skip
      have u8 := u5 (j - 1) (by omega)
      have u9 := told_b (it_ok hI (j - 1) (by omega)).1
      refine lv_aload_n F.1 F.2.1 dL_passes_81 rfl (lv_at hl 10 rfl) ?_
      refine lv_iload F.1 F.2.1 dL_passes_82 (lv_at hl 0 rfl) ?_
      refine k_call (As := [.int (nI ((toldF P) + (lowF x 20)))]) (rest := []) hf hX F w (k_toN l G a1 a2 a3 q0 v0 q1 v1 q2 v2 hS (d := toldF P + lowF x 20) (by omega) u1) (gL_passes_X7_ticksTo) rfl (nA0 := 1) (by decide +kernel) rfl ⟨Nat.le_of_ble_eq_true rfl, Nat.le_of_ble_eq_true rfl⟩ ⟨Nat.le_of_ble_eq_true rfl, Nat.le_of_ble_eq_true rfl⟩ hl rfl (Nat.le_of_ble_eq_true rfl) dL_passes_84 (fun H locs w => ?_)
      refine lv_istore (lv' := [(13, .int (nI j)), (12, .int (nI ((toldF P) + (lowF x 20)))), (11, .int (nI (P 18))), (10, .int (nI (P 20))), (9, .int (nI (P 19))), (8, .int (nI (P 16))), (7, .int (nI (toldF P))), (6, .int (nI (itF P q 18 - P 18))), (5, .int (nI (itF P q 20 - P 20))), (4, .int (nI (itF P q 9))), (3, .int (nI (toldF (itF P q)))), (0, .ref b), (1, .int (nI q)), (2, .int x)]) F.1 F.2.1 dL_passes_87 hl (by decide) rfl (fun ls hl => ?_)
      refine lv_aload_n F.1 F.2.1 dL_passes_89 rfl (lv_at hl 11 rfl) ?_
      refine lv_bipush (v := nI 18) F.1 F.2.1 dL_passes_90 (by decide) ?_
      refine k_call (As := [.int (nI 18)]) (rest := []) hf hX F w (k_count l G a1 a2 a3 q0 v0 q1 v1 q2 v2 hS a_c18) (gL_passes_X7_count) rfl (nA0 := 1) (by decide +kernel) rfl ⟨Nat.le_of_ble_eq_true rfl, Nat.le_of_ble_eq_true rfl⟩ ⟨Nat.le_of_ble_eq_true rfl, Nat.le_of_ble_eq_true rfl⟩ hl rfl (Nat.le_of_ble_eq_true rfl) dL_passes_92 (fun H locs w => ?_)
      refine lv_iload F.1 F.2.1 dL_passes_95 (lv_at hl 5 rfl) ?_
      refine r_cne (tgt := 165) F dL_passes_97 (by decide) (by omega) (by omega) (fun c97 => by exfalso; omega) (fun c97 => ?_)
      refine lv_iload_n F.1 F.2.1 dL_passes_100 rfl (lv_at hl 10 rfl) ?_
      refine lv_iload F.1 F.2.1 dL_passes_101 (lv_at hl 6 rfl) ?_
      refine r_clt (tgt := 165) F dL_passes_103 (by decide) (by omega) (by omega) (fun c103 => by exfalso; omega) (fun c103 => ?_)
      refine lv_iload F.1 F.2.1 dL_passes_106 (lv_at hl 9 rfl) ?_
      refine lv_aload_n F.1 F.2.1 dL_passes_108 rfl (lv_at hl 11 rfl) ?_
      refine lv_bipush (v := nI 10) F.1 F.2.1 dL_passes_109 (by decide) ?_
      refine k_call (As := [.int (nI 10)]) (rest := [.int (nI (itF P q 9))]) hf hX F w (k_count l G a1 a2 a3 q0 v0 q1 v1 q2 v2 hS a_c10) (gL_passes_X7_count) rfl (nA0 := 1) (by decide +kernel) rfl ⟨Nat.le_of_ble_eq_true rfl, Nat.le_of_ble_eq_true rfl⟩ ⟨Nat.le_of_ble_eq_true rfl, Nat.le_of_ble_eq_true rfl⟩ hl rfl (Nat.le_of_ble_eq_true rfl) dL_passes_111 (fun H locs w => ?_)
      refine r_clt (tgt := 165) F dL_passes_114 (by decide) (by omega) (by omega) (fun c114 => by exfalso; omega) (fun c114 => ?_)
      refine lv_iload F.1 F.2.1 dL_passes_117 (lv_at hl 7 rfl) ?_
      refine r_zlt (tgt := 165) F dL_passes_119 (by decide) (by omega) ?_
      refine lv_iload F.1 F.2.1 dL_passes_122 (lv_at hl 7 rfl) ?_
      refine lv_iload_n F.1 F.2.1 dL_passes_124 rfl (lv_at hl 12 rfl) ?_
      refine r_cgt (tgt := 165) F dL_passes_125 (by decide) (by omega) (by omega) (fun c125 => by exfalso; omega) (fun c125 => ?_)
      refine lv_iload F.1 F.2.1 dL_passes_128 (lv_at hl 0 rfl) ?_
      refine r_zne (tgt := 137) F dL_passes_130 (by decide) (by omega) (fun c130 => ?_) (fun c130 => by exfalso; omega)
      refine lv_iconst (v := nI 0) F.1 F.2.1 dL_passes_137 (by decide) ?_
      refine lv_iload F.1 F.2.1 dL_passes_138 (lv_at hl 1 rfl) ?_
      refine lv_iload F.1 F.2.1 dL_passes_140 (lv_at hl 6 rfl) ?_
      refine r_cne (tgt := 149) F dL_passes_142 (by decide) (by omega) (by omega) (fun c142 => ?_) (fun c142 => by exfalso; omega)
      refine lv_iconst (v := nI 0) F.1 F.2.1 dL_passes_149 (by decide) ?_
      refine r_cne (tgt := 165) F dL_passes_150 (by decide) (by decide) (by decide) (fun c150 => by exfalso; omega) (fun c150 => ?_)
      refine lv_iload F.1 F.2.1 dL_passes_153 (lv_at hl 0 rfl) ?_
      refine r_zge (tgt := 167) F dL_passes_155 (by decide) (by omega) ?_
      refine lv_iload F.1 F.2.1 dL_passes_167 (lv_at hl 0 rfl) ?_
      refine r_zle (tgt := 214) F dL_passes_169 (by decide) (by omega) (fun c169 => by exfalso; omega) (fun c169 => ?_)
      refine lv_iload F.1 F.2.1 dL_passes_172 (lv_at hl 0 rfl) ?_
      refine lv_sipush (v := nI 1001) F.1 F.2.1 dL_passes_174 (by decide) ?_
      refine r_cge (tgt := 214) F dL_passes_177 (by decide) (by omega) (by decide) (fun c177 => ?_) (fun c177 => ?_)
      · skip
        exact L214 H locs w ls (lv_sub hl [2, 3, 4, 5, 6, 7, 8, 9, 10, 11, 12, 13] rfl)
      · skip
        refine lv_aload_n F.1 F.2.1 dL_passes_180 rfl (lv_at hl 11 rfl) ?_
        refine lv_iload F.1 F.2.1 dL_passes_181 (lv_at hl 0 rfl) ?_
        refine lv_iconst (v := nI 0) F.1 F.2.1 dL_passes_183 (by decide) ?_
        refine k_call (As := [.int (nI j), .int (nI 0)]) (rest := []) hf hX F w (k_ifN l G a1 a2 a3 q0 v0 q1 v1 q2 v2 hS (q := j) (j := 0) (by omega) (by decide) (by omega) (a_if0 _)) (gL_passes_X7_ifRun) rfl (nA0 := 2) (by decide +kernel) rfl ⟨Nat.le_of_ble_eq_true rfl, Nat.le_of_ble_eq_true rfl⟩ ⟨Nat.le_of_ble_eq_true rfl, Nat.le_of_ble_eq_true rfl⟩ hl rfl (Nat.le_of_ble_eq_true rfl) dL_passes_184 (fun H locs w => ?_)
        refine lv_iload F.1 F.2.1 dL_passes_187 (lv_at hl 1 rfl) ?_
        refine r_clt (tgt := 212) F dL_passes_189 (by decide) (by omega) (by omega) (fun c189 => by exfalso; omega) (fun c189 => ?_)
        refine lv_iload F.1 F.2.1 dL_passes_192 (lv_at hl 0 rfl) ?_
        refine lv_iconst (v := nI 1) F.1 F.2.1 dL_passes_194 (by decide) ?_
        refine r_cle (tgt := 214) F dL_passes_195 (by decide) (by omega) (by decide) (fun c195 => ?_) (fun c195 => ?_)
        · skip
          exact L214 H locs w ls (lv_sub hl [2, 3, 4, 5, 6, 7, 8, 9, 10, 11, 12, 13] rfl)
        · skip
          refine lv_aload_n F.1 F.2.1 dL_passes_198 rfl (lv_at hl 11 rfl) ?_
          refine lv_iload F.1 F.2.1 dL_passes_199 (lv_at hl 0 rfl) ?_
          refine lv_iconst (v := nI 1) F.1 F.2.1 dL_passes_201 (by decide) ?_
          refine r_isub F dL_passes_202 (by omega) ?_
          refine lv_iconst (v := nI 0) F.1 F.2.1 dL_passes_203 (by decide) ?_
          refine k_call (As := [.int (nI (j - 1)), .int (nI 0)]) (rest := []) hf hX F w (k_ifN l G a1 a2 a3 q0 v0 q1 v1 q2 v2 hS (q := j - 1) (j := 0) (by omega) (by decide) (by omega) (a_if0 _)) (gL_passes_X7_ifRun) rfl (nA0 := 2) (by decide +kernel) rfl ⟨Nat.le_of_ble_eq_true rfl, Nat.le_of_ble_eq_true rfl⟩ ⟨Nat.le_of_ble_eq_true rfl, Nat.le_of_ble_eq_true rfl⟩ hl rfl (Nat.le_of_ble_eq_true rfl) dL_passes_204 (fun H locs w => ?_)
          refine lv_iload F.1 F.2.1 dL_passes_207 (lv_at hl 1 rfl) ?_
          refine r_clt (tgt := 214) F dL_passes_209 (by decide) (by omega) (by omega) (fun c209 => ?_) (fun c209 => by exfalso; omega)
          exact L214 H locs w ls (lv_sub hl [2, 3, 4, 5, 6, 7, 8, 9, 10, 11, 12, 13] rfl)
