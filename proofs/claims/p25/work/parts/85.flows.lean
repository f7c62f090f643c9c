/-! ===== p25: the law's method flows ===== -/
set_option maxRecDepth 100000 in
set_option maxHeartbeats 8000000 in
theorem c_L_flows (l : Launch) (G : KG) (a1 a2 a3 q0 v0 q1 v1 q2 v2 : Nat) {P : Nat → Nat} {n : Nat} {h : Nat → Nat → Nat} (hS : SI P n h) (hJ : JI P) (hz : P 16 + 10 ≤ 20000) (x : Int32) (b : Nat) : KL l G (lawX a1 a2 a3 q0 v0 q1 v1 q2 v2) yL_flows wsL_flows 7 b [.int x] P n h (nI 1) (fun v => ∃ (n' : Nat) (h' : Nat → Nat → Nat), SI P n' h' ∧ CS G b P 0 (fun _ => 0) n' h' v) := by
  intro ws hc
  refine MetIX.by (cc := cL_flows) (nL := 8) (ret := some .boolean) (by decide +kernel) rfl (Nat.le_of_ble_eq_true rfl) ?_
  intro p e s m args below meth c F hX w ls hl
  have w : CW G s (va_A ws s.heap.size) s.heap [] b P n h := ⟨ws, hc, w⟩
  have hf := fine_law a1 a2 a3 q0 v0 q1 v1 q2 v2
  have hl : lv_has ls 8 [(0, .ref b), (1, .int x)] := hl
  have hI := hS.1
  obtain ⟨f8, f14, ft1, ft2, ft3, fd1, fd2, fd3, fw1, fw2, fw3, fb1, fb2, fb3, fb4, fb5, fb6, fc1, fc2, fc3, fc4, fn5, fs1, fs2⟩ := S_facts hS hJ
  refine lv_iconst (v := nI 1) F.1 F.2.1 dL_flows_0 (by decide) ?_
  refine lv_iload_n F.1 F.2.1 dL_flows_1 rfl (lv_at hl 1 rfl) ?_
  refine lv_bipush (v := nI 10) F.1 F.2.1 dL_flows_2 (by decide) ?_
  refine k_call0 (As := [.int x, .int (nI 10)]) (rest := [.int (nI 1)]) hf hX F w ((c_L_low l G x (n := 10) (by decide)).toX) (gL_flows_L_low) rfl (nA0 := 2) (by decide +kernel) rfl ⟨Nat.le_of_ble_eq_true rfl, Nat.le_of_ble_eq_true rfl⟩ ⟨Nat.le_of_ble_eq_true rfl, Nat.le_of_ble_eq_true rfl⟩ hl rfl (Nat.le_of_ble_eq_true rfl) dL_flows_4 (fun r H locs hr w => ?_)
  subst hr
  have z4 := lowF_lt x (n := 10) (by decide)
  refine r_iadd F dL_flows_7 ?_
  refine lv_istore_n (lv' := [(2, .int (nI (1 + (lowF x 10)))), (0, .ref b), (1, .int x)]) F.1 F.2.1 dL_flows_8 rfl hl (by decide) rfl (fun ls hl => ?_)
  have b3 : P 3 ≤ 500 := by have z := hI.2.1; unfold SetOk at z; omega
  have y1 := lowF_lt (x >>> (nI 4 &&& 31)) (n := 50) (by decide)
  have hb : ∀ k, k < 50 → flP P (1 + lowF x 10) k 20 < 2 ^ 31 := fun k hk => by
    have hi := fl_inv hI hk
    have hp3 : up P 3 (10 * k + 10) 16 = P 16 := up_n _ _ (by decide)
    have hd := (it_ok hi (1 + lowF x 10) (by omega)).1.d.bnd.2.2.1
    show itF (up P 3 (10 * k + 10)) (1 + lowF x 10) 20 < 2 ^ 31
    omega
  obtain ⟨k0, k1, k2, k3, k4, k5⟩ := fl_is hb 49 (by decide)
  have k1 : k0 < 50 := k1
  have iA := fl_inv hI k1
  have iB := fl_inv hI y1
  have pA : (up P 3 (10 * k0 + 10)) 20 = P 20 := up_n _ _ (by decide)
  have pB : (up P 3 (10 * (lowF (x >>> (nI 4 &&& 31)) 50) + 10)) 20 = P 20 := up_n _ _ (by decide)
  have qA : (up P 3 (10 * k0 + 10)) 16 = P 16 := up_n _ _ (by decide)
  have qB : (up P 3 (10 * (lowF (x >>> (nI 4 &&& 31)) 50) + 10)) 16 = P 16 := up_n _ _ (by decide)
  have sA : (up P 3 (10 * k0 + 10)) 3 = 10 * k0 + 10 := up_s _ _ _
  have mA := (it_J iA (set_J hI hJ (by decide)) (1 + lowF x 10) (by omega)).2.2.2.2.1
  have mB := (it_J iB (set_J hI hJ (by decide)) (1 + lowF x 10) (by omega)).2.2.2.2.1
  have x4 : itF (up P 3 (10 * (lowF (x >>> (nI 4 &&& 31)) 50) + 10)) (1 + lowF x 10) 20 ≤ itF (up P 3 (10 * k0 + 10)) (1 + lowF x 10) 20 := k4 (lowF (x >>> (nI 4 &&& 31)) 50) y1
  have x5 : lowF (x >>> (nI 4 &&& 31)) 50 < k0 → itF (up P 3 (10 * (lowF (x >>> (nI 4 &&& 31)) 50) + 10)) (1 + lowF x 10) 20 < itF (up P 3 (10 * k0 + 10)) (1 + lowF x 10) 20 := k5 (lowF (x >>> (nI 4 &&& 31)) 50)
  have xA : itF (up P 3 (10 * k0 + 10)) (1 + lowF x 10) 20 < 2 ^ 31 := hb k0 k1
  have hS1 : SI (up P 3 (10 * k0 + 10)) (sizeN n) (recH h n P) := SI_rec hS iA
  have hS2 : SI (up P 3 (10 * (lowF (x >>> (nI 4 &&& 31)) 50) + 10)) (sizeN (sizeN n)) (recH (recH h n P) (sizeN n) (up P 3 (10 * k0 + 10))) := SI_rec hS1 iB
  have hS4 : SI (up P 3 (10 * k0 + 10)) (sizeN (sizeN n) - 1) (recH (recH h n P) (sizeN n) (up P 3 (10 * k0 + 10))) := SI_undo hS1 iA
  obtain ⟨w1, w2⟩ := rec_two h P (up P 3 (10 * k0 + 10)) (by omega : n ≤ 5)
  have hS5 : SI P ((sizeN (sizeN n) - 1) - 1) (recH (recH h n P) (sizeN n) (up P 3 (10 * k0 + 10))) := ⟨hS.1, hS.2.1, hS.2.2.1, Nat.le_trans (Nat.sub_le _ _) hS4.2.2.2.1, fun i hi => hS4.2.2.2.2 i (by omega)⟩
  have z4 := hS4.2.2.2.1
  have hK1 : KC l G (lawX a1 a2 a3 q0 v0 q1 v1 q2 v2) yX7_set wsX7_set 4 [.int (nI 3), .int (nI (10 * (lowF (x >>> (nI 4 &&& 31)) 50) + 10))] (up P 3 (10 * k0 + 10)) (sizeN n) (recH h n P) (nI ((up P 3 (10 * k0 + 10)) 3)) (up P 3 (10 * (lowF (x >>> (nI 4 &&& 31)) 50) + 10)) (sizeN (sizeN n)) (recH (recH h n P) (sizeN n) (up P 3 (10 * k0 + 10))) := by
    have z := k_setN l G a1 a2 a3 q0 v0 q1 v1 q2 v2 hS1 (w0 := 3) (u1 := 10 * (lowF (x >>> (nI 4 &&& 31)) 50) + 10) (by decide) (show 1 ≤ 10 * (lowF (x >>> (nI 4 &&& 31)) 50) + 10 by omega) (show 10 * (lowF (x >>> (nI 4 &&& 31)) 50) + 10 ≤ 500 by omega)
    rw [up_upx] at z
    exact z
  have hK2 : KC l G (lawX a1 a2 a3 q0 v0 q1 v1 q2 v2) yX7_undo wsX7_undo 4 [] (up P 3 (10 * k0 + 10)) (sizeN (sizeN n) - 1) (recH (recH h n P) (sizeN n) (up P 3 (10 * k0 + 10))) (nI ((sizeN (sizeN n) - 1) - 1)) (P) ((sizeN (sizeN n) - 1) - 1) (recH (recH h n P) (sizeN n) (up P 3 (10 * k0 + 10))) := by
    have z := k_undo l G a1 a2 a3 q0 v0 q1 v1 q2 v2 hS4 w1
    rw [w2] at z
    exact z
  refine lv_aload_n F.1 F.2.1 dL_flows_9 rfl (lv_at hl 1 rfl) ?_
  refine lv_iload_n F.1 F.2.1 dL_flows_10 rfl (lv_at hl 0 rfl) ?_
  refine k_call (As := [.int (nI (1 + (lowF x 10)))]) (rest := []) hf hX F w (k_flN l G a1 a2 a3 q0 v0 q1 v1 q2 v2 hS (q := 1 + lowF x 10) (by omega) (by omega) k2) (gL_flows_X7_flowFor) rfl (nA0 := 1) (by decide +kernel) rfl ⟨Nat.le_of_ble_eq_true rfl, Nat.le_of_ble_eq_true rfl⟩ ⟨Nat.le_of_ble_eq_true rfl, Nat.le_of_ble_eq_true rfl⟩ hl rfl (Nat.le_of_ble_eq_true rfl) dL_flows_11 (fun H locs w => ?_)
  refine lv_istore_n (lv' := [(3, .int (nI (10 * k0 + 10))), (2, .int (nI (1 + (lowF x 10)))), (0, .ref b), (1, .int x)]) F.1 F.2.1 dL_flows_14 rfl hl (by decide) rfl (fun ls hl => ?_)
  refine lv_aload_n F.1 F.2.1 dL_flows_15 rfl (lv_at hl 2 rfl) ?_
  refine lv_iconst (v := nI 3) F.1 F.2.1 dL_flows_16 (by decide) ?_
  refine k_call (As := [.int (nI 3)]) (rest := []) hf hX F w (k_count l G a1 a2 a3 q0 v0 q1 v1 q2 v2 hS (a_cset (k := 3) (by decide))) (gL_flows_X7_count) rfl (nA0 := 1) (by decide +kernel) rfl ⟨Nat.le_of_ble_eq_true rfl, Nat.le_of_ble_eq_true rfl⟩ ⟨Nat.le_of_ble_eq_true rfl, Nat.le_of_ble_eq_true rfl⟩ hl rfl (Nat.le_of_ble_eq_true rfl) dL_flows_17 (fun H locs w => ?_)
  refine lv_istore (lv' := [(4, .int (nI (P 3))), (3, .int (nI (10 * k0 + 10))), (2, .int (nI (1 + (lowF x 10)))), (0, .ref b), (1, .int x)]) F.1 F.2.1 dL_flows_20 hl (by decide) rfl (fun ls hl => ?_)
  refine lv_bipush (v := nI 10) F.1 F.2.1 dL_flows_22 (by decide) ?_
  refine lv_iconst (v := nI 1) F.1 F.2.1 dL_flows_24 (by decide) ?_
  refine lv_iload_n F.1 F.2.1 dL_flows_25 rfl (lv_at hl 4 rfl) ?_
  refine lv_iconst (v := nI 4) F.1 F.2.1 dL_flows_26 (by decide) ?_
  refine lv_ishr F.1 F.2.1 dL_flows_27 ?_
  refine lv_bipush (v := nI 50) F.1 F.2.1 dL_flows_28 (by decide) ?_
  refine k_call0 (As := [.int (x >>> (nI 4 &&& 31)), .int (nI 50)]) (rest := [.int (nI 1), .int (nI 10)]) hf hX F w ((c_L_low l G (x >>> (nI 4 &&& 31)) (n := 50) (by decide)).toX) (gL_flows_L_low) rfl (nA0 := 2) (by decide +kernel) rfl ⟨Nat.le_of_ble_eq_true rfl, Nat.le_of_ble_eq_true rfl⟩ ⟨Nat.le_of_ble_eq_true rfl, Nat.le_of_ble_eq_true rfl⟩ hl rfl (Nat.le_of_ble_eq_true rfl) dL_flows_30 (fun r H locs hr w => ?_)
  subst hr
  have z30 := lowF_lt (x >>> (nI 4 &&& 31)) (n := 50) (by decide)
  refine r_iadd F dL_flows_33 ?_
  refine r_imul F dL_flows_34 ?_
  refine r_to (y := nI (10 * (lowF (x >>> (nI 4 &&& 31)) 50) + 10)) (congrArg nI (show 10 * (1 + lowF (x >>> (nI 4 &&& 31)) 50) = 10 * (lowF (x >>> (nI 4 &&& 31)) 50) + 10 by omega)) ?_
  refine lv_istore (lv' := [(5, .int (nI (10 * (lowF (x >>> (nI 4 &&& 31)) 50) + 10))), (4, .int (nI (P 3))), (3, .int (nI (10 * k0 + 10))), (2, .int (nI (1 + (lowF x 10)))), (0, .ref b), (1, .int x)]) F.1 F.2.1 dL_flows_35 hl (by decide) rfl (fun ls hl => ?_)
  refine lv_iload_n F.1 F.2.1 dL_flows_37 rfl (lv_at hl 2 rfl) ?_
  refine lv_bipush (v := nI 10) F.1 F.2.1 dL_flows_38 (by decide) ?_
  refine r_clt (tgt := 68) F dL_flows_40 (by decide) (by omega) (by decide) (fun c40 => by exfalso; omega) (fun c40 => ?_)
  refine lv_iload_n F.1 F.2.1 dL_flows_43 rfl (lv_at hl 2 rfl) ?_
  refine lv_sipush (v := nI 500) F.1 F.2.1 dL_flows_44 (by decide) ?_
  refine r_cgt (tgt := 68) F dL_flows_47 (by decide) (by omega) (by decide) (fun c47 => by exfalso; omega) (fun c47 => ?_)
  refine lv_iload_n F.1 F.2.1 dL_flows_50 rfl (lv_at hl 2 rfl) ?_
  refine lv_bipush (v := nI 10) F.1 F.2.1 dL_flows_51 (by decide) ?_
  refine r_irem F dL_flows_53 (by omega) (by decide) (by decide) ?_
  refine r_zne (tgt := 68) F dL_flows_54 (by decide) (by omega) (fun c54 => by exfalso; omega) (fun c54 => ?_)
  refine lv_aload_n F.1 F.2.1 dL_flows_57 rfl (lv_at hl 4 rfl) ?_
  refine lv_iconst (v := nI 3) F.1 F.2.1 dL_flows_58 (by decide) ?_
  refine lv_iload_n F.1 F.2.1 dL_flows_59 rfl (lv_at hl 2 rfl) ?_
  refine k_call (As := [.int (nI 3), .int (nI (10 * k0 + 10))]) (rest := []) hf hX F w (k_setN l G a1 a2 a3 q0 v0 q1 v1 q2 v2 hS (w0 := 3) (u1 := 10 * k0 + 10) (by decide) (show 1 ≤ 10 * k0 + 10 by omega) (show 10 * k0 + 10 ≤ 500 by omega)) (gL_flows_X7_set) rfl (nA0 := 2) (by decide +kernel) rfl ⟨Nat.le_of_ble_eq_true rfl, Nat.le_of_ble_eq_true rfl⟩ ⟨Nat.le_of_ble_eq_true rfl, Nat.le_of_ble_eq_true rfl⟩ hl rfl (Nat.le_of_ble_eq_true rfl) dL_flows_60 (fun H locs w => ?_)
  refine lv_iload F.1 F.2.1 dL_flows_63 (lv_at hl 1 rfl) ?_
  refine r_ceq (tgt := 70) F dL_flows_65 (by decide) (by omega) (by omega) (fun c65 => ?_) (fun c65 => by exfalso; omega)
  refine lv_aload_n F.1 F.2.1 dL_flows_70 rfl (lv_at hl 4 rfl) ?_
  refine lv_iload_n F.1 F.2.1 dL_flows_71 rfl (lv_at hl 3 rfl) ?_
  refine lv_iconst (v := nI 2) F.1 F.2.1 dL_flows_72 (by decide) ?_
  refine k_call (As := [.int (nI (1 + (lowF x 10))), .int (nI 2)]) (rest := []) hf hX F w (k_ifN l G a1 a2 a3 q0 v0 q1 v1 q2 v2 hS1 (q := 1 + (lowF x 10)) (j := 2) (by omega) (by decide) (by omega) (a_if2 (by omega))) (gL_flows_X7_ifRun) rfl (nA0 := 2) (by decide +kernel) rfl ⟨Nat.le_of_ble_eq_true rfl, Nat.le_of_ble_eq_true rfl⟩ ⟨Nat.le_of_ble_eq_true rfl, Nat.le_of_ble_eq_true rfl⟩ hl rfl (Nat.le_of_ble_eq_true rfl) dL_flows_73 (fun H locs w => ?_)
  refine lv_istore (lv' := [(6, .int (nI (itF (up P 3 (10 * k0 + 10)) (1 + (lowF x 10)) 20 - (up P 3 (10 * k0 + 10)) 20))), (5, .int (nI (10 * (lowF (x >>> (nI 4 &&& 31)) 50) + 10))), (4, .int (nI (P 3))), (3, .int (nI (10 * k0 + 10))), (2, .int (nI (1 + (lowF x 10)))), (0, .ref b), (1, .int x)]) F.1 F.2.1 dL_flows_76 hl (by decide) rfl (fun ls hl => ?_)
  refine lv_aload_n F.1 F.2.1 dL_flows_78 rfl (lv_at hl 5 rfl) ?_
  refine lv_iconst (v := nI 3) F.1 F.2.1 dL_flows_79 (by decide) ?_
  refine lv_iload F.1 F.2.1 dL_flows_80 (lv_at hl 1 rfl) ?_
  refine k_call (As := [.int (nI 3), .int (nI (10 * (lowF (x >>> (nI 4 &&& 31)) 50) + 10))]) (rest := []) hf hX F w (hK1) (gL_flows_X7_set) rfl (nA0 := 2) (by decide +kernel) rfl ⟨Nat.le_of_ble_eq_true rfl, Nat.le_of_ble_eq_true rfl⟩ ⟨Nat.le_of_ble_eq_true rfl, Nat.le_of_ble_eq_true rfl⟩ hl rfl (Nat.le_of_ble_eq_true rfl) dL_flows_82 (fun H locs w => ?_)
  refine lv_iload_n F.1 F.2.1 dL_flows_85 rfl (lv_at hl 3 rfl) ?_
  refine r_ceq (tgt := 91) F dL_flows_86 (by decide) (by omega) (by omega) (fun c86 => ?_) (fun c86 => by exfalso; omega)
  refine lv_aload_n F.1 F.2.1 dL_flows_91 rfl (lv_at hl 5 rfl) ?_
  refine lv_iload_n F.1 F.2.1 dL_flows_92 rfl (lv_at hl 4 rfl) ?_
  refine lv_iconst (v := nI 2) F.1 F.2.1 dL_flows_93 (by decide) ?_
  refine k_call (As := [.int (nI (1 + (lowF x 10))), .int (nI 2)]) (rest := []) hf hX F w (k_ifN l G a1 a2 a3 q0 v0 q1 v1 q2 v2 hS2 (q := 1 + (lowF x 10)) (j := 2) (by omega) (by decide) (by omega) (a_if2 (by omega))) (gL_flows_X7_ifRun) rfl (nA0 := 2) (by decide +kernel) rfl ⟨Nat.le_of_ble_eq_true rfl, Nat.le_of_ble_eq_true rfl⟩ ⟨Nat.le_of_ble_eq_true rfl, Nat.le_of_ble_eq_true rfl⟩ hl rfl (Nat.le_of_ble_eq_true rfl) dL_flows_94 (fun H locs w => ?_)
  refine lv_istore (lv' := [(7, .int (nI (itF (up P 3 (10 * (lowF (x >>> (nI 4 &&& 31)) 50) + 10)) (1 + (lowF x 10)) 20 - (up P 3 (10 * (lowF (x >>> (nI 4 &&& 31)) 50) + 10)) 20))), (6, .int (nI (itF (up P 3 (10 * k0 + 10)) (1 + (lowF x 10)) 20 - (up P 3 (10 * k0 + 10)) 20))), (5, .int (nI (10 * (lowF (x >>> (nI 4 &&& 31)) 50) + 10))), (4, .int (nI (P 3))), (3, .int (nI (10 * k0 + 10))), (2, .int (nI (1 + (lowF x 10)))), (0, .ref b), (1, .int x)]) F.1 F.2.1 dL_flows_97 hl (by decide) rfl (fun ls hl => ?_)
  refine lv_iload F.1 F.2.1 dL_flows_99 (lv_at hl 0 rfl) ?_
  refine lv_iload F.1 F.2.1 dL_flows_101 (lv_at hl 1 rfl) ?_
  refine r_cgt (tgt := 147) F dL_flows_103 (by decide) (by omega) (by omega) (fun c103 => by exfalso; omega) (fun c103 => ?_)
  refine lv_iload F.1 F.2.1 dL_flows_106 (lv_at hl 2 rfl) ?_
  refine lv_iload_n F.1 F.2.1 dL_flows_108 rfl (lv_at hl 4 rfl) ?_
  refine r_cge (tgt := 119) F dL_flows_109 (by decide) (by omega) (by omega) (fun c109 => ?_) (fun c109 => ?_)
  · skip
    refine lv_aload_n F.1 F.2.1 dL_flows_119 rfl (lv_at hl 6 rfl) ?_
    refine k_call (As := []) (rest := []) hf hX F w (k_back l G a1 a2 a3 q0 v0 q1 v1 q2 v2 hS1 iB) (gL_flows_X7_undo) rfl (nA0 := 0) (by decide +kernel) rfl ⟨Nat.le_of_ble_eq_true rfl, Nat.le_of_ble_eq_true rfl⟩ ⟨Nat.le_of_ble_eq_true rfl, Nat.le_of_ble_eq_true rfl⟩ hl rfl (Nat.le_of_ble_eq_true rfl) dL_flows_120 (fun H locs w => ?_)
    refine r_zlt (tgt := 147) F dL_flows_123 (by decide) (by omega) ?_
    refine lv_aload_n F.1 F.2.1 dL_flows_126 rfl (lv_at hl 6 rfl) ?_
    refine k_call (As := []) (rest := []) hf hX F w (hK2) (gL_flows_X7_undo) rfl (nA0 := 0) (by decide +kernel) rfl ⟨Nat.le_of_ble_eq_true rfl, Nat.le_of_ble_eq_true rfl⟩ ⟨Nat.le_of_ble_eq_true rfl, Nat.le_of_ble_eq_true rfl⟩ hl rfl (Nat.le_of_ble_eq_true rfl) dL_flows_127 (fun H locs w => ?_)
    refine r_zlt (tgt := 147) F dL_flows_130 (by decide) (by omega) ?_
    refine lv_aload_n F.1 F.2.1 dL_flows_133 rfl (lv_at hl 6 rfl) ?_
    refine lv_iconst (v := nI 3) F.1 F.2.1 dL_flows_134 (by decide) ?_
    refine k_call (As := [.int (nI 3)]) (rest := []) hf hX F w (k_count l G a1 a2 a3 q0 v0 q1 v1 q2 v2 hS5 (a_cset (k := 3) (by decide))) (gL_flows_X7_count) rfl (nA0 := 1) (by decide +kernel) rfl ⟨Nat.le_of_ble_eq_true rfl, Nat.le_of_ble_eq_true rfl⟩ ⟨Nat.le_of_ble_eq_true rfl, Nat.le_of_ble_eq_true rfl⟩ hl rfl (Nat.le_of_ble_eq_true rfl) dL_flows_135 (fun H locs w => ?_)
    refine lv_iload F.1 F.2.1 dL_flows_138 (lv_at hl 3 rfl) ?_
    refine r_cne (tgt := 147) F dL_flows_140 (by decide) (by omega) (by omega) (fun c140 => by exfalso; omega) (fun c140 => ?_)
    refine lv_iconst (v := nI 1) F.1 F.2.1 dL_flows_143 (by decide) ?_
    refine lv_goto (tgt := 148) F.1 F.2.1 dL_flows_144 (by decide) ?_
    obtain ⟨ws', hc', w'⟩ := w
    exact r_zreturn F w' dL_flows_148 rfl ⟨rfl, ⟨_, _, hS5, hc'⟩⟩
  · skip
    have x6 := x5 (by omega)
    refine lv_iload F.1 F.2.1 dL_flows_112 (lv_at hl 0 rfl) ?_
    refine lv_iload F.1 F.2.1 dL_flows_114 (lv_at hl 1 rfl) ?_
    refine r_cge (tgt := 147) F dL_flows_116 (by decide) (by omega) (by omega) (fun c116 => by exfalso; omega) (fun c116 => ?_)
    refine lv_aload_n F.1 F.2.1 dL_flows_119 rfl (lv_at hl 6 rfl) ?_
    refine k_call (As := []) (rest := []) hf hX F w (k_back l G a1 a2 a3 q0 v0 q1 v1 q2 v2 hS1 iB) (gL_flows_X7_undo) rfl (nA0 := 0) (by decide +kernel) rfl ⟨Nat.le_of_ble_eq_true rfl, Nat.le_of_ble_eq_true rfl⟩ ⟨Nat.le_of_ble_eq_true rfl, Nat.le_of_ble_eq_true rfl⟩ hl rfl (Nat.le_of_ble_eq_true rfl) dL_flows_120 (fun H locs w => ?_)
    refine r_zlt (tgt := 147) F dL_flows_123 (by decide) (by omega) ?_
    refine lv_aload_n F.1 F.2.1 dL_flows_126 rfl (lv_at hl 6 rfl) ?_
    refine k_call (As := []) (rest := []) hf hX F w (hK2) (gL_flows_X7_undo) rfl (nA0 := 0) (by decide +kernel) rfl ⟨Nat.le_of_ble_eq_true rfl, Nat.le_of_ble_eq_true rfl⟩ ⟨Nat.le_of_ble_eq_true rfl, Nat.le_of_ble_eq_true rfl⟩ hl rfl (Nat.le_of_ble_eq_true rfl) dL_flows_127 (fun H locs w => ?_)
    refine r_zlt (tgt := 147) F dL_flows_130 (by decide) (by omega) ?_
    refine lv_aload_n F.1 F.2.1 dL_flows_133 rfl (lv_at hl 6 rfl) ?_
    refine lv_iconst (v := nI 3) F.1 F.2.1 dL_flows_134 (by decide) ?_
    refine k_call (As := [.int (nI 3)]) (rest := []) hf hX F w (k_count l G a1 a2 a3 q0 v0 q1 v1 q2 v2 hS5 (a_cset (k := 3) (by decide))) (gL_flows_X7_count) rfl (nA0 := 1) (by decide +kernel) rfl ⟨Nat.le_of_ble_eq_true rfl, Nat.le_of_ble_eq_true rfl⟩ ⟨Nat.le_of_ble_eq_true rfl, Nat.le_of_ble_eq_true rfl⟩ hl rfl (Nat.le_of_ble_eq_true rfl) dL_flows_135 (fun H locs w => ?_)
    refine lv_iload F.1 F.2.1 dL_flows_138 (lv_at hl 3 rfl) ?_
    refine r_cne (tgt := 147) F dL_flows_140 (by decide) (by omega) (by omega) (fun c140 => by exfalso; omega) (fun c140 => ?_)
    refine lv_iconst (v := nI 1) F.1 F.2.1 dL_flows_143 (by decide) ?_
    refine lv_goto (tgt := 148) F.1 F.2.1 dL_flows_144 (by decide) ?_
    obtain ⟨ws', hc', w'⟩ := w
    exact r_zreturn F w' dL_flows_148 rfl ⟨rfl, ⟨_, _, hS5, hc'⟩⟩
