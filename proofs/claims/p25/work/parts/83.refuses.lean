/-! ===== p25: the law's method refuses ===== -/
set_option maxRecDepth 100000 in
set_option maxHeartbeats 8000000 in
theorem c_L_refuses (l : Launch) (G : KG) (a1 a2 a3 q0 v0 q1 v1 q2 v2 : Nat) {P : Nat → Nat} {n : Nat} {h : Nat → Nat → Nat} (hS : SI P n h) (hJ : JI P) (b : Nat) : KL l G (lawX a1 a2 a3 q0 v0 q1 v1 q2 v2) yL_refuses wsL_refuses 9 b [] P n h (nI 1) (CS G b P 0 (fun _ => 0) n h) := by
  intro ws hc
  refine MetIX.by (cc := cL_refuses) (nL := 4) (ret := some .boolean) (by decide +kernel) rfl (Nat.le_of_ble_eq_true rfl) ?_
  intro p e s m args below meth c F hX w ls hl
  have w : CW G s (va_A ws s.heap.size) s.heap [] b P n h := ⟨ws, hc, w⟩
  have hf := fine_law a1 a2 a3 q0 v0 q1 v1 q2 v2
  have hl : lv_has ls 4 [(0, .ref b)] := hl
  have hI := hS.1
  obtain ⟨f8, f14, ft1, ft2, ft3, fd1, fd2, fd3, fw1, fw2, fw3, fb1, fb2, fb3, fb4, fb5, fb6, fc1, fc2, fc3, fc4, fn5, fs1, fs2⟩ := S_facts hS hJ
  refine lv_aload_n F.1 F.2.1 dL_refuses_0 rfl (lv_at hl 0 rfl) ?_
  refine lv_bipush (v := nI 22) F.1 F.2.1 dL_refuses_1 (by decide) ?_
  refine k_call (As := [.int (nI 22)]) (rest := []) hf hX F w (k_count l G a1 a2 a3 q0 v0 q1 v1 q2 v2 hS a_c22) (gL_refuses_X7_count) rfl (nA0 := 1) (by decide +kernel) rfl ⟨Nat.le_of_ble_eq_true rfl, Nat.le_of_ble_eq_true rfl⟩ ⟨Nat.le_of_ble_eq_true rfl, Nat.le_of_ble_eq_true rfl⟩ hl rfl (Nat.le_of_ble_eq_true rfl) dL_refuses_3 (fun H locs w => ?_)
  refine lv_istore_n (lv' := [(1, .int (nI n)), (0, .ref b)]) F.1 F.2.1 dL_refuses_6 rfl hl (by decide) rfl (fun ls hl => ?_)
  refine lv_aload_n F.1 F.2.1 dL_refuses_7 rfl (lv_at hl 1 rfl) ?_
  refine lv_bipush (v := nI 18) F.1 F.2.1 dL_refuses_8 (by decide) ?_
  refine k_call (As := [.int (nI 18)]) (rest := []) hf hX F w (k_count l G a1 a2 a3 q0 v0 q1 v1 q2 v2 hS a_c18) (gL_refuses_X7_count) rfl (nA0 := 1) (by decide +kernel) rfl ⟨Nat.le_of_ble_eq_true rfl, Nat.le_of_ble_eq_true rfl⟩ ⟨Nat.le_of_ble_eq_true rfl, Nat.le_of_ble_eq_true rfl⟩ hl rfl (Nat.le_of_ble_eq_true rfl) dL_refuses_10 (fun H locs w => ?_)
  refine lv_istore_n (lv' := [(2, .int (nI (P 16))), (1, .int (nI n)), (0, .ref b)]) F.1 F.2.1 dL_refuses_13 rfl hl (by decide) rfl (fun ls hl => ?_)
  refine lv_aload_n F.1 F.2.1 dL_refuses_14 rfl (lv_at hl 2 rfl) ?_
  refine lv_iconst (v := nI 3) F.1 F.2.1 dL_refuses_15 (by decide) ?_
  refine lv_iconst (v := nI 1) F.1 F.2.1 dL_refuses_16 (by decide) ?_
  refine lv_bipush (v := nI 60) F.1 F.2.1 dL_refuses_17 (by decide) ?_
  refine lv_iconst (v := nI 0) F.1 F.2.1 dL_refuses_19 (by decide) ?_
  refine k_call (As := [.int (nI 3), .int (nI 1), .int (nI 60), .int (nI 0)]) (rest := []) hf hX F w (k_addM l G a1 a2 a3 q0 v0 q1 v1 q2 v2 hS (fun q => absurd (segI_nat (a := 3) (b := 1) (c := 60) (d := 0) (by decide) (by decide) (by decide) (by decide) q) (by unfold SegK; omega))) (gL_refuses_X7_addSegment) rfl (nA0 := 4) (by decide +kernel) rfl ⟨Nat.le_of_ble_eq_true rfl, Nat.le_of_ble_eq_true rfl⟩ ⟨Nat.le_of_ble_eq_true rfl, Nat.le_of_ble_eq_true rfl⟩ hl rfl (Nat.le_of_ble_eq_true rfl) dL_refuses_20 (fun H locs w => ?_)
  refine lv_iconst (v := (-1)) F.1 F.2.1 dL_refuses_23 (by decide) ?_
  refine lv_icmp_ne (tgt := 196) F.1 F.2.1 dL_refuses_24 (by decide) (fun q => absurd rfl q) (fun _ => ?_)
  refine lv_aload_n F.1 F.2.1 dL_refuses_27 rfl (lv_at hl 2 rfl) ?_
  refine lv_iconst (v := nI 0) F.1 F.2.1 dL_refuses_28 (by decide) ?_
  refine lv_iconst (v := nI 0) F.1 F.2.1 dL_refuses_29 (by decide) ?_
  refine lv_bipush (v := nI 60) F.1 F.2.1 dL_refuses_30 (by decide) ?_
  refine lv_iconst (v := nI 0) F.1 F.2.1 dL_refuses_32 (by decide) ?_
  refine k_call (As := [.int (nI 0), .int (nI 0), .int (nI 60), .int (nI 0)]) (rest := []) hf hX F w (k_addM l G a1 a2 a3 q0 v0 q1 v1 q2 v2 hS (fun q => absurd (segI_nat (a := 0) (b := 0) (c := 60) (d := 0) (by decide) (by decide) (by decide) (by decide) q) (by unfold SegK; omega))) (gL_refuses_X7_addSegment) rfl (nA0 := 4) (by decide +kernel) rfl ⟨Nat.le_of_ble_eq_true rfl, Nat.le_of_ble_eq_true rfl⟩ ⟨Nat.le_of_ble_eq_true rfl, Nat.le_of_ble_eq_true rfl⟩ hl rfl (Nat.le_of_ble_eq_true rfl) dL_refuses_33 (fun H locs w => ?_)
  refine lv_iconst (v := (-1)) F.1 F.2.1 dL_refuses_36 (by decide) ?_
  refine lv_icmp_ne (tgt := 196) F.1 F.2.1 dL_refuses_37 (by decide) (fun q => absurd rfl q) (fun _ => ?_)
  refine lv_aload_n F.1 F.2.1 dL_refuses_40 rfl (lv_at hl 2 rfl) ?_
  refine lv_iconst (v := nI 0) F.1 F.2.1 dL_refuses_41 (by decide) ?_
  refine lv_iconst (v := nI 1) F.1 F.2.1 dL_refuses_42 (by decide) ?_
  refine lv_bipush (v := nI 93) F.1 F.2.1 dL_refuses_43 (by decide) ?_
  refine lv_iconst (v := nI 0) F.1 F.2.1 dL_refuses_45 (by decide) ?_
  refine k_call (As := [.int (nI 0), .int (nI 1), .int (nI 93), .int (nI 0)]) (rest := []) hf hX F w (k_addM l G a1 a2 a3 q0 v0 q1 v1 q2 v2 hS (fun q => absurd (segI_nat (a := 0) (b := 1) (c := 93) (d := 0) (by decide) (by decide) (by decide) (by decide) q) (by unfold SegK; omega))) (gL_refuses_X7_addSegment) rfl (nA0 := 4) (by decide +kernel) rfl ⟨Nat.le_of_ble_eq_true rfl, Nat.le_of_ble_eq_true rfl⟩ ⟨Nat.le_of_ble_eq_true rfl, Nat.le_of_ble_eq_true rfl⟩ hl rfl (Nat.le_of_ble_eq_true rfl) dL_refuses_46 (fun H locs w => ?_)
  refine lv_iconst (v := (-1)) F.1 F.2.1 dL_refuses_49 (by decide) ?_
  refine lv_icmp_ne (tgt := 196) F.1 F.2.1 dL_refuses_50 (by decide) (fun q => absurd rfl q) (fun _ => ?_)
  refine lv_aload_n F.1 F.2.1 dL_refuses_53 rfl (lv_at hl 2 rfl) ?_
  refine lv_iconst (v := nI 1) F.1 F.2.1 dL_refuses_54 (by decide) ?_
  refine lv_iconst (v := nI 1) F.1 F.2.1 dL_refuses_55 (by decide) ?_
  refine lv_iconst (v := nI 0) F.1 F.2.1 dL_refuses_56 (by decide) ?_
  refine lv_iconst (v := nI 1) F.1 F.2.1 dL_refuses_57 (by decide) ?_
  refine k_call (As := [.int (nI 1), .int (nI 1), .int (nI 0), .int (nI 1)]) (rest := []) hf hX F w (k_addM l G a1 a2 a3 q0 v0 q1 v1 q2 v2 hS (fun q => absurd (segI_nat (a := 1) (b := 1) (c := 0) (d := 1) (by decide) (by decide) (by decide) (by decide) q) (by unfold SegK; omega))) (gL_refuses_X7_addSegment) rfl (nA0 := 4) (by decide +kernel) rfl ⟨Nat.le_of_ble_eq_true rfl, Nat.le_of_ble_eq_true rfl⟩ ⟨Nat.le_of_ble_eq_true rfl, Nat.le_of_ble_eq_true rfl⟩ hl rfl (Nat.le_of_ble_eq_true rfl) dL_refuses_58 (fun H locs w => ?_)
  refine lv_iconst (v := (-1)) F.1 F.2.1 dL_refuses_61 (by decide) ?_
  refine lv_icmp_ne (tgt := 196) F.1 F.2.1 dL_refuses_62 (by decide) (fun q => absurd rfl q) (fun _ => ?_)
  refine lv_aload_n F.1 F.2.1 dL_refuses_65 rfl (lv_at hl 2 rfl) ?_
  refine lv_iconst (v := nI 2) F.1 F.2.1 dL_refuses_66 (by decide) ?_
  refine lv_iconst (v := nI 1) F.1 F.2.1 dL_refuses_67 (by decide) ?_
  refine lv_bipush (v := nI 60) F.1 F.2.1 dL_refuses_68 (by decide) ?_
  refine lv_bipush (v := nI 101) F.1 F.2.1 dL_refuses_70 (by decide) ?_
  refine k_call (As := [.int (nI 2), .int (nI 1), .int (nI 60), .int (nI 101)]) (rest := []) hf hX F w (k_addM l G a1 a2 a3 q0 v0 q1 v1 q2 v2 hS (fun q => absurd (segI_nat (a := 2) (b := 1) (c := 60) (d := 101) (by decide) (by decide) (by decide) (by decide) q) (by unfold SegK; omega))) (gL_refuses_X7_addSegment) rfl (nA0 := 4) (by decide +kernel) rfl ⟨Nat.le_of_ble_eq_true rfl, Nat.le_of_ble_eq_true rfl⟩ ⟨Nat.le_of_ble_eq_true rfl, Nat.le_of_ble_eq_true rfl⟩ hl rfl (Nat.le_of_ble_eq_true rfl) dL_refuses_72 (fun H locs w => ?_)
  refine lv_iconst (v := (-1)) F.1 F.2.1 dL_refuses_75 (by decide) ?_
  refine lv_icmp_ne (tgt := 196) F.1 F.2.1 dL_refuses_76 (by decide) (fun q => absurd rfl q) (fun _ => ?_)
  refine lv_aload_n F.1 F.2.1 dL_refuses_79 rfl (lv_at hl 2 rfl) ?_
  refine lv_iconst (v := (-1)) F.1 F.2.1 dL_refuses_80 (by decide) ?_
  refine lv_iconst (v := nI 0) F.1 F.2.1 dL_refuses_81 (by decide) ?_
  refine k_call (As := [.int (-1), .int (nI 0)]) (rest := []) hf hX F w (k_segment l G a1 a2 a3 q0 v0 q1 v1 q2 v2 hS a_sM) (gL_refuses_X7_segment) rfl (nA0 := 2) (by decide +kernel) rfl ⟨Nat.le_of_ble_eq_true rfl, Nat.le_of_ble_eq_true rfl⟩ ⟨Nat.le_of_ble_eq_true rfl, Nat.le_of_ble_eq_true rfl⟩ hl rfl (Nat.le_of_ble_eq_true rfl) dL_refuses_82 (fun H locs w => ?_)
  refine lv_iconst (v := (-1)) F.1 F.2.1 dL_refuses_85 (by decide) ?_
  refine lv_icmp_ne (tgt := 196) F.1 F.2.1 dL_refuses_86 (by decide) (fun q => absurd rfl q) (fun _ => ?_)
  refine lv_aload_n F.1 F.2.1 dL_refuses_89 rfl (lv_at hl 2 rfl) ?_
  refine lv_iconst (v := nI 0) F.1 F.2.1 dL_refuses_90 (by decide) ?_
  refine lv_bipush (v := nI 6) F.1 F.2.1 dL_refuses_91 (by decide) ?_
  refine k_call (As := [.int (nI 0), .int (nI 6)]) (rest := []) hf hX F w (k_segment l G a1 a2 a3 q0 v0 q1 v1 q2 v2 hS a_sY) (gL_refuses_X7_segment) rfl (nA0 := 2) (by decide +kernel) rfl ⟨Nat.le_of_ble_eq_true rfl, Nat.le_of_ble_eq_true rfl⟩ ⟨Nat.le_of_ble_eq_true rfl, Nat.le_of_ble_eq_true rfl⟩ hl rfl (Nat.le_of_ble_eq_true rfl) dL_refuses_93 (fun H locs w => ?_)
  refine lv_iconst (v := (-1)) F.1 F.2.1 dL_refuses_96 (by decide) ?_
  refine lv_icmp_ne (tgt := 196) F.1 F.2.1 dL_refuses_97 (by decide) (fun q => absurd rfl q) (fun _ => ?_)
  refine lv_aload_n F.1 F.2.1 dL_refuses_100 rfl (lv_at hl 2 rfl) ?_
  refine lv_iconst (v := (-1)) F.1 F.2.1 dL_refuses_101 (by decide) ?_
  refine k_call (As := [.int (-1)]) (rest := []) hf hX F w (k_segmentAt l G a1 a2 a3 q0 v0 q1 v1 q2 v2 hS a_saM) (gL_refuses_X7_segmentAt) rfl (nA0 := 1) (by decide +kernel) rfl ⟨Nat.le_of_ble_eq_true rfl, Nat.le_of_ble_eq_true rfl⟩ ⟨Nat.le_of_ble_eq_true rfl, Nat.le_of_ble_eq_true rfl⟩ hl rfl (Nat.le_of_ble_eq_true rfl) dL_refuses_102 (fun H locs w => ?_)
  refine lv_iconst (v := (-1)) F.1 F.2.1 dL_refuses_105 (by decide) ?_
  refine lv_icmp_ne (tgt := 196) F.1 F.2.1 dL_refuses_106 (by decide) (fun q => absurd rfl q) (fun _ => ?_)
  refine lv_aload_n F.1 F.2.1 dL_refuses_109 rfl (lv_at hl 2 rfl) ?_
  refine lv_iconst (v := (-1)) F.1 F.2.1 dL_refuses_110 (by decide) ?_
  refine k_call (As := [.int (-1)]) (rest := []) hf hX F w (k_waterBelow l G a1 a2 a3 q0 v0 q1 v1 q2 v2 hS a_wM) (gL_refuses_X7_waterBelow) rfl (nA0 := 1) (by decide +kernel) rfl ⟨Nat.le_of_ble_eq_true rfl, Nat.le_of_ble_eq_true rfl⟩ ⟨Nat.le_of_ble_eq_true rfl, Nat.le_of_ble_eq_true rfl⟩ hl rfl (Nat.le_of_ble_eq_true rfl) dL_refuses_111 (fun H locs w => ?_)
  refine lv_iconst (v := (-1)) F.1 F.2.1 dL_refuses_114 (by decide) ?_
  refine lv_icmp_ne (tgt := 196) F.1 F.2.1 dL_refuses_115 (by decide) (fun q => absurd rfl q) (fun _ => ?_)
  refine lv_aload_n F.1 F.2.1 dL_refuses_118 rfl (lv_at hl 2 rfl) ?_
  refine lv_bipush (v := nI 8) F.1 F.2.1 dL_refuses_119 (by decide) ?_
  refine lv_iconst (v := nI 0) F.1 F.2.1 dL_refuses_121 (by decide) ?_
  refine k_call (As := [.int (nI 8), .int (nI 0)]) (rest := []) hf hX F w (k_setM l G a1 a2 a3 q0 v0 q1 v1 q2 v2 hS (by decide +kernel)) (gL_refuses_X7_set) rfl (nA0 := 2) (by decide +kernel) rfl ⟨Nat.le_of_ble_eq_true rfl, Nat.le_of_ble_eq_true rfl⟩ ⟨Nat.le_of_ble_eq_true rfl, Nat.le_of_ble_eq_true rfl⟩ hl rfl (Nat.le_of_ble_eq_true rfl) dL_refuses_122 (fun H locs w => ?_)
  refine lv_iconst (v := (-1)) F.1 F.2.1 dL_refuses_125 (by decide) ?_
  refine lv_icmp_ne (tgt := 196) F.1 F.2.1 dL_refuses_126 (by decide) (fun q => absurd rfl q) (fun _ => ?_)
  refine lv_aload_n F.1 F.2.1 dL_refuses_129 rfl (lv_at hl 2 rfl) ?_
  refine lv_iconst (v := nI 0) F.1 F.2.1 dL_refuses_130 (by decide) ?_
  refine lv_sipush (v := nI 201) F.1 F.2.1 dL_refuses_131 (by decide) ?_
  refine k_call (As := [.int (nI 0), .int (nI 201)]) (rest := []) hf hX F w (k_setK l G a1 a2 a3 q0 v0 q1 v1 q2 v2 hS (w0 := 0) (by decide) (by decide +kernel)) (gL_refuses_X7_set) rfl (nA0 := 2) (by decide +kernel) rfl ⟨Nat.le_of_ble_eq_true rfl, Nat.le_of_ble_eq_true rfl⟩ ⟨Nat.le_of_ble_eq_true rfl, Nat.le_of_ble_eq_true rfl⟩ hl rfl (Nat.le_of_ble_eq_true rfl) dL_refuses_134 (fun H locs w => ?_)
  refine lv_iconst (v := (-1)) F.1 F.2.1 dL_refuses_137 (by decide) ?_
  refine lv_icmp_ne (tgt := 196) F.1 F.2.1 dL_refuses_138 (by decide) (fun q => absurd rfl q) (fun _ => ?_)
  refine lv_aload_n F.1 F.2.1 dL_refuses_141 rfl (lv_at hl 2 rfl) ?_
  refine lv_iconst (v := nI 1) F.1 F.2.1 dL_refuses_142 (by decide) ?_
  refine lv_bipush (v := nI 9) F.1 F.2.1 dL_refuses_143 (by decide) ?_
  refine k_call (As := [.int (nI 1), .int (nI 9)]) (rest := []) hf hX F w (k_setK l G a1 a2 a3 q0 v0 q1 v1 q2 v2 hS (w0 := 1) (by decide) (by decide +kernel)) (gL_refuses_X7_set) rfl (nA0 := 2) (by decide +kernel) rfl ⟨Nat.le_of_ble_eq_true rfl, Nat.le_of_ble_eq_true rfl⟩ ⟨Nat.le_of_ble_eq_true rfl, Nat.le_of_ble_eq_true rfl⟩ hl rfl (Nat.le_of_ble_eq_true rfl) dL_refuses_145 (fun H locs w => ?_)
  refine lv_iconst (v := (-1)) F.1 F.2.1 dL_refuses_148 (by decide) ?_
  refine lv_icmp_ne (tgt := 196) F.1 F.2.1 dL_refuses_149 (by decide) (fun q => absurd rfl q) (fun _ => ?_)
  refine lv_aload_n F.1 F.2.1 dL_refuses_152 rfl (lv_at hl 2 rfl) ?_
  refine lv_iconst (v := nI 3) F.1 F.2.1 dL_refuses_153 (by decide) ?_
  refine lv_iconst (v := nI 0) F.1 F.2.1 dL_refuses_154 (by decide) ?_
  refine k_call (As := [.int (nI 3), .int (nI 0)]) (rest := []) hf hX F w (k_setK l G a1 a2 a3 q0 v0 q1 v1 q2 v2 hS (w0 := 3) (by decide) (by decide +kernel)) (gL_refuses_X7_set) rfl (nA0 := 2) (by decide +kernel) rfl ⟨Nat.le_of_ble_eq_true rfl, Nat.le_of_ble_eq_true rfl⟩ ⟨Nat.le_of_ble_eq_true rfl, Nat.le_of_ble_eq_true rfl⟩ hl rfl (Nat.le_of_ble_eq_true rfl) dL_refuses_155 (fun H locs w => ?_)
  refine lv_iconst (v := (-1)) F.1 F.2.1 dL_refuses_158 (by decide) ?_
  refine lv_icmp_ne (tgt := 196) F.1 F.2.1 dL_refuses_159 (by decide) (fun q => absurd rfl q) (fun _ => ?_)
  refine lv_aload_n F.1 F.2.1 dL_refuses_162 rfl (lv_at hl 2 rfl) ?_
  refine lv_bipush (v := nI 7) F.1 F.2.1 dL_refuses_163 (by decide) ?_
  refine lv_bipush (v := nI 51) F.1 F.2.1 dL_refuses_165 (by decide) ?_
  refine k_call (As := [.int (nI 7), .int (nI 51)]) (rest := []) hf hX F w (k_setK l G a1 a2 a3 q0 v0 q1 v1 q2 v2 hS (w0 := 7) (by decide) (by decide +kernel)) (gL_refuses_X7_set) rfl (nA0 := 2) (by decide +kernel) rfl ⟨Nat.le_of_ble_eq_true rfl, Nat.le_of_ble_eq_true rfl⟩ ⟨Nat.le_of_ble_eq_true rfl, Nat.le_of_ble_eq_true rfl⟩ hl rfl (Nat.le_of_ble_eq_true rfl) dL_refuses_167 (fun H locs w => ?_)
  refine lv_iconst (v := (-1)) F.1 F.2.1 dL_refuses_170 (by decide) ?_
  refine lv_icmp_ne (tgt := 196) F.1 F.2.1 dL_refuses_171 (by decide) (fun q => absurd rfl q) (fun _ => ?_)
  refine lv_aload_n F.1 F.2.1 dL_refuses_174 rfl (lv_at hl 2 rfl) ?_
  refine lv_iconst (v := nI 4) F.1 F.2.1 dL_refuses_175 (by decide) ?_
  refine k_call (As := [.int (nI 4)]) (rest := []) hf hX F w (k_cleanM l G a1 a2 a3 q0 v0 q1 v1 q2 v2 hS (by decide +kernel)) (gL_refuses_X7_clean) rfl (nA0 := 1) (by decide +kernel) rfl ⟨Nat.le_of_ble_eq_true rfl, Nat.le_of_ble_eq_true rfl⟩ ⟨Nat.le_of_ble_eq_true rfl, Nat.le_of_ble_eq_true rfl⟩ hl rfl (Nat.le_of_ble_eq_true rfl) dL_refuses_176 (fun H locs w => ?_)
  refine lv_iconst (v := (-1)) F.1 F.2.1 dL_refuses_179 (by decide) ?_
  refine lv_icmp_ne (tgt := 196) F.1 F.2.1 dL_refuses_180 (by decide) (fun q => absurd rfl q) (fun _ => ?_)
  refine lv_aload_n F.1 F.2.1 dL_refuses_183 rfl (lv_at hl 2 rfl) ?_
  refine lv_iconst (v := nI 0) F.1 F.2.1 dL_refuses_184 (by decide) ?_
  refine k_call (As := [.int (nI 0)]) (rest := []) hf hX F w (k_runM l G a1 a2 a3 q0 v0 q1 v1 q2 v2 hS (by decide +kernel)) (gL_refuses_X7_run) rfl (nA0 := 1) (by decide +kernel) rfl ⟨Nat.le_of_ble_eq_true rfl, Nat.le_of_ble_eq_true rfl⟩ ⟨Nat.le_of_ble_eq_true rfl, Nat.le_of_ble_eq_true rfl⟩ hl rfl (Nat.le_of_ble_eq_true rfl) dL_refuses_185 (fun H locs w => ?_)
  refine lv_iconst (v := (-1)) F.1 F.2.1 dL_refuses_188 (by decide) ?_
  refine lv_icmp_ne (tgt := 196) F.1 F.2.1 dL_refuses_189 (by decide) (fun q => absurd rfl q) (fun _ => ?_)
  refine lv_iconst (v := nI 1) F.1 F.2.1 dL_refuses_192 (by decide) ?_
  refine lv_goto (tgt := 197) F.1 F.2.1 dL_refuses_193 (by decide) ?_
  refine lv_istore_n (lv' := [(3, .int (nI 1)), (2, .int (nI (P 16))), (1, .int (nI n)), (0, .ref b)]) F.1 F.2.1 dL_refuses_197 rfl hl (by decide) rfl (fun ls hl => ?_)
  refine lv_iload_n F.1 F.2.1 dL_refuses_198 rfl (lv_at hl 0 rfl) ?_
  refine r_zeq (tgt := 331) F dL_refuses_199 (by decide) (by decide) (fun c199 => by exfalso; omega) (fun c199 => ?_)
  refine lv_aload_n F.1 F.2.1 dL_refuses_202 rfl (lv_at hl 3 rfl) ?_
  refine lv_bipush (v := nI 24) F.1 F.2.1 dL_refuses_203 (by decide) ?_
  refine k_call (As := [.int (nI 24)]) (rest := []) hf hX F w (k_count l G a1 a2 a3 q0 v0 q1 v1 q2 v2 hS a_cX) (gL_refuses_X7_count) rfl (nA0 := 1) (by decide +kernel) rfl ⟨Nat.le_of_ble_eq_true rfl, Nat.le_of_ble_eq_true rfl⟩ ⟨Nat.le_of_ble_eq_true rfl, Nat.le_of_ble_eq_true rfl⟩ hl rfl (Nat.le_of_ble_eq_true rfl) dL_refuses_205 (fun H locs w => ?_)
  refine lv_iconst (v := (-1)) F.1 F.2.1 dL_refuses_208 (by decide) ?_
  refine lv_icmp_ne (tgt := 331) F.1 F.2.1 dL_refuses_209 (by decide) (fun q => absurd rfl q) (fun _ => ?_)
  refine lv_aload_n F.1 F.2.1 dL_refuses_212 rfl (lv_at hl 3 rfl) ?_
  refine lv_iconst (v := (-1)) F.1 F.2.1 dL_refuses_213 (by decide) ?_
  refine k_call (As := [.int (-1)]) (rest := []) hf hX F w (k_count l G a1 a2 a3 q0 v0 q1 v1 q2 v2 hS a_cM) (gL_refuses_X7_count) rfl (nA0 := 1) (by decide +kernel) rfl ⟨Nat.le_of_ble_eq_true rfl, Nat.le_of_ble_eq_true rfl⟩ ⟨Nat.le_of_ble_eq_true rfl, Nat.le_of_ble_eq_true rfl⟩ hl rfl (Nat.le_of_ble_eq_true rfl) dL_refuses_214 (fun H locs w => ?_)
  refine lv_iconst (v := (-1)) F.1 F.2.1 dL_refuses_217 (by decide) ?_
  refine lv_icmp_ne (tgt := 331) F.1 F.2.1 dL_refuses_218 (by decide) (fun q => absurd rfl q) (fun _ => ?_)
  refine lv_aload_n F.1 F.2.1 dL_refuses_221 rfl (lv_at hl 3 rfl) ?_
  refine lv_bipush (v := nI 7) F.1 F.2.1 dL_refuses_222 (by decide) ?_
  refine k_call (As := [.int (nI 7)]) (rest := []) hf hX F w (k_account l G a1 a2 a3 q0 v0 q1 v1 q2 v2 hS a_aX) (gL_refuses_X7_account) rfl (nA0 := 1) (by decide +kernel) rfl ⟨Nat.le_of_ble_eq_true rfl, Nat.le_of_ble_eq_true rfl⟩ ⟨Nat.le_of_ble_eq_true rfl, Nat.le_of_ble_eq_true rfl⟩ hl rfl (Nat.le_of_ble_eq_true rfl) dL_refuses_224 (fun H locs w => ?_)
  refine lv_iconst (v := (-1)) F.1 F.2.1 dL_refuses_227 (by decide) ?_
  refine lv_icmp_ne (tgt := 331) F.1 F.2.1 dL_refuses_228 (by decide) (fun q => absurd rfl q) (fun _ => ?_)
  refine lv_aload_n F.1 F.2.1 dL_refuses_231 rfl (lv_at hl 3 rfl) ?_
  refine lv_iconst (v := nI 4) F.1 F.2.1 dL_refuses_232 (by decide) ?_
  refine lv_iconst (v := nI 0) F.1 F.2.1 dL_refuses_233 (by decide) ?_
  refine k_call (As := [.int (nI 4), .int (nI 0)]) (rest := []) hf hX F w (k_line l G a1 a2 a3 q0 v0 q1 v1 q2 v2 hS a_lX) (gL_refuses_X7_line) rfl (nA0 := 2) (by decide +kernel) rfl ⟨Nat.le_of_ble_eq_true rfl, Nat.le_of_ble_eq_true rfl⟩ ⟨Nat.le_of_ble_eq_true rfl, Nat.le_of_ble_eq_true rfl⟩ hl rfl (Nat.le_of_ble_eq_true rfl) dL_refuses_234 (fun H locs w => ?_)
  refine lv_iconst (v := (-1)) F.1 F.2.1 dL_refuses_237 (by decide) ?_
  refine lv_icmp_ne (tgt := 331) F.1 F.2.1 dL_refuses_238 (by decide) (fun q => absurd rfl q) (fun _ => ?_)
  refine lv_aload_n F.1 F.2.1 dL_refuses_241 rfl (lv_at hl 3 rfl) ?_
  refine lv_iconst (v := nI 0) F.1 F.2.1 dL_refuses_242 (by decide) ?_
  refine lv_iconst (v := nI 5) F.1 F.2.1 dL_refuses_243 (by decide) ?_
  refine k_call (As := [.int (nI 0), .int (nI 5)]) (rest := []) hf hX F w (k_line l G a1 a2 a3 q0 v0 q1 v1 q2 v2 hS a_lY) (gL_refuses_X7_line) rfl (nA0 := 2) (by decide +kernel) rfl ⟨Nat.le_of_ble_eq_true rfl, Nat.le_of_ble_eq_true rfl⟩ ⟨Nat.le_of_ble_eq_true rfl, Nat.le_of_ble_eq_true rfl⟩ hl rfl (Nat.le_of_ble_eq_true rfl) dL_refuses_244 (fun H locs w => ?_)
  refine lv_iconst (v := (-1)) F.1 F.2.1 dL_refuses_247 (by decide) ?_
  refine lv_icmp_ne (tgt := 331) F.1 F.2.1 dL_refuses_248 (by decide) (fun q => absurd rfl q) (fun _ => ?_)
  refine lv_aload_n F.1 F.2.1 dL_refuses_251 rfl (lv_at hl 3 rfl) ?_
  refine lv_iconst (v := (-1)) F.1 F.2.1 dL_refuses_252 (by decide) ?_
  refine lv_iconst (v := nI 0) F.1 F.2.1 dL_refuses_253 (by decide) ?_
  refine k_call (As := [.int (-1), .int (nI 0)]) (rest := []) hf hX F w (k_vial l G a1 a2 a3 q0 v0 q1 v1 q2 v2 hS a_vM) (gL_refuses_X7_vial) rfl (nA0 := 2) (by decide +kernel) rfl ⟨Nat.le_of_ble_eq_true rfl, Nat.le_of_ble_eq_true rfl⟩ ⟨Nat.le_of_ble_eq_true rfl, Nat.le_of_ble_eq_true rfl⟩ hl rfl (Nat.le_of_ble_eq_true rfl) dL_refuses_254 (fun H locs w => ?_)
  refine lv_iconst (v := (-1)) F.1 F.2.1 dL_refuses_257 (by decide) ?_
  refine lv_icmp_ne (tgt := 331) F.1 F.2.1 dL_refuses_258 (by decide) (fun q => absurd rfl q) (fun _ => ?_)
  refine lv_aload_n F.1 F.2.1 dL_refuses_261 rfl (lv_at hl 3 rfl) ?_
  refine lv_iconst (v := (-1)) F.1 F.2.1 dL_refuses_262 (by decide) ?_
  refine k_call (As := [.int (-1)]) (rest := []) hf hX F w (k_vialAt l G a1 a2 a3 q0 v0 q1 v1 q2 v2 hS a_vaM) (gL_refuses_X7_vialAt) rfl (nA0 := 1) (by decide +kernel) rfl ⟨Nat.le_of_ble_eq_true rfl, Nat.le_of_ble_eq_true rfl⟩ ⟨Nat.le_of_ble_eq_true rfl, Nat.le_of_ble_eq_true rfl⟩ hl rfl (Nat.le_of_ble_eq_true rfl) dL_refuses_263 (fun H locs w => ?_)
  refine lv_iconst (v := (-1)) F.1 F.2.1 dL_refuses_266 (by decide) ?_
  refine lv_icmp_ne (tgt := 331) F.1 F.2.1 dL_refuses_267 (by decide) (fun q => absurd rfl q) (fun _ => ?_)
  refine lv_aload_n F.1 F.2.1 dL_refuses_270 rfl (lv_at hl 3 rfl) ?_
  refine lv_iconst (v := nI 0) F.1 F.2.1 dL_refuses_271 (by decide) ?_
  refine lv_iconst (v := nI 0) F.1 F.2.1 dL_refuses_272 (by decide) ?_
  refine k_call (As := [.int (nI 0), .int (nI 0)]) (rest := []) hf hX F w (k_ifM l G a1 a2 a3 q0 v0 q1 v1 q2 v2 hS (by decide +kernel)) (gL_refuses_X7_ifRun) rfl (nA0 := 2) (by decide +kernel) rfl ⟨Nat.le_of_ble_eq_true rfl, Nat.le_of_ble_eq_true rfl⟩ ⟨Nat.le_of_ble_eq_true rfl, Nat.le_of_ble_eq_true rfl⟩ hl rfl (Nat.le_of_ble_eq_true rfl) dL_refuses_273 (fun H locs w => ?_)
  refine lv_iconst (v := (-1)) F.1 F.2.1 dL_refuses_276 (by decide) ?_
  refine lv_icmp_ne (tgt := 331) F.1 F.2.1 dL_refuses_277 (by decide) (fun q => absurd rfl q) (fun _ => ?_)
  refine lv_aload_n F.1 F.2.1 dL_refuses_280 rfl (lv_at hl 3 rfl) ?_
  refine lv_iconst (v := nI 1) F.1 F.2.1 dL_refuses_281 (by decide) ?_
  refine lv_iconst (v := (-1)) F.1 F.2.1 dL_refuses_282 (by decide) ?_
  refine k_call (As := [.int (nI 1), .int (-1)]) (rest := []) hf hX F w (k_ifM l G a1 a2 a3 q0 v0 q1 v1 q2 v2 hS (by decide +kernel)) (gL_refuses_X7_ifRun) rfl (nA0 := 2) (by decide +kernel) rfl ⟨Nat.le_of_ble_eq_true rfl, Nat.le_of_ble_eq_true rfl⟩ ⟨Nat.le_of_ble_eq_true rfl, Nat.le_of_ble_eq_true rfl⟩ hl rfl (Nat.le_of_ble_eq_true rfl) dL_refuses_283 (fun H locs w => ?_)
  refine lv_iconst (v := (-1)) F.1 F.2.1 dL_refuses_286 (by decide) ?_
  refine lv_icmp_ne (tgt := 331) F.1 F.2.1 dL_refuses_287 (by decide) (fun q => absurd rfl q) (fun _ => ?_)
  refine lv_aload_n F.1 F.2.1 dL_refuses_290 rfl (lv_at hl 3 rfl) ?_
  refine lv_iconst (v := (-1)) F.1 F.2.1 dL_refuses_291 (by decide) ?_
  refine k_call (As := [.int (-1)]) (rest := []) hf hX F w (k_toM l G a1 a2 a3 q0 v0 q1 v1 q2 v2 hS (by decide)) (gL_refuses_X7_ticksTo) rfl (nA0 := 1) (by decide +kernel) rfl ⟨Nat.le_of_ble_eq_true rfl, Nat.le_of_ble_eq_true rfl⟩ ⟨Nat.le_of_ble_eq_true rfl, Nat.le_of_ble_eq_true rfl⟩ hl rfl (Nat.le_of_ble_eq_true rfl) dL_refuses_292 (fun H locs w => ?_)
  refine lv_iconst (v := (-1)) F.1 F.2.1 dL_refuses_295 (by decide) ?_
  refine lv_icmp_ne (tgt := 331) F.1 F.2.1 dL_refuses_296 (by decide) (fun q => absurd rfl q) (fun _ => ?_)
  refine lv_aload_n F.1 F.2.1 dL_refuses_299 rfl (lv_at hl 3 rfl) ?_
  refine lv_iconst (v := nI 0) F.1 F.2.1 dL_refuses_300 (by decide) ?_
  refine k_call (As := [.int (nI 0)]) (rest := []) hf hX F w (k_flM l G a1 a2 a3 q0 v0 q1 v1 q2 v2 hS (by decide +kernel)) (gL_refuses_X7_flowFor) rfl (nA0 := 1) (by decide +kernel) rfl ⟨Nat.le_of_ble_eq_true rfl, Nat.le_of_ble_eq_true rfl⟩ ⟨Nat.le_of_ble_eq_true rfl, Nat.le_of_ble_eq_true rfl⟩ hl rfl (Nat.le_of_ble_eq_true rfl) dL_refuses_301 (fun H locs w => ?_)
  refine lv_iconst (v := (-1)) F.1 F.2.1 dL_refuses_304 (by decide) ?_
  refine lv_icmp_ne (tgt := 331) F.1 F.2.1 dL_refuses_305 (by decide) (fun q => absurd rfl q) (fun _ => ?_)
  refine lv_aload_n F.1 F.2.1 dL_refuses_308 rfl (lv_at hl 3 rfl) ?_
  refine lv_bipush (v := nI 31) F.1 F.2.1 dL_refuses_309 (by decide) ?_
  refine k_call (As := [.int (nI 31)]) (rest := []) hf hX F w (k_typeM l G a1 a2 a3 q0 v0 q1 v1 q2 v2 hS (by decide +kernel)) (gL_refuses_X7_type) rfl (nA0 := 1) (by decide +kernel) rfl ⟨Nat.le_of_ble_eq_true rfl, Nat.le_of_ble_eq_true rfl⟩ ⟨Nat.le_of_ble_eq_true rfl, Nat.le_of_ble_eq_true rfl⟩ hl rfl (Nat.le_of_ble_eq_true rfl) dL_refuses_311 (fun H locs w => ?_)
  refine lv_iconst (v := (-1)) F.1 F.2.1 dL_refuses_314 (by decide) ?_
  refine lv_icmp_ne (tgt := 331) F.1 F.2.1 dL_refuses_315 (by decide) (fun q => absurd rfl q) (fun _ => ?_)
  refine lv_aload_n F.1 F.2.1 dL_refuses_318 rfl (lv_at hl 3 rfl) ?_
  refine lv_iconst (v := nI 3) F.1 F.2.1 dL_refuses_319 (by decide) ?_
  refine k_call (As := [.int (nI 3)]) (rest := []) hf hX F w (k_faultM l G a1 a2 a3 q0 v0 q1 v1 q2 v2 hS (by decide +kernel)) (gL_refuses_X7_fault) rfl (nA0 := 1) (by decide +kernel) rfl ⟨Nat.le_of_ble_eq_true rfl, Nat.le_of_ble_eq_true rfl⟩ ⟨Nat.le_of_ble_eq_true rfl, Nat.le_of_ble_eq_true rfl⟩ hl rfl (Nat.le_of_ble_eq_true rfl) dL_refuses_320 (fun H locs w => ?_)
  refine lv_iconst (v := (-1)) F.1 F.2.1 dL_refuses_323 (by decide) ?_
  refine lv_icmp_ne (tgt := 331) F.1 F.2.1 dL_refuses_324 (by decide) (fun q => absurd rfl q) (fun _ => ?_)
  refine lv_iconst (v := nI 1) F.1 F.2.1 dL_refuses_327 (by decide) ?_
  refine lv_goto (tgt := 332) F.1 F.2.1 dL_refuses_328 (by decide) ?_
  refine lv_istore_n (lv' := [(3, .int (nI 1)), (2, .int (nI (P 16))), (1, .int (nI n)), (0, .ref b)]) F.1 F.2.1 dL_refuses_332 rfl hl (by decide) rfl (fun ls hl => ?_)
  refine lv_iload_n F.1 F.2.1 dL_refuses_333 rfl (lv_at hl 0 rfl) ?_
  refine r_zeq (tgt := 361) F dL_refuses_334 (by decide) (by decide) (fun c334 => by exfalso; omega) (fun c334 => ?_)
  refine lv_aload_n F.1 F.2.1 dL_refuses_337 rfl (lv_at hl 3 rfl) ?_
  refine lv_bipush (v := nI 22) F.1 F.2.1 dL_refuses_338 (by decide) ?_
  refine k_call (As := [.int (nI 22)]) (rest := []) hf hX F w (k_count l G a1 a2 a3 q0 v0 q1 v1 q2 v2 hS a_c22) (gL_refuses_X7_count) rfl (nA0 := 1) (by decide +kernel) rfl ⟨Nat.le_of_ble_eq_true rfl, Nat.le_of_ble_eq_true rfl⟩ ⟨Nat.le_of_ble_eq_true rfl, Nat.le_of_ble_eq_true rfl⟩ hl rfl (Nat.le_of_ble_eq_true rfl) dL_refuses_340 (fun H locs w => ?_)
  refine lv_iload_n F.1 F.2.1 dL_refuses_343 rfl (lv_at hl 2 rfl) ?_
  refine r_cne (tgt := 361) F dL_refuses_344 (by decide) (by omega) (by omega) (fun c344 => by exfalso; omega) (fun c344 => ?_)
  refine lv_aload_n F.1 F.2.1 dL_refuses_347 rfl (lv_at hl 3 rfl) ?_
  refine lv_bipush (v := nI 18) F.1 F.2.1 dL_refuses_348 (by decide) ?_
  refine k_call (As := [.int (nI 18)]) (rest := []) hf hX F w (k_count l G a1 a2 a3 q0 v0 q1 v1 q2 v2 hS a_c18) (gL_refuses_X7_count) rfl (nA0 := 1) (by decide +kernel) rfl ⟨Nat.le_of_ble_eq_true rfl, Nat.le_of_ble_eq_true rfl⟩ ⟨Nat.le_of_ble_eq_true rfl, Nat.le_of_ble_eq_true rfl⟩ hl rfl (Nat.le_of_ble_eq_true rfl) dL_refuses_350 (fun H locs w => ?_)
  refine lv_iload_n F.1 F.2.1 dL_refuses_353 rfl (lv_at hl 1 rfl) ?_
  refine r_cne (tgt := 361) F dL_refuses_354 (by decide) (by omega) (by omega) (fun c354 => by exfalso; omega) (fun c354 => ?_)
  refine lv_iconst (v := nI 1) F.1 F.2.1 dL_refuses_357 (by decide) ?_
  refine lv_goto (tgt := 362) F.1 F.2.1 dL_refuses_358 (by decide) ?_
  obtain ⟨ws', hc', w'⟩ := w
  exact r_zreturn F w' dL_refuses_362 rfl ⟨rfl, hc'⟩
