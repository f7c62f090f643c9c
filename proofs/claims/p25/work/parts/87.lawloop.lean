/-! ===== p25: the law's loop ===== -/
section LL
variable {p : Program} {l : Launch} {e : Env} {s : State} {m : MethodId} {args : Array Value} {below : List Frame} {meth : Method} {c : Code} {H : Heap} {locs : List Loc} {cells slots : Nat} {Q : State → Prop}
variable {G : KG} {A : Nat → Prop} {ls : Array Slot} {b sb u : Nat} {x y : Int32} {P : Nat → Nat} {n : Nat} {h : Nat → Nat → Nat}
set_option maxRecDepth 100000 in
set_option maxHeartbeats 8000000 in
theorem law_loop (hfin : ∀ (P : Nat → Nat) (n : Nat) (h : Nat → Nat → Nat) (H : Heap) (locs : List Loc) (ls : Array Slot), SI P n h → JI P → CW G s A H locs b P n h → lv_has ls 14 [(1, .ref b), (0, .ref sb)] → W p l e room_1 s m args below meth c H locs cells slots Q (F0 m 926 ls [])) {L : Nat} {xs : Nat → Int32} (a1 a2 a3 q0 v0 q1 v1 q2 v2 : Nat) (F : Fx p s m args meth c cL_law 14 RL lw_tbl ret) (hX : lawX a1 a2 a3 q0 v0 q1 v1 q2 v2 A s s.heap) (hXs : scrX sb L xs A s s.heap) (hL : L < 2 ^ 31) (hcs : cells ≤ room_1.cells ∧ slots ≤ room_1.slots) : ∀ (N u : Nat) (P : Nat → Nat) (n : Nat) (h : Nat → Nat → Nat) (H : Heap) (locs : List Loc) (ls : Array Slot), 40 - u < N → u ≤ 40 → SI P n h → JI P → P 16 ≤ 200 * u → CW G s A H locs b P n h → lv_has ls 14 [(2, .int (nI u)), (1, .ref b), (0, .ref sb)] → W p l e room_1 s m args below meth c H locs cells slots Q (F0 m 57 ls []) := by
  intro N
  induction N with
  | zero => intro u P n h H locs ls hm; exact absurd hm (Nat.not_lt_zero _)
  | succ N ih =>
    intro u P n h H locs ls hm hu hS hJ ht w hl
    have hf := fine_law a1 a2 a3 q0 v0 q1 v1 q2 v2
    have hI := hS.1
    obtain ⟨f8, f14, ft1, ft2, ft3, fd1, fd2, fd3, fw1, fw2, fw3, fb1, fb2, fb3, fb4, fb5, fb6, fc1, fc2, fc3, fc4, fn5, fs1, fs2⟩ := S_facts hS hJ
    refine lv_iload_n F.1 F.2.1 dL_law_57 rfl (lv_at hl 0 rfl) ?_
    refine lv_bipush (v := nI 40) F.1 F.2.1 dL_law_58 (by decide) ?_
    refine r_cge (tgt := 926) F dL_law_60 (by decide) (by omega) (by decide) (fun c60 => ?_) (fun c60 => ?_)
    · skip
      exact hfin P n h H locs ls hS hJ w (lv_sub hl [1, 2] rfl)
    · skip
      refine lv_aload_n F.1 F.2.1 dL_law_63 rfl (lv_at hl 2 rfl) ?_
      refine lv_iconst (v := nI 2) F.1 F.2.1 dL_law_64 (by decide) ?_
      refine lv_iload_n F.1 F.2.1 dL_law_65 rfl (lv_at hl 0 rfl) ?_
      refine r_imul F dL_law_66 ?_
      refine k_call0 (As := [.ref sb, .int (nI (2 * u))]) (rest := []) (fine_scr sb L xs) hXs F w (c_L_lot l G sb L (2 * u) xs hL (by omega)) ((gL_law_L_lot).tr lw_in) rfl (nA0 := 2) (by decide +kernel) rfl ⟨Nat.le_of_ble_eq_true rfl, Nat.le_of_ble_eq_true rfl⟩ hcs hl rfl (Nat.le_of_ble_eq_true rfl) dL_law_67 (fun x H locs hr w => ?_)
      refine lv_istore_n (lv' := [(3, .int x), (2, .int (nI u)), (1, .ref b), (0, .ref sb)]) F.1 F.2.1 dL_law_70 rfl hl (by decide) rfl (fun ls hl => ?_)
      refine lv_aload_n F.1 F.2.1 dL_law_71 rfl (lv_at hl 3 rfl) ?_
      refine lv_iconst (v := nI 2) F.1 F.2.1 dL_law_72 (by decide) ?_
      refine lv_iload_n F.1 F.2.1 dL_law_73 rfl (lv_at hl 1 rfl) ?_
      refine r_imul F dL_law_74 ?_
      refine lv_iconst (v := nI 1) F.1 F.2.1 dL_law_75 (by decide) ?_
      refine r_iadd F dL_law_76 ?_
      refine k_call0 (As := [.ref sb, .int (nI ((2 * u) + 1))]) (rest := []) (fine_scr sb L xs) hXs F w (c_L_lot l G sb L ((2 * u) + 1) xs hL (by omega)) ((gL_law_L_lot).tr lw_in) rfl (nA0 := 2) (by decide +kernel) rfl ⟨Nat.le_of_ble_eq_true rfl, Nat.le_of_ble_eq_true rfl⟩ hcs hl rfl (Nat.le_of_ble_eq_true rfl) dL_law_77 (fun y H locs hr w => ?_)
      refine lv_istore (lv' := [(4, .int y), (3, .int x), (2, .int (nI u)), (1, .ref b), (0, .ref sb)]) F.1 F.2.1 dL_law_80 hl (by decide) rfl (fun ls hl => ?_)
      have L920 : ∀ (P' : Nat → Nat) (n' : Nat) (h' : Nat → Nat → Nat) (H : Heap) (locs : List Loc) (ls : Array Slot), SI P' n' h' → JI P' → P' 16 ≤ P 16 + 200 → CW G s A H locs b P' n' h' → lv_has ls 14 [(2, .int (nI u)), (1, .ref b), (0, .ref sb)] → W p l e room_1 s m args below meth c H locs cells slots Q (F0 m 920 ls []) := by
        intro P' n' h' H locs ls hS' hJ' ht' w hl
        refine lv_iinc (v := nI (u + 1)) (lv' := [(2, .int (nI (u + 1))), (1, .ref b), (0, .ref sb)]) F.1 F.2.1 dL_law_920 hl (k := 0) rfl (nI_add _ _) (by decide) rfl (fun ls hl => ?_)
        refine lv_goto (tgt := 57) F.1 F.2.1 dL_law_923 (by decide) ?_
        exact ih (u + 1) P' n' h' H locs ls (by omega) (by omega) hS' hJ' (by omega) w (lv_sub hl [0, 1, 2] rfl)
      have L898 : ∀ (P' : Nat → Nat) (n' : Nat) (h' : Nat → Nat → Nat) (H : Heap) (locs : List Loc) (ls : Array Slot), SI P' n' h' → JI P' → P' 16 ≤ P 16 + 200 → CW G s A H locs b P' n' h' → lv_has ls 14 [(3, .int x), (2, .int (nI u)), (1, .ref b), (0, .ref sb)] → W p l e room_1 s m args below meth c H locs cells slots Q (F0 m 898 ls []) := by
        intro P' n' h' H locs ls hS' hJ' ht' w hl
        refine lv_iload_n F.1 F.2.1 dL_law_898 rfl (lv_at hl 1 rfl) ?_
        refine lv_bipush (v := nI 13) F.1 F.2.1 dL_law_899 (by decide) ?_
        refine r_irem F dL_law_901 (by omega) (by decide) (by decide) ?_
        refine lv_bipush (v := nI 12) F.1 F.2.1 dL_law_902 (by decide) ?_
        refine r_cne (tgt := 920) F dL_law_904 (by decide) (by omega) (by decide) (fun c904 => ?_) (fun c904 => ?_)
        · skip
          exact L920 P' n' h' H locs ls hS' hJ' ht' w (lv_sub hl [1, 2, 3] rfl)
        · skip
          refine lv_aload_n F.1 F.2.1 dL_law_907 rfl (lv_at hl 2 rfl) ?_
          refine lv_iload_n F.1 F.2.1 dL_law_908 rfl (lv_at hl 0 rfl) ?_
          refine lv_bipush (v := nI 7) F.1 F.2.1 dL_law_909 (by decide) ?_
          refine lv_ishr F.1 F.2.1 dL_law_911 ?_
          refine k_callL (As := [.int (x >>> (nI 7 &&& 31))]) (rest := []) hf hX F w (c_L_flows l G a1 a2 a3 q0 v0 q1 v1 q2 v2 hS' hJ' (by omega) _ b) ((gL_law_L_flows).tr lw_in) rfl (nA0 := 2) (by decide +kernel) rfl ⟨Nat.le_of_ble_eq_true rfl, Nat.le_of_ble_eq_true rfl⟩ hcs hl rfl (Nat.le_of_ble_eq_true rfl) dL_law_912 (fun w1 H locs hv w => ?_)
          obtain ⟨n2, h2, hS2, hc'⟩ := hv
          have w : CW G s A H locs b P' n2 h2 := ⟨w1, hc', w⟩
          refine r_zne (tgt := 920) F dL_law_915 (by decide) (by decide) (fun c915 => ?_) (fun c915 => by exfalso; omega)
          exact L920 P' n2 h2 H locs ls hS2 hJ' ht' w (lv_sub hl [1, 2, 3] rfl)
      have L862 : ∀ (P' : Nat → Nat) (n' : Nat) (h' : Nat → Nat → Nat) (d : Nat) (H : Heap) (locs : List Loc) (ls : Array Slot), SI P' n' h' → JI P' → P' 16 ≤ P 16 + 200 → d ≤ toldF P' → CW G s A H locs b P' n' h' → lv_has ls 14 [(6, .int (nI d)), (4, .int y), (3, .int x), (2, .int (nI u)), (1, .ref b), (0, .ref sb)] → W p l e room_1 s m args below meth c H locs cells slots Q (F0 m 862 ls []) := by
        intro P' n' h' d H locs ls hS' hJ' ht' hd w hl
        have hb := told_b hS'.1
        refine lv_aload_n F.1 F.2.1 dL_law_862 rfl (lv_at hl 4 rfl) ?_
        refine k_callL (As := []) (rest := []) hf hX F w (c_L_sound l G a1 a2 a3 q0 v0 q1 v1 q2 v2 hS' hJ' b) ((gL_law_L_sound).tr lw_in) rfl (nA0 := 1) (by decide +kernel) rfl ⟨Nat.le_of_ble_eq_true rfl, Nat.le_of_ble_eq_true rfl⟩ hcs hl rfl (Nat.le_of_ble_eq_true rfl) dL_law_863 (fun w1 H locs hv w => ?_)
        have w : CW G s A H locs b P' n' h' := ⟨w1, hv, w⟩
        refine r_zeq (tgt := 918) F dL_law_866 (by decide) (by decide) (fun c866 => by exfalso; omega) (fun c866 => ?_)
        refine lv_aload_n F.1 F.2.1 dL_law_869 rfl (lv_at hl 4 rfl) ?_
        refine lv_bipush (v := nI 15) F.1 F.2.1 dL_law_870 (by decide) ?_
        refine k_call (As := [.int (nI 15)]) (rest := []) hf hX F w (k_count l G a1 a2 a3 q0 v0 q1 v1 q2 v2 hS' a_c15) ((gL_law_X7_count).tr lw_in) rfl (nA0 := 1) (by decide +kernel) rfl ⟨Nat.le_of_ble_eq_true rfl, Nat.le_of_ble_eq_true rfl⟩ hcs hl rfl (Nat.le_of_ble_eq_true rfl) dL_law_872 (fun H locs w => ?_)
        refine lv_iload F.1 F.2.1 dL_law_875 (lv_at hl 0 rfl) ?_
        refine r_clt (tgt := 918) F dL_law_877 (by decide) (by omega) (by omega) (fun c877 => by exfalso; omega) (fun c877 => ?_)
        refine lv_iload_n F.1 F.2.1 dL_law_880 rfl (lv_at hl 3 rfl) ?_
        refine lv_iconst (v := nI 4) F.1 F.2.1 dL_law_881 (by decide) ?_
        refine r_irem F dL_law_882 (by omega) (by decide) (by decide) ?_
        refine lv_iconst (v := nI 3) F.1 F.2.1 dL_law_883 (by decide) ?_
        refine r_cne (tgt := 898) F dL_law_884 (by decide) (by omega) (by decide) (fun c884 => ?_) (fun c884 => ?_)
        · skip
          exact L898 P' n' h' H locs ls hS' hJ' ht' w (lv_sub hl [2, 3, 4, 5] rfl)
        · skip
          refine lv_aload_n F.1 F.2.1 dL_law_887 rfl (lv_at hl 4 rfl) ?_
          refine lv_iload F.1 F.2.1 dL_law_888 (lv_at hl 1 rfl) ?_
          refine lv_iconst (v := nI 3) F.1 F.2.1 dL_law_890 (by decide) ?_
          refine lv_ishr F.1 F.2.1 dL_law_891 ?_
          refine k_callL (As := [.int (y >>> (nI 3 &&& 31))]) (rest := []) hf hX F w (c_L_segments l G a1 a2 a3 q0 v0 q1 v1 q2 v2 hS' hJ' _ b) ((gL_law_L_segments).tr lw_in) rfl (nA0 := 2) (by decide +kernel) rfl ⟨Nat.le_of_ble_eq_true rfl, Nat.le_of_ble_eq_true rfl⟩ hcs hl rfl (Nat.le_of_ble_eq_true rfl) dL_law_892 (fun w1 H locs hv w => ?_)
          have w : CW G s A H locs b P' n' h' := ⟨w1, hv, w⟩
          refine r_zeq (tgt := 918) F dL_law_895 (by decide) (by decide) (fun c895 => by exfalso; omega) (fun c895 => ?_)
          exact L898 P' n' h' H locs ls hS' hJ' ht' w (lv_sub hl [2, 3, 4, 5] rfl)
      refine lv_aload_n F.1 F.2.1 dL_law_82 rfl (lv_at hl 3 rfl) ?_
      refine lv_bipush (v := nI 8) F.1 F.2.1 dL_law_83 (by decide) ?_
      refine k_call (As := [.int (nI 8)]) (rest := []) hf hX F w (k_count l G a1 a2 a3 q0 v0 q1 v1 q2 v2 hS a_c8) ((gL_law_X7_count).tr lw_in) rfl (nA0 := 1) (by decide +kernel) rfl ⟨Nat.le_of_ble_eq_true rfl, Nat.le_of_ble_eq_true rfl⟩ hcs hl rfl (Nat.le_of_ble_eq_true rfl) dL_law_85 (fun H locs w => ?_)
      refine lv_istore (lv' := [(5, .int (nI (P 8))), (4, .int y), (3, .int x), (2, .int (nI u)), (1, .ref b), (0, .ref sb)]) F.1 F.2.1 dL_law_88 hl (by decide) rfl (fun ls hl => ?_)
      refine lv_aload_n F.1 F.2.1 dL_law_90 rfl (lv_at hl 4 rfl) ?_
      refine lv_bipush (v := nI 15) F.1 F.2.1 dL_law_91 (by decide) ?_
      refine k_call (As := [.int (nI 15)]) (rest := []) hf hX F w (k_count l G a1 a2 a3 q0 v0 q1 v1 q2 v2 hS a_c15) ((gL_law_X7_count).tr lw_in) rfl (nA0 := 1) (by decide +kernel) rfl ⟨Nat.le_of_ble_eq_true rfl, Nat.le_of_ble_eq_true rfl⟩ hcs hl rfl (Nat.le_of_ble_eq_true rfl) dL_law_93 (fun H locs w => ?_)
      refine lv_istore (lv' := [(6, .int (nI (toldF P))), (5, .int (nI (P 8))), (4, .int y), (3, .int x), (2, .int (nI u)), (1, .ref b), (0, .ref sb)]) F.1 F.2.1 dL_law_96 hl (by decide) rfl (fun ls hl => ?_)
      have L115 : ∀ (hw : Nat), hw < 12 → ∀ (H : Heap) (locs : List Loc), CW G s A H locs b P n h → ∀ ls : Array Slot, lv_has ls 14 [(7, .int (nI hw)), (6, .int (nI (toldF P))), (5, .int (nI (P 8))), (4, .int y), (3, .int x), (2, .int (nI u)), (1, .ref b), (0, .ref sb)] → W p l e room_1 s m args below meth c H locs cells slots Q (F0 m 115 ls []) := by
        intro hw hw1 H locs w ls hl
        refine lv_iload F.1 F.2.1 dL_law_115 (lv_at hl 0 rfl) ?_
        refine lv_iconst (v := nI 2) F.1 F.2.1 dL_law_117 (by decide) ?_
        refine r_cge (tgt := 351) F dL_law_118 (by decide) (by omega) (by decide) (fun c118 => ?_) (fun c118 => ?_)
        · skip
          refine lv_iload F.1 F.2.1 dL_law_351 (lv_at hl 0 rfl) ?_
          refine lv_iconst (v := nI 5) F.1 F.2.1 dL_law_353 (by decide) ?_
          refine r_cge (tgt := 592) F dL_law_354 (by decide) (by omega) (by decide) (fun c354 => ?_) (fun c354 => ?_)
          · skip
            refine lv_iload F.1 F.2.1 dL_law_592 (lv_at hl 0 rfl) ?_
            refine lv_iconst (v := nI 5) F.1 F.2.1 dL_law_594 (by decide) ?_
            refine r_cne (tgt := 708) F dL_law_595 (by decide) (by omega) (by decide) (fun c595 => ?_) (fun c595 => ?_)
            · skip
              refine lv_iload F.1 F.2.1 dL_law_708 (lv_at hl 0 rfl) ?_
              refine lv_bipush (v := nI 6) F.1 F.2.1 dL_law_710 (by decide) ?_
              refine r_cne (tgt := 821) F dL_law_712 (by decide) (by omega) (by decide) (fun c712 => ?_) (fun c712 => ?_)
              · skip
                exact lc_passes a1 a2 a3 q0 v0 q1 v1 q2 v2 F hX hcs hS hJ (by omega) w (lv_sub hl [1, 2, 3, 4, 5, 6, 7] rfl) L862
              · skip
                refine lv_iload F.1 F.2.1 dL_law_715 (lv_at hl 3 rfl) ?_
                refine lv_iconst (v := nI 3) F.1 F.2.1 dL_law_717 (by decide) ?_
                refine k_call0 (As := [.int y, .int (nI 3)]) (rest := []) hf hX F w ((c_L_low l G y (n := 3) (by decide)).toX) ((gL_law_L_low).tr lw_in) rfl (nA0 := 2) (by decide +kernel) rfl ⟨Nat.le_of_ble_eq_true rfl, Nat.le_of_ble_eq_true rfl⟩ hcs hl rfl (Nat.le_of_ble_eq_true rfl) dL_law_718 (fun r H locs hr w => ?_)
                subst hr
                have z718 := lowF_lt y (n := 3) (by decide)
                refine r_zne (tgt := 821) F dL_law_721 (by decide) (by omega) (fun c721 => ?_) (fun c721 => ?_)
                · skip
                  exact lc_passes a1 a2 a3 q0 v0 q1 v1 q2 v2 F hX hcs hS hJ (by omega) w (lv_sub hl [1, 2, 3, 4, 5, 6, 7] rfl) L862
                · skip
                  exact lc_renew a1 a2 a3 q0 v0 q1 v1 q2 v2 F hX hcs hS hJ (by omega) w (lv_sub hl [1, 2, 3, 4, 5, 6, 7] rfl) L862
            · skip
              exact lc_clean a1 a2 a3 q0 v0 q1 v1 q2 v2 F hX hcs hS hJ (by omega) w (lv_sub hl [1, 2, 3, 4, 5, 6, 7] rfl) L862
          · skip
            exact lc_set a1 a2 a3 q0 v0 q1 v1 q2 v2 F hX hcs hS hJ (by omega) w (lv_sub hl [1, 2, 3, 4, 5, 6, 7] rfl) L862
        · skip
          exact lc_add a1 a2 a3 q0 v0 q1 v1 q2 v2 F hX hcs hS hJ (by omega) w (lv_sub hl [1, 2, 3, 4, 5, 6, 7] rfl) L862
      refine lv_iload_n F.1 F.2.1 dL_law_98 rfl (lv_at hl 4 rfl) ?_
      refine lv_iconst (v := nI 4) F.1 F.2.1 dL_law_99 (by decide) ?_
      refine r_cge (tgt := 107) F dL_law_100 (by decide) (by omega) (by decide) (fun c100 => ?_) (fun c100 => ?_)
      · skip
        refine lv_iload_n F.1 F.2.1 dL_law_107 rfl (lv_at hl 3 rfl) ?_
        refine lv_bipush (v := nI 12) F.1 F.2.1 dL_law_108 (by decide) ?_
        refine k_call0 (As := [.int x, .int (nI 12)]) (rest := []) hf hX F w ((c_L_low l G x (n := 12) (by decide)).toX) ((gL_law_L_low).tr lw_in) rfl (nA0 := 2) (by decide +kernel) rfl ⟨Nat.le_of_ble_eq_true rfl, Nat.le_of_ble_eq_true rfl⟩ hcs hl rfl (Nat.le_of_ble_eq_true rfl) dL_law_110 (fun r H locs hr w => ?_)
        subst hr
        have z110 := lowF_lt x (n := 12) (by decide)
        refine lv_istore (lv' := [(7, .int (nI (lowF x 12))), (6, .int (nI (toldF P))), (5, .int (nI (P 8))), (4, .int y), (3, .int x), (2, .int (nI u)), (1, .ref b), (0, .ref sb)]) F.1 F.2.1 dL_law_113 hl (by decide) rfl (fun ls hl => ?_)
        exact L115 (lowF x 12) (by omega) H locs w ls (lv_sub hl [0, 1, 2, 3, 4, 5, 6, 7] rfl)
      · skip
        refine lv_iconst (v := nI 0) F.1 F.2.1 dL_law_103 (by decide) ?_
        refine lv_goto (tgt := 113) F.1 F.2.1 dL_law_104 (by decide) ?_
        refine lv_istore (lv' := [(7, .int (nI 0)), (6, .int (nI (toldF P))), (5, .int (nI (P 8))), (4, .int y), (3, .int x), (2, .int (nI u)), (1, .ref b), (0, .ref sb)]) F.1 F.2.1 dL_law_113 hl (by decide) rfl (fun ls hl => ?_)
        exact L115 0 (by omega) H locs w ls (lv_sub hl [0, 1, 2, 3, 4, 5, 6, 7] rfl)
end LL
