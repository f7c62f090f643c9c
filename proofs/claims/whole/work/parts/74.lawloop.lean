/-! ===== the law: its loop ===== -/
section LAWS
variable {p : Program} {l : Launch} {e : Env} {s : State} {m : MethodId} {args : Array Value} {below : List Frame} {meth : Method} {c : Code} {H : Heap} {locs : List Loc} {cells slots : Nat} {Q : State → Prop}
variable {G : KG} {A : Nat → Prop} {ls : Array Slot} {rest : List Value} {b x1 x2 L i : Nat} {xs : Nat → Int32}
set_option maxHeartbeats 8000000 in
theorem law_loop (fin : ∀ (ws1 : va_W) (H1 : Heap) (locs1 : List Loc) (ls1 : Array Slot), Wd G s A ws1 H1 locs1 → W p l e room_1 s m args below meth c H1 locs1 cells slots Q (F0 m 678 ls1 [])) (a1 a2 a3 q0 v0 q1 v1 q2 v2 : Nat) (F : Fx p s m args meth c cL_law 4 RL lw_tbl ret) (hXX : lawX a1 a2 a3 q0 v0 q1 v1 q2 v2 A s s.heap) (hX : va_X b L xs s s.heap) (hbl : b < s.heap.size) (hbA : ¬ A b) (hL : L < 2 ^ 31) (hcs : cells ≤ room_1.cells ∧ slots ≤ room_1.slots) : ∀ (nf i : Nat) (P : Nat → Nat) (tl : Nat) (T : Nat → Nat) (n : Nat) (h : Nat → Nat → Nat) (wsc wsr : va_W) (H : Heap) (locs : List Loc) (ls : Array Slot), L - i < nf → i ≤ L → SInv P tl T n h → CS G x1 P tl T n h wsc → RS G x2 P tl T n h wsr → Wd G s A (wsc ++ wsr) H locs → lv_has ls 4 [(0, .ref b), (1, .ref x1), (2, .ref x2), (3, .int (nI i))] → W p l e room_1 s m args below meth c H locs cells slots Q (F0 m 18 ls []) := by
  intro nf
  induction nf with
  | zero => intro i P tl T n h wsc wsr H locs ls hlt; exact absurd hlt (Nat.not_lt_zero _)
  | succ nf ih =>
    intro i P tl T n h wsc wsr H locs ls hlt hiL hS hc hr w hl
    refine lv_iload_n F.1 F.2.1 dL_law_18 rfl (lv_at hl 3 rfl) ?_
    refine lv_aload_n F.1 F.2.1 dL_law_19 rfl (lv_at hl 0 rfl) ?_
    refine va_slen F.1 F.2.1 hX hbl hbA w.2.2.1 dL_law_20 ?_
    refine lv_iconst (v := nI 5) F.1 F.2.1 dL_law_21 (by decide) ?_
    refine lv_isub F.1 F.2.1 dL_law_22 ?_
    by_cases hi : i + 4 < L
    · have hlt2 : ¬ (Int32.ofNat L - nI 5 < nI i) := by
        show ¬ (nI L - nI 5 < nI i)
        rw [pk_sub (show 5 ≤ L by omega)]
        exact fun q => absurd ((nI_ltI (by omega) (by omega)).mp q) (by omega)
      refine lv_icmp_gt (tgt := 678) F.1 F.2.1 dL_law_23 (by decide) (fun q => absurd q hlt2) (fun _ => ?_)
      have kk : ∀ (P' : Nat → Nat) (tl' : Nat) (T' : Nat → Nat) (n' : Nat) (h' : Nat → Nat → Nat) (wsc' wsr' : va_W) (H1 : Heap) (locs1 : List Loc), SInv P' tl' T' n' h' → CS G x1 P' tl' T' n' h' wsc' → RS G x2 P' tl' T' n' h' wsr' → Wd G s A (wsc' ++ wsr') H1 locs1 → W p l e room_1 s m args below meth c H1 locs1 cells slots Q (F0 m 672 ls []) := by
        intro P' tl' T' n' h' wsc' wsr' H1 locs1 hS' hc' hr' w'
        refine lv_iinc (v := nI (i + 5)) (lv' := [(3, .int (nI (i + 5))), (0, .ref b), (1, .ref x1), (2, .ref x2)]) F.1 F.2.1 dL_law_672 hl (k := 3) rfl (nI_add i 5) (by decide) rfl (fun ls hl => ?_)
        refine lv_goto (tgt := 18) F.1 F.2.1 dL_law_675 (by decide) ?_
        exact ih (i + 5) P' tl' T' n' h' wsc' wsr' H1 locs1 ls (by omega) (by omega) hS' hc' hr' w' (lv_sub hl [1, 2, 3, 0] rfl)
      refine lv_aload_n F.1 F.2.1 dL_law_26 rfl (lv_at hl 0 rfl) ?_
      refine lv_iload_n F.1 F.2.1 dL_law_27 rfl (lv_at hl 3 rfl) ?_
      refine va_sld F.1 F.2.1 hX hbl hbA w.2.2.1 (vp_in_nI (by omega) hL) dL_law_28 ?_
      refine lv_bipush (v := 31) F.1 F.2.1 dL_law_29 (by decide) ?_
      refine lv_iand F.1 F.2.1 dL_law_31 ?_
      refine lv_topi (fun v hv => ?_)
      by_cases h0 : v = 0
      · exact r_swIn (k := 0) (off := 104) (tgt := 136) F dL_law_32 h0 (by decide) (by decide) (by decide) (by decide) (lawc_0 a1 a2 a3 q0 v0 q1 v1 q2 v2 F hXX hX hbl hbA hL hi hcs hS hc hr w hl kk)
      by_cases h1 : v = 1
      · exact r_swIn (k := 1) (off := 157) (tgt := 189) F dL_law_32 h1 (by decide) (by decide) (by decide) (by decide) (lawc_1 a1 a2 a3 q0 v0 q1 v1 q2 v2 F hXX hX hbl hbA hL hi hcs hS hc hr w hl kk)
      by_cases h2 : v = 2
      · exact r_swIn (k := 2) (off := 190) (tgt := 222) F dL_law_32 h2 (by decide) (by decide) (by decide) (by decide) (lawc_2 a1 a2 a3 q0 v0 q1 v1 q2 v2 F hXX hX hbl hbA hL hi hcs hS hc hr w hl kk)
      by_cases h3 : v = 3
      · exact r_swIn (k := 3) (off := 213) (tgt := 245) F dL_law_32 h3 (by decide) (by decide) (by decide) (by decide) (lawc_3 a1 a2 a3 q0 v0 q1 v1 q2 v2 F hXX hX hbl hbA hL hi hcs hS hc hr w hl kk)
      by_cases h4 : v = 4
      · exact r_swIn (k := 4) (off := 236) (tgt := 268) F dL_law_32 h4 (by decide) (by decide) (by decide) (by decide) (lawc_4 a1 a2 a3 q0 v0 q1 v1 q2 v2 F hXX hX hbl hbA hL hi hcs hS hc hr w hl kk)
      by_cases h5 : v = 5
      · exact r_swIn (k := 5) (off := 249) (tgt := 281) F dL_law_32 h5 (by decide) (by decide) (by decide) (by decide) (lawc_5 a1 a2 a3 q0 v0 q1 v1 q2 v2 F hXX hX hbl hbA hL hi hcs hS hc hr w hl kk)
      by_cases h6 : v = 6
      · exact r_swIn (k := 6) (off := 262) (tgt := 294) F dL_law_32 h6 (by decide) (by decide) (by decide) (by decide) (lawc_6 a1 a2 a3 q0 v0 q1 v1 q2 v2 F hXX hX hbl hbA hL hi hcs hS hc hr w hl kk)
      by_cases h7 : v = 7
      · exact r_swIn (k := 7) (off := 295) (tgt := 327) F dL_law_32 h7 (by decide) (by decide) (by decide) (by decide) (lawc_7 a1 a2 a3 q0 v0 q1 v1 q2 v2 F hXX hX hbl hbA hL hi hcs hS hc hr w hl kk)
      by_cases h8 : v = 8
      · exact r_swIn (k := 8) (off := 318) (tgt := 350) F dL_law_32 h8 (by decide) (by decide) (by decide) (by decide) (lawc_8 a1 a2 a3 q0 v0 q1 v1 q2 v2 F hXX hX hbl hbA hL hi hcs hS hc hr w hl kk)
      by_cases h9 : v = 9
      · exact r_swIn (k := 9) (off := 341) (tgt := 373) F dL_law_32 h9 (by decide) (by decide) (by decide) (by decide) (lawc_9 a1 a2 a3 q0 v0 q1 v1 q2 v2 F hXX hX hbl hbA hL hi hcs hS hc hr w hl kk)
      by_cases h10 : v = 10
      · exact r_swIn (k := 10) (off := 364) (tgt := 396) F dL_law_32 h10 (by decide) (by decide) (by decide) (by decide) (lawc_10 a1 a2 a3 q0 v0 q1 v1 q2 v2 F hXX hX hbl hbA hL hi hcs hS hc hr w hl kk)
      by_cases h11 : v = 11
      · exact r_swIn (k := 11) (off := 387) (tgt := 419) F dL_law_32 h11 (by decide) (by decide) (by decide) (by decide) (lawc_11 a1 a2 a3 q0 v0 q1 v1 q2 v2 F hXX hX hbl hbA hL hi hcs hS hc hr w hl kk)
      by_cases h12 : v = 12
      · exact r_swIn (k := 12) (off := 420) (tgt := 452) F dL_law_32 h12 (by decide) (by decide) (by decide) (by decide) (lawc_12 a1 a2 a3 q0 v0 q1 v1 q2 v2 F hXX hX hbl hbA hL hi hcs hS hc hr w hl kk)
      by_cases h13 : v = 13
      · exact r_swIn (k := 13) (off := 433) (tgt := 465) F dL_law_32 h13 (by decide) (by decide) (by decide) (by decide) (lawc_13 a1 a2 a3 q0 v0 q1 v1 q2 v2 F hXX hX hbl hbA hL hi hcs hS hc hr w hl kk)
      by_cases h14 : v = 14
      · exact r_swIn (k := 14) (off := 466) (tgt := 498) F dL_law_32 h14 (by decide) (by decide) (by decide) (by decide) (lawc_14 a1 a2 a3 q0 v0 q1 v1 q2 v2 F hXX hX hbl hbA hL hi hcs hS hc hr w hl kk)
      by_cases h15 : v = 15
      · exact r_swIn (k := 15) (off := 489) (tgt := 521) F dL_law_32 h15 (by decide) (by decide) (by decide) (by decide) (lawc_15 a1 a2 a3 q0 v0 q1 v1 q2 v2 F hXX hX hbl hbA hL hi hcs hS hc hr w hl kk)
      by_cases h16 : v = 16
      · exact r_swIn (k := 16) (off := 522) (tgt := 554) F dL_law_32 h16 (by decide) (by decide) (by decide) (by decide) (lawc_16 a1 a2 a3 q0 v0 q1 v1 q2 v2 F hXX hX hbl hbA hL hi hcs hS hc hr w hl kk)
      by_cases h17 : v = 17
      · exact r_swIn (k := 17) (off := 545) (tgt := 577) F dL_law_32 h17 (by decide) (by decide) (by decide) (by decide) (lawc_17 a1 a2 a3 q0 v0 q1 v1 q2 v2 F hXX hX hbl hbA hL hi hcs hS hc hr w hl kk)
      by_cases h18 : v = 18
      · exact r_swIn (k := 18) (off := 568) (tgt := 600) F dL_law_32 h18 (by decide) (by decide) (by decide) (by decide) (lawc_18 a1 a2 a3 q0 v0 q1 v1 q2 v2 F hXX hX hbl hbA hL hi hcs hS hc hr w hl kk)
      by_cases h19 : v = 19
      · exact r_swIn (k := 19) (off := 591) (tgt := 623) F dL_law_32 h19 (by decide) (by decide) (by decide) (by decide) (lawc_19 a1 a2 a3 q0 v0 q1 v1 q2 v2 F hXX hX hbl hbA hL hi hcs hS hc hr w hl kk)
      by_cases h20 : v = 20
      · exact r_swIn (k := 20) (off := 604) (tgt := 636) F dL_law_32 h20 (by decide) (by decide) (by decide) (by decide) (lawc_20 a1 a2 a3 q0 v0 q1 v1 q2 v2 F hXX hX hbl hbA hL hi hcs hS hc hr w hl kk)
      by_cases h21 : v = 21
      · exact r_swIn (k := 21) (off := 627) (tgt := 659) F dL_law_32 h21 (by decide) (by decide) (by decide) (by decide) (lawc_21 a1 a2 a3 q0 v0 q1 v1 q2 v2 F hXX hX hbl hbA hL hi hcs hS hc hr w hl kk)
      refine r_swOut (tgt := 672) F dL_law_32 ?_ (by decide) (kk P tl T n h wsc wsr H locs hS hc hr w)
      refine Classical.byContradiction (fun q => ?_)
      have q1 : ¬ v.toInt < 0 := fun z => q (Or.inl z)
      have q2 : ¬ 21 < v.toInt := fun z => q (Or.inr z)
      obtain ⟨j, hj, rfl⟩ := nI_of (x := v) (fun z => q1 (Int32.lt_iff_toInt_lt.mp z))
      rw [nI_toInt hj] at q2
      have hj2 : j < 22 := by omega
      rcases (show j = 0 ∨ j = 1 ∨ j = 2 ∨ j = 3 ∨ j = 4 ∨ j = 5 ∨ j = 6 ∨ j = 7 ∨ j = 8 ∨ j = 9 ∨ j = 10 ∨ j = 11 ∨ j = 12 ∨ j = 13 ∨ j = 14 ∨ j = 15 ∨ j = 16 ∨ j = 17 ∨ j = 18 ∨ j = 19 ∨ j = 20 ∨ j = 21 by omega) with rfl | rfl | rfl | rfl | rfl | rfl | rfl | rfl | rfl | rfl | rfl | rfl | rfl | rfl | rfl | rfl | rfl | rfl | rfl | rfl | rfl | rfl
      · exact h0 (by decide)
      · exact h1 (by decide)
      · exact h2 (by decide)
      · exact h3 (by decide)
      · exact h4 (by decide)
      · exact h5 (by decide)
      · exact h6 (by decide)
      · exact h7 (by decide)
      · exact h8 (by decide)
      · exact h9 (by decide)
      · exact h10 (by decide)
      · exact h11 (by decide)
      · exact h12 (by decide)
      · exact h13 (by decide)
      · exact h14 (by decide)
      · exact h15 (by decide)
      · exact h16 (by decide)
      · exact h17 (by decide)
      · exact h18 (by decide)
      · exact h19 (by decide)
      · exact h20 (by decide)
      · exact h21 (by decide)
    · have hlt2 : Int32.ofNat L - nI 5 < nI i := by
        show nI L - nI 5 < nI i
        by_cases h5 : 5 ≤ L
        · rw [pk_sub h5]
          exact nI_lt (by omega) (by omega)
        · exact Int32.lt_of_lt_of_le (nI_sub_neg (by omega) (by decide)) (nI_pos' (by omega))
      refine lv_icmp_gt (tgt := 678) F.1 F.2.1 dL_law_23 (by decide) (fun _ => ?_) (fun q => absurd hlt2 q)
      exact fin _ H locs ls w
end LAWS
theorem dfX7 : ∀ j, j < 5 → defaultValue (tyX7 j) = vp_V [.null, .null, .null, .null, .null] j := fun j hj => by
  rcases (show j = 0 ∨ j = 1 ∨ j = 2 ∨ j = 3 ∨ j = 4 by omega) with rfl | rfl | rfl | rfl | rfl <;> rfl
theorem dfX8 : ∀ j, j < 11 → defaultValue (tyX8 j) = vp_V [.null, .null, .null, .int (nI 0), .null, .int (nI 0), .int (nI 0), .int (nI 0), .int (nI 0), .int (nI 0), .null] j := fun j hj => by
  rcases (show j = 0 ∨ j = 1 ∨ j = 2 ∨ j = 3 ∨ j = 4 ∨ j = 5 ∨ j = 6 ∨ j = 7 ∨ j = 8 ∨ j = 9 ∨ j = 10 by omega) with rfl | rfl | rfl | rfl | rfl | rfl | rfl | rfl | rfl | rfl | rfl <;> rfl
set_option maxHeartbeats 8000000 in
set_option maxRecDepth 100000 in
/-- the law from its entry: both objects are made, the loop, the end -/
theorem whole_start {p : Program} {e : Env} {s : State} {m : MethodId} {below : List Frame} {meth : Method} {c : Code} (l : Launch) (hflags : l.flags = flags0) {b L : Nat} {xs : Nat → Int32} (hL : L ≤ 2560) (C0 : lw_At p s m meth c b L xs) : W p l e room_1 s m #[Value.ref b] below meth c s.heap [] 0 0 (lw_Z below #[Value.ref b] s) (entryFrame m ([Value.ref b] : List Value).toArray 4) := by
  obtain ⟨hx, hb, hr, hml, hown, hts, hX, hbl, hlocks, hgv⟩ := id C0
  have F : Fx p s m #[Value.ref b] meth c cL_law 4 RL lw_tbl ret := ⟨hx, hb, hml, hown, hts, hr, hlocks⟩
  have hA0 : ∀ a : Nat, a < s.heap.size → ¬ (fun q : Nat => s.heap.size ≤ q) a := fun a h q => absurd h (Nat.not_lt.mpr q)
  have hbA : ¬ (fun q : Nat => s.heap.size ≤ q) b := hA0 b hbl
  obtain ⟨a1, a2, a3, q0, v0, q1, v1, q2, v2, hXX⟩ := law_pre hts hgv hA0
  obtain ⟨G, hK⟩ := law_K hts
  have w : Wd G s (fun q => s.heap.size ≤ q) [] s.heap [] := ⟨fun k q h => by simp at h, ⟨fun i j p q h => by simp at h, fun k q h => by simp at h⟩, va_S.rf, hK, fun _ h => h⟩
  have hl := lv_entry ([.ref b]) (n := 4) (Nat.le_of_ble_eq_true rfl)
  rw [lg_entry_eq]
  generalize (lg_sl ([.ref b]) ++ List.replicate (4 - (lg_sl ([.ref b])).length) Slot.unset).toArray = ls at hl ⊢
  have hl : lv_has ls 4 [(0, .ref b)] := hl
  refine r_new (fs := [.null, .null, .null, .null, .null]) (ci := 7) F w (fun w hw => (lix7 w hw).1) tyX7 okX7 (hts (.classLink RL 7 RX7) (by decide +kernel)) (hts (.instantiable RX7 5) (by decide +kernel)) (hts (.initialized RX7) (by decide +kernel)) rfl dfX7 (Nat.le_of_ble_eq_true rfl) (Nat.le_of_ble_eq_true rfl) dL_law_0 (fun qc H w => ?_)
  refine lv_dup F.1 F.2.1 dL_law_3 rfl ?_
  refine i_callX (As := []) (rest := [.ref qc]) (wr := []) (fine_hi a1 a2 a3) hXX.1 F w (c_X7_init l G a1 a2 a3 qc) (List.Perm.refl _) (hts (.methodLink RL 9 yX7_init) (by decide +kernel)) ((gL_law_X7_init).tr lw_in) (hts (.initialized RX7) (by decide +kernel)) (hts (.instanceMethod yX7_init) (by decide +kernel)) rfl rfl (nA0 := 0) (by decide +kernel) rfl ⟨Nat.le_of_ble_eq_true rfl, Nat.le_of_ble_eq_true rfl⟩ ⟨Nat.le_of_ble_eq_true rfl, Nat.le_of_ble_eq_true rfl⟩ hl rfl (Nat.le_of_ble_eq_true rfl) dL_law_4 (fun w1 H locs hv w => ?_)
  obtain ⟨ma, pn, pt, hb2, ha, xa, ra, rc, rfl, rfl⟩ := hv
  refine lv_astore_n (lv' := [(1, .ref (ma 0)), (0, .ref b)]) F.1 F.2.1 dL_law_7 rfl hl (by decide) rfl (fun ls hl => ?_)
  refine r_new (fs := [.null, .null, .null, .int (nI 0), .null, .int (nI 0), .int (nI 0), .int (nI 0), .int (nI 0), .int (nI 0), .null]) (ci := 8) F w (fun w hw => (lix8 w hw).1) tyX8 okX8 (hts (.classLink RL 10 RX8) (by decide +kernel)) (hts (.instantiable RX8 11) (by decide +kernel)) (hts (.initialized RX8) (by decide +kernel)) rfl dfX8 (Nat.le_of_ble_eq_true rfl) (Nat.le_of_ble_eq_true rfl) dL_law_8 (fun qr H w => ?_)
  refine lv_dup F.1 F.2.1 dL_law_11 rfl ?_
  refine i_callX (As := []) (rest := [.ref qr]) (fine_hi a1 a2 a3) hXX.1 F w ((c_X8_init l G qr).toX) List.perm_append_comm (hts (.methodLink RL 12 yX8_init) (by decide +kernel)) ((gL_law_X8_init).tr lw_in) (hts (.initialized RX8) (by decide +kernel)) (hts (.instanceMethod yX8_init) (by decide +kernel)) rfl rfl (nA0 := 0) (by decide +kernel) rfl ⟨Nat.le_of_ble_eq_true rfl, Nat.le_of_ble_eq_true rfl⟩ ⟨Nat.le_of_ble_eq_true rfl, Nat.le_of_ble_eq_true rfl⟩ hl rfl (Nat.le_of_ble_eq_true rfl) dL_law_12 (fun w1 H locs hv w => ?_)
  obtain ⟨a, rfl, rfl⟩ := hv
  refine lv_astore_n (lv' := [(2, .ref (a 0)), (1, .ref (ma 0)), (0, .ref b)]) F.1 F.2.1 dL_law_15 rfl hl (by decide) rfl (fun ls hl => ?_)
  refine lv_iconst (v := nI 0) F.1 F.2.1 dL_law_16 (by decide) ?_
  refine lv_istore_n (lv' := [(3, .int (nI 0)), (2, .ref (a 0)), (1, .ref (ma 0)), (0, .ref b)]) F.1 F.2.1 dL_law_17 rfl hl (by decide) rfl (fun ls hl => ?_)
  have w := w.perm (ws' := (clsW G ma hb2 xa ra rc pn pt initP (fun _ => 0) initP (fun _ => 0) ha (fun _ => initP) (fun _ _ => 0) 0 0 0 0 0 0 (fun _ => 0) 0 (fun _ => 0) 0 0 (fun _ => 0) (fun _ => 0) (fun _ => 0) (fun _ => 0) (fun _ => 0)) ++ (mW G a initP (fun _ => 0) (fun _ => 0) 0 (fun _ => 0) 0 0 0 0 0 (fun _ => 0))) (perm_by (fun f => by simp only [clsW, List.countP_append, List.countP_nil]; omega))
  refine law_loop (fun ws1 H1 locs1 ls1 w1 => ?_) a1 a2 a3 q0 v0 q1 v1 q2 v2 F hXX hX hbl hbA (Nat.lt_of_le_of_lt hL (by decide)) ⟨Nat.le_of_ble_eq_true rfl, Nat.le_of_ble_eq_true rfl⟩ (L + 1) 0 initP 0 (fun _ => 0) 0 (fun _ _ => 0) _ _ H locs ls (by omega) (Nat.zero_le _) init_S ⟨ma, hb2, xa, ra, rc, pn, pt, fun _ => 0, initP, fun _ => 0, ha, fun _ => initP, fun _ _ => 0, 0, 0, 0, 0, 0, fun _ => 0, 0, 0, fun _ => 0, fun _ => 0, fun _ => 0, fun _ => 0, fun _ => 0, rfl, rfl, (fun k hk => by rw [initP_0 (by decide)] at hk; exact absurd hk (Nat.not_lt_zero _)), by decide, fun i hi => absurd hi (Nat.not_lt_zero _)⟩ ⟨a, fun _ => 0, fun _ => 0, 0, 0, 0, 0, fun _ => 0, rfl, rfl, fun i hi => absurd hi (Nat.not_lt_zero _)⟩ w (lv_sub hl [3, 2, 1, 0] rfl)
  refine lv_iconst (v := 1) hx hb dL_law_678 (by decide) ?_
  refine va_forget (fun q hq => w1.2.2.1.2.2 q hq) ?_
  refine W.widen (k := 600000) (n := 7302250) (Nat.le_of_ble_eq_true rfl) (Nat.le_of_ble_eq_true rfl) ?_
  exact lw_ret hx hb hr hlocks dL_law_679
