/-! ===== p25: the law from its entry ===== -/
theorem dfX7 : ∀ j, j < 5 → defaultValue (tyX7 j) = vp_V [.null, .null, .null, .null, .null] j := fun j hj => by
  rcases (show j = 0 ∨ j = 1 ∨ j = 2 ∨ j = 3 ∨ j = 4 by omega) with rfl | rfl | rfl | rfl | rfl <;> rfl
set_option maxRecDepth 100000 in
set_option maxHeartbeats 8000000 in
theorem whole_start {p : Program} {e : Env} {s : State} {m : MethodId} {below : List Frame} {meth : Method} {c : Code} (l : Launch) (hflags : l.flags = flags0) {b L : Nat} {xs : Nat → Int32} (hL : L ≤ 260) (C0 : lw_At p s m meth c b L xs) : W p l e room_1 s m #[Value.ref b] below meth c s.heap [] 0 0 (lw_Z below #[Value.ref b] s) (entryFrame m ([Value.ref b] : List Value).toArray 14) := by
  obtain ⟨hx, hb, hr, hml, hown, hts, hXs, hbl, hlocks, hgv⟩ := id C0
  have F : Fx p s m #[Value.ref b] meth c cL_law 14 RL lw_tbl ret := ⟨hx, hb, hml, hown, hts, hr, hlocks⟩
  have hA0 : ∀ a : Nat, a < s.heap.size → ¬ (fun q : Nat => s.heap.size ≤ q) a := fun a h q => absurd h (Nat.not_lt.mpr q)
  have hbA : ¬ (fun q : Nat => s.heap.size ≤ q) b := hA0 b hbl
  obtain ⟨a1, a2, a3, q0, v0, q1, v1, q2, v2, hX⟩ := law_pre hts hgv hA0
  have hf := fine_law a1 a2 a3 q0 v0 q1 v1 q2 v2
  obtain ⟨G, hK⟩ := law_K hts
  have w : Wd G s (fun q => s.heap.size ≤ q) [] s.heap [] := ⟨fun k q h => by simp at h, ⟨fun i j p q h => by simp at h, fun k q h => by simp at h⟩, va_S.rf, hK, fun _ h => h⟩
  have hl := lv_entry ([.ref b]) (n := 14) (Nat.le_of_ble_eq_true rfl)
  rw [lg_entry_eq]
  generalize (lg_sl ([.ref b]) ++ List.replicate (14 - (lg_sl ([.ref b])).length) Slot.unset).toArray = ls at hl ⊢
  have hl : lv_has ls 14 [(0, .ref b)] := hl
  refine r_new (fs := [.null, .null, .null, .null, .null]) (ci := 7) F w (fun w hw => (lix7 w hw).1) tyX7 okX7 (hts (.classLink RL 10 RX7) (by decide +kernel)) (hts (.instantiable RX7 5) (by decide +kernel)) (hts (.initialized RX7) (by decide +kernel)) rfl dfX7 (Nat.le_of_ble_eq_true rfl) (Nat.le_of_ble_eq_true rfl) dL_law_0 (fun qc H w => ?_)
  refine lv_dup F.1 F.2.1 dL_law_3 rfl ?_
  refine i_callX (As := []) (rest := [.ref qc]) (wr := []) (fine_hi a1 a2 a3) hX.1 F w (c_X7_init l G a1 a2 a3 qc) (List.Perm.refl _) (hts (.methodLink RL 81 yX7_init) (by decide +kernel)) ((gL_law_X7_init).tr lw_in) (hts (.initialized RX7) (by decide +kernel)) (hts (.instanceMethod yX7_init) (by decide +kernel)) rfl rfl (nA0 := 0) (by decide +kernel) rfl ⟨Nat.le_of_ble_eq_true rfl, Nat.le_of_ble_eq_true rfl⟩ ⟨Nat.le_of_ble_eq_true rfl, Nat.le_of_ble_eq_true rfl⟩ hl rfl (Nat.le_of_ble_eq_true rfl) dL_law_4 (fun w1 H locs hv w => ?_)
  obtain ⟨ma, pn, pt, hb2, ha, xa, ra, rc, rfl, rfl⟩ := hv
  refine lv_astore_n (lv' := [(1, .ref (ma 0)), (0, .ref b)]) F.1 F.2.1 dL_law_7 rfl hl (by decide) rfl (fun ls hl => ?_)
  have hw7 := w.perm (ws' := (clsW G ma hb2 xa ra rc pn pt initP (fun _ => 0) initP (fun _ => 0) ha (fun _ => initP) (fun _ _ => 0) 0 0 0 0 0 0 (fun _ => 0) 0 (fun _ => 0) 0 0 (fun _ => 0) (fun _ => 0) (fun _ => 0) (fun _ => 0) (fun _ => 0))) (perm_by (fun f => by simp only [clsW, List.countP_append, List.countP_nil]; omega))
  have w : CW G s (fun q => s.heap.size ≤ q) H locs (ma 0) initP 0 (fun _ _ => 0) := ⟨_, ⟨ma, hb2, xa, ra, rc, pn, pt, fun _ => 0, initP, fun _ => 0, ha, fun _ => initP, fun _ _ => 0, 0, 0, 0, 0, 0, fun _ => 0, 0, 0, fun _ => 0, fun _ => 0, fun _ => 0, fun _ => 0, fun _ => 0, rfl, rfl, (fun k hk => by rw [initP_0 (by decide)] at hk; exact absurd hk (Nat.not_lt_zero _)), by decide, fun i hi => absurd hi (Nat.not_lt_zero _)⟩, hw7⟩
  clear hw7
  generalize ma 0 = o at hl w
  have hS := init_S
  have hJ := init_J
  have hS1 : SI initP (sizeN 0) (recH (fun _ _ => 0) 0 initP) := SI_rec hS hS.1
  have hS2 : SI initP (sizeN 0 - 1) (recH (fun _ _ => 0) 0 initP) := SI_undo hS hS.1
  have s0 : sizeN 0 = 1 := rfl
  refine lv_aload_n F.1 F.2.1 dL_law_8 rfl (lv_at hl 0 rfl) ?_
  refine k_callL (As := []) (rest := []) hf hX F w (c_L_refuses l G a1 a2 a3 q0 v0 q1 v1 q2 v2 hS hJ o) ((gL_law_L_refuses).tr lw_in) rfl (nA0 := 1) (by decide +kernel) rfl ⟨Nat.le_of_ble_eq_true rfl, Nat.le_of_ble_eq_true rfl⟩ ⟨Nat.le_of_ble_eq_true rfl, Nat.le_of_ble_eq_true rfl⟩ hl rfl (Nat.le_of_ble_eq_true rfl) dL_law_9 (fun w1 H locs hv w => ?_)
  have w : CW G s (fun q => s.heap.size ≤ q) H locs o initP 0 (fun _ _ => 0) := ⟨w1, hv, w⟩
  refine r_zeq (tgt := 53) F dL_law_12 (by decide) (by decide) (fun c12 => by exfalso; omega) (fun c12 => ?_)
  refine lv_aload_n F.1 F.2.1 dL_law_15 rfl (lv_at hl 0 rfl) ?_
  refine k_call (As := []) (rest := []) hf hX F w (k_undoZ l G a1 a2 a3 q0 v0 q1 v1 q2 v2 hS rfl) ((gL_law_X7_undo).tr lw_in) rfl (nA0 := 0) (by decide +kernel) rfl ⟨Nat.le_of_ble_eq_true rfl, Nat.le_of_ble_eq_true rfl⟩ ⟨Nat.le_of_ble_eq_true rfl, Nat.le_of_ble_eq_true rfl⟩ hl rfl (Nat.le_of_ble_eq_true rfl) dL_law_16 (fun H locs w => ?_)
  refine lv_bipush (v := (-2)) F.1 F.2.1 dL_law_19 (by decide) ?_
  refine lv_icmp_ne (tgt := 53) F.1 F.2.1 dL_law_21 (by decide) (fun q => absurd rfl q) (fun _ => ?_)
  refine lv_aload_n F.1 F.2.1 dL_law_24 rfl (lv_at hl 0 rfl) ?_
  refine k_callL (As := []) (rest := []) hf hX F w (c_L_sound l G a1 a2 a3 q0 v0 q1 v1 q2 v2 hS hJ o) ((gL_law_L_sound).tr lw_in) rfl (nA0 := 1) (by decide +kernel) rfl ⟨Nat.le_of_ble_eq_true rfl, Nat.le_of_ble_eq_true rfl⟩ ⟨Nat.le_of_ble_eq_true rfl, Nat.le_of_ble_eq_true rfl⟩ hl rfl (Nat.le_of_ble_eq_true rfl) dL_law_25 (fun w1 H locs hv w => ?_)
  have w : CW G s (fun q => s.heap.size ≤ q) H locs o initP 0 (fun _ _ => 0) := ⟨w1, hv, w⟩
  refine r_zeq (tgt := 53) F dL_law_28 (by decide) (by decide) (fun c28 => by exfalso; omega) (fun c28 => ?_)
  refine lv_aload_n F.1 F.2.1 dL_law_31 rfl (lv_at hl 0 rfl) ?_
  refine lv_iconst (v := nI 0) F.1 F.2.1 dL_law_32 (by decide) ?_
  refine k_callL (As := [.int (nI 0)]) (rest := []) hf hX F w (c_L_segments l G a1 a2 a3 q0 v0 q1 v1 q2 v2 hS hJ _ o) ((gL_law_L_segments).tr lw_in) rfl (nA0 := 2) (by decide +kernel) rfl ⟨Nat.le_of_ble_eq_true rfl, Nat.le_of_ble_eq_true rfl⟩ ⟨Nat.le_of_ble_eq_true rfl, Nat.le_of_ble_eq_true rfl⟩ hl rfl (Nat.le_of_ble_eq_true rfl) dL_law_33 (fun w1 H locs hv w => ?_)
  have w : CW G s (fun q => s.heap.size ≤ q) H locs o initP 0 (fun _ _ => 0) := ⟨w1, hv, w⟩
  refine r_zeq (tgt := 53) F dL_law_36 (by decide) (by decide) (fun c36 => by exfalso; omega) (fun c36 => ?_)
  refine lv_aload_n F.1 F.2.1 dL_law_39 rfl (lv_at hl 0 rfl) ?_
  refine k_call (As := []) (rest := []) hf hX F w (k_lay l G a1 a2 a3 q0 v0 q1 v1 q2 v2 hS) ((gL_law_X7_lay).tr lw_in) rfl (nA0 := 0) (by decide +kernel) rfl ⟨Nat.le_of_ble_eq_true rfl, Nat.le_of_ble_eq_true rfl⟩ ⟨Nat.le_of_ble_eq_true rfl, Nat.le_of_ble_eq_true rfl⟩ hl rfl (Nat.le_of_ble_eq_true rfl) dL_law_40 (fun H locs w => ?_)
  refine r_zne (tgt := 53) F dL_law_43 (by decide) (by decide) (fun c43 => by exfalso; omega) (fun c43 => ?_)
  refine lv_aload_n F.1 F.2.1 dL_law_46 rfl (lv_at hl 0 rfl) ?_
  refine k_call (As := []) (rest := []) hf hX F w (k_back l G a1 a2 a3 q0 v0 q1 v1 q2 v2 hS hS.1) ((gL_law_X7_undo).tr lw_in) rfl (nA0 := 0) (by decide +kernel) rfl ⟨Nat.le_of_ble_eq_true rfl, Nat.le_of_ble_eq_true rfl⟩ ⟨Nat.le_of_ble_eq_true rfl, Nat.le_of_ble_eq_true rfl⟩ hl rfl (Nat.le_of_ble_eq_true rfl) dL_law_47 (fun H locs w => ?_)
  refine r_zeq (tgt := 55) F dL_law_50 (by decide) (by omega) (fun c50 => ?_) (fun c50 => by exfalso; omega)
  refine lv_iconst (v := nI 0) F.1 F.2.1 dL_law_55 (by decide) ?_
  refine lv_istore_n (lv' := [(2, .int (nI 0)), (1, .ref o), (0, .ref b)]) F.1 F.2.1 dL_law_56 rfl hl (by decide) rfl (fun ls hl => ?_)
  refine law_loop (sb := b) (fun P n h H1 locs1 ls1 hS3 hJ3 w2 hl2 => ?_) a1 a2 a3 q0 v0 q1 v1 q2 v2 F hX ⟨hXs, hbl, hbA⟩ (Nat.lt_of_le_of_lt hL (by decide)) ⟨Nat.le_of_ble_eq_true rfl, Nat.le_of_ble_eq_true rfl⟩ 41 0 initP _ _ H locs ls (by decide) (Nat.zero_le _) hS2 hJ (by rw [initP_0 (by decide)]; exact Nat.zero_le _) w (lv_sub hl [0, 1, 2] rfl)
  refine lv_aload_n F.1 F.2.1 dL_law_926 rfl (lv_at hl2 0 rfl) ?_
  refine k_callL (As := []) (rest := []) hf hX F w2 (c_L_refuses l G a1 a2 a3 q0 v0 q1 v1 q2 v2 hS3 hJ3 o) ((gL_law_L_refuses).tr lw_in) rfl (nA0 := 1) (by decide +kernel) rfl ⟨Nat.le_of_ble_eq_true rfl, Nat.le_of_ble_eq_true rfl⟩ ⟨Nat.le_of_ble_eq_true rfl, Nat.le_of_ble_eq_true rfl⟩ hl2 rfl (Nat.le_of_ble_eq_true rfl) dL_law_927 (fun w1 H locs hv w => ?_)
  refine r_to (y := 1) n1I.symm ?_
  refine va_forget (fun q hq => w.2.2.1.2.2 q hq) ?_
  refine W.widen (k := 600000) (n := 7302250) (Nat.le_of_ble_eq_true rfl) (Nat.le_of_ble_eq_true rfl) ?_
  exact lw_ret hx hb hr hlocks dL_law_930
