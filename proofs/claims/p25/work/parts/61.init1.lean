theorem Wd.setP {G : KG} {s : State} {A : Nat → Prop} {ws : va_W} {H : Heap} {locs : List Loc} (w : Wd G s A ws H locs) {q0 a n : Nat} {f f' : Nat → Option Nat} (h : ws[q0]? = some (aP G a n f)) (he : ∀ k, k < n → f k = f' k) : Wd G s A (ws.set q0 (aP G a n f')) H locs := by
  have hq : ∀ (k : Nat) (x : Nat × va_E), (ws.set q0 (aP G a n f'))[k]? = some x → ∃ z, ws[k]? = some (x.1, z) ∧ (z = x.2 ∨ (k = q0 ∧ x = aP G a n f')) := by
    intro k x hx
    by_cases e : q0 = k
    · subst e
      rw [List.getElem?_set_self (List.getElem?_eq_some_iff.mp h).1] at hx
      cases hx
      exact ⟨_, h, Or.inr ⟨rfl, rfl⟩⟩
    · rw [List.getElem?_set_ne e] at hx
      exact ⟨x.2, hx, Or.inl rfl⟩
  refine ⟨fun k x hx => ?_, ⟨fun i j x y hx hy hxy => ?_, fun k x hx => ?_⟩, w.2.2⟩
  · obtain ⟨z, hz, hc⟩ := hq k x hx
    rcases hc with rfl | ⟨rfl, rfl⟩
    · exact w.1 k _ hz
    · have e : vp_cell G.2.2.2 (n, .inr (.inr (.inr (.inr f)))) = vp_cell G.2.2.2 (n, .inr (.inr (.inr (.inr f')))) := by
        show arrV G.2.2.2 n (fun j => va_rf (f j)) = arrV G.2.2.2 n (fun j => va_rf (f' j))
        exact arrV_congr (fun k hk => congrArg va_rf (he k hk))
      show H[a]? = some (vp_cell G.2.2.2 (n, .inr (.inr (.inr (.inr f')))))
      rw [← e]
      exact w.1 k _ h
  · obtain ⟨z1, hz1, -⟩ := hq i x hx
    obtain ⟨z2, hz2, -⟩ := hq j y hy
    exact w.2.1.1 i j _ _ hz1 hz2 hxy
  · obtain ⟨z, hz, -⟩ := hq k x hx
    exact w.2.1.2 k (x.1, z) hz
theorem dfX3 : ∀ j, j < 15 → defaultValue (tyX3 j) = vp_V [.null, .null, .null, .null, .null, .int (nI 0), .int (nI 0), .int (nI 0), .int (nI 0), .int (nI 0), .int (nI 0), .int (nI 0), .int (nI 0), .int (nI 0), .int (nI 0)] j := fun j hj => by
  rcases (show j = 0 ∨ j = 1 ∨ j = 2 ∨ j = 3 ∨ j = 4 ∨ j = 5 ∨ j = 6 ∨ j = 7 ∨ j = 8 ∨ j = 9 ∨ j = 10 ∨ j = 11 ∨ j = 12 ∨ j = 13 ∨ j = 14 by omega) with rfl | rfl | rfl | rfl | rfl | rfl | rfl | rfl | rfl | rfl | rfl | rfl | rfl | rfl | rfl <;> rfl

set_option maxRecDepth 100000 in
set_option maxHeartbeats 8000000 in
theorem c_X1_init (l : Launch) (G : KG) (tl tm ti b : Nat) : MetVX l yX1_init wsX1_init 3 96 1440 G ([cO b 1 [.int (nI 0), .int (nI 0), .null]]) [.ref b] (hiX tl tm ti) (fun v => ∃ (hb : Nat → Nat) (ha : Nat → Nat → Nat → Nat), hb 0 = b ∧ v = histH G hb 0 0 (fun k => some (((ha k) 0) 0)) ++ (plateW G (ha 0) initP (fun _ => 0) ++ (plateW G (ha 1) initP (fun _ => 0) ++ (plateW G (ha 2) initP (fun _ => 0) ++ (plateW G (ha 3) initP (fun _ => 0) ++ plateW G (ha 4) initP (fun _ => 0)))))) := by
  refine MetVX.by (cc := cX1_init) (nL := 2) (ret := none) (by decide +kernel) rfl (Nat.le_of_ble_eq_true rfl) ?_
  intro p e s m args below meth c F hname hX w ls hl
  have hl : lv_has ls 2 [(0, .ref b)] := hl
  have hts := F.ts
  have iX1 : ∀ w ∈ wsX10, w ∈ wsX1_init := by decide +kernel
  have iX3 : ∀ w ∈ wsX30, w ∈ wsX1_init := by decide +kernel
  have f11 := hts (.fieldLink RX1 11 "CoreMelter$History" "states" "[LCoreMelter$Plate;") (by decide +kernel)
  refine lv_aload_n F.1 F.2.1 dX1_init_0 rfl (lv_at hl 0 rfl) ?_
  refine r_oinit F (hts (.methodLink RX1 1 objectInit) (by decide +kernel)) (hts (.instanceMethod objectInit) (by decide +kernel)) (hts (.code objectInit ⟨#[0xb1]⟩ 1 none) (by decide +kernel)) hl (Nat.le_of_ble_eq_true rfl) (Nat.le_of_ble_eq_true rfl) dX1_init_1 ?_
  refine lv_aload_n F.1 F.2.1 dX1_init_4 rfl (lv_at hl 0 rfl) ?_
  refine lv_iconst (v := nI 5) F.1 F.2.1 dX1_init_5 (by decide) ?_
  refine r_newP F w (hts (.classLink RX1 9 RX3) (by decide +kernel)) hX.2 (by decide) (Nat.le_of_ble_eq_true rfl) (Nat.le_of_ble_eq_true rfl) dX1_init_6 (fun q0 H w => ?_)
  refine r_putF (ws' := [cO b 1 [.int (nI 0), .int (nI 0), .ref q0], aP G q0 5 (fun _ => none)]) (ty := .array (.object RX3)) (k := 2) F hname w 0 iX1 okX1 f11 rfl rfl rfl rfl (by decide) (by decide +kernel) rfl rfl (Nat.le_of_ble_eq_true rfl) dX1_init_9 rfl (fun H locs w => ?_)
  refine lv_iconst (v := nI 0) F.1 F.2.1 dX1_init_12 (by decide) ?_
  refine lv_istore_n (lv' := [(1, .int (nI 0)), (0, .ref b)]) F.1 F.2.1 dX1_init_13 rfl hl (by decide) rfl (fun ls hl => ?_)
  refine lv_iload_n F.1 F.2.1 dX1_init_14 rfl (lv_at hl 0 rfl) ?_
  refine lv_iconst (v := nI 5) F.1 F.2.1 dX1_init_15 (by decide) ?_
  refine r_cge (tgt := 38) F dX1_init_16 (by decide) (by decide) (by decide) (fun c => absurd c (by decide)) (fun _ => ?_)
  refine lv_aload_n F.1 F.2.1 dX1_init_19 rfl (lv_at hl 1 rfl) ?_
  refine r_get F w 0 2 iX1 f11 rfl rfl rfl (by decide) rfl dX1_init_20 ?_
  refine lv_iload_n F.1 F.2.1 dX1_init_23 rfl (lv_at hl 0 rfl) ?_
  refine r_new (fs := [.null, .null, .null, .null, .null, .int (nI 0), .int (nI 0), .int (nI 0), .int (nI 0), .int (nI 0), .int (nI 0), .int (nI 0), .int (nI 0), .int (nI 0), .int (nI 0)]) (ci := 3) F w iX3 tyX3 okX3 (hts (.classLink RX1 9 RX3) (by decide +kernel)) (hts (.instantiable RX3 15) (by decide +kernel)) (hts (.initialized RX3) (by decide +kernel)) rfl dfX3 (Nat.le_of_ble_eq_true rfl) (Nat.le_of_ble_eq_true rfl) dX1_init_24 (fun q H w => ?_)
  refine lv_dup F.1 F.2.1 dX1_init_27 rfl ?_
  refine i_callX (As := []) (rest := [.ref q, .int (nI 0), .ref q0]) (fine_ct tl tm ti) hX.1 F w (c_X3_init l G tl tm ti q) (List.perm_append_comm) (hts (.methodLink RX1 15 yX3_init) (by decide +kernel)) gX1_init_X3_init (hts (.initialized RX3) (by decide +kernel)) (hts (.instanceMethod yX3_init) (by decide +kernel)) rfl rfl (nA0 := 0) (by decide +kernel) rfl ⟨Nat.le_of_ble_eq_true rfl, Nat.le_of_ble_eq_true rfl⟩ ⟨Nat.le_of_ble_eq_true rfl, Nat.le_of_ble_eq_true rfl⟩ hl rfl (Nat.le_of_ble_eq_true rfl) dX1_init_28 (fun w1 H locs hp w => ?_)
  obtain ⟨p0, rfl, rfl⟩ := hp
  refine r_aast (ws' := plateW G p0 initP (fun _ => 0) ++ ([cO b 1 [.int (nI 0), .int (nI 0), .ref q0], aP G q0 5 (va_up (fun _ => none) 0 (some (p0 0 0)))])) F w 20 0 rfl rfl (by decide) (by decide) dX1_init_31 rfl (fun H locs w => ?_)
  refine lv_iinc (v := nI 1) (lv' := [(1, .int (nI 1)), (0, .ref b)]) F.1 F.2.1 dX1_init_32 hl (k := 0) rfl (by decide) (by decide) rfl (fun ls hl => ?_)
  refine lv_goto (tgt := 14) F.1 F.2.1 dX1_init_35 (by decide) ?_
  refine lv_iload_n F.1 F.2.1 dX1_init_14 rfl (lv_at hl 0 rfl) ?_
  refine lv_iconst (v := nI 5) F.1 F.2.1 dX1_init_15 (by decide) ?_
  refine r_cge (tgt := 38) F dX1_init_16 (by decide) (by decide) (by decide) (fun c => absurd c (by decide)) (fun _ => ?_)
  refine lv_aload_n F.1 F.2.1 dX1_init_19 rfl (lv_at hl 1 rfl) ?_
  refine r_get F w 19 2 iX1 f11 rfl rfl rfl (by decide) rfl dX1_init_20 ?_
  refine lv_iload_n F.1 F.2.1 dX1_init_23 rfl (lv_at hl 0 rfl) ?_
  refine r_new (fs := [.null, .null, .null, .null, .null, .int (nI 0), .int (nI 0), .int (nI 0), .int (nI 0), .int (nI 0), .int (nI 0), .int (nI 0), .int (nI 0), .int (nI 0), .int (nI 0)]) (ci := 3) F w iX3 tyX3 okX3 (hts (.classLink RX1 9 RX3) (by decide +kernel)) (hts (.instantiable RX3 15) (by decide +kernel)) (hts (.initialized RX3) (by decide +kernel)) rfl dfX3 (Nat.le_of_ble_eq_true rfl) (Nat.le_of_ble_eq_true rfl) dX1_init_24 (fun q H w => ?_)
  refine lv_dup F.1 F.2.1 dX1_init_27 rfl ?_
  refine i_callX (As := []) (rest := [.ref q, .int (nI 1), .ref q0]) (fine_ct tl tm ti) hX.1 F w (c_X3_init l G tl tm ti q) (List.perm_append_comm) (hts (.methodLink RX1 15 yX3_init) (by decide +kernel)) gX1_init_X3_init (hts (.initialized RX3) (by decide +kernel)) (hts (.instanceMethod yX3_init) (by decide +kernel)) rfl rfl (nA0 := 0) (by decide +kernel) rfl ⟨Nat.le_of_ble_eq_true rfl, Nat.le_of_ble_eq_true rfl⟩ ⟨Nat.le_of_ble_eq_true rfl, Nat.le_of_ble_eq_true rfl⟩ hl rfl (Nat.le_of_ble_eq_true rfl) dX1_init_28 (fun w1 H locs hp w => ?_)
  obtain ⟨p1, rfl, rfl⟩ := hp
  refine r_aast (ws' := plateW G p1 initP (fun _ => 0) ++ (plateW G p0 initP (fun _ => 0) ++ ([cO b 1 [.int (nI 0), .int (nI 0), .ref q0], aP G q0 5 (va_up (va_up (fun _ => none) 0 (some (p0 0 0))) 1 (some (p1 0 0)))]))) F w 39 0 rfl rfl (by decide) (by decide) dX1_init_31 rfl (fun H locs w => ?_)
  refine lv_iinc (v := nI 2) (lv' := [(1, .int (nI 2)), (0, .ref b)]) F.1 F.2.1 dX1_init_32 hl (k := 0) rfl (by decide) (by decide) rfl (fun ls hl => ?_)
  refine lv_goto (tgt := 14) F.1 F.2.1 dX1_init_35 (by decide) ?_
  refine lv_iload_n F.1 F.2.1 dX1_init_14 rfl (lv_at hl 0 rfl) ?_
  refine lv_iconst (v := nI 5) F.1 F.2.1 dX1_init_15 (by decide) ?_
  refine r_cge (tgt := 38) F dX1_init_16 (by decide) (by decide) (by decide) (fun c => absurd c (by decide)) (fun _ => ?_)
  refine lv_aload_n F.1 F.2.1 dX1_init_19 rfl (lv_at hl 1 rfl) ?_
  refine r_get F w 38 2 iX1 f11 rfl rfl rfl (by decide) rfl dX1_init_20 ?_
  refine lv_iload_n F.1 F.2.1 dX1_init_23 rfl (lv_at hl 0 rfl) ?_
  refine r_new (fs := [.null, .null, .null, .null, .null, .int (nI 0), .int (nI 0), .int (nI 0), .int (nI 0), .int (nI 0), .int (nI 0), .int (nI 0), .int (nI 0), .int (nI 0), .int (nI 0)]) (ci := 3) F w iX3 tyX3 okX3 (hts (.classLink RX1 9 RX3) (by decide +kernel)) (hts (.instantiable RX3 15) (by decide +kernel)) (hts (.initialized RX3) (by decide +kernel)) rfl dfX3 (Nat.le_of_ble_eq_true rfl) (Nat.le_of_ble_eq_true rfl) dX1_init_24 (fun q H w => ?_)
  refine lv_dup F.1 F.2.1 dX1_init_27 rfl ?_
  refine i_callX (As := []) (rest := [.ref q, .int (nI 2), .ref q0]) (fine_ct tl tm ti) hX.1 F w (c_X3_init l G tl tm ti q) (List.perm_append_comm) (hts (.methodLink RX1 15 yX3_init) (by decide +kernel)) gX1_init_X3_init (hts (.initialized RX3) (by decide +kernel)) (hts (.instanceMethod yX3_init) (by decide +kernel)) rfl rfl (nA0 := 0) (by decide +kernel) rfl ⟨Nat.le_of_ble_eq_true rfl, Nat.le_of_ble_eq_true rfl⟩ ⟨Nat.le_of_ble_eq_true rfl, Nat.le_of_ble_eq_true rfl⟩ hl rfl (Nat.le_of_ble_eq_true rfl) dX1_init_28 (fun w1 H locs hp w => ?_)
  obtain ⟨p2, rfl, rfl⟩ := hp
  refine r_aast (ws' := plateW G p2 initP (fun _ => 0) ++ (plateW G p1 initP (fun _ => 0) ++ (plateW G p0 initP (fun _ => 0) ++ ([cO b 1 [.int (nI 0), .int (nI 0), .ref q0], aP G q0 5 (va_up (va_up (va_up (fun _ => none) 0 (some (p0 0 0))) 1 (some (p1 0 0))) 2 (some (p2 0 0)))])))) F w 58 0 rfl rfl (by decide) (by decide) dX1_init_31 rfl (fun H locs w => ?_)
  refine lv_iinc (v := nI 3) (lv' := [(1, .int (nI 3)), (0, .ref b)]) F.1 F.2.1 dX1_init_32 hl (k := 0) rfl (by decide) (by decide) rfl (fun ls hl => ?_)
  refine lv_goto (tgt := 14) F.1 F.2.1 dX1_init_35 (by decide) ?_
  refine lv_iload_n F.1 F.2.1 dX1_init_14 rfl (lv_at hl 0 rfl) ?_
  refine lv_iconst (v := nI 5) F.1 F.2.1 dX1_init_15 (by decide) ?_
  refine r_cge (tgt := 38) F dX1_init_16 (by decide) (by decide) (by decide) (fun c => absurd c (by decide)) (fun _ => ?_)
  refine lv_aload_n F.1 F.2.1 dX1_init_19 rfl (lv_at hl 1 rfl) ?_
  refine r_get F w 57 2 iX1 f11 rfl rfl rfl (by decide) rfl dX1_init_20 ?_
  refine lv_iload_n F.1 F.2.1 dX1_init_23 rfl (lv_at hl 0 rfl) ?_
  refine r_new (fs := [.null, .null, .null, .null, .null, .int (nI 0), .int (nI 0), .int (nI 0), .int (nI 0), .int (nI 0), .int (nI 0), .int (nI 0), .int (nI 0), .int (nI 0), .int (nI 0)]) (ci := 3) F w iX3 tyX3 okX3 (hts (.classLink RX1 9 RX3) (by decide +kernel)) (hts (.instantiable RX3 15) (by decide +kernel)) (hts (.initialized RX3) (by decide +kernel)) rfl dfX3 (Nat.le_of_ble_eq_true rfl) (Nat.le_of_ble_eq_true rfl) dX1_init_24 (fun q H w => ?_)
  refine lv_dup F.1 F.2.1 dX1_init_27 rfl ?_
  refine i_callX (As := []) (rest := [.ref q, .int (nI 3), .ref q0]) (fine_ct tl tm ti) hX.1 F w (c_X3_init l G tl tm ti q) (List.perm_append_comm) (hts (.methodLink RX1 15 yX3_init) (by decide +kernel)) gX1_init_X3_init (hts (.initialized RX3) (by decide +kernel)) (hts (.instanceMethod yX3_init) (by decide +kernel)) rfl rfl (nA0 := 0) (by decide +kernel) rfl ⟨Nat.le_of_ble_eq_true rfl, Nat.le_of_ble_eq_true rfl⟩ ⟨Nat.le_of_ble_eq_true rfl, Nat.le_of_ble_eq_true rfl⟩ hl rfl (Nat.le_of_ble_eq_true rfl) dX1_init_28 (fun w1 H locs hp w => ?_)
  obtain ⟨p3, rfl, rfl⟩ := hp
  refine r_aast (ws' := plateW G p3 initP (fun _ => 0) ++ (plateW G p2 initP (fun _ => 0) ++ (plateW G p1 initP (fun _ => 0) ++ (plateW G p0 initP (fun _ => 0) ++ ([cO b 1 [.int (nI 0), .int (nI 0), .ref q0], aP G q0 5 (va_up (va_up (va_up (va_up (fun _ => none) 0 (some (p0 0 0))) 1 (some (p1 0 0))) 2 (some (p2 0 0))) 3 (some (p3 0 0)))]))))) F w 77 0 rfl rfl (by decide) (by decide) dX1_init_31 rfl (fun H locs w => ?_)
  refine lv_iinc (v := nI 4) (lv' := [(1, .int (nI 4)), (0, .ref b)]) F.1 F.2.1 dX1_init_32 hl (k := 0) rfl (by decide) (by decide) rfl (fun ls hl => ?_)
  refine lv_goto (tgt := 14) F.1 F.2.1 dX1_init_35 (by decide) ?_
  refine lv_iload_n F.1 F.2.1 dX1_init_14 rfl (lv_at hl 0 rfl) ?_
  refine lv_iconst (v := nI 5) F.1 F.2.1 dX1_init_15 (by decide) ?_
  refine r_cge (tgt := 38) F dX1_init_16 (by decide) (by decide) (by decide) (fun c => absurd c (by decide)) (fun _ => ?_)
  refine lv_aload_n F.1 F.2.1 dX1_init_19 rfl (lv_at hl 1 rfl) ?_
  refine r_get F w 76 2 iX1 f11 rfl rfl rfl (by decide) rfl dX1_init_20 ?_
  refine lv_iload_n F.1 F.2.1 dX1_init_23 rfl (lv_at hl 0 rfl) ?_
  refine r_new (fs := [.null, .null, .null, .null, .null, .int (nI 0), .int (nI 0), .int (nI 0), .int (nI 0), .int (nI 0), .int (nI 0), .int (nI 0), .int (nI 0), .int (nI 0), .int (nI 0)]) (ci := 3) F w iX3 tyX3 okX3 (hts (.classLink RX1 9 RX3) (by decide +kernel)) (hts (.instantiable RX3 15) (by decide +kernel)) (hts (.initialized RX3) (by decide +kernel)) rfl dfX3 (Nat.le_of_ble_eq_true rfl) (Nat.le_of_ble_eq_true rfl) dX1_init_24 (fun q H w => ?_)
  refine lv_dup F.1 F.2.1 dX1_init_27 rfl ?_
  refine i_callX (As := []) (rest := [.ref q, .int (nI 4), .ref q0]) (fine_ct tl tm ti) hX.1 F w (c_X3_init l G tl tm ti q) (List.perm_append_comm) (hts (.methodLink RX1 15 yX3_init) (by decide +kernel)) gX1_init_X3_init (hts (.initialized RX3) (by decide +kernel)) (hts (.instanceMethod yX3_init) (by decide +kernel)) rfl rfl (nA0 := 0) (by decide +kernel) rfl ⟨Nat.le_of_ble_eq_true rfl, Nat.le_of_ble_eq_true rfl⟩ ⟨Nat.le_of_ble_eq_true rfl, Nat.le_of_ble_eq_true rfl⟩ hl rfl (Nat.le_of_ble_eq_true rfl) dX1_init_28 (fun w1 H locs hp w => ?_)
  obtain ⟨p4, rfl, rfl⟩ := hp
  refine r_aast (ws' := plateW G p4 initP (fun _ => 0) ++ (plateW G p3 initP (fun _ => 0) ++ (plateW G p2 initP (fun _ => 0) ++ (plateW G p1 initP (fun _ => 0) ++ (plateW G p0 initP (fun _ => 0) ++ ([cO b 1 [.int (nI 0), .int (nI 0), .ref q0], aP G q0 5 (va_up (va_up (va_up (va_up (va_up (fun _ => none) 0 (some (p0 0 0))) 1 (some (p1 0 0))) 2 (some (p2 0 0))) 3 (some (p3 0 0))) 4 (some (p4 0 0)))])))))) F w 96 0 rfl rfl (by decide) (by decide) dX1_init_31 rfl (fun H locs w => ?_)
  refine lv_iinc (v := nI 5) (lv' := [(1, .int (nI 5)), (0, .ref b)]) F.1 F.2.1 dX1_init_32 hl (k := 0) rfl (by decide) (by decide) rfl (fun ls hl => ?_)
  refine lv_goto (tgt := 14) F.1 F.2.1 dX1_init_35 (by decide) ?_
  refine lv_iload_n F.1 F.2.1 dX1_init_14 rfl (lv_at hl 0 rfl) ?_
  refine lv_iconst (v := nI 5) F.1 F.2.1 dX1_init_15 (by decide) ?_
  refine r_cge (tgt := 38) F dX1_init_16 (by decide) (by decide) (by decide) (fun _ => ?_) (fun c => absurd c (by decide))
  have w := w.setP (q0 := 96) (f' := (fun k => some ((((fun k => if k = 0 then p0 else if k = 1 then p1 else if k = 2 then p2 else if k = 3 then p3 else p4) k) 0) 0))) rfl (fun k hk => by rcases (show k = 0 ∨ k = 1 ∨ k = 2 ∨ k = 3 ∨ k = 4 by omega) with rfl | rfl | rfl | rfl | rfl <;> rfl)
  have w := w.is (ws' := plateW G p4 initP (fun _ => 0) ++ (plateW G p3 initP (fun _ => 0) ++ (plateW G p2 initP (fun _ => 0) ++ (plateW G p1 initP (fun _ => 0) ++ (plateW G p0 initP (fun _ => 0) ++ ([cO b 1 [.int (nI 0), .int (nI 0), .ref q0], aP G q0 5 (fun k => some ((((fun k => if k = 0 then p0 else if k = 1 then p1 else if k = 2 then p2 else if k = 3 then p3 else p4) k) 0) 0))])))))) rfl
  have w := w.perm ((((List.Perm.append_left _ ((List.Perm.append_left _ ((List.Perm.append_left _ ((List.Perm.append_left _ List.perm_append_comm).trans (List.perm_append_comm_assoc _ _ _))).trans (List.perm_append_comm_assoc _ _ _))).trans (List.perm_append_comm_assoc _ _ _))).trans (List.perm_append_comm_assoc _ _ _)).trans (List.Perm.append_left _ (((List.Perm.append_left _ ((List.Perm.append_left _ ((List.Perm.append_left _ List.perm_append_comm).trans (List.perm_append_comm_assoc _ _ _))).trans (List.perm_append_comm_assoc _ _ _))).trans (List.perm_append_comm_assoc _ _ _)).trans (List.Perm.append_left _ (((List.Perm.append_left _ ((List.Perm.append_left _ List.perm_append_comm).trans (List.perm_append_comm_assoc _ _ _))).trans (List.perm_append_comm_assoc _ _ _)).trans (List.Perm.append_left _ (((List.Perm.append_left _ List.perm_append_comm).trans (List.perm_append_comm_assoc _ _ _)).trans (List.Perm.append_left _ List.perm_append_comm)))))))))
  exact r_return F w dX1_init_38 ⟨adr [b, q0], (fun k => if k = 0 then p0 else if k = 1 then p1 else if k = 2 then p2 else if k = 3 then p3 else p4), rfl, rfl⟩

