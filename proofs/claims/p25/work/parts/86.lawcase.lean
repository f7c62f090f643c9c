/-! ===== p25: the law's cases ===== -/
theorem lw_in : ∀ w ∈ wsL_law, w ∈ lw_tbl := fun w hw => (wsL_law_in w hw).1
theorem rngF {w v : Nat} (h : (w = 0 ∧ v ≤ 200) ∨ (w = 1 ∧ 10 ≤ v ∧ v ≤ 200) ∨ (w = 2 ∧ 100 ≤ v ∧ v ≤ 20000) ∨ (w = 3 ∧ 1 ≤ v ∧ v ≤ 500) ∨ (w = 4 ∧ 50 ≤ v ∧ v ≤ 5000) ∨ (w = 5 ∧ 5 ≤ v ∧ v ≤ 200) ∨ (w = 6 ∧ 50 ≤ v ∧ v ≤ 5000) ∨ (w = 7 ∧ v ≤ 50)) : leastF w ≤ v ∧ v ≤ mostF w ∧ v ≤ 20000 := by
  rcases h with ⟨rfl, h⟩ | ⟨rfl, h⟩ | ⟨rfl, h⟩ | ⟨rfl, h⟩ | ⟨rfl, h⟩ | ⟨rfl, h⟩ | ⟨rfl, h⟩ | ⟨rfl, h⟩ <;> simp [leastF, mostF] <;> omega
theorem set_le {P : Nat → Nat} (h : SetOk P) {w : Nat} (hw : w < 8) : P w ≤ 20000 := by
  unfold SetOk at h
  rcases (show w = 0 ∨ w = 1 ∨ w = 2 ∨ w = 3 ∨ w = 4 ∨ w = 5 ∨ w = 6 ∨ w = 7 by omega) with rfl | rfl | rfl | rfl | rfl | rfl | rfl | rfl <;> omega
section LC
variable {p : Program} {l : Launch} {e : Env} {s : State} {m : MethodId} {args : Array Value} {below : List Frame} {meth : Method} {c : Code} {H : Heap} {locs : List Loc} {cells slots : Nat} {Q : State → Prop}
variable {G : KG} {A : Nat → Prop} {ls : Array Slot} {b sb u : Nat} {x y : Int32} {P : Nat → Nat} {n : Nat} {h : Nat → Nat → Nat}
set_option maxRecDepth 100000 in
set_option maxHeartbeats 8000000 in
theorem lc_add (a1 a2 a3 q0 v0 q1 v1 q2 v2 : Nat) (F : Fx p s m args meth c cL_law 14 RL lw_tbl ret) (hX : lawX a1 a2 a3 q0 v0 q1 v1 q2 v2 A s s.heap) (hcs : cells ≤ room_1.cells ∧ slots ≤ room_1.slots) (hS : SI P n h) (hJ : JI P) (ht : P 16 ≤ 10000) (w : CW G s A H locs b P n h) (hl : lv_has ls 14 [(6, .int (nI (toldF P))), (5, .int (nI (P 8))), (4, .int y), (3, .int x), (2, .int (nI u)), (1, .ref b), (0, .ref sb)]) (kk : ∀ (P' : Nat → Nat) (n' : Nat) (h' : Nat → Nat → Nat) (d : Nat) (H : Heap) (locs : List Loc) (ls : Array Slot), SI P' n' h' → JI P' → P' 16 ≤ P 16 + 200 → d ≤ toldF P' → CW G s A H locs b P' n' h' → lv_has ls 14 [(6, .int (nI d)), (4, .int y), (3, .int x), (2, .int (nI u)), (1, .ref b), (0, .ref sb)] → W p l e room_1 s m args below meth c H locs cells slots Q (F0 m 862 ls [])) : W p l e room_1 s m args below meth c H locs cells slots Q (F0 m 121 ls []) := by
  have hf := fine_law a1 a2 a3 q0 v0 q1 v1 q2 v2
  have hI := hS.1
  obtain ⟨f8, f14, ft1, ft2, ft3, fd1, fd2, fd3, fw1, fw2, fw3, fb1, fb2, fb3, fb4, fb5, fb6, fc1, fc2, fc3, fc4, fn5, fs1, fs2⟩ := S_facts hS hJ
  have L143 : ∀ (kd : Nat), kd ≤ 2 → ∀ (H : Heap) (locs : List Loc), CW G s A H locs b P n h → ∀ ls : Array Slot, lv_has ls 14 [(8, .int (nI kd)), (6, .int (nI (toldF P))), (5, .int (nI (P 8))), (4, .int y), (3, .int x), (2, .int (nI u)), (1, .ref b), (0, .ref sb)] → W p l e room_1 s m args below meth c H locs cells slots Q (F0 m 143 ls []) := by
    intro kd hk1 H locs w ls hl
    have L174 : ∀ (ln : Nat), 1 ≤ ln → ln ≤ 300 → ∀ (H : Heap) (locs : List Loc), CW G s A H locs b P n h → ∀ ls : Array Slot, lv_has ls 14 [(9, .int (nI ln)), (8, .int (nI kd)), (6, .int (nI (toldF P))), (5, .int (nI (P 8))), (4, .int y), (3, .int x), (2, .int (nI u)), (1, .ref b), (0, .ref sb)] → W p l e room_1 s m args below meth c H locs cells slots Q (F0 m 174 ls []) := by
      intro ln hl1 hl2 H locs w ls hl
      have L199 : ∀ (dn : Nat), (kd = 1 ∧ dn = 0) ∨ (kd ≠ 1 ∧ 60 ≤ dn ∧ dn ≤ 92) → ∀ (H : Heap) (locs : List Loc), CW G s A H locs b P n h → ∀ ls : Array Slot, lv_has ls 14 [(10, .int (nI dn)), (9, .int (nI ln)), (8, .int (nI kd)), (6, .int (nI (toldF P))), (5, .int (nI (P 8))), (4, .int y), (3, .int x), (2, .int (nI u)), (1, .ref b), (0, .ref sb)] → W p l e room_1 s m args below meth c H locs cells slots Q (F0 m 199 ls []) := by
        intro dn hd1 H locs w ls hl
        have L241 : ∀ (mo : Nat), (kd = 0 ∧ mo ≤ 50) ∨ (kd = 1 ∧ mo = 0) ∨ (kd = 2 ∧ 1 ≤ mo ∧ mo ≤ 100) → ∀ (H : Heap) (locs : List Loc), CW G s A H locs b P n h → ∀ ls : Array Slot, lv_has ls 14 [(11, .int (nI mo)), (10, .int (nI dn)), (9, .int (nI ln)), (8, .int (nI kd)), (6, .int (nI (toldF P))), (5, .int (nI (P 8))), (4, .int y), (3, .int x), (2, .int (nI u)), (1, .ref b), (0, .ref sb)] → W p l e room_1 s m args below meth c H locs cells slots Q (F0 m 241 ls []) := by
          intro mo hm1 H locs w ls hl
          have hk : SegK kd ln dn mo := by unfold SegK; omega
          refine lv_aload_n F.1 F.2.1 dL_law_241 rfl (lv_at hl 9 rfl) ?_
          refine lv_bipush (v := nI 9) F.1 F.2.1 dL_law_242 (by decide) ?_
          refine k_call (As := [.int (nI 9)]) (rest := []) hf hX F w (k_count l G a1 a2 a3 q0 v0 q1 v1 q2 v2 hS a_c9) ((gL_law_X7_count).tr lw_in) rfl (nA0 := 1) (by decide +kernel) rfl ⟨Nat.le_of_ble_eq_true rfl, Nat.le_of_ble_eq_true rfl⟩ hcs hl rfl (Nat.le_of_ble_eq_true rfl) dL_law_244 (fun H locs w => ?_)
          refine lv_istore (lv' := [(12, .int (nI (top P))), (11, .int (nI mo)), (10, .int (nI dn)), (9, .int (nI ln)), (8, .int (nI kd)), (6, .int (nI (toldF P))), (5, .int (nI (P 8))), (4, .int y), (3, .int x), (2, .int (nI u)), (1, .ref b), (0, .ref sb)]) F.1 F.2.1 dL_law_247 hl (by decide) rfl (fun ls hl => ?_)
          by_cases hz : P 8 = 20
          · skip
            refine lv_aload_n F.1 F.2.1 dL_law_249 rfl (lv_at hl 10 rfl) ?_
            refine lv_iload F.1 F.2.1 dL_law_250 (lv_at hl 4 rfl) ?_
            refine lv_iload F.1 F.2.1 dL_law_252 (lv_at hl 3 rfl) ?_
            refine lv_iload F.1 F.2.1 dL_law_254 (lv_at hl 2 rfl) ?_
            refine lv_iload F.1 F.2.1 dL_law_256 (lv_at hl 1 rfl) ?_
            refine k_call (As := [.int (nI kd), .int (nI ln), .int (nI dn), .int (nI mo)]) (rest := []) hf hX F w (k_addZ l G a1 a2 a3 q0 v0 q1 v1 q2 v2 hS hk hz) ((gL_law_X7_addSegment).tr lw_in) rfl (nA0 := 4) (by decide +kernel) rfl ⟨Nat.le_of_ble_eq_true rfl, Nat.le_of_ble_eq_true rfl⟩ hcs hl rfl (Nat.le_of_ble_eq_true rfl) dL_law_258 (fun H locs w => ?_)
            refine lv_istore (lv' := [(13, .int (-3)), (12, .int (nI (top P))), (11, .int (nI mo)), (10, .int (nI dn)), (9, .int (nI ln)), (8, .int (nI kd)), (6, .int (nI (toldF P))), (5, .int (nI (P 8))), (4, .int y), (3, .int x), (2, .int (nI u)), (1, .ref b), (0, .ref sb)]) F.1 F.2.1 dL_law_261 hl (by decide) rfl (fun ls hl => ?_)
            refine lv_iload F.1 F.2.1 dL_law_263 (lv_at hl 0 rfl) ?_
            refine lv_iload F.1 F.2.1 dL_law_265 (lv_at hl 7 rfl) ?_
            refine lv_bipush (v := nI 20) F.1 F.2.1 dL_law_267 (by decide) ?_
            refine r_cne (tgt := 277) F dL_law_269 (by decide) (by omega) (by decide) (fun c269 => by exfalso; omega) (fun c269 => ?_)
            refine lv_bipush (v := (-3)) F.1 F.2.1 dL_law_272 (by decide) ?_
            refine lv_goto (tgt := 279) F.1 F.2.1 dL_law_274 (by decide) ?_
            refine lv_icmp_ne (tgt := 346) F.1 F.2.1 dL_law_279 (by decide) (fun q => absurd rfl q) (fun _ => ?_)
            refine lv_iload F.1 F.2.1 dL_law_282 (lv_at hl 0 rfl) ?_
            refine lv_if_lt (tgt := 335) F.1 F.2.1 dL_law_284 (by decide) (fun _ => ?_) (fun q => absurd (by decide) q)
            refine lv_aload_n F.1 F.2.1 dL_law_335 rfl (lv_at hl 11 rfl) ?_
            refine lv_bipush (v := nI 15) F.1 F.2.1 dL_law_336 (by decide) ?_
            refine k_call (As := [.int (nI 15)]) (rest := []) hf hX F w (k_count l G a1 a2 a3 q0 v0 q1 v1 q2 v2 hS a_c15) ((gL_law_X7_count).tr lw_in) rfl (nA0 := 1) (by decide +kernel) rfl ⟨Nat.le_of_ble_eq_true rfl, Nat.le_of_ble_eq_true rfl⟩ hcs hl rfl (Nat.le_of_ble_eq_true rfl) dL_law_338 (fun H locs w => ?_)
            refine lv_iload F.1 F.2.1 dL_law_341 (lv_at hl 6 rfl) ?_
            refine r_ceq (tgt := 348) F dL_law_343 (by decide) (by omega) (by omega) (fun c343 => ?_) (fun c343 => by exfalso; omega)
            refine lv_goto (tgt := 862) F.1 F.2.1 dL_law_348 (by decide) ?_
            exact kk _ _ _ (toldF P) H locs ls hS hJ (by omega) (by omega) w (lv_sub hl [6, 8, 9, 10, 11, 12] rfl)
          · skip
            have hz : P 8 < 20 := by omega
            have hI' := add_inv hI hk hz
            have hS' : SI (addF P kd ln dn mo) (sizeN n) (recH h n P) := SI_rec hS hI'
            have hJ' := add_J hI hJ hk hz
            have y8 := addF_8 P kd ln dn mo
            have yt := addF_top P kd ln dn mo
            have y1 := addF_1 P kd ln dn mo
            have y2 := addF_2 P kd ln dn mo
            have y3 := addF_3 P kd ln dn mo
            have yl : low (lnP (addF P kd ln dn mo)) (P 8) = top P := addF_low P kd ln dn mo (Nat.le_refl _)
            have y9 : (addF P kd ln dn mo) 9 = P 9 := addF_hi _ _ _ _ _ (by omega) (by omega)
            have y16 : (addF P kd ln dn mo) 16 = P 16 := addF_hi _ _ _ _ _ (by omega) (by omega)
            have yd := add_told hI hk hz
            refine lv_aload_n F.1 F.2.1 dL_law_249 rfl (lv_at hl 10 rfl) ?_
            refine lv_iload F.1 F.2.1 dL_law_250 (lv_at hl 4 rfl) ?_
            refine lv_iload F.1 F.2.1 dL_law_252 (lv_at hl 3 rfl) ?_
            refine lv_iload F.1 F.2.1 dL_law_254 (lv_at hl 2 rfl) ?_
            refine lv_iload F.1 F.2.1 dL_law_256 (lv_at hl 1 rfl) ?_
            refine k_call (As := [.int (nI kd), .int (nI ln), .int (nI dn), .int (nI mo)]) (rest := []) hf hX F w (k_addN l G a1 a2 a3 q0 v0 q1 v1 q2 v2 hS hk hz) ((gL_law_X7_addSegment).tr lw_in) rfl (nA0 := 4) (by decide +kernel) rfl ⟨Nat.le_of_ble_eq_true rfl, Nat.le_of_ble_eq_true rfl⟩ hcs hl rfl (Nat.le_of_ble_eq_true rfl) dL_law_258 (fun H locs w => ?_)
            refine lv_istore (lv' := [(13, .int (nI (P 8))), (12, .int (nI (top P))), (11, .int (nI mo)), (10, .int (nI dn)), (9, .int (nI ln)), (8, .int (nI kd)), (6, .int (nI (toldF P))), (5, .int (nI (P 8))), (4, .int y), (3, .int x), (2, .int (nI u)), (1, .ref b), (0, .ref sb)]) F.1 F.2.1 dL_law_261 hl (by decide) rfl (fun ls hl => ?_)
            refine lv_iload F.1 F.2.1 dL_law_263 (lv_at hl 0 rfl) ?_
            refine lv_iload F.1 F.2.1 dL_law_265 (lv_at hl 7 rfl) ?_
            refine lv_bipush (v := nI 20) F.1 F.2.1 dL_law_267 (by decide) ?_
            refine r_cne (tgt := 277) F dL_law_269 (by decide) (by omega) (by decide) (fun c269 => ?_) (fun c269 => by exfalso; omega)
            refine lv_iload F.1 F.2.1 dL_law_277 (lv_at hl 7 rfl) ?_
            refine r_cne (tgt := 346) F dL_law_279 (by decide) (by omega) (by omega) (fun c279 => by exfalso; omega) (fun c279 => ?_)
            refine lv_iload F.1 F.2.1 dL_law_282 (lv_at hl 0 rfl) ?_
            refine r_zlt (tgt := 335) F dL_law_284 (by decide) (by omega) ?_
            refine lv_aload_n F.1 F.2.1 dL_law_287 rfl (lv_at hl 11 rfl) ?_
            refine lv_bipush (v := nI 9) F.1 F.2.1 dL_law_288 (by decide) ?_
            refine k_call (As := [.int (nI 9)]) (rest := []) hf hX F w (k_count l G a1 a2 a3 q0 v0 q1 v1 q2 v2 hS' a_c9) ((gL_law_X7_count).tr lw_in) rfl (nA0 := 1) (by decide +kernel) rfl ⟨Nat.le_of_ble_eq_true rfl, Nat.le_of_ble_eq_true rfl⟩ hcs hl rfl (Nat.le_of_ble_eq_true rfl) dL_law_290 (fun H locs w => ?_)
            refine lv_iload F.1 F.2.1 dL_law_293 (lv_at hl 1 rfl) ?_
            refine lv_iload F.1 F.2.1 dL_law_295 (lv_at hl 4 rfl) ?_
            refine r_iadd F dL_law_297 ?_
            refine r_cne (tgt := 346) F dL_law_298 (by decide) (by omega) (by omega) (fun c298 => by exfalso; omega) (fun c298 => ?_)
            refine lv_aload_n F.1 F.2.1 dL_law_301 rfl (lv_at hl 11 rfl) ?_
            refine lv_iload F.1 F.2.1 dL_law_302 (lv_at hl 0 rfl) ?_
            refine lv_iconst (v := nI 2) F.1 F.2.1 dL_law_304 (by decide) ?_
            refine k_call (As := [.int (nI (P 8)), .int (nI 2)]) (rest := []) hf hX F w (k_segment l G a1 a2 a3 q0 v0 q1 v1 q2 v2 hS' (a_s2 (i := P 8) (by omega) (by omega))) ((gL_law_X7_segment).tr lw_in) rfl (nA0 := 2) (by decide +kernel) rfl ⟨Nat.le_of_ble_eq_true rfl, Nat.le_of_ble_eq_true rfl⟩ hcs hl rfl (Nat.le_of_ble_eq_true rfl) dL_law_305 (fun H locs w => ?_)
            refine lv_iload F.1 F.2.1 dL_law_308 (lv_at hl 3 rfl) ?_
            refine r_cne (tgt := 346) F dL_law_310 (by decide) (by omega) (by omega) (fun c310 => by exfalso; omega) (fun c310 => ?_)
            refine lv_aload_n F.1 F.2.1 dL_law_313 rfl (lv_at hl 11 rfl) ?_
            refine lv_iload F.1 F.2.1 dL_law_314 (lv_at hl 0 rfl) ?_
            refine lv_iconst (v := nI 3) F.1 F.2.1 dL_law_316 (by decide) ?_
            refine k_call (As := [.int (nI (P 8)), .int (nI 3)]) (rest := []) hf hX F w (k_segment l G a1 a2 a3 q0 v0 q1 v1 q2 v2 hS' (a_s3 (i := P 8) (by omega) (by omega))) ((gL_law_X7_segment).tr lw_in) rfl (nA0 := 2) (by decide +kernel) rfl ⟨Nat.le_of_ble_eq_true rfl, Nat.le_of_ble_eq_true rfl⟩ hcs hl rfl (Nat.le_of_ble_eq_true rfl) dL_law_317 (fun H locs w => ?_)
            refine lv_iload F.1 F.2.1 dL_law_320 (lv_at hl 2 rfl) ?_
            refine r_cne (tgt := 346) F dL_law_322 (by decide) (by omega) (by omega) (fun c322 => by exfalso; omega) (fun c322 => ?_)
            refine lv_aload_n F.1 F.2.1 dL_law_325 rfl (lv_at hl 11 rfl) ?_
            refine lv_iload F.1 F.2.1 dL_law_326 (lv_at hl 0 rfl) ?_
            refine lv_iconst (v := nI 5) F.1 F.2.1 dL_law_328 (by decide) ?_
            refine k_call (As := [.int (nI (P 8)), .int (nI 5)]) (rest := []) hf hX F w (k_segment l G a1 a2 a3 q0 v0 q1 v1 q2 v2 hS' (a_s5 (i := P 8) (by omega) (by omega))) ((gL_law_X7_segment).tr lw_in) rfl (nA0 := 2) (by decide +kernel) rfl ⟨Nat.le_of_ble_eq_true rfl, Nat.le_of_ble_eq_true rfl⟩ hcs hl rfl (Nat.le_of_ble_eq_true rfl) dL_law_329 (fun H locs w => ?_)
            refine r_zne (tgt := 346) F dL_law_332 (by decide) (by omega) (fun c332 => by exfalso; omega) (fun c332 => ?_)
            refine lv_aload_n F.1 F.2.1 dL_law_335 rfl (lv_at hl 11 rfl) ?_
            refine lv_bipush (v := nI 15) F.1 F.2.1 dL_law_336 (by decide) ?_
            refine k_call (As := [.int (nI 15)]) (rest := []) hf hX F w (k_count l G a1 a2 a3 q0 v0 q1 v1 q2 v2 hS' a_c15) ((gL_law_X7_count).tr lw_in) rfl (nA0 := 1) (by decide +kernel) rfl ⟨Nat.le_of_ble_eq_true rfl, Nat.le_of_ble_eq_true rfl⟩ hcs hl rfl (Nat.le_of_ble_eq_true rfl) dL_law_338 (fun H locs w => ?_)
            refine lv_iload F.1 F.2.1 dL_law_341 (lv_at hl 6 rfl) ?_
            refine r_ceq (tgt := 348) F dL_law_343 (by decide) (by omega) (by omega) (fun c343 => ?_) (fun c343 => by exfalso; omega)
            refine lv_goto (tgt := 862) F.1 F.2.1 dL_law_348 (by decide) ?_
            exact kk _ _ _ (toldF P) H locs ls hS' hJ' (by omega) (by omega) w (lv_sub hl [6, 8, 9, 10, 11, 12] rfl)
        refine lv_iload F.1 F.2.1 dL_law_199 (lv_at hl 2 rfl) ?_
        refine r_zne (tgt := 217) F dL_law_201 (by decide) (by omega) (fun c201 => ?_) (fun c201 => ?_)
        · skip
          refine lv_iload F.1 F.2.1 dL_law_217 (lv_at hl 2 rfl) ?_
          refine lv_iconst (v := nI 1) F.1 F.2.1 dL_law_219 (by decide) ?_
          refine r_cne (tgt := 227) F dL_law_220 (by decide) (by omega) (by decide) (fun c220 => ?_) (fun c220 => ?_)
          · skip
            refine lv_iconst (v := nI 1) F.1 F.2.1 dL_law_227 (by decide) ?_
            refine lv_iload F.1 F.2.1 dL_law_228 (lv_at hl 5 rfl) ?_
            refine lv_bipush (v := nI 15) F.1 F.2.1 dL_law_230 (by decide) ?_
            refine lv_ishr F.1 F.2.1 dL_law_232 ?_
            refine lv_bipush (v := nI 100) F.1 F.2.1 dL_law_233 (by decide) ?_
            refine k_call0 (As := [.int (y >>> (nI 15 &&& 31)), .int (nI 100)]) (rest := [.int (nI 1)]) hf hX F w ((c_L_low l G (y >>> (nI 15 &&& 31)) (n := 100) (by decide)).toX) ((gL_law_L_low).tr lw_in) rfl (nA0 := 2) (by decide +kernel) rfl ⟨Nat.le_of_ble_eq_true rfl, Nat.le_of_ble_eq_true rfl⟩ hcs hl rfl (Nat.le_of_ble_eq_true rfl) dL_law_235 (fun r H locs hr w => ?_)
            subst hr
            have z235 := lowF_lt (y >>> (nI 15 &&& 31)) (n := 100) (by decide)
            refine r_iadd F dL_law_238 ?_
            refine lv_istore (lv' := [(11, .int (nI (1 + (lowF (y >>> (nI 15 &&& 31)) 100)))), (10, .int (nI dn)), (9, .int (nI ln)), (8, .int (nI kd)), (6, .int (nI (toldF P))), (5, .int (nI (P 8))), (4, .int y), (3, .int x), (2, .int (nI u)), (1, .ref b), (0, .ref sb)]) F.1 F.2.1 dL_law_239 hl (by decide) rfl (fun ls hl => ?_)
            exact L241 (1 + (lowF (y >>> (nI 15 &&& 31)) 100)) (by omega) H locs w ls (lv_sub hl [0, 1, 2, 3, 4, 5, 6, 7, 8, 9, 10] rfl)
          · skip
            refine lv_iconst (v := nI 0) F.1 F.2.1 dL_law_223 (by decide) ?_
            refine lv_goto (tgt := 239) F.1 F.2.1 dL_law_224 (by decide) ?_
            refine lv_istore (lv' := [(11, .int (nI 0)), (10, .int (nI dn)), (9, .int (nI ln)), (8, .int (nI kd)), (6, .int (nI (toldF P))), (5, .int (nI (P 8))), (4, .int y), (3, .int x), (2, .int (nI u)), (1, .ref b), (0, .ref sb)]) F.1 F.2.1 dL_law_239 hl (by decide) rfl (fun ls hl => ?_)
            exact L241 0 (by omega) H locs w ls (lv_sub hl [0, 1, 2, 3, 4, 5, 6, 7, 8, 9, 10] rfl)
        · skip
          refine lv_iload F.1 F.2.1 dL_law_204 (lv_at hl 5 rfl) ?_
          refine lv_bipush (v := nI 15) F.1 F.2.1 dL_law_206 (by decide) ?_
          refine lv_ishr F.1 F.2.1 dL_law_208 ?_
          refine lv_bipush (v := nI 51) F.1 F.2.1 dL_law_209 (by decide) ?_
          refine k_call0 (As := [.int (y >>> (nI 15 &&& 31)), .int (nI 51)]) (rest := []) hf hX F w ((c_L_low l G (y >>> (nI 15 &&& 31)) (n := 51) (by decide)).toX) ((gL_law_L_low).tr lw_in) rfl (nA0 := 2) (by decide +kernel) rfl ⟨Nat.le_of_ble_eq_true rfl, Nat.le_of_ble_eq_true rfl⟩ hcs hl rfl (Nat.le_of_ble_eq_true rfl) dL_law_211 (fun r H locs hr w => ?_)
          subst hr
          have z211 := lowF_lt (y >>> (nI 15 &&& 31)) (n := 51) (by decide)
          refine lv_goto (tgt := 239) F.1 F.2.1 dL_law_214 (by decide) ?_
          refine lv_istore (lv' := [(11, .int (nI (lowF (y >>> (nI 15 &&& 31)) 51))), (10, .int (nI dn)), (9, .int (nI ln)), (8, .int (nI kd)), (6, .int (nI (toldF P))), (5, .int (nI (P 8))), (4, .int y), (3, .int x), (2, .int (nI u)), (1, .ref b), (0, .ref sb)]) F.1 F.2.1 dL_law_239 hl (by decide) rfl (fun ls hl => ?_)
          exact L241 (lowF (y >>> (nI 15 &&& 31)) 51) (by omega) H locs w ls (lv_sub hl [0, 1, 2, 3, 4, 5, 6, 7, 8, 9, 10] rfl)
      refine lv_iload F.1 F.2.1 dL_law_174 (lv_at hl 1 rfl) ?_
      refine lv_iconst (v := nI 1) F.1 F.2.1 dL_law_176 (by decide) ?_
      refine r_cne (tgt := 184) F dL_law_177 (by decide) (by omega) (by decide) (fun c177 => ?_) (fun c177 => ?_)
      · skip
        refine lv_bipush (v := nI 60) F.1 F.2.1 dL_law_184 (by decide) ?_
        refine lv_iload F.1 F.2.1 dL_law_186 (lv_at hl 4 rfl) ?_
        refine lv_bipush (v := nI 10) F.1 F.2.1 dL_law_188 (by decide) ?_
        refine lv_ishr F.1 F.2.1 dL_law_190 ?_
        refine lv_bipush (v := nI 33) F.1 F.2.1 dL_law_191 (by decide) ?_
        refine k_call0 (As := [.int (y >>> (nI 10 &&& 31)), .int (nI 33)]) (rest := [.int (nI 60)]) hf hX F w ((c_L_low l G (y >>> (nI 10 &&& 31)) (n := 33) (by decide)).toX) ((gL_law_L_low).tr lw_in) rfl (nA0 := 2) (by decide +kernel) rfl ⟨Nat.le_of_ble_eq_true rfl, Nat.le_of_ble_eq_true rfl⟩ hcs hl rfl (Nat.le_of_ble_eq_true rfl) dL_law_193 (fun r H locs hr w => ?_)
        subst hr
        have z193 := lowF_lt (y >>> (nI 10 &&& 31)) (n := 33) (by decide)
        refine r_iadd F dL_law_196 ?_
        refine lv_istore (lv' := [(10, .int (nI (60 + (lowF (y >>> (nI 10 &&& 31)) 33)))), (9, .int (nI ln)), (8, .int (nI kd)), (6, .int (nI (toldF P))), (5, .int (nI (P 8))), (4, .int y), (3, .int x), (2, .int (nI u)), (1, .ref b), (0, .ref sb)]) F.1 F.2.1 dL_law_197 hl (by decide) rfl (fun ls hl => ?_)
        exact L199 (60 + (lowF (y >>> (nI 10 &&& 31)) 33)) (by omega) H locs w ls (lv_sub hl [0, 1, 2, 3, 4, 5, 6, 7, 8, 9] rfl)
      · skip
        refine lv_iconst (v := nI 0) F.1 F.2.1 dL_law_180 (by decide) ?_
        refine lv_goto (tgt := 197) F.1 F.2.1 dL_law_181 (by decide) ?_
        refine lv_istore (lv' := [(10, .int (nI 0)), (9, .int (nI ln)), (8, .int (nI kd)), (6, .int (nI (toldF P))), (5, .int (nI (P 8))), (4, .int y), (3, .int x), (2, .int (nI u)), (1, .ref b), (0, .ref sb)]) F.1 F.2.1 dL_law_197 hl (by decide) rfl (fun ls hl => ?_)
        exact L199 0 (by omega) H locs w ls (lv_sub hl [0, 1, 2, 3, 4, 5, 6, 7, 8, 9] rfl)
    refine lv_iconst (v := nI 1) F.1 F.2.1 dL_law_143 (by decide) ?_
    refine lv_iload F.1 F.2.1 dL_law_144 (lv_at hl 3 rfl) ?_
    refine lv_iconst (v := nI 2) F.1 F.2.1 dL_law_146 (by decide) ?_
    refine lv_ishr F.1 F.2.1 dL_law_147 ?_
    refine lv_iload F.1 F.2.1 dL_law_148 (lv_at hl 3 rfl) ?_
    refine lv_bipush (v := nI 25) F.1 F.2.1 dL_law_150 (by decide) ?_
    refine lv_ishr F.1 F.2.1 dL_law_152 ?_
    refine lv_iconst (v := nI 3) F.1 F.2.1 dL_law_153 (by decide) ?_
    refine k_call0 (As := [.int (y >>> (nI 25 &&& 31)), .int (nI 3)]) (rest := [.int (y >>> (nI 2 &&& 31)), .int (nI 1)]) hf hX F w ((c_L_low l G (y >>> (nI 25 &&& 31)) (n := 3) (by decide)).toX) ((gL_law_L_low).tr lw_in) rfl (nA0 := 2) (by decide +kernel) rfl ⟨Nat.le_of_ble_eq_true rfl, Nat.le_of_ble_eq_true rfl⟩ hcs hl rfl (Nat.le_of_ble_eq_true rfl) dL_law_154 (fun r H locs hr w => ?_)
    subst hr
    have z154 := lowF_lt (y >>> (nI 25 &&& 31)) (n := 3) (by decide)
    refine r_zne (tgt := 166) F dL_law_157 (by decide) (by omega) (fun c157 => ?_) (fun c157 => ?_)
    · skip
      refine lv_bipush (v := nI 30) F.1 F.2.1 dL_law_166 (by decide) ?_
      refine k_call0 (As := [.int (y >>> (nI 2 &&& 31)), .int (nI 30)]) (rest := [.int (nI 1)]) hf hX F w ((c_L_low l G (y >>> (nI 2 &&& 31)) (n := 30) (by decide)).toX) ((gL_law_L_low).tr lw_in) rfl (nA0 := 2) (by decide +kernel) rfl ⟨Nat.le_of_ble_eq_true rfl, Nat.le_of_ble_eq_true rfl⟩ hcs hl rfl (Nat.le_of_ble_eq_true rfl) dL_law_168 (fun r H locs hr w => ?_)
      subst hr
      have z168 := lowF_lt (y >>> (nI 2 &&& 31)) (n := 30) (by decide)
      refine r_iadd F dL_law_171 ?_
      refine lv_istore (lv' := [(9, .int (nI (1 + (lowF (y >>> (nI 2 &&& 31)) 30)))), (8, .int (nI kd)), (6, .int (nI (toldF P))), (5, .int (nI (P 8))), (4, .int y), (3, .int x), (2, .int (nI u)), (1, .ref b), (0, .ref sb)]) F.1 F.2.1 dL_law_172 hl (by decide) rfl (fun ls hl => ?_)
      exact L174 (1 + (lowF (y >>> (nI 2 &&& 31)) 30)) (by omega) (by omega) H locs w ls (lv_sub hl [0, 1, 2, 3, 4, 5, 6, 7, 8] rfl)
    · skip
      refine lv_sipush (v := nI 300) F.1 F.2.1 dL_law_160 (by decide) ?_
      refine lv_goto (tgt := 168) F.1 F.2.1 dL_law_163 (by decide) ?_
      refine k_call0 (As := [.int (y >>> (nI 2 &&& 31)), .int (nI 300)]) (rest := [.int (nI 1)]) hf hX F w ((c_L_low l G (y >>> (nI 2 &&& 31)) (n := 300) (by decide)).toX) ((gL_law_L_low).tr lw_in) rfl (nA0 := 2) (by decide +kernel) rfl ⟨Nat.le_of_ble_eq_true rfl, Nat.le_of_ble_eq_true rfl⟩ hcs hl rfl (Nat.le_of_ble_eq_true rfl) dL_law_168 (fun r H locs hr w => ?_)
      subst hr
      have z168 := lowF_lt (y >>> (nI 2 &&& 31)) (n := 300) (by decide)
      refine r_iadd F dL_law_171 ?_
      refine lv_istore (lv' := [(9, .int (nI (1 + (lowF (y >>> (nI 2 &&& 31)) 300)))), (8, .int (nI kd)), (6, .int (nI (toldF P))), (5, .int (nI (P 8))), (4, .int y), (3, .int x), (2, .int (nI u)), (1, .ref b), (0, .ref sb)]) F.1 F.2.1 dL_law_172 hl (by decide) rfl (fun ls hl => ?_)
      exact L174 (1 + (lowF (y >>> (nI 2 &&& 31)) 300)) (by omega) (by omega) H locs w ls (lv_sub hl [0, 1, 2, 3, 4, 5, 6, 7, 8] rfl)
  refine lv_iload F.1 F.2.1 dL_law_121 (lv_at hl 2 rfl) ?_
  refine lv_iconst (v := nI 4) F.1 F.2.1 dL_law_123 (by decide) ?_
  refine k_call0 (As := [.int y, .int (nI 4)]) (rest := []) hf hX F w ((c_L_low l G y (n := 4) (by decide)).toX) ((gL_law_L_low).tr lw_in) rfl (nA0 := 2) (by decide +kernel) rfl ⟨Nat.le_of_ble_eq_true rfl, Nat.le_of_ble_eq_true rfl⟩ hcs hl rfl (Nat.le_of_ble_eq_true rfl) dL_law_124 (fun r H locs hr w => ?_)
  subst hr
  have z124 := lowF_lt y (n := 4) (by decide)
  refine lv_istore (lv' := [(8, .int (nI (lowF y 4))), (6, .int (nI (toldF P))), (5, .int (nI (P 8))), (4, .int y), (3, .int x), (2, .int (nI u)), (1, .ref b), (0, .ref sb)]) F.1 F.2.1 dL_law_127 hl (by decide) rfl (fun ls hl => ?_)
  refine lv_iload F.1 F.2.1 dL_law_129 (lv_at hl 0 rfl) ?_
  refine lv_iconst (v := nI 3) F.1 F.2.1 dL_law_131 (by decide) ?_
  refine r_cne (tgt := 139) F dL_law_132 (by decide) (by omega) (by decide) (fun c132 => ?_) (fun c132 => ?_)
  · skip
    refine lv_iload F.1 F.2.1 dL_law_139 (lv_at hl 0 rfl) ?_
    refine lv_istore (lv' := [(8, .int (nI (lowF y 4))), (6, .int (nI (toldF P))), (5, .int (nI (P 8))), (4, .int y), (3, .int x), (2, .int (nI u)), (1, .ref b), (0, .ref sb)]) F.1 F.2.1 dL_law_141 hl (by decide) rfl (fun ls hl => ?_)
    exact L143 (lowF y 4) (by omega) H locs w ls (lv_sub hl [0, 1, 2, 3, 4, 5, 6, 7] rfl)
  · skip
    refine lv_iconst (v := nI 0) F.1 F.2.1 dL_law_135 (by decide) ?_
    refine lv_goto (tgt := 141) F.1 F.2.1 dL_law_136 (by decide) ?_
    refine lv_istore (lv' := [(8, .int (nI 0)), (6, .int (nI (toldF P))), (5, .int (nI (P 8))), (4, .int y), (3, .int x), (2, .int (nI u)), (1, .ref b), (0, .ref sb)]) F.1 F.2.1 dL_law_141 hl (by decide) rfl (fun ls hl => ?_)
    exact L143 0 (by omega) H locs w ls (lv_sub hl [0, 1, 2, 3, 4, 5, 6, 7] rfl)
set_option maxRecDepth 100000 in
set_option maxHeartbeats 8000000 in
theorem lc_set (a1 a2 a3 q0 v0 q1 v1 q2 v2 : Nat) (F : Fx p s m args meth c cL_law 14 RL lw_tbl ret) (hX : lawX a1 a2 a3 q0 v0 q1 v1 q2 v2 A s s.heap) (hcs : cells ≤ room_1.cells ∧ slots ≤ room_1.slots) (hS : SI P n h) (hJ : JI P) (ht : P 16 ≤ 10000) (w : CW G s A H locs b P n h) (hl : lv_has ls 14 [(6, .int (nI (toldF P))), (5, .int (nI (P 8))), (4, .int y), (3, .int x), (2, .int (nI u)), (1, .ref b), (0, .ref sb)]) (kk : ∀ (P' : Nat → Nat) (n' : Nat) (h' : Nat → Nat → Nat) (d : Nat) (H : Heap) (locs : List Loc) (ls : Array Slot), SI P' n' h' → JI P' → P' 16 ≤ P 16 + 200 → d ≤ toldF P' → CW G s A H locs b P' n' h' → lv_has ls 14 [(6, .int (nI d)), (4, .int y), (3, .int x), (2, .int (nI u)), (1, .ref b), (0, .ref sb)] → W p l e room_1 s m args below meth c H locs cells slots Q (F0 m 862 ls [])) : W p l e room_1 s m args below meth c H locs cells slots Q (F0 m 357 ls []) := by
  have hf := fine_law a1 a2 a3 q0 v0 q1 v1 q2 v2
  have hI := hS.1
  obtain ⟨f8, f14, ft1, ft2, ft3, fd1, fd2, fd3, fw1, fw2, fw3, fb1, fb2, fb3, fb4, fb5, fb6, fc1, fc2, fc3, fc4, fn5, fs1, fs2⟩ := S_facts hS hJ
  refine lv_iload F.1 F.2.1 dL_law_357 (lv_at hl 2 rfl) ?_
  refine lv_bipush (v := nI 8) F.1 F.2.1 dL_law_359 (by decide) ?_
  refine k_call0 (As := [.int y, .int (nI 8)]) (rest := []) hf hX F w ((c_L_low l G y (n := 8) (by decide)).toX) ((gL_law_L_low).tr lw_in) rfl (nA0 := 2) (by decide +kernel) rfl ⟨Nat.le_of_ble_eq_true rfl, Nat.le_of_ble_eq_true rfl⟩ hcs hl rfl (Nat.le_of_ble_eq_true rfl) dL_law_361 (fun r H locs hr w => ?_)
  subst hr
  have z361 := lowF_lt y (n := 8) (by decide)
  refine lv_istore (lv' := [(8, .int (nI (lowF y 8))), (6, .int (nI (toldF P))), (5, .int (nI (P 8))), (4, .int y), (3, .int x), (2, .int (nI u)), (1, .ref b), (0, .ref sb)]) F.1 F.2.1 dL_law_364 hl (by decide) rfl (fun ls hl => ?_)
  have L525 : ∀ (v : Nat), ((lowF y 8 = 0 ∧ v ≤ 200) ∨ (lowF y 8 = 1 ∧ 10 ≤ v ∧ v ≤ 200) ∨ (lowF y 8 = 2 ∧ 100 ≤ v ∧ v ≤ 20000) ∨ (lowF y 8 = 3 ∧ 1 ≤ v ∧ v ≤ 500) ∨ (lowF y 8 = 4 ∧ 50 ≤ v ∧ v ≤ 5000) ∨ (lowF y 8 = 5 ∧ 5 ≤ v ∧ v ≤ 200) ∨ (lowF y 8 = 6 ∧ 50 ≤ v ∧ v ≤ 5000) ∨ (lowF y 8 = 7 ∧ v ≤ 50)) → ∀ (H : Heap) (locs : List Loc), CW G s A H locs b P n h → ∀ ls : Array Slot, lv_has ls 14 [(9, .int (nI v)), (8, .int (nI (lowF y 8))), (6, .int (nI (toldF P))), (5, .int (nI (P 8))), (4, .int y), (3, .int x), (2, .int (nI u)), (1, .ref b), (0, .ref sb)] → W p l e room_1 s m args below meth c H locs cells slots Q (F0 m 525 ls []) := by
    intro v hv H locs w ls hl
    obtain ⟨hv1, hv2, hv3⟩ := rngF hv
    have hw : lowF y 8 < 8 := z361
    have hI' := set_inv hI hw (set_ok P hw hv1 hv2 hI.2.1)
    have hS' : SI (up P (lowF y 8) v) (sizeN n) (recH h n P) := SI_rec hS hI'
    have hS2 : SI P (sizeN n - 1) (recH h n P) := SI_undo hS hI
    have hJ' : JI (up P (lowF y 8) v) := set_J hI hJ hw
    have y0 : (up P (lowF y 8) v) (lowF y 8) = v := up_s _ _ _
    have y16 : (up P (lowF y 8) v) 16 = P 16 := up_n _ _ (by omega)
    have yd : toldF (up P (lowF y 8) v) = toldF P := set_told hI.1.1 hw
    have yb := set_le hI.2.1 hw
    have z4 := hS'.2.2.2.1
    refine lv_aload_n F.1 F.2.1 dL_law_525 rfl (lv_at hl 7 rfl) ?_
    refine lv_iload F.1 F.2.1 dL_law_526 (lv_at hl 1 rfl) ?_
    refine k_call (As := [.int (nI (lowF y 8))]) (rest := []) hf hX F w (k_count l G a1 a2 a3 q0 v0 q1 v1 q2 v2 hS (a_cset (by omega))) ((gL_law_X7_count).tr lw_in) rfl (nA0 := 1) (by decide +kernel) rfl ⟨Nat.le_of_ble_eq_true rfl, Nat.le_of_ble_eq_true rfl⟩ hcs hl rfl (Nat.le_of_ble_eq_true rfl) dL_law_528 (fun H locs w => ?_)
    refine lv_istore (lv' := [(10, .int (nI (P (lowF y 8)))), (9, .int (nI v)), (8, .int (nI (lowF y 8))), (6, .int (nI (toldF P))), (5, .int (nI (P 8))), (4, .int y), (3, .int x), (2, .int (nI u)), (1, .ref b), (0, .ref sb)]) F.1 F.2.1 dL_law_531 hl (by decide) rfl (fun ls hl => ?_)
    refine lv_aload_n F.1 F.2.1 dL_law_533 rfl (lv_at hl 8 rfl) ?_
    refine lv_iload F.1 F.2.1 dL_law_534 (lv_at hl 2 rfl) ?_
    refine lv_iload F.1 F.2.1 dL_law_536 (lv_at hl 1 rfl) ?_
    refine k_call (As := [.int (nI (lowF y 8)), .int (nI v)]) (rest := []) hf hX F w (k_setN l G a1 a2 a3 q0 v0 q1 v1 q2 v2 hS (w0 := lowF y 8) (u1 := v) hw hv1 hv2) ((gL_law_X7_set).tr lw_in) rfl (nA0 := 2) (by decide +kernel) rfl ⟨Nat.le_of_ble_eq_true rfl, Nat.le_of_ble_eq_true rfl⟩ hcs hl rfl (Nat.le_of_ble_eq_true rfl) dL_law_538 (fun H locs w => ?_)
    refine lv_iload F.1 F.2.1 dL_law_541 (lv_at hl 0 rfl) ?_
    refine r_cne (tgt := 587) F dL_law_543 (by decide) (by omega) (by omega) (fun c543 => by exfalso; omega) (fun c543 => ?_)
    refine lv_aload_n F.1 F.2.1 dL_law_546 rfl (lv_at hl 8 rfl) ?_
    refine lv_iload F.1 F.2.1 dL_law_547 (lv_at hl 2 rfl) ?_
    refine k_call (As := [.int (nI (lowF y 8))]) (rest := []) hf hX F w (k_count l G a1 a2 a3 q0 v0 q1 v1 q2 v2 hS' (a_cset (by omega))) ((gL_law_X7_count).tr lw_in) rfl (nA0 := 1) (by decide +kernel) rfl ⟨Nat.le_of_ble_eq_true rfl, Nat.le_of_ble_eq_true rfl⟩ hcs hl rfl (Nat.le_of_ble_eq_true rfl) dL_law_549 (fun H locs w => ?_)
    refine lv_iload F.1 F.2.1 dL_law_552 (lv_at hl 1 rfl) ?_
    refine r_cne (tgt := 587) F dL_law_554 (by decide) (by omega) (by omega) (fun c554 => by exfalso; omega) (fun c554 => ?_)
    refine lv_iload F.1 F.2.1 dL_law_557 (lv_at hl 5 rfl) ?_
    refine lv_bipush (v := nI 14) F.1 F.2.1 dL_law_559 (by decide) ?_
    refine lv_ishr F.1 F.2.1 dL_law_561 ?_
    refine lv_iconst (v := nI 4) F.1 F.2.1 dL_law_562 (by decide) ?_
    refine k_call0 (As := [.int (y >>> (nI 14 &&& 31)), .int (nI 4)]) (rest := []) hf hX F w ((c_L_low l G (y >>> (nI 14 &&& 31)) (n := 4) (by decide)).toX) ((gL_law_L_low).tr lw_in) rfl (nA0 := 2) (by decide +kernel) rfl ⟨Nat.le_of_ble_eq_true rfl, Nat.le_of_ble_eq_true rfl⟩ hcs hl rfl (Nat.le_of_ble_eq_true rfl) dL_law_563 (fun r H locs hr w => ?_)
    subst hr
    have z563 := lowF_lt (y >>> (nI 14 &&& 31)) (n := 4) (by decide)
    refine r_zne (tgt := 589) F dL_law_566 (by decide) (by omega) (fun c566 => ?_) (fun c566 => ?_)
    · skip
      refine lv_goto (tgt := 862) F.1 F.2.1 dL_law_589 (by decide) ?_
      exact kk _ _ _ (toldF P) H locs ls hS' hJ' (by omega) (by omega) w (lv_sub hl [3, 5, 6, 7, 8, 9] rfl)
    · skip
      refine lv_aload_n F.1 F.2.1 dL_law_569 rfl (lv_at hl 8 rfl) ?_
      refine k_call (As := []) (rest := []) hf hX F w (k_back l G a1 a2 a3 q0 v0 q1 v1 q2 v2 hS hI') ((gL_law_X7_undo).tr lw_in) rfl (nA0 := 0) (by decide +kernel) rfl ⟨Nat.le_of_ble_eq_true rfl, Nat.le_of_ble_eq_true rfl⟩ hcs hl rfl (Nat.le_of_ble_eq_true rfl) dL_law_570 (fun H locs w => ?_)
      refine r_zlt (tgt := 587) F dL_law_573 (by decide) (by omega) ?_
      refine lv_aload_n F.1 F.2.1 dL_law_576 rfl (lv_at hl 8 rfl) ?_
      refine lv_iload F.1 F.2.1 dL_law_577 (lv_at hl 2 rfl) ?_
      refine k_call (As := [.int (nI (lowF y 8))]) (rest := []) hf hX F w (k_count l G a1 a2 a3 q0 v0 q1 v1 q2 v2 hS2 (a_cset (by omega))) ((gL_law_X7_count).tr lw_in) rfl (nA0 := 1) (by decide +kernel) rfl ⟨Nat.le_of_ble_eq_true rfl, Nat.le_of_ble_eq_true rfl⟩ hcs hl rfl (Nat.le_of_ble_eq_true rfl) dL_law_579 (fun H locs w => ?_)
      refine lv_iload F.1 F.2.1 dL_law_582 (lv_at hl 0 rfl) ?_
      refine r_ceq (tgt := 589) F dL_law_584 (by decide) (by omega) (by omega) (fun c584 => ?_) (fun c584 => by exfalso; omega)
      refine lv_goto (tgt := 862) F.1 F.2.1 dL_law_589 (by decide) ?_
      exact kk _ _ _ (toldF P) H locs ls hS2 hJ (by omega) (by omega) w (lv_sub hl [3, 5, 6, 7, 8, 9] rfl)
  refine lv_iload F.1 F.2.1 dL_law_366 (lv_at hl 0 rfl) ?_
  refine r_zne (tgt := 384) F dL_law_368 (by decide) (by omega) (fun c368 => ?_) (fun c368 => ?_)
  · skip
    refine lv_iload F.1 F.2.1 dL_law_384 (lv_at hl 0 rfl) ?_
    refine lv_iconst (v := nI 1) F.1 F.2.1 dL_law_386 (by decide) ?_
    refine r_cne (tgt := 406) F dL_law_387 (by decide) (by omega) (by decide) (fun c387 => ?_) (fun c387 => ?_)
    · skip
      refine lv_iload F.1 F.2.1 dL_law_406 (lv_at hl 0 rfl) ?_
      refine lv_iconst (v := nI 2) F.1 F.2.1 dL_law_408 (by decide) ?_
      refine r_cne (tgt := 428) F dL_law_409 (by decide) (by omega) (by decide) (fun c409 => ?_) (fun c409 => ?_)
      · skip
        refine lv_iload F.1 F.2.1 dL_law_428 (lv_at hl 0 rfl) ?_
        refine lv_iconst (v := nI 3) F.1 F.2.1 dL_law_430 (by decide) ?_
        refine r_cne (tgt := 449) F dL_law_431 (by decide) (by omega) (by decide) (fun c431 => ?_) (fun c431 => ?_)
        · skip
          refine lv_iload F.1 F.2.1 dL_law_449 (lv_at hl 0 rfl) ?_
          refine lv_iconst (v := nI 4) F.1 F.2.1 dL_law_451 (by decide) ?_
          refine r_cne (tgt := 471) F dL_law_452 (by decide) (by omega) (by decide) (fun c452 => ?_) (fun c452 => ?_)
          · skip
            refine lv_iload F.1 F.2.1 dL_law_471 (lv_at hl 0 rfl) ?_
            refine lv_iconst (v := nI 5) F.1 F.2.1 dL_law_473 (by decide) ?_
            refine r_cne (tgt := 491) F dL_law_474 (by decide) (by omega) (by decide) (fun c474 => ?_) (fun c474 => ?_)
            · skip
              refine lv_iload F.1 F.2.1 dL_law_491 (lv_at hl 0 rfl) ?_
              refine lv_bipush (v := nI 6) F.1 F.2.1 dL_law_493 (by decide) ?_
              refine r_cne (tgt := 514) F dL_law_495 (by decide) (by omega) (by decide) (fun c495 => ?_) (fun c495 => ?_)
              · skip
                refine lv_iload F.1 F.2.1 dL_law_514 (lv_at hl 3 rfl) ?_
                refine lv_iconst (v := nI 3) F.1 F.2.1 dL_law_516 (by decide) ?_
                refine lv_ishr F.1 F.2.1 dL_law_517 ?_
                refine lv_bipush (v := nI 8) F.1 F.2.1 dL_law_518 (by decide) ?_
                refine k_call0 (As := [.int (y >>> (nI 3 &&& 31)), .int (nI 8)]) (rest := []) hf hX F w ((c_L_low l G (y >>> (nI 3 &&& 31)) (n := 8) (by decide)).toX) ((gL_law_L_low).tr lw_in) rfl (nA0 := 2) (by decide +kernel) rfl ⟨Nat.le_of_ble_eq_true rfl, Nat.le_of_ble_eq_true rfl⟩ hcs hl rfl (Nat.le_of_ble_eq_true rfl) dL_law_520 (fun r H locs hr w => ?_)
                subst hr
                have z520 := lowF_lt (y >>> (nI 3 &&& 31)) (n := 8) (by decide)
                refine lv_istore (lv' := [(9, .int (nI (lowF (y >>> (nI 3 &&& 31)) 8))), (8, .int (nI (lowF y 8))), (6, .int (nI (toldF P))), (5, .int (nI (P 8))), (4, .int y), (3, .int x), (2, .int (nI u)), (1, .ref b), (0, .ref sb)]) F.1 F.2.1 dL_law_523 hl (by decide) rfl (fun ls hl => ?_)
                exact L525 (lowF (y >>> (nI 3 &&& 31)) 8) (by omega) H locs w ls (lv_sub hl [0, 1, 2, 3, 4, 5, 6, 7, 8] rfl)
              · skip
                refine lv_bipush (v := nI 50) F.1 F.2.1 dL_law_498 (by decide) ?_
                refine lv_iload F.1 F.2.1 dL_law_500 (lv_at hl 3 rfl) ?_
                refine lv_iconst (v := nI 3) F.1 F.2.1 dL_law_502 (by decide) ?_
                refine lv_ishr F.1 F.2.1 dL_law_503 ?_
                refine lv_sipush (v := nI 800) F.1 F.2.1 dL_law_504 (by decide) ?_
                refine k_call0 (As := [.int (y >>> (nI 3 &&& 31)), .int (nI 800)]) (rest := [.int (nI 50)]) hf hX F w ((c_L_low l G (y >>> (nI 3 &&& 31)) (n := 800) (by decide)).toX) ((gL_law_L_low).tr lw_in) rfl (nA0 := 2) (by decide +kernel) rfl ⟨Nat.le_of_ble_eq_true rfl, Nat.le_of_ble_eq_true rfl⟩ hcs hl rfl (Nat.le_of_ble_eq_true rfl) dL_law_507 (fun r H locs hr w => ?_)
                subst hr
                have z507 := lowF_lt (y >>> (nI 3 &&& 31)) (n := 800) (by decide)
                refine r_iadd F dL_law_510 ?_
                refine lv_goto (tgt := 523) F.1 F.2.1 dL_law_511 (by decide) ?_
                refine lv_istore (lv' := [(9, .int (nI (50 + (lowF (y >>> (nI 3 &&& 31)) 800)))), (8, .int (nI (lowF y 8))), (6, .int (nI (toldF P))), (5, .int (nI (P 8))), (4, .int y), (3, .int x), (2, .int (nI u)), (1, .ref b), (0, .ref sb)]) F.1 F.2.1 dL_law_523 hl (by decide) rfl (fun ls hl => ?_)
                exact L525 (50 + (lowF (y >>> (nI 3 &&& 31)) 800)) (by omega) H locs w ls (lv_sub hl [0, 1, 2, 3, 4, 5, 6, 7, 8] rfl)
            · skip
              refine lv_iconst (v := nI 5) F.1 F.2.1 dL_law_477 (by decide) ?_
              refine lv_iload F.1 F.2.1 dL_law_478 (lv_at hl 3 rfl) ?_
              refine lv_iconst (v := nI 3) F.1 F.2.1 dL_law_480 (by decide) ?_
              refine lv_ishr F.1 F.2.1 dL_law_481 ?_
              refine lv_bipush (v := nI 50) F.1 F.2.1 dL_law_482 (by decide) ?_
              refine k_call0 (As := [.int (y >>> (nI 3 &&& 31)), .int (nI 50)]) (rest := [.int (nI 5)]) hf hX F w ((c_L_low l G (y >>> (nI 3 &&& 31)) (n := 50) (by decide)).toX) ((gL_law_L_low).tr lw_in) rfl (nA0 := 2) (by decide +kernel) rfl ⟨Nat.le_of_ble_eq_true rfl, Nat.le_of_ble_eq_true rfl⟩ hcs hl rfl (Nat.le_of_ble_eq_true rfl) dL_law_484 (fun r H locs hr w => ?_)
              subst hr
              have z484 := lowF_lt (y >>> (nI 3 &&& 31)) (n := 50) (by decide)
              refine r_iadd F dL_law_487 ?_
              refine lv_goto (tgt := 523) F.1 F.2.1 dL_law_488 (by decide) ?_
              refine lv_istore (lv' := [(9, .int (nI (5 + (lowF (y >>> (nI 3 &&& 31)) 50)))), (8, .int (nI (lowF y 8))), (6, .int (nI (toldF P))), (5, .int (nI (P 8))), (4, .int y), (3, .int x), (2, .int (nI u)), (1, .ref b), (0, .ref sb)]) F.1 F.2.1 dL_law_523 hl (by decide) rfl (fun ls hl => ?_)
              exact L525 (5 + (lowF (y >>> (nI 3 &&& 31)) 50)) (by omega) H locs w ls (lv_sub hl [0, 1, 2, 3, 4, 5, 6, 7, 8] rfl)
          · skip
            refine lv_bipush (v := nI 50) F.1 F.2.1 dL_law_455 (by decide) ?_
            refine lv_iload F.1 F.2.1 dL_law_457 (lv_at hl 3 rfl) ?_
            refine lv_iconst (v := nI 3) F.1 F.2.1 dL_law_459 (by decide) ?_
            refine lv_ishr F.1 F.2.1 dL_law_460 ?_
            refine lv_sipush (v := nI 300) F.1 F.2.1 dL_law_461 (by decide) ?_
            refine k_call0 (As := [.int (y >>> (nI 3 &&& 31)), .int (nI 300)]) (rest := [.int (nI 50)]) hf hX F w ((c_L_low l G (y >>> (nI 3 &&& 31)) (n := 300) (by decide)).toX) ((gL_law_L_low).tr lw_in) rfl (nA0 := 2) (by decide +kernel) rfl ⟨Nat.le_of_ble_eq_true rfl, Nat.le_of_ble_eq_true rfl⟩ hcs hl rfl (Nat.le_of_ble_eq_true rfl) dL_law_464 (fun r H locs hr w => ?_)
            subst hr
            have z464 := lowF_lt (y >>> (nI 3 &&& 31)) (n := 300) (by decide)
            refine r_iadd F dL_law_467 ?_
            refine lv_goto (tgt := 523) F.1 F.2.1 dL_law_468 (by decide) ?_
            refine lv_istore (lv' := [(9, .int (nI (50 + (lowF (y >>> (nI 3 &&& 31)) 300)))), (8, .int (nI (lowF y 8))), (6, .int (nI (toldF P))), (5, .int (nI (P 8))), (4, .int y), (3, .int x), (2, .int (nI u)), (1, .ref b), (0, .ref sb)]) F.1 F.2.1 dL_law_523 hl (by decide) rfl (fun ls hl => ?_)
            exact L525 (50 + (lowF (y >>> (nI 3 &&& 31)) 300)) (by omega) H locs w ls (lv_sub hl [0, 1, 2, 3, 4, 5, 6, 7, 8] rfl)
        · skip
          refine lv_iconst (v := nI 1) F.1 F.2.1 dL_law_434 (by decide) ?_
          refine lv_iload F.1 F.2.1 dL_law_435 (lv_at hl 3 rfl) ?_
          refine lv_iconst (v := nI 3) F.1 F.2.1 dL_law_437 (by decide) ?_
          refine lv_ishr F.1 F.2.1 dL_law_438 ?_
          refine lv_sipush (v := nI 200) F.1 F.2.1 dL_law_439 (by decide) ?_
          refine k_call0 (As := [.int (y >>> (nI 3 &&& 31)), .int (nI 200)]) (rest := [.int (nI 1)]) hf hX F w ((c_L_low l G (y >>> (nI 3 &&& 31)) (n := 200) (by decide)).toX) ((gL_law_L_low).tr lw_in) rfl (nA0 := 2) (by decide +kernel) rfl ⟨Nat.le_of_ble_eq_true rfl, Nat.le_of_ble_eq_true rfl⟩ hcs hl rfl (Nat.le_of_ble_eq_true rfl) dL_law_442 (fun r H locs hr w => ?_)
          subst hr
          have z442 := lowF_lt (y >>> (nI 3 &&& 31)) (n := 200) (by decide)
          refine r_iadd F dL_law_445 ?_
          refine lv_goto (tgt := 523) F.1 F.2.1 dL_law_446 (by decide) ?_
          refine lv_istore (lv' := [(9, .int (nI (1 + (lowF (y >>> (nI 3 &&& 31)) 200)))), (8, .int (nI (lowF y 8))), (6, .int (nI (toldF P))), (5, .int (nI (P 8))), (4, .int y), (3, .int x), (2, .int (nI u)), (1, .ref b), (0, .ref sb)]) F.1 F.2.1 dL_law_523 hl (by decide) rfl (fun ls hl => ?_)
          exact L525 (1 + (lowF (y >>> (nI 3 &&& 31)) 200)) (by omega) H locs w ls (lv_sub hl [0, 1, 2, 3, 4, 5, 6, 7, 8] rfl)
      · skip
        refine lv_bipush (v := nI 100) F.1 F.2.1 dL_law_412 (by decide) ?_
        refine lv_iload F.1 F.2.1 dL_law_414 (lv_at hl 3 rfl) ?_
        refine lv_iconst (v := nI 3) F.1 F.2.1 dL_law_416 (by decide) ?_
        refine lv_ishr F.1 F.2.1 dL_law_417 ?_
        refine lv_sipush (v := nI 3000) F.1 F.2.1 dL_law_418 (by decide) ?_
        refine k_call0 (As := [.int (y >>> (nI 3 &&& 31)), .int (nI 3000)]) (rest := [.int (nI 100)]) hf hX F w ((c_L_low l G (y >>> (nI 3 &&& 31)) (n := 3000) (by decide)).toX) ((gL_law_L_low).tr lw_in) rfl (nA0 := 2) (by decide +kernel) rfl ⟨Nat.le_of_ble_eq_true rfl, Nat.le_of_ble_eq_true rfl⟩ hcs hl rfl (Nat.le_of_ble_eq_true rfl) dL_law_421 (fun r H locs hr w => ?_)
        subst hr
        have z421 := lowF_lt (y >>> (nI 3 &&& 31)) (n := 3000) (by decide)
        refine r_iadd F dL_law_424 ?_
        refine lv_goto (tgt := 523) F.1 F.2.1 dL_law_425 (by decide) ?_
        refine lv_istore (lv' := [(9, .int (nI (100 + (lowF (y >>> (nI 3 &&& 31)) 3000)))), (8, .int (nI (lowF y 8))), (6, .int (nI (toldF P))), (5, .int (nI (P 8))), (4, .int y), (3, .int x), (2, .int (nI u)), (1, .ref b), (0, .ref sb)]) F.1 F.2.1 dL_law_523 hl (by decide) rfl (fun ls hl => ?_)
        exact L525 (100 + (lowF (y >>> (nI 3 &&& 31)) 3000)) (by omega) H locs w ls (lv_sub hl [0, 1, 2, 3, 4, 5, 6, 7, 8] rfl)
    · skip
      refine lv_bipush (v := nI 10) F.1 F.2.1 dL_law_390 (by decide) ?_
      refine lv_iload F.1 F.2.1 dL_law_392 (lv_at hl 3 rfl) ?_
      refine lv_iconst (v := nI 3) F.1 F.2.1 dL_law_394 (by decide) ?_
      refine lv_ishr F.1 F.2.1 dL_law_395 ?_
      refine lv_sipush (v := nI 191) F.1 F.2.1 dL_law_396 (by decide) ?_
      refine k_call0 (As := [.int (y >>> (nI 3 &&& 31)), .int (nI 191)]) (rest := [.int (nI 10)]) hf hX F w ((c_L_low l G (y >>> (nI 3 &&& 31)) (n := 191) (by decide)).toX) ((gL_law_L_low).tr lw_in) rfl (nA0 := 2) (by decide +kernel) rfl ⟨Nat.le_of_ble_eq_true rfl, Nat.le_of_ble_eq_true rfl⟩ hcs hl rfl (Nat.le_of_ble_eq_true rfl) dL_law_399 (fun r H locs hr w => ?_)
      subst hr
      have z399 := lowF_lt (y >>> (nI 3 &&& 31)) (n := 191) (by decide)
      refine r_iadd F dL_law_402 ?_
      refine lv_goto (tgt := 523) F.1 F.2.1 dL_law_403 (by decide) ?_
      refine lv_istore (lv' := [(9, .int (nI (10 + (lowF (y >>> (nI 3 &&& 31)) 191)))), (8, .int (nI (lowF y 8))), (6, .int (nI (toldF P))), (5, .int (nI (P 8))), (4, .int y), (3, .int x), (2, .int (nI u)), (1, .ref b), (0, .ref sb)]) F.1 F.2.1 dL_law_523 hl (by decide) rfl (fun ls hl => ?_)
      exact L525 (10 + (lowF (y >>> (nI 3 &&& 31)) 191)) (by omega) H locs w ls (lv_sub hl [0, 1, 2, 3, 4, 5, 6, 7, 8] rfl)
  · skip
    refine lv_iload F.1 F.2.1 dL_law_371 (lv_at hl 3 rfl) ?_
    refine lv_iconst (v := nI 3) F.1 F.2.1 dL_law_373 (by decide) ?_
    refine lv_ishr F.1 F.2.1 dL_law_374 ?_
    refine lv_sipush (v := nI 201) F.1 F.2.1 dL_law_375 (by decide) ?_
    refine k_call0 (As := [.int (y >>> (nI 3 &&& 31)), .int (nI 201)]) (rest := []) hf hX F w ((c_L_low l G (y >>> (nI 3 &&& 31)) (n := 201) (by decide)).toX) ((gL_law_L_low).tr lw_in) rfl (nA0 := 2) (by decide +kernel) rfl ⟨Nat.le_of_ble_eq_true rfl, Nat.le_of_ble_eq_true rfl⟩ hcs hl rfl (Nat.le_of_ble_eq_true rfl) dL_law_378 (fun r H locs hr w => ?_)
    subst hr
    have z378 := lowF_lt (y >>> (nI 3 &&& 31)) (n := 201) (by decide)
    refine lv_goto (tgt := 523) F.1 F.2.1 dL_law_381 (by decide) ?_
    refine lv_istore (lv' := [(9, .int (nI (lowF (y >>> (nI 3 &&& 31)) 201))), (8, .int (nI (lowF y 8))), (6, .int (nI (toldF P))), (5, .int (nI (P 8))), (4, .int y), (3, .int x), (2, .int (nI u)), (1, .ref b), (0, .ref sb)]) F.1 F.2.1 dL_law_523 hl (by decide) rfl (fun ls hl => ?_)
    exact L525 (lowF (y >>> (nI 3 &&& 31)) 201) (by omega) H locs w ls (lv_sub hl [0, 1, 2, 3, 4, 5, 6, 7, 8] rfl)
set_option maxRecDepth 100000 in
set_option maxHeartbeats 8000000 in
theorem lc_clean (a1 a2 a3 q0 v0 q1 v1 q2 v2 : Nat) (F : Fx p s m args meth c cL_law 14 RL lw_tbl ret) (hX : lawX a1 a2 a3 q0 v0 q1 v1 q2 v2 A s s.heap) (hcs : cells ≤ room_1.cells ∧ slots ≤ room_1.slots) (hS : SI P n h) (hJ : JI P) (ht : P 16 ≤ 10000) (w : CW G s A H locs b P n h) (hl : lv_has ls 14 [(6, .int (nI (toldF P))), (5, .int (nI (P 8))), (4, .int y), (3, .int x), (2, .int (nI u)), (1, .ref b), (0, .ref sb)]) (kk : ∀ (P' : Nat → Nat) (n' : Nat) (h' : Nat → Nat → Nat) (d : Nat) (H : Heap) (locs : List Loc) (ls : Array Slot), SI P' n' h' → JI P' → P' 16 ≤ P 16 + 200 → d ≤ toldF P' → CW G s A H locs b P' n' h' → lv_has ls 14 [(6, .int (nI d)), (4, .int y), (3, .int x), (2, .int (nI u)), (1, .ref b), (0, .ref sb)] → W p l e room_1 s m args below meth c H locs cells slots Q (F0 m 862 ls [])) : W p l e room_1 s m args below meth c H locs cells slots Q (F0 m 598 ls []) := by
  have hf := fine_law a1 a2 a3 q0 v0 q1 v1 q2 v2
  have hI := hS.1
  obtain ⟨f8, f14, ft1, ft2, ft3, fd1, fd2, fd3, fw1, fw2, fw3, fb1, fb2, fb3, fb4, fb5, fb6, fc1, fc2, fc3, fc4, fn5, fs1, fs2⟩ := S_facts hS hJ
  refine lv_iload F.1 F.2.1 dL_law_598 (lv_at hl 2 rfl) ?_
  refine lv_iconst (v := nI 4) F.1 F.2.1 dL_law_600 (by decide) ?_
  refine k_call0 (As := [.int y, .int (nI 4)]) (rest := []) hf hX F w ((c_L_low l G y (n := 4) (by decide)).toX) ((gL_law_L_low).tr lw_in) rfl (nA0 := 2) (by decide +kernel) rfl ⟨Nat.le_of_ble_eq_true rfl, Nat.le_of_ble_eq_true rfl⟩ hcs hl rfl (Nat.le_of_ble_eq_true rfl) dL_law_601 (fun r H locs hr w => ?_)
  subst hr
  have z601 := lowF_lt y (n := 4) (by decide)
  refine lv_istore (lv' := [(8, .int (nI (lowF y 4))), (6, .int (nI (toldF P))), (5, .int (nI (P 8))), (4, .int y), (3, .int x), (2, .int (nI u)), (1, .ref b), (0, .ref sb)]) F.1 F.2.1 dL_law_604 hl (by decide) rfl (fun ls hl => ?_)
  obtain ⟨fl0, fl1, fl2, fl3, fl4⟩ := L_facts hS hJ (i := lowF y 4) z601
  refine lv_aload_n F.1 F.2.1 dL_law_606 rfl (lv_at hl 6 rfl) ?_
  refine lv_iload F.1 F.2.1 dL_law_607 (lv_at hl 0 rfl) ?_
  refine lv_iconst (v := nI 0) F.1 F.2.1 dL_law_609 (by decide) ?_
  refine k_call (As := [.int (nI (lowF y 4)), .int (nI 0)]) (rest := []) hf hX F w (k_line l G a1 a2 a3 q0 v0 q1 v1 q2 v2 hS (a_l0 (i := lowF y 4) (by omega))) ((gL_law_X7_line).tr lw_in) rfl (nA0 := 2) (by decide +kernel) rfl ⟨Nat.le_of_ble_eq_true rfl, Nat.le_of_ble_eq_true rfl⟩ hcs hl rfl (Nat.le_of_ble_eq_true rfl) dL_law_610 (fun H locs w => ?_)
  refine lv_istore (lv' := [(9, .int (nI (P (26 + 5 * (lowF y 4))))), (8, .int (nI (lowF y 4))), (6, .int (nI (toldF P))), (5, .int (nI (P 8))), (4, .int y), (3, .int x), (2, .int (nI u)), (1, .ref b), (0, .ref sb)]) F.1 F.2.1 dL_law_613 hl (by decide) rfl (fun ls hl => ?_)
  refine lv_aload_n F.1 F.2.1 dL_law_615 rfl (lv_at hl 7 rfl) ?_
  refine lv_iload F.1 F.2.1 dL_law_616 (lv_at hl 1 rfl) ?_
  refine lv_iconst (v := nI 1) F.1 F.2.1 dL_law_618 (by decide) ?_
  refine k_call (As := [.int (nI (lowF y 4)), .int (nI 1)]) (rest := []) hf hX F w (k_line l G a1 a2 a3 q0 v0 q1 v1 q2 v2 hS (a_l1 (i := lowF y 4) (by omega))) ((gL_law_X7_line).tr lw_in) rfl (nA0 := 2) (by decide +kernel) rfl ⟨Nat.le_of_ble_eq_true rfl, Nat.le_of_ble_eq_true rfl⟩ hcs hl rfl (Nat.le_of_ble_eq_true rfl) dL_law_619 (fun H locs w => ?_)
  refine lv_istore (lv' := [(10, .int (nI (P (26 + 5 * (lowF y 4) + 1)))), (9, .int (nI (P (26 + 5 * (lowF y 4))))), (8, .int (nI (lowF y 4))), (6, .int (nI (toldF P))), (5, .int (nI (P 8))), (4, .int y), (3, .int x), (2, .int (nI u)), (1, .ref b), (0, .ref sb)]) F.1 F.2.1 dL_law_622 hl (by decide) rfl (fun ls hl => ?_)
  refine lv_aload_n F.1 F.2.1 dL_law_624 rfl (lv_at hl 8 rfl) ?_
  refine lv_iload F.1 F.2.1 dL_law_625 (lv_at hl 2 rfl) ?_
  refine lv_iconst (v := nI 3) F.1 F.2.1 dL_law_627 (by decide) ?_
  refine k_call (As := [.int (nI (lowF y 4)), .int (nI 3)]) (rest := []) hf hX F w (k_line l G a1 a2 a3 q0 v0 q1 v1 q2 v2 hS (a_l3 (i := lowF y 4) (by omega))) ((gL_law_X7_line).tr lw_in) rfl (nA0 := 2) (by decide +kernel) rfl ⟨Nat.le_of_ble_eq_true rfl, Nat.le_of_ble_eq_true rfl⟩ hcs hl rfl (Nat.le_of_ble_eq_true rfl) dL_law_628 (fun H locs w => ?_)
  refine lv_istore (lv' := [(11, .int (nI (P (26 + 5 * (lowF y 4) + 3)))), (10, .int (nI (P (26 + 5 * (lowF y 4) + 1)))), (9, .int (nI (P (26 + 5 * (lowF y 4))))), (8, .int (nI (lowF y 4))), (6, .int (nI (toldF P))), (5, .int (nI (P 8))), (4, .int y), (3, .int x), (2, .int (nI u)), (1, .ref b), (0, .ref sb)]) F.1 F.2.1 dL_law_631 hl (by decide) rfl (fun ls hl => ?_)
  by_cases hz : P (26 + 5 * (lowF y 4)) = 0
  · skip
    refine lv_aload_n F.1 F.2.1 dL_law_633 rfl (lv_at hl 9 rfl) ?_
    refine lv_iload F.1 F.2.1 dL_law_634 (lv_at hl 3 rfl) ?_
    refine k_call (As := [.int (nI (lowF y 4))]) (rest := []) hf hX F w (k_cleanZ l G a1 a2 a3 q0 v0 q1 v1 q2 v2 hS (w0 := lowF y 4) z601 hz) ((gL_law_X7_clean).tr lw_in) rfl (nA0 := 1) (by decide +kernel) rfl ⟨Nat.le_of_ble_eq_true rfl, Nat.le_of_ble_eq_true rfl⟩ hcs hl rfl (Nat.le_of_ble_eq_true rfl) dL_law_636 (fun H locs w => ?_)
    refine lv_iload F.1 F.2.1 dL_law_639 (lv_at hl 2 rfl) ?_
    refine lv_iconst (v := nI 1) F.1 F.2.1 dL_law_641 (by decide) ?_
    refine r_cne (tgt := 650) F dL_law_642 (by decide) (by omega) (by decide) (fun c642 => ?_) (fun c642 => by exfalso; omega)
    refine lv_bipush (v := (-2)) F.1 F.2.1 dL_law_650 (by decide) ?_
    refine lv_icmp_ne (tgt := 703) F.1 F.2.1 dL_law_652 (by decide) (fun q => absurd rfl q) (fun _ => ?_)
    refine lv_iload F.1 F.2.1 dL_law_655 (lv_at hl 2 rfl) ?_
    refine lv_iconst (v := nI 1) F.1 F.2.1 dL_law_657 (by decide) ?_
    refine r_cne (tgt := 691) F dL_law_658 (by decide) (by omega) (by decide) (fun c658 => ?_) (fun c658 => by exfalso; omega)
    refine lv_aload_n F.1 F.2.1 dL_law_691 rfl (lv_at hl 9 rfl) ?_
    refine lv_iload F.1 F.2.1 dL_law_692 (lv_at hl 3 rfl) ?_
    refine lv_iconst (v := nI 3) F.1 F.2.1 dL_law_694 (by decide) ?_
    refine k_call (As := [.int (nI (lowF y 4)), .int (nI 3)]) (rest := []) hf hX F w (k_line l G a1 a2 a3 q0 v0 q1 v1 q2 v2 hS (a_l3 (i := lowF y 4) (by omega))) ((gL_law_X7_line).tr lw_in) rfl (nA0 := 2) (by decide +kernel) rfl ⟨Nat.le_of_ble_eq_true rfl, Nat.le_of_ble_eq_true rfl⟩ hcs hl rfl (Nat.le_of_ble_eq_true rfl) dL_law_695 (fun H locs w => ?_)
    refine lv_iload F.1 F.2.1 dL_law_698 (lv_at hl 0 rfl) ?_
    refine r_ceq (tgt := 705) F dL_law_700 (by decide) (by omega) (by omega) (fun c700 => ?_) (fun c700 => by exfalso; omega)
    refine lv_goto (tgt := 862) F.1 F.2.1 dL_law_705 (by decide) ?_
    exact kk _ _ _ (toldF P) H locs ls hS hJ (by omega) (by omega) w (lv_sub hl [4, 6, 7, 8, 9, 10] rfl)
  · skip
    have hI' := cln_inv hI z601
    have hS' : SI (clnF P (lowF y 4)) (sizeN n) (recH h n P) := SI_rec hS hI'
    have hJ' := cln_J hI hJ z601
    have y0 := clnF_0 P (lowF y 4)
    have y1 := clnF_1 P (lowF y 4)
    have y2 := clnF_2 P (lowF y 4)
    have y3 : (clnF P (lowF y 4)) (26 + 5 * (lowF y 4) + 3) = P (26 + 5 * (lowF y 4) + 3) := clnF_o P _ (by omega)
    have y16 : (clnF P (lowF y 4)) 16 = P 16 := clnF_o P _ (by omega)
    have yd : toldF (clnF P (lowF y 4)) = toldF P := cln_told hI.1.1 z601
    refine lv_aload_n F.1 F.2.1 dL_law_633 rfl (lv_at hl 9 rfl) ?_
    refine lv_iload F.1 F.2.1 dL_law_634 (lv_at hl 3 rfl) ?_
    refine k_call (As := [.int (nI (lowF y 4))]) (rest := []) hf hX F w (k_cleanN l G a1 a2 a3 q0 v0 q1 v1 q2 v2 hS (w0 := lowF y 4) z601 hz) ((gL_law_X7_clean).tr lw_in) rfl (nA0 := 1) (by decide +kernel) rfl ⟨Nat.le_of_ble_eq_true rfl, Nat.le_of_ble_eq_true rfl⟩ hcs hl rfl (Nat.le_of_ble_eq_true rfl) dL_law_636 (fun H locs w => ?_)
    refine lv_iload F.1 F.2.1 dL_law_639 (lv_at hl 2 rfl) ?_
    refine lv_iconst (v := nI 1) F.1 F.2.1 dL_law_641 (by decide) ?_
    refine r_cne (tgt := 650) F dL_law_642 (by decide) (by omega) (by decide) (fun c642 => by exfalso; omega) (fun c642 => ?_)
    refine lv_iload F.1 F.2.1 dL_law_645 (lv_at hl 1 rfl) ?_
    refine lv_goto (tgt := 652) F.1 F.2.1 dL_law_647 (by decide) ?_
    refine r_cne (tgt := 703) F dL_law_652 (by decide) (by omega) (by omega) (fun c652 => by exfalso; omega) (fun c652 => ?_)
    refine lv_iload F.1 F.2.1 dL_law_655 (lv_at hl 2 rfl) ?_
    refine lv_iconst (v := nI 1) F.1 F.2.1 dL_law_657 (by decide) ?_
    refine r_cne (tgt := 691) F dL_law_658 (by decide) (by omega) (by decide) (fun c658 => by exfalso; omega) (fun c658 => ?_)
    refine lv_aload_n F.1 F.2.1 dL_law_661 rfl (lv_at hl 9 rfl) ?_
    refine lv_iload F.1 F.2.1 dL_law_662 (lv_at hl 3 rfl) ?_
    refine lv_iconst (v := nI 0) F.1 F.2.1 dL_law_664 (by decide) ?_
    refine k_call (As := [.int (nI (lowF y 4)), .int (nI 0)]) (rest := []) hf hX F w (k_line l G a1 a2 a3 q0 v0 q1 v1 q2 v2 hS' (a_l0 (i := lowF y 4) (by omega))) ((gL_law_X7_line).tr lw_in) rfl (nA0 := 2) (by decide +kernel) rfl ⟨Nat.le_of_ble_eq_true rfl, Nat.le_of_ble_eq_true rfl⟩ hcs hl rfl (Nat.le_of_ble_eq_true rfl) dL_law_665 (fun H locs w => ?_)
    refine r_zne (tgt := 703) F dL_law_668 (by decide) (by omega) (fun c668 => by exfalso; omega) (fun c668 => ?_)
    refine lv_aload_n F.1 F.2.1 dL_law_671 rfl (lv_at hl 9 rfl) ?_
    refine lv_iload F.1 F.2.1 dL_law_672 (lv_at hl 3 rfl) ?_
    refine lv_iconst (v := nI 1) F.1 F.2.1 dL_law_674 (by decide) ?_
    refine k_call (As := [.int (nI (lowF y 4)), .int (nI 1)]) (rest := []) hf hX F w (k_line l G a1 a2 a3 q0 v0 q1 v1 q2 v2 hS' (a_l1 (i := lowF y 4) (by omega))) ((gL_law_X7_line).tr lw_in) rfl (nA0 := 2) (by decide +kernel) rfl ⟨Nat.le_of_ble_eq_true rfl, Nat.le_of_ble_eq_true rfl⟩ hcs hl rfl (Nat.le_of_ble_eq_true rfl) dL_law_675 (fun H locs w => ?_)
    refine r_zne (tgt := 703) F dL_law_678 (by decide) (by omega) (fun c678 => by exfalso; omega) (fun c678 => ?_)
    refine lv_aload_n F.1 F.2.1 dL_law_681 rfl (lv_at hl 9 rfl) ?_
    refine lv_iload F.1 F.2.1 dL_law_682 (lv_at hl 3 rfl) ?_
    refine lv_iconst (v := nI 2) F.1 F.2.1 dL_law_684 (by decide) ?_
    refine k_call (As := [.int (nI (lowF y 4)), .int (nI 2)]) (rest := []) hf hX F w (k_line l G a1 a2 a3 q0 v0 q1 v1 q2 v2 hS' (a_l2 (i := lowF y 4) (by omega))) ((gL_law_X7_line).tr lw_in) rfl (nA0 := 2) (by decide +kernel) rfl ⟨Nat.le_of_ble_eq_true rfl, Nat.le_of_ble_eq_true rfl⟩ hcs hl rfl (Nat.le_of_ble_eq_true rfl) dL_law_685 (fun H locs w => ?_)
    refine r_zne (tgt := 703) F dL_law_688 (by decide) (by omega) (fun c688 => by exfalso; omega) (fun c688 => ?_)
    refine lv_aload_n F.1 F.2.1 dL_law_691 rfl (lv_at hl 9 rfl) ?_
    refine lv_iload F.1 F.2.1 dL_law_692 (lv_at hl 3 rfl) ?_
    refine lv_iconst (v := nI 3) F.1 F.2.1 dL_law_694 (by decide) ?_
    refine k_call (As := [.int (nI (lowF y 4)), .int (nI 3)]) (rest := []) hf hX F w (k_line l G a1 a2 a3 q0 v0 q1 v1 q2 v2 hS' (a_l3 (i := lowF y 4) (by omega))) ((gL_law_X7_line).tr lw_in) rfl (nA0 := 2) (by decide +kernel) rfl ⟨Nat.le_of_ble_eq_true rfl, Nat.le_of_ble_eq_true rfl⟩ hcs hl rfl (Nat.le_of_ble_eq_true rfl) dL_law_695 (fun H locs w => ?_)
    refine lv_iload F.1 F.2.1 dL_law_698 (lv_at hl 0 rfl) ?_
    refine r_ceq (tgt := 705) F dL_law_700 (by decide) (by omega) (by omega) (fun c700 => ?_) (fun c700 => by exfalso; omega)
    refine lv_goto (tgt := 862) F.1 F.2.1 dL_law_705 (by decide) ?_
    exact kk _ _ _ (toldF P) H locs ls hS' hJ' (by omega) (by omega) w (lv_sub hl [4, 6, 7, 8, 9, 10] rfl)
set_option maxRecDepth 100000 in
set_option maxHeartbeats 8000000 in
theorem lc_renew (a1 a2 a3 q0 v0 q1 v1 q2 v2 : Nat) (F : Fx p s m args meth c cL_law 14 RL lw_tbl ret) (hX : lawX a1 a2 a3 q0 v0 q1 v1 q2 v2 A s s.heap) (hcs : cells ≤ room_1.cells ∧ slots ≤ room_1.slots) (hS : SI P n h) (hJ : JI P) (ht : P 16 ≤ 10000) (w : CW G s A H locs b P n h) (hl : lv_has ls 14 [(6, .int (nI (toldF P))), (5, .int (nI (P 8))), (4, .int y), (3, .int x), (2, .int (nI u)), (1, .ref b), (0, .ref sb)]) (kk : ∀ (P' : Nat → Nat) (n' : Nat) (h' : Nat → Nat → Nat) (d : Nat) (H : Heap) (locs : List Loc) (ls : Array Slot), SI P' n' h' → JI P' → P' 16 ≤ P 16 + 200 → d ≤ toldF P' → CW G s A H locs b P' n' h' → lv_has ls 14 [(6, .int (nI d)), (4, .int y), (3, .int x), (2, .int (nI u)), (1, .ref b), (0, .ref sb)] → W p l e room_1 s m args below meth c H locs cells slots Q (F0 m 862 ls [])) : W p l e room_1 s m args below meth c H locs cells slots Q (F0 m 724 ls []) := by
  have hf := fine_law a1 a2 a3 q0 v0 q1 v1 q2 v2
  have hI := hS.1
  obtain ⟨f8, f14, ft1, ft2, ft3, fd1, fd2, fd3, fw1, fw2, fw3, fb1, fb2, fb3, fb4, fb5, fb6, fc1, fc2, fc3, fc4, fn5, fs1, fs2⟩ := S_facts hS hJ
  have hI' := newF_inv hI
  have hS' : SI (newF P) (sizeN n) (recH h n P) := SI_rec hS hI'
  have hJ' := new_J P
  have y9 : newF P 9 = 0 := newF_zx P (by decide) (by decide)
  have y14 : newF P 14 = 0 := newF_zx P (by decide) (by decide)
  have y16 : newF P 16 = 0 := newF_zx P (by decide) (by decide)
  have y19 : newF P 19 = 0 := newF_zx P (by decide) (by decide)
  have y26 : newF P 26 = 0 := newF_zx P (by decide) (by decide)
  have y31 : newF P 31 = 0 := newF_zx P (by decide) (by decide)
  have y36 : newF P 36 = 0 := newF_zx P (by decide) (by decide)
  have y41 : newF P 41 = 0 := newF_zx P (by decide) (by decide)
  have yt : top (newF P) = top P := by
    show low (lnP (newF P)) (newF P 8) = low (lnP P) (P 8)
    rw [newF_o P (show (8 : Nat) < 9 ∨ 46 ≤ 8 from Or.inl (by decide))]
    exact low_congr (fun i _ => newF_o P (by omega))
  have yd := newF_told P
  have ys : stuckN (newF P) = newF P 26 + newF P 31 + newF P 36 + newF P 41 := rfl
  refine lv_aload_n F.1 F.2.1 dL_law_724 rfl (lv_at hl 5 rfl) ?_
  refine lv_bipush (v := nI 10) F.1 F.2.1 dL_law_725 (by decide) ?_
  refine k_call (As := [.int (nI 10)]) (rest := []) hf hX F w (k_count l G a1 a2 a3 q0 v0 q1 v1 q2 v2 hS a_c10) ((gL_law_X7_count).tr lw_in) rfl (nA0 := 1) (by decide +kernel) rfl ⟨Nat.le_of_ble_eq_true rfl, Nat.le_of_ble_eq_true rfl⟩ hcs hl rfl (Nat.le_of_ble_eq_true rfl) dL_law_727 (fun H locs w => ?_)
  refine lv_istore (lv' := [(8, .int (nI (P 9))), (6, .int (nI (toldF P))), (5, .int (nI (P 8))), (4, .int y), (3, .int x), (2, .int (nI u)), (1, .ref b), (0, .ref sb)]) F.1 F.2.1 dL_law_730 hl (by decide) rfl (fun ls hl => ?_)
  refine lv_aload_n F.1 F.2.1 dL_law_732 rfl (lv_at hl 6 rfl) ?_
  refine lv_bipush (v := nI 9) F.1 F.2.1 dL_law_733 (by decide) ?_
  refine k_call (As := [.int (nI 9)]) (rest := []) hf hX F w (k_count l G a1 a2 a3 q0 v0 q1 v1 q2 v2 hS a_c9) ((gL_law_X7_count).tr lw_in) rfl (nA0 := 1) (by decide +kernel) rfl ⟨Nat.le_of_ble_eq_true rfl, Nat.le_of_ble_eq_true rfl⟩ hcs hl rfl (Nat.le_of_ble_eq_true rfl) dL_law_735 (fun H locs w => ?_)
  refine lv_istore (lv' := [(9, .int (nI (top P))), (8, .int (nI (P 9))), (6, .int (nI (toldF P))), (5, .int (nI (P 8))), (4, .int y), (3, .int x), (2, .int (nI u)), (1, .ref b), (0, .ref sb)]) F.1 F.2.1 dL_law_738 hl (by decide) rfl (fun ls hl => ?_)
  refine lv_aload_n F.1 F.2.1 dL_law_740 rfl (lv_at hl 7 rfl) ?_
  refine k_call (As := []) (rest := []) hf hX F w (k_renew l G a1 a2 a3 q0 v0 q1 v1 q2 v2 hS) ((gL_law_X7_renew).tr lw_in) rfl (nA0 := 0) (by decide +kernel) rfl ⟨Nat.le_of_ble_eq_true rfl, Nat.le_of_ble_eq_true rfl⟩ hcs hl rfl (Nat.le_of_ble_eq_true rfl) dL_law_741 (fun H locs w => ?_)
  refine lv_iload F.1 F.2.1 dL_law_744 (lv_at hl 1 rfl) ?_
  refine r_cne (tgt := 813) F dL_law_746 (by decide) (by omega) (by omega) (fun c746 => by exfalso; omega) (fun c746 => ?_)
  refine lv_aload_n F.1 F.2.1 dL_law_749 rfl (lv_at hl 7 rfl) ?_
  refine lv_bipush (v := nI 10) F.1 F.2.1 dL_law_750 (by decide) ?_
  refine k_call (As := [.int (nI 10)]) (rest := []) hf hX F w (k_count l G a1 a2 a3 q0 v0 q1 v1 q2 v2 hS' a_c10) ((gL_law_X7_count).tr lw_in) rfl (nA0 := 1) (by decide +kernel) rfl ⟨Nat.le_of_ble_eq_true rfl, Nat.le_of_ble_eq_true rfl⟩ hcs hl rfl (Nat.le_of_ble_eq_true rfl) dL_law_752 (fun H locs w => ?_)
  refine r_zne (tgt := 813) F dL_law_755 (by decide) (by omega) (fun c755 => by exfalso; omega) (fun c755 => ?_)
  refine lv_aload_n F.1 F.2.1 dL_law_758 rfl (lv_at hl 7 rfl) ?_
  refine lv_bipush (v := nI 15) F.1 F.2.1 dL_law_759 (by decide) ?_
  refine k_call (As := [.int (nI 15)]) (rest := []) hf hX F w (k_count l G a1 a2 a3 q0 v0 q1 v1 q2 v2 hS' a_c15) ((gL_law_X7_count).tr lw_in) rfl (nA0 := 1) (by decide +kernel) rfl ⟨Nat.le_of_ble_eq_true rfl, Nat.le_of_ble_eq_true rfl⟩ hcs hl rfl (Nat.le_of_ble_eq_true rfl) dL_law_761 (fun H locs w => ?_)
  refine r_zne (tgt := 813) F dL_law_764 (by decide) (by omega) (fun c764 => by exfalso; omega) (fun c764 => ?_)
  refine lv_aload_n F.1 F.2.1 dL_law_767 rfl (lv_at hl 7 rfl) ?_
  refine lv_bipush (v := nI 18) F.1 F.2.1 dL_law_768 (by decide) ?_
  refine k_call (As := [.int (nI 18)]) (rest := []) hf hX F w (k_count l G a1 a2 a3 q0 v0 q1 v1 q2 v2 hS' a_c18) ((gL_law_X7_count).tr lw_in) rfl (nA0 := 1) (by decide +kernel) rfl ⟨Nat.le_of_ble_eq_true rfl, Nat.le_of_ble_eq_true rfl⟩ hcs hl rfl (Nat.le_of_ble_eq_true rfl) dL_law_770 (fun H locs w => ?_)
  refine r_zne (tgt := 813) F dL_law_773 (by decide) (by omega) (fun c773 => by exfalso; omega) (fun c773 => ?_)
  refine lv_aload_n F.1 F.2.1 dL_law_776 rfl (lv_at hl 7 rfl) ?_
  refine lv_bipush (v := nI 9) F.1 F.2.1 dL_law_777 (by decide) ?_
  refine k_call (As := [.int (nI 9)]) (rest := []) hf hX F w (k_count l G a1 a2 a3 q0 v0 q1 v1 q2 v2 hS' a_c9) ((gL_law_X7_count).tr lw_in) rfl (nA0 := 1) (by decide +kernel) rfl ⟨Nat.le_of_ble_eq_true rfl, Nat.le_of_ble_eq_true rfl⟩ hcs hl rfl (Nat.le_of_ble_eq_true rfl) dL_law_779 (fun H locs w => ?_)
  refine lv_iload F.1 F.2.1 dL_law_782 (lv_at hl 0 rfl) ?_
  refine r_cne (tgt := 813) F dL_law_784 (by decide) (by omega) (by omega) (fun c784 => by exfalso; omega) (fun c784 => ?_)
  refine lv_aload_n F.1 F.2.1 dL_law_787 rfl (lv_at hl 7 rfl) ?_
  refine lv_iconst (v := nI 0) F.1 F.2.1 dL_law_788 (by decide) ?_
  refine k_call (As := [.int (nI 0)]) (rest := []) hf hX F w (k_account l G a1 a2 a3 q0 v0 q1 v1 q2 v2 hS' a_a0) ((gL_law_X7_account).tr lw_in) rfl (nA0 := 1) (by decide +kernel) rfl ⟨Nat.le_of_ble_eq_true rfl, Nat.le_of_ble_eq_true rfl⟩ hcs hl rfl (Nat.le_of_ble_eq_true rfl) dL_law_789 (fun H locs w => ?_)
  refine r_zne (tgt := 813) F dL_law_792 (by decide) (by omega) (fun c792 => by exfalso; omega) (fun c792 => ?_)
  refine lv_aload_n F.1 F.2.1 dL_law_795 rfl (lv_at hl 7 rfl) ?_
  refine lv_bipush (v := nI 16) F.1 F.2.1 dL_law_796 (by decide) ?_
  refine k_call (As := [.int (nI 16)]) (rest := []) hf hX F w (k_count l G a1 a2 a3 q0 v0 q1 v1 q2 v2 hS' a_c16) ((gL_law_X7_count).tr lw_in) rfl (nA0 := 1) (by decide +kernel) rfl ⟨Nat.le_of_ble_eq_true rfl, Nat.le_of_ble_eq_true rfl⟩ hcs hl rfl (Nat.le_of_ble_eq_true rfl) dL_law_798 (fun H locs w => ?_)
  refine r_zne (tgt := 813) F dL_law_801 (by decide) (by omega) (fun c801 => by exfalso; omega) (fun c801 => ?_)
  refine lv_aload_n F.1 F.2.1 dL_law_804 rfl (lv_at hl 7 rfl) ?_
  refine lv_bipush (v := nI 21) F.1 F.2.1 dL_law_805 (by decide) ?_
  refine k_call (As := [.int (nI 21)]) (rest := []) hf hX F w (k_count l G a1 a2 a3 q0 v0 q1 v1 q2 v2 hS' a_c21) ((gL_law_X7_count).tr lw_in) rfl (nA0 := 1) (by decide +kernel) rfl ⟨Nat.le_of_ble_eq_true rfl, Nat.le_of_ble_eq_true rfl⟩ hcs hl rfl (Nat.le_of_ble_eq_true rfl) dL_law_807 (fun H locs w => ?_)
  refine r_zeq (tgt := 815) F dL_law_810 (by decide) (by omega) (fun c810 => ?_) (fun c810 => by exfalso; omega)
  refine lv_iconst (v := nI 0) F.1 F.2.1 dL_law_815 (by decide) ?_
  refine lv_istore (lv' := [(6, .int (nI 0)), (9, .int (nI (top P))), (8, .int (nI (P 9))), (5, .int (nI (P 8))), (4, .int y), (3, .int x), (2, .int (nI u)), (1, .ref b), (0, .ref sb)]) F.1 F.2.1 dL_law_816 hl (by decide) rfl (fun ls hl => ?_)
  refine lv_goto (tgt := 862) F.1 F.2.1 dL_law_818 (by decide) ?_
  exact kk _ _ _ 0 H locs ls hS' hJ' (by omega) (by omega) w (lv_sub hl [0, 4, 5, 6, 7, 8] rfl)
set_option maxRecDepth 100000 in
set_option maxHeartbeats 8000000 in
theorem lc_passes (a1 a2 a3 q0 v0 q1 v1 q2 v2 : Nat) (F : Fx p s m args meth c cL_law 14 RL lw_tbl ret) (hX : lawX a1 a2 a3 q0 v0 q1 v1 q2 v2 A s s.heap) (hcs : cells ≤ room_1.cells ∧ slots ≤ room_1.slots) (hS : SI P n h) (hJ : JI P) (ht : P 16 ≤ 10000) (w : CW G s A H locs b P n h) (hl : lv_has ls 14 [(6, .int (nI (toldF P))), (5, .int (nI (P 8))), (4, .int y), (3, .int x), (2, .int (nI u)), (1, .ref b), (0, .ref sb)]) (kk : ∀ (P' : Nat → Nat) (n' : Nat) (h' : Nat → Nat → Nat) (d : Nat) (H : Heap) (locs : List Loc) (ls : Array Slot), SI P' n' h' → JI P' → P' 16 ≤ P 16 + 200 → d ≤ toldF P' → CW G s A H locs b P' n' h' → lv_has ls 14 [(6, .int (nI d)), (4, .int y), (3, .int x), (2, .int (nI u)), (1, .ref b), (0, .ref sb)] → W p l e room_1 s m args below meth c H locs cells slots Q (F0 m 862 ls [])) : W p l e room_1 s m args below meth c H locs cells slots Q (F0 m 821 ls []) := by
  have hf := fine_law a1 a2 a3 q0 v0 q1 v1 q2 v2
  have hI := hS.1
  obtain ⟨f8, f14, ft1, ft2, ft3, fd1, fd2, fd3, fw1, fw2, fw3, fb1, fb2, fb3, fb4, fb5, fb6, fc1, fc2, fc3, fc4, fn5, fs1, fs2⟩ := S_facts hS hJ
  refine lv_aload_n F.1 F.2.1 dL_law_821 rfl (lv_at hl 5 rfl) ?_
  refine lv_iconst (v := nI 1) F.1 F.2.1 dL_law_822 (by decide) ?_
  refine lv_iload F.1 F.2.1 dL_law_823 (lv_at hl 2 rfl) ?_
  refine lv_iload F.1 F.2.1 dL_law_825 (lv_at hl 2 rfl) ?_
  refine lv_bipush (v := nI 12) F.1 F.2.1 dL_law_827 (by decide) ?_
  refine lv_ishr F.1 F.2.1 dL_law_829 ?_
  refine lv_iconst (v := nI 5) F.1 F.2.1 dL_law_830 (by decide) ?_
  refine k_call0 (As := [.int (y >>> (nI 12 &&& 31)), .int (nI 5)]) (rest := [.int y, .int (nI 1), .ref b]) hf hX F w ((c_L_low l G (y >>> (nI 12 &&& 31)) (n := 5) (by decide)).toX) ((gL_law_L_low).tr lw_in) rfl (nA0 := 2) (by decide +kernel) rfl ⟨Nat.le_of_ble_eq_true rfl, Nat.le_of_ble_eq_true rfl⟩ hcs hl rfl (Nat.le_of_ble_eq_true rfl) dL_law_831 (fun r H locs hr w => ?_)
  subst hr
  have z831 := lowF_lt (y >>> (nI 12 &&& 31)) (n := 5) (by decide)
  refine r_zne (tgt := 843) F dL_law_834 (by decide) (by omega) (fun c834 => ?_) (fun c834 => ?_)
  · skip
    refine lv_bipush (v := nI 15) F.1 F.2.1 dL_law_843 (by decide) ?_
    refine k_call0 (As := [.int y, .int (nI 15)]) (rest := [.int (nI 1), .ref b]) hf hX F w ((c_L_low l G y (n := 15) (by decide)).toX) ((gL_law_L_low).tr lw_in) rfl (nA0 := 2) (by decide +kernel) rfl ⟨Nat.le_of_ble_eq_true rfl, Nat.le_of_ble_eq_true rfl⟩ hcs hl rfl (Nat.le_of_ble_eq_true rfl) dL_law_845 (fun r H locs hr w => ?_)
    subst hr
    have z845 := lowF_lt y (n := 15) (by decide)
    refine r_iadd F dL_law_848 ?_
    refine lv_iload F.1 F.2.1 dL_law_849 (lv_at hl 2 rfl) ?_
    refine lv_bipush (v := nI 6) F.1 F.2.1 dL_law_851 (by decide) ?_
    refine lv_ishr F.1 F.2.1 dL_law_853 ?_
    have hz : P 16 + (1 + (lowF y 15)) ≤ 20000 := by omega
    refine k_callL (As := [.int (nI (1 + (lowF y 15))), .int (y >>> (nI 6 &&& 31))]) (rest := []) hf hX F w (c_L_passes l G a1 a2 a3 q0 v0 q1 v1 q2 v2 hS hJ (q := 1 + (lowF y 15)) ⟨by omega, by omega⟩ hz _ b) ((gL_law_L_passes).tr lw_in) rfl (nA0 := 3) (by decide +kernel) rfl ⟨Nat.le_of_ble_eq_true rfl, Nat.le_of_ble_eq_true rfl⟩ hcs hl rfl (Nat.le_of_ble_eq_true rfl) dL_law_854 (fun w1 H locs hv w => ?_)
    obtain ⟨n', h', hS', hc'⟩ := hv
    obtain ⟨j0, j1, -⟩ := it_J hI hJ _ hz
    obtain ⟨-, e16, -⟩ := it_ok hI _ hz
    have w : CW G s A H locs b (itF P (1 + (lowF y 15))) n' h' := ⟨w1, hc', w⟩
    refine r_zne (tgt := 862) F dL_law_857 (by decide) (by decide) (fun c857 => ?_) (fun c857 => by exfalso; omega)
    exact kk _ _ _ (toldF P) H locs ls hS' j0 (by omega) (by omega) w (lv_sub hl [0, 2, 3, 4, 5, 6] rfl)
  · skip
    refine lv_sipush (v := nI 200) F.1 F.2.1 dL_law_837 (by decide) ?_
    refine lv_goto (tgt := 845) F.1 F.2.1 dL_law_840 (by decide) ?_
    refine k_call0 (As := [.int y, .int (nI 200)]) (rest := [.int (nI 1), .ref b]) hf hX F w ((c_L_low l G y (n := 200) (by decide)).toX) ((gL_law_L_low).tr lw_in) rfl (nA0 := 2) (by decide +kernel) rfl ⟨Nat.le_of_ble_eq_true rfl, Nat.le_of_ble_eq_true rfl⟩ hcs hl rfl (Nat.le_of_ble_eq_true rfl) dL_law_845 (fun r H locs hr w => ?_)
    subst hr
    have z845 := lowF_lt y (n := 200) (by decide)
    refine r_iadd F dL_law_848 ?_
    refine lv_iload F.1 F.2.1 dL_law_849 (lv_at hl 2 rfl) ?_
    refine lv_bipush (v := nI 6) F.1 F.2.1 dL_law_851 (by decide) ?_
    refine lv_ishr F.1 F.2.1 dL_law_853 ?_
    have hz : P 16 + (1 + (lowF y 200)) ≤ 20000 := by omega
    refine k_callL (As := [.int (nI (1 + (lowF y 200))), .int (y >>> (nI 6 &&& 31))]) (rest := []) hf hX F w (c_L_passes l G a1 a2 a3 q0 v0 q1 v1 q2 v2 hS hJ (q := 1 + (lowF y 200)) ⟨by omega, by omega⟩ hz _ b) ((gL_law_L_passes).tr lw_in) rfl (nA0 := 3) (by decide +kernel) rfl ⟨Nat.le_of_ble_eq_true rfl, Nat.le_of_ble_eq_true rfl⟩ hcs hl rfl (Nat.le_of_ble_eq_true rfl) dL_law_854 (fun w1 H locs hv w => ?_)
    obtain ⟨n', h', hS', hc'⟩ := hv
    obtain ⟨j0, j1, -⟩ := it_J hI hJ _ hz
    obtain ⟨-, e16, -⟩ := it_ok hI _ hz
    have w : CW G s A H locs b (itF P (1 + (lowF y 200))) n' h' := ⟨w1, hc', w⟩
    refine r_zne (tgt := 862) F dL_law_857 (by decide) (by decide) (fun c857 => ?_) (fun c857 => by exfalso; omega)
    exact kk _ _ _ (toldF P) H locs ls hS' j0 (by omega) (by omega) w (lv_sub hl [0, 2, 3, 4, 5, 6] rfl)
end LC
