/-! ===== calls over worlds: the callee's cells by their places, the rest stays ===== -/
theorem fm_all : ∀ (is : List Nat) (ws : va_W), is.all (fun i => decide (i < ws.length)) = true → is.map (fun i => ws[i]?) = (is.filterMap (fun i => ws[i]?)).map some
  | [], _, _ => rfl
  | i :: is, ws, h => by
    rw [List.all_cons, Bool.and_eq_true, decide_eq_true_eq] at h
    have hi : ws[i]? = some ws[i] := List.getElem?_eq_getElem h.1
    rw [List.filterMap_cons_some hi, List.map_cons, List.map_cons, fm_all is ws h.2, hi]
theorem PreW.blind {G : KG} {ws : va_W} {sz : Nat} {as : List Value} : FrameBlind (PreW G ws sz as) := fun a U g mk q => by
  obtain ⟨h1, h2, h3, h4, h5⟩ := q
  exact ⟨h1, h2, h3, va_K.moved (u := U) (U := U.calling g mk a) (Vm.Alike.refl U.vm) h4, h5⟩
section RC
variable {p : Program} {l : Launch} {e : Env} {R : Room} {s : State} {m : MethodId} {args : Array Value} {below : List Frame} {meth : Method} {c : Code} {H : Heap} {locs : List Loc} {cells slots : Nat} {Q : State → Prop}
variable {cc : ByteArray} {nL : Nat} {own : String} {Ts : List Cond} {ret : Option FieldType} {G : KG} {A : Nat → Prop} {ws : va_W} {pc : Nat} {ls : Array Slot} {rest st : List Value}
variable {wc : va_W} {a : Array Value} {mc ms : Nat}
theorem Wd.at (w : Wd G s A ws H locs) (isC : List Nat) (hn : va_nd isC = true) (hC : isC.map (fun i => ws[i]?) = wc.map some) : va_P G.1 vwCl wc H ∧ va_D (fun _ => True) wc := by
  have at' : ∀ (k : Nat) (q : Nat × va_E), wc[k]? = some q → ∃ i, isC[k]? = some i ∧ ws[i]? = some q := by
    intro k q hq
    have h1 : (isC.map (fun i => ws[i]?))[k]? = some (some q) := by rw [hC, List.getElem?_map, hq]; rfl
    rw [List.getElem?_map] at h1
    cases hi : isC[k]? with
    | none => rw [hi] at h1; cases h1
    | some i => rw [hi] at h1; exact ⟨i, rfl, Option.some.inj h1⟩
  refine ⟨fun k q hk => ?_, fun i j x y hx hy hxy => ?_, fun _ _ _ => trivial⟩
  · obtain ⟨i, -, h2⟩ := at' k q hk
    exact w.1 i q h2
  · obtain ⟨b, h3, h4⟩ := at' j y hy
    obtain ⟨a, h1, h2⟩ := at' i x hx
    have := w.2.1.1 a b x y h2 h4 hxy
    subst this
    exact va_nd_inj isC hn i j a h1 h3
theorem r_afterI {post : Int32 → va_W → Prop} (w : Wd G s A ws H locs) (isC isR : List Nat) (hC : isC.map (fun i => ws[i]?) = wc.map some) (hR : isR.all (fun i => decide (i < ws.length)) = true) (hn : va_nd isR = true) (hdis : isR.all (fun i => decide (i ∉ isC)) = true)
    (hr : va_Run p l e R s m args below meth c H locs cells slots mc ms (F0 m pc ls st) rest (QI G wc H.size post a) (va_A wc H.size))
    (kk : ∀ (r : Int32) (w1 : va_W) (H1 : Heap) (locs1 : List Loc), post r w1 → Wd G s A (isR.filterMap (fun i => ws[i]?) ++ w1) H1 locs1 → W p l e R s m args below meth c H1 locs1 (cells + mc) (slots + ms) Q (F0 m (pc + 3) ls (.int r :: rest))) : W p l e R s m args below meth c H locs cells slots Q (F0 m pc ls st) := by
  have hF := va_free w.2.1 w.2.2.1 w.2.2.2.2 isC hC
  refine va_calli hr w.2.2.1 (fun q _ h => hF q h) hF (fun r u t H1 locs1 ht hvm hpost hB hz hk hS => kk r u H1 locs1 hpost ?_)
  obtain ⟨hP1, -, hD1⟩ := hB
  rw [ht] at hP1
  obtain ⟨h1, h2⟩ := va_join w.1 w.2.1 isC isR hC (fm_all isR ws hR) hn (fun i hi => of_decide_eq_true (List.all_eq_true.mp hdis i hi)) hk hF hP1 hD1
  exact ⟨h1, h2, hS, w.2.2.2⟩
theorem r_afterV {post : va_W → Prop} (w : Wd G s A ws H locs) (isC isR : List Nat) (hC : isC.map (fun i => ws[i]?) = wc.map some) (hR : isR.all (fun i => decide (i < ws.length)) = true) (hn : va_nd isR = true) (hdis : isR.all (fun i => decide (i ∉ isC)) = true)
    (hr : va_Run p l e R s m args below meth c H locs cells slots mc ms (F0 m pc ls st) rest (QV G wc H.size post a) (va_A wc H.size))
    (kk : ∀ (w1 : va_W) (H1 : Heap) (locs1 : List Loc), post w1 → Wd G s A (isR.filterMap (fun i => ws[i]?) ++ w1) H1 locs1 → W p l e R s m args below meth c H1 locs1 (cells + mc) (slots + ms) Q (F0 m (pc + 3) ls rest)) : W p l e R s m args below meth c H locs cells slots Q (F0 m pc ls st) := by
  have hF := va_free w.2.1 w.2.2.1 w.2.2.2.2 isC hC
  refine va_callv hr w.2.2.1 (fun q _ h => hF q h) hF (fun u t H1 locs1 ht hvm hpost hB hz hk hS => kk u H1 locs1 hpost ?_)
  obtain ⟨hP1, -, hD1⟩ := hB
  rw [ht] at hP1
  obtain ⟨h1, h2⟩ := va_join w.1 w.2.1 isC isR hC (fm_all isR ws hR) hn (fun i hi => of_decide_eq_true (List.all_eq_true.mp hdis i hi)) hk hF hP1 hD1
  exact ⟨h1, h2, hS, w.2.2.2⟩
theorem PreW.at (w : Wd G s A ws H locs) (isC : List Nat) (hn : va_nd isC = true) (hC : isC.map (fun i => ws[i]?) = wc.map some) (as : List Value) : ∀ U : State, U.heap = H → s.WarmedH U.vm → PreW G wc H.size as as.toArray U := fun U hU hW =>
  ⟨rfl, by rw [hU], by rw [hU]; exact (w.at isC hn hC).1, va_K.moved hW.alike w.2.2.2.1, (w.at isC hn hC).2⟩
variable {nA0 : Nat} {y : MethodName} {Wy W' : List Cond} {bytes : ByteArray} {maxL index k j ci b N : Nat} {rt : Option FieldType} {As : List Value} {C : String} {T : u_T} {fs : List Value} {lv : List (Nat × Value)}
theorem r_callVI {post : Int32 → va_W → Prop} (F : Fx p s m args meth c cc nL own Ts ret) (w : Wd G s A ws H locs) (hM : MetI l y Wy k G wc (.ref b :: As) post) (hg : GoodIn Ts (wsV own index C y Wy)) (isC isR : List Nat) (hw : Wy = Cond.code y bytes maxL rt :: W')
    (hd : y.cls = C ∧ y.cls ≠ "java/lang/invoke/MethodHandle" ∧ y.cls ≠ "java/lang/invoke/VarHandle" ∧ (parseMethodDescriptor y.desc).map (fun d => d.parameters.length) = some nA0) (hAs : As.length = nA0) (hRm : k + 1 ≤ R.frames ∧ 8 + (maxL + 11) + 30 * k ≤ R.locals) (hcs : cells ≤ R.cells ∧ slots ≤ R.slots)
    (hC : isC.map (fun i => ws[i]?) = wc.map some) (hnC : va_nd isC = true) (hR : isR.all (fun i => decide (i < ws.length)) = true) (hn : va_nd isR = true) (hdis : isR.all (fun i => decide (i ∉ isC)) = true)
    (he : wc[0]? = some (b, .inr (ci, fs))) (hc : vwCl[ci]? = some (C, T, N)) (hl : lv_has ls nL lv) (hst : st = As.reverse ++ .ref b :: rest) (hroom : (rest.map fun v => v.category).sum ≤ 8) (hdg : decode cc pc = .ok (.invokevirtual index, 3))
    (kk : ∀ (r : Int32) (w1 : va_W) (H1 : Heap) (locs1 : List Loc), post r w1 → Wd G s A (isR.filterMap (fun i => ws[i]?) ++ w1) H1 locs1 → W p l e R s m args below meth c H1 locs1 cells slots Q (F0 m (pc + 3) ls (.int r :: rest))) : W p l e R s m args below meth c H locs cells slots Q (F0 m pc ls st) :=
  r_afterI w isC isR hC hR hn hdis (va_runV (As := As) (rest := rest) F.fix (hM H.size) (cwV nA0 F.ts hg hw rfl rfl hd hRm) ⟨PreW.blind, va_recv w.2.2.2.1 (w.at isC hnC hC).1 hc he, PreW.at w isC hnC hC _⟩ rfl hAs hl.1 hst (lv_room hroom) hdg hcs) kk
theorem r_callVV {post : va_W → Prop} (F : Fx p s m args meth c cc nL own Ts ret) (w : Wd G s A ws H locs) (hM : MetV l y Wy k mc ms G wc (.ref b :: As) post) (hg : GoodIn Ts (wsV own index C y Wy)) (isC isR : List Nat) (hw : Wy = Cond.code y bytes maxL rt :: W')
    (hd : y.cls = C ∧ y.cls ≠ "java/lang/invoke/MethodHandle" ∧ y.cls ≠ "java/lang/invoke/VarHandle" ∧ (parseMethodDescriptor y.desc).map (fun d => d.parameters.length) = some nA0) (hAs : As.length = nA0) (hRm : k + 1 ≤ R.frames ∧ 8 + (maxL + 11) + 30 * k ≤ R.locals) (hcs : cells + mc ≤ R.cells ∧ slots + ms ≤ R.slots)
    (hC : isC.map (fun i => ws[i]?) = wc.map some) (hnC : va_nd isC = true) (hR : isR.all (fun i => decide (i < ws.length)) = true) (hn : va_nd isR = true) (hdis : isR.all (fun i => decide (i ∉ isC)) = true)
    (he : wc[0]? = some (b, .inr (ci, fs))) (hc : vwCl[ci]? = some (C, T, N)) (hl : lv_has ls nL lv) (hst : st = As.reverse ++ .ref b :: rest) (hroom : (rest.map fun v => v.category).sum ≤ 8) (hdg : decode cc pc = .ok (.invokevirtual index, 3))
    (kk : ∀ (w1 : va_W) (H1 : Heap) (locs1 : List Loc), post w1 → Wd G s A (isR.filterMap (fun i => ws[i]?) ++ w1) H1 locs1 → W p l e R s m args below meth c H1 locs1 (cells + mc) (slots + ms) Q (F0 m (pc + 3) ls rest)) : W p l e R s m args below meth c H locs cells slots Q (F0 m pc ls st) :=
  r_afterV w isC isR hC hR hn hdis (va_runV (As := As) (rest := rest) F.fix (hM H.size) (cwV nA0 F.ts hg hw rfl rfl hd hRm) ⟨PreW.blind, va_recv w.2.2.2.1 (w.at isC hnC hC).1 hc he, PreW.at w isC hnC hC _⟩ rfl hAs hl.1 hst (lv_room hroom) hdg hcs) kk
/-- a static method that touches no cell -/
theorem r_callS0 {post : Int32 → va_W → Prop} (F : Fx p s m args meth c cc nL own Ts ret) (w : Wd G s A ws H locs) (hM : MetI l y Wy k G [] As post) (hg : GoodIn Ts (va_wsS own index y Wy)) (hw : Wy = Cond.code y bytes maxL rt :: W')
    (hd : y.cls ≠ "java/lang/invoke/MethodHandle" ∧ y.cls ≠ "java/lang/invoke/VarHandle" ∧ (parseMethodDescriptor y.desc).map (fun d => d.parameters.length) = some nA0) (hAs : As.length = nA0) (hRm : k + 1 ≤ R.frames ∧ 8 + (maxL + 11) + 30 * k ≤ R.locals) (hcs : cells ≤ R.cells ∧ slots ≤ R.slots)
    (hl : lv_has ls nL lv) (hst : st = As.reverse ++ rest) (hroom : (rest.map fun v => v.category).sum ≤ 8) (hdg : decode cc pc = .ok (.invokestatic index, 3))
    (kk : ∀ (r : Int32) (w1 : va_W) (H1 : Heap) (locs1 : List Loc), post r w1 → Wd G s A ws H1 locs1 → W p l e R s m args below meth c H1 locs1 cells slots Q (F0 m (pc + 3) ls (.int r :: rest))) : W p l e R s m args below meth c H locs cells slots Q (F0 m pc ls st) := by
  have hF : ∀ q, va_A [] H.size q → A q := va_free (wc := []) w.2.1 w.2.2.1 w.2.2.2.2 [] rfl
  refine va_calli (va_runS (As := As) (rest := rest) F.fix (hM H.size) (va_cwS nA0 F.ts hg hw rfl rfl hd hRm) ⟨PreW.blind, PreW.at w [] rfl rfl _⟩ rfl hAs hl.1 hst (lv_room hroom) hdg hcs) w.2.2.1 (fun q _ h => hF q h) hF (fun r u t H1 locs1 ht hvm hpost hB hz hk hS => kk r u H1 locs1 hpost ⟨?_, w.2.1, hS, w.2.2.2⟩)
  refine w.1.kept (fun k q hq => hk q.1 (w.1 k q hq).lt (fun h => ?_))
  rcases h with ⟨k, e, h⟩ | h
  · simp at h
  · exact Nat.lt_irrefl _ (Nat.lt_of_lt_of_le (w.1 k q hq).lt h)
theorem r_callSV {post : va_W → Prop} (F : Fx p s m args meth c cc nL own Ts ret) (w : Wd G s A ws H locs) (hM : MetV l y Wy k mc ms G wc As post) (hg : GoodIn Ts (va_wsS own index y Wy)) (isC isR : List Nat) (hw : Wy = Cond.code y bytes maxL rt :: W')
    (hd : y.cls ≠ "java/lang/invoke/MethodHandle" ∧ y.cls ≠ "java/lang/invoke/VarHandle" ∧ (parseMethodDescriptor y.desc).map (fun d => d.parameters.length) = some nA0) (hAs : As.length = nA0) (hRm : k + 1 ≤ R.frames ∧ 8 + (maxL + 11) + 30 * k ≤ R.locals) (hcs : cells + mc ≤ R.cells ∧ slots + ms ≤ R.slots)
    (hC : isC.map (fun i => ws[i]?) = wc.map some) (hnC : va_nd isC = true) (hR : isR.all (fun i => decide (i < ws.length)) = true) (hn : va_nd isR = true) (hdis : isR.all (fun i => decide (i ∉ isC)) = true)
    (hl : lv_has ls nL lv) (hst : st = As.reverse ++ rest) (hroom : (rest.map fun v => v.category).sum ≤ 8) (hdg : decode cc pc = .ok (.invokestatic index, 3))
    (kk : ∀ (w1 : va_W) (H1 : Heap) (locs1 : List Loc), post w1 → Wd G s A (isR.filterMap (fun i => ws[i]?) ++ w1) H1 locs1 → W p l e R s m args below meth c H1 locs1 (cells + mc) (slots + ms) Q (F0 m (pc + 3) ls rest)) : W p l e R s m args below meth c H locs cells slots Q (F0 m pc ls st) :=
  r_afterV w isC isR hC hR hn hdis (va_runS (As := As) (rest := rest) F.fix (hM H.size) (va_cwS nA0 F.ts hg hw rfl rfl hd hRm) ⟨PreW.blind, PreW.at w isC hnC hC _⟩ rfl hAs hl.1 hst (lv_room hroom) hdg hcs) kk
theorem r_min (F : Fx p s m args meth c cc nL own Ts ret) {x z : Nat} (hlink : (Cond.methodLink own index Lib.Math.min.name).before args s = true) (hstat : (Cond.static Lib.Math.min.name).before args s = true) (hini : (Cond.initialized "java/lang/Math").before args s = true) (hcode : (Cond.code Lib.Math.min.name Lib.Math.min.code 2 (some .int)).before args s = true)
    (hframes : 1 ≤ R.frames) (hlocals : (rest.map fun v => v.category).sum + 13 ≤ R.locals) (hcs : cells ≤ R.cells ∧ slots ≤ R.slots) (hx : x < 2 ^ 31) (hz : z < 2 ^ 31) (hl : lv_has ls nL lv) (hdg : decode cc pc = .ok (.invokestatic index, 3))
    (kk : W p l e R s m args below meth c H locs cells slots Q (F0 m (pc + 3) ls (.int (nI (min x z)) :: rest))) : W p l e R s m args below meth c H locs cells slots Q (F0 m pc ls (.int (nI z) :: .int (nI x) :: rest)) := by
  refine va_mmin F.1 F.2.1 (F.2.2.1.trans hl.1.symm) F.2.2.2.1 hlink hstat hini hcode hframes hlocals hcs.1 hcs.2 hdg ?_
  have : (if nI z < nI x then nI z else nI x) = nI (min x z) := by
    by_cases h : z < x
    · rw [if_pos ((nI_ltI hz hx).mpr h), Nat.min_eq_right (Nat.le_of_lt h)]
    · rw [if_neg (fun q => h ((nI_ltI hz hx).mp q)), Nat.min_eq_left (Nat.not_lt.mp h)]
  rw [this]
  exact kk
theorem eqW.rf : ∀ ws : va_W, eqW ws ws
  | [] => trivial
  | (_, x) :: l => ⟨rfl, eqE.rf x, eqW.rf l⟩
theorem eqW.set : ∀ (ws : va_W) (q : Nat) {b : Nat} {x z : va_E}, eqE x z → eqW (ws.set q (b, x)) (ws.set q (b, z))
  | [], _, _, _, _, _ => trivial
  | (_, v) :: l, 0, _, _, _, h => ⟨rfl, h, eqW.rf l⟩
  | (_, v) :: l, q + 1, _, _, _, h => ⟨rfl, eqE.rf v, eqW.set l q h⟩
theorem r_copy (F : Fx p s m args meth c cc nL own Ts ret) (w : Wd G s A ws H locs) (q1 q2 : Nat) {a1 a2 n : Nat} {f g : Nat → Nat} {ws' : va_W} (hlink : (Cond.methodLink own index arraycopyName).before args s = true) (hnat : (Cond.native arraycopyName).before args s = true) (hstat : (Cond.static arraycopyName).before args s = true) (hini : (Cond.initialized "java/lang/System").before args s = true)
    (h1 : ws[q1]? = some (aI G a1 n f)) (h2 : ws[q2]? = some (aI G a2 n g)) (hn : n < 2 ^ 31) (hframes : 1 ≤ R.frames) (hlocals : (rest.map fun v => v.category).sum + (nativeFrameWords "java/lang/System" "arraycopy" 5 + 11) ≤ R.locals) (hl : lv_has ls nL lv) (hdg : decode cc pc = .ok (.invokestatic index, 3)) (hw : ws.set q2 (aI G a2 n f) = ws')
    (kk : ∀ (H1 : Heap) (locs1 : List Loc), Wd G s A ws' H1 locs1 → W p l e R s m args below meth c H1 locs1 cells slots Q (F0 m (pc + 3) ls rest)) : W p l e R s m args below meth c H locs cells slots Q (F0 m pc ls (.int (nI n) :: .int (nI 0) :: .ref a2 :: .int (nI 0) :: .ref a1 :: rest)) := by
  subst hw
  have h0 : (nI 0).toNatClampNeg = 0 := nI_clamp (by decide)
  refine va_copyi F.1 F.2.1 (F.2.2.1.trans hl.1.symm) F.2.2.2.1 hlink hnat hstat hini w.2.2.2.1 w.1 w.2.1 w.2.2.1 q1 q2 0 0 h1 h2 rfl rfl rfl (nI_pos (by decide)) (nI_pos (by decide)) (nI_pos hn) (by rw [h0, nI_clamp hn, Nat.zero_add]; exact Nat.le_refl _) (by rw [h0, nI_clamp hn, Nat.zero_add]; exact Nat.le_refl _) (fun _ _ => rfl) hframes hlocals hdg (fun H1 locs1 g1 g2 g3 => kk H1 locs1 (Wd.eq (ws := ws.set q2 (a2, .inl (G.2.1, n, .inl (va_cpy (nA f) (nA g) 0 0 n)))) ⟨?_, ?_, g3, w.2.2.2⟩ (eqW.set ws q2 ⟨rfl, rfl, fun k hk => ?_⟩)))
  · rw [h0, nI_clamp hn] at g1; exact g1
  · rw [h0, nI_clamp hn] at g2; exact g2
  · rw [pk_cpy_in (Nat.zero_le k) (by omega)]
    simp
end RC
section RS
variable {p : Program} {l : Launch} {e : Env} {R : Room} {s : State} {m : MethodId} {args : Array Value} {below : List Frame} {meth : Method} {c : Code} {H : Heap} {locs : List Loc} {cells slots : Nat} {Q : State → Prop}
variable {cc : ByteArray} {nL : Nat} {own : String} {Ts : List Cond} {ret : Option FieldType} {pc : Nat} {ls : Array Slot} {rest : List Value}
theorem r_swIn (F : Fx p s m args meth c cc nL own Ts ret) {dflt lo hi : Int} {offs : Array Int} {len : Nat} {x k : Int32} {off : Int} {tgt : Nat} (hdg : decode cc pc = .ok (.tableswitch dflt lo hi offs, len)) (hx : x = k) (h1 : ¬ k.toInt < lo) (h2 : ¬ hi < k.toInt) (ho : offs[(k.toInt - lo).toNat]? = some off) (ht : (pc : Int) + off = (tgt : Int))
    (kk : W p l e R s m args below meth c H locs cells slots Q (F0 m tgt ls rest)) : W p l e R s m args below meth c H locs cells slots Q (F0 m pc ls (.int x :: rest)) := by
  subst hx
  exact lv_tableIn F.1 F.2.1 hdg h1 h2 ho ht kk
theorem r_swOut (F : Fx p s m args meth c cc nL own Ts ret) {dflt lo hi : Int} {offs : Array Int} {len : Nat} {x : Int32} {tgt : Nat} (hdg : decode cc pc = .ok (.tableswitch dflt lo hi offs, len)) (h : x.toInt < lo ∨ hi < x.toInt) (ht : (pc : Int) + dflt = (tgt : Int))
    (kk : W p l e R s m args below meth c H locs cells slots Q (F0 m tgt ls rest)) : W p l e R s m args below meth c H locs cells slots Q (F0 m pc ls (.int x :: rest)) := lv_tableOut F.1 F.2.1 hdg h ht kk
theorem r_swOutN (F : Fx p s m args meth c cc nL own Ts ret) {dflt lo hi : Int} {offs : Array Int} {len a : Nat} {tgt : Nat} (hdg : decode cc pc = .ok (.tableswitch dflt lo hi offs, len)) (ha : a < 2 ^ 31) (h : (a : Int) < lo ∨ hi < (a : Int)) (ht : (pc : Int) + dflt = (tgt : Int))
    (kk : W p l e R s m args below meth c H locs cells slots Q (F0 m tgt ls rest)) : W p l e R s m args below meth c H locs cells slots Q (F0 m pc ls (.int (nI a) :: rest)) := lv_tableOut F.1 F.2.1 hdg (by rw [nI_toInt ha]; exact h) ht kk
end RS

