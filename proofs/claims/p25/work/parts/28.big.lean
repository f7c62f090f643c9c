/-! ===== calls over worlds laid side by side: the callee's part in front ===== -/
theorem Wd.perm {G : KG} {s : State} {A : Nat → Prop} {ws ws' : va_W} {H : Heap} {locs : List Loc} (w : Wd G s A ws H locs) (h : List.Perm ws ws') : Wd G s A ws' H locs := by
  have hm : ∀ (k : Nat) (q : Nat × va_E), ws'[k]? = some q → ∃ j, ws[j]? = some q := fun k q hk => List.getElem?_of_mem (h.mem_iff.mpr (List.mem_of_getElem? hk))
  have nd : (ws.map (fun q => q.1)).Nodup := by
    refine List.pairwise_iff_getElem.mpr (fun i j hi hj hij => ?_)
    have hj2 : j < ws.length := by rw [List.length_map] at hj; exact hj
    have ej : ws[j]? = some ws[j] := List.getElem?_eq_getElem hj2
    have ei : ws[i]? = some ws[i] := List.getElem?_eq_getElem (Nat.lt_trans hij hj2)
    intro q
    rw [List.getElem_map, List.getElem_map] at q
    exact absurd (w.2.1.1 i j _ _ ei ej q) (Nat.ne_of_lt hij)
  have nd' : (ws'.map (fun q => q.1)).Nodup := (h.map _).nodup_iff.mp nd
  refine ⟨fun k q hk => ?_, ⟨fun i j x y hx hy hxy => ?_, fun k q hk => ?_⟩, w.2.2⟩
  · obtain ⟨j, hj⟩ := hm k q hk
    exact w.1 j q hj
  · have li : i < (ws'.map (fun q => q.1)).length := by rw [List.length_map]; exact (List.getElem?_eq_some_iff.mp hx).1
    have lj : j < (ws'.map (fun q => q.1)).length := by rw [List.length_map]; exact (List.getElem?_eq_some_iff.mp hy).1
    have e1 : (ws'.map (fun q => q.1))[i] = x.1 := by rw [List.getElem_map]; exact congrArg Prod.fst (List.getElem?_eq_some_iff.mp hx).2
    have e2 : (ws'.map (fun q => q.1))[j] = y.1 := by rw [List.getElem_map]; exact congrArg Prod.fst (List.getElem?_eq_some_iff.mp hy).2
    rcases Nat.lt_trichotomy i j with h1 | h1 | h1
    · exact absurd (e1.trans (hxy.trans e2.symm)) (List.pairwise_iff_getElem.mp nd' i j li lj h1)
    · exact h1
    · exact absurd (e2.trans (hxy.symm.trans e1.symm)) (List.pairwise_iff_getElem.mp nd' j i lj li h1)
  · obtain ⟨j, hj⟩ := hm k q hk
    exact w.2.1.2 j q hj
section BIG
variable {p : Program} {l : Launch} {e : Env} {R : Room} {s : State} {m : MethodId} {args : Array Value} {below : List Frame} {meth : Method} {c : Code} {H : Heap} {locs : List Loc} {cells slots : Nat} {Q : State → Prop}
variable {cc : ByteArray} {nL : Nat} {own : String} {Ts : List Cond} {ret : Option FieldType} {G : KG} {A : Nat → Prop} {ws wc wr : va_W} {pc : Nat} {ls : Array Slot} {rest st : List Value}
variable {a : Array Value} {mc ms : Nat}
theorem front_at (k : Nat) (q : Nat × va_E) (h : wc[k]? = some q) : (wc ++ wr)[k]? = some q := by
  rw [List.getElem?_append_left (List.getElem?_eq_some_iff.mp h).1]
  exact h
theorem back_at (k : Nat) (q : Nat × va_E) (h : wr[k]? = some q) : (wc ++ wr)[wc.length + k]? = some q := by
  rw [List.getElem?_append_right (Nat.le_add_right _ _), Nat.add_sub_cancel_left]
  exact h
theorem Wd.free (w : Wd G s A (wc ++ wr) H locs) : ∀ q, va_A wc H.size q → A q := fun q h => by
  rcases h with ⟨k, e, h⟩ | h
  · exact w.2.1.2 k (q, e) (front_at k _ h)
  · exact w.2.2.2.2 q (Nat.le_trans w.2.2.1.1 h)
theorem Wd.join (w : Wd G s A (wc ++ wr) H locs) {w1 : va_W} {H1 : Heap} {locs1 : List Loc} (hk : ∀ q : Nat, q < H.size → ¬ va_A wc H.size q → H1[q]? = H[q]?) (hP1 : va_P G.1 vwCl w1 H1) (hD1 : va_D (va_A wc H.size) w1) (hS : va_S A s.heap H1 locs1) : Wd G s A (w1 ++ wr) H1 locs1 := by
  have apart : ∀ (k : Nat) (q : Nat × va_E), wr[k]? = some q → q.1 < H.size ∧ ¬ va_A wc H.size q.1 := by
    intro k q hq
    have hb := back_at (wc := wc) k q hq
    have hl := (w.1 _ q hb).lt
    refine ⟨hl, fun h => ?_⟩
    rcases h with ⟨k2, e, h⟩ | h
    · have h1 := (List.getElem?_eq_some_iff.mp h).1
      have := w.2.1.1 _ _ (q.1, e) q (front_at k2 _ h) hb rfl
      omega
    · omega
  refine ⟨hP1.app (fun k q hq => ?_), va_D.app (hD1.weaken (fun k q _ h => w.free q.1 h)) ⟨fun i j x y hx hy hxy => ?_, fun k q hq => w.2.1.2 _ q (back_at k q hq)⟩ (fun i j x y hx hy hxy => ?_), hS, w.2.2.2⟩
  · obtain ⟨g1, g2⟩ := apart k q hq
    exact (w.1 _ q (back_at k q hq)).kept (hk q.1 g1 g2)
  · have := w.2.1.1 _ _ x y (back_at i x hx) (back_at j y hy) hxy
    omega
  · exact (apart j y hy).2 (by rw [← hxy]; exact hD1.2 i x hx)
theorem PreW.front (w : Wd G s A (wc ++ wr) H locs) (as : List Value) : ∀ U : State, U.heap = H → s.WarmedH U.vm → PreW G wc H.size as as.toArray U := fun U hU hW =>
  ⟨rfl, by rw [hU], by rw [hU]; exact fun k q hq => w.1 k q (front_at k q hq), va_K.moved hW.alike w.2.2.2.1, ⟨fun i j x y hx hy hxy => w.2.1.1 i j x y (front_at i x hx) (front_at j y hy) hxy, fun _ _ _ => trivial⟩⟩
variable {nA0 : Nat} {y : MethodName} {Wy W' : List Cond} {bytes : ByteArray} {maxL index k ci b N : Nat} {rt : Option FieldType} {As : List Value} {C : String} {T : u_T} {fs : List Value} {lv : List (Nat × Value)}
theorem b_callVI {post : Int32 → va_W → Prop} (F : Fx p s m args meth c cc nL own Ts ret) (w : Wd G s A ws H locs) (hM : MetI l y Wy k G wc (.ref b :: As) post) (hws : ws = wc ++ wr) (hg : GoodIn Ts (wsV own index C y Wy)) (hw : Wy = Cond.code y bytes maxL rt :: W')
    (hd : y.cls = C ∧ y.cls ≠ "java/lang/invoke/MethodHandle" ∧ y.cls ≠ "java/lang/invoke/VarHandle" ∧ (parseMethodDescriptor y.desc).map (fun d => d.parameters.length) = some nA0) (hAs : As.length = nA0) (hRm : k + 1 ≤ R.frames ∧ 8 + (maxL + 11) + 30 * k ≤ R.locals) (hcs : cells ≤ R.cells ∧ slots ≤ R.slots)
    (he : wc[0]? = some (b, .inr (ci, fs))) (hc : vwCl[ci]? = some (C, T, N)) (hl : lv_has ls nL lv) (hst : st = As.reverse ++ .ref b :: rest) (hroom : (rest.map fun v => v.category).sum ≤ 8) (hdg : decode cc pc = .ok (.invokevirtual index, 3))
    (kk : ∀ (r : Int32) (w1 : va_W) (H1 : Heap) (locs1 : List Loc), post r w1 → Wd G s A (w1 ++ wr) H1 locs1 → W p l e R s m args below meth c H1 locs1 cells slots Q (F0 m (pc + 3) ls (.int r :: rest))) : W p l e R s m args below meth c H locs cells slots Q (F0 m pc ls st) := by
  subst hws
  refine va_calli (va_runV (As := As) (rest := rest) F.fix (hM H.size) (cwV nA0 F.ts hg hw rfl rfl hd hRm) ⟨PreW.blind, va_recv w.2.2.2.1 (fun k q hq => w.1 k q (front_at k q hq)) hc he, PreW.front w _⟩ rfl hAs hl.1 hst (lv_room hroom) hdg hcs) w.2.2.1 (fun q _ h => w.free q h) w.free (fun r u t H1 locs1 ht hvm hpost hB hz hk hS => kk r u H1 locs1 hpost ?_)
  obtain ⟨hP1, -, hD1⟩ := hB
  rw [ht] at hP1
  exact w.join hk hP1 hD1 hS
theorem b_callVV {post : va_W → Prop} (F : Fx p s m args meth c cc nL own Ts ret) (w : Wd G s A ws H locs) (hM : MetV l y Wy k mc ms G wc (.ref b :: As) post) (hws : ws = wc ++ wr) (hg : GoodIn Ts (wsV own index C y Wy)) (hw : Wy = Cond.code y bytes maxL rt :: W')
    (hd : y.cls = C ∧ y.cls ≠ "java/lang/invoke/MethodHandle" ∧ y.cls ≠ "java/lang/invoke/VarHandle" ∧ (parseMethodDescriptor y.desc).map (fun d => d.parameters.length) = some nA0) (hAs : As.length = nA0) (hRm : k + 1 ≤ R.frames ∧ 8 + (maxL + 11) + 30 * k ≤ R.locals) (hcs : cells + mc ≤ R.cells ∧ slots + ms ≤ R.slots)
    (he : wc[0]? = some (b, .inr (ci, fs))) (hc : vwCl[ci]? = some (C, T, N)) (hl : lv_has ls nL lv) (hst : st = As.reverse ++ .ref b :: rest) (hroom : (rest.map fun v => v.category).sum ≤ 8) (hdg : decode cc pc = .ok (.invokevirtual index, 3))
    (kk : ∀ (w1 : va_W) (H1 : Heap) (locs1 : List Loc), post w1 → Wd G s A (w1 ++ wr) H1 locs1 → W p l e R s m args below meth c H1 locs1 (cells + mc) (slots + ms) Q (F0 m (pc + 3) ls rest)) : W p l e R s m args below meth c H locs cells slots Q (F0 m pc ls st) := by
  subst hws
  refine va_callv (va_runV (As := As) (rest := rest) F.fix (hM H.size) (cwV nA0 F.ts hg hw rfl rfl hd hRm) ⟨PreW.blind, va_recv w.2.2.2.1 (fun k q hq => w.1 k q (front_at k q hq)) hc he, PreW.front w _⟩ rfl hAs hl.1 hst (lv_room hroom) hdg hcs) w.2.2.1 (fun q _ h => w.free q h) w.free (fun u t H1 locs1 ht hvm hpost hB hz hk hS => kk u H1 locs1 hpost ?_)
  obtain ⟨hP1, -, hD1⟩ := hB
  rw [ht] at hP1
  exact w.join hk hP1 hD1 hS
end BIG

