/-! ===== calls of constructors ===== -/
theorem fineX.N {own host : String} {index : Nat} {y : MethodName} : fineX (fun _ U _ => va_Nw (.methodLinkNest own index y host) U) := ⟨fun hv q => hv.elim (fun hW => va_Nw.warmM hW q) (fun e => va_Nw.same rfl e.symm q), fun q _ => q, fun q _ => q⟩
section RI
variable {p : Program} {l : Launch} {e : Env} {R : Room} {s : State} {m : MethodId} {args : Array Value} {below : List Frame} {meth : Method} {c : Code} {H : Heap} {locs : List Loc} {cells slots : Nat} {Q : State → Prop}
variable {cc : ByteArray} {nL : Nat} {own host : String} {Ts : List Cond} {ret : Option FieldType} {G : KG} {A : Nat → Prop} {ws wc wr : va_W} {pc : Nat} {ls : Array Slot} {rest st : List Value}
variable {mc ms : Nat} {X : XF}
variable {nA0 : Nat} {y : MethodName} {Wy W' : List Cond} {bytes : ByteArray} {maxL index k b : Nat} {As : List Value} {lv : List (Nat × Value)}
theorem i_callN {post : va_W → Prop} (F : Fx p s m args meth c cc nL own Ts ret) (w : Wd G s A ws H locs) (hM : MetV l y Wy k mc ms G wc (.ref b :: As) post) (hws : List.Perm ws (wc ++ wr)) (hN : va_Nw (.methodLinkNest own index y host) s) (hG : GoodIn Ts Wy) (hini : (Cond.initialized y.cls).before args s = true) (hinst : (Cond.instanceMethod y).before args s = true) (hw : Wy = Cond.code y bytes maxL none :: W') (hnm : y.name = "<init>")
    (hd : y.cls ≠ "java/lang/invoke/MethodHandle" ∧ y.cls ≠ "java/lang/invoke/VarHandle" ∧ (parseMethodDescriptor y.desc).map (fun d => d.parameters.length) = some nA0) (hAs : As.length = nA0) (hRm : k + 1 ≤ R.frames ∧ 8 + (maxL + 11) + 30 * k ≤ R.locals) (hcs : cells + mc ≤ R.cells ∧ slots + ms ≤ R.slots)
    (hl : lv_has ls nL lv) (hst : st = As.reverse ++ .ref b :: rest) (hroom : (rest.map fun v => v.category).sum ≤ 8) (hdg : decode cc pc = .ok (.invokespecial index, 3))
    (kk : ∀ (w1 : va_W) (H1 : Heap) (locs1 : List Loc), post w1 → Wd G s A (w1 ++ wr) H1 locs1 → W p l e R s m args below meth c H1 locs1 (cells + mc) (slots + ms) Q (F0 m (pc + 3) ls rest)) : W p l e R s m args below meth c H locs cells slots Q (F0 m pc ls st) := by
  have w := w.perm hws
  refine va_callv (va_runIN (As := As) (rest := rest) F.fix (hM H.size) ⟨va_cnB nA0 F.ts hG hw rfl rfl hN hini hd hRm, hnm, hinst⟩ ⟨PreW.blind, PreW.front w _⟩ rfl hAs hl.1 hst (lv_room hroom) hdg hcs) w.2.2.1 (fun q _ h => w.free q h) w.free (fun u t H1 locs1 ht hvm hpost hB hz hk hS => kk u H1 locs1 hpost ?_)
  obtain ⟨hP1, -, hD1⟩ := hB
  rw [ht] at hP1
  exact w.join hk hP1 hD1 hS
theorem i_callNX {post : va_W → Prop} (hf : fineX X) (hX : X A s s.heap) (F : Fx p s m args meth c cc nL own Ts ret) (w : Wd G s A ws H locs) (hM : MetVX l y Wy k mc ms G wc (.ref b :: As) X post) (hws : List.Perm ws (wc ++ wr)) (hN : va_Nw (.methodLinkNest own index y host) s) (hG : GoodIn Ts Wy) (hini : (Cond.initialized y.cls).before args s = true) (hinst : (Cond.instanceMethod y).before args s = true) (hw : Wy = Cond.code y bytes maxL none :: W') (hnm : y.name = "<init>")
    (hd : y.cls ≠ "java/lang/invoke/MethodHandle" ∧ y.cls ≠ "java/lang/invoke/VarHandle" ∧ (parseMethodDescriptor y.desc).map (fun d => d.parameters.length) = some nA0) (hAs : As.length = nA0) (hRm : k + 1 ≤ R.frames ∧ 8 + (maxL + 11) + 30 * k ≤ R.locals) (hcs : cells + mc ≤ R.cells ∧ slots + ms ≤ R.slots)
    (hl : lv_has ls nL lv) (hst : st = As.reverse ++ .ref b :: rest) (hroom : (rest.map fun v => v.category).sum ≤ 8) (hdg : decode cc pc = .ok (.invokespecial index, 3))
    (kk : ∀ (w1 : va_W) (H1 : Heap) (locs1 : List Loc), post w1 → Wd G s A (w1 ++ wr) H1 locs1 → W p l e R s m args below meth c H1 locs1 (cells + mc) (slots + ms) Q (F0 m (pc + 3) ls rest)) : W p l e R s m args below meth c H locs cells slots Q (F0 m pc ls st) := by
  have w := w.perm hws
  refine va_callv (va_runIN (As := As) (rest := rest) F.fix (hM H.size) ⟨va_cnB nA0 F.ts hG hw rfl rfl hN hini hd hRm, hnm, hinst⟩ ⟨PreX.blind hf, PreX.front hf w hX _⟩ rfl hAs hl.1 hst (lv_room hroom) hdg hcs) w.2.2.1 (fun q _ h => w.free q h) w.free (fun u t H1 locs1 ht hvm hpost hB hz hk hS => kk u H1 locs1 hpost ?_)
  obtain ⟨hP1, -, hD1⟩ := hB
  rw [ht] at hP1
  exact w.join hk hP1 hD1 hS
theorem i_callX {post : va_W → Prop} (hf : fineX X) (hX : X A s s.heap) (F : Fx p s m args meth c cc nL own Ts ret) (w : Wd G s A ws H locs) (hM : MetVX l y Wy k mc ms G wc (.ref b :: As) X post) (hws : List.Perm ws (wc ++ wr)) (hlk : (Cond.methodLink own index y).before args s = true) (hG : GoodIn Ts Wy) (hini : (Cond.initialized y.cls).before args s = true) (hinst : (Cond.instanceMethod y).before args s = true) (hw : Wy = Cond.code y bytes maxL none :: W') (hnm : y.name = "<init>")
    (hd : y.cls ≠ "java/lang/invoke/MethodHandle" ∧ y.cls ≠ "java/lang/invoke/VarHandle" ∧ (parseMethodDescriptor y.desc).map (fun d => d.parameters.length) = some nA0) (hAs : As.length = nA0) (hRm : k + 1 ≤ R.frames ∧ 8 + (maxL + 11) + 30 * k ≤ R.locals) (hcs : cells + mc ≤ R.cells ∧ slots + ms ≤ R.slots)
    (hl : lv_has ls nL lv) (hst : st = As.reverse ++ .ref b :: rest) (hroom : (rest.map fun v => v.category).sum ≤ 8) (hdg : decode cc pc = .ok (.invokespecial index, 3))
    (kk : ∀ (w1 : va_W) (H1 : Heap) (locs1 : List Loc), post w1 → Wd G s A (w1 ++ wr) H1 locs1 → W p l e R s m args below meth c H1 locs1 (cells + mc) (slots + ms) Q (F0 m (pc + 3) ls rest)) : W p l e R s m args below meth c H locs cells slots Q (F0 m pc ls st) := by
  have w := w.perm hws
  refine va_callv (va_runI (As := As) (rest := rest) F.fix (hM H.size) ⟨callB_of nA0 F.ts hG hw rfl rfl hini hlk hd hRm, hnm, hinst⟩ ⟨PreX.blind hf, PreX.front hf w hX _⟩ rfl hAs hl.1 hst (lv_room hroom) hdg hcs) w.2.2.1 (fun q _ h => w.free q h) w.free (fun u t H1 locs1 ht hvm hpost hB hz hk hS => kk u H1 locs1 hpost ?_)
  obtain ⟨hP1, -, hD1⟩ := hB
  rw [ht] at hP1
  exact w.join hk hP1 hD1 hS
end RI
theorem dfX0 : ∀ j, j < 7 → defaultValue (tyX0 j) = vp_V [.int (nI 0), .int (nI 0), .null, .null, .null, .null, .null] j := fun j hj => by
  rcases (show j = 0 ∨ j = 1 ∨ j = 2 ∨ j = 3 ∨ j = 4 ∨ j = 5 ∨ j = 6 by omega) with rfl | rfl | rfl | rfl | rfl | rfl | rfl <;> rfl
theorem dfX2 : ∀ j, j < 5 → defaultValue (tyX2 j) = vp_V [.null, .null, .null, .null, .null] j := fun j hj => by
  rcases (show j = 0 ∨ j = 1 ∨ j = 2 ∨ j = 3 ∨ j = 4 by omega) with rfl | rfl | rfl | rfl | rfl <;> rfl
theorem dfX6 : ∀ j, j < 5 → defaultValue (tyX6 j) = vp_V [.int (nI 0), .int (nI 0), .null, .null, .null] j := fun j hj => by
  rcases (show j = 0 ∨ j = 1 ∨ j = 2 ∨ j = 3 ∨ j = 4 by omega) with rfl | rfl | rfl | rfl | rfl <;> rfl
/-- the links of the private constructors -/
def nestX : XF := fun _ U _ => (va_Nw (.methodLinkNest RX3 9 yX0_init "CoreMelter") U ∧ va_Nw (.methodLinkNest RX3 18 yX2_init "CoreMelter") U ∧ va_Nw (.methodLinkNest RX3 25 yX6_init "CoreMelter") U) ∧ va_Nw (.methodLinkNest RX4 9 yX0_init "CoreMelter") U ∧ va_Nw (.methodLinkNest RX7 28 yX5_init "CoreMelter") U ∧ va_Nw (.methodLinkNest RX7 35 yX4_init "CoreMelter") U
theorem fine_nest : fineX nestX := (fineX.N.and (fineX.N.and fineX.N)).and (fineX.N.and (fineX.N.and fineX.N))

