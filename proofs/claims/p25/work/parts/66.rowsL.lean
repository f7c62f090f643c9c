/-! ===== p25: rows for the law's own methods ===== -/
abbrev lawX (a1 a2 a3 q0 v0 q1 v1 q2 v2 : Nat) : XF := fun A U H => hiX a1 a2 a3 A U H ∧ wrdX q0 v0 q1 v1 q2 v2 A U H
theorem fine_law (a1 a2 a3 q0 v0 q1 v1 q2 v2 : Nat) : fineX (lawX a1 a2 a3 q0 v0 q1 v1 q2 v2) := (fine_hi a1 a2 a3).and (fine_wrd q0 v0 q1 v1 q2 v2)
def scrX (b L : Nat) (xs : Nat → Int32) : XF := fun A U H => va_X b L xs U H ∧ b < H.size ∧ ¬ A b
theorem fine_scr (b L : Nat) (xs : Nat → Int32) : fineX (scrX b L xs) := by
  refine ⟨fun hv q => ⟨va_X.moved (x_alike hv) q.1, q.2⟩, fun q hq => ?_, fun q hq => ⟨q.1, q.2.1, fun z => q.2.2 (hq _ z)⟩⟩
  have e := hq _ q.2.1 q.2.2
  refine ⟨va_X.kept q.1 e, ?_, q.2.2⟩
  obtain ⟨scr, h1, -⟩ := q.1
  exact (Array.getElem?_eq_some_iff.mp (e.trans h1)).1
/-- the object, as it stands in the heap -/
def CW (G : KG) (s : State) (A : Nat → Prop) (H : Heap) (locs : List Loc) (b : Nat) (P : Nat → Nat) (n : Nat) (h : Nat → Nat → Nat) : Prop := ∃ ws, CS G b P 0 (fun _ => 0) n h ws ∧ Wd G s A ws H locs
abbrev SI (P : Nat → Nat) (n : Nat) (h : Nat → Nat → Nat) : Prop := SInv P 0 (fun _ => 0) n h
/-- a method of the class: what it answers, what it makes of the object -/
abbrev KC (l : Launch) (G : KG) (X : XF) (y : MethodName) (Wy : List Cond) (k : Nat) (as : List Value) (P : Nat → Nat) (n : Nat) (h : Nat → Nat → Nat) (an : Int32) (P' : Nat → Nat) (n' : Nat) (h' : Nat → Nat → Nat) : Prop :=
  ∀ b, CallC l G X y Wy k as (CS G b P 0 (fun _ => 0) n h) b 7 (fun r v => r = an ∧ CS G b P' 0 (fun _ => 0) n' h' v)
/-- a method of the law's that is given the object -/
abbrev KL (l : Launch) (G : KG) (X : XF) (y : MethodName) (Wy : List Cond) (k : Nat) (b : Nat) (as : List Value) (P : Nat → Nat) (n : Nat) (h : Nat → Nat → Nat) (an : Int32) (post : va_W → Prop) : Prop :=
  ∀ ws, CS G b P 0 (fun _ => 0) n h ws → MetIX l y Wy k G ws (.ref b :: as) X (fun r v => r = an ∧ post v)
section LR
variable {p : Program} {l : Launch} {e : Env} {R : Room} {s : State} {m : MethodId} {args : Array Value} {below : List Frame} {meth : Method} {c : Code} {H : Heap} {locs : List Loc} {cells slots : Nat} {Q : State → Prop}
variable {cc : ByteArray} {nL : Nat} {own : String} {Ts : List Cond} {ret : Option FieldType} {G : KG} {A : Nat → Prop} {ws wc wr : va_W} {pc : Nat} {ls : Array Slot} {rest st : List Value} {X : XF}
variable {nA0 : Nat} {y : MethodName} {Wy W' : List Cond} {bytes : ByteArray} {maxL index k b : Nat} {rt : Option FieldType} {As : List Value} {lv : List (Nat × Value)}
variable {P P' : Nat → Nat} {n n' : Nat} {h h' : Nat → Nat → Nat} {an : Int32}
theorem x_callSJ {post : Int32 → va_W → Prop} (hf : fineX X) (hX : X A s s.heap) (F : Fx p s m args meth c cc nL own Ts ret) (w : Wd G s A ws H locs) (hM : MetIX l y Wy k G wc As X post) (hws : ws = wc ++ wr) (hg : GoodIn Ts (va_wsS own index y Wy)) (hw : Wy = Cond.code y bytes maxL rt :: W')
    (hd : y.cls ≠ "java/lang/invoke/MethodHandle" ∧ y.cls ≠ "java/lang/invoke/VarHandle" ∧ (parseMethodDescriptor y.desc).map (fun d => d.parameters.length) = some nA0) (hAs : As.length = nA0) (hRm : k + 1 ≤ R.frames ∧ 8 + (maxL + 11) + 30 * k ≤ R.locals) (hcs : cells ≤ R.cells ∧ slots ≤ R.slots)
    (hl : lv_has ls nL lv) (hst : st = As.reverse ++ rest) (hroom : (rest.map fun v => v.category).sum ≤ 8) (hdg : decode cc pc = .ok (.invokestatic index, 3))
    (kk : ∀ (r : Int32) (w1 : va_W) (H1 : Heap) (locs1 : List Loc), post r w1 → Wd G s A (w1 ++ wr) H1 locs1 → W p l e R s m args below meth c H1 locs1 cells slots Q (F0 m (pc + 3) ls (.int r :: rest))) : W p l e R s m args below meth c H locs cells slots Q (F0 m pc ls st) := by
  subst hws
  refine va_calli (va_runS (As := As) (rest := rest) F.fix (hM H.size) (va_cwS nA0 F.ts hg hw rfl rfl hd hRm) ⟨PreX.blind hf, PreX.front hf w hX _⟩ rfl hAs hl.1 hst (lv_room hroom) hdg hcs) w.2.2.1 (fun q _ h => w.free q h) w.free (fun r u t H1 locs1 ht hvm hpost hB hz hk hS => kk r u H1 locs1 hpost ?_)
  obtain ⟨hP1, -, hD1⟩ := hB
  rw [ht] at hP1
  exact w.join hk hP1 hD1 hS
theorem k_call (hf : fineX X) (hX : X A s s.heap) (F : Fx p s m args meth c cc nL own Ts ret) (w : CW G s A H locs b P n h) (hC : KC l G X y Wy k As P n h an P' n' h') (hg : GoodIn Ts (wsV own index RX7 y Wy)) (hw : Wy = Cond.code y bytes maxL rt :: W')
    (hd : y.cls = RX7 ∧ y.cls ≠ "java/lang/invoke/MethodHandle" ∧ y.cls ≠ "java/lang/invoke/VarHandle" ∧ (parseMethodDescriptor y.desc).map (fun d => d.parameters.length) = some nA0) (hAs : As.length = nA0) (hRm : k + 1 ≤ R.frames ∧ 8 + (maxL + 11) + 30 * k ≤ R.locals) (hcs : cells ≤ R.cells ∧ slots ≤ R.slots)
    (hl : lv_has ls nL lv) (hst : st = As.reverse ++ .ref b :: rest) (hroom : (rest.map fun v => v.category).sum ≤ 8) (hdg : decode cc pc = .ok (.invokevirtual index, 3))
    (kk : ∀ (H1 : Heap) (locs1 : List Loc), CW G s A H1 locs1 b P' n' h' → W p l e R s m args below meth c H1 locs1 cells slots Q (F0 m (pc + 3) ls (.int an :: rest))) : W p l e R s m args below meth c H locs cells slots Q (F0 m pc ls st) := by
  obtain ⟨ws, hc, w⟩ := w
  refine q_call (wm := []) (T := TX7) (N := 5) hf hX F (w.is (List.append_nil ws).symm) (hC b) hc hg hw hd hAs hRm hcs rfl hl hst hroom hdg (fun r w1 H1 locs1 hv w1' => ?_)
  obtain ⟨rfl, hv⟩ := hv
  exact kk H1 locs1 ⟨w1, hv, w1'.is (List.append_nil w1)⟩
theorem k_callL {post : va_W → Prop} (hf : fineX X) (hX : X A s s.heap) (F : Fx p s m args meth c cc nL own Ts ret) (w : CW G s A H locs b P n h) (hM : KL l G X y Wy k b As P n h an post) (hg : GoodIn Ts (va_wsS own index y Wy)) (hw : Wy = Cond.code y bytes maxL rt :: W')
    (hd : y.cls ≠ "java/lang/invoke/MethodHandle" ∧ y.cls ≠ "java/lang/invoke/VarHandle" ∧ (parseMethodDescriptor y.desc).map (fun d => d.parameters.length) = some nA0) (hAs : As.length + 1 = nA0) (hRm : k + 1 ≤ R.frames ∧ 8 + (maxL + 11) + 30 * k ≤ R.locals) (hcs : cells ≤ R.cells ∧ slots ≤ R.slots)
    (hl : lv_has ls nL lv) (hst : st = As.reverse ++ .ref b :: rest) (hroom : (rest.map fun v => v.category).sum ≤ 8) (hdg : decode cc pc = .ok (.invokestatic index, 3))
    (kk : ∀ (w1 : va_W) (H1 : Heap) (locs1 : List Loc), post w1 → Wd G s A w1 H1 locs1 → W p l e R s m args below meth c H1 locs1 cells slots Q (F0 m (pc + 3) ls (.int an :: rest))) : W p l e R s m args below meth c H locs cells slots Q (F0 m pc ls st) := by
  obtain ⟨ws, hc, w⟩ := w
  refine x_callSJ (wr := []) (As := .ref b :: As) hf hX F w (hM ws hc) (List.append_nil ws).symm hg hw hd hAs hRm hcs hl (hst.trans (by rw [List.reverse_cons, List.append_assoc]; rfl)) hroom hdg (fun r w1 H1 locs1 hv w1' => ?_)
  obtain ⟨rfl, hv⟩ := hv
  exact kk w1 H1 locs1 hv (w1'.is (List.append_nil w1))
/-- a static method that touches no cell, beside the object -/
theorem k_call0 {post : Int32 → Prop} (hf : fineX X) (hX : X A s s.heap) (F : Fx p s m args meth c cc nL own Ts ret) (w : CW G s A H locs b P n h) (hM : MetIX l y Wy k G [] As X (fun r v => post r ∧ v = [])) (hg : GoodIn Ts (va_wsS own index y Wy)) (hw : Wy = Cond.code y bytes maxL rt :: W')
    (hd : y.cls ≠ "java/lang/invoke/MethodHandle" ∧ y.cls ≠ "java/lang/invoke/VarHandle" ∧ (parseMethodDescriptor y.desc).map (fun d => d.parameters.length) = some nA0) (hAs : As.length = nA0) (hRm : k + 1 ≤ R.frames ∧ 8 + (maxL + 11) + 30 * k ≤ R.locals) (hcs : cells ≤ R.cells ∧ slots ≤ R.slots)
    (hl : lv_has ls nL lv) (hst : st = As.reverse ++ rest) (hroom : (rest.map fun v => v.category).sum ≤ 8) (hdg : decode cc pc = .ok (.invokestatic index, 3))
    (kk : ∀ (r : Int32) (H1 : Heap) (locs1 : List Loc), post r → CW G s A H1 locs1 b P n h → W p l e R s m args below meth c H1 locs1 cells slots Q (F0 m (pc + 3) ls (.int r :: rest))) : W p l e R s m args below meth c H locs cells slots Q (F0 m pc ls st) := by
  obtain ⟨ws, hc, w⟩ := w
  refine x_callSJ (wc := []) (wr := ws) hf hX F w hM rfl hg hw hd hAs hRm hcs hl hst hroom hdg (fun r w1 H1 locs1 hv w1' => ?_)
  obtain ⟨hv, rfl⟩ := hv
  exact kk r H1 locs1 hv ⟨ws, hc, w1'⟩
end LR
