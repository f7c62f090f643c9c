/-! ===== methods that also read statics: what is known of them beside the world ===== -/
abbrev XF : Type := (Nat → Prop) → State → Heap → Prop
abbrev fineX (X : XF) : Prop := (∀ {A : Nat → Prop} {u U : State} {H : Heap}, u.WarmedH U.vm ∨ U.vm = u.vm → X A u H → X A U H) ∧ (∀ {A : Nat → Prop} {U : State} {H H1 : Heap}, X A U H → (∀ a : Nat, a < H.size → ¬ A a → H1[a]? = H[a]?) → X A U H1) ∧ (∀ {A B : Nat → Prop} {U : State} {H : Heap}, X A U H → (∀ q, B q → A q) → X B U H)
theorem fineX.and {X Y : XF} (h1 : fineX X) (h2 : fineX Y) : fineX (fun A U H => X A U H ∧ Y A U H) :=
  ⟨fun hv q => ⟨h1.1 hv q.1, h2.1 hv q.2⟩, fun q hq => ⟨h1.2.1 q.1 hq, h2.2.1 q.2 hq⟩, fun q hq => ⟨h1.2.2 q.1 hq, h2.2.2 q.2 hq⟩⟩
theorem x_alike {u U : State} (h : u.WarmedH U.vm ∨ U.vm = u.vm) : u.vm.Alike U.vm := by
  rcases h with h | h
  · exact h.alike
  · rw [h]; exact Vm.Alike.refl _
theorem fineX.Z {C n d : String} {v : Value} : fineX (fun A U H => va_Z C n d v A U H) := ⟨fun hv q => va_Z.moved (x_alike hv) q, fun q hq => va_Z.kept q hq, fun q hq => va_Z.narrow q hq⟩
theorem fineX.T {ty : FieldType} {t N : Nat} {f : Nat → Value} : fineX (fun A U H => va_T ty t N f A U H) := ⟨fun hv q => va_T.moved (x_alike hv) q, fun q hq => va_T.kept q hq, fun q hq => va_T.narrow q hq⟩
def PreX (G : KG) (ws : va_W) (sz : Nat) (as : List Value) (X : XF) : Array Value → State → Prop :=
  va_Pc as (fun U => U.heap.size = sz ∧ va_P G.1 vwCl ws U.heap ∧ va_K G.1 vwCl (tysF G) U ∧ va_D (fun _ => True) ws ∧ X (va_A ws sz) U U.heap)
def MetIX (l : Launch) (y : MethodName) (W : List Cond) (k : Nat) (G : KG) (ws : va_W) (as : List Value) (X : XF) (post : Int32 → va_W → Prop) : Prop :=
  ∀ sz : Nat, Met l y W (rmK k 0 0) (PreX G ws sz as X) (QI G ws sz post) 0 0 (va_A ws sz)
def MetVX (l : Launch) (y : MethodName) (W : List Cond) (k mc ms : Nat) (G : KG) (ws : va_W) (as : List Value) (X : XF) (post : va_W → Prop) : Prop :=
  ∀ sz : Nat, Met l y W (rmK k mc ms) (PreX G ws sz as X) (QV G ws sz post) mc ms (va_A ws sz)
theorem MetIX.by {l : Launch} {y : MethodName} {Ts W' : List Cond} {k : Nat} {G : KG} {ws : va_W} {as : List Value} {X : XF} {post : Int32 → va_W → Prop} {cc : ByteArray} {nL : Nat} {ret : Option FieldType} (hy : plainName y.cls = true) (hw : Ts = Cond.code y cc nL ret :: W') (hn : (lg_sl as).length ≤ nL)
    (body : ∀ (p : Program) (e : Env) (s : State) (m : MethodId) (args : Array Value) (below : List Frame) (meth : Method) (c : Code), Fx p s m args meth c cc nL y.cls Ts ret → X (va_A ws s.heap.size) s s.heap → Wd G s (va_A ws s.heap.size) ws s.heap [] → ∀ ls : Array Slot, lv_has ls nL (lv_args 0 as) →
      W p l e (rmK k 0 0) s m args below meth c s.heap [] 0 0 (MQ below (QI G ws s.heap.size post) args s 0 0 (va_A ws s.heap.size)) (F0 m 0 ls [])) : MetIX l y Ts k G ws as X post := by
  intro sz
  refine Met.ofW (cc := cc) (maxL := nL) (ret := ret) hy hw ?_
  intro p e s m args below meth c s₁ B hml hv
  obtain ⟨rfl, hsz, hP, hK, hD, hX⟩ := hv
  subst hsz
  rw [lg_entry_eq]
  exact body p e s m _ below meth c ⟨B.exec, B.bytes, hml, findClass_of_methodNamed B.named, atoms_spec (ws := Ts) B.pre, B.returns, B.notSynchronized⟩ hX ⟨hP, hD.self, va_S.rf, hK, fun q h => Or.inr h⟩ _ (lv_entry as hn)
theorem MetVX.by {l : Launch} {y : MethodName} {Ts W' : List Cond} {k mc ms : Nat} {G : KG} {ws : va_W} {as : List Value} {X : XF} {post : va_W → Prop} {cc : ByteArray} {nL : Nat} {ret : Option FieldType} (hy : plainName y.cls = true) (hw : Ts = Cond.code y cc nL ret :: W') (hn : (lg_sl as).length ≤ nL)
    (body : ∀ (p : Program) (e : Env) (s : State) (m : MethodId) (args : Array Value) (below : List Frame) (meth : Method) (c : Code), Fx p s m args meth c cc nL y.cls Ts ret → meth.name = y.name → X (va_A ws s.heap.size) s s.heap → Wd G s (va_A ws s.heap.size) ws s.heap [] → ∀ ls : Array Slot, lv_has ls nL (lv_args 0 as) →
      W p l e (rmK k mc ms) s m args below meth c s.heap [] 0 0 (MQ below (QV G ws s.heap.size post) args s mc ms (va_A ws s.heap.size)) (F0 m 0 ls [])) : MetVX l y Ts k mc ms G ws as X post := by
  intro sz
  refine Met.ofW (cc := cc) (maxL := nL) (ret := ret) hy hw ?_
  intro p e s m args below meth c s₁ B hml hv
  obtain ⟨rfl, hsz, hP, hK, hD, hX⟩ := hv
  subst hsz
  rw [lg_entry_eq]
  exact body p e s m _ below meth c ⟨B.exec, B.bytes, hml, findClass_of_methodNamed B.named, atoms_spec (ws := Ts) B.pre, B.returns, B.notSynchronized⟩ (name_of_methodNamed B.named B.method).1 hX ⟨hP, hD.self, va_S.rf, hK, fun q h => Or.inr h⟩ _ (lv_entry as hn)
theorem MetI.X {l : Launch} {y : MethodName} {Ts : List Cond} {k : Nat} {G : KG} {ws : va_W} {as : List Value} {X : XF} {post : Int32 → va_W → Prop} (h : MetI l y Ts k G ws as post) (hm : ∀ {ts : List Cond} {r : Room} {P P' : Array Value → State → Prop} {Q : Array Value → State → Outcome → State → Prop} {a b : Nat} {f : Addr → Prop}, (∀ v U, P' v U → P v U) → Met l y ts r P Q a b f → Met l y ts r P' Q a b f) : MetIX l y Ts k G ws as X post :=
  fun sz => hm (fun v U q => ⟨q.1, q.2.1, q.2.2.1, q.2.2.2.1, q.2.2.2.2.1⟩) (h sz)
theorem PreX.blind {G : KG} {ws : va_W} {sz : Nat} {as : List Value} {X : XF} (hf : fineX X) : FrameBlind (PreX G ws sz as X) := fun a U g mk q => by
  obtain ⟨h1, h2, h3, h4, h5, h6⟩ := q
  exact ⟨h1, h2, h3, va_K.moved (u := U) (U := U.calling g mk a) (Vm.Alike.refl U.vm) h4, h5, hf.1 (u := U) (U := U.calling g mk a) (Or.inr rfl) h6⟩
section RX
variable {p : Program} {l : Launch} {e : Env} {R : Room} {s : State} {m : MethodId} {args : Array Value} {below : List Frame} {meth : Method} {c : Code} {H : Heap} {locs : List Loc} {cells slots : Nat} {Q : State → Prop}
variable {cc : ByteArray} {nL : Nat} {own : String} {Ts : List Cond} {ret : Option FieldType} {G : KG} {A : Nat → Prop} {ws wc wr : va_W} {pc : Nat} {ls : Array Slot} {rest st : List Value}
variable {a : Array Value} {mc ms : Nat} {X : XF}
theorem PreX.front (hf : fineX X) (w : Wd G s A (wc ++ wr) H locs) (hX : X A s s.heap) (as : List Value) : ∀ U : State, U.heap = H → s.WarmedH U.vm → PreX G wc H.size as X as.toArray U := fun U hU hW =>
  ⟨rfl, by rw [hU], by rw [hU]; exact fun k q hq => w.1 k q (front_at k q hq), va_K.moved hW.alike w.2.2.2.1, ⟨fun i j x y hx hy hxy => w.2.1.1 i j x y (front_at i x hx) (front_at j y hy) hxy, fun _ _ _ => trivial⟩,
    hf.1 (Or.inl hW) (by rw [hU]; exact hf.2.2 (hf.2.1 hX (fun q h1 h2 => w.2.2.1.2.1 q h1 h2)) w.free)⟩
variable {nA0 : Nat} {y : MethodName} {Wy W' : List Cond} {bytes : ByteArray} {maxL index k ci b N : Nat} {rt : Option FieldType} {As : List Value} {C : String} {T : u_T} {fs : List Value} {lv : List (Nat × Value)}
theorem x_callVI {post : Int32 → va_W → Prop} (hf : fineX X) (hX : X A s s.heap) (F : Fx p s m args meth c cc nL own Ts ret) (w : Wd G s A ws H locs) (hM : MetIX l y Wy k G wc (.ref b :: As) X post) (hws : ws = wc ++ wr) (hg : GoodIn Ts (wsV own index C y Wy)) (hw : Wy = Cond.code y bytes maxL rt :: W')
    (hd : y.cls = C ∧ y.cls ≠ "java/lang/invoke/MethodHandle" ∧ y.cls ≠ "java/lang/invoke/VarHandle" ∧ (parseMethodDescriptor y.desc).map (fun d => d.parameters.length) = some nA0) (hAs : As.length = nA0) (hRm : k + 1 ≤ R.frames ∧ 8 + (maxL + 11) + 30 * k ≤ R.locals) (hcs : cells ≤ R.cells ∧ slots ≤ R.slots)
    (he : wc[0]? = some (b, .inr (ci, fs))) (hc : vwCl[ci]? = some (C, T, N)) (hl : lv_has ls nL lv) (hst : st = As.reverse ++ .ref b :: rest) (hroom : (rest.map fun v => v.category).sum ≤ 8) (hdg : decode cc pc = .ok (.invokevirtual index, 3))
    (kk : ∀ (r : Int32) (w1 : va_W) (H1 : Heap) (locs1 : List Loc), post r w1 → Wd G s A (w1 ++ wr) H1 locs1 → W p l e R s m args below meth c H1 locs1 cells slots Q (F0 m (pc + 3) ls (.int r :: rest))) : W p l e R s m args below meth c H locs cells slots Q (F0 m pc ls st) := by
  subst hws
  refine va_calli (va_runV (As := As) (rest := rest) F.fix (hM H.size) (cwV nA0 F.ts hg hw rfl rfl hd hRm) ⟨PreX.blind hf, va_recv w.2.2.2.1 (fun k q hq => w.1 k q (front_at k q hq)) hc he, PreX.front hf w hX _⟩ rfl hAs hl.1 hst (lv_room hroom) hdg hcs) w.2.2.1 (fun q _ h => w.free q h) w.free (fun r u t H1 locs1 ht hvm hpost hB hz hk hS => kk r u H1 locs1 hpost ?_)
  obtain ⟨hP1, -, hD1⟩ := hB
  rw [ht] at hP1
  exact w.join hk hP1 hD1 hS
theorem x_callVV {post : va_W → Prop} (hf : fineX X) (hX : X A s s.heap) (F : Fx p s m args meth c cc nL own Ts ret) (w : Wd G s A ws H locs) (hM : MetVX l y Wy k mc ms G wc (.ref b :: As) X post) (hws : ws = wc ++ wr) (hg : GoodIn Ts (wsV own index C y Wy)) (hw : Wy = Cond.code y bytes maxL rt :: W')
    (hd : y.cls = C ∧ y.cls ≠ "java/lang/invoke/MethodHandle" ∧ y.cls ≠ "java/lang/invoke/VarHandle" ∧ (parseMethodDescriptor y.desc).map (fun d => d.parameters.length) = some nA0) (hAs : As.length = nA0) (hRm : k + 1 ≤ R.frames ∧ 8 + (maxL + 11) + 30 * k ≤ R.locals) (hcs : cells + mc ≤ R.cells ∧ slots + ms ≤ R.slots)
    (he : wc[0]? = some (b, .inr (ci, fs))) (hc : vwCl[ci]? = some (C, T, N)) (hl : lv_has ls nL lv) (hst : st = As.reverse ++ .ref b :: rest) (hroom : (rest.map fun v => v.category).sum ≤ 8) (hdg : decode cc pc = .ok (.invokevirtual index, 3))
    (kk : ∀ (w1 : va_W) (H1 : Heap) (locs1 : List Loc), post w1 → Wd G s A (w1 ++ wr) H1 locs1 → W p l e R s m args below meth c H1 locs1 (cells + mc) (slots + ms) Q (F0 m (pc + 3) ls rest)) : W p l e R s m args below meth c H locs cells slots Q (F0 m pc ls st) := by
  subst hws
  refine va_callv (va_runV (As := As) (rest := rest) F.fix (hM H.size) (cwV nA0 F.ts hg hw rfl rfl hd hRm) ⟨PreX.blind hf, va_recv w.2.2.2.1 (fun k q hq => w.1 k q (front_at k q hq)) hc he, PreX.front hf w hX _⟩ rfl hAs hl.1 hst (lv_room hroom) hdg hcs) w.2.2.1 (fun q _ h => w.free q h) w.free (fun u t H1 locs1 ht hvm hpost hB hz hk hS => kk u H1 locs1 hpost ?_)
  obtain ⟨hP1, -, hD1⟩ := hB
  rw [ht] at hP1
  exact w.join hk hP1 hD1 hS
theorem r_gets {C n d ref : String} {v : Value} (F : Fx p s m args meth c cc nL own Ts ret) (w : Wd G s A ws H locs) (hZ : va_Z C n d v A s s.heap) (hlink : (Cond.fieldLink own index ref n d).before args s = true) (hsame : ref = C) (hdg : decode cc pc = .ok (.getstatic index, 3))
    (kk : W p l e R s m args below meth c H locs cells slots Q (F0 m (pc + 3) ls (v :: rest))) : W p l e R s m args below meth c H locs cells slots Q (F0 m pc ls rest) :=
  va_gets F.1 F.2.1 hZ w.2.2.1 F.2.2.2.1 hlink (fun x h => by rw [hsame]; exact h) hdg kk
theorem r_tald {t n i : Nat} {f : Nat → Nat} (F : Fx p s m args meth c cc nL own Ts ret) (w : Wd G s A ws H locs) (hT : va_T .int t n (fun k => .int (nI (f k))) A s s.heap) (hi : i < n) (hn : n < 2 ^ 31) (hdg : decode cc pc = .ok (.iaload, 1))
    (kk : W p l e R s m args below meth c H locs cells slots Q (F0 m (pc + 1) ls (.int (nI (f i)) :: rest))) : W p l e R s m args below meth c H locs cells slots Q (F0 m pc ls (.int (nI i) :: .ref t :: rest)) :=
  va_ti F.1 F.2.1 hT w.2.2.1 (vp_in_nI hi hn) (v := .int (nI (f i))) (by rw [nI_clamp (Nat.lt_trans hi hn)]) hdg kk
end RX
/-- the plate's three tables: what they hold -/
def leastF (k : Nat) : Nat := if k = 0 then 0 else if k = 1 then 10 else if k = 2 then 100 else if k = 3 then 1 else if k = 4 then 50 else if k = 5 then 5 else if k = 6 then 50 else 0
def mostF (k : Nat) : Nat := if k = 0 then 200 else if k = 1 then 200 else if k = 2 then 20000 else if k = 3 then 500 else if k = 4 then 5000 else if k = 5 then 200 else if k = 6 then 5000 else 50
def initF (k : Nat) : Nat := if k = 0 then 100 else if k = 1 then 50 else if k = 2 then 2000 else if k = 3 then 60 else if k = 4 then 500 else if k = 5 then 40 else if k = 6 then 500 else 5
def tabX (tl tm ti : Nat) : XF := fun A U H => (va_Z "CoreMelter$Plate" "LEAST" "[I" (.ref tl) A U H ∧ va_T .int tl 8 (fun k => .int (nI (leastF k))) A U H) ∧ (va_Z "CoreMelter$Plate" "MOST" "[I" (.ref tm) A U H ∧ va_T .int tm 8 (fun k => .int (nI (mostF k))) A U H) ∧ (va_Z "CoreMelter$Plate" "INITIAL" "[I" (.ref ti) A U H ∧ va_T .int ti 8 (fun k => .int (nI (initF k))) A U H)
theorem fine_tab (tl tm ti : Nat) : fineX (tabX tl tm ti) := (fineX.Z.and fineX.T).and ((fineX.Z.and fineX.T).and (fineX.Z.and fineX.T))
theorem set_ok (P : Nat → Nat) {w v : Nat} (hw : w < 8) (h1 : leastF w ≤ v) (h2 : v ≤ mostF w) (hT : SetOk P) : SetOk (up P w v) := by
  unfold SetOk at hT ⊢
  unfold leastF at h1
  unfold mostF at h2
  rcases (show w = 0 ∨ w = 1 ∨ w = 2 ∨ w = 3 ∨ w = 4 ∨ w = 5 ∨ w = 6 ∨ w = 7 by omega) with rfl | rfl | rfl | rfl | rfl | rfl | rfl | rfl <;> simp [up] at h1 h2 ⊢ <;> omega
theorem set_told {P : Nat → Nat} (h8 : P 8 ≤ 20) {w v : Nat} (hw : w < 8) : toldF (up P w v) = toldF P := toldF_cg h8 (fun k hk => up_n _ _ (by omega))
theorem set_watF {P : Nat → Nat} (h8 : P 8 ≤ 20) {w v : Nat} (hw : w < 8) : watF (up P w v) = watF P := by
  unfold watF
  rw [set_told h8 hw, up_n _ _ (show (8 : Nat) ≠ w by omega)]
  exact wat_cg (fun k hk => ⟨up_n _ _ (by omega), up_n _ _ (by omega)⟩)
theorem set_top {P : Nat → Nat} {w v : Nat} (hw : w < 8) : top (up P w v) = top P := by
  unfold top
  rw [up_n _ _ (show (8 : Nat) ≠ w by omega)]
  exact low_congr (fun k hk => up_n _ _ (by omega))

