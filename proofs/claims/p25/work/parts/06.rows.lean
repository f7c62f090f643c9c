/-! ===== rows of this proof: what stands fixed in a body, a world of cells, and one row an instruction over natural numbers ===== -/
/-- the keys of a world: where the classes are, and the classes of int[], char[] and Plate[] -/
abbrev KG : Type := va_G × ClassId × ClassId × ClassId
def tysF (G : KG) : List (ClassId × FieldType) := [(G.2.1, .int), (G.2.2.1, .char), (G.2.2.2, .object RX3)]
def nA (f : Nat → Nat) : Nat → Int32 := fun k => nI (f k)
def up (f : Nat → Nat) (i x : Nat) : Nat → Nat := fun k => if k = i then x else f k
abbrev cO (a ci : Nat) (fs : List Value) : Nat × va_E := (a, .inr (ci, fs))
abbrev aI (G : KG) (a n : Nat) (f : Nat → Nat) : Nat × va_E := (a, .inl (G.2.1, n, .inl (nA f)))
abbrev aC (G : KG) (a n : Nat) (f : Nat → Nat) : Nat × va_E := (a, .inl (G.2.2.1, n, .inl (nA f)))
abbrev aP (G : KG) (a n : Nat) (f : Nat → Option Nat) : Nat × va_E := (a, .inl (G.2.2.2, n, .inr (.inr (.inr (.inr f)))))
theorem nA_up {f : Nat → Nat} {i x : Nat} (hi : i < 2 ^ 31) : upd (nA f) (nI i).toNatClampNeg (nI x) = nA (up f i x) := by
  rw [nI_clamp hi]
  funext k
  unfold upd nA up
  by_cases h : k = i
  · rw [if_pos h, if_pos h]
  · rw [if_neg h, if_neg h]
theorem up_s (f : Nat → Nat) (i x : Nat) : up f i x i = x := by simp [up]
theorem up_n (f : Nat → Nat) {i k : Nat} (x : Nat) (h : k ≠ i) : up f i x k = f k := by simp [up, h]
/-- what stands fixed while a body is walked -/
def Fx (p : Program) (s : State) (m : MethodId) (args : Array Value) (meth : Method) (c : Code) (cc : ByteArray) (nL : Nat) (own : String) (Ts : List Cond) (ret : Option FieldType) : Prop :=
  p.tables.exec = Jvm.exec ∧ c.code = cc ∧ c.maxLocals = nL ∧ s.vm.findClass own = some m.cls ∧ (∀ w ∈ Ts, w.before args s = true) ∧ meth.sig.returnType = ret ∧ meth.locks = false
theorem Fx.fix {p : Program} {s : State} {m : MethodId} {args : Array Value} {meth : Method} {c : Code} {cc : ByteArray} {nL : Nat} {own : String} {Ts : List Cond} {ret : Option FieldType} (F : Fx p s m args meth c cc nL own Ts ret) : CallFix p m c cc nL s args Ts own := ⟨F.1, F.2.1, F.2.2.1, F.2.2.2.1, F.2.2.2.2.1⟩
theorem Fx.ts {p : Program} {s : State} {m : MethodId} {args : Array Value} {meth : Method} {c : Code} {cc : ByteArray} {nL : Nat} {own : String} {Ts : List Cond} {ret : Option FieldType} (F : Fx p s m args meth c cc nL own Ts ret) : ∀ w ∈ Ts, w.before args s = true := F.2.2.2.2.1
/-- a world, as it stands in the heap H -/
def Wd (G : KG) (s : State) (A : Nat → Prop) (ws : va_W) (H : Heap) (locs : List Loc) : Prop :=
  va_P G.1 vwCl ws H ∧ va_D A ws ∧ va_S A s.heap H locs ∧ va_K G.1 vwCl (tysF G) s ∧ ∀ q : Nat, s.heap.size ≤ q → A q
theorem Wd.sub {G : KG} {s : State} {A : Nat → Prop} {ws ws' : va_W} {H : Heap} {locs : List Loc} (w : Wd G s A ws H locs) (is : List Nat) (hn : va_nd is = true) (hs : is.filterMap (fun i => ws[i]?) = ws') : Wd G s A ws' H locs := by
  refine ⟨w.1.sub is hs, ?_, w.2.2⟩
  subst hs
  have hfm : ∀ (l : List Nat), (∀ i ∈ l, i ∈ is) → va_nd l = true → va_D A (l.filterMap (fun i => ws[i]?)) ∧ ∀ (k : Nat) (q : Nat × va_E), (l.filterMap (fun i => ws[i]?))[k]? = some q → ∃ i ∈ l, ws[i]? = some q := by
    intro l
    induction l with
    | nil => intro _ _; exact ⟨⟨fun i j p q h => by simp at h, fun k q h => by simp at h⟩, fun k q h => by simp at h⟩
    | cons a l ih =>
      intro hl hnd
      simp only [va_nd, Bool.and_eq_true, decide_eq_true_eq] at hnd
      obtain ⟨ih1, ih2⟩ := ih (fun i hi => hl i (List.mem_cons_of_mem _ hi)) hnd.2
      cases ha : ws[a]? with
      | none =>
        rw [List.filterMap_cons_none ha]
        exact ⟨ih1, fun k q h => by obtain ⟨i, hi, h2⟩ := ih2 k q h; exact ⟨i, List.mem_cons_of_mem _ hi, h2⟩⟩
      | some x =>
        rw [List.filterMap_cons_some ha]
        refine ⟨⟨fun i j p q hp hq hpq => ?_, fun k q hk => ?_⟩, fun k q hk => ?_⟩
        · cases i with
          | zero =>
            cases j with
            | zero => rfl
            | succ j =>
              rw [List.getElem?_cons_zero] at hp
              rw [List.getElem?_cons_succ] at hq
              cases hp
              obtain ⟨b, hb, hb2⟩ := ih2 j q hq
              have := w.2.1.1 a b x q ha hb2 hpq
              subst this
              exact absurd hb hnd.1
          | succ i =>
            rw [List.getElem?_cons_succ] at hp
            cases j with
            | zero =>
              rw [List.getElem?_cons_zero] at hq
              cases hq
              obtain ⟨b, hb, hb2⟩ := ih2 i p hp
              have := w.2.1.1 b a p x hb2 ha hpq
              subst this
              exact absurd hb hnd.1
            | succ j =>
              rw [List.getElem?_cons_succ] at hq
              rw [ih1.1 i j p q hp hq hpq]
        · cases k with
          | zero => rw [List.getElem?_cons_zero] at hk; cases hk; exact w.2.1.2 a x ha
          | succ k => rw [List.getElem?_cons_succ] at hk; exact ih1.2 k q hk
        · cases k with
          | zero => rw [List.getElem?_cons_zero] at hk; cases hk; exact ⟨a, List.mem_cons_self, ha⟩
          | succ k =>
            rw [List.getElem?_cons_succ] at hk
            obtain ⟨i, hi, h2⟩ := ih2 k q hk
            exact ⟨i, List.mem_cons_of_mem _ hi, h2⟩
  exact (hfm is (fun _ h => h) hn).1
/-- cells that hold the same -/
def eqE : va_E → va_E → Prop
  | .inl (c, n, .inl f), .inl (c', n', .inl f') => c = c' ∧ n = n' ∧ ∀ k, k < n → f k = f' k
  | x, y => x = y
def eqW : va_W → va_W → Prop
  | [], [] => True
  | (a, x) :: l, (b, y) :: r => a = b ∧ eqE x y ∧ eqW l r
  | _, _ => False
theorem eqE.rf (x : va_E) : eqE x x := by
  rcases x with ⟨c, n, f | g⟩ | o
  · exact ⟨rfl, rfl, fun _ _ => rfl⟩
  · rfl
  · rfl
theorem arrV_congr {c : ClassId} {n : Nat} {f g : Nat → Value} (h : ∀ k, k < n → f k = g k) : arrV c n f = arrV c n g := by
  have hs : (arrV c n f).slots = (arrV c n g).slots := by
    apply Array.ext
    · rw [arrV_size, arrV_size]
    · intro i h1 h2
      have e1 := arrV_read c f (by rw [arrV_size] at h1; exact h1)
      have e2 := arrV_read c g (by rw [arrV_size] at h1; exact h1)
      rw [Array.getElem?_eq_getElem h1] at e1
      rw [Array.getElem?_eq_getElem h2] at e2
      rw [arrV_size] at h1
      rw [Option.some.inj e1, Option.some.inj e2, h i h1]
  exact congrArg (fun z => { arrV c n f with slots := z }) hs
theorem eqE.at {D : va_G} {a : Nat} {x y : va_E} {H : Heap} (h : eqE x y) (hx : va_at D vwCl (a, x) H) : va_at D vwCl (a, y) H := by
  rcases x with ⟨c, n, f | g⟩ | o
  · rcases y with ⟨c', n', f' | g'⟩ | o'
    · obtain ⟨rfl, rfl, h⟩ := h
      show H[a]? = some (vp_cell c (n, .inl f'))
      rw [vp_cell_i, ← arrV_congr (f := fun j => .int (f j)) (fun k hk => by rw [h k hk])]
      exact hx
    · exact absurd h (by simp [eqE])
    · exact absurd h (by simp [eqE])
  · have h : (Sum.inl (c, n, Sum.inr g) : va_E) = y := by
      rcases y with ⟨c', n', f' | g'⟩ | o' <;> exact h
    subst h
    exact hx
  · have h : (Sum.inr o : va_E) = y := by
      rcases y with ⟨c', n', f' | g'⟩ | o' <;> exact h
    subst h
    exact hx
theorem eqW.at : ∀ {ws ws' : va_W}, eqW ws ws' → ∀ (k : Nat) (q : Nat × va_E), ws'[k]? = some q → ∃ x, ws[k]? = some (q.1, x) ∧ eqE x q.2
  | [], [], _, k, q, h => by simp at h
  | (a, x) :: l, (b, y) :: r, h, k, q, hk => by
    obtain ⟨rfl, h2, h3⟩ := h
    cases k with
    | zero => rw [List.getElem?_cons_zero] at hk; cases hk; exact ⟨x, rfl, h2⟩
    | succ k =>
      rw [List.getElem?_cons_succ] at hk
      obtain ⟨z, hz, he⟩ := eqW.at h3 k q hk
      exact ⟨z, by rw [List.getElem?_cons_succ]; exact hz, he⟩
  | [], _ :: _, h, _, _, _ => h.elim
  | _ :: _, [], h, _, _, _ => h.elim
theorem Wd.eq {G : KG} {s : State} {A : Nat → Prop} {ws ws' : va_W} {H : Heap} {locs : List Loc} (w : Wd G s A ws H locs) (h : eqW ws ws') : Wd G s A ws' H locs := by
  refine ⟨fun k q hk => ?_, ⟨fun i j x y hx hy hxy => ?_, fun k q hk => ?_⟩, w.2.2⟩
  · obtain ⟨x, hx, he⟩ := h.at k q hk
    exact he.at (w.1 k _ hx)
  · obtain ⟨x', hx', -⟩ := h.at i x hx
    obtain ⟨y', hy', -⟩ := h.at j y hy
    exact w.2.1.1 i j _ _ hx' hy' hxy
  · obtain ⟨x, hx, -⟩ := h.at k q hk
    exact w.2.1.2 k (q.1, x) hx
theorem Wd.is {G : KG} {s : State} {A : Nat → Prop} {ws ws' : va_W} {H : Heap} {locs : List Loc} (w : Wd G s A ws H locs) (h : ws = ws') : Wd G s A ws' H locs := h ▸ w
/-- a contract's start and end: the world before, and what is said of the answer and of the world behind -/
def PreW (G : KG) (ws : va_W) (sz : Nat) (as : List Value) : Array Value → State → Prop :=
  va_Pc as (fun U => U.heap.size = sz ∧ va_P G.1 vwCl ws U.heap ∧ va_K G.1 vwCl (tysF G) U ∧ va_D (fun _ => True) ws)
def PostB (G : KG) (ws : va_W) (sz : Nat) (ws' : va_W) (t : State) : Prop := va_P G.1 vwCl ws' t.heap ∧ va_K G.1 vwCl (tysF G) t ∧ va_D (va_A ws sz) ws'
def QI (G : KG) (ws : va_W) (sz : Nat) (post : Int32 → va_W → Prop) : Array Value → State → Outcome → State → Prop := va_Qi (S := va_W) post (fun ws' t => PostB G ws sz ws' t) (va_A ws sz)
def QV (G : KG) (ws : va_W) (sz : Nat) (post : va_W → Prop) : Array Value → State → Outcome → State → Prop := va_Qv (S := va_W) post (fun ws' t => PostB G ws sz ws' t) (va_A ws sz)
/-- the room of a method at height k over the leaves, that makes mc cells of ms slots -/
def rmK (k mc ms : Nat) : Room := { frames := k, cells := mc, slots := ms, locals := 30 * k }
def MetI (l : Launch) (y : MethodName) (W : List Cond) (k : Nat) (G : KG) (ws : va_W) (as : List Value) (post : Int32 → va_W → Prop) : Prop :=
  ∀ sz : Nat, Met l y W (rmK k 0 0) (PreW G ws sz as) (QI G ws sz post) 0 0 (va_A ws sz)
def MetV (l : Launch) (y : MethodName) (W : List Cond) (k mc ms : Nat) (G : KG) (ws : va_W) (as : List Value) (post : va_W → Prop) : Prop :=
  ∀ sz : Nat, Met l y W (rmK k mc ms) (PreW G ws sz as) (QV G ws sz post) mc ms (va_A ws sz)
theorem MetI.by {l : Launch} {y : MethodName} {Ts W' : List Cond} {k : Nat} {G : KG} {ws : va_W} {as : List Value} {post : Int32 → va_W → Prop} {cc : ByteArray} {nL : Nat} {ret : Option FieldType} (hy : plainName y.cls = true) (hw : Ts = Cond.code y cc nL ret :: W') (hn : (lg_sl as).length ≤ nL)
    (body : ∀ (p : Program) (e : Env) (s : State) (m : MethodId) (args : Array Value) (below : List Frame) (meth : Method) (c : Code), Fx p s m args meth c cc nL y.cls Ts ret → Wd G s (va_A ws s.heap.size) ws s.heap [] → ∀ ls : Array Slot, lv_has ls nL (lv_args 0 as) →
      W p l e (rmK k 0 0) s m args below meth c s.heap [] 0 0 (MQ below (QI G ws s.heap.size post) args s 0 0 (va_A ws s.heap.size)) (F0 m 0 ls [])) : MetI l y Ts k G ws as post := by
  intro sz
  refine Met.ofW (cc := cc) (maxL := nL) (ret := ret) hy hw ?_
  intro p e s m args below meth c s₁ B hml hv
  obtain ⟨rfl, hsz, hP, hK, hD⟩ := hv
  subst hsz
  rw [lg_entry_eq]
  exact body p e s m _ below meth c ⟨B.exec, B.bytes, hml, findClass_of_methodNamed B.named, atoms_spec (ws := Ts) B.pre, B.returns, B.notSynchronized⟩ ⟨hP, hD.self, va_S.rf, hK, fun q h => Or.inr h⟩ _ (lv_entry as hn)
theorem MetV.by {l : Launch} {y : MethodName} {Ts W' : List Cond} {k mc ms : Nat} {G : KG} {ws : va_W} {as : List Value} {post : va_W → Prop} {cc : ByteArray} {nL : Nat} {ret : Option FieldType} (hy : plainName y.cls = true) (hw : Ts = Cond.code y cc nL ret :: W') (hn : (lg_sl as).length ≤ nL)
    (body : ∀ (p : Program) (e : Env) (s : State) (m : MethodId) (args : Array Value) (below : List Frame) (meth : Method) (c : Code), Fx p s m args meth c cc nL y.cls Ts ret → meth.name = y.name → Wd G s (va_A ws s.heap.size) ws s.heap [] → ∀ ls : Array Slot, lv_has ls nL (lv_args 0 as) →
      W p l e (rmK k mc ms) s m args below meth c s.heap [] 0 0 (MQ below (QV G ws s.heap.size post) args s mc ms (va_A ws s.heap.size)) (F0 m 0 ls [])) : MetV l y Ts k mc ms G ws as post := by
  intro sz
  refine Met.ofW (cc := cc) (maxL := nL) (ret := ret) hy hw ?_
  intro p e s m args below meth c s₁ B hml hv
  obtain ⟨rfl, hsz, hP, hK, hD⟩ := hv
  subst hsz
  rw [lg_entry_eq]
  exact body p e s m _ below meth c ⟨B.exec, B.bytes, hml, findClass_of_methodNamed B.named, atoms_spec (ws := Ts) B.pre, B.returns, B.notSynchronized⟩ (name_of_methodNamed B.named B.method).1 ⟨hP, hD.self, va_S.rf, hK, fun q h => Or.inr h⟩ _ (lv_entry as hn)
section RW
variable {p : Program} {l : Launch} {e : Env} {R : Room} {s : State} {m : MethodId} {args : Array Value} {below : List Frame} {meth : Method} {c : Code} {H : Heap} {locs : List Loc} {cells slots : Nat} {Q : State → Prop}
variable {cc : ByteArray} {nL : Nat} {own : String} {Ts : List Cond} {ret : Option FieldType} {G : KG} {A : Nat → Prop} {ws : va_W} {pc : Nat} {ls : Array Slot} {rest : List Value}
theorem r_ireturn {post : Int32 → va_W → Prop} {ws0 : va_W} {v : Int32} (F : Fx p s m args meth c cc nL own Ts (some .int)) (w : Wd G s (va_A ws0 s.heap.size) ws H locs) (hdg : decode cc pc = .ok (.ireturn, 1)) (hpost : post v ws) :
    W p l e R s m args below meth c H locs cells slots (MQ below (QI G ws0 s.heap.size post) args s cells slots (va_A ws0 s.heap.size)) (F0 m pc ls [.int v]) :=
  W.iret (v := v) F.1 F.2.1 F.2.2.2.2.2.1 (fun t ht hW => ⟨⟨v, ws, rfl, hpost, by rw [ht]; exact w.1, va_K.moved hW.alike w.2.2.2.1, w.2.1⟩, w.2.2.1.F ht⟩) w.2.2.1.2.2 hdg F.2.2.2.2.2.2
theorem r_zreturn {post : Int32 → va_W → Prop} {ws0 : va_W} {v : Int32} (F : Fx p s m args meth c cc nL own Ts (some .boolean)) (w : Wd G s (va_A ws0 s.heap.size) ws H locs) (hdg : decode cc pc = .ok (.ireturn, 1)) (hv : narrow .boolean (.int v) = .int v) (hpost : post v ws) :
    W p l e R s m args below meth c H locs cells slots (MQ below (QI G ws0 s.heap.size post) args s cells slots (va_A ws0 s.heap.size)) (F0 m pc ls [.int v]) :=
  W.zret (v := v) F.1 F.2.1 F.2.2.2.2.2.1 hv (fun t ht hW => ⟨⟨v, ws, rfl, hpost, by rw [ht]; exact w.1, va_K.moved hW.alike w.2.2.2.1, w.2.1⟩, w.2.2.1.F ht⟩) w.2.2.1.2.2 hdg F.2.2.2.2.2.2
theorem r_return {post : va_W → Prop} {ws0 : va_W} (F : Fx p s m args meth c cc nL own Ts none) (w : Wd G s (va_A ws0 s.heap.size) ws H locs) (hdg : decode cc pc = .ok (.return_, 1)) (hpost : post ws) :
    W p l e R s m args below meth c H locs cells slots (MQ below (QV G ws0 s.heap.size post) args s cells slots (va_A ws0 s.heap.size)) (F0 m pc ls []) :=
  W.vret F.1 F.2.1 F.2.2.2.2.2.1 (fun t ht hW => ⟨⟨ws, rfl, hpost, by rw [ht]; exact w.1, va_K.moved hW.alike w.2.2.2.1, w.2.1⟩, w.2.2.1.F ht⟩) w.2.2.1.2.2 hdg F.2.2.2.2.2.2
/-- a class's tables: its fields' types, their names apart -/
def ClsOk (T : u_T) (N : Nat) (ty0 : Nat → FieldType) : Prop := (∀ k, k < N → parseFieldDescriptor (T k).2.2.1 = some (ty0 k)) ∧ ∀ a, a < N → ∀ b, b < N → a ≠ b → (T a).2.1 ≠ (T b).2.1
theorem r_get (F : Fx p s m args meth c cc nL own Ts ret) (w : Wd G s A ws H locs) (q0 k : Nat) {a ci N index : Nat} {C ref nm d : String} {fin : Bool} {T : u_T} {fs : List Value} {v : Value} (hin : ∀ w ∈ u_ws C T N, w ∈ Ts) (hlink : (Cond.fieldLink own index ref nm d).before args s = true)
    (he : ws[q0]? = some (a, .inr (ci, fs))) (hc : vwCl[ci]? = some (C, T, N)) (hT : T k = (ref, nm, d, fin)) (hk : k < N) (hv : fs[k]? = some v) (hdg : decode cc pc = .ok (.getfield index, 3))
    (kk : W p l e R s m args below meth c H locs cells slots Q (F0 m (pc + 3) ls (v :: rest))) : W p l e R s m args below meth c H locs cells slots Q (F0 m pc ls (.ref a :: rest)) :=
  va_get F.1 F.2.1 F.ts hin F.2.2.2.1 w.2.2.2.1 w.1 q0 he hc k hk (ref := ref) (by rw [hT]; exact hlink) (fun x h => by rw [hT] at h ⊢; exact h) hv hdg kk
theorem r_put (F : Fx p s m args meth c cc nL own Ts ret) (w : Wd G s A ws H locs) (q0 k : Nat) {a ci N index : Nat} {C ref nm d : String} {T : u_T} {ty0 : Nat → FieldType} {fs : List Value} {x : Int32} {ws' : va_W} (hin : ∀ w ∈ u_ws C T N, w ∈ Ts) (hok : ClsOk T N ty0) (hlink : (Cond.fieldLink own index ref nm d).before args s = true)
    (he : ws[q0]? = some (a, .inr (ci, fs))) (hc : vwCl[ci]? = some (C, T, N)) (hT : T k = (ref, nm, d, false)) (hk : k < N) (hd : parseFieldDescriptor d = some .int) (hl : k < fs.length) (hdg : decode cc pc = .ok (.putfield index, 3)) (hw : ws.set q0 (a, .inr (ci, fs.set k (.int x))) = ws')
    (kk : ∀ (H1 : Heap) (locs1 : List Loc), Wd G s A ws' H1 locs1 → W p l e R s m args below meth c H1 locs1 cells slots Q (F0 m (pc + 3) ls rest)) : W p l e R s m args below meth c H locs cells slots Q (F0 m pc ls (.int x :: .ref a :: rest)) := by
  subst hw
  exact va_put F.1 F.2.1 F.ts hin ty0 hok.1 hok.2 F.2.2.2.1 w.2.2.2.1 w.1 w.2.1 w.2.2.1 q0 he hc k hk (ref := ref) (by rw [hT]; exact hlink) (fun x h => by rw [hT] at h ⊢; exact h) (by rw [hT]) (ty := .int) (by rw [hT]; exact hd) rfl rfl hl hdg (fun H1 locs1 h1 h2 h3 => kk H1 locs1 ⟨h1, h2, h3, w.2.2.2⟩)
theorem r_iald (F : Fx p s m args meth c cc nL own Ts ret) (w : Wd G s A ws H locs) (q0 : Nat) {a n i : Nat} {f : Nat → Nat} (ha : ws[q0]? = some (aI G a n f)) (hi : i < n) (hn : n < 2 ^ 31) (hdg : decode cc pc = .ok (.iaload, 1))
    (kk : W p l e R s m args below meth c H locs cells slots Q (F0 m (pc + 1) ls (.int (nI (f i)) :: rest))) : W p l e R s m args below meth c H locs cells slots Q (F0 m pc ls (.int (nI i) :: .ref a :: rest)) :=
  va_iald F.1 F.2.1 w.2.2.2.1 w.1 q0 0 ha rfl (vp_in_nI hi hn) hdg (by rw [nI_clamp (Nat.lt_trans hi hn)]; exact kk)
theorem r_cald (F : Fx p s m args meth c cc nL own Ts ret) (w : Wd G s A ws H locs) (q0 : Nat) {a n i : Nat} {f : Nat → Nat} (ha : ws[q0]? = some (aC G a n f)) (hi : i < n) (hn : n < 2 ^ 31) (hdg : decode cc pc = .ok (.caload, 1))
    (kk : W p l e R s m args below meth c H locs cells slots Q (F0 m (pc + 1) ls (.int (nI (f i)) :: rest))) : W p l e R s m args below meth c H locs cells slots Q (F0 m pc ls (.int (nI i) :: .ref a :: rest)) :=
  va_cald F.1 F.2.1 w.2.2.2.1 w.1 q0 1 ha rfl (vp_in_nI hi hn) hdg (by rw [nI_clamp (Nat.lt_trans hi hn)]; exact kk)
theorem r_iast (F : Fx p s m args meth c cc nL own Ts ret) (w : Wd G s A ws H locs) (q0 : Nat) {a n i x : Nat} {f : Nat → Nat} {ws' : va_W} (ha : ws[q0]? = some (aI G a n f)) (hi : i < n) (hn : n < 2 ^ 31) (hdg : decode cc pc = .ok (.iastore, 1)) (hw : ws.set q0 (aI G a n (up f i x)) = ws')
    (kk : ∀ (H1 : Heap) (locs1 : List Loc), Wd G s A ws' H1 locs1 → W p l e R s m args below meth c H1 locs1 cells slots Q (F0 m (pc + 1) ls rest)) : W p l e R s m args below meth c H locs cells slots Q (F0 m pc ls (.int (nI x) :: .int (nI i) :: .ref a :: rest)) := by
  subst hw
  refine va_iast F.1 F.2.1 w.2.2.2.1 w.1 w.2.1 w.2.2.1 q0 0 ha rfl (vp_in_nI hi hn) hdg (fun H1 locs1 h1 h2 h3 => kk H1 locs1 ⟨?_, ?_, h3, w.2.2.2⟩)
  · rw [nA_up (Nat.lt_trans hi hn)] at h1; exact h1
  · rw [nA_up (Nat.lt_trans hi hn)] at h2; exact h2
theorem r_iadd (F : Fx p s m args meth c cc nL own Ts ret) {a b : Nat} (hdg : decode cc pc = .ok (.iadd, 1)) (kk : W p l e R s m args below meth c H locs cells slots Q (F0 m (pc + 1) ls (.int (nI (a + b)) :: rest))) : W p l e R s m args below meth c H locs cells slots Q (F0 m pc ls (.int (nI b) :: .int (nI a) :: rest)) :=
  lv_iadd F.1 F.2.1 hdg (by rw [nI_add]; exact kk)
theorem r_isub (F : Fx p s m args meth c cc nL own Ts ret) {a b : Nat} (hdg : decode cc pc = .ok (.isub, 1)) (h : b ≤ a) (kk : W p l e R s m args below meth c H locs cells slots Q (F0 m (pc + 1) ls (.int (nI (a - b)) :: rest))) : W p l e R s m args below meth c H locs cells slots Q (F0 m pc ls (.int (nI b) :: .int (nI a) :: rest)) :=
  lv_isub F.1 F.2.1 hdg (by rw [pk_sub h]; exact kk)
theorem r_imul (F : Fx p s m args meth c cc nL own Ts ret) {a b : Nat} (hdg : decode cc pc = .ok (.imul, 1)) (kk : W p l e R s m args below meth c H locs cells slots Q (F0 m (pc + 1) ls (.int (nI (a * b)) :: rest))) : W p l e R s m args below meth c H locs cells slots Q (F0 m pc ls (.int (nI b) :: .int (nI a) :: rest)) :=
  lv_imul F.1 F.2.1 hdg (by rw [pk_mul]; exact kk)
theorem r_idiv (F : Fx p s m args meth c cc nL own Ts ret) {a b : Nat} (hdg : decode cc pc = .ok (.idiv, 1)) (ha : a < 2 ^ 31) (h0 : 0 < b) (hb : b < 2 ^ 31) (kk : W p l e R s m args below meth c H locs cells slots Q (F0 m (pc + 1) ls (.int (nI (a / b)) :: rest))) : W p l e R s m args below meth c H locs cells slots Q (F0 m pc ls (.int (nI b) :: .int (nI a) :: rest)) :=
  lv_idiv F.1 F.2.1 hdg (nI_ne0 h0 hb) (by rw [pk_div ha h0 hb]; exact kk)
theorem r_irem (F : Fx p s m args meth c cc nL own Ts ret) {a b : Nat} (hdg : decode cc pc = .ok (.irem, 1)) (ha : a < 2 ^ 31) (h0 : 0 < b) (hb : b < 2 ^ 31) (kk : W p l e R s m args below meth c H locs cells slots Q (F0 m (pc + 1) ls (.int (nI (a % b)) :: rest))) : W p l e R s m args below meth c H locs cells slots Q (F0 m pc ls (.int (nI b) :: .int (nI a) :: rest)) :=
  lv_irem F.1 F.2.1 hdg (nI_ne0 h0 hb) (by rw [pk_rem ha h0 hb]; exact kk)
/-- a number on the top gets a name -/
theorem r_top {x : Nat} (kk : ∀ y : Nat, y = x → W p l e R s m args below meth c H locs cells slots Q (F0 m pc ls (.int (nI y) :: rest))) : W p l e R s m args below meth c H locs cells slots Q (F0 m pc ls (.int (nI x) :: rest)) := kk x rfl
theorem r_to {x y : Int32} (h : x = y) (kk : W p l e R s m args below meth c H locs cells slots Q (F0 m pc ls (.int y :: rest))) : W p l e R s m args below meth c H locs cells slots Q (F0 m pc ls (.int x :: rest)) := h ▸ kk
theorem r_ceq (F : Fx p s m args meth c cc nL own Ts ret) {a b : Nat} {off : Int} {tgt : Nat} (hdg : decode cc pc = .ok (.if_icmp .eq off, 3)) (ht : (pc : Int) + off = (tgt : Int)) (ha : a < 2 ^ 31) (hb : b < 2 ^ 31)
    (kt : a = b → W p l e R s m args below meth c H locs cells slots Q (F0 m tgt ls rest)) (kf : ¬ a = b → W p l e R s m args below meth c H locs cells slots Q (F0 m (pc + 3) ls rest)) : W p l e R s m args below meth c H locs cells slots Q (F0 m pc ls (.int (nI b) :: .int (nI a) :: rest)) :=
  lv_icmp_eq F.1 F.2.1 hdg ht (fun h => kt ((nI_eq ha hb).mp h)) (fun h => kf (fun z => h ((nI_eq ha hb).mpr z)))
theorem r_cne (F : Fx p s m args meth c cc nL own Ts ret) {a b : Nat} {off : Int} {tgt : Nat} (hdg : decode cc pc = .ok (.if_icmp .ne off, 3)) (ht : (pc : Int) + off = (tgt : Int)) (ha : a < 2 ^ 31) (hb : b < 2 ^ 31)
    (kt : ¬ a = b → W p l e R s m args below meth c H locs cells slots Q (F0 m tgt ls rest)) (kf : a = b → W p l e R s m args below meth c H locs cells slots Q (F0 m (pc + 3) ls rest)) : W p l e R s m args below meth c H locs cells slots Q (F0 m pc ls (.int (nI b) :: .int (nI a) :: rest)) :=
  lv_icmp_ne F.1 F.2.1 hdg ht (fun h => kt (fun z => h ((nI_eq ha hb).mpr z))) (fun h => kf ((nI_eq ha hb).mp h))
theorem r_clt (F : Fx p s m args meth c cc nL own Ts ret) {a b : Nat} {off : Int} {tgt : Nat} (hdg : decode cc pc = .ok (.if_icmp .lt off, 3)) (ht : (pc : Int) + off = (tgt : Int)) (ha : a < 2 ^ 31) (hb : b < 2 ^ 31)
    (kt : a < b → W p l e R s m args below meth c H locs cells slots Q (F0 m tgt ls rest)) (kf : ¬ a < b → W p l e R s m args below meth c H locs cells slots Q (F0 m (pc + 3) ls rest)) : W p l e R s m args below meth c H locs cells slots Q (F0 m pc ls (.int (nI b) :: .int (nI a) :: rest)) :=
  lv_icmp_lt F.1 F.2.1 hdg ht (fun h => kt ((nI_ltI ha hb).mp h)) (fun h => kf (fun z => h ((nI_ltI ha hb).mpr z)))
theorem r_cge (F : Fx p s m args meth c cc nL own Ts ret) {a b : Nat} {off : Int} {tgt : Nat} (hdg : decode cc pc = .ok (.if_icmp .ge off, 3)) (ht : (pc : Int) + off = (tgt : Int)) (ha : a < 2 ^ 31) (hb : b < 2 ^ 31)
    (kt : ¬ a < b → W p l e R s m args below meth c H locs cells slots Q (F0 m tgt ls rest)) (kf : a < b → W p l e R s m args below meth c H locs cells slots Q (F0 m (pc + 3) ls rest)) : W p l e R s m args below meth c H locs cells slots Q (F0 m pc ls (.int (nI b) :: .int (nI a) :: rest)) :=
  lv_icmp_ge F.1 F.2.1 hdg ht (fun h => kt (Nat.not_lt.mpr ((nI_leI hb ha).mp h))) (fun h => kf (Nat.not_le.mp (fun z => h ((nI_leI hb ha).mpr z))))
theorem r_cgt (F : Fx p s m args meth c cc nL own Ts ret) {a b : Nat} {off : Int} {tgt : Nat} (hdg : decode cc pc = .ok (.if_icmp .gt off, 3)) (ht : (pc : Int) + off = (tgt : Int)) (ha : a < 2 ^ 31) (hb : b < 2 ^ 31)
    (kt : b < a → W p l e R s m args below meth c H locs cells slots Q (F0 m tgt ls rest)) (kf : ¬ b < a → W p l e R s m args below meth c H locs cells slots Q (F0 m (pc + 3) ls rest)) : W p l e R s m args below meth c H locs cells slots Q (F0 m pc ls (.int (nI b) :: .int (nI a) :: rest)) :=
  lv_icmp_gt F.1 F.2.1 hdg ht (fun h => kt ((nI_ltI hb ha).mp h)) (fun h => kf (fun z => h ((nI_ltI hb ha).mpr z)))
theorem r_cle (F : Fx p s m args meth c cc nL own Ts ret) {a b : Nat} {off : Int} {tgt : Nat} (hdg : decode cc pc = .ok (.if_icmp .le off, 3)) (ht : (pc : Int) + off = (tgt : Int)) (ha : a < 2 ^ 31) (hb : b < 2 ^ 31)
    (kt : ¬ b < a → W p l e R s m args below meth c H locs cells slots Q (F0 m tgt ls rest)) (kf : b < a → W p l e R s m args below meth c H locs cells slots Q (F0 m (pc + 3) ls rest)) : W p l e R s m args below meth c H locs cells slots Q (F0 m pc ls (.int (nI b) :: .int (nI a) :: rest)) :=
  lv_icmp_le F.1 F.2.1 hdg ht (fun h => kt (Nat.not_lt.mpr ((nI_leI ha hb).mp h))) (fun h => kf (Nat.not_le.mp (fun z => h ((nI_leI ha hb).mpr z))))
theorem r_zeq (F : Fx p s m args meth c cc nL own Ts ret) {a : Nat} {off : Int} {tgt : Nat} (hdg : decode cc pc = .ok (.ifCond .eq off, 3)) (ht : (pc : Int) + off = (tgt : Int)) (ha : a < 2 ^ 31)
    (kt : a = 0 → W p l e R s m args below meth c H locs cells slots Q (F0 m tgt ls rest)) (kf : ¬ a = 0 → W p l e R s m args below meth c H locs cells slots Q (F0 m (pc + 3) ls rest)) : W p l e R s m args below meth c H locs cells slots Q (F0 m pc ls (.int (nI a) :: rest)) :=
  lv_if_eq F.1 F.2.1 hdg ht (fun h => kt (Nat.eq_zero_of_not_pos (fun z => nI_ne0 z ha h))) (fun h => kf (fun z => h (by rw [z]; rfl)))
theorem r_zne (F : Fx p s m args meth c cc nL own Ts ret) {a : Nat} {off : Int} {tgt : Nat} (hdg : decode cc pc = .ok (.ifCond .ne off, 3)) (ht : (pc : Int) + off = (tgt : Int)) (ha : a < 2 ^ 31)
    (kt : ¬ a = 0 → W p l e R s m args below meth c H locs cells slots Q (F0 m tgt ls rest)) (kf : a = 0 → W p l e R s m args below meth c H locs cells slots Q (F0 m (pc + 3) ls rest)) : W p l e R s m args below meth c H locs cells slots Q (F0 m pc ls (.int (nI a) :: rest)) :=
  lv_if_ne F.1 F.2.1 hdg ht (fun h => kt (fun z => h (by rw [z]; rfl))) (fun h => kf (Nat.eq_zero_of_not_pos (fun z => nI_ne0 z ha h)))
theorem r_zle (F : Fx p s m args meth c cc nL own Ts ret) {a : Nat} {off : Int} {tgt : Nat} (hdg : decode cc pc = .ok (.ifCond .le off, 3)) (ht : (pc : Int) + off = (tgt : Int)) (ha : a < 2 ^ 31)
    (kt : a = 0 → W p l e R s m args below meth c H locs cells slots Q (F0 m tgt ls rest)) (kf : ¬ a = 0 → W p l e R s m args below meth c H locs cells slots Q (F0 m (pc + 3) ls rest)) : W p l e R s m args below meth c H locs cells slots Q (F0 m pc ls (.int (nI a) :: rest)) :=
  lv_if_le F.1 F.2.1 hdg ht (fun h => kt (Nat.eq_zero_of_not_pos (fun z => nI_nle z ha h))) (fun h => kf (fun z => h (by rw [z]; decide)))
theorem r_zgt (F : Fx p s m args meth c cc nL own Ts ret) {a : Nat} {off : Int} {tgt : Nat} (hdg : decode cc pc = .ok (.ifCond .gt off, 3)) (ht : (pc : Int) + off = (tgt : Int)) (ha : a < 2 ^ 31)
    (kt : ¬ a = 0 → W p l e R s m args below meth c H locs cells slots Q (F0 m tgt ls rest)) (kf : a = 0 → W p l e R s m args below meth c H locs cells slots Q (F0 m (pc + 3) ls rest)) : W p l e R s m args below meth c H locs cells slots Q (F0 m pc ls (.int (nI a) :: rest)) :=
  lv_if_gt F.1 F.2.1 hdg ht (fun h => kt (fun z => by rw [z] at h; exact absurd h (by decide))) (fun h => kf (Nat.eq_zero_of_not_pos (fun z => h (by rw [Int32.lt_iff_toInt_lt, nI_toInt ha, Int32.toInt_zero]; omega))))
/-- a yes-or-no on the top -/
def yn (q : Prop) [Decidable q] : Int32 := if q then 1 else 0
theorem r_yeq (F : Fx p s m args meth c cc nL own Ts ret) {q : Prop} [Decidable q] {off : Int} {tgt : Nat} (hdg : decode cc pc = .ok (.ifCond .eq off, 3)) (ht : (pc : Int) + off = (tgt : Int))
    (kt : ¬ q → W p l e R s m args below meth c H locs cells slots Q (F0 m tgt ls rest)) (kf : q → W p l e R s m args below meth c H locs cells slots Q (F0 m (pc + 3) ls rest)) : W p l e R s m args below meth c H locs cells slots Q (F0 m pc ls (.int (yn q) :: rest)) :=
  lv_if_eq F.1 F.2.1 hdg ht (fun h => kt (fun z => by rw [yn, if_pos z] at h; exact absurd h (by decide))) (fun h => kf (Classical.byContradiction (fun z => h (by rw [yn, if_neg z]))))
theorem r_yne (F : Fx p s m args meth c cc nL own Ts ret) {q : Prop} [Decidable q] {off : Int} {tgt : Nat} (hdg : decode cc pc = .ok (.ifCond .ne off, 3)) (ht : (pc : Int) + off = (tgt : Int))
    (kt : q → W p l e R s m args below meth c H locs cells slots Q (F0 m tgt ls rest)) (kf : ¬ q → W p l e R s m args below meth c H locs cells slots Q (F0 m (pc + 3) ls rest)) : W p l e R s m args below meth c H locs cells slots Q (F0 m pc ls (.int (yn q) :: rest)) :=
  lv_if_ne F.1 F.2.1 hdg ht (fun h => kt (Classical.byContradiction (fun z => h (by rw [yn, if_neg z])))) (fun h => kf (fun z => absurd h (by rw [yn, if_pos z]; decide)))
theorem yn_t {q : Prop} [Decidable q] (h : q) : (1 : Int32) = yn q := by rw [yn, if_pos h]
theorem yn_f {q : Prop} [Decidable q] (h : ¬ q) : (0 : Int32) = yn q := by rw [yn, if_neg h]
theorem yn_nar (q : Prop) [Decidable q] : narrow .boolean (.int (yn q)) = .int (yn q) := by
  by_cases h : q
  · rw [yn, if_pos h]; rfl
  · rw [yn, if_neg h]; rfl
end RW

