/-! ===== the law: one state told by both objects, and a call's row ===== -/
theorem met_pre {l : Launch} {y : MethodName} {ts : List Cond} {r : Room} {Pa Pb : Array Value → State → Prop} {Qa : Array Value → State → Outcome → State → Prop} {a b : Nat} {f : Addr → Prop} (hi : ∀ v U, Pb v U → Pa v U) (h : Met l y ts r Pa Qa a b f) : Met l y ts r Pb Qa a b f :=
  fun p e h1 h2 h3 s m args below hf ha hP hK => h p e h1 h2 h3 s m args below hf ha (hi _ _ hP) hK
theorem MetI.toX {l : Launch} {y : MethodName} {Ts : List Cond} {k : Nat} {G : KG} {ws : va_W} {as : List Value} {X : XF} {post : Int32 → va_W → Prop} (h : MetI l y Ts k G ws as post) : MetIX l y Ts k G ws as X post :=
  fun sz => met_pre (fun v U q => ⟨q.1, q.2.1, q.2.2.1, q.2.2.2.1, q.2.2.2.2.1⟩) (h sz)
theorem MetIX.sub {l : Launch} {y : MethodName} {Ts : List Cond} {k : Nat} {G : KG} {ws : va_W} {as : List Value} {X Y : XF} {post : Int32 → va_W → Prop} (h : MetIX l y Ts k G ws as X post) (hi : ∀ A U H, Y A U H → X A U H) : MetIX l y Ts k G ws as Y post :=
  fun sz => met_pre (fun v U q => ⟨q.1, q.2.1, q.2.2.1, q.2.2.2.1, q.2.2.2.2.1, hi _ _ _ q.2.2.2.2.2⟩) (h sz)
theorem perm_by {α : Type} {x y : List α} (h : ∀ f : α → Bool, x.countP f = y.countP f) : x.Perm y := by
  classical
  exact List.perm_iff_count.mpr (fun a => h (fun z => z == a))
/-- a world that may be read as another, whatever lies beside it -/
def Wto (ws ws' : va_W) : Prop := ∀ (G : KG) (s : State) (A : Nat → Prop) (H : Heap) (locs : List Loc) (x : va_W), Wd G s A (ws ++ x) H locs → Wd G s A (ws' ++ x) H locs
theorem Wto.rf (ws : va_W) : Wto ws ws := fun _ _ _ _ _ _ w => w
theorem Wto.perm {ws ws' : va_W} (h : List.Perm ws ws') : Wto ws ws' := fun _ _ _ _ _ x w => w.perm (h.append_right x)
theorem Wto.eq {ws ws' : va_W} (h : eqW ws ws') : Wto ws ws' := fun _ _ _ _ _ x w => w.eq (eqW.app h (eqW.rf x))
def CallC (l : Launch) (G : KG) (X : XF) (y : MethodName) (Wy : List Cond) (k : Nat) (as : List Value) (pre : va_W → Prop) (b ci : Nat) (post : Int32 → va_W → Prop) : Prop :=
  ∀ ws, pre ws → ∃ (wc wr : va_W) (fs : List Value) (po : Int32 → va_W → Prop), Wto ws (wc ++ wr) ∧ MetIX l y Wy k G wc (.ref b :: as) X po ∧ (b, Sum.inr (ci, fs)) ∈ wc ∧ ∀ r v, po r v → ∃ ws', Wto (v ++ wr) ws' ∧ post r ws'
section PR
variable {p : Program} {l : Launch} {e : Env} {R : Room} {s : State} {m : MethodId} {args : Array Value} {below : List Frame} {meth : Method} {c : Code} {H : Heap} {locs : List Loc} {cells slots : Nat} {Q : State → Prop}
variable {cc : ByteArray} {nL : Nat} {own : String} {Ts : List Cond} {ret : Option FieldType} {G : KG} {A : Nat → Prop} {ws wm : va_W} {pc : Nat} {ls : Array Slot} {rest st : List Value} {X : XF}
variable {nA0 : Nat} {y : MethodName} {Wy W' : List Cond} {bytes : ByteArray} {maxL index k ci b N : Nat} {rt : Option FieldType} {As : List Value} {C : String} {T : u_T} {lv : List (Nat × Value)}
theorem q_call {pre : va_W → Prop} {post : Int32 → va_W → Prop} (hf : fineX X) (hX : X A s s.heap) (F : Fx p s m args meth c cc nL own Ts ret) (w : Wd G s A (ws ++ wm) H locs) (hC : CallC l G X y Wy k As pre b ci post) (hpre : pre ws) (hg : GoodIn Ts (wsV own index C y Wy)) (hw : Wy = Cond.code y bytes maxL rt :: W')
    (hd : y.cls = C ∧ y.cls ≠ "java/lang/invoke/MethodHandle" ∧ y.cls ≠ "java/lang/invoke/VarHandle" ∧ (parseMethodDescriptor y.desc).map (fun d => d.parameters.length) = some nA0) (hAs : As.length = nA0) (hRm : k + 1 ≤ R.frames ∧ 8 + (maxL + 11) + 30 * k ≤ R.locals) (hcs : cells ≤ R.cells ∧ slots ≤ R.slots)
    (hc : vwCl[ci]? = some (C, T, N)) (hl : lv_has ls nL lv) (hst : st = As.reverse ++ .ref b :: rest) (hroom : (rest.map fun v => v.category).sum ≤ 8) (hdg : decode cc pc = .ok (.invokevirtual index, 3))
    (kk : ∀ (r : Int32) (w1 : va_W) (H1 : Heap) (locs1 : List Loc), post r w1 → Wd G s A (w1 ++ wm) H1 locs1 → W p l e R s m args below meth c H1 locs1 cells slots Q (F0 m (pc + 3) ls (.int r :: rest))) : W p l e R s m args below meth c H locs cells slots Q (F0 m pc ls st) := by
  obtain ⟨wc, wr, fs, po, h1, hM, hmem, h2⟩ := hC ws hpre
  have w := h1 _ _ _ _ _ _ w
  rw [List.append_assoc] at w
  obtain ⟨j, hj⟩ := List.getElem?_of_mem hmem
  refine va_calli (va_runV (As := As) (rest := rest) F.fix (hM H.size) (cwV nA0 F.ts hg hw rfl rfl hd hRm) ⟨PreX.blind hf, va_recv w.2.2.2.1 (fun k q hq => w.1 k q (front_at k q hq)) hc hj, PreX.front hf w hX _⟩ rfl hAs hl.1 hst (lv_room hroom) hdg hcs) w.2.2.1 (fun q _ h => w.free q h) w.free (fun r u t H1 locs1 ht hvm hpost hB hz hk hS => ?_)
  obtain ⟨hP1, -, hD1⟩ := hB
  rw [ht] at hP1
  have w1 := w.join hk hP1 hD1 hS
  obtain ⟨ws', h3, h4⟩ := h2 r u hpost
  rw [← List.append_assoc] at w1
  exact kk r ws' H1 locs1 h4 (h3 _ _ _ _ _ _ w1)
end PR
def clsW (G : KG) (ma hb xa ra rc : Nat → Nat) (pn pt : Nat → Nat → Nat) (P lo Qt lt : Nat → Nat) (ha : Nat → Nat → Nat → Nat) (hpg hlw : Nat → Nat → Nat) (hs old fi re nu nx : Nat) (N : Nat → Nat) (tl : Nat) (T : Nat → Nat) (sz hg : Nat) (kd ln dn mo l0 : Nat → Nat) : va_W := (plateW G pn P lo ++ (mainW G ma ((pn 0) 0) ((pt 0) 0) (hb 0) (xa 0) (ra 0) ++ (histH G hb hs old (fun k => some (((ha k) 0) 0)) ++ (plateW G (ha 0) (hpg 0) (hlw 0) ++ (plateW G (ha 1) (hpg 1) (hlw 1) ++ (plateW G (ha 2) (hpg 2) (hlw 2) ++ (plateW G (ha 3) (hpg 3) (hlw 3) ++ (plateW G (ha 4) (hpg 4) (hlw 4) ++ (readH G ra rc fi re nu nx N ++ (textW G xa tl T ++ (coreW G rc sz hg kd ln dn mo l0))))))))))) ++ plateW G pt Qt lt
/-- the history's pages, oldest first, and what lies in the reference's states -/
def HsOk (Hs : Nat → Nat) (n : Nat) (h : Nat → Nat → Nat) : Prop := ∀ i, i < n → ∀ k, k < 246 → Hs (246 * i + k) = h i k
def HcOk (hpg hlw : Nat → Nat → Nat) (old n : Nat) (h : Nat → Nat → Nat) : Prop := old < 5 ∧ ∀ i, i < n → hpg ((old + i) % 5) = h i ∧ LoOk (h i) (hlw ((old + i) % 5))
def SInv (P : Nat → Nat) (tl : Nat) (T : Nat → Nat) (n : Nat) (h : Nat → Nat → Nat) : Prop := Inv P ∧ tl ≤ 100 ∧ TxtOk T ∧ n ≤ 5 ∧ ∀ i, i < n → Inv (h i)
def CS (G : KG) (b : Nat) (P : Nat → Nat) (tl : Nat) (T : Nat → Nat) (n : Nat) (h : Nat → Nat → Nat) (ws : va_W) : Prop := ∃ (ma hb xa ra rc : Nat → Nat) (pn pt : Nat → Nat → Nat) (lo Qt lt : Nat → Nat) (ha : Nat → Nat → Nat → Nat) (hpg hlw : Nat → Nat → Nat) (old fi re nu nx : Nat) (N : Nat → Nat) (sz hg : Nat) (kd ln dn mo l0 : Nat → Nat), ma 0 = b ∧ ws = clsW G ma hb xa ra rc pn pt P lo Qt lt ha hpg hlw n old fi re nu nx N tl T sz hg kd ln dn mo l0 ∧ LoOk P lo ∧ HcOk hpg hlw old n h
/-- the history when a page is kept -/
def recH (h : Nat → Nat → Nat) (n : Nat) (P : Nat → Nat) : Nat → Nat → Nat := fun i => if n < 5 then (if i = n then P else h i) else (if i = 4 then P else h (i + 1))
theorem sizeN_min {n : Nat} (h : n ≤ 5) : min n 4 + 1 = sizeN n := by
  unfold sizeN
  split <;> omega
theorem rec_inv {P : Nat → Nat} {n : Nat} {h : Nat → Nat → Nat} (hP : Inv P) (h5 : n ≤ 5) (hh : ∀ i, i < n → Inv (h i)) : sizeN n ≤ 5 ∧ ∀ i, i < sizeN n → Inv (recH h n P i) := by
  unfold sizeN
  refine ⟨by split <;> omega, fun i hi => ?_⟩
  unfold recH
  by_cases q : n < 5
  · rw [if_pos q] at hi
    rw [if_pos q]
    by_cases q2 : i = n
    · rw [if_pos q2]; exact hP
    · rw [if_neg q2]; exact hh i (by omega)
  · rw [if_neg q] at hi
    rw [if_neg q]
    by_cases q2 : i = 4
    · rw [if_pos q2]; exact hP
    · rw [if_neg q2]; exact hh (i + 1) (by omega)
theorem rec_c {hpg hlw : Nat → Nat → Nat} {old n : Nat} {h : Nat → Nat → Nat} {P lo : Nat → Nat} (h5 : n ≤ 5) (hlk : LoOk P lo) (hc : HcOk hpg hlw old n h) : HcOk (va_up hpg (slotN n old) P) (va_up hlw (slotN n old) lo) (oldN n old) (sizeN n) (recH h n P) := by
  obtain ⟨ho, hc⟩ := hc
  unfold slotN oldN sizeN recH
  by_cases q : n < 5
  · rw [if_pos q, if_pos q, if_pos q]
    refine ⟨ho, fun i hi => ?_⟩
    dsimp only
    rw [if_pos q]
    by_cases q2 : i = n
    · subst q2
      rw [if_pos rfl, va_up_self, va_up_self]
      exact ⟨rfl, hlk⟩
    · rw [if_neg q2, va_up_ne _ _ (by omega), va_up_ne _ _ (by omega)]
      exact hc i (by omega)
  · rw [if_neg q, if_neg q, if_neg q]
    refine ⟨by omega, fun i hi => ?_⟩
    dsimp only
    rw [if_neg q]
    by_cases q2 : i = 4
    · subst q2
      rw [if_pos rfl, va_up_self, va_up_self]
      exact ⟨rfl, hlk⟩
    · rw [if_neg q2, va_up_ne _ _ (by omega), va_up_ne _ _ (by omega), show ((old + 1) % 5 + i) % 5 = (old + (i + 1)) % 5 by omega]
      exact hc (i + 1) (by omega)
theorem rec_r {Hs : Nat → Nat} {n : Nat} {h : Nat → Nat → Nat} {P : Nat → Nat} (h5 : n ≤ 5) (hr : HsOk Hs n h) : HsOk (recF Hs n P) (sizeN n) (recH h n P) := by
  intro i hi k hk
  unfold sizeN at hi
  unfold recH recF brF brK h0F
  by_cases q : n < 5
  · rw [if_pos q] at hi
    rw [if_pos q, if_neg (show ¬ n = 5 by omega)]
    by_cases q2 : i = n
    · subst q2
      rw [if_pos rfl, if_pos (by omega)]
      congr 1
      omega
    · rw [if_neg q2, if_neg (by omega)]
      exact hr i (by omega) k hk
  · rw [if_neg q] at hi
    rw [if_neg q, if_pos (show n = 5 by omega)]
    by_cases q2 : i = 4
    · subst q2
      rw [if_pos rfl, if_pos (by omega)]
      congr 1
      omega
    · rw [if_neg q2, if_neg (by omega)]
      unfold shK
      rw [if_pos (by omega), show 246 * i + k + 246 = 246 * (i + 1) + k by omega]
      exact hr (i + 1) (by omega) k hk

