/-! ===== String constants: what is known of them, and calls on them ===== -/
theorem fineX.O {E : String} {t : Nat} : fineX (fun A U H => va_O E t A U H) := ⟨fun hv q => va_O.moved (x_alike hv) q, fun q hq => va_O.kept q hq, fun q hq => va_O.narrow q hq⟩
theorem fineX.OF {o n d : String} {v : Value} {t : Nat} : fineX (fun A U H => va_OF o n d v t A U H) := ⟨fun hv q => va_OF.moved (x_alike hv) q, fun q hq => va_OF.kept q hq, fun q hq => va_OF.narrow q hq⟩
theorem fineX.Zq {C n d : String} : fineX (fun A U H => va_Zq C n d A U H) := ⟨fun hv q => va_Zq.moved (x_alike hv) q, fun q hq => va_Zq.kept q hq, fun q hq => va_Zq.narrow q hq⟩
theorem fineX.R {own tx : String} {k a : Nat} : fineX (fun _ U _ => vk_R own k tx a U) := ⟨fun hv q => hv.elim (fun hW => vk_R.warm hW q) (fun e => vk_R.same e q), fun q _ => q, fun q _ => q⟩
/-- the JDK's statics, and a String of len Latin letters by at q, its letters at v -/
def jdkX : XF := fun A U H => va_Z "java/lang/String" "COMPACT_STRINGS" "Z" (.int (nI 1)) A U H ∧ va_Zq "jdk/internal/util/Preconditions" "SIOOBE_FORMATTER" "Ljava/util/function/BiFunction;" A U H
def strO (q v len : Nat) (by_ : Nat → Nat) : XF := fun A U H => (va_O "java/lang/String" q A U H ∧ va_OF "java/lang/String" "coder" "B" (.int (nI 0)) q A U H) ∧ (va_OF "java/lang/String" "value" "[B" (.ref v) q A U H ∧ va_T .byte v len (fun j => .int (nI (by_ j))) A U H)
def strX (q v len : Nat) (by_ : Nat → Nat) : XF := fun A U H => jdkX A U H ∧ strO q v len by_ A U H
theorem fine_jdk : fineX jdkX := fineX.Z.and fineX.Zq
theorem fine_strO (q v len : Nat) (by_ : Nat → Nat) : fineX (strO q v len by_) := (fineX.O.and fineX.OF).and (fineX.OF.and fineX.T)
theorem fine_str (q v len : Nat) (by_ : Nat → Nat) : fineX (strX q v len by_) := fine_jdk.and (fine_strO q v len by_)
section RS
variable {p : Program} {l : Launch} {e : Env} {R : Room} {s : State} {m : MethodId} {args : Array Value} {below : List Frame} {meth : Method} {c : Code} {H : Heap} {locs : List Loc} {cells slots : Nat} {Q : State → Prop}
variable {cc : ByteArray} {nL : Nat} {own : String} {Ts : List Cond} {ret : Option FieldType} {G : KG} {A : Nat → Prop} {ws wc wr : va_W} {pc : Nat} {ls : Array Slot} {rest st : List Value}
variable {a : Array Value} {mc ms : Nat} {X : XF}
variable {nA0 : Nat} {y : MethodName} {Wy W' : List Cond} {bytes : ByteArray} {maxL index k ci b N : Nat} {rt : Option FieldType} {As : List Value} {C : String} {T : u_T} {fs : List Value} {lv : List (Nat × Value)}
theorem q_callVI {post : Int32 → va_W → Prop} (hf : fineX X) (hX : X A s s.heap) (hO : va_O C b A s s.heap) (F : Fx p s m args meth c cc nL own Ts ret) (w : Wd G s A ws H locs) (hM : MetIX l y Wy k G [] (.ref b :: As) X post) (hg : GoodIn Ts (wsV own index C y Wy)) (hw : Wy = Cond.code y bytes maxL rt :: W')
    (hd : y.cls = C ∧ y.cls ≠ "java/lang/invoke/MethodHandle" ∧ y.cls ≠ "java/lang/invoke/VarHandle" ∧ (parseMethodDescriptor y.desc).map (fun d => d.parameters.length) = some nA0) (hAs : As.length = nA0) (hRm : k + 1 ≤ R.frames ∧ 8 + (maxL + 11) + 30 * k ≤ R.locals) (hcs : cells ≤ R.cells ∧ slots ≤ R.slots)
    (hl : lv_has ls nL lv) (hst : st = As.reverse ++ .ref b :: rest) (hroom : (rest.map fun v => v.category).sum ≤ 8) (hdg : decode cc pc = .ok (.invokevirtual index, 3))
    (kk : ∀ (r : Int32) (w1 : va_W) (H1 : Heap) (locs1 : List Loc), post r w1 → Wd G s A (w1 ++ ws) H1 locs1 → W p l e R s m args below meth c H1 locs1 cells slots Q (F0 m (pc + 3) ls (.int r :: rest))) : W p l e R s m args below meth c H locs cells slots Q (F0 m pc ls st) := by
  have w : Wd G s A ([] ++ ws) H locs := w
  have hr : ∃ cell : Cell, H[b]? = some cell ∧ cell.vm.isStatics = false ∧ s.vm.findClass C = some cell.cls := by
    obtain ⟨cell, h1, h2, h3, -⟩ := hO.kept w.2.2.1.2.1
    exact ⟨cell, h1, h2, h3⟩
  refine va_calli (va_runV (As := As) (rest := rest) F.fix (hM H.size) (cwV nA0 F.ts hg hw rfl rfl hd hRm) ⟨PreX.blind hf, hr, PreX.front hf w hX _⟩ rfl hAs hl.1 hst (lv_room hroom) hdg hcs) w.2.2.1 (fun q _ h => w.free q h) w.free (fun r u t H1 locs1 ht hvm hpost hB hz hk hS => kk r u H1 locs1 hpost ?_)
  obtain ⟨hP1, -, hD1⟩ := hB
  rw [ht] at hP1
  exact w.join hk hP1 hD1 hS
theorem x_callSI {post : Int32 → va_W → Prop} (hf : fineX X) (hX : X A s s.heap) (F : Fx p s m args meth c cc nL own Ts ret) (w : Wd G s A ws H locs) (hM : MetIX l y Wy k G wc As X post) (hws : ws = wc ++ wr) (hg : GoodIn Ts (va_wsS own index y Wy)) (hw : Wy = Cond.code y bytes maxL rt :: W')
    (hd : y.cls ≠ "java/lang/invoke/MethodHandle" ∧ y.cls ≠ "java/lang/invoke/VarHandle" ∧ (parseMethodDescriptor y.desc).map (fun d => d.parameters.length) = some nA0) (hAs : As.length = nA0) (hRm : k + 1 ≤ R.frames ∧ 8 + (maxL + 11) + 30 * k ≤ R.locals) (hcs : cells ≤ R.cells ∧ slots ≤ R.slots)
    (hl : lv_has ls nL lv) (hst : st = As.reverse ++ rest) (hroom : (rest.map fun v => v.category).sum ≤ 8) (hdg : decode cc pc = .ok (.invokestatic index, 3))
    (kk : ∀ (r : Int32) (w1 : va_W) (H1 : Heap) (locs1 : List Loc), post r w1 → Wd G s A (w1 ++ wr) H1 locs1 → W p l e R s m args below meth c H1 locs1 cells slots Q (F0 m (pc + 3) ls (.int r :: rest))) : W p l e R s m args below meth c H locs cells slots Q (F0 m pc ls st) := by
  subst hws
  refine va_calli (va_runS (As := As) (rest := rest) F.fix (hM H.size) (va_cwS nA0 F.ts hg hw rfl rfl hd hRm) ⟨PreX.blind hf, PreX.front hf w hX _⟩ rfl hAs hl.1 hst (lv_room hroom) hdg hcs) w.2.2.1 (fun q _ h => w.free q h) w.free (fun r u t H1 locs1 ht hvm hpost hB hz hk hS => kk r u H1 locs1 hpost ?_)
  obtain ⟨hP1, -, hD1⟩ := hB
  rw [ht] at hP1
  exact w.join hk hP1 hD1 hS
theorem x_callSV {post : va_W → Prop} (hf : fineX X) (hX : X A s s.heap) (F : Fx p s m args meth c cc nL own Ts ret) (w : Wd G s A ws H locs) (hM : MetVX l y Wy k mc ms G wc As X post) (hws : ws = wc ++ wr) (hg : GoodIn Ts (va_wsS own index y Wy)) (hw : Wy = Cond.code y bytes maxL rt :: W')
    (hd : y.cls ≠ "java/lang/invoke/MethodHandle" ∧ y.cls ≠ "java/lang/invoke/VarHandle" ∧ (parseMethodDescriptor y.desc).map (fun d => d.parameters.length) = some nA0) (hAs : As.length = nA0) (hRm : k + 1 ≤ R.frames ∧ 8 + (maxL + 11) + 30 * k ≤ R.locals) (hcs : cells + mc ≤ R.cells ∧ slots + ms ≤ R.slots)
    (hl : lv_has ls nL lv) (hst : st = As.reverse ++ rest) (hroom : (rest.map fun v => v.category).sum ≤ 8) (hdg : decode cc pc = .ok (.invokestatic index, 3))
    (kk : ∀ (w1 : va_W) (H1 : Heap) (locs1 : List Loc), post w1 → Wd G s A (w1 ++ wr) H1 locs1 → W p l e R s m args below meth c H1 locs1 (cells + mc) (slots + ms) Q (F0 m (pc + 3) ls rest)) : W p l e R s m args below meth c H locs cells slots Q (F0 m pc ls st) := by
  subst hws
  refine va_callv (va_runS (As := As) (rest := rest) F.fix (hM H.size) (va_cwS nA0 F.ts hg hw rfl rfl hd hRm) ⟨PreX.blind hf, PreX.front hf w hX _⟩ rfl hAs hl.1 hst (lv_room hroom) hdg hcs) w.2.2.1 (fun q _ h => w.free q h) w.free (fun u t H1 locs1 ht hvm hpost hB hz hk hS => kk u H1 locs1 hpost ?_)
  obtain ⟨hP1, -, hD1⟩ := hB
  rw [ht] at hP1
  exact w.join hk hP1 hD1 hS
theorem r_ofg {o n d ref : String} {q : Nat} {v : Value} (F : Fx p s m args meth c cc nL own Ts ret) (w : Wd G s A ws H locs) (hE : va_OF o n d v q A s s.heap) (hlink : (Cond.fieldLink own index ref n d).before args s = true) (hs : ref = o) (hdg : decode cc pc = .ok (.getfield index, 3))
    (kk : W p l e R s m args below meth c H locs cells slots Q (F0 m (pc + 3) ls (v :: rest))) : W p l e R s m args below meth c H locs cells slots Q (F0 m pc ls (.ref q :: rest)) :=
  vk_getf F.1 F.2.1 hE w.2.2.1 F.2.2.2.1 hlink (fun x h => by rw [hs]; exact h) hdg kk
theorem r_tlen {ty : FieldType} {t n : Nat} {f : Nat → Value} (F : Fx p s m args meth c cc nL own Ts ret) (w : Wd G s A ws H locs) (hT : va_T ty t n f A s s.heap) (hdg : decode cc pc = .ok (.arraylength, 1))
    (kk : W p l e R s m args below meth c H locs cells slots Q (F0 m (pc + 1) ls (.int (nI n) :: rest))) : W p l e R s m args below meth c H locs cells slots Q (F0 m pc ls (.ref t :: rest)) :=
  va_tlen F.1 F.2.1 hT w.2.2.1 rfl hdg kk
theorem r_tbld {t n i : Nat} {f : Nat → Nat} (F : Fx p s m args meth c cc nL own Ts ret) (w : Wd G s A ws H locs) (hT : va_T .byte t n (fun k => .int (nI (f k))) A s s.heap) (hi : i < n) (hn : n < 2 ^ 31) (hdg : decode cc pc = .ok (.baload, 1))
    (kk : W p l e R s m args below meth c H locs cells slots Q (F0 m (pc + 1) ls (.int (nI (f i)) :: rest))) : W p l e R s m args below meth c H locs cells slots Q (F0 m pc ls (.int (nI i) :: .ref t :: rest)) :=
  va_tb F.1 F.2.1 hT w.2.2.1 (vp_in_nI hi hn) (v := .int (nI (f i))) (by rw [nI_clamp (Nat.lt_trans hi hn)]) hdg kk
theorem r_ldcS {tx : String} {q : Nat} (F : Fx p s m args meth c cc nL own Ts ret) (hZ : vk_R own index tx q s) (hdg : decode cc pc = .ok (.ldc index, 2))
    (kk : W p l e R s m args below meth c H locs cells slots Q (F0 m (pc + 2) ls (.ref q :: rest))) : W p l e R s m args below meth c H locs cells slots Q (F0 m pc ls rest) :=
  va_ldcS F.1 F.2.1 F.2.2.2.1 hZ hdg kk
end RS
theorem iand_ok : ∀ {x : Nat}, x < 128 → nI x &&& nI 255 = nI x := by
  have h : ∀ x : Fin 128, nI x &&& nI 255 = nI x := by decide +kernel
  exact fun {x} hx => h ⟨x, hx⟩
theorem ishr_0 (x : Int32) : x >>> (nI 0 &&& 31) = x := by
  have e : (nI 0 &&& 31 : Int32) = 0 := by decide
  rw [e]
  exact Int32.shiftRight_zero

