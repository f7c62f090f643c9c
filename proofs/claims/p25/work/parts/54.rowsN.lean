/-! ===== rows of what is made anew ===== -/
section RN
variable {p : Program} {l : Launch} {e : Env} {R : Room} {s : State} {m : MethodId} {args : Array Value} {below : List Frame} {meth : Method} {c : Code} {H : Heap} {locs : List Loc} {cells slots : Nat} {Q : State → Prop}
variable {cc : ByteArray} {nL : Nat} {own : String} {Ts : List Cond} {ret : Option FieldType} {G : KG} {A : Nat → Prop} {ws : va_W} {pc : Nat} {ls : Array Slot} {rest : List Value} {lv : List (Nat × Value)}
theorem Wd.push (w : Wd G s A ws H locs) {H1 : Heap} {e : va_E} (z1 : H1.size = H.size + 1) (o1 : ∀ q, q < H.size → H1[q]? = H[q]?) (hc : va_at G.1 vwCl (H.size, e) H1) : Wd G s A (ws ++ [(H.size, e)]) H1 locs := by
  have hk : ∀ (k : Nat) (x : Nat × va_E), ws[k]? = some x → H1[x.1]? = H[x.1]? := fun k x hx => o1 x.1 ((w.1 k x hx).lt)
  refine ⟨(w.1.kept hk).app (fun k x hx => ?_), w.2.1.push w.1 rfl (w.2.2.2.2 _ w.2.2.1.1), ⟨Nat.le_trans w.2.2.1.1 (by omega), fun x h1 h2 => (o1 x (Nat.lt_of_lt_of_le h1 w.2.2.1.1)).trans (w.2.2.1.2.1 x h1 h2), w.2.2.1.2.2⟩, w.2.2.2⟩
  have hz : k < 1 := (List.getElem?_eq_some_iff.mp hx).1
  rw [show k = 0 by omega] at hx
  cases hx
  exact hc
theorem r_newI {n : Nat} (F : Fx p s m args meth c cc nL own Ts ret) (w : Wd G s A ws H locs) (harr : (Cond.arrayClass .int).before args s = true) (hn : n * 4 ≤ 536870912) (hcells : cells + 1 ≤ R.cells) (hslots : slots + n ≤ R.slots) (hdg : decode cc pc = .ok (.newarray .int, 2))
    (kk : ∀ (q : Nat) (H1 : Heap), Wd G s A (ws ++ [aI G q n (fun _ => 0)]) H1 locs → W p l e R s m args below meth c H1 locs (cells + 1) (slots + n) Q (F0 m (pc + 2) ls (.ref q :: rest))) : W p l e R s m args below meth c H locs cells slots Q (F0 m pc ls (.int (nI n) :: rest)) := by
  refine va_newaK F.1 F.2.1 (atype := .int) harr (g := F0 m pc ls (.int (nI n) :: rest)) rfl hdg rfl (nI_pos (by omega)) (nI_clamp (by omega)) hn hcells hslots rfl fun H1 cA e1 z1 o1 hAr hNm => ?_
  have e : cA = G.2.1 := Option.some.inj (hNm.symm.trans (w.2.2.2.1.2 0 (G.2.1, .int) rfl).2)
  subst e
  exact kk H.size H1 (w.push z1 o1 e1)
theorem r_newC {n : Nat} (F : Fx p s m args meth c cc nL own Ts ret) (w : Wd G s A ws H locs) (harr : (Cond.arrayClass .char).before args s = true) (hn : n * 2 ≤ 536870912) (hcells : cells + 1 ≤ R.cells) (hslots : slots + n ≤ R.slots) (hdg : decode cc pc = .ok (.newarray .char, 2))
    (kk : ∀ (q : Nat) (H1 : Heap), Wd G s A (ws ++ [aC G q n (fun _ => 0)]) H1 locs → W p l e R s m args below meth c H1 locs (cells + 1) (slots + n) Q (F0 m (pc + 2) ls (.ref q :: rest))) : W p l e R s m args below meth c H locs cells slots Q (F0 m pc ls (.int (nI n) :: rest)) := by
  refine va_newaK F.1 F.2.1 (atype := .char) harr (g := F0 m pc ls (.int (nI n) :: rest)) rfl hdg rfl (nI_pos (by omega)) (nI_clamp (by omega)) hn hcells hslots rfl fun H1 cA e1 z1 o1 hAr hNm => ?_
  have e : cA = G.2.2.1 := Option.some.inj (hNm.symm.trans (w.2.2.2.1.2 1 (G.2.2.1, .char) rfl).2)
  subst e
  exact kk H.size H1 (w.push z1 o1 e1)
theorem r_oinit {a idx : Nat} (F : Fx p s m args meth c cc nL own Ts ret) (hlink : (Cond.methodLink own idx Lib.objectInit).before args s = true) (hinst : (Cond.instanceMethod Lib.objectInit).before args s = true) (hcode : (Cond.code Lib.objectInit ⟨#[0xb1]⟩ 1 none).before args s = true) (hl : lv_has ls nL lv)
    (hframes : 1 ≤ R.frames) (hlocals : (rest.map fun v => v.category).sum + 12 ≤ R.locals) (hdg : decode cc pc = .ok (.invokespecial idx, 3)) (kk : W p l e R s m args below meth c H locs cells slots Q (F0 m (pc + 3) ls rest)) : W p l e R s m args below meth c H locs cells slots Q (F0 m pc ls (.ref a :: rest)) :=
  W.objInit F.1 F.2.1 F.2.2.2.1 hlink hinst hcode (g := F0 m pc ls (.ref a :: rest)) rfl (hl.1.trans F.2.2.1.symm) rfl hdg hframes (by show 2 * 0 + _ + 12 ≤ _; omega) kk
theorem r_new {C : String} {T : u_T} {N ci index : Nat} {fs : List Value} (F : Fx p s m args meth c cc nL own Ts ret) (w : Wd G s A ws H locs) (hin : ∀ w ∈ u_ws C T N, w ∈ Ts) (ty0 : Nat → FieldType) (hok : ClsOk T N ty0) (hcl : (Cond.classLink own index C).before args s = true) (hinst : (Cond.instantiable C N).before args s = true) (hini : (Cond.initialized C).before args s = true)
    (hc : vwCl[ci]? = some (C, T, N)) (hfs : ∀ j, j < N → defaultValue (ty0 j) = vp_V fs j) (hcells : cells + 1 ≤ R.cells) (hslots : slots + N ≤ R.slots) (hdg : decode cc pc = .ok (.new index, 3))
    (kk : ∀ (q : Nat) (H1 : Heap), Wd G s A (ws ++ [cO q ci fs]) H1 locs → W p l e R s m args below meth c H1 locs (cells + 1) (slots + N) Q (F0 m (pc + 3) ls (.ref q :: rest))) : W p l e R s m args below meth c H locs cells slots Q (F0 m pc ls rest) :=
  va_new F.1 F.2.1 F.ts hin ty0 hok.1 F.2.2.2.1 hcl hinst hini w.2.2.2.1 w.1 w.2.1 w.2.2.1 w.2.2.2.2 hc hfs hcells hslots hdg (fun q H1 h1 h2 h3 => kk q H1 ⟨h1, h2, h3, w.2.2.2⟩)
theorem r_putF {ci k N index a x : Nat} {C ref nm d : String} {T : u_T} {ty0 : Nat → FieldType} {fs : List Value} {ty : FieldType} {ws' : va_W} (F : Fx p s m args meth c cc nL own Ts ret) (hname : meth.name = "<init>") (w : Wd G s A ws H locs) (q0 : Nat) (hin : ∀ w ∈ u_ws C T N, w ∈ Ts) (hok : ClsOk T N ty0) (hlink : (Cond.fieldLink own index ref nm d).before args s = true)
    (he : ws[q0]? = some (a, .inr (ci, fs))) (hc : vwCl[ci]? = some (C, T, N)) (hT : T k = (own, nm, d, true)) (hr : ref = own) (hk : k < N) (hd : parseFieldDescriptor d = some ty) (hn : narrow ty (.ref x) = .ref x) (hfit : fits ty (.ref x) = true) (hlen : k < fs.length) (hdg : decode cc pc = .ok (.putfield index, 3)) (hw : ws.set q0 (cO a ci (fs.set k (.ref x))) = ws')
    (kk : ∀ (H1 : Heap) (locs1 : List Loc), Wd G s A ws' H1 locs1 → W p l e R s m args below meth c H1 locs1 cells slots Q (F0 m (pc + 3) ls rest)) : W p l e R s m args below meth c H locs cells slots Q (F0 m pc ls (.ref x :: .ref a :: rest)) := by
  subst hw
  subst hr
  exact va_putF F.1 F.2.1 F.ts hin ty0 hok.1 hok.2 F.2.2.2.1 w.2.2.2.1 w.1 w.2.1 w.2.2.1 q0 he hc k hk (ref := ref) (by rw [hT]; exact hlink) (fun y h => by rw [hT] at h ⊢; exact h) (by rw [hT]) hname (by rw [hT]) (by rw [hT]; exact hd) hn hfit hlen hdg (fun H1 locs1 h1 h2 h3 => kk H1 locs1 ⟨h1, h2, h3, w.2.2.2⟩)
end RN
/-- addresses in a row -/
def adr (l : List Nat) : Nat → Nat := fun k => l.getD k 0

