/-! ===== an array of plates, made and filled ===== -/
theorem fineX.AO {C : String} : fineX (fun _ U _ => va_AO C U) := ⟨fun hv q => va_AO.moved (x_alike hv) q, fun q _ => q, fun q _ => q⟩
def hiX (tl tm ti : Nat) : XF := fun A U H => ctX tl tm ti A U H ∧ va_AO RX3 U
theorem fine_hi (tl tm ti : Nat) : fineX (hiX tl tm ti) := (fine_ct tl tm ti).and fineX.AO
section RP
variable {p : Program} {l : Launch} {e : Env} {R : Room} {s : State} {m : MethodId} {args : Array Value} {below : List Frame} {meth : Method} {c : Code} {H : Heap} {locs : List Loc} {cells slots : Nat} {Q : State → Prop}
variable {cc : ByteArray} {nL : Nat} {own : String} {Ts : List Cond} {ret : Option FieldType} {G : KG} {A : Nat → Prop} {ws : va_W} {pc : Nat} {ls : Array Slot} {rest : List Value} {lv : List (Nat × Value)} {index : Nat}
theorem r_newP {n : Nat} (F : Fx p s m args meth c cc nL own Ts ret) (w : Wd G s A ws H locs) (hcl : (Cond.classLink own index RX3).before args s = true) (hao : va_AO RX3 s) (hn : n * 4 ≤ 536870912) (hcells : cells + 1 ≤ R.cells) (hslots : slots + n ≤ R.slots) (hdg : decode cc pc = .ok (.anewarray index, 3))
    (kk : ∀ (q : Nat) (H1 : Heap), Wd G s A (ws ++ [aP G q n (fun _ => none)]) H1 locs → W p l e R s m args below meth c H1 locs (cells + 1) (slots + n) Q (F0 m (pc + 3) ls (.ref q :: rest))) : W p l e R s m args below meth c H locs cells slots Q (F0 m pc ls (.int (nI n) :: rest)) := by
  refine va_newq F.1 F.2.1 F.2.2.2.1 hcl hao w.2.2.2.1 w.1 w.2.1 w.2.2.1 w.2.2.2.2 (nI_pos (by omega)) (nI_clamp (by omega)) hn hcells hslots hdg (fun q cA H1 hK hP hD hS => ?_)
  obtain ⟨-, -, -, -, -, h1⟩ := (hK.2 3 (cA, .object RX3) rfl).2
  obtain ⟨-, -, -, -, -, h2⟩ := (hK.2 2 (G.2.2.2, .object RX3) rfl).2
  have e : cA = G.2.2.2 := Option.some.inj (h1.symm.trans h2)
  subst e
  exact kk q H1 ⟨hP, hD, hS, w.2.2.2⟩
theorem r_aast {a n i v : Nat} {f : Nat → Option Nat} {vs : List Value} {ws' : va_W} (F : Fx p s m args meth c cc nL own Ts ret) (w : Wd G s A ws H locs) (q0 qk : Nat) (ha : ws[q0]? = some (aP G a n f)) (hv : ws[qk]? = some (cO v 3 vs)) (hi : i < n) (hn : n < 2 ^ 31) (hdg : decode cc pc = .ok (.aastore, 1)) (hw : ws.set q0 (aP G a n (va_up f i (some v))) = ws')
    (kk : ∀ (H1 : Heap) (locs1 : List Loc), Wd G s A ws' H1 locs1 → W p l e R s m args below meth c H1 locs1 cells slots Q (F0 m (pc + 1) ls rest)) : W p l e R s m args below meth c H locs cells slots Q (F0 m pc ls (.ref v :: .int (nI i) :: .ref a :: rest)) := by
  subst hw
  refine va_astq F.1 F.2.1 w.2.2.2.1 w.1 w.2.1 w.2.2.1 q0 2 qk 3 (r := (RX3, TX3, 15)) ha rfl hv rfl (vp_in_nI hi hn) hdg (fun H1 locs1 h1 h2 h3 => kk H1 locs1 ⟨?_, ?_, h3, w.2.2.2⟩)
  · rw [nI_clamp (Nat.lt_trans hi hn)] at h1; exact h1
  · rw [nI_clamp (Nat.lt_trans hi hn)] at h2; exact h2
end RP

