/-! ===== a table's numbers copied into an array of the world ===== -/
section RTC
variable {p : Program} {l : Launch} {e : Env} {R : Room} {s : State} {m : MethodId} {args : Array Value} {below : List Frame} {meth : Method} {c : Code} {H : Heap} {locs : List Loc} {cells slots : Nat} {Q : State → Prop}
variable {cc : ByteArray} {nL : Nat} {own : String} {Ts : List Cond} {ret : Option FieldType} {G : KG} {A : Nat → Prop} {ws : va_W} {pc : Nat} {ls : Array Slot} {rest : List Value} {lv : List (Nat × Value)} {index : Nat}
theorem r_copyT (F : Fx p s m args meth c cc nL own Ts ret) (w : Wd G s A ws H locs) (q2 : Nat) {t a2 n : Nat} {f g : Nat → Nat} {ws' : va_W} (hlink : (Cond.methodLink own index arraycopyName).before args s = true) (hnat : (Cond.native arraycopyName).before args s = true) (hstat : (Cond.static arraycopyName).before args s = true) (hini : (Cond.initialized "java/lang/System").before args s = true)
    (hTab : va_T .int t n (fun k => .int (nI (f k))) A s s.heap) (h2 : ws[q2]? = some (aI G a2 n g)) (hn : n < 2 ^ 31) (hframes : 1 ≤ R.frames) (hlocals : (rest.map fun v => v.category).sum + (nativeFrameWords "java/lang/System" "arraycopy" 5 + 11) ≤ R.locals) (hl : lv_has ls nL lv) (hdg : decode cc pc = .ok (.invokestatic index, 3)) (hw : ws.set q2 (aI G a2 n f) = ws')
    (kk : ∀ (H1 : Heap) (locs1 : List Loc), Wd G s A ws' H1 locs1 → W p l e R s m args below meth c H1 locs1 cells slots Q (F0 m (pc + 3) ls rest)) : W p l e R s m args below meth c H locs cells slots Q (F0 m pc ls (.int (nI n) :: .int (nI 0) :: .ref a2 :: .int (nI 0) :: .ref t :: rest)) := by
  subst hw
  have z0 : (nI 0).toNatClampNeg = 0 := nI_clamp (by decide)
  have zn : (nI n).toNatClampNeg = n := nI_clamp hn
  have i0 : (nI 0).toInt = 0 := nI_toInt (by decide)
  have inn : (nI n).toInt = n := nI_toInt hn
  intro T hT X
  obtain ⟨src, g1, ⟨ga, k0, gb, cm0, gc⟩, g3, g4, -, g6, g7⟩ := hTab
  have hsrc : H[t]? = some src := (w.2.2.1.2.1 t (Array.getElem?_eq_some_iff.mp g1).1 g7).trans g1
  have hdst : H[a2]? = some (vp_cell G.2.1 (n, .inl (nA g))) := w.1 q2 _ h2
  obtain ⟨-, k1, hk1, cm1, hkk1⟩ := (w.2.2.2.1.2 0 (G.2.1, .int) rfl).1 n (fun j => .int (nA g j))
  obtain ⟨vm', X', step⟩ := X.arraycopy F.1 F.2.2.2.1 hlink hnat hstat hini (src := t) (dst := a2) (cs := src) (cd := vp_cell G.2.1 (n, .inl (nA g))) (srcPos := nI 0) (destPos := nI 0) (n := nI n) (by rw [hT]; exact hsrc) (by rw [hT]; exact hdst)
    ga (fun _ h => by cases h) g3 (fun h => by cases h) gb hk1 gc hkk1 (by simp [refKind]) (nI_pos (by decide)) (nI_pos (by decide)) (nI_pos hn)
    (by rw [i0, inn]; omega)
    (by rw [i0, inn]; show ¬ _ > ((arrV G.2.1 n (fun j => .int (nA g j))).slots.size : Int); rw [arrV_size]; omega)
    (fun vm₁ _ i hi => by
      rw [zn] at hi
      have e : src.slots.getD ((nI 0).toNatClampNeg + i) .null = .int (nI (f i)) := by
        rw [z0, Nat.zero_add, Array.getD_eq_getD_getElem?, g6 i hi]
        rfl
      exact ⟨by rw [e]; rfl, by rw [e]; trivial⟩)
    (g := F0 m pc ls (.int (nI n) :: .int (nI 0) :: .ref a2 :: .int (nI 0) :: .ref t :: rest)) rfl (hl.1.trans F.2.2.1.symm) (rest := rest) rfl (by rw [F.2.1]; exact hdg) hframes (by show 2 * 0 + _ + _ ≤ _; omega)
  have e1 : copied src (vp_cell G.2.1 (n, .inl (nA g))) (nI 0) (nI 0) (nI n) = vp_cell G.2.1 (n, .inl (va_cpy (nA f) (nA g) (nI 0).toNatClampNeg (nI 0).toNatClampNeg (nI n).toNatClampNeg)) := va_copiedX (fun z => .int z) src G.2.1 (nA f) (nA g) g6 (by rw [z0, zn]; omega)
  rw [e1, z0, zn] at X' step
  have hlt : a2 < H.size := (Array.getElem?_eq_some_iff.mp hdst).1
  have oq : ∀ q : Nat, q ≠ a2 → (H.setIfInBounds a2 (vp_cell G.2.1 (n, .inl (va_cpy (nA f) (nA g) 0 0 n))))[q]? = H[q]? := fun q hq => by simp [Array.getElem?_setIfInBounds, Ne.symm hq]
  have hA2 : A a2 := w.2.1.2 q2 _ h2
  have w2 : ∀ L : List Loc, (∀ x ∈ L, x.base = a2) → Wd G s A (ws.set q2 (aI G a2 n f)) (H.setIfInBounds a2 (vp_cell G.2.1 (n, .inl (va_cpy (nA f) (nA g) 0 0 n)))) (locs ++ L) := fun L hL =>
    Wd.eq (ws := ws.set q2 (a2, .inl (G.2.1, n, .inl (va_cpy (nA f) (nA g) 0 0 n)))) ⟨w.1.set w.2.1 h2 (show (H.setIfInBounds a2 _)[a2]? = some _ by simp [Array.getElem?_setIfInBounds, hlt]) oq, w.2.1.set h2, ⟨by simp; exact w.2.2.1.1, fun q y1 y2 => (oq q (fun e => y2 (by rw [e]; exact hA2))).trans (w.2.2.1.2.1 q y1 y2), fun x hx => by
      rcases List.mem_append.mp hx with h | h
      · exact w.2.2.1.2.2 x h
      · rw [hL x h]; exact hA2⟩, w.2.2.2⟩ (eqW.set ws q2 ⟨rfl, rfl, fun k hk => by
        rw [pk_cpy_in (Nat.zero_le k) (by omega)]
        simp⟩)
  obtain ⟨r, b1, b2⟩ := kk _ _ (w2 _ (fun x hx => by
    obtain ⟨z, -, hz⟩ := List.mem_map.mp hx
    rw [← hz])) _ (by rw [← hT]; rfl) X'
  exact ⟨r, step r b1, b2⟩
end RTC

