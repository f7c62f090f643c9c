/-! ===== p25: the law's premises ===== -/
/-! THE CLAIM OUT OF ONE WALK OF THE LAW'S BODY. Your part is whole_start (and what it stands on); all else here is the same for every law, but numbers. -/
def R_law : String := "CoreMelterLaw"
def lw_P (b : Addr) (xs : List Int32) (args : Array Value) (s : State) : Prop := args = #[.ref b] ∧ s.IntsAt b xs ∧ xs.length ≤ 260 ∧ (Jvm.Cond.and given_1 narrow_1).before args s = true
def lw_Q (_ : Array Value) (s : State) (o : Outcome) (t : State) : Prop := o = .returned (some (.int 1)) ∧ Framed s o t [] 600000 7302250
def lw_Z (below : List Frame) (a : Array Value) (s : State) : State → Prop := fun t => ∃ o, t.status = .running ∧ Ended t below o ∧ lw_Q a s o t
/-- the law's own end, with 1 on the stack, nothing written that was there before, its room as the claim has it -/
theorem lw_ret {p : Program} {l : Launch} {e : Env} {s : State} {m : MethodId} {below : List Frame} {meth : Method} {c : Code} {b : Nat} (hx : p.tables.exec = Jvm.exec) (hb : c.code = code) (hr : meth.sig.returnType = ret) (hlocks : meth.locks = false) {pc : Nat} {H : Heap} {ls : Array Slot} (hdg : decode code pc = .ok (.ireturn, 1)) : W p l e room_1 s m #[Value.ref b] below meth c H [] 600000 7302250 (lw_Z below #[Value.ref b] s) (F0 m pc ls [.int 1]) := by
  intro T hT X
  obtain ⟨fs, hret, hrun, hended, hW, hframe⟩ := X.leave (v := some (.int 1)) (hlocks := hlocks) (fun h => by rw [hr] at h; cases h)
  have hmeth' : T.vm.method? m = some meth := X.method'
  refine ⟨T.setFrames fs, ?_, .returned (some (.int 1)), hrun, hended, rfl, ⟨_, rfl⟩, hW, hframe⟩
  jvm_step X.here [X.here.top, hx, hb, hdg, hmeth', hr, ret, narrow_b1]
  (try refine ⟨rfl, ?_⟩); (try refine ⟨rfl, ?_⟩)
  first | (intro acts; rw [hret _ acts rfl rfl rfl]) | rw [hret _ _ rfl rfl rfl]
  exact Steps.refl _
/-- what holds at the law's entry: the machine, the code, the tables' words (any of lw_tbl by 'hts w (by decide +kernel)'), the script of L ints xs at the cell b, what the Statement gives of the start (any of its parts by flat_of_before) -/
def lw_At (p : Program) (s : State) (m : MethodId) (meth : Method) (c : Code) (b L : Nat) (xs : Nat → Int32) : Prop :=
  p.tables.exec = Jvm.exec ∧ c.code = code ∧ meth.sig.returnType = ret ∧ c.maxLocals = 14 ∧ s.vm.findClass R_law = some m.cls ∧ (∀ w ∈ lw_tbl, w.before #[Value.ref b] s = true) ∧ va_X b L xs s s.heap ∧ b < s.heap.size ∧ meth.locks = false ∧ (Jvm.Cond.and given_1 narrow_1).before #[Value.ref b] s = true
theorem init_inv : Inv initP := by
  have z : ∀ k, 8 ≤ k → initP k = 0 := fun k hk => initP_0 hk
  refine ⟨⟨by rw [z 8 (by decide)]; exact Nat.zero_le _, fun k hk => ?_⟩, ?_, ⟨?_, ?_, ?_, ?_⟩, ⟨?_, ?_, ?_, ?_⟩, fun i hi => ?_, ⟨?_, fun v hv => ?_⟩, ⟨?_, ?_, ?_, ?_⟩⟩
  · rw [z 8 (by decide)] at hk; exact absurd hk (Nat.not_lt_zero _)
  · unfold SetOk
    rw [initP_set (k := 0) (by decide), initP_set (k := 1) (by decide), initP_set (k := 2) (by decide), initP_set (k := 3) (by decide), initP_set (k := 4) (by decide), initP_set (k := 5) (by decide), initP_set (k := 6) (by decide), initP_set (k := 7) (by decide)]
    decide
  · rw [z 9 (by decide)]; exact Nat.zero_le _
  · rw [z 19 (by decide), z 9 (by decide), wat_0]
  · rw [z 22 (by decide)]; exact Nat.zero_le _
  · rw [z 24 (by decide)]; exact Nat.zero_le _
  · rw [z 19 (by decide), z 11 (by decide), z 20 (by decide), z 21 (by decide)]
  · rw [z 22 (by decide), z 12 (by decide), z 23 (by decide)]
  · rw [z 24 (by decide), z 13 (by decide), z 25 (by decide)]
  · rw [z 15 (by decide)]; exact Nat.zero_le _
  · rw [z (26 + 5 * i) (by omega), z (26 + 5 * i + 1) (by omega), z (26 + 5 * i + 2) (by omega)]
    omega
  · rw [z 14 (by decide)]; exact Nat.zero_le _
  · rw [z 14 (by decide)] at hv; exact absurd hv (Nat.not_lt_zero _)
  · rw [z 16 (by decide)]; exact Nat.zero_le _
  · rw [z 10 (by decide)]; exact Nat.zero_le _
  · rw [z 17 (by decide)]; exact Nat.zero_le _
  · rw [z 18 (by decide)]; exact Nat.zero_le _
theorem init_S : SI initP 0 (fun _ _ => 0) := ⟨init_inv, Nat.zero_le _, fun _ => (by decide : 0 < 128), Nat.zero_le _, fun i hi => absurd hi (Nat.not_lt_zero _)⟩
theorem init_J : JI initP := zero_J (fun k hk _ => initP_0 (by omega))
theorem MetV.toX {l : Launch} {y : MethodName} {Ts : List Cond} {k mc ms : Nat} {G : KG} {ws : va_W} {as : List Value} {X : XF} {post : va_W → Prop} (h : MetV l y Ts k mc ms G ws as post) : MetVX l y Ts k mc ms G ws as X post :=
  fun sz => met_pre (fun v U q => ⟨q.1, q.2.1, q.2.2.1, q.2.2.2.1, q.2.2.2.2.1⟩) (h sz)
theorem va_T.cg {ty : FieldType} {t N : Nat} {f g : Nat → Value} {A : Nat → Prop} {U : State} {H : Heap} (h : va_T ty t N f A U H) (hfg : ∀ j, j < N → f j = g j) : va_T ty t N g A U H := by
  obtain ⟨cell, h1, h2, h3, h4, h5, h6, h7⟩ := h
  exact ⟨cell, h1, h2, h3, h4, h5, fun j hj => by rw [h6 j hj, hfg j hj], h7⟩
theorem lt8 {j : Nat} (h : j < 8) : j = 0 ∨ j = 1 ∨ j = 2 ∨ j = 3 ∨ j = 4 ∨ j = 5 ∨ j = 6 ∨ j = 7 := by omega
theorem pre_LEAST {args : Array Value} {s : State} {A : Nat → Prop} (hts : ∀ w ∈ lw_tbl, w.before args s = true) (hgv : (Jvm.Cond.and given_1 narrow_1).before args s = true) (hA : ∀ a : Nat, a < s.heap.size → ¬ A a) : ∃ t : Nat, va_Z "CoreMelter$Plate" "LEAST" "[I" (.ref t) A s s.heap ∧ va_T .int t 8 (fun k => .int (nI (leastF k))) A s s.heap := by
  have hs := flat_of_before _ hgv
  obtain ⟨t, h1, h2⟩ := va_Tof (tm := .static "CoreMelter$Plate" "LEAST" "[I") (ty := .int) (N := 8) (f := fun k => .int (nI (leastF k))) (A := A) (by decide) (hs (Cond.arrayOf (.static "CoreMelter$Plate" "LEAST" "[I") .int) (by decide +kernel)) (va_eqt (hs (Cond.eq (.length (.static "CoreMelter$Plate" "LEAST" "[I")) (.int 8)) (by decide +kernel))) (fun j hj => by
    rcases lt8 hj with rfl | rfl | rfl | rfl | rfl | rfl | rfl | rfl
    · exact va_eqt (hs (Cond.eq (.elem (.static "CoreMelter$Plate" "LEAST" "[I") (.int 0)) (.int 0)) (by decide +kernel))
    · exact va_eqt (hs (Cond.eq (.elem (.static "CoreMelter$Plate" "LEAST" "[I") (.int 1)) (.int 10)) (by decide +kernel))
    · exact va_eqt (hs (Cond.eq (.elem (.static "CoreMelter$Plate" "LEAST" "[I") (.int 2)) (.int 100)) (by decide +kernel))
    · exact va_eqt (hs (Cond.eq (.elem (.static "CoreMelter$Plate" "LEAST" "[I") (.int 3)) (.int 1)) (by decide +kernel))
    · exact va_eqt (hs (Cond.eq (.elem (.static "CoreMelter$Plate" "LEAST" "[I") (.int 4)) (.int 50)) (by decide +kernel))
    · exact va_eqt (hs (Cond.eq (.elem (.static "CoreMelter$Plate" "LEAST" "[I") (.int 5)) (.int 5)) (by decide +kernel))
    · exact va_eqt (hs (Cond.eq (.elem (.static "CoreMelter$Plate" "LEAST" "[I") (.int 6)) (.int 50)) (by decide +kernel))
    · exact va_eqt (hs (Cond.eq (.elem (.static "CoreMelter$Plate" "LEAST" "[I") (.int 7)) (.int 0)) (by decide +kernel))
    ) hA
  exact ⟨t, va_Zref (hts (.laysStatic "CoreMelter$Plate" "LEAST" "[I") (by decide +kernel)) (hts (.initialized "CoreMelter$Plate") (by decide +kernel)) h1 hA, h2⟩
theorem pre_MOST {args : Array Value} {s : State} {A : Nat → Prop} (hts : ∀ w ∈ lw_tbl, w.before args s = true) (hgv : (Jvm.Cond.and given_1 narrow_1).before args s = true) (hA : ∀ a : Nat, a < s.heap.size → ¬ A a) : ∃ t : Nat, va_Z "CoreMelter$Plate" "MOST" "[I" (.ref t) A s s.heap ∧ va_T .int t 8 (fun k => .int (nI (mostF k))) A s s.heap := by
  have hs := flat_of_before _ hgv
  obtain ⟨t, h1, h2⟩ := va_Tof (tm := .static "CoreMelter$Plate" "MOST" "[I") (ty := .int) (N := 8) (f := fun k => .int (nI (mostF k))) (A := A) (by decide) (hs (Cond.arrayOf (.static "CoreMelter$Plate" "MOST" "[I") .int) (by decide +kernel)) (va_eqt (hs (Cond.eq (.length (.static "CoreMelter$Plate" "MOST" "[I")) (.int 8)) (by decide +kernel))) (fun j hj => by
    rcases lt8 hj with rfl | rfl | rfl | rfl | rfl | rfl | rfl | rfl
    · exact va_eqt (hs (Cond.eq (.elem (.static "CoreMelter$Plate" "MOST" "[I") (.int 0)) (.int 200)) (by decide +kernel))
    · exact va_eqt (hs (Cond.eq (.elem (.static "CoreMelter$Plate" "MOST" "[I") (.int 1)) (.int 200)) (by decide +kernel))
    · exact va_eqt (hs (Cond.eq (.elem (.static "CoreMelter$Plate" "MOST" "[I") (.int 2)) (.int 20000)) (by decide +kernel))
    · exact va_eqt (hs (Cond.eq (.elem (.static "CoreMelter$Plate" "MOST" "[I") (.int 3)) (.int 500)) (by decide +kernel))
    · exact va_eqt (hs (Cond.eq (.elem (.static "CoreMelter$Plate" "MOST" "[I") (.int 4)) (.int 5000)) (by decide +kernel))
    · exact va_eqt (hs (Cond.eq (.elem (.static "CoreMelter$Plate" "MOST" "[I") (.int 5)) (.int 200)) (by decide +kernel))
    · exact va_eqt (hs (Cond.eq (.elem (.static "CoreMelter$Plate" "MOST" "[I") (.int 6)) (.int 5000)) (by decide +kernel))
    · exact va_eqt (hs (Cond.eq (.elem (.static "CoreMelter$Plate" "MOST" "[I") (.int 7)) (.int 50)) (by decide +kernel))
    ) hA
  exact ⟨t, va_Zref (hts (.laysStatic "CoreMelter$Plate" "MOST" "[I") (by decide +kernel)) (hts (.initialized "CoreMelter$Plate") (by decide +kernel)) h1 hA, h2⟩
theorem pre_INITIAL {args : Array Value} {s : State} {A : Nat → Prop} (hts : ∀ w ∈ lw_tbl, w.before args s = true) (hgv : (Jvm.Cond.and given_1 narrow_1).before args s = true) (hA : ∀ a : Nat, a < s.heap.size → ¬ A a) : ∃ t : Nat, va_Z "CoreMelter$Plate" "INITIAL" "[I" (.ref t) A s s.heap ∧ va_T .int t 8 (fun k => .int (nI (initF k))) A s s.heap := by
  have hs := flat_of_before _ hgv
  obtain ⟨t, h1, h2⟩ := va_Tof (tm := .static "CoreMelter$Plate" "INITIAL" "[I") (ty := .int) (N := 8) (f := fun k => .int (nI (initF k))) (A := A) (by decide) (hs (Cond.arrayOf (.static "CoreMelter$Plate" "INITIAL" "[I") .int) (by decide +kernel)) (va_eqt (hs (Cond.eq (.length (.static "CoreMelter$Plate" "INITIAL" "[I")) (.int 8)) (by decide +kernel))) (fun j hj => by
    rcases lt8 hj with rfl | rfl | rfl | rfl | rfl | rfl | rfl | rfl
    · exact va_eqt (hs (Cond.eq (.elem (.static "CoreMelter$Plate" "INITIAL" "[I") (.int 0)) (.int 100)) (by decide +kernel))
    · exact va_eqt (hs (Cond.eq (.elem (.static "CoreMelter$Plate" "INITIAL" "[I") (.int 1)) (.int 50)) (by decide +kernel))
    · exact va_eqt (hs (Cond.eq (.elem (.static "CoreMelter$Plate" "INITIAL" "[I") (.int 2)) (.int 2000)) (by decide +kernel))
    · exact va_eqt (hs (Cond.eq (.elem (.static "CoreMelter$Plate" "INITIAL" "[I") (.int 3)) (.int 60)) (by decide +kernel))
    · exact va_eqt (hs (Cond.eq (.elem (.static "CoreMelter$Plate" "INITIAL" "[I") (.int 4)) (.int 500)) (by decide +kernel))
    · exact va_eqt (hs (Cond.eq (.elem (.static "CoreMelter$Plate" "INITIAL" "[I") (.int 5)) (.int 40)) (by decide +kernel))
    · exact va_eqt (hs (Cond.eq (.elem (.static "CoreMelter$Plate" "INITIAL" "[I") (.int 6)) (.int 500)) (by decide +kernel))
    · exact va_eqt (hs (Cond.eq (.elem (.static "CoreMelter$Plate" "INITIAL" "[I") (.int 7)) (.int 5)) (by decide +kernel))
    ) hA
  exact ⟨t, va_Zref (hts (.laysStatic "CoreMelter$Plate" "INITIAL" "[I") (by decide +kernel)) (hts (.initialized "CoreMelter$Plate") (by decide +kernel)) h1 hA, h2⟩
def strT (i : Nat) : Term := if i = 0 then .string "CoreMelter$Reading" 74 else if i = 1 then .string "CoreMelter$Reading" 80 else .string "CoreMelter$Reading" 82
def strB : List (List Int32) := [[105, 99, 101], [99, 114, 97, 99, 107], [100, 117, 115, 116]]
theorem pre_str {args : Array Value} {s : State} {A : Nat → Prop} (hts : ∀ w ∈ lw_tbl, w.before args s = true) (hgv : (Jvm.Cond.and given_1 narrow_1).before args s = true) (hA : ∀ a : Nat, a < s.heap.size → ¬ A a) : ∃ adK adV : Nat → Nat, vk_S 3 [3, 5, 4] strB adK adV A s s.heap ∧ ∀ i : Nat, i < 3 → (strT i).eval args s none [] s = some (.ref (adK i)) := by
  have hs := flat_of_before _ hgv
  refine vk_Sof (tm := strT) (len := [3, 5, 4]) (byt := strB) (fun i hi => ?_) (fun i hi => ?_) (fun i hi => ?_) (fun i hi => ?_) (fun i hi => ?_) (fun i hi j hj => ?_) (fun i j hi hj hij => ?_) hA
  · rcases (show i = 0 ∨ i = 1 ∨ i = 2 by omega) with rfl | rfl | rfl <;> decide
  · rcases (show i = 0 ∨ i = 1 ∨ i = 2 by omega) with rfl | rfl | rfl
    · exact hs (Cond.exactly (.string "CoreMelter$Reading" 74) "java/lang/String") (by decide +kernel)
    · exact hs (Cond.exactly (.string "CoreMelter$Reading" 80) "java/lang/String") (by decide +kernel)
    · exact hs (Cond.exactly (.string "CoreMelter$Reading" 82) "java/lang/String") (by decide +kernel)
  · rcases (show i = 0 ∨ i = 1 ∨ i = 2 by omega) with rfl | rfl | rfl
    · exact hs (Cond.eq (.field (.string "CoreMelter$Reading" 74) "java/lang/String" "coder" "B") (.int 0)) (by decide +kernel)
    · exact hs (Cond.eq (.field (.string "CoreMelter$Reading" 80) "java/lang/String" "coder" "B") (.int 0)) (by decide +kernel)
    · exact hs (Cond.eq (.field (.string "CoreMelter$Reading" 82) "java/lang/String" "coder" "B") (.int 0)) (by decide +kernel)
  · rcases (show i = 0 ∨ i = 1 ∨ i = 2 by omega) with rfl | rfl | rfl
    · exact hs (Cond.arrayOf (.field (.string "CoreMelter$Reading" 74) "java/lang/String" "value" "[B") .byte) (by decide +kernel)
    · exact hs (Cond.arrayOf (.field (.string "CoreMelter$Reading" 80) "java/lang/String" "value" "[B") .byte) (by decide +kernel)
    · exact hs (Cond.arrayOf (.field (.string "CoreMelter$Reading" 82) "java/lang/String" "value" "[B") .byte) (by decide +kernel)
  · rcases (show i = 0 ∨ i = 1 ∨ i = 2 by omega) with rfl | rfl | rfl
    · exact hs (Cond.eq (.length (.field (.string "CoreMelter$Reading" 74) "java/lang/String" "value" "[B")) (.int 3)) (by decide +kernel)
    · exact hs (Cond.eq (.length (.field (.string "CoreMelter$Reading" 80) "java/lang/String" "value" "[B")) (.int 5)) (by decide +kernel)
    · exact hs (Cond.eq (.length (.field (.string "CoreMelter$Reading" 82) "java/lang/String" "value" "[B")) (.int 4)) (by decide +kernel)
  · rcases (show i = 0 ∨ i = 1 ∨ i = 2 by omega) with rfl | rfl | rfl
    · have hj : j < 3 := hj
      rcases (show j = 0 ∨ j = 1 ∨ j = 2 by omega) with rfl | rfl | rfl
      · exact hs (Cond.eq (.elem (.field (.string "CoreMelter$Reading" 74) "java/lang/String" "value" "[B") (.int 0)) (.int 105)) (by decide +kernel)
      · exact hs (Cond.eq (.elem (.field (.string "CoreMelter$Reading" 74) "java/lang/String" "value" "[B") (.int 1)) (.int 99)) (by decide +kernel)
      · exact hs (Cond.eq (.elem (.field (.string "CoreMelter$Reading" 74) "java/lang/String" "value" "[B") (.int 2)) (.int 101)) (by decide +kernel)
    · have hj : j < 5 := hj
      rcases (show j = 0 ∨ j = 1 ∨ j = 2 ∨ j = 3 ∨ j = 4 by omega) with rfl | rfl | rfl | rfl | rfl
      · exact hs (Cond.eq (.elem (.field (.string "CoreMelter$Reading" 80) "java/lang/String" "value" "[B") (.int 0)) (.int 99)) (by decide +kernel)
      · exact hs (Cond.eq (.elem (.field (.string "CoreMelter$Reading" 80) "java/lang/String" "value" "[B") (.int 1)) (.int 114)) (by decide +kernel)
      · exact hs (Cond.eq (.elem (.field (.string "CoreMelter$Reading" 80) "java/lang/String" "value" "[B") (.int 2)) (.int 97)) (by decide +kernel)
      · exact hs (Cond.eq (.elem (.field (.string "CoreMelter$Reading" 80) "java/lang/String" "value" "[B") (.int 3)) (.int 99)) (by decide +kernel)
      · exact hs (Cond.eq (.elem (.field (.string "CoreMelter$Reading" 80) "java/lang/String" "value" "[B") (.int 4)) (.int 107)) (by decide +kernel)
    · have hj : j < 4 := hj
      rcases (show j = 0 ∨ j = 1 ∨ j = 2 ∨ j = 3 by omega) with rfl | rfl | rfl | rfl
      · exact hs (Cond.eq (.elem (.field (.string "CoreMelter$Reading" 82) "java/lang/String" "value" "[B") (.int 0)) (.int 100)) (by decide +kernel)
      · exact hs (Cond.eq (.elem (.field (.string "CoreMelter$Reading" 82) "java/lang/String" "value" "[B") (.int 1)) (.int 117)) (by decide +kernel)
      · exact hs (Cond.eq (.elem (.field (.string "CoreMelter$Reading" 82) "java/lang/String" "value" "[B") (.int 2)) (.int 115)) (by decide +kernel)
      · exact hs (Cond.eq (.elem (.field (.string "CoreMelter$Reading" 82) "java/lang/String" "value" "[B") (.int 3)) (.int 116)) (by decide +kernel)
  · have n1 : (Cond.not (Cond.eq (strT 0) (strT 1))).before args s = true ∨ (Cond.not (Cond.eq (strT 1) (strT 0))).before args s = true := by
      first | exact Or.inl (hs (Cond.not (Cond.eq (.string "CoreMelter$Reading" 74) (.string "CoreMelter$Reading" 80))) (by decide +kernel)) | exact Or.inr (hs (Cond.not (Cond.eq (.string "CoreMelter$Reading" 80) (.string "CoreMelter$Reading" 74))) (by decide +kernel))
    have n2 : (Cond.not (Cond.eq (strT 0) (strT 2))).before args s = true ∨ (Cond.not (Cond.eq (strT 2) (strT 0))).before args s = true := by
      first | exact Or.inl (hs (Cond.not (Cond.eq (.string "CoreMelter$Reading" 74) (.string "CoreMelter$Reading" 82))) (by decide +kernel)) | exact Or.inr (hs (Cond.not (Cond.eq (.string "CoreMelter$Reading" 82) (.string "CoreMelter$Reading" 74))) (by decide +kernel))
    have n3 : (Cond.not (Cond.eq (strT 1) (strT 2))).before args s = true ∨ (Cond.not (Cond.eq (strT 2) (strT 1))).before args s = true := by
      first | exact Or.inl (hs (Cond.not (Cond.eq (.string "CoreMelter$Reading" 80) (.string "CoreMelter$Reading" 82))) (by decide +kernel)) | exact Or.inr (hs (Cond.not (Cond.eq (.string "CoreMelter$Reading" 82) (.string "CoreMelter$Reading" 80))) (by decide +kernel))
    rcases (show (i = 0 ∧ j = 1) ∨ (i = 1 ∧ j = 0) ∨ (i = 0 ∧ j = 2) ∨ (i = 2 ∧ j = 0) ∨ (i = 1 ∧ j = 2) ∨ (i = 2 ∧ j = 1) by omega) with ⟨rfl, rfl⟩ | ⟨rfl, rfl⟩ | ⟨rfl, rfl⟩ | ⟨rfl, rfl⟩ | ⟨rfl, rfl⟩ | ⟨rfl, rfl⟩
    · exact n1
    · exact n1.symm
    · exact n2
    · exact n2.symm
    · exact n3
    · exact n3.symm
theorem n1I : (1 : Int32) = nI 1 := by decide +kernel
theorem law_pre {args : Array Value} {s : State} {A : Nat → Prop} (hts : ∀ w ∈ lw_tbl, w.before args s = true) (hgv : (Jvm.Cond.and given_1 narrow_1).before args s = true) (hA : ∀ a : Nat, a < s.heap.size → ¬ A a) : ∃ a1 a2 a3 q0 v0 q1 v1 q2 v2 : Nat, lawX a1 a2 a3 q0 v0 q1 v1 q2 v2 A s s.heap := by
  have hs := flat_of_before _ hgv
  obtain ⟨a1, h1⟩ := pre_LEAST hts hgv hA
  obtain ⟨a2, h2⟩ := pre_MOST hts hgv hA
  obtain ⟨a3, h3⟩ := pre_INITIAL hts hgv hA
  obtain ⟨K, V, hV, hK⟩ := pre_str hts hgv hA
  have hz : va_Z "java/lang/String" "COMPACT_STRINGS" "Z" (.int (nI 1)) A s s.heap := by
    rw [← n1I]
    exact va_Zof (hts (.laysStatic "java/lang/String" "COMPACT_STRINGS" "Z") (by decide +kernel)) (hts (.initialized "java/lang/String") (by decide +kernel)) (va_eqi (hs (Cond.eq (.static "java/lang/String" "COMPACT_STRINGS" "Z") (.int 1)) (by decide +kernel))) hA
  have hq : va_Zq "jdk/internal/util/Preconditions" "SIOOBE_FORMATTER" "Ljava/util/function/BiFunction;" A s s.heap := va_Zqof (hts (.laysStatic "jdk/internal/util/Preconditions" "SIOOBE_FORMATTER" "Ljava/util/function/BiFunction;") (by decide +kernel)) (hts (.initialized "jdk/internal/util/Preconditions") (by decide +kernel)) (hs (Cond.isRef (.static "jdk/internal/util/Preconditions" "SIOOBE_FORMATTER" "Ljava/util/function/BiFunction;")) (by decide +kernel)) hA
  have hn : nestX A s s.heap := ⟨⟨va_Nw.of rfl (hts (.methodLinkNest RX3 9 yX0_init "CoreMelter") (by decide +kernel)), va_Nw.of rfl (hts (.methodLinkNest RX3 18 yX2_init "CoreMelter") (by decide +kernel)), va_Nw.of rfl (hts (.methodLinkNest RX3 25 yX6_init "CoreMelter") (by decide +kernel))⟩, va_Nw.of rfl (hts (.methodLinkNest RX4 9 yX0_init "CoreMelter") (by decide +kernel)), va_Nw.of rfl (hts (.methodLinkNest RX7 28 yX5_init "CoreMelter") (by decide +kernel)), va_Nw.of rfl (hts (.methodLinkNest RX7 35 yX4_init "CoreMelter") (by decide +kernel))⟩
  have ho : va_AO RX3 s := va_AO.of (hts (.arrayOver (.object RX3)) (by decide +kernel))
  have w0 : strO (K 0) (V 0) 3 iceF A s s.heap ∧ vk_R "CoreMelter$Reading" 74 "ice" (K 0) s := by
    obtain ⟨g1, g2, g3, g4⟩ := hV.1 0 (by decide)
    refine ⟨⟨⟨g1, by rw [nI_0]; exact g2⟩, g3, va_T.cg g4 (fun j hj => ?_)⟩, vk_R.of (hts (.stringRef "CoreMelter$Reading" 74 "ice") (by decide +kernel)) (hK 0 (by decide))⟩
    rcases (show j = 0 ∨ j = 1 ∨ j = 2 by omega) with rfl | rfl | rfl <;> decide +kernel
  have w1 : strO (K 1) (V 1) 5 crackF A s s.heap ∧ vk_R "CoreMelter$Reading" 80 "crack" (K 1) s := by
    obtain ⟨g1, g2, g3, g4⟩ := hV.1 1 (by decide)
    refine ⟨⟨⟨g1, by rw [nI_0]; exact g2⟩, g3, va_T.cg g4 (fun j hj => ?_)⟩, vk_R.of (hts (.stringRef "CoreMelter$Reading" 80 "crack") (by decide +kernel)) (hK 1 (by decide))⟩
    rcases (show j = 0 ∨ j = 1 ∨ j = 2 ∨ j = 3 ∨ j = 4 by omega) with rfl | rfl | rfl | rfl | rfl <;> decide +kernel
  have w2 : strO (K 2) (V 2) 4 dustF A s s.heap ∧ vk_R "CoreMelter$Reading" 82 "dust" (K 2) s := by
    obtain ⟨g1, g2, g3, g4⟩ := hV.1 2 (by decide)
    refine ⟨⟨⟨g1, by rw [nI_0]; exact g2⟩, g3, va_T.cg g4 (fun j hj => ?_)⟩, vk_R.of (hts (.stringRef "CoreMelter$Reading" 82 "dust") (by decide +kernel)) (hK 2 (by decide))⟩
    rcases (show j = 0 ∨ j = 1 ∨ j = 2 ∨ j = 3 by omega) with rfl | rfl | rfl | rfl <;> decide +kernel
  exact ⟨a1, a2, a3, K 0, V 0, K 1, V 1, K 2, V 2, ⟨⟨⟨h1, h2, h3⟩, hn⟩, ho⟩, ⟨hz, hq⟩, w0, w1, w2⟩
theorem k_prim {args : Array Value} {s : State} {ty : FieldType} (h : (Cond.arrayClass ty).before args s = true) : ∃ cA : ClassId, ArrOfT s cA ty ∧ s.vm.findClass ("[" ++ ty.toString) = some cA := by
  obtain ⟨cA, kA, comp, h1, h2, h3⟩ := Cond.arrayClass_spec h
  exact ⟨cA, fun n z => ⟨fun k q => (by cases q), kA, h2, comp, h3⟩, h1⟩
theorem k_obj {args : Array Value} {s : State} {C : String} (h : (Cond.arrayOver (.object C)).before args s = true) : ∃ cA : ClassId, ArrOfT s cA (.object C) ∧ va_RA s cA (.object C) := by
  obtain ⟨comp, cA, kA, h1, -, h2, h3, h4⟩ := Cond.arrayOver_spec h
  exact ⟨cA, fun n z => ⟨fun k q => (by cases q), kA, h2, comp, h3⟩, kA, comp, h2, h3, h1, h4⟩
theorem law_K {args : Array Value} {s : State} (hts : ∀ w ∈ lw_tbl, w.before args s = true) : ∃ G : KG, va_K G.1 vwCl (tysF G) s := by
  obtain ⟨c0, i0, k0⟩ := u_known (C := RX0) (T := TX0) (N := 7) (n := 7) hts (fun w hw => (lix0 w hw).1) (hts (.instantiable RX0 7) (by decide +kernel))
  obtain ⟨c1, i1, k1⟩ := u_known (C := RX1) (T := TX1) (N := 3) (n := 3) hts (fun w hw => (lix1 w hw).1) (hts (.instantiable RX1 3) (by decide +kernel))
  obtain ⟨c2, i2, k2⟩ := u_known (C := RX2) (T := TX2) (N := 5) (n := 5) hts (fun w hw => (lix2 w hw).1) (hts (.instantiable RX2 5) (by decide +kernel))
  obtain ⟨c3, i3, k3⟩ := u_known (C := RX3) (T := TX3) (N := 15) (n := 15) hts (fun w hw => (lix3 w hw).1) (hts (.instantiable RX3 15) (by decide +kernel))
  obtain ⟨c4, i4, k4⟩ := u_known (C := RX4) (T := TX4) (N := 6) (n := 6) hts (fun w hw => (lix4 w hw).1) (hts (.instantiable RX4 6) (by decide +kernel))
  obtain ⟨c5, i5, k5⟩ := u_known (C := RX5) (T := TX5) (N := 2) (n := 2) hts (fun w hw => (lix5 w hw).1) (hts (.instantiable RX5 2) (by decide +kernel))
  obtain ⟨c6, i6, k6⟩ := u_known (C := RX6) (T := TX6) (N := 5) (n := 5) hts (fun w hw => (lix6 w hw).1) (hts (.instantiable RX6 5) (by decide +kernel))
  obtain ⟨c7, i7, k7⟩ := u_known (C := RX7) (T := TX7) (N := 5) (n := 5) hts (fun w hw => (lix7 w hw).1) (hts (.instantiable RX7 5) (by decide +kernel))
  obtain ⟨ca, ha1, ha2⟩ := k_prim (hts (.arrayClass .int) (by decide +kernel))
  obtain ⟨cb, hb1, hb2⟩ := k_prim (hts (.arrayClass .char) (by decide +kernel))
  obtain ⟨cp, hp1, hp2⟩ := k_obj (hts (.arrayOver (.object RX3)) (by decide +kernel))
  refine ⟨((fun k => if k = 0 then c0 else if k = 1 then c1 else if k = 2 then c2 else if k = 3 then c3 else if k = 4 then c4 else if k = 5 then c5 else if k = 6 then c6 else c7, fun k => if k = 0 then i0 else if k = 1 then i1 else if k = 2 then i2 else if k = 3 then i3 else if k = 4 then i4 else if k = 5 then i5 else if k = 6 then i6 else i7), ca, cb, cp), fun k q hq => ?_, fun k q hq => ?_⟩
  · match k, hq with
    | 0, hq => cases hq; exact k0
    | 1, hq => cases hq; exact k1
    | 2, hq => cases hq; exact k2
    | 3, hq => cases hq; exact k3
    | 4, hq => cases hq; exact k4
    | 5, hq => cases hq; exact k5
    | 6, hq => cases hq; exact k6
    | 7, hq => cases hq; exact k7
    | k + 8, hq => simp [vwCl] at hq
  · match k, hq with
    | 0, hq => cases hq; exact ⟨ha1, ha2⟩
    | 1, hq => cases hq; exact ⟨hb1, hb2⟩
    | 2, hq => cases hq; exact ⟨hp1, hp2⟩
    | k + 3, hq => simp [tysF] at hq
