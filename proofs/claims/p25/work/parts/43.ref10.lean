/-! ===== longs, over numbers ===== -/
def nL (n : Nat) : Int64 := Int64.ofNat n
theorem nL_toInt {n : Nat} (h : n < 2 ^ 63) : (nL n).toInt = n := Int64.toInt_ofNat_of_lt h
theorem nL_le {x y : Nat} (hx : x < 2 ^ 63) (hy : y < 2 ^ 63) : nL x ≤ nL y ↔ x ≤ y := by
  rw [Int64.le_iff_toInt_le, nL_toInt hx, nL_toInt hy]
  omega
theorem nL_eq {x y : Nat} (hx : x < 2 ^ 63) (hy : y < 2 ^ 63) : nL x = nL y ↔ x = y := by
  rw [← Int64.toInt_inj, nL_toInt hx, nL_toInt hy]
  omega
theorem nL_sub {a b : Nat} (h : b ≤ a) : nL a - nL b = nL (a - b) := by
  have e : nL (a - b) + nL b = nL a := by
    show Int64.ofNat (a - b) + Int64.ofNat b = Int64.ofNat a
    rw [← Int64.ofNat_add, Nat.sub_add_cancel h]
  rw [← e, Int64.add_sub_cancel]
theorem i2l_ok : ∀ {x : Nat}, x < 128 → (nI x).toInt64 = nL x := by
  have h : ∀ x : Fin 128, (nI x).toInt64 = nL x := by decide +kernel
  exact fun {x} hx => h ⟨x, hx⟩
section RLG
variable {p : Program} {l : Launch} {e : Env} {R : Room} {s : State} {m : MethodId} {args : Array Value} {below : List Frame} {meth : Method} {c : Code} {H : Heap} {locs : List Loc} {cells slots : Nat} {Q : State → Prop}
variable {cc : ByteArray} {nN : Nat} {own : String} {Ts : List Cond} {ret : Option FieldType} {pc : Nat} {ls : Array Slot} {rest : List Value} {a b : Nat}
theorem r_ladd (F : Fx p s m args meth c cc nN own Ts ret) (hdg : decode cc pc = .ok (.ladd, 1)) (kk : W p l e R s m args below meth c H locs cells slots Q (F0 m (pc + 1) ls (.long (nL (a + b)) :: rest))) : W p l e R s m args below meth c H locs cells slots Q (F0 m pc ls (.long (nL b) :: .long (nL a) :: rest)) :=
  lv_ladd F.1 F.2.1 hdg (by rw [show nL a + nL b = nL (a + b) from (Int64.ofNat_add a b).symm]; exact kk)
theorem r_lmul (F : Fx p s m args meth c cc nN own Ts ret) (hdg : decode cc pc = .ok (.lmul, 1)) (kk : W p l e R s m args below meth c H locs cells slots Q (F0 m (pc + 1) ls (.long (nL (a * b)) :: rest))) : W p l e R s m args below meth c H locs cells slots Q (F0 m pc ls (.long (nL b) :: .long (nL a) :: rest)) :=
  lv_lmul F.1 F.2.1 hdg (by rw [show nL a * nL b = nL (a * b) from (Int64.ofNat_mul a b).symm]; exact kk)
theorem r_lsub (F : Fx p s m args meth c cc nN own Ts ret) (hdg : decode cc pc = .ok (.lsub, 1)) (h : b ≤ a) (kk : W p l e R s m args below meth c H locs cells slots Q (F0 m (pc + 1) ls (.long (nL (a - b)) :: rest))) : W p l e R s m args below meth c H locs cells slots Q (F0 m pc ls (.long (nL b) :: .long (nL a) :: rest)) :=
  lv_lsub F.1 F.2.1 hdg (by rw [nL_sub h]; exact kk)
theorem r_lle (F : Fx p s m args meth c cc nN own Ts ret) {off : Int} {tgt : Nat} (hdg : decode cc pc = .ok (.ifCond .le off, 3)) (ht : (pc : Int) + off = (tgt : Int)) (ha : a < 2 ^ 63) (hb : b < 2 ^ 63)
    (kt : a ≤ b → W p l e R s m args below meth c H locs cells slots Q (F0 m tgt ls rest)) (kf : b < a → W p l e R s m args below meth c H locs cells slots Q (F0 m (pc + 3) ls rest)) : W p l e R s m args below meth c H locs cells slots Q (F0 m pc ls (.int (lg_cmp (nL a) (nL b)) :: rest)) :=
  lv_if_le F.1 F.2.1 hdg ht (fun h => kt ((nL_le ha hb).mp ((lg_cmp_le _ _).mp h))) (fun h => kf (Nat.not_le.mp (fun z => h ((lg_cmp_le _ _).mpr ((nL_le ha hb).mpr z)))))
theorem r_lne (F : Fx p s m args meth c cc nN own Ts ret) {off : Int} {tgt : Nat} (hdg : decode cc pc = .ok (.ifCond .ne off, 3)) (ht : (pc : Int) + off = (tgt : Int)) (ha : a < 2 ^ 63) (hb : b < 2 ^ 63)
    (kt : ¬ a = b → W p l e R s m args below meth c H locs cells slots Q (F0 m tgt ls rest)) (kf : a = b → W p l e R s m args below meth c H locs cells slots Q (F0 m (pc + 3) ls rest)) : W p l e R s m args below meth c H locs cells slots Q (F0 m pc ls (.int (lg_cmp (nL a) (nL b)) :: rest)) :=
  lv_if_ne F.1 F.2.1 hdg ht (fun h => kt (fun z => h ((lg_cmp_eq _ _).mpr ((nL_eq ha hb).mpr z)))) (fun h => kf ((nL_eq ha hb).mp ((lg_cmp_eq _ _).mp h)))
theorem r_toL {x y : Nat} (h : x = y) (kk : W p l e R s m args below meth c H locs cells slots Q (F0 m pc ls (.long (nL y) :: rest))) : W p l e R s m args below meth c H locs cells slots Q (F0 m pc ls (.long (nL x) :: rest)) := by
  subst h
  exact kk
end RLG
/-! ===== words ===== -/
def smN (T : Nat → Nat) (tl q k : Nat) : Nat := if 97 ≤ chT T tl (q + k) ∧ chT T tl (q + k) ≤ 122 then 0 else 1
theorem smN_lt {T : Nat → Nat} {tl q k : Nat} : smN T tl q k < 1 ↔ (97 ≤ chT T tl (q + k) ∧ chT T tl (q + k) ≤ 122) := by
  unfold smN
  split
  · exact ⟨fun _ => by assumption, fun _ => by decide⟩
  · exact ⟨fun h => absurd h (by decide), fun h => absurd h (by assumption)⟩
/-- how many small letters stand at q -/
def wl (T : Nat → Nat) (tl q : Nat) : Nat := ft (smN T tl q) 1 (tl - q)
/-- the word's number by the first k letters, to the base of 27 -/
def vl (T : Nat → Nat) (tl q : Nat) : Nat → Nat
  | 0 => 0
  | k + 1 => if vl T tl q k ≤ 100000000 then vl T tl q k * 27 + chT T tl (q + k) - 96 else vl T tl q k
theorem vl_b {T : Nat → Nat} {tl q : Nat} (hT : TxtOk T) : ∀ k, vl T tl q k ≤ 2700000031
  | 0 => Nat.zero_le _
  | k + 1 => by
    have h1 := vl_b (q := q) (tl := tl) hT k
    have h2 := chT_lt hT tl (q + k)
    unfold vl
    split <;> omega
def kdF (v : Nat) : Nat := if v = 6647 then 0 else if v = 1949438 then 1 else if v = 94574 then 2 else 3
/-- the kind of the word at q; 3 if it's none -/
def kdT (T : Nat → Nat) (tl q : Nat) : Nat := kdF (vl T tl q (wl T tl q))
theorem wl_at {T : Nat → Nat} {tl q k : Nat} (h0 : q + k ≤ tl) (h : ∀ j, j < k → smN T tl q j < 1) (h2 : ¬ (97 ≤ chT T tl (q + k) ∧ chT T tl (q + k) ≤ 122)) : wl T tl q = k := by
  rcases Nat.lt_or_ge k (tl - q) with z | z
  · exact ft_at z h (by
      have := smN_lt (T := T) (tl := tl) (q := q) (k := k)
      by_cases y : smN T tl q k < 1
      · exact absurd (this.mp y) h2
      · omega)
  · have e : k = tl - q := by omega
    rw [e] at h ⊢
    exact ft_all h
