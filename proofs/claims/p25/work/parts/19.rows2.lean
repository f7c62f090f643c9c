/-! ===== more rows: least and greatest over all ints, look-up switches, a row's length ===== -/
section RX
variable {p : Program} {l : Launch} {e : Env} {R : Room} {s : State} {m : MethodId} {args : Array Value} {below : List Frame} {meth : Method} {c : Code} {H : Heap} {locs : List Loc} {cells slots : Nat} {Q : State → Prop}
variable {cc : ByteArray} {nL : Nat} {own : String} {Ts : List Cond} {ret : Option FieldType} {G : KG} {A : Nat → Prop} {ws : va_W} {pc index : Nat} {ls : Array Slot} {rest : List Value} {lv : List (Nat × Value)}
theorem r_minI (F : Fx p s m args meth c cc nL own Ts ret) {x z : Int32} (hlink : (Cond.methodLink own index Lib.Math.min.name).before args s = true) (hstat : (Cond.static Lib.Math.min.name).before args s = true) (hini : (Cond.initialized "java/lang/Math").before args s = true) (hcode : (Cond.code Lib.Math.min.name Lib.Math.min.code 2 (some .int)).before args s = true)
    (hframes : 1 ≤ R.frames) (hlocals : (rest.map fun v => v.category).sum + 13 ≤ R.locals) (hcs : cells ≤ R.cells ∧ slots ≤ R.slots) (hl : lv_has ls nL lv) (hdg : decode cc pc = .ok (.invokestatic index, 3))
    (kk : W p l e R s m args below meth c H locs cells slots Q (F0 m (pc + 3) ls (.int (if z < x then z else x) :: rest))) : W p l e R s m args below meth c H locs cells slots Q (F0 m pc ls (.int z :: .int x :: rest)) :=
  va_mmin F.1 F.2.1 (F.2.2.1.trans hl.1.symm) F.2.2.2.1 hlink hstat hini hcode hframes hlocals hcs.1 hcs.2 hdg kk
theorem r_maxI (F : Fx p s m args meth c cc nL own Ts ret) {x z : Int32} (hlink : (Cond.methodLink own index Lib.Math.max.name).before args s = true) (hstat : (Cond.static Lib.Math.max.name).before args s = true) (hini : (Cond.initialized "java/lang/Math").before args s = true) (hcode : (Cond.code Lib.Math.max.name Lib.Math.max.code 2 (some .int)).before args s = true)
    (hframes : 1 ≤ R.frames) (hlocals : (rest.map fun v => v.category).sum + 13 ≤ R.locals) (hcs : cells ≤ R.cells ∧ slots ≤ R.slots) (hl : lv_has ls nL lv) (hdg : decode cc pc = .ok (.invokestatic index, 3))
    (kk : W p l e R s m args below meth c H locs cells slots Q (F0 m (pc + 3) ls (.int (if x < z then z else x) :: rest))) : W p l e R s m args below meth c H locs cells slots Q (F0 m pc ls (.int z :: .int x :: rest)) :=
  va_mmax F.1 F.2.1 (F.2.2.1.trans hl.1.symm) F.2.2.2.1 hlink hstat hini hcode hframes hlocals hcs.1 hcs.2 hdg kk
theorem r_lkIn (F : Fx p s m args meth c cc nL own Ts ret) {dflt : Int} {ps : Array (Int × Int)} {len : Nat} {x k : Int32} {off : Int} {tgt : Nat} (hdg : decode cc pc = .ok (.lookupswitch dflt ps, len)) (hx : x = k) (hp : (ps.toList.zip (ps.toList.drop 1)).all (fun (a, next) => a.1 < next.1) = true) (ho : Op.lookupswitch.offset ps.toList dflt k.toInt = off) (ht : (pc : Int) + off = (tgt : Int))
    (kk : W p l e R s m args below meth c H locs cells slots Q (F0 m tgt ls rest)) : W p l e R s m args below meth c H locs cells slots Q (F0 m pc ls (.int x :: rest)) := by
  subst hx
  exact lv_lookup F.1 F.2.1 hdg hp ho ht kk
theorem r_lkOut2 (F : Fx p s m args meth c cc nL own Ts ret) {dflt ia oa ib ob : Int} {len : Nat} {x a b : Int32} {tgt : Nat} (hdg : decode cc pc = .ok (.lookupswitch dflt #[(ia, oa), (ib, ob)], len)) (ha : ¬ x = a) (hb : ¬ x = b) (ea : a.toInt = ia) (eb : b.toInt = ib) (hp : (([(ia, oa), (ib, ob)] : List (Int × Int)).zip [(ib, ob)]).all (fun (a, next) => a.1 < next.1) = true) (ht : (pc : Int) + dflt = (tgt : Int))
    (kk : W p l e R s m args below meth c H locs cells slots Q (F0 m tgt ls rest)) : W p l e R s m args below meth c H locs cells slots Q (F0 m pc ls (.int x :: rest)) :=
  lv_lookup F.1 F.2.1 hdg hp (by show Op.lookupswitch.offset [(ia, oa), (ib, ob)] dflt x.toInt = dflt; rw [lv_osw ha ea, lv_osw hb eb]; rfl) ht kk
theorem r_alen (F : Fx p s m args meth c cc nL own Ts ret) (w : Wd G s A ws H locs) (q0 : Nat) {a n : Nat} {f : Nat → Nat} (ha : ws[q0]? = some (aI G a n f)) (hdg : decode cc pc = .ok (.arraylength, 1))
    (kk : W p l e R s m args below meth c H locs cells slots Q (F0 m (pc + 1) ls (.int (nI n) :: rest))) : W p l e R s m args below meth c H locs cells slots Q (F0 m pc ls (.ref a :: rest)) :=
  va_alen F.1 F.2.1 w.2.2.2.1 w.1 q0 0 ha rfl rfl hdg kk
end RX
theorem pb_eq {d lo ln : Nat} (hd : d < 2 ^ 30) (hlo : lo < 2 ^ 30) (hln : ln < 2 ^ 30) : (if nI 0 < (if nI ln < nI d - nI lo then nI ln else nI d - nI lo) then (if nI ln < nI d - nI lo then nI ln else nI d - nI lo) else nI 0) = nI (min (d - lo) ln) := by
  by_cases h : lo ≤ d
  · rw [pk_sub h]
    have e : (if nI ln < nI (d - lo) then nI ln else nI (d - lo)) = nI (min (d - lo) ln) := by
      by_cases h2 : ln < d - lo
      · rw [if_pos ((nI_ltI (by omega) (by omega)).mpr h2), Nat.min_eq_right (by omega)]
      · rw [if_neg (fun q => h2 ((nI_ltI (by omega) (by omega)).mp q)), Nat.min_eq_left (by omega)]
    rw [e]
    by_cases h3 : 0 < min (d - lo) ln
    · rw [if_pos ((nI_ltI (by omega) (by omega)).mpr h3)]
    · rw [if_neg (fun q => h3 ((nI_ltI (by omega) (by omega)).mp q)), show min (d - lo) ln = 0 by omega]
  · have h1 := pk_sneg hlo (show d < lo by omega)
    have h2 : ¬ nI ln < nI d - nI lo := fun q => by
      have := Int32.lt_iff_toInt_lt.mp (Int32.lt_trans q h1)
      rw [nI_toInt (by omega), Int32.toInt_zero] at this
      omega
    rw [if_neg h2, if_neg (fun q => by
      have := Int32.lt_iff_toInt_lt.mp (Int32.lt_trans q h1)
      rw [nI_toInt (by omega), Int32.toInt_zero] at this
      omega), show min (d - lo) ln = 0 by omega]
/-- what a segment's numbers must be, over all ints: which is the first wrong one -/
def lDI (k : Int32) : Int32 := if k = 1 then 0 else 60
def mDI (k : Int32) : Int32 := if k = 1 then 0 else 92
def lMI (k : Int32) : Int32 := if k = 2 then 1 else 0
def mMI (k : Int32) : Int32 := if k = 0 then 50 else if k = 2 then 100 else 0
def fwI (k ln dn mo : Int32) : Int32 := if ln < 1 ∨ 300 < ln then 1 else if dn < lDI k ∨ mDI k < dn then 2 else if mo < lMI k ∨ mMI k < mo then 3 else 0
/-- a core's cells tell a core -/
def CoreOk (sz hg : Nat) (kd ln dn mo lo : Nat → Nat) : Prop := sz ≤ 20 ∧ (∀ k, k < sz → SegK (kd k) (ln k) (dn k) (mo k)) ∧ (∀ k, k < sz → lo k = low ln k) ∧ hg = low ln sz
theorem CoreOk.bnd {sz hg : Nat} {kd ln dn mo lo : Nat → Nat} (h : CoreOk sz hg kd ln dn mo lo) : ∀ k, k ≤ sz → low ln k ≤ 6000 := fun k hk => by
  have h1 := low_bound (ln := ln) (n := k) (fun j hj => (h.2.1 j (by omega)).2.1)
  have := h.1
  omega
theorem CoreOk.endk {sz hg : Nat} {kd ln dn mo lo : Nat → Nat} (h : CoreOk sz hg kd ln dn mo lo) {k : Nat} (hk : k < sz) : lo k + ln k = low ln (k + 1) := by
  rw [h.2.2.1 k hk]
  rfl

