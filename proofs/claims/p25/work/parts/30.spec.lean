/-! ===== what the calls answer, over numbers; a negative argument apart ===== -/
section RZ
variable {p : Program} {l : Launch} {e : Env} {R : Room} {s : State} {m : MethodId} {args : Array Value} {below : List Frame} {meth : Method} {c : Code} {H : Heap} {locs : List Loc} {cells slots : Nat} {Q : State → Prop}
variable {cc : ByteArray} {nL : Nat} {own : String} {Ts : List Cond} {ret : Option FieldType} {pc : Nat} {ls : Array Slot} {rest : List Value}
theorem r_zlt (F : Fx p s m args meth c cc nL own Ts ret) {a : Nat} {off : Int} {tgt : Nat} (hdg : decode cc pc = .ok (.ifCond .lt off, 3)) (ht : (pc : Int) + off = (tgt : Int)) (ha : a < 2 ^ 31)
    (kf : W p l e R s m args below meth c H locs cells slots Q (F0 m (pc + 3) ls rest)) : W p l e R s m args below meth c H locs cells slots Q (F0 m pc ls (.int (nI a) :: rest)) :=
  lv_if_lt F.1 F.2.1 hdg ht (fun h => absurd h (nI_pos ha)) (fun _ => kf)
theorem r_zge (F : Fx p s m args meth c cc nL own Ts ret) {a : Nat} {off : Int} {tgt : Nat} (hdg : decode cc pc = .ok (.ifCond .ge off, 3)) (ht : (pc : Int) + off = (tgt : Int)) (ha : a < 2 ^ 31)
    (kt : W p l e R s m args below meth c H locs cells slots Q (F0 m tgt ls rest)) : W p l e R s m args below meth c H locs cells slots Q (F0 m pc ls (.int (nI a) :: rest)) :=
  lv_if_ge F.1 F.2.1 hdg ht (fun _ => kt) (fun h => absurd (nI_pos' ha) h)
end RZ
def on1 (f : Nat → Int32) (x : Int32) : Int32 := if x < 0 then -1 else f x.toNatClampNeg
def on2 (f : Nat → Nat → Int32) (x y : Int32) : Int32 := if x < 0 ∨ y < 0 then -1 else f x.toNatClampNeg y.toNatClampNeg
theorem on1_neg {f : Nat → Int32} {x : Int32} (h : x < 0) : on1 f x = -1 := if_pos h
theorem on1_nat {f : Nat → Int32} {i : Nat} (h : i < 2 ^ 31) : on1 f (nI i) = f i := by
  unfold on1
  rw [if_neg (nI_pos h), nI_clamp h]
theorem on2_neg1 {f : Nat → Nat → Int32} {x y : Int32} (h : x < 0) : on2 f x y = -1 := if_pos (Or.inl h)
theorem on2_neg2 {f : Nat → Nat → Int32} {x y : Int32} (h : y < 0) : on2 f x y = -1 := if_pos (Or.inr h)
theorem on2_nat {f : Nat → Nat → Int32} {i j : Nat} (h : i < 2 ^ 31) (h2 : j < 2 ^ 31) : on2 f (nI i) (nI j) = f i j := by
  unfold on2
  rw [if_neg (fun q => q.elim (nI_pos h) (nI_pos h2)), nI_clamp h, nI_clamp h2]
def segN (P : Nat → Nat) (i k : Nat) : Int32 := if i < P 8 ∧ k ≤ 5 then (if k = 4 then nI (low (lnP P) i) else if k = 5 then nI (min (P 9 - low (lnP P) i) (P (46 + 4 * i + 1))) else nI (P (46 + 4 * i + k))) else -1
def segAtN (P : Nat → Nat) (d : Nat) : Int32 := if d < top P then nI (sg (lnP P) d (P 8)) else -4
def watN (P : Nat → Nat) (d : Nat) : Int32 := if d ≤ top P then nI (wat (lnP P) (dnP P) d (P 8)) else -1
def accN (P : Nat → Nat) (k : Nat) : Int32 := if k < 7 then nI (P (19 + k)) else -1
def lineN (P : Nat → Nat) (i k : Nat) : Int32 := if i < 4 ∧ k < 5 then nI (P (26 + 5 * i + k)) else -1
def countN (P : Nat → Nat) (hs tl k : Nat) : Int32 :=
  if k < 8 then nI (P k) else if k = 8 then nI (P 8) else if k = 9 then nI (top P) else if k = 10 then nI (P 9) else if k = 11 then nI (P 10) else if k = 12 then nI (P 11) else if k = 13 then nI (P 12) else if k = 14 then nI (P 13)
  else if k = 15 then nI (toldF P) else if k = 16 then nI (P 14) else if k = 17 then nI (P 15) else if k = 18 then nI (P 16) else if k = 19 then nI (P 17) else if k = 20 then nI (P 18) else if k = 21 then nI (stuckN P) else if k = 22 then nI hs else if k = 23 then nI tl else -1
def vialN (P : Nat → Nat) (v k : Nat) : Int32 := if v < P 14 ∧ k < 4 then (if k = 0 then nI (P (126 + 3 * v)) else if k = 1 then nI (P (126 + 3 * v + 1)) else if k = 2 then (if v = 0 then nI 0 else nI (P (126 + 3 * (v - 1) + 1))) else nI (P (126 + 3 * v + 2))) else -1
def vialAtN (P : Nat → Nat) (d : Nat) : Int32 := if fb (fun k => P (126 + 3 * k + 1)) d (P 14) < P 14 then nI (fb (fun k => P (126 + 3 * k + 1)) d (P 14)) else -4

