/-! ===== the lines, the vials, a tick ===== -/
abbrev bubQ (P : Nat → Nat) (w g : Nat) : Prop := P 5 < 100 * g / w
abbrev wasQ (P : Nat → Nat) (i w g : Nat) : Prop := bubQ P w g ∨ 0 < P (26 + 5 * i + 2)
def gapN (P : Nat → Nat) (i w g : Nat) : Nat := if bubQ P w g then 1 else if 0 < P (26 + 5 * i + 2) then P (26 + 5 * i + 2) + 1 else 0
def gapG (P : Nat → Nat) (i w g : Nat) : Nat := if ¬ bubQ P w g ∧ P 7 < gapN P i w g then 0 else gapN P i w g
def drawG (P : Nat → Nat) (i w g t : Nat) : Nat → Nat :=
  up (up (up (up (up (up (up (up (up (up (up (up P 11 (P 11 - w)) 12 (P 12 - g)) 13 (P 13 - t)) 23 (P 23 + g)) 25 (P 25 + t))
    (26 + 5 * i + 2) (gapG P i w g)) (26 + 5 * i + 3) (P (26 + 5 * i + 3) + w)) (26 + 5 * i + 4) (P (26 + 5 * i + 4) + (if wasQ P i w g then w else 0)))
    (19 + (if wasQ P i w g then 2 else 1)) (P (19 + (if wasQ P i w g then 2 else 1)) + w)) 15 (P 15 + (if wasQ P i w g then 0 else w))) (26 + 5 * i + 1) (P (26 + 5 * i + 1) + t))
    (26 + 5 * i) (if P 4 ≤ P (26 + 5 * i + 1) + t then 1 else 0)
def drawF (P : Nat → Nat) (i : Nat) : Nat → Nat := if min (P 3) (P 11) = 0 then P else drawG P i (min (P 3) (P 11)) (P 12 * min (P 3) (P 11) / P 11) (P 13 * min (P 3) (P 11) / P 11)
theorem share_le {x w t : Nat} (h : w ≤ t) : x * w / t ≤ x := by
  by_cases h0 : t = 0
  · rw [h0, Nat.div_zero]; exact Nat.zero_le _
  · exact Nat.div_le_of_le_mul (by rw [Nat.mul_comm t x]; exact Nat.mul_le_mul_left _ h)
theorem gapN_le {P : Nat → Nat} {i w g : Nat} (h : P (26 + 5 * i + 2) ≤ 51) : gapN P i w g ≤ 52 := by
  unfold gapN
  split
  · omega
  · split <;> omega
theorem gapG_le {P : Nat → Nat} {i w g : Nat} (h7 : P 7 ≤ 50) : gapG P i w g ≤ 51 := by
  unfold gapG
  split
  · omega
  · rename_i h
    by_cases hb : bubQ P w g
    · unfold gapN
      rw [if_pos hb]
      omega
    · have : ¬ P 7 < gapN P i w g := fun q => h ⟨hb, q⟩
      omega
theorem told_u0 {u x d l : Nat} (_ : u = x) (h : d = 0) : u * d ≤ l := by rw [h, Nat.mul_zero]; exact Nat.zero_le _
theorem told_u1 {u x d l : Nat} (e : u = min x (l / d)) (h : 60 ≤ d) : u * d ≤ l := (Nat.le_div_iff_mul_le (by omega)).mp (by omega)
theorem told_more {ln dn : Nat → Nat} {w k u : Nat} (h1 : wsm ln dn k ≤ w) (hu : u * dn k ≤ w - wsm ln dn k) (e : u = ln k) : wsm ln dn (k + 1) ≤ w ∧ w - wsm ln dn k - u * dn k = w - wsm ln dn (k + 1) ∧ low ln k + u = low ln (k + 1) := by
  subst e
  have e1 : wsm ln dn (k + 1) = wsm ln dn k + ln k * dn k := rfl
  have e2 : low ln (k + 1) = low ln k + ln k := rfl
  rw [e1, e2]
  generalize ln k * dn k = z at hu ⊢
  omega
theorem told_less {ln dn : Nat → Nat} {w k u : Nat} (h1 : wsm ln dn k ≤ w) (hU : u = if dn k = 0 then ln k else min (ln k) ((w - wsm ln dn k) / dn k)) (e : ¬ u = ln k) : w < wsm ln dn (k + 1) ∧ low ln k + u = dep ln dn w (k + 1) := by
  have h0 : ¬ dn k = 0 := fun q => e (by rw [hU, if_pos q])
  refine ⟨?_, ?_⟩
  · rw [if_neg h0] at hU
    have h2 : (w - wsm ln dn k) / dn k < ln k := by omega
    have h3 := (Nat.div_lt_iff_lt_mul (by omega)).mp h2
    have e1 : wsm ln dn (k + 1) = wsm ln dn k + ln k * dn k := rfl
    rw [e1]
    generalize ln k * dn k = z at h3 ⊢
    omega
  · show low ln k + u = (if wsm ln dn k ≤ w then _ else _)
    rw [if_pos h1, ← hU]
theorem dep_full {ln dn : Nat → Nat} {w : Nat} : ∀ {n : Nat}, wsm ln dn n ≤ w → dep ln dn w n = low ln n
  | 0, _ => rfl
  | n + 1, h => by
    have e1 : wsm ln dn (n + 1) = wsm ln dn n + ln n * dn n := rfl
    show (if wsm ln dn n ≤ w then low ln n + (if dn n = 0 then ln n else min (ln n) ((w - wsm ln dn n) / dn n)) else _) = low ln n + ln n
    rw [if_pos (by omega)]
    split
    · rfl
    · rename_i h0
      have h2 : ln n ≤ (w - wsm ln dn n) / dn n := (Nat.le_div_iff_mul_le (by omega)).mpr (by omega)
      rw [Nat.min_eq_left h2]
theorem low_cg {f g : Nat → Nat} : ∀ {n : Nat}, (∀ k, k < n → f k = g k) → low f n = low g n := low_congr
theorem wsm_cg {f g f' g' : Nat → Nat} : ∀ {n : Nat}, (∀ k, k < n → f k = f' k ∧ g k = g' k) → wsm f g n = wsm f' g' n
  | 0, _ => rfl
  | n + 1, h => by
    show wsm f g n + f n * g n = wsm f' g' n + f' n * g' n
    rw [wsm_cg (fun k hk => h k (by omega)), (h n (Nat.lt_succ_self n)).1, (h n (Nat.lt_succ_self n)).2]
theorem dep_cg {f g f' g' : Nat → Nat} {w : Nat} : ∀ {n : Nat}, (∀ k, k < n → f k = f' k ∧ g k = g' k) → dep f g w n = dep f' g' w n
  | 0, _ => rfl
  | n + 1, h => by
    show (if wsm f g n ≤ w then low f n + (if g n = 0 then f n else min (f n) ((w - wsm f g n) / g n)) else dep f g w n) = (if wsm f' g' n ≤ w then low f' n + (if g' n = 0 then f' n else min (f' n) ((w - wsm f' g' n) / g' n)) else dep f' g' w n)
    rw [wsm_cg (f := f) (g := g) (f' := f') (g' := g') (n := n) (fun k hk => h k (by omega)), low_congr (f := f) (g := f') (n := n) (fun k hk => (h k (by omega)).1), dep_cg (f := f) (g := g) (f' := f') (g' := g') (n := n) (fun k hk => h k (by omega)), (h n (Nat.lt_succ_self n)).1, (h n (Nat.lt_succ_self n)).2]
theorem wat_cg {f g f' g' : Nat → Nat} {d : Nat} : ∀ {n : Nat}, (∀ k, k < n → f k = f' k ∧ g k = g' k) → wat f g d n = wat f' g' d n
  | 0, _ => rfl
  | n + 1, h => by
    show wat f g d n + min (f n) (d - low f n) * g n = wat f' g' d n + min (f' n) (d - low f' n) * g' n
    rw [wat_cg (f := f) (g := g) (f' := f') (g' := g') (n := n) (fun k hk => h k (by omega)), low_congr (f := f) (g := f') (n := n) (fun k hk => (h k (by omega)).1), (h n (Nat.lt_succ_self n)).1, (h n (Nat.lt_succ_self n)).2]
theorem toldF_cg {P Q : Nat → Nat} (h8 : P 8 ≤ 20) (h : ∀ k, (k = 8 ∨ k = 9 ∨ k = 20 ∨ k = 21 ∨ (46 ≤ k ∧ k < 126)) → Q k = P k) : toldF Q = toldF P := by
  unfold toldF
  rw [h 8 (by omega), h 9 (by omega), h 20 (by omega), h 21 (by omega)]
  rw [dep_cg (f := lnP Q) (g := dnP Q) (f' := lnP P) (g' := dnP P) (n := P 8) (fun k hk => ⟨h _ (by omega), h _ (by omega)⟩)]
def sealF (P : Nat → Nat) : Nat → Nat := if P 15 < P 6 ∨ P 14 = 40 then P else up (up (up (up (up P (126 + 3 * P 14) (P 15)) (126 + 3 * P 14 + 1) (toldF P)) (126 + 3 * P 14 + 2) (P 16)) 14 (P 14 + 1)) 15 0
def drO (P : Nat → Nat) (i : Nat) : Nat → Nat := if P (26 + 5 * i) = 0 then drawF P i else P
def drs (P : Nat → Nat) : Nat → (Nat → Nat)
  | 0 => P
  | k + 1 => drO (drs P k) k
def tk1 (P : Nat → Nat) : Nat → Nat := up (up P 17 (reasonF P)) 18 (P 18 + (if 0 < reasonF P then 1 else 0))
def tk2 (P : Nat → Nat) : Nat → Nat := if reasonF P = 0 then meltF (tk1 P) else tk1 P
def tk4 (P : Nat → Nat) : Nat → Nat := up (drs (tk2 P) 4) 16 (drs (tk2 P) 4 16 + 1)
def tickF (P : Nat → Nat) : Nat → Nat := sealF (tk4 P)
def itF (P : Nat → Nat) : Nat → (Nat → Nat)
  | 0 => P
  | k + 1 => tickF (itF P k)
/-- what drawing needs and keeps -/
def DInv (P : Nat → Nat) : Prop := SegOk P ∧ SetOk P ∧ MelOk P ∧ DrOk P ∧ LinOk P
/-- pages that agree but where a line's drawing writes -/
def AgD (P Q : Nat → Nat) : Prop := ∀ k, (k < 11 ∨ k = 14 ∨ (15 < k ∧ k < 20) ∨ k = 22 ∨ k = 24 ∨ 45 < k) → Q k = P k
theorem AgD.rf (P : Nat → Nat) : AgD P P := fun _ _ => rfl
theorem AgD.tr {P Q R : Nat → Nat} (h : AgD P Q) (g : AgD Q R) : AgD P R := fun k hk => (g k hk).trans (h k hk)
theorem AgD.seg {P Q : Nat → Nat} (h : AgD P Q) (hS : SegOk P) : SegOk Q := by
  refine ⟨by rw [h 8 (by omega)]; exact hS.1, fun k hk => ?_⟩
  rw [h 8 (by omega)] at hk
  rw [h _ (by omega), h (46 + 4 * k + 1) (by omega), h (46 + 4 * k + 2) (by omega), h (46 + 4 * k + 3) (by omega)]
  exact hS.2 k hk
theorem AgD.set {P Q : Nat → Nat} (h : AgD P Q) (hS : SetOk P) : SetOk Q := by
  unfold SetOk at hS ⊢
  rw [h 0 (by omega), h 1 (by omega), h 2 (by omega), h 3 (by omega), h 4 (by omega), h 5 (by omega), h 6 (by omega), h 7 (by omega)]
  exact hS
theorem AgD.ln {P Q : Nat → Nat} (h : AgD P Q) : lnP Q = lnP P := funext fun k => h _ (by omega)
theorem AgD.dn {P Q : Nat → Nat} (h : AgD P Q) : dnP Q = dnP P := funext fun k => h _ (by omega)
theorem AgD.mel {P Q : Nat → Nat} (h : AgD P Q) (hM : MelOk P) : MelOk Q := by
  unfold MelOk top at hM ⊢
  rw [h.ln, h.dn, h 8 (by omega), h 9 (by omega), h 19 (by omega), h 22 (by omega), h 24 (by omega)]
  exact hM
theorem drawG_ag (P : Nat → Nat) {i : Nat} (w g t : Nat) (hi : i < 4) : AgD P (drawG P i w g t) := by
  intro k hk
  have hx : k ≠ 19 + (if wasQ P i w g then 2 else 1) := by split <;> omega
  unfold drawG
  rw [up_n _ _ (by omega), up_n _ _ (by omega), up_n _ _ (by omega), up_n _ _ hx, up_n _ _ (by omega), up_n _ _ (by omega), up_n _ _ (by omega), up_n _ _ (by omega), up_n _ _ (by omega), up_n _ _ (by omega), up_n _ _ (by omega), up_n _ _ (by omega)]
theorem drawF_ag (P : Nat → Nat) {i : Nat} (hi : i < 4) : AgD P (drawF P i) := by
  unfold drawF
  split
  · exact AgD.rf P
  · exact drawG_ag P _ _ _ hi
theorem DInv.bnd {P : Nat → Nat} (h : DInv P) : P 9 ≤ 6000 ∧ P 11 ≤ 552000 ∧ P 20 + P 21 ≤ 552000 ∧ P 12 ≤ 276000 ∧ P 13 ≤ 600000 ∧ P 25 ≤ 600000 ∧ P 23 ≤ 276000 := by
  obtain ⟨hS, hT, ⟨m1, m2, m3, m4⟩, ⟨d1, d2, d3, d4⟩, hL⟩ := h
  have h1 := hS.top_le
  have h2 := wat_bound (ln := lnP P) (dn := dnP P) (d := P 9) (n := P 8) hS.dn_le
  have h3 : min (P 9) (low (lnP P) (P 8)) ≤ P 9 := Nat.min_le_left _ _
  omega

