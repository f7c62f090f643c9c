theorem gapG_b {P : Nat → Nat} {i w g : Nat} (h : bubQ P w g) : gapG P i w g = gapN P i w g := by unfold gapG; rw [if_neg (fun q => q.1 h)]
theorem gapG_l {P : Nat → Nat} {i w g : Nat} (h : ¬ P 7 < gapN P i w g) : gapG P i w g = gapN P i w g := by unfold gapG; rw [if_neg (fun q => h q.2)]
theorem gapG_z {P : Nat → Nat} {i w g : Nat} (h : ¬ bubQ P w g) (h2 : P 7 < gapN P i w g) : gapG P i w g = 0 := by unfold gapG; rw [if_pos ⟨h, h2⟩]
theorem drawF_at {P : Nat → Nat} {i w g t : Nat} (h : ¬ w = 0) (e1 : w = min (P 3) (P 11)) (e2 : g = P 12 * w / P 11) (e3 : t = P 13 * w / P 11) : drawF P i = drawG P i w g t := by
  subst e2; subst e3; subst e1
  unfold drawF
  rw [if_neg h]
