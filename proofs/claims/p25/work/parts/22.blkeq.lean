/-! ===== blocks of cells that hold the same; a plate as cells of a page ===== -/
theorem eqW.app : ∀ {a a' b b' : va_W}, eqW a a' → eqW b b' → eqW (a ++ b) (a' ++ b')
  | [], [], _, _, _, h => h
  | (_, _) :: _, (_, _) :: _, _, _, h1, h2 => ⟨h1.1, h1.2.1, eqW.app h1.2.2 h2⟩
  | [], _ :: _, _, _, h, _ => h.elim
  | _ :: _, [], _, _, h, _ => h.elim
theorem coreW_eq {G : KG} {a : Nat → Nat} {sz sz' : Nat} {hg hg' : Nat} {kd kd' : Nat → Nat} {ln ln' : Nat → Nat} {dn dn' : Nat → Nat} {mo mo' : Nat → Nat} {lo lo' : Nat → Nat} (h_sz : sz = sz') (h_hg : hg = hg') (h_kd : ∀ k, k < 20 → kd k = kd' k) (h_ln : ∀ k, k < 20 → ln k = ln' k) (h_dn : ∀ k, k < 20 → dn k = dn' k) (h_mo : ∀ k, k < 20 → mo k = mo' k) (h_lo : ∀ k, k < 20 → lo k = lo' k) : eqW (coreW G a sz hg kd ln dn mo lo) (coreW G a sz' hg' kd' ln' dn' mo' lo') := by
  subst h_sz; subst h_hg
  exact ⟨rfl, rfl, rfl, ⟨rfl, rfl, fun k hk => congrArg nI (h_kd k hk)⟩, rfl, ⟨rfl, rfl, fun k hk => congrArg nI (h_ln k hk)⟩, rfl, ⟨rfl, rfl, fun k hk => congrArg nI (h_dn k hk)⟩, rfl, ⟨rfl, rfl, fun k hk => congrArg nI (h_mo k hk)⟩, rfl, ⟨rfl, rfl, fun k hk => congrArg nI (h_lo k hk)⟩, trivial⟩
theorem linesW_eq {G : KG} {a : Nat → Nat}  {st st' : Nat → Nat} {di di' : Nat → Nat} {ga ga' : Nat → Nat} {dr dr' : Nat → Nat} {wa wa' : Nat → Nat}  (h_st : ∀ k, k < 4 → st k = st' k) (h_di : ∀ k, k < 4 → di k = di' k) (h_ga : ∀ k, k < 4 → ga k = ga' k) (h_dr : ∀ k, k < 4 → dr k = dr' k) (h_wa : ∀ k, k < 4 → wa k = wa' k) : eqW (linesW G a st di ga dr wa) (linesW G a st' di' ga' dr' wa') := by
  exact ⟨rfl, rfl, rfl, ⟨rfl, rfl, fun k hk => congrArg nI (h_st k hk)⟩, rfl, ⟨rfl, rfl, fun k hk => congrArg nI (h_di k hk)⟩, rfl, ⟨rfl, rfl, fun k hk => congrArg nI (h_ga k hk)⟩, rfl, ⟨rfl, rfl, fun k hk => congrArg nI (h_dr k hk)⟩, rfl, ⟨rfl, rfl, fun k hk => congrArg nI (h_wa k hk)⟩, trivial⟩
theorem vialsW_eq {G : KG} {a : Nat → Nat} {se se' : Nat} {pr pr' : Nat} {wt wt' : Nat → Nat} {dp dp' : Nat → Nat} {tk tk' : Nat → Nat} (h_se : se = se') (h_pr : pr = pr') (h_wt : ∀ k, k < 40 → wt k = wt' k) (h_dp : ∀ k, k < 40 → dp k = dp' k) (h_tk : ∀ k, k < 40 → tk k = tk' k) : eqW (vialsW G a se pr wt dp tk) (vialsW G a se' pr' wt' dp' tk') := by
  subst h_se; subst h_pr
  exact ⟨rfl, rfl, rfl, ⟨rfl, rfl, fun k hk => congrArg nI (h_wt k hk)⟩, rfl, ⟨rfl, rfl, fun k hk => congrArg nI (h_dp k hk)⟩, rfl, ⟨rfl, rfl, fun k hk => congrArg nI (h_tk k hk)⟩, trivial⟩
theorem plH_eq {G : KG} {a : Nat → Nat} {ca : Nat → Nat} {la : Nat → Nat} {va : Nat → Nat} {fr fr' : Nat} {sto sto' : Nat} {stk stk' : Nat} {gas gas' : Nat} {drt drt' : Nat} {tol tol' : Nat} {wbt wbt' : Nat} {tks tks' : Nat} {rsn rsn' : Nat} {stp stp' : Nat} {S S' : Nat → Nat} {Ac Ac' : Nat → Nat} (h_fr : fr = fr') (h_sto : sto = sto') (h_stk : stk = stk') (h_gas : gas = gas') (h_drt : drt = drt') (h_tol : tol = tol') (h_wbt : wbt = wbt') (h_tks : tks = tks') (h_rsn : rsn = rsn') (h_stp : stp = stp') (h_S : ∀ k, k < 8 → S k = S' k) (h_Ac : ∀ k, k < 7 → Ac k = Ac' k) : eqW (plH G a ca la va S Ac fr sto stk gas drt tol wbt tks rsn stp) (plH G a ca la va S' Ac' fr' sto' stk' gas' drt' tol' wbt' tks' rsn' stp') := by
  subst h_fr; subst h_sto; subst h_stk; subst h_gas; subst h_drt; subst h_tol; subst h_wbt; subst h_tks; subst h_rsn; subst h_stp
  exact ⟨rfl, rfl, rfl, ⟨rfl, rfl, fun k hk => congrArg nI (h_S k hk)⟩, rfl, ⟨rfl, rfl, fun k hk => congrArg nI (h_Ac k hk)⟩, trivial⟩
theorem textW_eq {G : KG} {a : Nat → Nat} {tl tl' : Nat} {T T' : Nat → Nat} (h_tl : tl = tl') (h_T : ∀ k, k < 100 → T k = T' k) : eqW (textW G a tl T) (textW G a tl' T') := by
  subst h_tl
  exact ⟨rfl, rfl, rfl, ⟨rfl, rfl, fun k hk => congrArg nI (h_T k hk)⟩, trivial⟩
theorem readH_eq {G : KG} {a : Nat → Nat} {ca : Nat → Nat} {fi fi' : Nat} {re re' : Nat} {nu nu' : Nat} {nx nx' : Nat} {N N' : Nat → Nat} (h_fi : fi = fi') (h_re : re = re') (h_nu : nu = nu') (h_nx : nx = nx') (h_N : ∀ k, k < 3 → N k = N' k) : eqW (readH G a ca fi re nu nx N) (readH G a ca fi' re' nu' nx' N') := by
  subst h_fi; subst h_re; subst h_nu; subst h_nx
  exact ⟨rfl, rfl, rfl, ⟨rfl, rfl, fun k hk => congrArg nI (h_N k hk)⟩, trivial⟩
/-- a plate of a page: its cells, by four rows of addresses; what is told apart from the page beside it -/
abbrev plateX (G : KG) (pa : Nat → Nat → Nat) (P lo : Nat → Nat) (tol wbt tk rs st : Nat) : va_W := plH G (pa 0) (pa 1) (pa 2) (pa 3) (fun k => P k) (fun k => P (19 + k)) (P 9) (P 10) (P 11) (P 12) (P 13) tol wbt tk rs st ++ (coreW G (pa 1) (P 8) (top P) (kdP P) (lnP P) (dnP P) (moP P) lo ++ (linesW G (pa 2) (fun k => P (26 + 5 * k)) (fun k => P (26 + 5 * k + 1)) (fun k => P (26 + 5 * k + 2)) (fun k => P (26 + 5 * k + 3)) (fun k => P (26 + 5 * k + 4)) ++ (vialsW G (pa 3) (P 14) (P 15) (fun k => P (126 + 3 * k)) (fun k => P (126 + 3 * k + 1)) (fun k => P (126 + 3 * k + 2)))))
def watF (P : Nat → Nat) : Nat := wat (lnP P) (dnP P) (toldF P) (P 8)
def plateW (G : KG) (pa : Nat → Nat → Nat) (P lo : Nat → Nat) : va_W := plateX G pa P lo (toldF P) (watF P) (P 16) (P 17) (P 18)
def LoOk (P lo : Nat → Nat) : Prop := ∀ k, k < P 8 → lo k = low (lnP P) k
theorem core_ok {P lo : Nat → Nat} (hS : SegOk P) (hl : LoOk P lo) : CoreOk (P 8) (top P) (kdP P) (lnP P) (dnP P) (moP P) lo := ⟨hS.1, hS.2, hl, rfl⟩
theorem plateX_eq {G : KG} {pa : Nat → Nat → Nat} {P Q lo lo' : Nat → Nat} {tol wbt tk rs st tol' wbt' tk' rs' st' : Nat} (h8 : P 8 ≤ 20) (h : ∀ k, k < 16 ∨ (18 < k ∧ k < 246) → Q k = P k) (hlo : ∀ k, k < 20 → lo k = lo' k) (h1 : tol = tol') (h2 : wbt = wbt') (h3 : tk = tk') (h4 : rs = rs') (h5 : st = st') :
    eqW (plateX G pa P lo tol wbt tk rs st) (plateX G pa Q lo' tol' wbt' tk' rs' st') :=
  eqW.app (plH_eq (h 9 (by omega)).symm (h 10 (by omega)).symm (h 11 (by omega)).symm (h 12 (by omega)).symm (h 13 (by omega)).symm h1 h2 h3 h4 h5 (fun k hk => (h k (by omega)).symm) (fun k hk => (h (19 + k) (by omega)).symm))
    (eqW.app (coreW_eq (h 8 (by omega)).symm (by show low (lnP P) (P 8) = low (lnP Q) (Q 8); rw [h 8 (by omega)]; exact low_congr (fun k hk => (h _ (by omega)).symm)) (fun k hk => (h _ (by omega)).symm) (fun k hk => (h _ (by omega)).symm) (fun k hk => (h _ (by omega)).symm) (fun k hk => (h _ (by omega)).symm) hlo)
    (eqW.app (linesW_eq (fun k hk => (h _ (by omega)).symm) (fun k hk => (h _ (by omega)).symm) (fun k hk => (h _ (by omega)).symm) (fun k hk => (h _ (by omega)).symm) (fun k hk => (h _ (by omega)).symm))
      (vialsW_eq (h 14 (by omega)).symm (h 15 (by omega)).symm (fun k hk => (h _ (by omega)).symm) (fun k hk => (h _ (by omega)).symm) (fun k hk => (h _ (by omega)).symm))))
/-- the melting loop at a segment -/
theorem sgF_at {P : Nat → Nat} {i : Nat} (hi : i < P 8) (h1 : low (lnP P) i ≤ P 9) (h2 : P 9 < low (lnP P) (i + 1)) : sgF P = i := sg_at hi (fun j hj => Nat.le_trans (low_mono (lnP P) (show j + 1 ≤ i by omega)) h1) h2
theorem at_lt {P : Nat → Nat} {i : Nat} (hi : i < P 8) (h2 : P 9 < low (lnP P) (i + 1)) : P 9 < top P := Nat.lt_of_lt_of_le h2 (low_mono (lnP P) (show i + 1 ≤ P 8 from hi))
theorem melL_unitAt {P : Nat → Nat} {i : Nat} (hi : i < P 8) (h1 : low (lnP P) i ≤ P 9) (h2 : P 9 < low (lnP P) (i + 1)) (hs : P 11 < P 2) (hk : ¬ P (46 + 4 * i) = 1) (h : P 1 * P (46 + 4 * i + 2) / 100 ≤ P 10) (f : Nat) : melL (f + 1) P = melL f (unitF P i) := by
  have e := sgF_at hi h1 h2
  rw [← e] at hk h ⊢
  exact melL_unit (at_lt hi h2) hs hk h f
theorem melL_crackAt {P : Nat → Nat} {i : Nat} (hi : i < P 8) (h1 : low (lnP P) i ≤ P 9) (h2 : P 9 < low (lnP P) (i + 1)) (hs : P 11 < P 2) (hk : P (46 + 4 * i) = 1) (f : Nat) : melL (f + 1) P = melL f (up P 9 (low (lnP P) (i + 1))) := by
  have e := sgF_at hi h1 h2
  rw [← e] at hk ⊢
  exact melL_crack (at_lt hi h2) hs hk f
theorem melL_stopAt {P : Nat → Nat} {i : Nat} (hi : i < P 8) (h1 : low (lnP P) i ≤ P 9) (h2 : P 9 < low (lnP P) (i + 1)) (hk : ¬ P (46 + 4 * i) = 1) (h : ¬ P 1 * P (46 + 4 * i + 2) / 100 ≤ P 10) (f : Nat) : melL f P = P := by
  have e := sgF_at hi h1 h2
  rw [← e] at hk h
  exact melL_stop3 hk h f
theorem lt7 {q : Nat → Prop} (h0 : q 0) (h1 : q 1) (h2 : q 2) (h3 : q 3) (h4 : q 4) (h5 : q 5) (h6 : q 6) : ∀ k, k < 7 → q k := fun k hk => by
  rcases (show k = 0 ∨ k = 1 ∨ k = 2 ∨ k = 3 ∨ k = 4 ∨ k = 5 ∨ k = 6 by omega) with rfl | rfl | rfl | rfl | rfl | rfl | rfl <;> assumption

