/-! ===== the law: each call of both objects, the trials and the text ===== -/
theorem txt_S {P : Nat → Nat} {tl : Nat} {T : Nat → Nat} {n : Nat} {h : Nat → Nat → Nat} (hS : SInv P tl T n h) {q : Nat} (hz : tl < 100) (h2 : q ≤ 126) : SInv P (tl + 1) (up T tl q) n h := by
  refine ⟨hS.1, hz, fun k => ?_, hS.2.2.2⟩
  unfold up
  by_cases e : k = tl
  · rw [if_pos e]; omega
  · rw [if_neg e]; exact hS.2.2.1 k
theorem pr_ifRun (l : Launch) (G : KG) (a1 a2 a3 q0 v0 q1 v1 q2 v2 : Nat) {P : Nat → Nat} {tl : Nat} {T : Nat → Nat} {n : Nat} {h : Nat → Nat → Nat} (hS : SInv P tl T n h) (x y : Int32) : PairOk l G (lawX a1 a2 a3 q0 v0 q1 v1 q2 v2) yX7_ifRun wsX7_ifRun 6 yX8_ifRun wsX8_ifRun 6 P tl T n h [.int x, .int y] := by
  by_cases hx : (nI 1 ≤ x ∧ x ≤ nI 1000) ∧ nI 0 ≤ y ∧ y ≤ nI 6
  · obtain ⟨q, rfl, h1, h2⟩ := rng_le (by decide) (by decide) hx.1
    obtain ⟨j, rfl, -, h3⟩ := rng_le (by decide) (by decide) hx.2
    by_cases hz : P 16 + q ≤ 20000
    · exact ⟨ifN P q j, P, tl, T, n, h, hS, CS_try (fun ma hb xa ra pn pt lo Qt lt hlk => (c_X7_ifRunN l G ma hb xa ra pn pt P lo Qt lt hS.1 hlk q j ⟨h1, h2⟩ h3 hz).toX) (fun ma hb xa ra pn pt lo Qt lt r v _ hv => ⟨hv.1, itF P q, lo, hv.2⟩), RS_keep (fun a Sp Hs tp fa fr fn N _ => c_X8_ifRunN l G a P Sp Hs T N n tl tp fa fr fn hS.1 hS.2.2.2.1 q j ⟨h1, h2⟩ h3 hz) (fun a Sp Hs tp fa fr fn N r v hv => ⟨hv.1, _, tp, fa, fr, fn, N, hv.2⟩)⟩
    · exact ⟨-3, P, tl, T, n, h, hS, CS_try (fun ma hb xa ra pn pt lo Qt lt hlk => (c_X7_ifRunZ l G ma hb xa ra pn pt P lo Qt lt hS.1 hlk q j ⟨h1, h2⟩ h3 (by omega)).toX) (fun ma hb xa ra pn pt lo Qt lt r v _ hv => ⟨hv.1, Qt, lt, hv.2⟩), RS_keep (fun a Sp Hs tp fa fr fn N _ => c_X8_ifRunZ l G a P Sp Hs T N n tl tp fa fr fn hS.1 hS.2.2.2.1 q j ⟨h1, h2⟩ h3 (by omega)) (fun a Sp Hs tp fa fr fn N r v hv => ⟨hv.1, Sp, tp, fa, fr, fn, N, hv.2⟩)⟩
  · exact ⟨-1, P, tl, T, n, h, hS, CS_try (fun ma hb xa ra pn pt lo Qt lt hlk => (c_X7_ifRunM l G ma hb xa ra pn pt P lo Qt lt hS.1 hlk x y hx).toX) (fun ma hb xa ra pn pt lo Qt lt r v _ hv => ⟨hv.1, Qt, lt, hv.2⟩), RS_keep (fun a Sp Hs tp fa fr fn N _ => c_X8_ifRunM l G a P Sp Hs T N n tl tp fa fr fn hS.1 hS.2.2.2.1 x y hx) (fun a Sp Hs tp fa fr fn N r v hv => ⟨hv.1, Sp, tp, fa, fr, fn, N, hv.2⟩)⟩
theorem pr_ticksTo (l : Launch) (G : KG) (a1 a2 a3 q0 v0 q1 v1 q2 v2 : Nat) {P : Nat → Nat} {tl : Nat} {T : Nat → Nat} {n : Nat} {h : Nat → Nat → Nat} (hS : SInv P tl T n h) (x : Int32) : PairOk l G (lawX a1 a2 a3 q0 v0 q1 v1 q2 v2) yX7_ticksTo wsX7_ticksTo 6 yX8_ticksTo wsX8_ticksTo 5 P tl T n h [.int x] := by
  by_cases hx : x < 0
  · exact ⟨-1, P, tl, T, n, h, hS, CS_try (fun ma hb xa ra pn pt lo Qt lt hlk => (c_X7_ticksToM l G ma hb xa ra pn pt P lo Qt lt hS.1 hlk x hx).toX) (fun ma hb xa ra pn pt lo Qt lt r v _ hv => ⟨hv.1, Qt, lt, hv.2⟩), RS_keep (fun a Sp Hs tp fa fr fn N _ => c_X8_ticksToM l G a P Sp Hs T N n tl tp fa fr fn hS.1 hS.2.2.2.1 x hx) (fun a Sp Hs tp fa fr fn N r v hv => ⟨hv.1, Sp, tp, fa, fr, fn, N, hv.2⟩)⟩
  · obtain ⟨d, hd, rfl⟩ := nI_of hx
    exact ⟨ticksN P d, P, tl, T, n, h, hS, CS_try (fun ma hb xa ra pn pt lo Qt lt hlk => (c_X7_ticksToN l G ma hb xa ra pn pt P lo Qt lt hS.1 hlk d hd).toX) (fun ma hb xa ra pn pt lo Qt lt r v _ hv => ⟨hv.1, _, _, hv.2⟩), RS_keep (fun a Sp Hs tp fa fr fn N _ => c_X8_ticksToN l G a P Sp Hs T N n tl tp fa fr fn hS.1 hS.2.2.2.1 d hd) (fun a Sp Hs tp fa fr fn N r v hv => ⟨hv.1, _, tp, fa, fr, fn, N, hv.2⟩)⟩
theorem pr_flowFor (l : Launch) (G : KG) (a1 a2 a3 q0 v0 q1 v1 q2 v2 : Nat) {P : Nat → Nat} {tl : Nat} {T : Nat → Nat} {n : Nat} {h : Nat → Nat → Nat} (hS : SInv P tl T n h) (x : Int32) : PairOk l G (lawX a1 a2 a3 q0 v0 q1 v1 q2 v2) yX7_flowFor wsX7_flowFor 6 yX8_flowFor wsX8_flowFor 6 P tl T n h [.int x] := by
  by_cases hx : nI 1 ≤ x ∧ x ≤ nI 300
  · obtain ⟨q, rfl, h1, h2⟩ := rng_le (by decide) (by decide) hx
    by_cases hz : P 16 + q ≤ 20000
    · exact ⟨flB P q 50, P, tl, T, n, h, hS, CS_try (fun ma hb xa ra pn pt lo Qt lt hlk => (c_X7_flowForN l G ma hb xa ra pn pt P lo Qt lt hS.1 hlk a1 a2 a3 q ⟨h1, h2⟩ hz).sub (fun _ _ _ q => q.1.1.1)) (fun ma hb xa ra pn pt lo Qt lt r v _ hv => ⟨hv.1, hv.2⟩), RS_keep (fun a Sp Hs tp fa fr fn N _ => c_X8_flowForN l G a P Sp Hs T N n tl tp fa fr fn hS.1 hS.2.2.2.1 q ⟨h1, h2⟩ hz) (fun a Sp Hs tp fa fr fn N r v hv => by
        obtain ⟨e1, S2, e2⟩ := hv
        exact ⟨e1, S2, tp, fa, fr, fn, N, e2⟩)⟩
    · exact ⟨-3, P, tl, T, n, h, hS, CS_try (fun ma hb xa ra pn pt lo Qt lt hlk => (c_X7_flowForZ l G ma hb xa ra pn pt P lo Qt lt hS.1 hlk a1 a2 a3 q ⟨h1, h2⟩ (by omega)).sub (fun _ _ _ q => q.1.1.1)) (fun ma hb xa ra pn pt lo Qt lt r v _ hv => ⟨hv.1, Qt, lt, hv.2⟩), RS_keep (fun a Sp Hs tp fa fr fn N _ => c_X8_flowForZ l G a P Sp Hs T N n tl tp fa fr fn hS.1 hS.2.2.2.1 q ⟨h1, h2⟩ (by omega)) (fun a Sp Hs tp fa fr fn N r v hv => ⟨hv.1, Sp, tp, fa, fr, fn, N, hv.2⟩)⟩
  · exact ⟨-1, P, tl, T, n, h, hS, CS_try (fun ma hb xa ra pn pt lo Qt lt hlk => (c_X7_flowForM l G ma hb xa ra pn pt P lo Qt lt hS.1 hlk a1 a2 a3 x hx).sub (fun _ _ _ q => q.1.1.1)) (fun ma hb xa ra pn pt lo Qt lt r v _ hv => ⟨hv.1, Qt, lt, hv.2⟩), RS_keep (fun a Sp Hs tp fa fr fn N _ => c_X8_flowForM l G a P Sp Hs T N n tl tp fa fr fn hS.1 hS.2.2.2.1 x hx) (fun a Sp Hs tp fa fr fn N r v hv => ⟨hv.1, Sp, tp, fa, fr, fn, N, hv.2⟩)⟩
theorem pr_type (l : Launch) (G : KG) (a1 a2 a3 q0 v0 q1 v1 q2 v2 : Nat) {P : Nat → Nat} {tl : Nat} {T : Nat → Nat} {n : Nat} {h : Nat → Nat → Nat} (hS : SInv P tl T n h) (x : Int32) : PairOk l G (lawX a1 a2 a3 q0 v0 q1 v1 q2 v2) yX7_type wsX7_type 2 yX8_type wsX8_type 1 P tl T n h [.int x] := by
  by_cases hx : nI 32 ≤ x ∧ x ≤ nI 126
  · obtain ⟨q, rfl, h1, h2⟩ := rng_le (by decide) (by decide) hx
    by_cases hz : tl = 100
    · exact ⟨-3, P, tl, T, n, h, hS, CS_text (fun ma hb xa ra pn pt lo hlk => (c_X7_typeZ l G ma hb xa ra pn pt tl T q ⟨h1, h2⟩ hz).toX) (fun _ _ _ _ _ _ _ r v _ hv => hv), RS_any (fun a Sp Hs tp fa fr fn N _ => c_X8_typeZ l G a P Sp Hs T N n tl tp fa fr fn q ⟨h1, h2⟩ hz) (fun a Sp Hs tp fa fr fn N r v hH hv => by
        obtain ⟨e1, rfl⟩ := hv
        exact ⟨e1, Sp, Hs, tp, fa, fr, fn, N, eqW.rf _, hH⟩)⟩
    · have hz : tl < 100 := by have := hS.2.1; omega
      exact ⟨nI (tl + 1), P, tl + 1, up T tl q, n, h, txt_S hS hz h2, CS_text (fun ma hb xa ra pn pt lo hlk => (c_X7_typeN l G ma hb xa ra pn pt tl T q ⟨h1, h2⟩ hz).toX) (fun _ _ _ _ _ _ _ r v _ hv => hv), RS_any (fun a Sp Hs tp fa fr fn N _ => c_X8_typeN l G a P Sp Hs T N n tl tp fa fr fn q ⟨h1, h2⟩ hz) (fun a Sp Hs tp fa fr fn N r v hH hv => by
        obtain ⟨e1, rfl⟩ := hv
        exact ⟨e1, Sp, Hs, tp, fa, fr, fn, N, eqW.rf _, hH⟩)⟩
  · exact ⟨-1, P, tl, T, n, h, hS, CS_text (fun ma hb xa ra pn pt lo hlk => (c_X7_typeM l G ma hb xa ra pn pt tl T hS.2.1 x hx).toX) (fun _ _ _ _ _ _ _ r v _ hv => hv), RS_any (fun a Sp Hs tp fa fr fn N _ => c_X8_typeM l G a P Sp Hs T N n tl tp fa fr fn x hx) (fun a Sp Hs tp fa fr fn N r v hH hv => by
        obtain ⟨e1, rfl⟩ := hv
        exact ⟨e1, Sp, Hs, tp, fa, fr, fn, N, eqW.rf _, hH⟩)⟩
theorem pr_clearText (l : Launch) (G : KG) (a1 a2 a3 q0 v0 q1 v1 q2 v2 : Nat) {P : Nat → Nat} {tl : Nat} {T : Nat → Nat} {n : Nat} {h : Nat → Nat → Nat} (hS : SInv P tl T n h)  : PairOk l G (lawX a1 a2 a3 q0 v0 q1 v1 q2 v2) yX7_clearText wsX7_clearText 0 yX8_clearText wsX8_clearText 0 P tl T n h [] := by
  exact ⟨nI tl, P, 0, T, n, h, ⟨hS.1, Nat.zero_le _, hS.2.2⟩, CS_text (fun ma hb xa ra pn pt lo hlk => (c_X7_clearText l G ma hb xa ra pn pt tl T).toX) (fun _ _ _ _ _ _ _ r v _ hv => hv), RS_any (fun a Sp Hs tp fa fr fn N _ => c_X8_clearText l G a P Sp Hs T N n tl tp fa fr fn) (fun a Sp Hs tp fa fr fn N r v hH hv => by
        obtain ⟨e1, rfl⟩ := hv
        exact ⟨e1, Sp, Hs, tp, fa, fr, fn, N, eqW.rf _, hH⟩)⟩
theorem pr_fault (l : Launch) (G : KG) (a1 a2 a3 q0 v0 q1 v1 q2 v2 : Nat) {P : Nat → Nat} {tl : Nat} {T : Nat → Nat} {n : Nat} {h : Nat → Nat → Nat} (hS : SInv P tl T n h) (x : Int32) : PairOk l G (lawX a1 a2 a3 q0 v0 q1 v1 q2 v2) yX7_fault wsX7_fault 8 yX8_fault wsX8_fault 5 P tl T n h [.int x] := by
  by_cases hx : nI 0 ≤ x ∧ x ≤ nI 2
  · obtain ⟨q, rfl, -, h2⟩ := rng_le (by decide) (by decide) hx
    by_cases hz : txR T tl (P 8) = 0
    · exact ⟨-4, P, tl, T, n, h, hS, CS_flt (fun ma hb xa ra rc pn pt lo fi re nu nx N sz hg kd ln dn mo l0 hlk => (c_X7_faultZ l G q0 v0 q1 v1 q2 v2 ma hb xa ra rc pn pt P lo fi re nu nx N tl T sz hg kd ln dn mo l0 hS.1 hS.2.2.1 hS.2.1 q h2 hz).sub (fun _ _ _ q => q.2)) (fun ma hb xa ra rc pn pt lo fi re nu nx N sz hg kd ln dn mo l0 r v _ hv => hv), RS_keep (fun a Sp Hs tp fa fr fn N _ => c_X8_faultZ l G a P Sp Hs T N n tl tp fa fr fn hS.2.2.1 hS.2.1 hS.1.1.1 q h2 hz) (fun a Sp Hs tp fa fr fn N r v hv => by
        obtain ⟨e1, t2, f2, r2, n2, M2, e2⟩ := hv
        exact ⟨e1, Sp, t2, f2, r2, n2, M2, e2⟩)⟩
    · exact ⟨flN T tl (P 8) q, P, tl, T, n, h, hS, CS_flt (fun ma hb xa ra rc pn pt lo fi re nu nx N sz hg kd ln dn mo l0 hlk => (c_X7_faultN l G q0 v0 q1 v1 q2 v2 ma hb xa ra rc pn pt P lo fi re nu nx N tl T sz hg kd ln dn mo l0 hS.1 hS.2.2.1 hS.2.1 q h2 hz).sub (fun _ _ _ q => q.2)) (fun ma hb xa ra rc pn pt lo fi re nu nx N sz hg kd ln dn mo l0 r v _ hv => hv), RS_keep (fun a Sp Hs tp fa fr fn N _ => c_X8_faultN l G a P Sp Hs T N n tl tp fa fr fn hS.2.2.1 hS.2.1 hS.1.1.1 q h2 hz) (fun a Sp Hs tp fa fr fn N r v hv => by
        obtain ⟨e1, t2, f2, r2, n2, M2, e2⟩ := hv
        exact ⟨e1, Sp, t2, f2, r2, n2, M2, e2⟩)⟩
  · exact ⟨-1, P, tl, T, n, h, hS, CS_flt (fun ma hb xa ra rc pn pt lo fi re nu nx N sz hg kd ln dn mo l0 hlk => (c_X7_faultM l G q0 v0 q1 v1 q2 v2 ma hb xa ra rc pn pt P lo fi re nu nx N tl T sz hg kd ln dn mo l0 hS.1 hS.2.2.1 hS.2.1 x hx).sub (fun _ _ _ q => q.2)) (fun ma hb xa ra rc pn pt lo fi re nu nx N sz hg kd ln dn mo l0 r v _ hv => ⟨hv.1, fi, re, nu, nx, N, sz, hg, kd, ln, dn, mo, l0, hv.2⟩), RS_keep (fun a Sp Hs tp fa fr fn N _ => c_X8_faultM l G a P Sp Hs T N n tl tp fa fr fn hS.2.2.1 hS.2.1 hS.1.1.1 x hx) (fun a Sp Hs tp fa fr fn N r v hv => ⟨hv.1, Sp, tp, fa, fr, fn, N, hv.2⟩)⟩
theorem pr_lay (l : Launch) (G : KG) (a1 a2 a3 q0 v0 q1 v1 q2 v2 : Nat) {P : Nat → Nat} {tl : Nat} {T : Nat → Nat} {n : Nat} {h : Nat → Nat → Nat} (hS : SInv P tl T n h)  : PairOk l G (lawX a1 a2 a3 q0 v0 q1 v1 q2 v2) yX7_lay wsX7_lay 8 yX8_lay wsX8_lay 5 P tl T n h [] := by
  by_cases hz : txR T tl (P 8) = 0
  · exact ⟨nI (lj T tl (P 8)), aj T tl P (lj T tl (P 8)), tl, T, sizeN n, recH h n P, ⟨(aj_ok hS.1 (lo := fun k => low (lnP P) k) (fun _ _ => rfl) (Nat.le_refl _)).1, hS.2.1, hS.2.2.1, (rec_inv hS.1 hS.2.2.2.1 hS.2.2.2.2).1, (rec_inv hS.1 hS.2.2.2.1 hS.2.2.2.2).2⟩, CS_layR hS.2.2.2.1 (fun ma hb xa ra rc pn pt lo ha hpg hlw old fi re nu nx N sz hg kd ln dn mo l0 hlk => (c_X7_layN l G q0 v0 q1 v1 q2 v2 ma hb xa ra rc pn pt P lo fi re nu nx N tl T sz hg kd ln dn mo l0 ha hpg hlw n old hS.1 hlk.1 hS.2.2.2.1 hlk.2 hS.2.2.1 hS.2.1 hz).sub (fun _ _ _ q => q.2)) (fun ma hb xa ra rc pn pt lo ha hpg hlw old fi re nu nx N sz hg kd ln dn mo l0 r v hlk hv => ⟨hv.1, ajl T tl P lo (lj T tl (P 8)), (aj_ok hS.1 hlk.1 (Nat.le_refl _)).2.1, hv.2⟩), RS_rec hS.2.2.2.1 (fun a Sp Hs tp fa fr fn N _ => c_X8_layN l G a P Sp Hs T N n tl tp fa fr fn hS.2.2.1 hS.2.1 hS.1.1.1 hS.2.2.2.1 hz) (fun a Sp Hs tp fa fr fn N r v hv => by
        obtain ⟨e1, t2, f2, r2, n2, M2, e2⟩ := hv
        exact ⟨e1, Sp, t2, f2, r2, n2, M2, e2⟩)⟩
  · exact ⟨-2, P, tl, T, n, h, hS, CS_layS (fun ma hb xa ra rc pn pt lo ha hpg hlw old fi re nu nx N sz hg kd ln dn mo l0 hlk => (c_X7_layZ l G q0 v0 q1 v1 q2 v2 ma hb xa ra rc pn pt P lo fi re nu nx N tl T sz hg kd ln dn mo l0 ha hpg hlw n old hS.1 hlk.1 hS.2.2.2.1 hlk.2 hS.2.2.1 hS.2.1 hz).sub (fun _ _ _ q => q.2)) (fun ma hb xa ra rc pn pt lo ha hpg hlw old fi re nu nx N sz hg kd ln dn mo l0 r v _ hv => hv), RS_keep (fun a Sp Hs tp fa fr fn N _ => c_X8_layZ l G a P Sp Hs T N n tl tp fa fr fn hS.2.2.1 hS.2.1 hS.1.1.1 hS.2.2.2.1 hz) (fun a Sp Hs tp fa fr fn N r v hv => by
        obtain ⟨e1, t2, f2, r2, n2, M2, e2⟩ := hv
        exact ⟨e1, Sp, t2, f2, r2, n2, M2, e2⟩)⟩
