set_option maxRecDepth 100000 in
set_option maxHeartbeats 4000000 in
theorem c_X3_raiseTold (l : Launch) (G : KG) (a ca la va S Ac : Nat → Nat) (fr sto stk gas drt tol tks rsn stp : Nat) (sz hg : Nat) (kd ln dn mo lo : Nat → Nat) (h : CoreOk sz hg kd ln dn mo lo) (hf : fr ≤ hg) (ht : tol ≤ fr) (hw0 : wat ln dn tol sz ≤ Ac 1 + Ac 2) (hx : Ac 1 + Ac 2 ≤ 1000000) : MetV l yX3_raiseTold wsX3_raiseTold 2 0 0 G (plH G a ca la va S Ac fr sto stk gas drt tol (wat ln dn tol sz) tks rsn stp ++ (coreW G ca sz hg kd ln dn mo lo)) [.ref (a 0)] (fun v => v = plH G a ca la va S Ac fr sto stk gas drt (min (dep ln dn (Ac 1 + Ac 2) sz) fr) (wat ln dn (min (dep ln dn (Ac 1 + Ac 2) sz) fr) sz) tks rsn stp ++ (coreW G ca sz hg kd ln dn mo lo)) := by
  refine MetV.by (cc := cX3_raiseTold) (nL := 5) (ret := none) (by decide +kernel) rfl (Nat.le_of_ble_eq_true rfl) ?_
  intro p e s m args below meth c F hname w ls hl
  have hl : lv_has ls 5 [(0, .ref (a 0))] := hl
  have hts := F.ts
  have iX0 : ∀ w ∈ wsX00, w ∈ wsX3_raiseTold := by decide +kernel
  have iX3 : ∀ w ∈ wsX30, w ∈ wsX3_raiseTold := by decide +kernel
  have f10 := hts (.fieldLink RX3 10 "CoreMelter$Plate" "core" "LCoreMelter$Core;") (by decide +kernel)
  have f56 := hts (.fieldLink RX3 56 "CoreMelter$Plate" "front" "I") (by decide +kernel)
  have f72 := hts (.fieldLink RX3 72 "CoreMelter$Plate" "told" "I") (by decide +kernel)
  have f75 := hts (.fieldLink RX3 75 "CoreMelter$Plate" "waterBelowTold" "I") (by decide +kernel)
  have f128 := hts (.fieldLink RX3 128 "CoreMelter$Core" "size" "I") (by decide +kernel)
  have f140 := hts (.fieldLink RX3 140 "CoreMelter$Core" "densities" "[I") (by decide +kernel)
  have hm1 := hts (.methodLink RX3 149 Lib.Math.min.name) (by decide +kernel)
  have hm2 := hts (.static Lib.Math.min.name) (by decide +kernel)
  have hm3 := hts (.initialized "java/lang/Math") (by decide +kernel)
  have hm4 := hts (.code Lib.Math.min.name Lib.Math.min.code 2 (some .int)) (by decide +kernel)
  have h20 := h.1
  have hb := h.bnd
  have hg6 := hb sz (Nat.le_refl _)
  have hgl := h.2.2.2
  have hfr : fr ≤ low ln sz := by omega
  refine lv_aload_n F.1 F.2.1 dX3_raiseTold_0 rfl (lv_at hl 0 rfl) ?_
  refine r_callVI (rest := []) F w (c_X3_drawn l G a ca la va S Ac fr sto stk gas drt tol (wat ln dn tol sz) tks rsn stp  ) gX3_raiseTold_X3_drawn [0, 1, 2] [3, 4, 5, 6, 7, 8] (nA0 := 0) rfl (by decide +kernel) rfl ⟨Nat.le_of_ble_eq_true rfl, Nat.le_of_ble_eq_true rfl⟩ ⟨Nat.le_of_ble_eq_true rfl, Nat.le_of_ble_eq_true rfl⟩ rfl rfl rfl rfl rfl rfl rfl hl rfl (Nat.le_of_ble_eq_true rfl) dX3_raiseTold_1 (fun r_1 w1 H locs hp w => ?_)
  obtain ⟨rfl, rfl⟩ := hp
  have w := w.sub (ws' := plH G a ca la va S Ac fr sto stk gas drt tol (wat ln dn tol sz) tks rsn stp ++ (coreW G ca sz hg kd ln dn mo lo)) [6, 7, 8, 0, 1, 2, 3, 4, 5] (by decide) rfl
  refine lv_istore_n (lv' := [(1, .int (nI ((Ac 1) + (Ac 2)))), (0, .ref (a 0))]) F.1 F.2.1 dX3_raiseTold_4 rfl hl (by decide) rfl (fun ls hl => ?_)
  refine lv_aload_n F.1 F.2.1 dX3_raiseTold_5 rfl (lv_at hl 1 rfl) ?_
  refine r_get F w 0 0 iX3 f10 rfl rfl rfl (by decide) rfl dX3_raiseTold_6 ?_
  refine lv_aload_n F.1 F.2.1 dX3_raiseTold_9 rfl (lv_at hl 1 rfl) ?_
  refine r_get F w 0 10 iX3 f72 rfl rfl rfl (by decide) rfl dX3_raiseTold_10 ?_
  refine r_callVI (rest := []) F w (c_X0_holding l G ca sz hg kd ln dn mo lo tol (by omega) h) gX3_raiseTold_X0_holding [3, 4, 5, 6, 7, 8] [0, 1, 2] (nA0 := 1) rfl (by decide +kernel) rfl ⟨Nat.le_of_ble_eq_true rfl, Nat.le_of_ble_eq_true rfl⟩ ⟨Nat.le_of_ble_eq_true rfl, Nat.le_of_ble_eq_true rfl⟩ rfl rfl rfl rfl rfl rfl rfl hl rfl (Nat.le_of_ble_eq_true rfl) dX3_raiseTold_13 (fun r_13 w1 H locs hp w => ?_)
  obtain ⟨rfl, rfl⟩ := hp
  have w := w.sub (ws' := plH G a ca la va S Ac fr sto stk gas drt tol (wat ln dn tol sz) tks rsn stp ++ (coreW G ca sz hg kd ln dn mo lo)) [0, 1, 2, 3, 4, 5, 6, 7, 8] (by decide) rfl
  refine lv_istore_n (lv' := [(2, .int (nI (sg ln tol sz))), (1, .int (nI ((Ac 1) + (Ac 2)))), (0, .ref (a 0))]) F.1 F.2.1 dX3_raiseTold_16 rfl hl (by decide) rfl (fun ls hl => ?_)
  have L17 : ∀ n : Nat, ∀ (i t : Nat), (i ≤ sz) → (t ≤ fr) → (wat ln dn t sz ≤ Ac 1 + Ac 2) → (t = fr ∨ (low ln i ≤ t ∧ (i < sz → t < low ln (i + 1)))) → sz - i < n → ∀ (H : Heap) (locs : List Loc), Wd G s (va_A (plH G a ca la va S Ac fr sto stk gas drt tol (wat ln dn tol sz) tks rsn stp ++ (coreW G ca sz hg kd ln dn mo lo)) s.heap.size) (plH G a ca la va S Ac fr sto stk gas drt t (wat ln dn t sz) tks rsn stp ++ (coreW G ca sz hg kd ln dn mo lo)) H locs → ∀ ls : Array Slot, lv_has ls 5 [(0, .ref (a 0)), (1, .int (nI (Ac 1 + Ac 2))), (2, .int (nI i))] → W p l e (rmK 2 0 0) s m args below meth c H locs 0 0 (MQ below (QV G (plH G a ca la va S Ac fr sto stk gas drt tol (wat ln dn tol sz) tks rsn stp ++ (coreW G ca sz hg kd ln dn mo lo)) s.heap.size (fun v => v = plH G a ca la va S Ac fr sto stk gas drt (min (dep ln dn (Ac 1 + Ac 2) sz) fr) (wat ln dn (min (dep ln dn (Ac 1 + Ac 2) sz) fr) sz) tks rsn stp ++ (coreW G ca sz hg kd ln dn mo lo))) args s 0 0 (va_A (plH G a ca la va S Ac fr sto stk gas drt tol (wat ln dn tol sz) tks rsn stp ++ (coreW G ca sz hg kd ln dn mo lo)) s.heap.size)) (F0 m 17 ls []) := by
    intro n
    induction n with
    | zero => intro i t hi htf hwt hq hm; exact absurd hm (Nat.not_lt_zero _)
    | succ n ih17 =>
      intro i t hi htf hwt hq hm17 H locs w ls hl
      refine lv_iload_n F.1 F.2.1 dX3_raiseTold_17 rfl (lv_at hl 2 rfl) ?_
      refine lv_aload_n F.1 F.2.1 dX3_raiseTold_18 rfl (lv_at hl 0 rfl) ?_
      refine r_get F w 0 0 iX3 f10 rfl rfl rfl (by decide) rfl dX3_raiseTold_19 ?_
      refine r_get F w 3 0 iX0 f128 rfl rfl rfl (by decide) rfl dX3_raiseTold_22 ?_
      refine r_cge (tgt := 126) F dX3_raiseTold_25 (by decide) (by omega) (by omega) (fun c25 => ?_) (fun c25 => ?_)
      · skip
        have htfr : t = fr := by have e9 : low ln i = low ln sz := congrArg (low ln) (show i = sz by omega); omega
        exact r_return F w dX3_raiseTold_126 (by rw [told_is hfr htf hwt (Or.inl htfr)])
      · skip
        refine lv_aload_n F.1 F.2.1 dX3_raiseTold_28 rfl (lv_at hl 0 rfl) ?_
        refine r_get F w 0 10 iX3 f72 rfl rfl rfl (by decide) rfl dX3_raiseTold_29 ?_
        refine lv_aload_n F.1 F.2.1 dX3_raiseTold_32 rfl (lv_at hl 0 rfl) ?_
        refine r_get F w 0 5 iX3 f56 rfl rfl rfl (by decide) rfl dX3_raiseTold_33 ?_
        refine r_cge (tgt := 126) F dX3_raiseTold_36 (by decide) (by omega) (by omega) (fun c36 => ?_) (fun c36 => ?_)
        · skip
          have htfr : t = fr := by omega
          exact r_return F w dX3_raiseTold_126 (by rw [told_is hfr htf hwt (Or.inl htfr)])
        · skip
          have hlt : low ln i ≤ t ∧ t < low ln (i + 1) := by rcases hq with q | q; exact absurd q (by omega); exact ⟨q.1, q.2 c25⟩
          obtain ⟨q1, q2, q3⟩ := h.2.1 i c25
          have hbi := hb (i + 1) c25
          refine lv_aload_n F.1 F.2.1 dX3_raiseTold_39 rfl (lv_at hl 0 rfl) ?_
          refine r_get F w 0 0 iX3 f10 rfl rfl rfl (by decide) rfl dX3_raiseTold_40 ?_
          refine lv_iload_n F.1 F.2.1 dX3_raiseTold_43 rfl (lv_at hl 2 rfl) ?_
          refine r_callVI (rest := []) F w (c_X0_end l G ca sz hg kd ln dn mo lo i (by omega)) gX3_raiseTold_X0_end [3, 4, 5, 6, 7, 8] [0, 1, 2] (nA0 := 1) rfl (by decide +kernel) rfl ⟨Nat.le_of_ble_eq_true rfl, Nat.le_of_ble_eq_true rfl⟩ ⟨Nat.le_of_ble_eq_true rfl, Nat.le_of_ble_eq_true rfl⟩ rfl rfl rfl rfl rfl rfl rfl hl rfl (Nat.le_of_ble_eq_true rfl) dX3_raiseTold_44 (fun r_44 w1 H locs hp w => ?_)
          obtain ⟨rfl, rfl⟩ := hp
          have w := w.sub (ws' := plH G a ca la va S Ac fr sto stk gas drt t (wat ln dn t sz) tks rsn stp ++ (coreW G ca sz hg kd ln dn mo lo)) [0, 1, 2, 3, 4, 5, 6, 7, 8] (by decide) rfl
          refine r_to (y := (nI (low ln (i + 1)))) (congrArg nI (h.endk c25)) ?_
          refine lv_aload_n F.1 F.2.1 dX3_raiseTold_47 rfl (lv_at hl 0 rfl) ?_
          refine r_get F w 0 5 iX3 f56 rfl rfl rfl (by decide) rfl dX3_raiseTold_48 ?_
          refine r_min F hm1 hm2 hm3 hm4 (by decide) (Nat.le_of_ble_eq_true rfl) ⟨Nat.le_of_ble_eq_true rfl, Nat.le_of_ble_eq_true rfl⟩ (by omega) (by omega) hl dX3_raiseTold_51 ?_
          refine lv_istore_n (lv' := [(3, .int (nI (min (low ln (i + 1)) fr))), (0, .ref (a 0)), (1, .int (nI (Ac 1 + Ac 2))), (2, .int (nI i))]) F.1 F.2.1 dX3_raiseTold_54 rfl hl (by decide) rfl (fun ls hl => ?_)
          refine lv_aload_n F.1 F.2.1 dX3_raiseTold_55 rfl (lv_at hl 1 rfl) ?_
          refine r_get F w 0 0 iX3 f10 rfl rfl rfl (by decide) rfl dX3_raiseTold_56 ?_
          refine r_get F w 3 4 iX0 f140 rfl rfl rfl (by decide) rfl dX3_raiseTold_59 ?_
          refine lv_iload_n F.1 F.2.1 dX3_raiseTold_62 rfl (lv_at hl 3 rfl) ?_
          refine r_iald F w 6 rfl (by omega) (by decide) dX3_raiseTold_63 ?_
          refine lv_istore (lv' := [(4, .int (nI (dn i))), (3, .int (nI (min (low ln (i + 1)) fr))), (0, .ref (a 0)), (1, .int (nI (Ac 1 + Ac 2))), (2, .int (nI i))]) F.1 F.2.1 dX3_raiseTold_64 hl (by decide) rfl (fun ls hl => ?_)
          have L66 : ∀ n : Nat, ∀ (t2 : Nat), (low ln i ≤ t2) → (t2 ≤ min (low ln (i + 1)) fr) → (wat ln dn t2 sz ≤ Ac 1 + Ac 2) → fr - t2 < n → ∀ (H : Heap) (locs : List Loc), Wd G s (va_A (plH G a ca la va S Ac fr sto stk gas drt tol (wat ln dn tol sz) tks rsn stp ++ (coreW G ca sz hg kd ln dn mo lo)) s.heap.size) (plH G a ca la va S Ac fr sto stk gas drt t2 (wat ln dn t2 sz) tks rsn stp ++ (coreW G ca sz hg kd ln dn mo lo)) H locs → ∀ ls : Array Slot, lv_has ls 5 [(0, .ref (a 0)), (1, .int (nI (Ac 1 + Ac 2))), (2, .int (nI i)), (3, .int (nI (min (low ln (i + 1)) fr))), (4, .int (nI (dn i)))] → W p l e (rmK 2 0 0) s m args below meth c H locs 0 0 (MQ below (QV G (plH G a ca la va S Ac fr sto stk gas drt tol (wat ln dn tol sz) tks rsn stp ++ (coreW G ca sz hg kd ln dn mo lo)) s.heap.size (fun v => v = plH G a ca la va S Ac fr sto stk gas drt (min (dep ln dn (Ac 1 + Ac 2) sz) fr) (wat ln dn (min (dep ln dn (Ac 1 + Ac 2) sz) fr) sz) tks rsn stp ++ (coreW G ca sz hg kd ln dn mo lo))) args s 0 0 (va_A (plH G a ca la va S Ac fr sto stk gas drt tol (wat ln dn tol sz) tks rsn stp ++ (coreW G ca sz hg kd ln dn mo lo)) s.heap.size)) (F0 m 66 ls []) := by
            intro n
            induction n with
            | zero => intro t2 hlo2 hen2 hwt2 hm; exact absurd hm (Nat.not_lt_zero _)
            | succ n ih66 =>
              intro t2 hlo2 hen2 hwt2 hm66 H locs w ls hl
              refine lv_aload_n F.1 F.2.1 dX3_raiseTold_66 rfl (lv_at hl 0 rfl) ?_
              refine r_get F w 0 10 iX3 f72 rfl rfl rfl (by decide) rfl dX3_raiseTold_67 ?_
              refine lv_iload_n F.1 F.2.1 dX3_raiseTold_70 rfl (lv_at hl 3 rfl) ?_
              refine r_cge (tgt := 109) F dX3_raiseTold_71 (by decide) (by omega) (by omega) (fun c71 => ?_) (fun c71 => ?_)
              · skip
                have hend : t2 < min (low ln (i + 1)) fr → Ac 1 + Ac 2 < wat ln dn (t2 + 1) sz := fun q => absurd q c71
                refine lv_aload_n F.1 F.2.1 dX3_raiseTold_109 rfl (lv_at hl 0 rfl) ?_
                refine r_get F w 0 10 iX3 f72 rfl rfl rfl (by decide) rfl dX3_raiseTold_110 ?_
                refine lv_iload_n F.1 F.2.1 dX3_raiseTold_113 rfl (lv_at hl 3 rfl) ?_
                refine r_cge (tgt := 120) F dX3_raiseTold_114 (by decide) (by omega) (by omega) (fun c114 => ?_) (fun c114 => ?_)
                · skip
                  refine lv_iinc (v := nI (i + 1)) (lv' := [(2, .int (nI (i + 1))), (0, .ref (a 0)), (1, .int (nI (Ac 1 + Ac 2))), (3, .int (nI (min (low ln (i + 1)) fr))), (4, .int (nI (dn i)))]) F.1 F.2.1 dX3_raiseTold_120 hl (k := 2) rfl (nI_add _ _) (by decide) rfl (fun ls hl => ?_)
                  refine lv_goto (tgt := 17) F.1 F.2.1 dX3_raiseTold_123 (by decide) ?_
                  exact ih17 (i + 1) t2 (by omega) (by omega) hwt2 (by rcases Nat.lt_or_ge t2 fr with q | q; exact Or.inr ⟨by omega, fun z => by have h7 : low ln (i + 1 + 1) = low ln (i + 1) + ln (i + 1) := rfl; have h6 := (h.2.1 (i + 1) z).1; omega⟩; exact Or.inl (by omega)) (by omega) _ _ w ls (lv_sub hl [1, 2, 0] rfl)
                · skip
                  have hend2 := hend c114
                  refine lv_goto (tgt := 126) F.1 F.2.1 dX3_raiseTold_117 (by decide) ?_
                  exact r_return F w dX3_raiseTold_126 (by rw [told_is hfr (show t2 ≤ fr by omega) hwt2 (Or.inr hend2)])
              · skip
                refine lv_aload_n F.1 F.2.1 dX3_raiseTold_74 rfl (lv_at hl 0 rfl) ?_
                refine r_get F w 0 11 iX3 f75 rfl rfl rfl (by decide) rfl dX3_raiseTold_75 ?_
                refine lv_iload F.1 F.2.1 dX3_raiseTold_78 (lv_at hl 4 rfl) ?_
                refine r_iadd F dX3_raiseTold_80 ?_
                refine lv_iload_n F.1 F.2.1 dX3_raiseTold_81 rfl (lv_at hl 1 rfl) ?_
                refine r_cgt (tgt := 109) F dX3_raiseTold_82 (by decide) (by omega) (by omega) (fun c82 => ?_) (fun c82 => ?_)
                · skip
                  have hend : t2 < min (low ln (i + 1)) fr → Ac 1 + Ac 2 < wat ln dn (t2 + 1) sz := fun _ => by rw [wat_step c25 hlo2 (by omega)]; omega
                  refine lv_aload_n F.1 F.2.1 dX3_raiseTold_109 rfl (lv_at hl 0 rfl) ?_
                  refine r_get F w 0 10 iX3 f72 rfl rfl rfl (by decide) rfl dX3_raiseTold_110 ?_
                  refine lv_iload_n F.1 F.2.1 dX3_raiseTold_113 rfl (lv_at hl 3 rfl) ?_
                  refine r_cge (tgt := 120) F dX3_raiseTold_114 (by decide) (by omega) (by omega) (fun c114 => ?_) (fun c114 => ?_)
                  · skip
                    refine lv_iinc (v := nI (i + 1)) (lv' := [(2, .int (nI (i + 1))), (0, .ref (a 0)), (1, .int (nI (Ac 1 + Ac 2))), (3, .int (nI (min (low ln (i + 1)) fr))), (4, .int (nI (dn i)))]) F.1 F.2.1 dX3_raiseTold_120 hl (k := 2) rfl (nI_add _ _) (by decide) rfl (fun ls hl => ?_)
                    refine lv_goto (tgt := 17) F.1 F.2.1 dX3_raiseTold_123 (by decide) ?_
                    exact ih17 (i + 1) t2 (by omega) (by omega) hwt2 (by rcases Nat.lt_or_ge t2 fr with q | q; exact Or.inr ⟨by omega, fun z => by have h7 : low ln (i + 1 + 1) = low ln (i + 1) + ln (i + 1) := rfl; have h6 := (h.2.1 (i + 1) z).1; omega⟩; exact Or.inl (by omega)) (by omega) _ _ w ls (lv_sub hl [1, 2, 0] rfl)
                  · skip
                    have hend2 := hend c114
                    refine lv_goto (tgt := 126) F.1 F.2.1 dX3_raiseTold_117 (by decide) ?_
                    exact r_return F w dX3_raiseTold_126 (by rw [told_is hfr (show t2 ≤ fr by omega) hwt2 (Or.inr hend2)])
                · skip
                  refine lv_aload_n F.1 F.2.1 dX3_raiseTold_85 rfl (lv_at hl 0 rfl) ?_
                  refine lv_dup F.1 F.2.1 dX3_raiseTold_86 rfl ?_
                  refine r_get F w 0 10 iX3 f72 rfl rfl rfl (by decide) rfl dX3_raiseTold_87 ?_
                  refine lv_iconst (v := nI 1) F.1 F.2.1 dX3_raiseTold_90 (by decide) ?_
                  refine r_iadd F dX3_raiseTold_91 ?_
                  refine r_put (ws' := plH G a ca la va S Ac fr sto stk gas drt (t2 + 1) (wat ln dn t2 sz) tks rsn stp ++ (coreW G ca sz hg kd ln dn mo lo)) F w 0 10 iX3 okX3 f72 rfl rfl rfl (by decide) (by decide +kernel) (Nat.le_of_ble_eq_true rfl) dX3_raiseTold_92 rfl (fun H locs w => ?_)
                  refine lv_aload_n F.1 F.2.1 dX3_raiseTold_95 rfl (lv_at hl 0 rfl) ?_
                  refine lv_dup F.1 F.2.1 dX3_raiseTold_96 rfl ?_
                  refine r_get F w 0 11 iX3 f75 rfl rfl rfl (by decide) rfl dX3_raiseTold_97 ?_
                  refine lv_iload F.1 F.2.1 dX3_raiseTold_100 (lv_at hl 4 rfl) ?_
                  refine r_iadd F dX3_raiseTold_102 ?_
                  refine r_put (ws' := plH G a ca la va S Ac fr sto stk gas drt (t2 + 1) ((wat ln dn t2 sz) + (dn i)) tks rsn stp ++ (coreW G ca sz hg kd ln dn mo lo)) F w 0 11 iX3 okX3 f75 rfl rfl rfl (by decide) (by decide +kernel) (Nat.le_of_ble_eq_true rfl) dX3_raiseTold_103 rfl (fun H locs w => ?_)
                  refine lv_goto (tgt := 66) F.1 F.2.1 dX3_raiseTold_106 (by decide) ?_
                  have w := w.is (ws' := plH G a ca la va S Ac fr sto stk gas drt (t2 + 1) (wat ln dn (t2 + 1) sz) tks rsn stp ++ (coreW G ca sz hg kd ln dn mo lo)) (by rw [wat_step c25 hlo2 (by omega)])
                  exact ih66 (t2 + 1) (by omega) (by omega) (by rw [wat_step c25 hlo2 (by omega)]; exact Nat.not_lt.mp c82) (by omega) _ _ w ls (lv_sub hl [0, 1, 2, 3, 4] rfl)
          exact L66 _ t hlt.1 (by omega) hwt (Nat.lt_succ_self _) _ _ w ls (lv_sub hl [2, 3, 4, 1, 0] rfl)
  exact L17 _ (sg ln tol sz) tol (sg_le _ _ _) ht hw0 (by rcases sg_ok (ln := ln) (d := tol) (n := sz) with q | q; exact Or.inr ⟨q.1, q.2⟩; exact Or.inl (by have := q.1; have := h.2.2.2; omega)) (Nat.lt_succ_self _) _ _ w ls (lv_sub hl [2, 1, 0] rfl)
theorem tk3_14 {P : Nat → Nat} (h : DInv P) : drs (tk2 P) 4 14 = P 14 := by
  rw [(tk3_d h).2 14 (by omega), (tk2_d h).2.1 14 (by omega), tk1_o P (by omega) (by omega)]
theorem tk3_16 {P : Nat → Nat} (h : DInv P) : drs (tk2 P) 4 16 = P 16 := by
  rw [(tk3_d h).2 16 (by omega), (tk2_d h).2.1 16 (by omega), tk1_o P (by omega) (by omega)]
theorem sealF_ev {P : Nat → Nat} (h : ¬ (P 15 < P 6 ∨ P 14 = 40)) : sealF P 14 = P 14 + 1 ∧ sealF P 15 = 0 ∧ (∀ k, sealF P (126 + 3 * k) = up (fun k => P (126 + 3 * k)) (P 14) (P 15) k) ∧ (∀ k, sealF P (126 + 3 * k + 1) = up (fun k => P (126 + 3 * k + 1)) (P 14) (toldF P) k) ∧ ∀ k, sealF P (126 + 3 * k + 2) = up (fun k => P (126 + 3 * k + 2)) (P 14) (P 16) k := by
  unfold sealF
  rw [if_neg h]
  refine ⟨by rw [up_n _ _ (by decide), up_s], by rw [up_s], fun k => ?_, fun k => ?_, fun k => ?_⟩
  · rw [up_n _ _ (by omega), up_n _ _ (by omega), up_n _ _ (by omega), up_n _ _ (by omega)]
    by_cases e : k = P 14
    · subst e; rw [up_s, up_s]
    · rw [up_n _ _ (by omega), up_n _ _ e]
  · rw [up_n _ _ (by omega), up_n _ _ (by omega), up_n _ _ (by omega)]
    by_cases e : k = P 14
    · subst e; rw [up_s, up_s]
    · rw [up_n _ _ (by omega), up_n _ _ (by omega), up_n _ _ e]
  · rw [up_n _ _ (by omega), up_n _ _ (by omega)]
    by_cases e : k = P 14
    · subst e; rw [up_s, up_s]
    · rw [up_n _ _ (by omega), up_n _ _ (by omega), up_n _ _ (by omega), up_n _ _ e]
theorem seal_conv {G : KG} {pa : Nat → Nat → Nat} {Q Z lo : Nat → Nat} {w1 t r u : Nat} (h8 : Q 8 ≤ 20) (h14 : Q 14 ≤ 40) (hZ : Z = sealF (up Q 16 t)) (ht : toldF Z = toldF Q) (hw : w1 = watF Z) (hr : r = Z 17) (hu : u = Z 18) : eqW (plH G (pa 0) (pa 1) (pa 2) (pa 3) (fun k => Q k) (fun k => Q (19 + k)) (Q 9) (Q 10) (Q 11) (Q 12) (Q 13) (toldF Q) w1 t r u ++ (coreW G (pa 1) (Q 8) (top Q) (kdP Q) (lnP Q) (dnP Q) (moP Q) lo ++ (linesW G (pa 2) (fun k => Q (26 + 5 * k)) (fun k => Q (26 + 5 * k + 1)) (fun k => Q (26 + 5 * k + 2)) (fun k => Q (26 + 5 * k + 3)) (fun k => Q (26 + 5 * k + 4)) ++ (vialsW G (pa 3) (if Q 15 < Q 6 ∨ 40 ≤ Q 14 then Q 14 else Q 14 + 1) (if Q 15 < Q 6 ∨ 40 ≤ Q 14 then Q 15 else 0) (if Q 15 < Q 6 ∨ 40 ≤ Q 14 then (fun k => Q (126 + 3 * k)) else up (fun k => Q (126 + 3 * k)) (Q 14) (Q 15)) (if Q 15 < Q 6 ∨ 40 ≤ Q 14 then (fun k => Q (126 + 3 * k + 1)) else up (fun k => Q (126 + 3 * k + 1)) (Q 14) (toldF Q)) (if Q 15 < Q 6 ∨ 40 ≤ Q 14 then (fun k => Q (126 + 3 * k + 2)) else up (fun k => Q (126 + 3 * k + 2)) (Q 14) (t)))))) (plH G (pa 0) (pa 1) (pa 2) (pa 3) (fun k => Z k) (fun k => Z (19 + k)) (Z 9) (Z 10) (Z 11) (Z 12) (Z 13) (toldF Z) (watF Z) (Z 16) (Z 17) (Z 18) ++ (coreW G (pa 1) (Z 8) (top Z) (kdP Z) (lnP Z) (dnP Z) (moP Z) lo ++ (linesW G (pa 2) (fun k => Z (26 + 5 * k)) (fun k => Z (26 + 5 * k + 1)) (fun k => Z (26 + 5 * k + 2)) (fun k => Z (26 + 5 * k + 3)) (fun k => Z (26 + 5 * k + 4)) ++ (vialsW G (pa 3) (Z 14) (Z 15) (fun k => Z (126 + 3 * k)) (fun k => Z (126 + 3 * k + 1)) (fun k => Z (126 + 3 * k + 2)))))) := by
  have o : ∀ k, k < 126 → k ≠ 14 → k ≠ 15 → k ≠ 16 → Q k = Z k := fun k h1 h2 h3 h4 => by rw [hZ, sealF_o _ h1 h2 h3, up_n _ _ h4]
  have z16 : t = Z 16 := by rw [hZ, sealF_o _ (by decide) (by decide) (by decide), up_s]
  have htop : top Q = top Z := by
    show low (lnP Q) (Q 8) = low (lnP Z) (Z 8)
    rw [← o 8 (by decide) (by decide) (by decide) (by decide)]
    exact low_congr (fun k hk => o _ (by omega) (by omega) (by omega) (by omega))
  refine eqW.app (plH_eq (o 9 (by decide) (by decide) (by decide) (by decide)) (o 10 (by decide) (by decide) (by decide) (by decide)) (o 11 (by decide) (by decide) (by decide) (by decide)) (o 12 (by decide) (by decide) (by decide) (by decide)) (o 13 (by decide) (by decide) (by decide) (by decide)) ht.symm hw z16 hr hu (fun k hk => o k (by omega) (by omega) (by omega) (by omega)) (fun k hk => o (19 + k) (by omega) (by omega) (by omega) (by omega)))
    (eqW.app (coreW_eq (o 8 (by decide) (by decide) (by decide) (by decide)) htop (fun k hk => o (46 + 4 * k) (by omega) (by omega) (by omega) (by omega)) (fun k hk => o (46 + 4 * k + 1) (by omega) (by omega) (by omega) (by omega)) (fun k hk => o (46 + 4 * k + 2) (by omega) (by omega) (by omega) (by omega)) (fun k hk => o (46 + 4 * k + 3) (by omega) (by omega) (by omega) (by omega)) (fun _ _ => rfl))
    (eqW.app (linesW_eq (fun k hk => o (26 + 5 * k) (by omega) (by omega) (by omega) (by omega)) (fun k hk => o (26 + 5 * k + 1) (by omega) (by omega) (by omega) (by omega)) (fun k hk => o (26 + 5 * k + 2) (by omega) (by omega) (by omega) (by omega)) (fun k hk => o (26 + 5 * k + 3) (by omega) (by omega) (by omega) (by omega)) (fun k hk => o (26 + 5 * k + 4) (by omega) (by omega) (by omega) (by omega))) ?_))
  have e15 : up Q 16 t 15 = Q 15 := up_n _ _ (by decide)
  have e14 : up Q 16 t 14 = Q 14 := up_n _ _ (by decide)
  have e6 : up Q 16 t 6 = Q 6 := up_n _ _ (by decide)
  have ev : ∀ k, up Q 16 t (126 + k) = Q (126 + k) := fun k => up_n _ _ (by omega)
  by_cases hc : Q 15 < Q 6 ∨ 40 ≤ Q 14
  · have hz : Z = up Q 16 t := by
      rw [hZ]
      unfold sealF
      rw [e15, e14, e6, if_pos (by omega)]
    simp only [if_pos hc]
    rw [hz]
    exact vialsW_eq e14.symm e15.symm (fun k hk => (ev (3 * k)).symm) (fun k hk => (ev (3 * k + 1)).symm) (fun k hk => (ev (3 * k + 2)).symm)
  · have hn : ¬ (up Q 16 t 15 < up Q 16 t 6 ∨ up Q 16 t 14 = 40) := by rw [e15, e14, e6]; omega
    obtain ⟨s1, s2, s3, s4, s5⟩ := sealF_ev hn
    rw [← hZ] at s1 s2 s3 s4 s5
    have et : toldF (up Q 16 t) = toldF Q := toldF_cg h8 (fun k hk => up_n _ _ (by omega))
    simp only [if_neg hc]
    refine vialsW_eq (by rw [s1, e14]) s2.symm (fun k hk => ?_) (fun k hk => ?_) (fun k hk => ?_)
    · rw [s3, e14, e15]
      by_cases e : k = Q 14
      · subst e; rw [up_s, up_s]
      · rw [up_n _ _ e, up_n _ _ e, ev]
    · rw [s4, e14, et]
      by_cases e : k = Q 14
      · subst e; rw [up_s, up_s]
      · rw [up_n _ _ e, up_n _ _ e]; exact (ev (3 * k + 1)).symm
    · rw [s5, e14]
      by_cases e : k = Q 14
      · subst e; rw [up_s, up_s, up_s]
      · rw [up_n _ _ e, up_n _ _ e]; exact (ev (3 * k + 2)).symm
set_option maxRecDepth 100000 in
set_option maxHeartbeats 4000000 in
theorem c_X3_tick (l : Launch) (G : KG) (pa : Nat → Nat → Nat) (P lo : Nat → Nat) (hI : Inv P) (h16 : P 16 < 20000) (hlk : LoOk P lo) : MetV l yX3_tick wsX3_tick 4 0 0 G (plH G (pa 0) (pa 1) (pa 2) (pa 3) (fun k => P k) (fun k => P (19 + k)) (P 9) (P 10) (P 11) (P 12) (P 13) (toldF P) (watF P) (P 16) (P 17) (P 18) ++ (coreW G (pa 1) (P 8) (top P) (kdP P) (lnP P) (dnP P) (moP P) lo ++ (linesW G (pa 2) (fun k => P (26 + 5 * k)) (fun k => P (26 + 5 * k + 1)) (fun k => P (26 + 5 * k + 2)) (fun k => P (26 + 5 * k + 3)) (fun k => P (26 + 5 * k + 4)) ++ (vialsW G (pa 3) (P 14) (P 15) (fun k => P (126 + 3 * k)) (fun k => P (126 + 3 * k + 1)) (fun k => P (126 + 3 * k + 2)))))) [.ref ((pa 0) 0)] (fun v => v = plH G (pa 0) (pa 1) (pa 2) (pa 3) (fun k => (tickF P) k) (fun k => (tickF P) (19 + k)) ((tickF P) 9) ((tickF P) 10) ((tickF P) 11) ((tickF P) 12) ((tickF P) 13) (toldF (tickF P)) (watF (tickF P)) (tickF P 16) (tickF P 17) (tickF P 18) ++ (coreW G (pa 1) ((tickF P) 8) (top (tickF P)) (kdP (tickF P)) (lnP (tickF P)) (dnP (tickF P)) (moP (tickF P)) lo ++ (linesW G (pa 2) (fun k => (tickF P) (26 + 5 * k)) (fun k => (tickF P) (26 + 5 * k + 1)) (fun k => (tickF P) (26 + 5 * k + 2)) (fun k => (tickF P) (26 + 5 * k + 3)) (fun k => (tickF P) (26 + 5 * k + 4)) ++ (vialsW G (pa 3) ((tickF P) 14) ((tickF P) 15) (fun k => (tickF P) (126 + 3 * k)) (fun k => (tickF P) (126 + 3 * k + 1)) (fun k => (tickF P) (126 + 3 * k + 2)))))) := by
  refine MetV.by (cc := cX3_tick) (nL := 2) (ret := none) (by decide +kernel) rfl (Nat.le_of_ble_eq_true rfl) ?_
  intro p e s m args below meth c F hname w ls hl
  have hl : lv_has ls 2 [(0, .ref ((pa 0) 0))] := hl
  have hts := F.ts
  have iX3 : ∀ w ∈ wsX30, w ∈ wsX3_tick := by decide +kernel
  have f26 := hts (.fieldLink RX3 26 "CoreMelter$Plate" "vials" "LCoreMelter$Vials;") (by decide +kernel)
  have f30 := hts (.fieldLink RX3 30 "CoreMelter$Plate" "settings" "[I") (by decide +kernel)
  have f72 := hts (.fieldLink RX3 72 "CoreMelter$Plate" "told" "I") (by decide +kernel)
  have f78 := hts (.fieldLink RX3 78 "CoreMelter$Plate" "ticks" "I") (by decide +kernel)
  have f81 := hts (.fieldLink RX3 81 "CoreMelter$Plate" "reason" "I") (by decide +kernel)
  have f84 := hts (.fieldLink RX3 84 "CoreMelter$Plate" "stopped" "I") (by decide +kernel)
  have hD := hI.d
  have hd1 := tk1_d hD
  have hd2 := (tk2_d hD).1
  have hd3 := (tk3_d hD).1
  have h8 := hD.1.1
  obtain ⟨b9, b11, b20, b12, b13, b25, b23⟩ := hD.bnd
  obtain ⟨d9, d11, d20, d12, d13, d25, d23⟩ := hd3.bnd
  have hc := hI.2.2.2.2.2.2
  obtain ⟨hc1, hc2, hc3, hc4⟩ := hc
  have hrl := reasonF_le P
  obtain ⟨t0, t1, t2, t3, t4, t5, t6, t7, t8, t9, t10, t11, t12, t13⟩ := hd3.2.1
  refine lv_aload_n F.1 F.2.1 dX3_tick_0 rfl (lv_at hl 0 rfl) ?_
  refine lv_dup F.1 F.2.1 dX3_tick_1 rfl ?_
  refine r_get F w 0 12 iX3 f78 rfl rfl rfl (by decide) rfl dX3_tick_2 ?_
  refine lv_iconst (v := nI 1) F.1 F.2.1 dX3_tick_5 (by decide) ?_
  refine r_iadd F dX3_tick_6 ?_
  refine r_put (ws' := plH G (pa 0) (pa 1) (pa 2) (pa 3) (fun k => P k) (fun k => P (19 + k)) (P 9) (P 10) (P 11) (P 12) (P 13) (toldF P) (watF P) ((P 16) + 1) (P 17) (P 18) ++ (coreW G (pa 1) (P 8) (top P) (kdP P) (lnP P) (dnP P) (moP P) lo ++ (linesW G (pa 2) (fun k => P (26 + 5 * k)) (fun k => P (26 + 5 * k + 1)) (fun k => P (26 + 5 * k + 2)) (fun k => P (26 + 5 * k + 3)) (fun k => P (26 + 5 * k + 4)) ++ (vialsW G (pa 3) (P 14) (P 15) (fun k => P (126 + 3 * k)) (fun k => P (126 + 3 * k + 1)) (fun k => P (126 + 3 * k + 2)))))) F w 0 12 iX3 okX3 f78 rfl rfl rfl (by decide) (by decide +kernel) (Nat.le_of_ble_eq_true rfl) dX3_tick_7 rfl (fun H locs w => ?_)
  refine lv_aload_n F.1 F.2.1 dX3_tick_10 rfl (lv_at hl 0 rfl) ?_
  refine lv_aload_n F.1 F.2.1 dX3_tick_11 rfl (lv_at hl 0 rfl) ?_
  refine r_callVI (rest := [.ref ((pa 0) 0)]) F w (c_X3_reasonToStop l G pa P lo (toldF P) (watF P) ((P 16) + 1) (P 17) (P 18) hD) gX3_tick_X3_reasonToStop [0, 1, 2, 3, 4, 5, 6, 7, 8, 9, 10, 11, 12, 13, 14] [15, 16, 17, 18] (nA0 := 0) rfl (by decide +kernel) rfl ⟨Nat.le_of_ble_eq_true rfl, Nat.le_of_ble_eq_true rfl⟩ ⟨Nat.le_of_ble_eq_true rfl, Nat.le_of_ble_eq_true rfl⟩ rfl rfl rfl rfl rfl rfl rfl hl rfl (Nat.le_of_ble_eq_true rfl) dX3_tick_12 (fun r_12 w1 H locs hp w => ?_)
  obtain ⟨rfl, rfl⟩ := hp
  have w := w.sub (ws' := plH G (pa 0) (pa 1) (pa 2) (pa 3) (fun k => P k) (fun k => P (19 + k)) (P 9) (P 10) (P 11) (P 12) (P 13) (toldF P) (watF P) ((P 16) + 1) (P 17) (P 18) ++ (coreW G (pa 1) (P 8) (top P) (kdP P) (lnP P) (dnP P) (moP P) lo ++ (linesW G (pa 2) (fun k => P (26 + 5 * k)) (fun k => P (26 + 5 * k + 1)) (fun k => P (26 + 5 * k + 2)) (fun k => P (26 + 5 * k + 3)) (fun k => P (26 + 5 * k + 4)) ++ (vialsW G (pa 3) (P 14) (P 15) (fun k => P (126 + 3 * k)) (fun k => P (126 + 3 * k + 1)) (fun k => P (126 + 3 * k + 2)))))) [4, 5, 6, 7, 8, 9, 10, 11, 12, 13, 14, 15, 16, 17, 18, 0, 1, 2, 3] (by decide) rfl
  refine r_put (ws' := plH G (pa 0) (pa 1) (pa 2) (pa 3) (fun k => P k) (fun k => P (19 + k)) (P 9) (P 10) (P 11) (P 12) (P 13) (toldF P) (watF P) ((P 16) + 1) (reasonF P) (P 18) ++ (coreW G (pa 1) (P 8) (top P) (kdP P) (lnP P) (dnP P) (moP P) lo ++ (linesW G (pa 2) (fun k => P (26 + 5 * k)) (fun k => P (26 + 5 * k + 1)) (fun k => P (26 + 5 * k + 2)) (fun k => P (26 + 5 * k + 3)) (fun k => P (26 + 5 * k + 4)) ++ (vialsW G (pa 3) (P 14) (P 15) (fun k => P (126 + 3 * k)) (fun k => P (126 + 3 * k + 1)) (fun k => P (126 + 3 * k + 2)))))) F w 0 13 iX3 okX3 f81 rfl rfl rfl (by decide) (by decide +kernel) (Nat.le_of_ble_eq_true rfl) dX3_tick_15 rfl (fun H locs w => ?_)
  have L42 :  ∀ (H : Heap) (locs : List Loc), Wd G s (va_A (plH G (pa 0) (pa 1) (pa 2) (pa 3) (fun k => P k) (fun k => P (19 + k)) (P 9) (P 10) (P 11) (P 12) (P 13) (toldF P) (watF P) (P 16) (P 17) (P 18) ++ (coreW G (pa 1) (P 8) (top P) (kdP P) (lnP P) (dnP P) (moP P) lo ++ (linesW G (pa 2) (fun k => P (26 + 5 * k)) (fun k => P (26 + 5 * k + 1)) (fun k => P (26 + 5 * k + 2)) (fun k => P (26 + 5 * k + 3)) (fun k => P (26 + 5 * k + 4)) ++ (vialsW G (pa 3) (P 14) (P 15) (fun k => P (126 + 3 * k)) (fun k => P (126 + 3 * k + 1)) (fun k => P (126 + 3 * k + 2)))))) s.heap.size) (plH G (pa 0) (pa 1) (pa 2) (pa 3) (fun k => (tk2 P) k) (fun k => (tk2 P) (19 + k)) ((tk2 P) 9) ((tk2 P) 10) ((tk2 P) 11) ((tk2 P) 12) ((tk2 P) 13) (toldF P) (watF P) (P 16 + 1) (reasonF P) (tk1 P 18) ++ (coreW G (pa 1) ((tk2 P) 8) (top (tk2 P)) (kdP (tk2 P)) (lnP (tk2 P)) (dnP (tk2 P)) (moP (tk2 P)) lo ++ (linesW G (pa 2) (fun k => (tk2 P) (26 + 5 * k)) (fun k => (tk2 P) (26 + 5 * k + 1)) (fun k => (tk2 P) (26 + 5 * k + 2)) (fun k => (tk2 P) (26 + 5 * k + 3)) (fun k => (tk2 P) (26 + 5 * k + 4)) ++ (vialsW G (pa 3) ((tk2 P) 14) ((tk2 P) 15) (fun k => (tk2 P) (126 + 3 * k)) (fun k => (tk2 P) (126 + 3 * k + 1)) (fun k => (tk2 P) (126 + 3 * k + 2)))))) H locs → ∀ ls : Array Slot, lv_has ls 2 [(0, .ref ((pa 0) 0))] → W p l e (rmK 4 0 0) s m args below meth c H locs 0 0 (MQ below (QV G (plH G (pa 0) (pa 1) (pa 2) (pa 3) (fun k => P k) (fun k => P (19 + k)) (P 9) (P 10) (P 11) (P 12) (P 13) (toldF P) (watF P) (P 16) (P 17) (P 18) ++ (coreW G (pa 1) (P 8) (top P) (kdP P) (lnP P) (dnP P) (moP P) lo ++ (linesW G (pa 2) (fun k => P (26 + 5 * k)) (fun k => P (26 + 5 * k + 1)) (fun k => P (26 + 5 * k + 2)) (fun k => P (26 + 5 * k + 3)) (fun k => P (26 + 5 * k + 4)) ++ (vialsW G (pa 3) (P 14) (P 15) (fun k => P (126 + 3 * k)) (fun k => P (126 + 3 * k + 1)) (fun k => P (126 + 3 * k + 2)))))) s.heap.size (fun v => v = plH G (pa 0) (pa 1) (pa 2) (pa 3) (fun k => (tickF P) k) (fun k => (tickF P) (19 + k)) ((tickF P) 9) ((tickF P) 10) ((tickF P) 11) ((tickF P) 12) ((tickF P) 13) (toldF (tickF P)) (watF (tickF P)) (tickF P 16) (tickF P 17) (tickF P 18) ++ (coreW G (pa 1) ((tickF P) 8) (top (tickF P)) (kdP (tickF P)) (lnP (tickF P)) (dnP (tickF P)) (moP (tickF P)) lo ++ (linesW G (pa 2) (fun k => (tickF P) (26 + 5 * k)) (fun k => (tickF P) (26 + 5 * k + 1)) (fun k => (tickF P) (26 + 5 * k + 2)) (fun k => (tickF P) (26 + 5 * k + 3)) (fun k => (tickF P) (26 + 5 * k + 4)) ++ (vialsW G (pa 3) ((tickF P) 14) ((tickF P) 15) (fun k => (tickF P) (126 + 3 * k)) (fun k => (tickF P) (126 + 3 * k + 1)) (fun k => (tickF P) (126 + 3 * k + 2))))))) args s 0 0 (va_A (plH G (pa 0) (pa 1) (pa 2) (pa 3) (fun k => P k) (fun k => P (19 + k)) (P 9) (P 10) (P 11) (P 12) (P 13) (toldF P) (watF P) (P 16) (P 17) (P 18) ++ (coreW G (pa 1) (P 8) (top P) (kdP P) (lnP P) (dnP P) (moP P) lo ++ (linesW G (pa 2) (fun k => P (26 + 5 * k)) (fun k => P (26 + 5 * k + 1)) (fun k => P (26 + 5 * k + 2)) (fun k => P (26 + 5 * k + 3)) (fun k => P (26 + 5 * k + 4)) ++ (vialsW G (pa 3) (P 14) (P 15) (fun k => P (126 + 3 * k)) (fun k => P (126 + 3 * k + 1)) (fun k => P (126 + 3 * k + 2)))))) s.heap.size)) (F0 m 42 ls []) := by
    intro  H locs w ls hl
    refine lv_iconst (v := nI 0) F.1 F.2.1 dX3_tick_42 (by decide) ?_
    refine lv_istore_n (lv' := [(1, .int (nI 0)), (0, .ref ((pa 0) 0))]) F.1 F.2.1 dX3_tick_43 rfl hl (by decide) rfl (fun ls hl => ?_)
    have L44 : ∀ n : Nat, ∀ (q : Nat), (q ≤ 4) → 4 - q < n → ∀ (H : Heap) (locs : List Loc), Wd G s (va_A (plH G (pa 0) (pa 1) (pa 2) (pa 3) (fun k => P k) (fun k => P (19 + k)) (P 9) (P 10) (P 11) (P 12) (P 13) (toldF P) (watF P) (P 16) (P 17) (P 18) ++ (coreW G (pa 1) (P 8) (top P) (kdP P) (lnP P) (dnP P) (moP P) lo ++ (linesW G (pa 2) (fun k => P (26 + 5 * k)) (fun k => P (26 + 5 * k + 1)) (fun k => P (26 + 5 * k + 2)) (fun k => P (26 + 5 * k + 3)) (fun k => P (26 + 5 * k + 4)) ++ (vialsW G (pa 3) (P 14) (P 15) (fun k => P (126 + 3 * k)) (fun k => P (126 + 3 * k + 1)) (fun k => P (126 + 3 * k + 2)))))) s.heap.size) (plH G (pa 0) (pa 1) (pa 2) (pa 3) (fun k => (drs (tk2 P) q) k) (fun k => (drs (tk2 P) q) (19 + k)) ((drs (tk2 P) q) 9) ((drs (tk2 P) q) 10) ((drs (tk2 P) q) 11) ((drs (tk2 P) q) 12) ((drs (tk2 P) q) 13) (toldF P) (watF P) (P 16 + 1) (reasonF P) (tk1 P 18) ++ (coreW G (pa 1) ((drs (tk2 P) q) 8) (top (drs (tk2 P) q)) (kdP (drs (tk2 P) q)) (lnP (drs (tk2 P) q)) (dnP (drs (tk2 P) q)) (moP (drs (tk2 P) q)) lo ++ (linesW G (pa 2) (fun k => (drs (tk2 P) q) (26 + 5 * k)) (fun k => (drs (tk2 P) q) (26 + 5 * k + 1)) (fun k => (drs (tk2 P) q) (26 + 5 * k + 2)) (fun k => (drs (tk2 P) q) (26 + 5 * k + 3)) (fun k => (drs (tk2 P) q) (26 + 5 * k + 4)) ++ (vialsW G (pa 3) ((drs (tk2 P) q) 14) ((drs (tk2 P) q) 15) (fun k => (drs (tk2 P) q) (126 + 3 * k)) (fun k => (drs (tk2 P) q) (126 + 3 * k + 1)) (fun k => (drs (tk2 P) q) (126 + 3 * k + 2)))))) H locs → ∀ ls : Array Slot, lv_has ls 2 [(0, .ref ((pa 0) 0)), (1, .int (nI q))] → W p l e (rmK 4 0 0) s m args below meth c H locs 0 0 (MQ below (QV G (plH G (pa 0) (pa 1) (pa 2) (pa 3) (fun k => P k) (fun k => P (19 + k)) (P 9) (P 10) (P 11) (P 12) (P 13) (toldF P) (watF P) (P 16) (P 17) (P 18) ++ (coreW G (pa 1) (P 8) (top P) (kdP P) (lnP P) (dnP P) (moP P) lo ++ (linesW G (pa 2) (fun k => P (26 + 5 * k)) (fun k => P (26 + 5 * k + 1)) (fun k => P (26 + 5 * k + 2)) (fun k => P (26 + 5 * k + 3)) (fun k => P (26 + 5 * k + 4)) ++ (vialsW G (pa 3) (P 14) (P 15) (fun k => P (126 + 3 * k)) (fun k => P (126 + 3 * k + 1)) (fun k => P (126 + 3 * k + 2)))))) s.heap.size (fun v => v = plH G (pa 0) (pa 1) (pa 2) (pa 3) (fun k => (tickF P) k) (fun k => (tickF P) (19 + k)) ((tickF P) 9) ((tickF P) 10) ((tickF P) 11) ((tickF P) 12) ((tickF P) 13) (toldF (tickF P)) (watF (tickF P)) (tickF P 16) (tickF P 17) (tickF P 18) ++ (coreW G (pa 1) ((tickF P) 8) (top (tickF P)) (kdP (tickF P)) (lnP (tickF P)) (dnP (tickF P)) (moP (tickF P)) lo ++ (linesW G (pa 2) (fun k => (tickF P) (26 + 5 * k)) (fun k => (tickF P) (26 + 5 * k + 1)) (fun k => (tickF P) (26 + 5 * k + 2)) (fun k => (tickF P) (26 + 5 * k + 3)) (fun k => (tickF P) (26 + 5 * k + 4)) ++ (vialsW G (pa 3) ((tickF P) 14) ((tickF P) 15) (fun k => (tickF P) (126 + 3 * k)) (fun k => (tickF P) (126 + 3 * k + 1)) (fun k => (tickF P) (126 + 3 * k + 2))))))) args s 0 0 (va_A (plH G (pa 0) (pa 1) (pa 2) (pa 3) (fun k => P k) (fun k => P (19 + k)) (P 9) (P 10) (P 11) (P 12) (P 13) (toldF P) (watF P) (P 16) (P 17) (P 18) ++ (coreW G (pa 1) (P 8) (top P) (kdP P) (lnP P) (dnP P) (moP P) lo ++ (linesW G (pa 2) (fun k => P (26 + 5 * k)) (fun k => P (26 + 5 * k + 1)) (fun k => P (26 + 5 * k + 2)) (fun k => P (26 + 5 * k + 3)) (fun k => P (26 + 5 * k + 4)) ++ (vialsW G (pa 3) (P 14) (P 15) (fun k => P (126 + 3 * k)) (fun k => P (126 + 3 * k + 1)) (fun k => P (126 + 3 * k + 2)))))) s.heap.size)) (F0 m 44 ls []) := by
      intro n
      induction n with
      | zero => intro q h1 hm; exact absurd hm (Nat.not_lt_zero _)
      | succ n ih44 =>
        intro q h1 hm44 H locs w ls hl
        refine lv_iload_n F.1 F.2.1 dX3_tick_44 rfl (lv_at hl 1 rfl) ?_
        refine lv_iconst (v := nI 4) F.1 F.2.1 dX3_tick_45 (by decide) ?_
        refine r_cge (tgt := 60) F dX3_tick_46 (by decide) (by omega) (by omega) (fun c46 => ?_) (fun c46 => ?_)
        · skip
          have w := w.is (ws' := plH G (pa 0) (pa 1) (pa 2) (pa 3) (fun k => (drs (tk2 P) 4) k) (fun k => (drs (tk2 P) 4) (19 + k)) ((drs (tk2 P) 4) 9) ((drs (tk2 P) 4) 10) ((drs (tk2 P) 4) 11) ((drs (tk2 P) 4) 12) ((drs (tk2 P) 4) 13) (toldF P) (watF P) (P 16 + 1) (reasonF P) (tk1 P 18) ++ (coreW G (pa 1) ((drs (tk2 P) 4) 8) (top (drs (tk2 P) 4)) (kdP (drs (tk2 P) 4)) (lnP (drs (tk2 P) 4)) (dnP (drs (tk2 P) 4)) (moP (drs (tk2 P) 4)) lo ++ (linesW G (pa 2) (fun k => (drs (tk2 P) 4) (26 + 5 * k)) (fun k => (drs (tk2 P) 4) (26 + 5 * k + 1)) (fun k => (drs (tk2 P) 4) (26 + 5 * k + 2)) (fun k => (drs (tk2 P) 4) (26 + 5 * k + 3)) (fun k => (drs (tk2 P) 4) (26 + 5 * k + 4)) ++ (vialsW G (pa 3) ((drs (tk2 P) 4) 14) ((drs (tk2 P) 4) 15) (fun k => (drs (tk2 P) 4) (126 + 3 * k)) (fun k => (drs (tk2 P) 4) (126 + 3 * k + 1)) (fun k => (drs (tk2 P) 4) (126 + 3 * k + 2)))))) (by rw [show q = 4 by omega])
          refine lv_aload_n F.1 F.2.1 dX3_tick_60 rfl (lv_at hl 0 rfl) ?_
          have hlk3 : LoOk (drs (tk2 P) 4) lo := fun k hk => by
            rw [tk3_geo hD (by omega)] at hk
            rw [hlk k hk]
            exact low_congr (fun j hj => (tk3_geo hD (by omega)).symm)
          have e3w : wat (lnP (drs (tk2 P) 4)) (dnP (drs (tk2 P) 4)) (toldF P) (drs (tk2 P) 4 8) = watF P := by
            rw [tk3_geo hD (by omega)]
            exact wat_cg (fun k hk => ⟨tk3_geo hD (by omega), tk3_geo hD (by omega)⟩)
          have hw3 : wat (lnP (drs (tk2 P) 4)) (dnP (drs (tk2 P) 4)) (toldF P) (drs (tk2 P) 4 8) ≤ drs (tk2 P) 4 20 + drs (tk2 P) 4 21 := by rw [e3w]; exact Nat.le_trans (toldF_wat hD.2.2.1) (tk3_cnt hD)
          have w := w.is (ws' := plH G (pa 0) (pa 1) (pa 2) (pa 3) (fun k => (drs (tk2 P) 4) k) (fun k => (drs (tk2 P) 4) (19 + k)) ((drs (tk2 P) 4) 9) ((drs (tk2 P) 4) 10) ((drs (tk2 P) 4) 11) ((drs (tk2 P) 4) 12) ((drs (tk2 P) 4) 13) (toldF P) (wat (lnP (drs (tk2 P) 4)) (dnP (drs (tk2 P) 4)) (toldF P) (drs (tk2 P) 4 8)) (P 16 + 1) (reasonF P) (tk1 P 18) ++ (coreW G (pa 1) ((drs (tk2 P) 4) 8) (top (drs (tk2 P) 4)) (kdP (drs (tk2 P) 4)) (lnP (drs (tk2 P) 4)) (dnP (drs (tk2 P) 4)) (moP (drs (tk2 P) 4)) lo ++ (linesW G (pa 2) (fun k => (drs (tk2 P) 4) (26 + 5 * k)) (fun k => (drs (tk2 P) 4) (26 + 5 * k + 1)) (fun k => (drs (tk2 P) 4) (26 + 5 * k + 2)) (fun k => (drs (tk2 P) 4) (26 + 5 * k + 3)) (fun k => (drs (tk2 P) 4) (26 + 5 * k + 4)) ++ (vialsW G (pa 3) ((drs (tk2 P) 4) 14) ((drs (tk2 P) 4) 15) (fun k => (drs (tk2 P) 4) (126 + 3 * k)) (fun k => (drs (tk2 P) 4) (126 + 3 * k + 1)) (fun k => (drs (tk2 P) 4) (126 + 3 * k + 2)))))) (by rw [e3w])
          refine r_callVV (rest := []) F w (c_X3_raiseTold l G (pa 0) (pa 1) (pa 2) (pa 3) (fun k => (drs (tk2 P) 4) k) (fun k => (drs (tk2 P) 4) (19 + k)) ((drs (tk2 P) 4) 9) ((drs (tk2 P) 4) 10) ((drs (tk2 P) 4) 11) ((drs (tk2 P) 4) 12) ((drs (tk2 P) 4) 13) (toldF P) (P 16 + 1) (reasonF P) (tk1 P 18) ((drs (tk2 P) 4) 8) (top (drs (tk2 P) 4)) (kdP (drs (tk2 P) 4)) (lnP (drs (tk2 P) 4)) (dnP (drs (tk2 P) 4)) (moP (drs (tk2 P) 4)) lo (core_ok hd3.1 hlk3) hd3.2.2.1.1 (Nat.le_trans (toldF_le P) (tk3_9 hD)) hw3 (by show (drs (tk2 P) 4) 20 + (drs (tk2 P) 4) 21 ≤ 1000000; omega)) gX3_tick_X3_raiseTold [0, 1, 2, 3, 4, 5, 6, 7, 8] [9, 10, 11, 12, 13, 14, 15, 16, 17, 18] (nA0 := 0) rfl (by decide +kernel) rfl ⟨Nat.le_of_ble_eq_true rfl, Nat.le_of_ble_eq_true rfl⟩ ⟨Nat.le_of_ble_eq_true rfl, Nat.le_of_ble_eq_true rfl⟩ rfl rfl rfl rfl rfl rfl rfl hl rfl (Nat.le_of_ble_eq_true rfl) dX3_tick_61 (fun w1 H locs hp w => ?_)
          obtain rfl := hp
          have w := w.sub (ws' := plH G (pa 0) (pa 1) (pa 2) (pa 3) (fun k => (drs (tk2 P) 4) k) (fun k => (drs (tk2 P) 4) (19 + k)) ((drs (tk2 P) 4) 9) ((drs (tk2 P) 4) 10) ((drs (tk2 P) 4) 11) ((drs (tk2 P) 4) 12) ((drs (tk2 P) 4) 13) (min (dep (lnP (drs (tk2 P) 4)) (dnP (drs (tk2 P) 4)) ((drs (tk2 P) 4) (19 + 1) + (drs (tk2 P) 4) (19 + 2)) ((drs (tk2 P) 4) 8)) ((drs (tk2 P) 4) 9)) (wat (lnP (drs (tk2 P) 4)) (dnP (drs (tk2 P) 4)) (min (dep (lnP (drs (tk2 P) 4)) (dnP (drs (tk2 P) 4)) ((drs (tk2 P) 4) (19 + 1) + (drs (tk2 P) 4) (19 + 2)) ((drs (tk2 P) 4) 8)) ((drs (tk2 P) 4) 9)) ((drs (tk2 P) 4) 8)) (P 16 + 1) (reasonF P) (tk1 P 18) ++ (coreW G (pa 1) ((drs (tk2 P) 4) 8) (top (drs (tk2 P) 4)) (kdP (drs (tk2 P) 4)) (lnP (drs (tk2 P) 4)) (dnP (drs (tk2 P) 4)) (moP (drs (tk2 P) 4)) lo ++ (linesW G (pa 2) (fun k => (drs (tk2 P) 4) (26 + 5 * k)) (fun k => (drs (tk2 P) 4) (26 + 5 * k + 1)) (fun k => (drs (tk2 P) 4) (26 + 5 * k + 2)) (fun k => (drs (tk2 P) 4) (26 + 5 * k + 3)) (fun k => (drs (tk2 P) 4) (26 + 5 * k + 4)) ++ (vialsW G (pa 3) ((drs (tk2 P) 4) 14) ((drs (tk2 P) 4) 15) (fun k => (drs (tk2 P) 4) (126 + 3 * k)) (fun k => (drs (tk2 P) 4) (126 + 3 * k + 1)) (fun k => (drs (tk2 P) 4) (126 + 3 * k + 2)))))) [10, 11, 12, 13, 14, 15, 16, 17, 18, 0, 1, 2, 3, 4, 5, 6, 7, 8, 9] (by decide) rfl
          refine lv_aload_n F.1 F.2.1 dX3_tick_64 rfl (lv_at hl 0 rfl) ?_
          refine r_get F w 0 2 iX3 f26 rfl rfl rfl (by decide) rfl dX3_tick_65 ?_
          refine lv_aload_n F.1 F.2.1 dX3_tick_68 rfl (lv_at hl 0 rfl) ?_
          refine r_get F w 0 3 iX3 f30 rfl rfl rfl (by decide) rfl dX3_tick_69 ?_
          refine lv_bipush (v := nI 6) F.1 F.2.1 dX3_tick_72 (by decide) ?_
          refine r_iald F w 1 rfl (by omega) (by decide) dX3_tick_74 ?_
          refine lv_aload_n F.1 F.2.1 dX3_tick_75 rfl (lv_at hl 0 rfl) ?_
          refine r_get F w 0 10 iX3 f72 rfl rfl rfl (by decide) rfl dX3_tick_76 ?_
          refine lv_aload_n F.1 F.2.1 dX3_tick_79 rfl (lv_at hl 0 rfl) ?_
          refine r_get F w 0 12 iX3 f78 rfl rfl rfl (by decide) rfl dX3_tick_80 ?_
          refine r_callVV (rest := []) F w (c_X6_sealIfFull l G (pa 3) ((drs (tk2 P) 4) 14) ((drs (tk2 P) 4) 15) (fun k => (drs (tk2 P) 4) (126 + 3 * k)) (fun k => (drs (tk2 P) 4) (126 + 3 * k + 1)) (fun k => (drs (tk2 P) 4) (126 + 3 * k + 2)) ((drs (tk2 P) 4) 6) (min (dep (lnP (drs (tk2 P) 4)) (dnP (drs (tk2 P) 4)) ((drs (tk2 P) 4) (19 + 1) + (drs (tk2 P) 4) (19 + 2)) ((drs (tk2 P) 4) 8)) ((drs (tk2 P) 4) 9)) (P 16 + 1) (by rw [tk3_14 hD]; exact hI.2.2.2.2.2.1.1) (by have := hd3.2.2.2.1.2.2.2; omega) (by omega)) gX3_tick_X6_sealIfFull [15, 16, 17, 18] [0, 1, 2, 3, 4, 5, 6, 7, 8, 9, 10, 11, 12, 13, 14] (nA0 := 3) rfl (by decide +kernel) rfl ⟨Nat.le_of_ble_eq_true rfl, Nat.le_of_ble_eq_true rfl⟩ ⟨Nat.le_of_ble_eq_true rfl, Nat.le_of_ble_eq_true rfl⟩ rfl rfl rfl rfl rfl rfl rfl hl rfl (Nat.le_of_ble_eq_true rfl) dX3_tick_83 (fun w1 H locs hp w => ?_)
          obtain rfl := hp
          have w := w.sub (ws' := plH G (pa 0) (pa 1) (pa 2) (pa 3) (fun k => (drs (tk2 P) 4) k) (fun k => (drs (tk2 P) 4) (19 + k)) ((drs (tk2 P) 4) 9) ((drs (tk2 P) 4) 10) ((drs (tk2 P) 4) 11) ((drs (tk2 P) 4) 12) ((drs (tk2 P) 4) 13) (min (dep (lnP (drs (tk2 P) 4)) (dnP (drs (tk2 P) 4)) ((drs (tk2 P) 4) (19 + 1) + (drs (tk2 P) 4) (19 + 2)) ((drs (tk2 P) 4) 8)) ((drs (tk2 P) 4) 9)) (wat (lnP (drs (tk2 P) 4)) (dnP (drs (tk2 P) 4)) (min (dep (lnP (drs (tk2 P) 4)) (dnP (drs (tk2 P) 4)) ((drs (tk2 P) 4) (19 + 1) + (drs (tk2 P) 4) (19 + 2)) ((drs (tk2 P) 4) 8)) ((drs (tk2 P) 4) 9)) ((drs (tk2 P) 4) 8)) (P 16 + 1) (reasonF P) (tk1 P 18) ++ (coreW G (pa 1) ((drs (tk2 P) 4) 8) (top (drs (tk2 P) 4)) (kdP (drs (tk2 P) 4)) (lnP (drs (tk2 P) 4)) (dnP (drs (tk2 P) 4)) (moP (drs (tk2 P) 4)) lo ++ (linesW G (pa 2) (fun k => (drs (tk2 P) 4) (26 + 5 * k)) (fun k => (drs (tk2 P) 4) (26 + 5 * k + 1)) (fun k => (drs (tk2 P) 4) (26 + 5 * k + 2)) (fun k => (drs (tk2 P) 4) (26 + 5 * k + 3)) (fun k => (drs (tk2 P) 4) (26 + 5 * k + 4)) ++ (vialsW G (pa 3) (if ((drs (tk2 P) 4) 15) < ((drs (tk2 P) 4) 6) ∨ 40 ≤ ((drs (tk2 P) 4) 14) then ((drs (tk2 P) 4) 14) else ((drs (tk2 P) 4) 14) + 1) (if ((drs (tk2 P) 4) 15) < ((drs (tk2 P) 4) 6) ∨ 40 ≤ ((drs (tk2 P) 4) 14) then ((drs (tk2 P) 4) 15) else 0) (if ((drs (tk2 P) 4) 15) < ((drs (tk2 P) 4) 6) ∨ 40 ≤ ((drs (tk2 P) 4) 14) then (fun k => (drs (tk2 P) 4) (126 + 3 * k)) else up (fun k => (drs (tk2 P) 4) (126 + 3 * k)) ((drs (tk2 P) 4) 14) ((drs (tk2 P) 4) 15)) (if ((drs (tk2 P) 4) 15) < ((drs (tk2 P) 4) 6) ∨ 40 ≤ ((drs (tk2 P) 4) 14) then (fun k => (drs (tk2 P) 4) (126 + 3 * k + 1)) else up (fun k => (drs (tk2 P) 4) (126 + 3 * k + 1)) ((drs (tk2 P) 4) 14) (min (dep (lnP (drs (tk2 P) 4)) (dnP (drs (tk2 P) 4)) ((drs (tk2 P) 4) (19 + 1) + (drs (tk2 P) 4) (19 + 2)) ((drs (tk2 P) 4) 8)) ((drs (tk2 P) 4) 9))) (if ((drs (tk2 P) 4) 15) < ((drs (tk2 P) 4) 6) ∨ 40 ≤ ((drs (tk2 P) 4) 14) then (fun k => (drs (tk2 P) 4) (126 + 3 * k + 2)) else up (fun k => (drs (tk2 P) 4) (126 + 3 * k + 2)) ((drs (tk2 P) 4) 14) (P 16 + 1)))))) [0, 1, 2, 3, 4, 5, 6, 7, 8, 9, 10, 11, 12, 13, 14, 15, 16, 17, 18] (by decide) rfl
          have hT := tick_told hD
          have hg3 : ∀ k, (k < 9 ∨ 45 < k) → drs (tk2 P) 4 k = P k := fun k hk => tk3_geo hD hk
          have w := w.eq (ws' := plH G (pa 0) (pa 1) (pa 2) (pa 3) (fun k => (tickF P) k) (fun k => (tickF P) (19 + k)) ((tickF P) 9) ((tickF P) 10) ((tickF P) 11) ((tickF P) 12) ((tickF P) 13) (toldF (tickF P)) (watF (tickF P)) (tickF P 16) (tickF P 17) (tickF P 18) ++ (coreW G (pa 1) ((tickF P) 8) (top (tickF P)) (kdP (tickF P)) (lnP (tickF P)) (dnP (tickF P)) (moP (tickF P)) lo ++ (linesW G (pa 2) (fun k => (tickF P) (26 + 5 * k)) (fun k => (tickF P) (26 + 5 * k + 1)) (fun k => (tickF P) (26 + 5 * k + 2)) (fun k => (tickF P) (26 + 5 * k + 3)) (fun k => (tickF P) (26 + 5 * k + 4)) ++ (vialsW G (pa 3) ((tickF P) 14) ((tickF P) 15) (fun k => (tickF P) (126 + 3 * k)) (fun k => (tickF P) (126 + 3 * k + 1)) (fun k => (tickF P) (126 + 3 * k + 2)))))) (seal_conv (Q := drs (tk2 P) 4) hd3.1.1 (by rw [tk3_14 hD]; exact hI.2.2.2.2.2.1.1) (by rw [← tk3_16 hD]; rfl) hT (by show wat _ _ (toldF (drs (tk2 P) 4)) _ = wat _ _ (toldF (tickF P)) _; rw [hT, hg3 8 (by omega), (tick_ok hI h16).2.2 8 (by omega)]; exact wat_cg (fun k hk => ⟨(hg3 _ (by omega)).trans ((tick_ok hI h16).2.2 _ (by omega)).symm, (hg3 _ (by omega)).trans ((tick_ok hI h16).2.2 _ (by omega)).symm⟩)) (by show reasonF P = sealF (tk4 P) 17; rw [sealF_o _ (by decide) (by decide) (by decide), tk4_17 hD]) (by show tk1 P 18 = sealF (tk4 P) 18; rw [sealF_o _ (by decide) (by decide) (by decide), tk4_18 hD, tk1_18]))
          exact r_return F w dX3_tick_86 (rfl)
        · skip
          refine lv_aload_n F.1 F.2.1 dX3_tick_49 rfl (lv_at hl 0 rfl) ?_
          refine lv_iload_n F.1 F.2.1 dX3_tick_50 rfl (lv_at hl 1 rfl) ?_
          refine r_callVV (rest := []) F w (c_X3_draw l G pa (drs (tk2 P) q) lo (toldF P) (watF P) (P 16 + 1) (reasonF P) (tk1 P 18) q c46 (drs_ok hd2 q h1).1) gX3_tick_X3_draw [0, 1, 2, 9, 10, 11, 12, 13, 14, 15, 16, 17, 18] [3, 4, 5, 6, 7, 8] (nA0 := 1) rfl (by decide +kernel) rfl ⟨Nat.le_of_ble_eq_true rfl, Nat.le_of_ble_eq_true rfl⟩ ⟨Nat.le_of_ble_eq_true rfl, Nat.le_of_ble_eq_true rfl⟩ rfl rfl rfl rfl rfl rfl rfl hl rfl (Nat.le_of_ble_eq_true rfl) dX3_tick_51 (fun w1 H locs hp w => ?_)
          obtain rfl := hp
          have w := w.sub (ws' := plH G (pa 0) (pa 1) (pa 2) (pa 3) (fun k => (drO (drs (tk2 P) q) q) k) (fun k => (drO (drs (tk2 P) q) q) (19 + k)) ((drO (drs (tk2 P) q) q) 9) ((drO (drs (tk2 P) q) q) 10) ((drO (drs (tk2 P) q) q) 11) ((drO (drs (tk2 P) q) q) 12) ((drO (drs (tk2 P) q) q) 13) (toldF P) (watF P) (P 16 + 1) (reasonF P) (tk1 P 18) ++ (coreW G (pa 1) ((drs (tk2 P) q) 8) (top (drs (tk2 P) q)) (kdP (drs (tk2 P) q)) (lnP (drs (tk2 P) q)) (dnP (drs (tk2 P) q)) (moP (drs (tk2 P) q)) lo ++ (linesW G (pa 2) (fun k => (drO (drs (tk2 P) q) q) (26 + 5 * k)) (fun k => (drO (drs (tk2 P) q) q) (26 + 5 * k + 1)) (fun k => (drO (drs (tk2 P) q) q) (26 + 5 * k + 2)) (fun k => (drO (drs (tk2 P) q) q) (26 + 5 * k + 3)) (fun k => (drO (drs (tk2 P) q) q) (26 + 5 * k + 4)) ++ (vialsW G (pa 3) ((drO (drs (tk2 P) q) q) 14) ((drO (drs (tk2 P) q) q) 15) (fun k => (drO (drs (tk2 P) q) q) (126 + 3 * k)) (fun k => (drO (drs (tk2 P) q) q) (126 + 3 * k + 1)) (fun k => (drO (drs (tk2 P) q) q) (126 + 3 * k + 2)))))) [6, 7, 8, 0, 1, 2, 3, 4, 5, 9, 10, 11, 12, 13, 14, 15, 16, 17, 18] (by decide) rfl
          refine lv_iinc (v := nI (q + 1)) (lv' := [(1, .int (nI (q + 1))), (0, .ref ((pa 0) 0))]) F.1 F.2.1 dX3_tick_54 hl (k := 1) rfl (nI_add _ _) (by decide) rfl (fun ls hl => ?_)
          refine lv_goto (tgt := 44) F.1 F.2.1 dX3_tick_57 (by decide) ?_
          have hA1 := (drO_ok (drs_ok hd2 q h1).1 (i := q) (by omega)).2
          have w := w.eq (ws' := plH G (pa 0) (pa 1) (pa 2) (pa 3) (fun k => (drs (tk2 P) (q + 1)) k) (fun k => (drs (tk2 P) (q + 1)) (19 + k)) ((drs (tk2 P) (q + 1)) 9) ((drs (tk2 P) (q + 1)) 10) ((drs (tk2 P) (q + 1)) 11) ((drs (tk2 P) (q + 1)) 12) ((drs (tk2 P) (q + 1)) 13) (toldF P) (watF P) (P 16 + 1) (reasonF P) (tk1 P 18) ++ (coreW G (pa 1) ((drs (tk2 P) (q + 1)) 8) (top (drs (tk2 P) (q + 1))) (kdP (drs (tk2 P) (q + 1))) (lnP (drs (tk2 P) (q + 1))) (dnP (drs (tk2 P) (q + 1))) (moP (drs (tk2 P) (q + 1))) lo ++ (linesW G (pa 2) (fun k => (drs (tk2 P) (q + 1)) (26 + 5 * k)) (fun k => (drs (tk2 P) (q + 1)) (26 + 5 * k + 1)) (fun k => (drs (tk2 P) (q + 1)) (26 + 5 * k + 2)) (fun k => (drs (tk2 P) (q + 1)) (26 + 5 * k + 3)) (fun k => (drs (tk2 P) (q + 1)) (26 + 5 * k + 4)) ++ (vialsW G (pa 3) ((drs (tk2 P) (q + 1)) 14) ((drs (tk2 P) (q + 1)) 15) (fun k => (drs (tk2 P) (q + 1)) (126 + 3 * k)) (fun k => (drs (tk2 P) (q + 1)) (126 + 3 * k + 1)) (fun k => (drs (tk2 P) (q + 1)) (126 + 3 * k + 2)))))) (eqW.app (eqW.rf _) (eqW.app (coreW_eq (hA1 8 (by omega)).symm (by show low (lnP (drs (tk2 P) q)) (drs (tk2 P) q 8) = low (lnP (drO (drs (tk2 P) q) q)) (drO (drs (tk2 P) q) q 8); rw [hA1.ln, hA1 8 (by omega)]) (fun k hk => (hA1 _ (by omega)).symm) (fun k hk => (hA1 _ (by omega)).symm) (fun k hk => (hA1 _ (by omega)).symm) (fun k hk => (hA1 _ (by omega)).symm) (fun _ _ => rfl)) (eqW.rf _)))
          exact ih44 (q + 1) (by omega) (by omega) _ _ w ls (lv_sub hl [1, 0] rfl)
    exact L44 _ 0 (Nat.zero_le _) (Nat.lt_succ_self _) _ _ w ls (lv_sub hl [1, 0] rfl)
  refine lv_aload_n F.1 F.2.1 dX3_tick_18 rfl (lv_at hl 0 rfl) ?_
  refine r_get F w 0 13 iX3 f81 rfl rfl rfl (by decide) rfl dX3_tick_19 ?_
  refine r_zne (tgt := 32) F dX3_tick_22 (by decide) (by omega) (fun c22 => ?_) (fun c22 => ?_)
  · skip
    refine lv_aload_n F.1 F.2.1 dX3_tick_32 rfl (lv_at hl 0 rfl) ?_
    refine lv_dup F.1 F.2.1 dX3_tick_33 rfl ?_
    refine r_get F w 0 14 iX3 f84 rfl rfl rfl (by decide) rfl dX3_tick_34 ?_
    refine lv_iconst (v := nI 1) F.1 F.2.1 dX3_tick_37 (by decide) ?_
    refine r_iadd F dX3_tick_38 ?_
    refine r_put (ws' := plH G (pa 0) (pa 1) (pa 2) (pa 3) (fun k => P k) (fun k => P (19 + k)) (P 9) (P 10) (P 11) (P 12) (P 13) (toldF P) (watF P) ((P 16) + 1) (reasonF P) ((P 18) + 1) ++ (coreW G (pa 1) (P 8) (top P) (kdP P) (lnP P) (dnP P) (moP P) lo ++ (linesW G (pa 2) (fun k => P (26 + 5 * k)) (fun k => P (26 + 5 * k + 1)) (fun k => P (26 + 5 * k + 2)) (fun k => P (26 + 5 * k + 3)) (fun k => P (26 + 5 * k + 4)) ++ (vialsW G (pa 3) (P 14) (P 15) (fun k => P (126 + 3 * k)) (fun k => P (126 + 3 * k + 1)) (fun k => P (126 + 3 * k + 2)))))) F w 0 14 iX3 okX3 f84 rfl rfl rfl (by decide) (by decide +kernel) (Nat.le_of_ble_eq_true rfl) dX3_tick_39 rfl (fun H locs w => ?_)
    have e42 : tk1 P = tk2 P := by unfold tk2; rw [if_neg c22]
    have w := w.eq (ws' := plH G (pa 0) (pa 1) (pa 2) (pa 3) (fun k => (tk2 P) k) (fun k => (tk2 P) (19 + k)) ((tk2 P) 9) ((tk2 P) 10) ((tk2 P) 11) ((tk2 P) 12) ((tk2 P) 13) (toldF P) (watF P) (P 16 + 1) (reasonF P) (tk1 P 18) ++ (coreW G (pa 1) ((tk2 P) 8) (top (tk2 P)) (kdP (tk2 P)) (lnP (tk2 P)) (dnP (tk2 P)) (moP (tk2 P)) lo ++ (linesW G (pa 2) (fun k => (tk2 P) (26 + 5 * k)) (fun k => (tk2 P) (26 + 5 * k + 1)) (fun k => (tk2 P) (26 + 5 * k + 2)) (fun k => (tk2 P) (26 + 5 * k + 3)) (fun k => (tk2 P) (26 + 5 * k + 4)) ++ (vialsW G (pa 3) ((tk2 P) 14) ((tk2 P) 15) (fun k => (tk2 P) (126 + 3 * k)) (fun k => (tk2 P) (126 + 3 * k + 1)) (fun k => (tk2 P) (126 + 3 * k + 2)))))) (by rw [← e42]; exact plateX_eq h8 (fun k hk => tk1_o P (by omega) (by omega)) (fun _ _ => rfl) rfl rfl rfl rfl (by rw [tk1_18, if_pos (Nat.pos_of_ne_zero c22)]))
    exact L42  _ _ w ls (lv_sub hl [0] rfl)
  · skip
    have w := w.eq (ws' := plH G (pa 0) (pa 1) (pa 2) (pa 3) (fun k => (tk1 P) k) (fun k => (tk1 P) (19 + k)) ((tk1 P) 9) ((tk1 P) 10) ((tk1 P) 11) ((tk1 P) 12) ((tk1 P) 13) (toldF P) (watF P) (P 16 + 1) (reasonF P) (tk1 P 18) ++ (coreW G (pa 1) ((tk1 P) 8) (top (tk1 P)) (kdP (tk1 P)) (lnP (tk1 P)) (dnP (tk1 P)) (moP (tk1 P)) lo ++ (linesW G (pa 2) (fun k => (tk1 P) (26 + 5 * k)) (fun k => (tk1 P) (26 + 5 * k + 1)) (fun k => (tk1 P) (26 + 5 * k + 2)) (fun k => (tk1 P) (26 + 5 * k + 3)) (fun k => (tk1 P) (26 + 5 * k + 4)) ++ (vialsW G (pa 3) ((tk1 P) 14) ((tk1 P) 15) (fun k => (tk1 P) (126 + 3 * k)) (fun k => (tk1 P) (126 + 3 * k + 1)) (fun k => (tk1 P) (126 + 3 * k + 2)))))) (plateX_eq h8 (fun k hk => tk1_o P (by omega) (by omega)) (fun _ _ => rfl) rfl rfl rfl rfl (by rw [tk1_18, c22]; rfl))
    refine lv_aload_n F.1 F.2.1 dX3_tick_25 rfl (lv_at hl 0 rfl) ?_
    refine r_callVV (rest := []) F w (c_X3_melt l G pa (tk1 P) lo (toldF P) (watF P) (P 16 + 1) (reasonF P) (tk1 P 18) hd1.1 hd1.2.1 (fun k hk => by have e8 := tk1_o P (k := 8) (by decide) (by decide); rw [e8] at hk; rw [hlk k hk]; exact low_congr (fun j hj => (tk1_o P (by omega) (by omega)).symm)) hd1.2.2.1 hd1.2.2.2.1 (by rw [tk1_o P (by decide) (by decide)]; omega)) gX3_tick_X3_melt [0, 1, 2, 3, 4, 5, 6, 7, 8] [9, 10, 11, 12, 13, 14, 15, 16, 17, 18] (nA0 := 0) rfl (by decide +kernel) rfl ⟨Nat.le_of_ble_eq_true rfl, Nat.le_of_ble_eq_true rfl⟩ ⟨Nat.le_of_ble_eq_true rfl, Nat.le_of_ble_eq_true rfl⟩ rfl rfl rfl rfl rfl rfl rfl hl rfl (Nat.le_of_ble_eq_true rfl) dX3_tick_26 (fun w1 H locs hp w => ?_)
    obtain rfl := hp
    have w := w.sub (ws' := plH G (pa 0) (pa 1) (pa 2) (pa 3) (fun k => (meltF (tk1 P)) k) (fun k => (meltF (tk1 P)) (19 + k)) ((meltF (tk1 P)) 9) ((meltF (tk1 P)) 10) ((meltF (tk1 P)) 11) ((meltF (tk1 P)) 12) ((meltF (tk1 P)) 13) (toldF P) (watF P) (P 16 + 1) (reasonF P) (tk1 P 18) ++ (coreW G (pa 1) ((meltF (tk1 P)) 8) (top (meltF (tk1 P))) (kdP (meltF (tk1 P))) (lnP (meltF (tk1 P))) (dnP (meltF (tk1 P))) (moP (meltF (tk1 P))) lo ++ (linesW G (pa 2) (fun k => (tk1 P) (26 + 5 * k)) (fun k => (tk1 P) (26 + 5 * k + 1)) (fun k => (tk1 P) (26 + 5 * k + 2)) (fun k => (tk1 P) (26 + 5 * k + 3)) (fun k => (tk1 P) (26 + 5 * k + 4)) ++ (vialsW G (pa 3) ((tk1 P) 14) ((tk1 P) 15) (fun k => (tk1 P) (126 + 3 * k)) (fun k => (tk1 P) (126 + 3 * k + 1)) (fun k => (tk1 P) (126 + 3 * k + 2)))))) [10, 11, 12, 13, 14, 15, 16, 17, 18, 0, 1, 2, 3, 4, 5, 6, 7, 8, 9] (by decide) rfl
    have a42 := (meltF_ok hd1.1 hd1.2.2.1 hd1.2.2.2.1).1
    refine lv_goto (tgt := 42) F.1 F.2.1 dX3_tick_29 (by decide) ?_
    have e42 : meltF (tk1 P) = tk2 P := by unfold tk2; rw [if_pos c22]
    have w := w.eq (ws' := plH G (pa 0) (pa 1) (pa 2) (pa 3) (fun k => (tk2 P) k) (fun k => (tk2 P) (19 + k)) ((tk2 P) 9) ((tk2 P) 10) ((tk2 P) 11) ((tk2 P) 12) ((tk2 P) 13) (toldF P) (watF P) (P 16 + 1) (reasonF P) (tk1 P 18) ++ (coreW G (pa 1) ((tk2 P) 8) (top (tk2 P)) (kdP (tk2 P)) (lnP (tk2 P)) (dnP (tk2 P)) (moP (tk2 P)) lo ++ (linesW G (pa 2) (fun k => (tk2 P) (26 + 5 * k)) (fun k => (tk2 P) (26 + 5 * k + 1)) (fun k => (tk2 P) (26 + 5 * k + 2)) (fun k => (tk2 P) (26 + 5 * k + 3)) (fun k => (tk2 P) (26 + 5 * k + 4)) ++ (vialsW G (pa 3) ((tk2 P) 14) ((tk2 P) 15) (fun k => (tk2 P) (126 + 3 * k)) (fun k => (tk2 P) (126 + 3 * k + 1)) (fun k => (tk2 P) (126 + 3 * k + 2)))))) (by rw [← e42]; exact eqW.app (eqW.rf _) (eqW.app (eqW.rf _) (eqW.app (linesW_eq (fun k hk => (a42 (26 + 5 * k) (by omega)).symm) (fun k hk => (a42 (26 + 5 * k + 1) (by omega)).symm) (fun k hk => (a42 (26 + 5 * k + 2) (by omega)).symm) (fun k hk => (a42 (26 + 5 * k + 3) (by omega)).symm) (fun k hk => (a42 (26 + 5 * k + 4) (by omega)).symm)) (vialsW_eq (a42 14 (by omega)).symm (a42 15 (by omega)).symm (fun k hk => (a42 (126 + 3 * k) (by omega)).symm) (fun k hk => (a42 (126 + 3 * k + 1) (by omega)).symm) (fun k hk => (a42 (126 + 3 * k + 2) (by omega)).symm)))))
    exact L42  _ _ w ls (lv_sub hl [0] rfl)

