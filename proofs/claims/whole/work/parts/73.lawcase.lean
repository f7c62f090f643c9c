/-! ===== the law: its cases ===== -/
theorem fine_law (a1 a2 a3 q0 v0 q1 v1 q2 v2 : Nat) : fineX (lawX a1 a2 a3 q0 v0 q1 v1 q2 v2) := (fine_hi a1 a2 a3).and (fine_wrd q0 v0 q1 v1 q2 v2)
theorem lw_in : ∀ w ∈ wsL_law, w ∈ lw_tbl := fun w hw => (wsL_law_in w hw).1
section LAWS
variable {p : Program} {l : Launch} {e : Env} {s : State} {m : MethodId} {args : Array Value} {below : List Frame} {meth : Method} {c : Code} {H : Heap} {locs : List Loc} {cells slots : Nat} {Q : State → Prop}
variable {G : KG} {A : Nat → Prop} {ls : Array Slot} {rest : List Value} {b x1 x2 L i : Nat} {xs : Nat → Int32}
theorem q_arg {ws : va_W} {pc j : Nat} {n1 : Int} (F : Fx p s m args meth c cL_law 4 RL lw_tbl ret) (w : Wd G s A ws H locs) (hX : va_X b L xs s s.heap) (hbl : b < s.heap.size) (hbA : ¬ A b) (hl : lv_has ls 4 [(0, .ref b), (1, .ref x1), (2, .ref x2), (3, .int (nI i))]) (hij : i + j < L) (hL : L < 2 ^ 31) (hn : Int32.ofInt n1 = nI j)
    (d0 : decode cL_law pc = .ok (.aload_n 0, 1)) (d1 : decode cL_law (pc + 1) = .ok (.iload_n 3, 1)) (d2 : decode cL_law (pc + 2) = .ok (.iconst n1, 1)) (d3 : decode cL_law (pc + 3) = .ok (.iadd, 1)) (d4 : decode cL_law (pc + 4) = .ok (.iaload, 1))
    (kk : W p l e room_1 s m args below meth c H locs cells slots Q (F0 m (pc + 5) ls (.int (xs (i + j)) :: rest))) : W p l e room_1 s m args below meth c H locs cells slots Q (F0 m pc ls rest) := by
  refine lv_aload_n F.1 F.2.1 d0 rfl (lv_at hl 0 rfl) ?_
  refine lv_iload_n F.1 F.2.1 d1 rfl (lv_at hl 3 rfl) ?_
  refine lv_iconst F.1 F.2.1 d2 hn ?_
  refine r_iadd F d3 ?_
  refine va_sld F.1 F.2.1 hX hbl hbA w.2.2.1 (vp_in_nI hij hL) d4 ?_
  rw [nI_clamp (by omega)]
  exact kk
end LAWS
section LAWS
variable {p : Program} {l : Launch} {e : Env} {s : State} {m : MethodId} {args : Array Value} {below : List Frame} {meth : Method} {c : Code} {H : Heap} {locs : List Loc} {cells slots : Nat} {Q : State → Prop}
variable {G : KG} {A : Nat → Prop} {ls : Array Slot} {rest : List Value} {b x1 x2 L i : Nat} {xs : Nat → Int32}
set_option maxHeartbeats 4000000 in
theorem lawc_0 {P : Nat → Nat} {tl : Nat} {T : Nat → Nat} {n : Nat} {h : Nat → Nat → Nat} {wsc wsr : va_W} (a1 a2 a3 q0 v0 q1 v1 q2 v2 : Nat) (F : Fx p s m args meth c cL_law 4 RL lw_tbl ret) (hXX : lawX a1 a2 a3 q0 v0 q1 v1 q2 v2 A s s.heap) (hX : va_X b L xs s s.heap) (hbl : b < s.heap.size) (hbA : ¬ A b) (hL : L < 2 ^ 31) (hi : i + 4 < L) (hcs : cells ≤ room_1.cells ∧ slots ≤ room_1.slots) (hS : SInv P tl T n h) (hc : CS G x1 P tl T n h wsc) (hr : RS G x2 P tl T n h wsr) (w : Wd G s A (wsc ++ wsr) H locs) (hl : lv_has ls 4 [(0, .ref b), (1, .ref x1), (2, .ref x2), (3, .int (nI i))])
    (kk : ∀ (P' : Nat → Nat) (tl' : Nat) (T' : Nat → Nat) (n' : Nat) (h' : Nat → Nat → Nat) (wsc' wsr' : va_W) (H1 : Heap) (locs1 : List Loc), SInv P' tl' T' n' h' → CS G x1 P' tl' T' n' h' wsc' → RS G x2 P' tl' T' n' h' wsr' → Wd G s A (wsc' ++ wsr') H1 locs1 → W p l e room_1 s m args below meth c H1 locs1 cells slots Q (F0 m 672 ls [])) : W p l e room_1 s m args below meth c H locs cells slots Q (F0 m 136 ls []) := by
  obtain ⟨an, P', tl', T', n', h', hS', hC, hR⟩ := pr_addSegment l G a1 a2 a3 q0 v0 q1 v1 q2 v2 hS (xs (i + 1)) (xs (i + 2)) (xs (i + 3)) (xs (i + 4))
  refine lv_aload_n F.1 F.2.1 dL_law_136 rfl (lv_at hl 1 rfl) ?_
  refine q_arg F w hX hbl hbA hl (j := 1) (by omega) hL rfl dL_law_137 dL_law_138 dL_law_139 dL_law_140 dL_law_141 ?_
  refine q_arg F w hX hbl hbA hl (j := 2) (by omega) hL rfl dL_law_142 dL_law_143 dL_law_144 dL_law_145 dL_law_146 ?_
  refine q_arg F w hX hbl hbA hl (j := 3) (by omega) hL rfl dL_law_147 dL_law_148 dL_law_149 dL_law_150 dL_law_151 ?_
  refine q_arg F w hX hbl hbA hl (j := 4) (by omega) hL rfl dL_law_152 dL_law_153 dL_law_154 dL_law_155 dL_law_156 ?_
  refine q_call (rest := []) (As := [.int (xs (i + 1)), .int (xs (i + 2)), .int (xs (i + 3)), .int (xs (i + 4))]) (fine_law a1 a2 a3 q0 v0 q1 v1 q2 v2) hXX F w (hC x1) hc ((gL_law_X7_addSegment).tr lw_in) rfl (nA0 := 4) (by decide +kernel) rfl ⟨Nat.le_of_ble_eq_true rfl, Nat.le_of_ble_eq_true rfl⟩ hcs rfl hl rfl (Nat.le_of_ble_eq_true rfl) dL_law_157 (fun r1 w1 H locs hv w => ?_)
  obtain ⟨rfl, hc⟩ := hv
  have w := w.perm List.perm_append_comm
  refine lv_aload_n F.1 F.2.1 dL_law_160 rfl (lv_at hl 2 rfl) ?_
  refine q_arg F w hX hbl hbA hl (j := 1) (by omega) hL rfl dL_law_161 dL_law_162 dL_law_163 dL_law_164 dL_law_165 ?_
  refine q_arg F w hX hbl hbA hl (j := 2) (by omega) hL rfl dL_law_166 dL_law_167 dL_law_168 dL_law_169 dL_law_170 ?_
  refine q_arg F w hX hbl hbA hl (j := 3) (by omega) hL rfl dL_law_171 dL_law_172 dL_law_173 dL_law_174 dL_law_175 ?_
  refine q_arg F w hX hbl hbA hl (j := 4) (by omega) hL rfl dL_law_176 dL_law_177 dL_law_178 dL_law_179 dL_law_180 ?_
  refine q_call (rest := [.int _]) (As := [.int (xs (i + 1)), .int (xs (i + 2)), .int (xs (i + 3)), .int (xs (i + 4))]) (fine_law a1 a2 a3 q0 v0 q1 v1 q2 v2) hXX F w (hR x2) hr ((gL_law_X8_addSegment).tr lw_in) rfl (nA0 := 4) (by decide +kernel) rfl ⟨Nat.le_of_ble_eq_true rfl, Nat.le_of_ble_eq_true rfl⟩ hcs rfl hl rfl (Nat.le_of_ble_eq_true rfl) dL_law_181 (fun r1 w1 H locs hv w => ?_)
  obtain ⟨rfl, hr⟩ := hv
  have w := w.perm List.perm_append_comm
  refine lv_icmp_eq (tgt := 672) F.1 F.2.1 dL_law_184 (by decide) (fun _ => ?_) (fun q => absurd rfl q)
  exact kk P' tl' T' n' h' _ _ H locs hS' hc hr w
set_option maxHeartbeats 4000000 in
theorem lawc_1 {P : Nat → Nat} {tl : Nat} {T : Nat → Nat} {n : Nat} {h : Nat → Nat → Nat} {wsc wsr : va_W} (a1 a2 a3 q0 v0 q1 v1 q2 v2 : Nat) (F : Fx p s m args meth c cL_law 4 RL lw_tbl ret) (hXX : lawX a1 a2 a3 q0 v0 q1 v1 q2 v2 A s s.heap) (hX : va_X b L xs s s.heap) (hbl : b < s.heap.size) (hbA : ¬ A b) (hL : L < 2 ^ 31) (hi : i + 4 < L) (hcs : cells ≤ room_1.cells ∧ slots ≤ room_1.slots) (hS : SInv P tl T n h) (hc : CS G x1 P tl T n h wsc) (hr : RS G x2 P tl T n h wsr) (w : Wd G s A (wsc ++ wsr) H locs) (hl : lv_has ls 4 [(0, .ref b), (1, .ref x1), (2, .ref x2), (3, .int (nI i))])
    (kk : ∀ (P' : Nat → Nat) (tl' : Nat) (T' : Nat → Nat) (n' : Nat) (h' : Nat → Nat → Nat) (wsc' wsr' : va_W) (H1 : Heap) (locs1 : List Loc), SInv P' tl' T' n' h' → CS G x1 P' tl' T' n' h' wsc' → RS G x2 P' tl' T' n' h' wsr' → Wd G s A (wsc' ++ wsr') H1 locs1 → W p l e room_1 s m args below meth c H1 locs1 cells slots Q (F0 m 672 ls [])) : W p l e room_1 s m args below meth c H locs cells slots Q (F0 m 189 ls []) := by
  obtain ⟨an, P', tl', T', n', h', hS', hC, hR⟩ := pr_segment l G a1 a2 a3 q0 v0 q1 v1 q2 v2 hS (xs (i + 1)) (xs (i + 2))
  refine lv_aload_n F.1 F.2.1 dL_law_189 rfl (lv_at hl 1 rfl) ?_
  refine q_arg F w hX hbl hbA hl (j := 1) (by omega) hL rfl dL_law_190 dL_law_191 dL_law_192 dL_law_193 dL_law_194 ?_
  refine q_arg F w hX hbl hbA hl (j := 2) (by omega) hL rfl dL_law_195 dL_law_196 dL_law_197 dL_law_198 dL_law_199 ?_
  refine q_call (rest := []) (As := [.int (xs (i + 1)), .int (xs (i + 2))]) (fine_law a1 a2 a3 q0 v0 q1 v1 q2 v2) hXX F w (hC x1) hc ((gL_law_X7_segment).tr lw_in) rfl (nA0 := 2) (by decide +kernel) rfl ⟨Nat.le_of_ble_eq_true rfl, Nat.le_of_ble_eq_true rfl⟩ hcs rfl hl rfl (Nat.le_of_ble_eq_true rfl) dL_law_200 (fun r1 w1 H locs hv w => ?_)
  obtain ⟨rfl, hc⟩ := hv
  have w := w.perm List.perm_append_comm
  refine lv_aload_n F.1 F.2.1 dL_law_203 rfl (lv_at hl 2 rfl) ?_
  refine q_arg F w hX hbl hbA hl (j := 1) (by omega) hL rfl dL_law_204 dL_law_205 dL_law_206 dL_law_207 dL_law_208 ?_
  refine q_arg F w hX hbl hbA hl (j := 2) (by omega) hL rfl dL_law_209 dL_law_210 dL_law_211 dL_law_212 dL_law_213 ?_
  refine q_call (rest := [.int _]) (As := [.int (xs (i + 1)), .int (xs (i + 2))]) (fine_law a1 a2 a3 q0 v0 q1 v1 q2 v2) hXX F w (hR x2) hr ((gL_law_X8_segment).tr lw_in) rfl (nA0 := 2) (by decide +kernel) rfl ⟨Nat.le_of_ble_eq_true rfl, Nat.le_of_ble_eq_true rfl⟩ hcs rfl hl rfl (Nat.le_of_ble_eq_true rfl) dL_law_214 (fun r1 w1 H locs hv w => ?_)
  obtain ⟨rfl, hr⟩ := hv
  have w := w.perm List.perm_append_comm
  refine lv_icmp_eq (tgt := 672) F.1 F.2.1 dL_law_217 (by decide) (fun _ => ?_) (fun q => absurd rfl q)
  exact kk P' tl' T' n' h' _ _ H locs hS' hc hr w
set_option maxHeartbeats 4000000 in
theorem lawc_2 {P : Nat → Nat} {tl : Nat} {T : Nat → Nat} {n : Nat} {h : Nat → Nat → Nat} {wsc wsr : va_W} (a1 a2 a3 q0 v0 q1 v1 q2 v2 : Nat) (F : Fx p s m args meth c cL_law 4 RL lw_tbl ret) (hXX : lawX a1 a2 a3 q0 v0 q1 v1 q2 v2 A s s.heap) (hX : va_X b L xs s s.heap) (hbl : b < s.heap.size) (hbA : ¬ A b) (hL : L < 2 ^ 31) (hi : i + 4 < L) (hcs : cells ≤ room_1.cells ∧ slots ≤ room_1.slots) (hS : SInv P tl T n h) (hc : CS G x1 P tl T n h wsc) (hr : RS G x2 P tl T n h wsr) (w : Wd G s A (wsc ++ wsr) H locs) (hl : lv_has ls 4 [(0, .ref b), (1, .ref x1), (2, .ref x2), (3, .int (nI i))])
    (kk : ∀ (P' : Nat → Nat) (tl' : Nat) (T' : Nat → Nat) (n' : Nat) (h' : Nat → Nat → Nat) (wsc' wsr' : va_W) (H1 : Heap) (locs1 : List Loc), SInv P' tl' T' n' h' → CS G x1 P' tl' T' n' h' wsc' → RS G x2 P' tl' T' n' h' wsr' → Wd G s A (wsc' ++ wsr') H1 locs1 → W p l e room_1 s m args below meth c H1 locs1 cells slots Q (F0 m 672 ls [])) : W p l e room_1 s m args below meth c H locs cells slots Q (F0 m 222 ls []) := by
  obtain ⟨an, P', tl', T', n', h', hS', hC, hR⟩ := pr_segmentAt l G a1 a2 a3 q0 v0 q1 v1 q2 v2 hS (xs (i + 1))
  refine lv_aload_n F.1 F.2.1 dL_law_222 rfl (lv_at hl 1 rfl) ?_
  refine q_arg F w hX hbl hbA hl (j := 1) (by omega) hL rfl dL_law_223 dL_law_224 dL_law_225 dL_law_226 dL_law_227 ?_
  refine q_call (rest := []) (As := [.int (xs (i + 1))]) (fine_law a1 a2 a3 q0 v0 q1 v1 q2 v2) hXX F w (hC x1) hc ((gL_law_X7_segmentAt).tr lw_in) rfl (nA0 := 1) (by decide +kernel) rfl ⟨Nat.le_of_ble_eq_true rfl, Nat.le_of_ble_eq_true rfl⟩ hcs rfl hl rfl (Nat.le_of_ble_eq_true rfl) dL_law_228 (fun r1 w1 H locs hv w => ?_)
  obtain ⟨rfl, hc⟩ := hv
  have w := w.perm List.perm_append_comm
  refine lv_aload_n F.1 F.2.1 dL_law_231 rfl (lv_at hl 2 rfl) ?_
  refine q_arg F w hX hbl hbA hl (j := 1) (by omega) hL rfl dL_law_232 dL_law_233 dL_law_234 dL_law_235 dL_law_236 ?_
  refine q_call (rest := [.int _]) (As := [.int (xs (i + 1))]) (fine_law a1 a2 a3 q0 v0 q1 v1 q2 v2) hXX F w (hR x2) hr ((gL_law_X8_segmentAt).tr lw_in) rfl (nA0 := 1) (by decide +kernel) rfl ⟨Nat.le_of_ble_eq_true rfl, Nat.le_of_ble_eq_true rfl⟩ hcs rfl hl rfl (Nat.le_of_ble_eq_true rfl) dL_law_237 (fun r1 w1 H locs hv w => ?_)
  obtain ⟨rfl, hr⟩ := hv
  have w := w.perm List.perm_append_comm
  refine lv_icmp_eq (tgt := 672) F.1 F.2.1 dL_law_240 (by decide) (fun _ => ?_) (fun q => absurd rfl q)
  exact kk P' tl' T' n' h' _ _ H locs hS' hc hr w
set_option maxHeartbeats 4000000 in
theorem lawc_3 {P : Nat → Nat} {tl : Nat} {T : Nat → Nat} {n : Nat} {h : Nat → Nat → Nat} {wsc wsr : va_W} (a1 a2 a3 q0 v0 q1 v1 q2 v2 : Nat) (F : Fx p s m args meth c cL_law 4 RL lw_tbl ret) (hXX : lawX a1 a2 a3 q0 v0 q1 v1 q2 v2 A s s.heap) (hX : va_X b L xs s s.heap) (hbl : b < s.heap.size) (hbA : ¬ A b) (hL : L < 2 ^ 31) (hi : i + 4 < L) (hcs : cells ≤ room_1.cells ∧ slots ≤ room_1.slots) (hS : SInv P tl T n h) (hc : CS G x1 P tl T n h wsc) (hr : RS G x2 P tl T n h wsr) (w : Wd G s A (wsc ++ wsr) H locs) (hl : lv_has ls 4 [(0, .ref b), (1, .ref x1), (2, .ref x2), (3, .int (nI i))])
    (kk : ∀ (P' : Nat → Nat) (tl' : Nat) (T' : Nat → Nat) (n' : Nat) (h' : Nat → Nat → Nat) (wsc' wsr' : va_W) (H1 : Heap) (locs1 : List Loc), SInv P' tl' T' n' h' → CS G x1 P' tl' T' n' h' wsc' → RS G x2 P' tl' T' n' h' wsr' → Wd G s A (wsc' ++ wsr') H1 locs1 → W p l e room_1 s m args below meth c H1 locs1 cells slots Q (F0 m 672 ls [])) : W p l e room_1 s m args below meth c H locs cells slots Q (F0 m 245 ls []) := by
  obtain ⟨an, P', tl', T', n', h', hS', hC, hR⟩ := pr_waterBelow l G a1 a2 a3 q0 v0 q1 v1 q2 v2 hS (xs (i + 1))
  refine lv_aload_n F.1 F.2.1 dL_law_245 rfl (lv_at hl 1 rfl) ?_
  refine q_arg F w hX hbl hbA hl (j := 1) (by omega) hL rfl dL_law_246 dL_law_247 dL_law_248 dL_law_249 dL_law_250 ?_
  refine q_call (rest := []) (As := [.int (xs (i + 1))]) (fine_law a1 a2 a3 q0 v0 q1 v1 q2 v2) hXX F w (hC x1) hc ((gL_law_X7_waterBelow).tr lw_in) rfl (nA0 := 1) (by decide +kernel) rfl ⟨Nat.le_of_ble_eq_true rfl, Nat.le_of_ble_eq_true rfl⟩ hcs rfl hl rfl (Nat.le_of_ble_eq_true rfl) dL_law_251 (fun r1 w1 H locs hv w => ?_)
  obtain ⟨rfl, hc⟩ := hv
  have w := w.perm List.perm_append_comm
  refine lv_aload_n F.1 F.2.1 dL_law_254 rfl (lv_at hl 2 rfl) ?_
  refine q_arg F w hX hbl hbA hl (j := 1) (by omega) hL rfl dL_law_255 dL_law_256 dL_law_257 dL_law_258 dL_law_259 ?_
  refine q_call (rest := [.int _]) (As := [.int (xs (i + 1))]) (fine_law a1 a2 a3 q0 v0 q1 v1 q2 v2) hXX F w (hR x2) hr ((gL_law_X8_waterBelow).tr lw_in) rfl (nA0 := 1) (by decide +kernel) rfl ⟨Nat.le_of_ble_eq_true rfl, Nat.le_of_ble_eq_true rfl⟩ hcs rfl hl rfl (Nat.le_of_ble_eq_true rfl) dL_law_260 (fun r1 w1 H locs hv w => ?_)
  obtain ⟨rfl, hr⟩ := hv
  have w := w.perm List.perm_append_comm
  refine lv_icmp_eq (tgt := 672) F.1 F.2.1 dL_law_263 (by decide) (fun _ => ?_) (fun q => absurd rfl q)
  exact kk P' tl' T' n' h' _ _ H locs hS' hc hr w
set_option maxHeartbeats 4000000 in
theorem lawc_4 {P : Nat → Nat} {tl : Nat} {T : Nat → Nat} {n : Nat} {h : Nat → Nat → Nat} {wsc wsr : va_W} (a1 a2 a3 q0 v0 q1 v1 q2 v2 : Nat) (F : Fx p s m args meth c cL_law 4 RL lw_tbl ret) (hXX : lawX a1 a2 a3 q0 v0 q1 v1 q2 v2 A s s.heap) (hX : va_X b L xs s s.heap) (hbl : b < s.heap.size) (hbA : ¬ A b) (hL : L < 2 ^ 31) (hi : i + 4 < L) (hcs : cells ≤ room_1.cells ∧ slots ≤ room_1.slots) (hS : SInv P tl T n h) (hc : CS G x1 P tl T n h wsc) (hr : RS G x2 P tl T n h wsr) (w : Wd G s A (wsc ++ wsr) H locs) (hl : lv_has ls 4 [(0, .ref b), (1, .ref x1), (2, .ref x2), (3, .int (nI i))])
    (kk : ∀ (P' : Nat → Nat) (tl' : Nat) (T' : Nat → Nat) (n' : Nat) (h' : Nat → Nat → Nat) (wsc' wsr' : va_W) (H1 : Heap) (locs1 : List Loc), SInv P' tl' T' n' h' → CS G x1 P' tl' T' n' h' wsc' → RS G x2 P' tl' T' n' h' wsr' → Wd G s A (wsc' ++ wsr') H1 locs1 → W p l e room_1 s m args below meth c H1 locs1 cells slots Q (F0 m 672 ls [])) : W p l e room_1 s m args below meth c H locs cells slots Q (F0 m 268 ls []) := by
  obtain ⟨an, P', tl', T', n', h', hS', hC, hR⟩ := pr_renew l G a1 a2 a3 q0 v0 q1 v1 q2 v2 hS 
  refine lv_aload_n F.1 F.2.1 dL_law_268 rfl (lv_at hl 1 rfl) ?_
  refine q_call (rest := []) (As := []) (fine_law a1 a2 a3 q0 v0 q1 v1 q2 v2) hXX F w (hC x1) hc ((gL_law_X7_renew).tr lw_in) rfl (nA0 := 0) (by decide +kernel) rfl ⟨Nat.le_of_ble_eq_true rfl, Nat.le_of_ble_eq_true rfl⟩ hcs rfl hl rfl (Nat.le_of_ble_eq_true rfl) dL_law_269 (fun r1 w1 H locs hv w => ?_)
  obtain ⟨rfl, hc⟩ := hv
  have w := w.perm List.perm_append_comm
  refine lv_aload_n F.1 F.2.1 dL_law_272 rfl (lv_at hl 2 rfl) ?_
  refine q_call (rest := [.int _]) (As := []) (fine_law a1 a2 a3 q0 v0 q1 v1 q2 v2) hXX F w (hR x2) hr ((gL_law_X8_renew).tr lw_in) rfl (nA0 := 0) (by decide +kernel) rfl ⟨Nat.le_of_ble_eq_true rfl, Nat.le_of_ble_eq_true rfl⟩ hcs rfl hl rfl (Nat.le_of_ble_eq_true rfl) dL_law_273 (fun r1 w1 H locs hv w => ?_)
  obtain ⟨rfl, hr⟩ := hv
  have w := w.perm List.perm_append_comm
  refine lv_icmp_eq (tgt := 672) F.1 F.2.1 dL_law_276 (by decide) (fun _ => ?_) (fun q => absurd rfl q)
  exact kk P' tl' T' n' h' _ _ H locs hS' hc hr w
set_option maxHeartbeats 4000000 in
theorem lawc_5 {P : Nat → Nat} {tl : Nat} {T : Nat → Nat} {n : Nat} {h : Nat → Nat → Nat} {wsc wsr : va_W} (a1 a2 a3 q0 v0 q1 v1 q2 v2 : Nat) (F : Fx p s m args meth c cL_law 4 RL lw_tbl ret) (hXX : lawX a1 a2 a3 q0 v0 q1 v1 q2 v2 A s s.heap) (hX : va_X b L xs s s.heap) (hbl : b < s.heap.size) (hbA : ¬ A b) (hL : L < 2 ^ 31) (hi : i + 4 < L) (hcs : cells ≤ room_1.cells ∧ slots ≤ room_1.slots) (hS : SInv P tl T n h) (hc : CS G x1 P tl T n h wsc) (hr : RS G x2 P tl T n h wsr) (w : Wd G s A (wsc ++ wsr) H locs) (hl : lv_has ls 4 [(0, .ref b), (1, .ref x1), (2, .ref x2), (3, .int (nI i))])
    (kk : ∀ (P' : Nat → Nat) (tl' : Nat) (T' : Nat → Nat) (n' : Nat) (h' : Nat → Nat → Nat) (wsc' wsr' : va_W) (H1 : Heap) (locs1 : List Loc), SInv P' tl' T' n' h' → CS G x1 P' tl' T' n' h' wsc' → RS G x2 P' tl' T' n' h' wsr' → Wd G s A (wsc' ++ wsr') H1 locs1 → W p l e room_1 s m args below meth c H1 locs1 cells slots Q (F0 m 672 ls [])) : W p l e room_1 s m args below meth c H locs cells slots Q (F0 m 281 ls []) := by
  obtain ⟨an, P', tl', T', n', h', hS', hC, hR⟩ := pr_undo l G a1 a2 a3 q0 v0 q1 v1 q2 v2 hS 
  refine lv_aload_n F.1 F.2.1 dL_law_281 rfl (lv_at hl 1 rfl) ?_
  refine q_call (rest := []) (As := []) (fine_law a1 a2 a3 q0 v0 q1 v1 q2 v2) hXX F w (hC x1) hc ((gL_law_X7_undo).tr lw_in) rfl (nA0 := 0) (by decide +kernel) rfl ⟨Nat.le_of_ble_eq_true rfl, Nat.le_of_ble_eq_true rfl⟩ hcs rfl hl rfl (Nat.le_of_ble_eq_true rfl) dL_law_282 (fun r1 w1 H locs hv w => ?_)
  obtain ⟨rfl, hc⟩ := hv
  have w := w.perm List.perm_append_comm
  refine lv_aload_n F.1 F.2.1 dL_law_285 rfl (lv_at hl 2 rfl) ?_
  refine q_call (rest := [.int _]) (As := []) (fine_law a1 a2 a3 q0 v0 q1 v1 q2 v2) hXX F w (hR x2) hr ((gL_law_X8_undo).tr lw_in) rfl (nA0 := 0) (by decide +kernel) rfl ⟨Nat.le_of_ble_eq_true rfl, Nat.le_of_ble_eq_true rfl⟩ hcs rfl hl rfl (Nat.le_of_ble_eq_true rfl) dL_law_286 (fun r1 w1 H locs hv w => ?_)
  obtain ⟨rfl, hr⟩ := hv
  have w := w.perm List.perm_append_comm
  refine lv_icmp_eq (tgt := 672) F.1 F.2.1 dL_law_289 (by decide) (fun _ => ?_) (fun q => absurd rfl q)
  exact kk P' tl' T' n' h' _ _ H locs hS' hc hr w
set_option maxHeartbeats 4000000 in
theorem lawc_6 {P : Nat → Nat} {tl : Nat} {T : Nat → Nat} {n : Nat} {h : Nat → Nat → Nat} {wsc wsr : va_W} (a1 a2 a3 q0 v0 q1 v1 q2 v2 : Nat) (F : Fx p s m args meth c cL_law 4 RL lw_tbl ret) (hXX : lawX a1 a2 a3 q0 v0 q1 v1 q2 v2 A s s.heap) (hX : va_X b L xs s s.heap) (hbl : b < s.heap.size) (hbA : ¬ A b) (hL : L < 2 ^ 31) (hi : i + 4 < L) (hcs : cells ≤ room_1.cells ∧ slots ≤ room_1.slots) (hS : SInv P tl T n h) (hc : CS G x1 P tl T n h wsc) (hr : RS G x2 P tl T n h wsr) (w : Wd G s A (wsc ++ wsr) H locs) (hl : lv_has ls 4 [(0, .ref b), (1, .ref x1), (2, .ref x2), (3, .int (nI i))])
    (kk : ∀ (P' : Nat → Nat) (tl' : Nat) (T' : Nat → Nat) (n' : Nat) (h' : Nat → Nat → Nat) (wsc' wsr' : va_W) (H1 : Heap) (locs1 : List Loc), SInv P' tl' T' n' h' → CS G x1 P' tl' T' n' h' wsc' → RS G x2 P' tl' T' n' h' wsr' → Wd G s A (wsc' ++ wsr') H1 locs1 → W p l e room_1 s m args below meth c H1 locs1 cells slots Q (F0 m 672 ls [])) : W p l e room_1 s m args below meth c H locs cells slots Q (F0 m 294 ls []) := by
  obtain ⟨an, P', tl', T', n', h', hS', hC, hR⟩ := pr_set l G a1 a2 a3 q0 v0 q1 v1 q2 v2 hS (xs (i + 1)) (xs (i + 2))
  refine lv_aload_n F.1 F.2.1 dL_law_294 rfl (lv_at hl 1 rfl) ?_
  refine q_arg F w hX hbl hbA hl (j := 1) (by omega) hL rfl dL_law_295 dL_law_296 dL_law_297 dL_law_298 dL_law_299 ?_
  refine q_arg F w hX hbl hbA hl (j := 2) (by omega) hL rfl dL_law_300 dL_law_301 dL_law_302 dL_law_303 dL_law_304 ?_
  refine q_call (rest := []) (As := [.int (xs (i + 1)), .int (xs (i + 2))]) (fine_law a1 a2 a3 q0 v0 q1 v1 q2 v2) hXX F w (hC x1) hc ((gL_law_X7_set).tr lw_in) rfl (nA0 := 2) (by decide +kernel) rfl ⟨Nat.le_of_ble_eq_true rfl, Nat.le_of_ble_eq_true rfl⟩ hcs rfl hl rfl (Nat.le_of_ble_eq_true rfl) dL_law_305 (fun r1 w1 H locs hv w => ?_)
  obtain ⟨rfl, hc⟩ := hv
  have w := w.perm List.perm_append_comm
  refine lv_aload_n F.1 F.2.1 dL_law_308 rfl (lv_at hl 2 rfl) ?_
  refine q_arg F w hX hbl hbA hl (j := 1) (by omega) hL rfl dL_law_309 dL_law_310 dL_law_311 dL_law_312 dL_law_313 ?_
  refine q_arg F w hX hbl hbA hl (j := 2) (by omega) hL rfl dL_law_314 dL_law_315 dL_law_316 dL_law_317 dL_law_318 ?_
  refine q_call (rest := [.int _]) (As := [.int (xs (i + 1)), .int (xs (i + 2))]) (fine_law a1 a2 a3 q0 v0 q1 v1 q2 v2) hXX F w (hR x2) hr ((gL_law_X8_set).tr lw_in) rfl (nA0 := 2) (by decide +kernel) rfl ⟨Nat.le_of_ble_eq_true rfl, Nat.le_of_ble_eq_true rfl⟩ hcs rfl hl rfl (Nat.le_of_ble_eq_true rfl) dL_law_319 (fun r1 w1 H locs hv w => ?_)
  obtain ⟨rfl, hr⟩ := hv
  have w := w.perm List.perm_append_comm
  refine lv_icmp_eq (tgt := 672) F.1 F.2.1 dL_law_322 (by decide) (fun _ => ?_) (fun q => absurd rfl q)
  exact kk P' tl' T' n' h' _ _ H locs hS' hc hr w
set_option maxHeartbeats 4000000 in
theorem lawc_7 {P : Nat → Nat} {tl : Nat} {T : Nat → Nat} {n : Nat} {h : Nat → Nat → Nat} {wsc wsr : va_W} (a1 a2 a3 q0 v0 q1 v1 q2 v2 : Nat) (F : Fx p s m args meth c cL_law 4 RL lw_tbl ret) (hXX : lawX a1 a2 a3 q0 v0 q1 v1 q2 v2 A s s.heap) (hX : va_X b L xs s s.heap) (hbl : b < s.heap.size) (hbA : ¬ A b) (hL : L < 2 ^ 31) (hi : i + 4 < L) (hcs : cells ≤ room_1.cells ∧ slots ≤ room_1.slots) (hS : SInv P tl T n h) (hc : CS G x1 P tl T n h wsc) (hr : RS G x2 P tl T n h wsr) (w : Wd G s A (wsc ++ wsr) H locs) (hl : lv_has ls 4 [(0, .ref b), (1, .ref x1), (2, .ref x2), (3, .int (nI i))])
    (kk : ∀ (P' : Nat → Nat) (tl' : Nat) (T' : Nat → Nat) (n' : Nat) (h' : Nat → Nat → Nat) (wsc' wsr' : va_W) (H1 : Heap) (locs1 : List Loc), SInv P' tl' T' n' h' → CS G x1 P' tl' T' n' h' wsc' → RS G x2 P' tl' T' n' h' wsr' → Wd G s A (wsc' ++ wsr') H1 locs1 → W p l e room_1 s m args below meth c H1 locs1 cells slots Q (F0 m 672 ls [])) : W p l e room_1 s m args below meth c H locs cells slots Q (F0 m 327 ls []) := by
  obtain ⟨an, P', tl', T', n', h', hS', hC, hR⟩ := pr_clean l G a1 a2 a3 q0 v0 q1 v1 q2 v2 hS (xs (i + 1))
  refine lv_aload_n F.1 F.2.1 dL_law_327 rfl (lv_at hl 1 rfl) ?_
  refine q_arg F w hX hbl hbA hl (j := 1) (by omega) hL rfl dL_law_328 dL_law_329 dL_law_330 dL_law_331 dL_law_332 ?_
  refine q_call (rest := []) (As := [.int (xs (i + 1))]) (fine_law a1 a2 a3 q0 v0 q1 v1 q2 v2) hXX F w (hC x1) hc ((gL_law_X7_clean).tr lw_in) rfl (nA0 := 1) (by decide +kernel) rfl ⟨Nat.le_of_ble_eq_true rfl, Nat.le_of_ble_eq_true rfl⟩ hcs rfl hl rfl (Nat.le_of_ble_eq_true rfl) dL_law_333 (fun r1 w1 H locs hv w => ?_)
  obtain ⟨rfl, hc⟩ := hv
  have w := w.perm List.perm_append_comm
  refine lv_aload_n F.1 F.2.1 dL_law_336 rfl (lv_at hl 2 rfl) ?_
  refine q_arg F w hX hbl hbA hl (j := 1) (by omega) hL rfl dL_law_337 dL_law_338 dL_law_339 dL_law_340 dL_law_341 ?_
  refine q_call (rest := [.int _]) (As := [.int (xs (i + 1))]) (fine_law a1 a2 a3 q0 v0 q1 v1 q2 v2) hXX F w (hR x2) hr ((gL_law_X8_clean).tr lw_in) rfl (nA0 := 1) (by decide +kernel) rfl ⟨Nat.le_of_ble_eq_true rfl, Nat.le_of_ble_eq_true rfl⟩ hcs rfl hl rfl (Nat.le_of_ble_eq_true rfl) dL_law_342 (fun r1 w1 H locs hv w => ?_)
  obtain ⟨rfl, hr⟩ := hv
  have w := w.perm List.perm_append_comm
  refine lv_icmp_eq (tgt := 672) F.1 F.2.1 dL_law_345 (by decide) (fun _ => ?_) (fun q => absurd rfl q)
  exact kk P' tl' T' n' h' _ _ H locs hS' hc hr w
set_option maxHeartbeats 4000000 in
theorem lawc_8 {P : Nat → Nat} {tl : Nat} {T : Nat → Nat} {n : Nat} {h : Nat → Nat → Nat} {wsc wsr : va_W} (a1 a2 a3 q0 v0 q1 v1 q2 v2 : Nat) (F : Fx p s m args meth c cL_law 4 RL lw_tbl ret) (hXX : lawX a1 a2 a3 q0 v0 q1 v1 q2 v2 A s s.heap) (hX : va_X b L xs s s.heap) (hbl : b < s.heap.size) (hbA : ¬ A b) (hL : L < 2 ^ 31) (hi : i + 4 < L) (hcs : cells ≤ room_1.cells ∧ slots ≤ room_1.slots) (hS : SInv P tl T n h) (hc : CS G x1 P tl T n h wsc) (hr : RS G x2 P tl T n h wsr) (w : Wd G s A (wsc ++ wsr) H locs) (hl : lv_has ls 4 [(0, .ref b), (1, .ref x1), (2, .ref x2), (3, .int (nI i))])
    (kk : ∀ (P' : Nat → Nat) (tl' : Nat) (T' : Nat → Nat) (n' : Nat) (h' : Nat → Nat → Nat) (wsc' wsr' : va_W) (H1 : Heap) (locs1 : List Loc), SInv P' tl' T' n' h' → CS G x1 P' tl' T' n' h' wsc' → RS G x2 P' tl' T' n' h' wsr' → Wd G s A (wsc' ++ wsr') H1 locs1 → W p l e room_1 s m args below meth c H1 locs1 cells slots Q (F0 m 672 ls [])) : W p l e room_1 s m args below meth c H locs cells slots Q (F0 m 350 ls []) := by
  obtain ⟨an, P', tl', T', n', h', hS', hC, hR⟩ := pr_run l G a1 a2 a3 q0 v0 q1 v1 q2 v2 hS (xs (i + 1))
  refine lv_aload_n F.1 F.2.1 dL_law_350 rfl (lv_at hl 1 rfl) ?_
  refine q_arg F w hX hbl hbA hl (j := 1) (by omega) hL rfl dL_law_351 dL_law_352 dL_law_353 dL_law_354 dL_law_355 ?_
  refine q_call (rest := []) (As := [.int (xs (i + 1))]) (fine_law a1 a2 a3 q0 v0 q1 v1 q2 v2) hXX F w (hC x1) hc ((gL_law_X7_run).tr lw_in) rfl (nA0 := 1) (by decide +kernel) rfl ⟨Nat.le_of_ble_eq_true rfl, Nat.le_of_ble_eq_true rfl⟩ hcs rfl hl rfl (Nat.le_of_ble_eq_true rfl) dL_law_356 (fun r1 w1 H locs hv w => ?_)
  obtain ⟨rfl, hc⟩ := hv
  have w := w.perm List.perm_append_comm
  refine lv_aload_n F.1 F.2.1 dL_law_359 rfl (lv_at hl 2 rfl) ?_
  refine q_arg F w hX hbl hbA hl (j := 1) (by omega) hL rfl dL_law_360 dL_law_361 dL_law_362 dL_law_363 dL_law_364 ?_
  refine q_call (rest := [.int _]) (As := [.int (xs (i + 1))]) (fine_law a1 a2 a3 q0 v0 q1 v1 q2 v2) hXX F w (hR x2) hr ((gL_law_X8_run).tr lw_in) rfl (nA0 := 1) (by decide +kernel) rfl ⟨Nat.le_of_ble_eq_true rfl, Nat.le_of_ble_eq_true rfl⟩ hcs rfl hl rfl (Nat.le_of_ble_eq_true rfl) dL_law_365 (fun r1 w1 H locs hv w => ?_)
  obtain ⟨rfl, hr⟩ := hv
  have w := w.perm List.perm_append_comm
  refine lv_icmp_eq (tgt := 672) F.1 F.2.1 dL_law_368 (by decide) (fun _ => ?_) (fun q => absurd rfl q)
  exact kk P' tl' T' n' h' _ _ H locs hS' hc hr w
set_option maxHeartbeats 4000000 in
theorem lawc_9 {P : Nat → Nat} {tl : Nat} {T : Nat → Nat} {n : Nat} {h : Nat → Nat → Nat} {wsc wsr : va_W} (a1 a2 a3 q0 v0 q1 v1 q2 v2 : Nat) (F : Fx p s m args meth c cL_law 4 RL lw_tbl ret) (hXX : lawX a1 a2 a3 q0 v0 q1 v1 q2 v2 A s s.heap) (hX : va_X b L xs s s.heap) (hbl : b < s.heap.size) (hbA : ¬ A b) (hL : L < 2 ^ 31) (hi : i + 4 < L) (hcs : cells ≤ room_1.cells ∧ slots ≤ room_1.slots) (hS : SInv P tl T n h) (hc : CS G x1 P tl T n h wsc) (hr : RS G x2 P tl T n h wsr) (w : Wd G s A (wsc ++ wsr) H locs) (hl : lv_has ls 4 [(0, .ref b), (1, .ref x1), (2, .ref x2), (3, .int (nI i))])
    (kk : ∀ (P' : Nat → Nat) (tl' : Nat) (T' : Nat → Nat) (n' : Nat) (h' : Nat → Nat → Nat) (wsc' wsr' : va_W) (H1 : Heap) (locs1 : List Loc), SInv P' tl' T' n' h' → CS G x1 P' tl' T' n' h' wsc' → RS G x2 P' tl' T' n' h' wsr' → Wd G s A (wsc' ++ wsr') H1 locs1 → W p l e room_1 s m args below meth c H1 locs1 cells slots Q (F0 m 672 ls [])) : W p l e room_1 s m args below meth c H locs cells slots Q (F0 m 373 ls []) := by
  obtain ⟨an, P', tl', T', n', h', hS', hC, hR⟩ := pr_count l G a1 a2 a3 q0 v0 q1 v1 q2 v2 hS (xs (i + 1))
  refine lv_aload_n F.1 F.2.1 dL_law_373 rfl (lv_at hl 1 rfl) ?_
  refine q_arg F w hX hbl hbA hl (j := 1) (by omega) hL rfl dL_law_374 dL_law_375 dL_law_376 dL_law_377 dL_law_378 ?_
  refine q_call (rest := []) (As := [.int (xs (i + 1))]) (fine_law a1 a2 a3 q0 v0 q1 v1 q2 v2) hXX F w (hC x1) hc ((gL_law_X7_count).tr lw_in) rfl (nA0 := 1) (by decide +kernel) rfl ⟨Nat.le_of_ble_eq_true rfl, Nat.le_of_ble_eq_true rfl⟩ hcs rfl hl rfl (Nat.le_of_ble_eq_true rfl) dL_law_379 (fun r1 w1 H locs hv w => ?_)
  obtain ⟨rfl, hc⟩ := hv
  have w := w.perm List.perm_append_comm
  refine lv_aload_n F.1 F.2.1 dL_law_382 rfl (lv_at hl 2 rfl) ?_
  refine q_arg F w hX hbl hbA hl (j := 1) (by omega) hL rfl dL_law_383 dL_law_384 dL_law_385 dL_law_386 dL_law_387 ?_
  refine q_call (rest := [.int _]) (As := [.int (xs (i + 1))]) (fine_law a1 a2 a3 q0 v0 q1 v1 q2 v2) hXX F w (hR x2) hr ((gL_law_X8_count).tr lw_in) rfl (nA0 := 1) (by decide +kernel) rfl ⟨Nat.le_of_ble_eq_true rfl, Nat.le_of_ble_eq_true rfl⟩ hcs rfl hl rfl (Nat.le_of_ble_eq_true rfl) dL_law_388 (fun r1 w1 H locs hv w => ?_)
  obtain ⟨rfl, hr⟩ := hv
  have w := w.perm List.perm_append_comm
  refine lv_icmp_eq (tgt := 672) F.1 F.2.1 dL_law_391 (by decide) (fun _ => ?_) (fun q => absurd rfl q)
  exact kk P' tl' T' n' h' _ _ H locs hS' hc hr w
set_option maxHeartbeats 4000000 in
theorem lawc_10 {P : Nat → Nat} {tl : Nat} {T : Nat → Nat} {n : Nat} {h : Nat → Nat → Nat} {wsc wsr : va_W} (a1 a2 a3 q0 v0 q1 v1 q2 v2 : Nat) (F : Fx p s m args meth c cL_law 4 RL lw_tbl ret) (hXX : lawX a1 a2 a3 q0 v0 q1 v1 q2 v2 A s s.heap) (hX : va_X b L xs s s.heap) (hbl : b < s.heap.size) (hbA : ¬ A b) (hL : L < 2 ^ 31) (hi : i + 4 < L) (hcs : cells ≤ room_1.cells ∧ slots ≤ room_1.slots) (hS : SInv P tl T n h) (hc : CS G x1 P tl T n h wsc) (hr : RS G x2 P tl T n h wsr) (w : Wd G s A (wsc ++ wsr) H locs) (hl : lv_has ls 4 [(0, .ref b), (1, .ref x1), (2, .ref x2), (3, .int (nI i))])
    (kk : ∀ (P' : Nat → Nat) (tl' : Nat) (T' : Nat → Nat) (n' : Nat) (h' : Nat → Nat → Nat) (wsc' wsr' : va_W) (H1 : Heap) (locs1 : List Loc), SInv P' tl' T' n' h' → CS G x1 P' tl' T' n' h' wsc' → RS G x2 P' tl' T' n' h' wsr' → Wd G s A (wsc' ++ wsr') H1 locs1 → W p l e room_1 s m args below meth c H1 locs1 cells slots Q (F0 m 672 ls [])) : W p l e room_1 s m args below meth c H locs cells slots Q (F0 m 396 ls []) := by
  obtain ⟨an, P', tl', T', n', h', hS', hC, hR⟩ := pr_account l G a1 a2 a3 q0 v0 q1 v1 q2 v2 hS (xs (i + 1))
  refine lv_aload_n F.1 F.2.1 dL_law_396 rfl (lv_at hl 1 rfl) ?_
  refine q_arg F w hX hbl hbA hl (j := 1) (by omega) hL rfl dL_law_397 dL_law_398 dL_law_399 dL_law_400 dL_law_401 ?_
  refine q_call (rest := []) (As := [.int (xs (i + 1))]) (fine_law a1 a2 a3 q0 v0 q1 v1 q2 v2) hXX F w (hC x1) hc ((gL_law_X7_account).tr lw_in) rfl (nA0 := 1) (by decide +kernel) rfl ⟨Nat.le_of_ble_eq_true rfl, Nat.le_of_ble_eq_true rfl⟩ hcs rfl hl rfl (Nat.le_of_ble_eq_true rfl) dL_law_402 (fun r1 w1 H locs hv w => ?_)
  obtain ⟨rfl, hc⟩ := hv
  have w := w.perm List.perm_append_comm
  refine lv_aload_n F.1 F.2.1 dL_law_405 rfl (lv_at hl 2 rfl) ?_
  refine q_arg F w hX hbl hbA hl (j := 1) (by omega) hL rfl dL_law_406 dL_law_407 dL_law_408 dL_law_409 dL_law_410 ?_
  refine q_call (rest := [.int _]) (As := [.int (xs (i + 1))]) (fine_law a1 a2 a3 q0 v0 q1 v1 q2 v2) hXX F w (hR x2) hr ((gL_law_X8_account).tr lw_in) rfl (nA0 := 1) (by decide +kernel) rfl ⟨Nat.le_of_ble_eq_true rfl, Nat.le_of_ble_eq_true rfl⟩ hcs rfl hl rfl (Nat.le_of_ble_eq_true rfl) dL_law_411 (fun r1 w1 H locs hv w => ?_)
  obtain ⟨rfl, hr⟩ := hv
  have w := w.perm List.perm_append_comm
  refine lv_icmp_eq (tgt := 672) F.1 F.2.1 dL_law_414 (by decide) (fun _ => ?_) (fun q => absurd rfl q)
  exact kk P' tl' T' n' h' _ _ H locs hS' hc hr w
set_option maxHeartbeats 4000000 in
theorem lawc_11 {P : Nat → Nat} {tl : Nat} {T : Nat → Nat} {n : Nat} {h : Nat → Nat → Nat} {wsc wsr : va_W} (a1 a2 a3 q0 v0 q1 v1 q2 v2 : Nat) (F : Fx p s m args meth c cL_law 4 RL lw_tbl ret) (hXX : lawX a1 a2 a3 q0 v0 q1 v1 q2 v2 A s s.heap) (hX : va_X b L xs s s.heap) (hbl : b < s.heap.size) (hbA : ¬ A b) (hL : L < 2 ^ 31) (hi : i + 4 < L) (hcs : cells ≤ room_1.cells ∧ slots ≤ room_1.slots) (hS : SInv P tl T n h) (hc : CS G x1 P tl T n h wsc) (hr : RS G x2 P tl T n h wsr) (w : Wd G s A (wsc ++ wsr) H locs) (hl : lv_has ls 4 [(0, .ref b), (1, .ref x1), (2, .ref x2), (3, .int (nI i))])
    (kk : ∀ (P' : Nat → Nat) (tl' : Nat) (T' : Nat → Nat) (n' : Nat) (h' : Nat → Nat → Nat) (wsc' wsr' : va_W) (H1 : Heap) (locs1 : List Loc), SInv P' tl' T' n' h' → CS G x1 P' tl' T' n' h' wsc' → RS G x2 P' tl' T' n' h' wsr' → Wd G s A (wsc' ++ wsr') H1 locs1 → W p l e room_1 s m args below meth c H1 locs1 cells slots Q (F0 m 672 ls [])) : W p l e room_1 s m args below meth c H locs cells slots Q (F0 m 419 ls []) := by
  obtain ⟨an, P', tl', T', n', h', hS', hC, hR⟩ := pr_line l G a1 a2 a3 q0 v0 q1 v1 q2 v2 hS (xs (i + 1)) (xs (i + 2))
  refine lv_aload_n F.1 F.2.1 dL_law_419 rfl (lv_at hl 1 rfl) ?_
  refine q_arg F w hX hbl hbA hl (j := 1) (by omega) hL rfl dL_law_420 dL_law_421 dL_law_422 dL_law_423 dL_law_424 ?_
  refine q_arg F w hX hbl hbA hl (j := 2) (by omega) hL rfl dL_law_425 dL_law_426 dL_law_427 dL_law_428 dL_law_429 ?_
  refine q_call (rest := []) (As := [.int (xs (i + 1)), .int (xs (i + 2))]) (fine_law a1 a2 a3 q0 v0 q1 v1 q2 v2) hXX F w (hC x1) hc ((gL_law_X7_line).tr lw_in) rfl (nA0 := 2) (by decide +kernel) rfl ⟨Nat.le_of_ble_eq_true rfl, Nat.le_of_ble_eq_true rfl⟩ hcs rfl hl rfl (Nat.le_of_ble_eq_true rfl) dL_law_430 (fun r1 w1 H locs hv w => ?_)
  obtain ⟨rfl, hc⟩ := hv
  have w := w.perm List.perm_append_comm
  refine lv_aload_n F.1 F.2.1 dL_law_433 rfl (lv_at hl 2 rfl) ?_
  refine q_arg F w hX hbl hbA hl (j := 1) (by omega) hL rfl dL_law_434 dL_law_435 dL_law_436 dL_law_437 dL_law_438 ?_
  refine q_arg F w hX hbl hbA hl (j := 2) (by omega) hL rfl dL_law_439 dL_law_440 dL_law_441 dL_law_442 dL_law_443 ?_
  refine q_call (rest := [.int _]) (As := [.int (xs (i + 1)), .int (xs (i + 2))]) (fine_law a1 a2 a3 q0 v0 q1 v1 q2 v2) hXX F w (hR x2) hr ((gL_law_X8_line).tr lw_in) rfl (nA0 := 2) (by decide +kernel) rfl ⟨Nat.le_of_ble_eq_true rfl, Nat.le_of_ble_eq_true rfl⟩ hcs rfl hl rfl (Nat.le_of_ble_eq_true rfl) dL_law_444 (fun r1 w1 H locs hv w => ?_)
  obtain ⟨rfl, hr⟩ := hv
  have w := w.perm List.perm_append_comm
  refine lv_icmp_eq (tgt := 672) F.1 F.2.1 dL_law_447 (by decide) (fun _ => ?_) (fun q => absurd rfl q)
  exact kk P' tl' T' n' h' _ _ H locs hS' hc hr w
set_option maxHeartbeats 4000000 in
theorem lawc_12 {P : Nat → Nat} {tl : Nat} {T : Nat → Nat} {n : Nat} {h : Nat → Nat → Nat} {wsc wsr : va_W} (a1 a2 a3 q0 v0 q1 v1 q2 v2 : Nat) (F : Fx p s m args meth c cL_law 4 RL lw_tbl ret) (hXX : lawX a1 a2 a3 q0 v0 q1 v1 q2 v2 A s s.heap) (hX : va_X b L xs s s.heap) (hbl : b < s.heap.size) (hbA : ¬ A b) (hL : L < 2 ^ 31) (hi : i + 4 < L) (hcs : cells ≤ room_1.cells ∧ slots ≤ room_1.slots) (hS : SInv P tl T n h) (hc : CS G x1 P tl T n h wsc) (hr : RS G x2 P tl T n h wsr) (w : Wd G s A (wsc ++ wsr) H locs) (hl : lv_has ls 4 [(0, .ref b), (1, .ref x1), (2, .ref x2), (3, .int (nI i))])
    (kk : ∀ (P' : Nat → Nat) (tl' : Nat) (T' : Nat → Nat) (n' : Nat) (h' : Nat → Nat → Nat) (wsc' wsr' : va_W) (H1 : Heap) (locs1 : List Loc), SInv P' tl' T' n' h' → CS G x1 P' tl' T' n' h' wsc' → RS G x2 P' tl' T' n' h' wsr' → Wd G s A (wsc' ++ wsr') H1 locs1 → W p l e room_1 s m args below meth c H1 locs1 cells slots Q (F0 m 672 ls [])) : W p l e room_1 s m args below meth c H locs cells slots Q (F0 m 452 ls []) := by
  obtain ⟨an, P', tl', T', n', h', hS', hC, hR⟩ := pr_again l G a1 a2 a3 q0 v0 q1 v1 q2 v2 hS 
  refine lv_aload_n F.1 F.2.1 dL_law_452 rfl (lv_at hl 1 rfl) ?_
  refine q_call (rest := []) (As := []) (fine_law a1 a2 a3 q0 v0 q1 v1 q2 v2) hXX F w (hC x1) hc ((gL_law_X7_again).tr lw_in) rfl (nA0 := 0) (by decide +kernel) rfl ⟨Nat.le_of_ble_eq_true rfl, Nat.le_of_ble_eq_true rfl⟩ hcs rfl hl rfl (Nat.le_of_ble_eq_true rfl) dL_law_453 (fun r1 w1 H locs hv w => ?_)
  obtain ⟨rfl, hc⟩ := hv
  have w := w.perm List.perm_append_comm
  refine lv_aload_n F.1 F.2.1 dL_law_456 rfl (lv_at hl 2 rfl) ?_
  refine q_call (rest := [.int _]) (As := []) (fine_law a1 a2 a3 q0 v0 q1 v1 q2 v2) hXX F w (hR x2) hr ((gL_law_X8_again).tr lw_in) rfl (nA0 := 0) (by decide +kernel) rfl ⟨Nat.le_of_ble_eq_true rfl, Nat.le_of_ble_eq_true rfl⟩ hcs rfl hl rfl (Nat.le_of_ble_eq_true rfl) dL_law_457 (fun r1 w1 H locs hv w => ?_)
  obtain ⟨rfl, hr⟩ := hv
  have w := w.perm List.perm_append_comm
  refine lv_icmp_eq (tgt := 672) F.1 F.2.1 dL_law_460 (by decide) (fun _ => ?_) (fun q => absurd rfl q)
  exact kk P' tl' T' n' h' _ _ H locs hS' hc hr w
set_option maxHeartbeats 4000000 in
theorem lawc_13 {P : Nat → Nat} {tl : Nat} {T : Nat → Nat} {n : Nat} {h : Nat → Nat → Nat} {wsc wsr : va_W} (a1 a2 a3 q0 v0 q1 v1 q2 v2 : Nat) (F : Fx p s m args meth c cL_law 4 RL lw_tbl ret) (hXX : lawX a1 a2 a3 q0 v0 q1 v1 q2 v2 A s s.heap) (hX : va_X b L xs s s.heap) (hbl : b < s.heap.size) (hbA : ¬ A b) (hL : L < 2 ^ 31) (hi : i + 4 < L) (hcs : cells ≤ room_1.cells ∧ slots ≤ room_1.slots) (hS : SInv P tl T n h) (hc : CS G x1 P tl T n h wsc) (hr : RS G x2 P tl T n h wsr) (w : Wd G s A (wsc ++ wsr) H locs) (hl : lv_has ls 4 [(0, .ref b), (1, .ref x1), (2, .ref x2), (3, .int (nI i))])
    (kk : ∀ (P' : Nat → Nat) (tl' : Nat) (T' : Nat → Nat) (n' : Nat) (h' : Nat → Nat → Nat) (wsc' wsr' : va_W) (H1 : Heap) (locs1 : List Loc), SInv P' tl' T' n' h' → CS G x1 P' tl' T' n' h' wsc' → RS G x2 P' tl' T' n' h' wsr' → Wd G s A (wsc' ++ wsr') H1 locs1 → W p l e room_1 s m args below meth c H1 locs1 cells slots Q (F0 m 672 ls [])) : W p l e room_1 s m args below meth c H locs cells slots Q (F0 m 465 ls []) := by
  obtain ⟨an, P', tl', T', n', h', hS', hC, hR⟩ := pr_vial l G a1 a2 a3 q0 v0 q1 v1 q2 v2 hS (xs (i + 1)) (xs (i + 2))
  refine lv_aload_n F.1 F.2.1 dL_law_465 rfl (lv_at hl 1 rfl) ?_
  refine q_arg F w hX hbl hbA hl (j := 1) (by omega) hL rfl dL_law_466 dL_law_467 dL_law_468 dL_law_469 dL_law_470 ?_
  refine q_arg F w hX hbl hbA hl (j := 2) (by omega) hL rfl dL_law_471 dL_law_472 dL_law_473 dL_law_474 dL_law_475 ?_
  refine q_call (rest := []) (As := [.int (xs (i + 1)), .int (xs (i + 2))]) (fine_law a1 a2 a3 q0 v0 q1 v1 q2 v2) hXX F w (hC x1) hc ((gL_law_X7_vial).tr lw_in) rfl (nA0 := 2) (by decide +kernel) rfl ⟨Nat.le_of_ble_eq_true rfl, Nat.le_of_ble_eq_true rfl⟩ hcs rfl hl rfl (Nat.le_of_ble_eq_true rfl) dL_law_476 (fun r1 w1 H locs hv w => ?_)
  obtain ⟨rfl, hc⟩ := hv
  have w := w.perm List.perm_append_comm
  refine lv_aload_n F.1 F.2.1 dL_law_479 rfl (lv_at hl 2 rfl) ?_
  refine q_arg F w hX hbl hbA hl (j := 1) (by omega) hL rfl dL_law_480 dL_law_481 dL_law_482 dL_law_483 dL_law_484 ?_
  refine q_arg F w hX hbl hbA hl (j := 2) (by omega) hL rfl dL_law_485 dL_law_486 dL_law_487 dL_law_488 dL_law_489 ?_
  refine q_call (rest := [.int _]) (As := [.int (xs (i + 1)), .int (xs (i + 2))]) (fine_law a1 a2 a3 q0 v0 q1 v1 q2 v2) hXX F w (hR x2) hr ((gL_law_X8_vial).tr lw_in) rfl (nA0 := 2) (by decide +kernel) rfl ⟨Nat.le_of_ble_eq_true rfl, Nat.le_of_ble_eq_true rfl⟩ hcs rfl hl rfl (Nat.le_of_ble_eq_true rfl) dL_law_490 (fun r1 w1 H locs hv w => ?_)
  obtain ⟨rfl, hr⟩ := hv
  have w := w.perm List.perm_append_comm
  refine lv_icmp_eq (tgt := 672) F.1 F.2.1 dL_law_493 (by decide) (fun _ => ?_) (fun q => absurd rfl q)
  exact kk P' tl' T' n' h' _ _ H locs hS' hc hr w
set_option maxHeartbeats 4000000 in
theorem lawc_14 {P : Nat → Nat} {tl : Nat} {T : Nat → Nat} {n : Nat} {h : Nat → Nat → Nat} {wsc wsr : va_W} (a1 a2 a3 q0 v0 q1 v1 q2 v2 : Nat) (F : Fx p s m args meth c cL_law 4 RL lw_tbl ret) (hXX : lawX a1 a2 a3 q0 v0 q1 v1 q2 v2 A s s.heap) (hX : va_X b L xs s s.heap) (hbl : b < s.heap.size) (hbA : ¬ A b) (hL : L < 2 ^ 31) (hi : i + 4 < L) (hcs : cells ≤ room_1.cells ∧ slots ≤ room_1.slots) (hS : SInv P tl T n h) (hc : CS G x1 P tl T n h wsc) (hr : RS G x2 P tl T n h wsr) (w : Wd G s A (wsc ++ wsr) H locs) (hl : lv_has ls 4 [(0, .ref b), (1, .ref x1), (2, .ref x2), (3, .int (nI i))])
    (kk : ∀ (P' : Nat → Nat) (tl' : Nat) (T' : Nat → Nat) (n' : Nat) (h' : Nat → Nat → Nat) (wsc' wsr' : va_W) (H1 : Heap) (locs1 : List Loc), SInv P' tl' T' n' h' → CS G x1 P' tl' T' n' h' wsc' → RS G x2 P' tl' T' n' h' wsr' → Wd G s A (wsc' ++ wsr') H1 locs1 → W p l e room_1 s m args below meth c H1 locs1 cells slots Q (F0 m 672 ls [])) : W p l e room_1 s m args below meth c H locs cells slots Q (F0 m 498 ls []) := by
  obtain ⟨an, P', tl', T', n', h', hS', hC, hR⟩ := pr_vialAt l G a1 a2 a3 q0 v0 q1 v1 q2 v2 hS (xs (i + 1))
  refine lv_aload_n F.1 F.2.1 dL_law_498 rfl (lv_at hl 1 rfl) ?_
  refine q_arg F w hX hbl hbA hl (j := 1) (by omega) hL rfl dL_law_499 dL_law_500 dL_law_501 dL_law_502 dL_law_503 ?_
  refine q_call (rest := []) (As := [.int (xs (i + 1))]) (fine_law a1 a2 a3 q0 v0 q1 v1 q2 v2) hXX F w (hC x1) hc ((gL_law_X7_vialAt).tr lw_in) rfl (nA0 := 1) (by decide +kernel) rfl ⟨Nat.le_of_ble_eq_true rfl, Nat.le_of_ble_eq_true rfl⟩ hcs rfl hl rfl (Nat.le_of_ble_eq_true rfl) dL_law_504 (fun r1 w1 H locs hv w => ?_)
  obtain ⟨rfl, hc⟩ := hv
  have w := w.perm List.perm_append_comm
  refine lv_aload_n F.1 F.2.1 dL_law_507 rfl (lv_at hl 2 rfl) ?_
  refine q_arg F w hX hbl hbA hl (j := 1) (by omega) hL rfl dL_law_508 dL_law_509 dL_law_510 dL_law_511 dL_law_512 ?_
  refine q_call (rest := [.int _]) (As := [.int (xs (i + 1))]) (fine_law a1 a2 a3 q0 v0 q1 v1 q2 v2) hXX F w (hR x2) hr ((gL_law_X8_vialAt).tr lw_in) rfl (nA0 := 1) (by decide +kernel) rfl ⟨Nat.le_of_ble_eq_true rfl, Nat.le_of_ble_eq_true rfl⟩ hcs rfl hl rfl (Nat.le_of_ble_eq_true rfl) dL_law_513 (fun r1 w1 H locs hv w => ?_)
  obtain ⟨rfl, hr⟩ := hv
  have w := w.perm List.perm_append_comm
  refine lv_icmp_eq (tgt := 672) F.1 F.2.1 dL_law_516 (by decide) (fun _ => ?_) (fun q => absurd rfl q)
  exact kk P' tl' T' n' h' _ _ H locs hS' hc hr w
set_option maxHeartbeats 4000000 in
theorem lawc_15 {P : Nat → Nat} {tl : Nat} {T : Nat → Nat} {n : Nat} {h : Nat → Nat → Nat} {wsc wsr : va_W} (a1 a2 a3 q0 v0 q1 v1 q2 v2 : Nat) (F : Fx p s m args meth c cL_law 4 RL lw_tbl ret) (hXX : lawX a1 a2 a3 q0 v0 q1 v1 q2 v2 A s s.heap) (hX : va_X b L xs s s.heap) (hbl : b < s.heap.size) (hbA : ¬ A b) (hL : L < 2 ^ 31) (hi : i + 4 < L) (hcs : cells ≤ room_1.cells ∧ slots ≤ room_1.slots) (hS : SInv P tl T n h) (hc : CS G x1 P tl T n h wsc) (hr : RS G x2 P tl T n h wsr) (w : Wd G s A (wsc ++ wsr) H locs) (hl : lv_has ls 4 [(0, .ref b), (1, .ref x1), (2, .ref x2), (3, .int (nI i))])
    (kk : ∀ (P' : Nat → Nat) (tl' : Nat) (T' : Nat → Nat) (n' : Nat) (h' : Nat → Nat → Nat) (wsc' wsr' : va_W) (H1 : Heap) (locs1 : List Loc), SInv P' tl' T' n' h' → CS G x1 P' tl' T' n' h' wsc' → RS G x2 P' tl' T' n' h' wsr' → Wd G s A (wsc' ++ wsr') H1 locs1 → W p l e room_1 s m args below meth c H1 locs1 cells slots Q (F0 m 672 ls [])) : W p l e room_1 s m args below meth c H locs cells slots Q (F0 m 521 ls []) := by
  obtain ⟨an, P', tl', T', n', h', hS', hC, hR⟩ := pr_ifRun l G a1 a2 a3 q0 v0 q1 v1 q2 v2 hS (xs (i + 1)) (xs (i + 2))
  refine lv_aload_n F.1 F.2.1 dL_law_521 rfl (lv_at hl 1 rfl) ?_
  refine q_arg F w hX hbl hbA hl (j := 1) (by omega) hL rfl dL_law_522 dL_law_523 dL_law_524 dL_law_525 dL_law_526 ?_
  refine q_arg F w hX hbl hbA hl (j := 2) (by omega) hL rfl dL_law_527 dL_law_528 dL_law_529 dL_law_530 dL_law_531 ?_
  refine q_call (rest := []) (As := [.int (xs (i + 1)), .int (xs (i + 2))]) (fine_law a1 a2 a3 q0 v0 q1 v1 q2 v2) hXX F w (hC x1) hc ((gL_law_X7_ifRun).tr lw_in) rfl (nA0 := 2) (by decide +kernel) rfl ⟨Nat.le_of_ble_eq_true rfl, Nat.le_of_ble_eq_true rfl⟩ hcs rfl hl rfl (Nat.le_of_ble_eq_true rfl) dL_law_532 (fun r1 w1 H locs hv w => ?_)
  obtain ⟨rfl, hc⟩ := hv
  have w := w.perm List.perm_append_comm
  refine lv_aload_n F.1 F.2.1 dL_law_535 rfl (lv_at hl 2 rfl) ?_
  refine q_arg F w hX hbl hbA hl (j := 1) (by omega) hL rfl dL_law_536 dL_law_537 dL_law_538 dL_law_539 dL_law_540 ?_
  refine q_arg F w hX hbl hbA hl (j := 2) (by omega) hL rfl dL_law_541 dL_law_542 dL_law_543 dL_law_544 dL_law_545 ?_
  refine q_call (rest := [.int _]) (As := [.int (xs (i + 1)), .int (xs (i + 2))]) (fine_law a1 a2 a3 q0 v0 q1 v1 q2 v2) hXX F w (hR x2) hr ((gL_law_X8_ifRun).tr lw_in) rfl (nA0 := 2) (by decide +kernel) rfl ⟨Nat.le_of_ble_eq_true rfl, Nat.le_of_ble_eq_true rfl⟩ hcs rfl hl rfl (Nat.le_of_ble_eq_true rfl) dL_law_546 (fun r1 w1 H locs hv w => ?_)
  obtain ⟨rfl, hr⟩ := hv
  have w := w.perm List.perm_append_comm
  refine lv_icmp_eq (tgt := 672) F.1 F.2.1 dL_law_549 (by decide) (fun _ => ?_) (fun q => absurd rfl q)
  exact kk P' tl' T' n' h' _ _ H locs hS' hc hr w
set_option maxHeartbeats 4000000 in
theorem lawc_16 {P : Nat → Nat} {tl : Nat} {T : Nat → Nat} {n : Nat} {h : Nat → Nat → Nat} {wsc wsr : va_W} (a1 a2 a3 q0 v0 q1 v1 q2 v2 : Nat) (F : Fx p s m args meth c cL_law 4 RL lw_tbl ret) (hXX : lawX a1 a2 a3 q0 v0 q1 v1 q2 v2 A s s.heap) (hX : va_X b L xs s s.heap) (hbl : b < s.heap.size) (hbA : ¬ A b) (hL : L < 2 ^ 31) (hi : i + 4 < L) (hcs : cells ≤ room_1.cells ∧ slots ≤ room_1.slots) (hS : SInv P tl T n h) (hc : CS G x1 P tl T n h wsc) (hr : RS G x2 P tl T n h wsr) (w : Wd G s A (wsc ++ wsr) H locs) (hl : lv_has ls 4 [(0, .ref b), (1, .ref x1), (2, .ref x2), (3, .int (nI i))])
    (kk : ∀ (P' : Nat → Nat) (tl' : Nat) (T' : Nat → Nat) (n' : Nat) (h' : Nat → Nat → Nat) (wsc' wsr' : va_W) (H1 : Heap) (locs1 : List Loc), SInv P' tl' T' n' h' → CS G x1 P' tl' T' n' h' wsc' → RS G x2 P' tl' T' n' h' wsr' → Wd G s A (wsc' ++ wsr') H1 locs1 → W p l e room_1 s m args below meth c H1 locs1 cells slots Q (F0 m 672 ls [])) : W p l e room_1 s m args below meth c H locs cells slots Q (F0 m 554 ls []) := by
  obtain ⟨an, P', tl', T', n', h', hS', hC, hR⟩ := pr_ticksTo l G a1 a2 a3 q0 v0 q1 v1 q2 v2 hS (xs (i + 1))
  refine lv_aload_n F.1 F.2.1 dL_law_554 rfl (lv_at hl 1 rfl) ?_
  refine q_arg F w hX hbl hbA hl (j := 1) (by omega) hL rfl dL_law_555 dL_law_556 dL_law_557 dL_law_558 dL_law_559 ?_
  refine q_call (rest := []) (As := [.int (xs (i + 1))]) (fine_law a1 a2 a3 q0 v0 q1 v1 q2 v2) hXX F w (hC x1) hc ((gL_law_X7_ticksTo).tr lw_in) rfl (nA0 := 1) (by decide +kernel) rfl ⟨Nat.le_of_ble_eq_true rfl, Nat.le_of_ble_eq_true rfl⟩ hcs rfl hl rfl (Nat.le_of_ble_eq_true rfl) dL_law_560 (fun r1 w1 H locs hv w => ?_)
  obtain ⟨rfl, hc⟩ := hv
  have w := w.perm List.perm_append_comm
  refine lv_aload_n F.1 F.2.1 dL_law_563 rfl (lv_at hl 2 rfl) ?_
  refine q_arg F w hX hbl hbA hl (j := 1) (by omega) hL rfl dL_law_564 dL_law_565 dL_law_566 dL_law_567 dL_law_568 ?_
  refine q_call (rest := [.int _]) (As := [.int (xs (i + 1))]) (fine_law a1 a2 a3 q0 v0 q1 v1 q2 v2) hXX F w (hR x2) hr ((gL_law_X8_ticksTo).tr lw_in) rfl (nA0 := 1) (by decide +kernel) rfl ⟨Nat.le_of_ble_eq_true rfl, Nat.le_of_ble_eq_true rfl⟩ hcs rfl hl rfl (Nat.le_of_ble_eq_true rfl) dL_law_569 (fun r1 w1 H locs hv w => ?_)
  obtain ⟨rfl, hr⟩ := hv
  have w := w.perm List.perm_append_comm
  refine lv_icmp_eq (tgt := 672) F.1 F.2.1 dL_law_572 (by decide) (fun _ => ?_) (fun q => absurd rfl q)
  exact kk P' tl' T' n' h' _ _ H locs hS' hc hr w
set_option maxHeartbeats 4000000 in
theorem lawc_17 {P : Nat → Nat} {tl : Nat} {T : Nat → Nat} {n : Nat} {h : Nat → Nat → Nat} {wsc wsr : va_W} (a1 a2 a3 q0 v0 q1 v1 q2 v2 : Nat) (F : Fx p s m args meth c cL_law 4 RL lw_tbl ret) (hXX : lawX a1 a2 a3 q0 v0 q1 v1 q2 v2 A s s.heap) (hX : va_X b L xs s s.heap) (hbl : b < s.heap.size) (hbA : ¬ A b) (hL : L < 2 ^ 31) (hi : i + 4 < L) (hcs : cells ≤ room_1.cells ∧ slots ≤ room_1.slots) (hS : SInv P tl T n h) (hc : CS G x1 P tl T n h wsc) (hr : RS G x2 P tl T n h wsr) (w : Wd G s A (wsc ++ wsr) H locs) (hl : lv_has ls 4 [(0, .ref b), (1, .ref x1), (2, .ref x2), (3, .int (nI i))])
    (kk : ∀ (P' : Nat → Nat) (tl' : Nat) (T' : Nat → Nat) (n' : Nat) (h' : Nat → Nat → Nat) (wsc' wsr' : va_W) (H1 : Heap) (locs1 : List Loc), SInv P' tl' T' n' h' → CS G x1 P' tl' T' n' h' wsc' → RS G x2 P' tl' T' n' h' wsr' → Wd G s A (wsc' ++ wsr') H1 locs1 → W p l e room_1 s m args below meth c H1 locs1 cells slots Q (F0 m 672 ls [])) : W p l e room_1 s m args below meth c H locs cells slots Q (F0 m 577 ls []) := by
  obtain ⟨an, P', tl', T', n', h', hS', hC, hR⟩ := pr_flowFor l G a1 a2 a3 q0 v0 q1 v1 q2 v2 hS (xs (i + 1))
  refine lv_aload_n F.1 F.2.1 dL_law_577 rfl (lv_at hl 1 rfl) ?_
  refine q_arg F w hX hbl hbA hl (j := 1) (by omega) hL rfl dL_law_578 dL_law_579 dL_law_580 dL_law_581 dL_law_582 ?_
  refine q_call (rest := []) (As := [.int (xs (i + 1))]) (fine_law a1 a2 a3 q0 v0 q1 v1 q2 v2) hXX F w (hC x1) hc ((gL_law_X7_flowFor).tr lw_in) rfl (nA0 := 1) (by decide +kernel) rfl ⟨Nat.le_of_ble_eq_true rfl, Nat.le_of_ble_eq_true rfl⟩ hcs rfl hl rfl (Nat.le_of_ble_eq_true rfl) dL_law_583 (fun r1 w1 H locs hv w => ?_)
  obtain ⟨rfl, hc⟩ := hv
  have w := w.perm List.perm_append_comm
  refine lv_aload_n F.1 F.2.1 dL_law_586 rfl (lv_at hl 2 rfl) ?_
  refine q_arg F w hX hbl hbA hl (j := 1) (by omega) hL rfl dL_law_587 dL_law_588 dL_law_589 dL_law_590 dL_law_591 ?_
  refine q_call (rest := [.int _]) (As := [.int (xs (i + 1))]) (fine_law a1 a2 a3 q0 v0 q1 v1 q2 v2) hXX F w (hR x2) hr ((gL_law_X8_flowFor).tr lw_in) rfl (nA0 := 1) (by decide +kernel) rfl ⟨Nat.le_of_ble_eq_true rfl, Nat.le_of_ble_eq_true rfl⟩ hcs rfl hl rfl (Nat.le_of_ble_eq_true rfl) dL_law_592 (fun r1 w1 H locs hv w => ?_)
  obtain ⟨rfl, hr⟩ := hv
  have w := w.perm List.perm_append_comm
  refine lv_icmp_eq (tgt := 672) F.1 F.2.1 dL_law_595 (by decide) (fun _ => ?_) (fun q => absurd rfl q)
  exact kk P' tl' T' n' h' _ _ H locs hS' hc hr w
set_option maxHeartbeats 4000000 in
theorem lawc_18 {P : Nat → Nat} {tl : Nat} {T : Nat → Nat} {n : Nat} {h : Nat → Nat → Nat} {wsc wsr : va_W} (a1 a2 a3 q0 v0 q1 v1 q2 v2 : Nat) (F : Fx p s m args meth c cL_law 4 RL lw_tbl ret) (hXX : lawX a1 a2 a3 q0 v0 q1 v1 q2 v2 A s s.heap) (hX : va_X b L xs s s.heap) (hbl : b < s.heap.size) (hbA : ¬ A b) (hL : L < 2 ^ 31) (hi : i + 4 < L) (hcs : cells ≤ room_1.cells ∧ slots ≤ room_1.slots) (hS : SInv P tl T n h) (hc : CS G x1 P tl T n h wsc) (hr : RS G x2 P tl T n h wsr) (w : Wd G s A (wsc ++ wsr) H locs) (hl : lv_has ls 4 [(0, .ref b), (1, .ref x1), (2, .ref x2), (3, .int (nI i))])
    (kk : ∀ (P' : Nat → Nat) (tl' : Nat) (T' : Nat → Nat) (n' : Nat) (h' : Nat → Nat → Nat) (wsc' wsr' : va_W) (H1 : Heap) (locs1 : List Loc), SInv P' tl' T' n' h' → CS G x1 P' tl' T' n' h' wsc' → RS G x2 P' tl' T' n' h' wsr' → Wd G s A (wsc' ++ wsr') H1 locs1 → W p l e room_1 s m args below meth c H1 locs1 cells slots Q (F0 m 672 ls [])) : W p l e room_1 s m args below meth c H locs cells slots Q (F0 m 600 ls []) := by
  obtain ⟨an, P', tl', T', n', h', hS', hC, hR⟩ := pr_type l G a1 a2 a3 q0 v0 q1 v1 q2 v2 hS (xs (i + 1))
  refine lv_aload_n F.1 F.2.1 dL_law_600 rfl (lv_at hl 1 rfl) ?_
  refine q_arg F w hX hbl hbA hl (j := 1) (by omega) hL rfl dL_law_601 dL_law_602 dL_law_603 dL_law_604 dL_law_605 ?_
  refine q_call (rest := []) (As := [.int (xs (i + 1))]) (fine_law a1 a2 a3 q0 v0 q1 v1 q2 v2) hXX F w (hC x1) hc ((gL_law_X7_type).tr lw_in) rfl (nA0 := 1) (by decide +kernel) rfl ⟨Nat.le_of_ble_eq_true rfl, Nat.le_of_ble_eq_true rfl⟩ hcs rfl hl rfl (Nat.le_of_ble_eq_true rfl) dL_law_606 (fun r1 w1 H locs hv w => ?_)
  obtain ⟨rfl, hc⟩ := hv
  have w := w.perm List.perm_append_comm
  refine lv_aload_n F.1 F.2.1 dL_law_609 rfl (lv_at hl 2 rfl) ?_
  refine q_arg F w hX hbl hbA hl (j := 1) (by omega) hL rfl dL_law_610 dL_law_611 dL_law_612 dL_law_613 dL_law_614 ?_
  refine q_call (rest := [.int _]) (As := [.int (xs (i + 1))]) (fine_law a1 a2 a3 q0 v0 q1 v1 q2 v2) hXX F w (hR x2) hr ((gL_law_X8_type).tr lw_in) rfl (nA0 := 1) (by decide +kernel) rfl ⟨Nat.le_of_ble_eq_true rfl, Nat.le_of_ble_eq_true rfl⟩ hcs rfl hl rfl (Nat.le_of_ble_eq_true rfl) dL_law_615 (fun r1 w1 H locs hv w => ?_)
  obtain ⟨rfl, hr⟩ := hv
  have w := w.perm List.perm_append_comm
  refine lv_icmp_eq (tgt := 672) F.1 F.2.1 dL_law_618 (by decide) (fun _ => ?_) (fun q => absurd rfl q)
  exact kk P' tl' T' n' h' _ _ H locs hS' hc hr w
set_option maxHeartbeats 4000000 in
theorem lawc_19 {P : Nat → Nat} {tl : Nat} {T : Nat → Nat} {n : Nat} {h : Nat → Nat → Nat} {wsc wsr : va_W} (a1 a2 a3 q0 v0 q1 v1 q2 v2 : Nat) (F : Fx p s m args meth c cL_law 4 RL lw_tbl ret) (hXX : lawX a1 a2 a3 q0 v0 q1 v1 q2 v2 A s s.heap) (hX : va_X b L xs s s.heap) (hbl : b < s.heap.size) (hbA : ¬ A b) (hL : L < 2 ^ 31) (hi : i + 4 < L) (hcs : cells ≤ room_1.cells ∧ slots ≤ room_1.slots) (hS : SInv P tl T n h) (hc : CS G x1 P tl T n h wsc) (hr : RS G x2 P tl T n h wsr) (w : Wd G s A (wsc ++ wsr) H locs) (hl : lv_has ls 4 [(0, .ref b), (1, .ref x1), (2, .ref x2), (3, .int (nI i))])
    (kk : ∀ (P' : Nat → Nat) (tl' : Nat) (T' : Nat → Nat) (n' : Nat) (h' : Nat → Nat → Nat) (wsc' wsr' : va_W) (H1 : Heap) (locs1 : List Loc), SInv P' tl' T' n' h' → CS G x1 P' tl' T' n' h' wsc' → RS G x2 P' tl' T' n' h' wsr' → Wd G s A (wsc' ++ wsr') H1 locs1 → W p l e room_1 s m args below meth c H1 locs1 cells slots Q (F0 m 672 ls [])) : W p l e room_1 s m args below meth c H locs cells slots Q (F0 m 623 ls []) := by
  obtain ⟨an, P', tl', T', n', h', hS', hC, hR⟩ := pr_clearText l G a1 a2 a3 q0 v0 q1 v1 q2 v2 hS 
  refine lv_aload_n F.1 F.2.1 dL_law_623 rfl (lv_at hl 1 rfl) ?_
  refine q_call (rest := []) (As := []) (fine_law a1 a2 a3 q0 v0 q1 v1 q2 v2) hXX F w (hC x1) hc ((gL_law_X7_clearText).tr lw_in) rfl (nA0 := 0) (by decide +kernel) rfl ⟨Nat.le_of_ble_eq_true rfl, Nat.le_of_ble_eq_true rfl⟩ hcs rfl hl rfl (Nat.le_of_ble_eq_true rfl) dL_law_624 (fun r1 w1 H locs hv w => ?_)
  obtain ⟨rfl, hc⟩ := hv
  have w := w.perm List.perm_append_comm
  refine lv_aload_n F.1 F.2.1 dL_law_627 rfl (lv_at hl 2 rfl) ?_
  refine q_call (rest := [.int _]) (As := []) (fine_law a1 a2 a3 q0 v0 q1 v1 q2 v2) hXX F w (hR x2) hr ((gL_law_X8_clearText).tr lw_in) rfl (nA0 := 0) (by decide +kernel) rfl ⟨Nat.le_of_ble_eq_true rfl, Nat.le_of_ble_eq_true rfl⟩ hcs rfl hl rfl (Nat.le_of_ble_eq_true rfl) dL_law_628 (fun r1 w1 H locs hv w => ?_)
  obtain ⟨rfl, hr⟩ := hv
  have w := w.perm List.perm_append_comm
  refine lv_icmp_eq (tgt := 672) F.1 F.2.1 dL_law_631 (by decide) (fun _ => ?_) (fun q => absurd rfl q)
  exact kk P' tl' T' n' h' _ _ H locs hS' hc hr w
set_option maxHeartbeats 4000000 in
theorem lawc_20 {P : Nat → Nat} {tl : Nat} {T : Nat → Nat} {n : Nat} {h : Nat → Nat → Nat} {wsc wsr : va_W} (a1 a2 a3 q0 v0 q1 v1 q2 v2 : Nat) (F : Fx p s m args meth c cL_law 4 RL lw_tbl ret) (hXX : lawX a1 a2 a3 q0 v0 q1 v1 q2 v2 A s s.heap) (hX : va_X b L xs s s.heap) (hbl : b < s.heap.size) (hbA : ¬ A b) (hL : L < 2 ^ 31) (hi : i + 4 < L) (hcs : cells ≤ room_1.cells ∧ slots ≤ room_1.slots) (hS : SInv P tl T n h) (hc : CS G x1 P tl T n h wsc) (hr : RS G x2 P tl T n h wsr) (w : Wd G s A (wsc ++ wsr) H locs) (hl : lv_has ls 4 [(0, .ref b), (1, .ref x1), (2, .ref x2), (3, .int (nI i))])
    (kk : ∀ (P' : Nat → Nat) (tl' : Nat) (T' : Nat → Nat) (n' : Nat) (h' : Nat → Nat → Nat) (wsc' wsr' : va_W) (H1 : Heap) (locs1 : List Loc), SInv P' tl' T' n' h' → CS G x1 P' tl' T' n' h' wsc' → RS G x2 P' tl' T' n' h' wsr' → Wd G s A (wsc' ++ wsr') H1 locs1 → W p l e room_1 s m args below meth c H1 locs1 cells slots Q (F0 m 672 ls [])) : W p l e room_1 s m args below meth c H locs cells slots Q (F0 m 636 ls []) := by
  obtain ⟨an, P', tl', T', n', h', hS', hC, hR⟩ := pr_fault l G a1 a2 a3 q0 v0 q1 v1 q2 v2 hS (xs (i + 1))
  refine lv_aload_n F.1 F.2.1 dL_law_636 rfl (lv_at hl 1 rfl) ?_
  refine q_arg F w hX hbl hbA hl (j := 1) (by omega) hL rfl dL_law_637 dL_law_638 dL_law_639 dL_law_640 dL_law_641 ?_
  refine q_call (rest := []) (As := [.int (xs (i + 1))]) (fine_law a1 a2 a3 q0 v0 q1 v1 q2 v2) hXX F w (hC x1) hc ((gL_law_X7_fault).tr lw_in) rfl (nA0 := 1) (by decide +kernel) rfl ⟨Nat.le_of_ble_eq_true rfl, Nat.le_of_ble_eq_true rfl⟩ hcs rfl hl rfl (Nat.le_of_ble_eq_true rfl) dL_law_642 (fun r1 w1 H locs hv w => ?_)
  obtain ⟨rfl, hc⟩ := hv
  have w := w.perm List.perm_append_comm
  refine lv_aload_n F.1 F.2.1 dL_law_645 rfl (lv_at hl 2 rfl) ?_
  refine q_arg F w hX hbl hbA hl (j := 1) (by omega) hL rfl dL_law_646 dL_law_647 dL_law_648 dL_law_649 dL_law_650 ?_
  refine q_call (rest := [.int _]) (As := [.int (xs (i + 1))]) (fine_law a1 a2 a3 q0 v0 q1 v1 q2 v2) hXX F w (hR x2) hr ((gL_law_X8_fault).tr lw_in) rfl (nA0 := 1) (by decide +kernel) rfl ⟨Nat.le_of_ble_eq_true rfl, Nat.le_of_ble_eq_true rfl⟩ hcs rfl hl rfl (Nat.le_of_ble_eq_true rfl) dL_law_651 (fun r1 w1 H locs hv w => ?_)
  obtain ⟨rfl, hr⟩ := hv
  have w := w.perm List.perm_append_comm
  refine lv_icmp_eq (tgt := 672) F.1 F.2.1 dL_law_654 (by decide) (fun _ => ?_) (fun q => absurd rfl q)
  exact kk P' tl' T' n' h' _ _ H locs hS' hc hr w
set_option maxHeartbeats 4000000 in
theorem lawc_21 {P : Nat → Nat} {tl : Nat} {T : Nat → Nat} {n : Nat} {h : Nat → Nat → Nat} {wsc wsr : va_W} (a1 a2 a3 q0 v0 q1 v1 q2 v2 : Nat) (F : Fx p s m args meth c cL_law 4 RL lw_tbl ret) (hXX : lawX a1 a2 a3 q0 v0 q1 v1 q2 v2 A s s.heap) (hX : va_X b L xs s s.heap) (hbl : b < s.heap.size) (hbA : ¬ A b) (hL : L < 2 ^ 31) (hi : i + 4 < L) (hcs : cells ≤ room_1.cells ∧ slots ≤ room_1.slots) (hS : SInv P tl T n h) (hc : CS G x1 P tl T n h wsc) (hr : RS G x2 P tl T n h wsr) (w : Wd G s A (wsc ++ wsr) H locs) (hl : lv_has ls 4 [(0, .ref b), (1, .ref x1), (2, .ref x2), (3, .int (nI i))])
    (kk : ∀ (P' : Nat → Nat) (tl' : Nat) (T' : Nat → Nat) (n' : Nat) (h' : Nat → Nat → Nat) (wsc' wsr' : va_W) (H1 : Heap) (locs1 : List Loc), SInv P' tl' T' n' h' → CS G x1 P' tl' T' n' h' wsc' → RS G x2 P' tl' T' n' h' wsr' → Wd G s A (wsc' ++ wsr') H1 locs1 → W p l e room_1 s m args below meth c H1 locs1 cells slots Q (F0 m 672 ls [])) : W p l e room_1 s m args below meth c H locs cells slots Q (F0 m 659 ls []) := by
  obtain ⟨an, P', tl', T', n', h', hS', hC, hR⟩ := pr_lay l G a1 a2 a3 q0 v0 q1 v1 q2 v2 hS 
  refine lv_aload_n F.1 F.2.1 dL_law_659 rfl (lv_at hl 1 rfl) ?_
  refine q_call (rest := []) (As := []) (fine_law a1 a2 a3 q0 v0 q1 v1 q2 v2) hXX F w (hC x1) hc ((gL_law_X7_lay).tr lw_in) rfl (nA0 := 0) (by decide +kernel) rfl ⟨Nat.le_of_ble_eq_true rfl, Nat.le_of_ble_eq_true rfl⟩ hcs rfl hl rfl (Nat.le_of_ble_eq_true rfl) dL_law_660 (fun r1 w1 H locs hv w => ?_)
  obtain ⟨rfl, hc⟩ := hv
  have w := w.perm List.perm_append_comm
  refine lv_aload_n F.1 F.2.1 dL_law_663 rfl (lv_at hl 2 rfl) ?_
  refine q_call (rest := [.int _]) (As := []) (fine_law a1 a2 a3 q0 v0 q1 v1 q2 v2) hXX F w (hR x2) hr ((gL_law_X8_lay).tr lw_in) rfl (nA0 := 0) (by decide +kernel) rfl ⟨Nat.le_of_ble_eq_true rfl, Nat.le_of_ble_eq_true rfl⟩ hcs rfl hl rfl (Nat.le_of_ble_eq_true rfl) dL_law_664 (fun r1 w1 H locs hv w => ?_)
  obtain ⟨rfl, hr⟩ := hv
  have w := w.perm List.perm_append_comm
  refine lv_icmp_eq (tgt := 672) F.1 F.2.1 dL_law_667 (by decide) (fun _ => ?_) (fun q => absurd rfl q)
  exact kk P' tl' T' n' h' _ _ H locs hS' hc hr w
end LAWS
