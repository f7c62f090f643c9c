section
-- ===== PART A: goes FIRST, ahead of the names: the tables' words, and 'selects' of the private methods out of them =====
/-- a private method of a class that the tables say can be made, by its rows of tables_1 -/
def lw_okq (q : MethodName × Nat) : Prop := (q.1.cls ≠ "java/lang/invoke/MethodHandle" ∧ q.1.cls ≠ "java/lang/invoke/VarHandle") ∧ Cond.instantiable q.1.cls q.2 ∈ tables_1 ∧ Cond.privateMethod q.1 ∈ tables_1 ∧ Cond.instanceMethod q.1 ∈ tables_1
theorem lw_p0 : lw_okq (⟨"CoreMelter$Plate", "reasonToStop", "()I"⟩, 15) := ⟨⟨by decide +kernel, by decide +kernel⟩, List.mem_of_getElem? (i := 26) (by decide +kernel), List.mem_of_getElem? (i := 424) (by decide +kernel), List.mem_of_getElem? (i := 425) (by decide +kernel)⟩
theorem lw_p1 : lw_okq (⟨"CoreMelter$Plate", "melt", "()V"⟩, 15) := ⟨⟨by decide +kernel, by decide +kernel⟩, List.mem_of_getElem? (i := 26) (by decide +kernel), List.mem_of_getElem? (i := 432) (by decide +kernel), List.mem_of_getElem? (i := 433) (by decide +kernel)⟩
theorem lw_p2 : lw_okq (⟨"CoreMelter$Plate", "meltIn", "(I)V"⟩, 15) := ⟨⟨by decide +kernel, by decide +kernel⟩, List.mem_of_getElem? (i := 26) (by decide +kernel), List.mem_of_getElem? (i := 438) (by decide +kernel), List.mem_of_getElem? (i := 439) (by decide +kernel)⟩
theorem lw_p3 : lw_okq (⟨"CoreMelter$Plate", "draw", "(I)V"⟩, 15) := ⟨⟨by decide +kernel, by decide +kernel⟩, List.mem_of_getElem? (i := 26) (by decide +kernel), List.mem_of_getElem? (i := 450) (by decide +kernel), List.mem_of_getElem? (i := 451) (by decide +kernel)⟩
theorem lw_p4 : lw_okq (⟨"CoreMelter$Plate", "raiseTold", "()V"⟩, 15) := ⟨⟨by decide +kernel, by decide +kernel⟩, List.mem_of_getElem? (i := 26) (by decide +kernel), List.mem_of_getElem? (i := 463) (by decide +kernel), List.mem_of_getElem? (i := 464) (by decide +kernel)⟩
theorem lw_p5 : lw_okq (⟨"CoreMelter$Reading", "readSegment", "(LCoreMelter$Text;)V"⟩, 6) := ⟨⟨by decide +kernel, by decide +kernel⟩, List.mem_of_getElem? (i := 231) (by decide +kernel), List.mem_of_getElem? (i := 550) (by decide +kernel), List.mem_of_getElem? (i := 551) (by decide +kernel)⟩
theorem lw_p6 : lw_okq (⟨"CoreMelter$Reading", "readWord", "(LCoreMelter$Text;)I"⟩, 6) := ⟨⟨by decide +kernel, by decide +kernel⟩, List.mem_of_getElem? (i := 231) (by decide +kernel), List.mem_of_getElem? (i := 554) (by decide +kernel), List.mem_of_getElem? (i := 555) (by decide +kernel)⟩
theorem lw_p7 : lw_okq (⟨"CoreMelter$Reading", "readNumbers", "(LCoreMelter$Text;I)I"⟩, 6) := ⟨⟨by decide +kernel, by decide +kernel⟩, List.mem_of_getElem? (i := 231) (by decide +kernel), List.mem_of_getElem? (i := 621) (by decide +kernel), List.mem_of_getElem? (i := 622) (by decide +kernel)⟩
theorem lw_p8 : lw_okq (⟨"CoreMelter$Reading", "readNumber", "(LCoreMelter$Text;)I"⟩, 6) := ⟨⟨by decide +kernel, by decide +kernel⟩, List.mem_of_getElem? (i := 231) (by decide +kernel), List.mem_of_getElem? (i := 631) (by decide +kernel), List.mem_of_getElem? (i := 632) (by decide +kernel)⟩
theorem lw_p9 : lw_okq (⟨"CoreMelterModel", "record", "()V"⟩, 11) := ⟨⟨by decide +kernel, by decide +kernel⟩, List.mem_of_getElem? (i := 644) (by decide +kernel), List.mem_of_getElem? (i := 697) (by decide +kernel), List.mem_of_getElem? (i := 698) (by decide +kernel)⟩
theorem lw_p10 : lw_okq (⟨"CoreMelterModel", "puts", "(IIII)V"⟩, 11) := ⟨⟨by decide +kernel, by decide +kernel⟩, List.mem_of_getElem? (i := 644) (by decide +kernel), List.mem_of_getElem? (i := 704) (by decide +kernel), List.mem_of_getElem? (i := 705) (by decide +kernel)⟩
theorem lw_p11 : lw_okq (⟨"CoreMelterModel", "isSegment", "(I)Z"⟩, 11) := ⟨⟨by decide +kernel, by decide +kernel⟩, List.mem_of_getElem? (i := 644) (by decide +kernel), List.mem_of_getElem? (i := 712) (by decide +kernel), List.mem_of_getElem? (i := 713) (by decide +kernel)⟩
theorem lw_p12 : lw_okq (⟨"CoreMelterModel", "of", "(II)I"⟩, 11) := ⟨⟨by decide +kernel, by decide +kernel⟩, List.mem_of_getElem? (i := 644) (by decide +kernel), List.mem_of_getElem? (i := 716) (by decide +kernel), List.mem_of_getElem? (i := 717) (by decide +kernel)⟩
theorem lw_p13 : lw_okq (⟨"CoreMelterModel", "lower", "(I)I"⟩, 11) := ⟨⟨by decide +kernel, by decide +kernel⟩, List.mem_of_getElem? (i := 644) (by decide +kernel), List.mem_of_getElem? (i := 720) (by decide +kernel), List.mem_of_getElem? (i := 721) (by decide +kernel)⟩
theorem lw_p14 : lw_okq (⟨"CoreMelterModel", "melted", "(I)I"⟩, 11) := ⟨⟨by decide +kernel, by decide +kernel⟩, List.mem_of_getElem? (i := 644) (by decide +kernel), List.mem_of_getElem? (i := 724) (by decide +kernel), List.mem_of_getElem? (i := 725) (by decide +kernel)⟩
theorem lw_p15 : lw_okq (⟨"CoreMelterModel", "segmentOf", "(I)I"⟩, 11) := ⟨⟨by decide +kernel, by decide +kernel⟩, List.mem_of_getElem? (i := 644) (by decide +kernel), List.mem_of_getElem? (i := 735) (by decide +kernel), List.mem_of_getElem? (i := 736) (by decide +kernel)⟩
def lw_privs_1 : List (MethodName × Nat) := [(⟨"CoreMelter$Plate", "reasonToStop", "()I"⟩, 15), (⟨"CoreMelter$Plate", "melt", "()V"⟩, 15), (⟨"CoreMelter$Plate", "meltIn", "(I)V"⟩, 15), (⟨"CoreMelter$Plate", "draw", "(I)V"⟩, 15), (⟨"CoreMelter$Plate", "raiseTold", "()V"⟩, 15), (⟨"CoreMelter$Reading", "readSegment", "(LCoreMelter$Text;)V"⟩, 6), (⟨"CoreMelter$Reading", "readWord", "(LCoreMelter$Text;)I"⟩, 6), (⟨"CoreMelter$Reading", "readNumbers", "(LCoreMelter$Text;I)I"⟩, 6), (⟨"CoreMelter$Reading", "readNumber", "(LCoreMelter$Text;)I"⟩, 6), (⟨"CoreMelterModel", "record", "()V"⟩, 11), (⟨"CoreMelterModel", "puts", "(IIII)V"⟩, 11), (⟨"CoreMelterModel", "isSegment", "(I)Z"⟩, 11), (⟨"CoreMelterModel", "of", "(II)I"⟩, 11), (⟨"CoreMelterModel", "lower", "(I)I"⟩, 11), (⟨"CoreMelterModel", "melted", "(I)I"⟩, 11), (⟨"CoreMelterModel", "segmentOf", "(I)I"⟩, 11)]
theorem lw_r1 : ∀ q ∈ lw_privs_1, lw_okq q := List.forall_mem_cons.mpr ⟨lw_p0, List.forall_mem_cons.mpr ⟨lw_p1, List.forall_mem_cons.mpr ⟨lw_p2, List.forall_mem_cons.mpr ⟨lw_p3, List.forall_mem_cons.mpr ⟨lw_p4, List.forall_mem_cons.mpr ⟨lw_p5, List.forall_mem_cons.mpr ⟨lw_p6, List.forall_mem_cons.mpr ⟨lw_p7, List.forall_mem_cons.mpr ⟨lw_p8, List.forall_mem_cons.mpr ⟨lw_p9, List.forall_mem_cons.mpr ⟨lw_p10, List.forall_mem_cons.mpr ⟨lw_p11, List.forall_mem_cons.mpr ⟨lw_p12, List.forall_mem_cons.mpr ⟨lw_p13, List.forall_mem_cons.mpr ⟨lw_p14, List.forall_mem_cons.mpr ⟨lw_p15, fun _ h => absurd h List.not_mem_nil⟩⟩⟩⟩⟩⟩⟩⟩⟩⟩⟩⟩⟩⟩⟩⟩
theorem lw_p16 : lw_okq (⟨"CoreMelterModel", "length", "()I"⟩, 11) := ⟨⟨by decide +kernel, by decide +kernel⟩, List.mem_of_getElem? (i := 644) (by decide +kernel), List.mem_of_getElem? (i := 743) (by decide +kernel), List.mem_of_getElem? (i := 744) (by decide +kernel)⟩
theorem lw_p17 : lw_okq (⟨"CoreMelterModel", "water", "(I)I"⟩, 11) := ⟨⟨by decide +kernel, by decide +kernel⟩, List.mem_of_getElem? (i := 644) (by decide +kernel), List.mem_of_getElem? (i := 747) (by decide +kernel), List.mem_of_getElem? (i := 748) (by decide +kernel)⟩
theorem lw_p18 : lw_okq (⟨"CoreMelterModel", "ofLine", "(II)I"⟩, 11) := ⟨⟨by decide +kernel, by decide +kernel⟩, List.mem_of_getElem? (i := 644) (by decide +kernel), List.mem_of_getElem? (i := 770) (by decide +kernel), List.mem_of_getElem? (i := 771) (by decide +kernel)⟩
theorem lw_p19 : lw_okq (⟨"CoreMelterModel", "goBy", "(I)V"⟩, 11) := ⟨⟨by decide +kernel, by decide +kernel⟩, List.mem_of_getElem? (i := 644) (by decide +kernel), List.mem_of_getElem? (i := 778) (by decide +kernel), List.mem_of_getElem? (i := 779) (by decide +kernel)⟩
theorem lw_p20 : lw_okq (⟨"CoreMelterModel", "tick", "()V"⟩, 11) := ⟨⟨by decide +kernel, by decide +kernel⟩, List.mem_of_getElem? (i := 644) (by decide +kernel), List.mem_of_getElem? (i := 782) (by decide +kernel), List.mem_of_getElem? (i := 783) (by decide +kernel)⟩
theorem lw_p21 : lw_okq (⟨"CoreMelterModel", "reasonNow", "(I)I"⟩, 11) := ⟨⟨by decide +kernel, by decide +kernel⟩, List.mem_of_getElem? (i := 644) (by decide +kernel), List.mem_of_getElem? (i := 786) (by decide +kernel), List.mem_of_getElem? (i := 787) (by decide +kernel)⟩
theorem lw_p22 : lw_okq (⟨"CoreMelterModel", "stuck", "()I"⟩, 11) := ⟨⟨by decide +kernel, by decide +kernel⟩, List.mem_of_getElem? (i := 644) (by decide +kernel), List.mem_of_getElem? (i := 790) (by decide +kernel), List.mem_of_getElem? (i := 791) (by decide +kernel)⟩
theorem lw_p23 : lw_okq (⟨"CoreMelterModel", "melts", "(I)V"⟩, 11) := ⟨⟨by decide +kernel, by decide +kernel⟩, List.mem_of_getElem? (i := 644) (by decide +kernel), List.mem_of_getElem? (i := 794) (by decide +kernel), List.mem_of_getElem? (i := 795) (by decide +kernel)⟩
theorem lw_p24 : lw_okq (⟨"CoreMelterModel", "unit", "(I)V"⟩, 11) := ⟨⟨by decide +kernel, by decide +kernel⟩, List.mem_of_getElem? (i := 644) (by decide +kernel), List.mem_of_getElem? (i := 798) (by decide +kernel), List.mem_of_getElem? (i := 799) (by decide +kernel)⟩
theorem lw_p25 : lw_okq (⟨"CoreMelterModel", "draws", "(I)V"⟩, 11) := ⟨⟨by decide +kernel, by decide +kernel⟩, List.mem_of_getElem? (i := 644) (by decide +kernel), List.mem_of_getElem? (i := 802) (by decide +kernel), List.mem_of_getElem? (i := 803) (by decide +kernel)⟩
theorem lw_p26 : lw_okq (⟨"CoreMelterModel", "seals", "()V"⟩, 11) := ⟨⟨by decide +kernel, by decide +kernel⟩, List.mem_of_getElem? (i := 644) (by decide +kernel), List.mem_of_getElem? (i := 806) (by decide +kernel), List.mem_of_getElem? (i := 807) (by decide +kernel)⟩
theorem lw_p27 : lw_okq (⟨"CoreMelterModel", "told", "()I"⟩, 11) := ⟨⟨by decide +kernel, by decide +kernel⟩, List.mem_of_getElem? (i := 644) (by decide +kernel), List.mem_of_getElem? (i := 810) (by decide +kernel), List.mem_of_getElem? (i := 811) (by decide +kernel)⟩
theorem lw_p28 : lw_okq (⟨"CoreMelterModel", "isVial", "(I)Z"⟩, 11) := ⟨⟨by decide +kernel, by decide +kernel⟩, List.mem_of_getElem? (i := 644) (by decide +kernel), List.mem_of_getElem? (i := 834) (by decide +kernel), List.mem_of_getElem? (i := 835) (by decide +kernel)⟩
theorem lw_p29 : lw_okq (⟨"CoreMelterModel", "differs", "(I)I"⟩, 11) := ⟨⟨by decide +kernel, by decide +kernel⟩, List.mem_of_getElem? (i := 644) (by decide +kernel), List.mem_of_getElem? (i := 846) (by decide +kernel), List.mem_of_getElem? (i := 847) (by decide +kernel)⟩
theorem lw_p30 : lw_okq (⟨"CoreMelterModel", "reads", "()I"⟩, 11) := ⟨⟨by decide +kernel, by decide +kernel⟩, List.mem_of_getElem? (i := 644) (by decide +kernel), List.mem_of_getElem? (i := 870) (by decide +kernel), List.mem_of_getElem? (i := 871) (by decide +kernel)⟩
theorem lw_p31 : lw_okq (⟨"CoreMelterModel", "readSegment", "(I)I"⟩, 11) := ⟨⟨by decide +kernel, by decide +kernel⟩, List.mem_of_getElem? (i := 644) (by decide +kernel), List.mem_of_getElem? (i := 874) (by decide +kernel), List.mem_of_getElem? (i := 875) (by decide +kernel)⟩
def lw_privs_2 : List (MethodName × Nat) := [(⟨"CoreMelterModel", "length", "()I"⟩, 11), (⟨"CoreMelterModel", "water", "(I)I"⟩, 11), (⟨"CoreMelterModel", "ofLine", "(II)I"⟩, 11), (⟨"CoreMelterModel", "goBy", "(I)V"⟩, 11), (⟨"CoreMelterModel", "tick", "()V"⟩, 11), (⟨"CoreMelterModel", "reasonNow", "(I)I"⟩, 11), (⟨"CoreMelterModel", "stuck", "()I"⟩, 11), (⟨"CoreMelterModel", "melts", "(I)V"⟩, 11), (⟨"CoreMelterModel", "unit", "(I)V"⟩, 11), (⟨"CoreMelterModel", "draws", "(I)V"⟩, 11), (⟨"CoreMelterModel", "seals", "()V"⟩, 11), (⟨"CoreMelterModel", "told", "()I"⟩, 11), (⟨"CoreMelterModel", "isVial", "(I)Z"⟩, 11), (⟨"CoreMelterModel", "differs", "(I)I"⟩, 11), (⟨"CoreMelterModel", "reads", "()I"⟩, 11), (⟨"CoreMelterModel", "readSegment", "(I)I"⟩, 11)]
theorem lw_r2 : ∀ q ∈ lw_privs_2, lw_okq q := List.forall_mem_cons.mpr ⟨lw_p16, List.forall_mem_cons.mpr ⟨lw_p17, List.forall_mem_cons.mpr ⟨lw_p18, List.forall_mem_cons.mpr ⟨lw_p19, List.forall_mem_cons.mpr ⟨lw_p20, List.forall_mem_cons.mpr ⟨lw_p21, List.forall_mem_cons.mpr ⟨lw_p22, List.forall_mem_cons.mpr ⟨lw_p23, List.forall_mem_cons.mpr ⟨lw_p24, List.forall_mem_cons.mpr ⟨lw_p25, List.forall_mem_cons.mpr ⟨lw_p26, List.forall_mem_cons.mpr ⟨lw_p27, List.forall_mem_cons.mpr ⟨lw_p28, List.forall_mem_cons.mpr ⟨lw_p29, List.forall_mem_cons.mpr ⟨lw_p30, List.forall_mem_cons.mpr ⟨lw_p31, fun _ h => absurd h List.not_mem_nil⟩⟩⟩⟩⟩⟩⟩⟩⟩⟩⟩⟩⟩⟩⟩⟩
theorem lw_p32 : lw_okq (⟨"CoreMelterModel", "readKind", "()I"⟩, 11) := ⟨⟨by decide +kernel, by decide +kernel⟩, List.mem_of_getElem? (i := 644) (by decide +kernel), List.mem_of_getElem? (i := 878) (by decide +kernel), List.mem_of_getElem? (i := 879) (by decide +kernel)⟩
theorem lw_p33 : lw_okq (⟨"CoreMelterModel", "here", "()I"⟩, 11) := ⟨⟨by decide +kernel, by decide +kernel⟩, List.mem_of_getElem? (i := 644) (by decide +kernel), List.mem_of_getElem? (i := 882) (by decide +kernel), List.mem_of_getElem? (i := 883) (by decide +kernel)⟩
theorem lw_p34 : lw_okq (⟨"CoreMelterModel", "fails", "(II)I"⟩, 11) := ⟨⟨by decide +kernel, by decide +kernel⟩, List.mem_of_getElem? (i := 644) (by decide +kernel), List.mem_of_getElem? (i := 892) (by decide +kernel), List.mem_of_getElem? (i := 893) (by decide +kernel)⟩
theorem lw_p35 : lw_okq (⟨"CoreMelterModel", "readNumber", "(I)Z"⟩, 11) := ⟨⟨by decide +kernel, by decide +kernel⟩, List.mem_of_getElem? (i := 644) (by decide +kernel), List.mem_of_getElem? (i := 896) (by decide +kernel), List.mem_of_getElem? (i := 897) (by decide +kernel)⟩
def lw_privs_3 : List (MethodName × Nat) := [(⟨"CoreMelterModel", "readKind", "()I"⟩, 11), (⟨"CoreMelterModel", "here", "()I"⟩, 11), (⟨"CoreMelterModel", "fails", "(II)I"⟩, 11), (⟨"CoreMelterModel", "readNumber", "(I)Z"⟩, 11)]
theorem lw_r3 : ∀ q ∈ lw_privs_3, lw_okq q := List.forall_mem_cons.mpr ⟨lw_p32, List.forall_mem_cons.mpr ⟨lw_p33, List.forall_mem_cons.mpr ⟨lw_p34, List.forall_mem_cons.mpr ⟨lw_p35, fun _ h => absurd h List.not_mem_nil⟩⟩⟩⟩
def lw_privs : List (MethodName × Nat) := lw_privs_1 ++ (lw_privs_2 ++ (lw_privs_3))
def lw_tbl : List Cond := k2_sels lw_privs ++ tables_1
theorem lw_privs_ok : ∀ q ∈ lw_privs, lw_okq q := by
  show ∀ q ∈ lw_privs_1 ++ (lw_privs_2 ++ (lw_privs_3)), lw_okq q
  exact List.forall_mem_append.mpr ⟨lw_r1, List.forall_mem_append.mpr ⟨lw_r2, lw_r3⟩⟩
end
section
/-! ===== BEGIN words of one list among another's, by their places ===== -/
theorem goodIn_r {big : List Cond} (ws : List Cond) (ps : List Nat) (hp : ws = ps.filterMap (fun i => big[i]?)) (h : ws.all goodWord = true) : GoodIn big ws := by
  intro w hw
  have h1 := List.all_eq_true.mp h w hw
  rw [hp] at hw
  obtain ⟨i, -, hi⟩ := List.mem_filterMap.mp hw
  have hm : w ∈ big := by first | exact List.mem_of_getElem? hi | exact List.getElem?_mem hi
  exact ⟨hm, good_of_word h1⟩
theorem goodIn_app {big a b : List Cond} (ha : GoodIn big a) (hb : GoodIn big b) : GoodIn big (a ++ b) := fun w h => (List.mem_append.mp h).elim (ha w) (hb w)
theorem goodIn_ca {big a b : List Cond} {c : Cond} (ha : GoodIn big (c :: a)) (hb : GoodIn big b) : GoodIn big (c :: (a ++ b)) := fun w h => (List.mem_cons.mp h).elim (fun e => ha w (List.mem_cons.mpr (Or.inl e))) (fun h => (List.mem_append.mp h).elim (fun h => ha w (List.mem_cons.mpr (Or.inr h))) (hb w))
theorem goodIn_sub {big ws : List Cond} (hm : ∀ w ∈ ws, w ∈ big) (h : ws.all goodWord = true) : GoodIn big ws := fun w hw => ⟨hm w hw, good_of_word (List.all_eq_true.mp h w hw)⟩
/-! ===== END ===== -/

/-! ===== BEGIN printed: names, fields, word lists, decode rows ===== -/
def RX0 : String := "CoreMelter$Core"
def TX0 : u_T := fun k => match k with
  | 0 => ("CoreMelter$Core", "size", "I", false)
  | 1 => ("CoreMelter$Core", "height", "I", false)
  | 2 => ("CoreMelter$Core", "kinds", "[I", true)
  | 3 => ("CoreMelter$Core", "lengths", "[I", true)
  | 4 => ("CoreMelter$Core", "densities", "[I", true)
  | 5 => ("CoreMelter$Core", "mores", "[I", true)
  | _ => ("CoreMelter$Core", "lowers", "[I", true)
def tyX0 : Nat → FieldType := fun k => match k with
  | 0 => .int
  | 1 => .int
  | 2 => .array .int
  | 3 => .array .int
  | 4 => .array .int
  | 5 => .array .int
  | _ => .array .int
abbrev wsX00 : List Cond := u_ws RX0 TX0 7
theorem nmX0 : ∀ a, a < 7 → ∀ b, b < 7 → a ≠ b → (TX0 a).2.1 ≠ (TX0 b).2.1 := by decide +kernel
theorem tyX0_ok : ∀ k, k < 7 → parseFieldDescriptor (TX0 k).2.2.1 = some (tyX0 k) := by decide +kernel
abbrev cX0_init : ByteArray := prog_2_method_1_code
def yX0_init : MethodName := ⟨RX0, "<init>", "()V"⟩
abbrev cX0_copyFrom : ByteArray := prog_2_method_2_code
def yX0_copyFrom : MethodName := ⟨RX0, "copyFrom", "(LCoreMelter$Core;)V"⟩
abbrev cX0_firstWrong : ByteArray := prog_2_method_3_code
def yX0_firstWrong : MethodName := ⟨RX0, "firstWrong", "(IIII)I"⟩
abbrev cX0_leastDensity : ByteArray := prog_2_method_4_code
def yX0_leastDensity : MethodName := ⟨RX0, "leastDensity", "(I)I"⟩
abbrev cX0_mostDensity : ByteArray := prog_2_method_5_code
def yX0_mostDensity : MethodName := ⟨RX0, "mostDensity", "(I)I"⟩
abbrev cX0_leastMore : ByteArray := prog_2_method_6_code
def yX0_leastMore : MethodName := ⟨RX0, "leastMore", "(I)I"⟩
abbrev cX0_mostMore : ByteArray := prog_2_method_7_code
def yX0_mostMore : MethodName := ⟨RX0, "mostMore", "(I)I"⟩
abbrev cX0_isFull : ByteArray := prog_2_method_8_code
def yX0_isFull : MethodName := ⟨RX0, "isFull", "()Z"⟩
abbrev cX0_put : ByteArray := prog_2_method_9_code
def yX0_put : MethodName := ⟨RX0, "put", "(IIII)V"⟩
abbrev cX0_end : ByteArray := prog_2_method_10_code
def yX0_end : MethodName := ⟨RX0, "end", "(I)I"⟩
abbrev cX0_holding : ByteArray := prog_2_method_11_code
def yX0_holding : MethodName := ⟨RX0, "holding", "(I)I"⟩
abbrev cX0_gasOfUnit : ByteArray := prog_2_method_12_code
def yX0_gasOfUnit : MethodName := ⟨RX0, "gasOfUnit", "(I)I"⟩
abbrev cX0_dirtOfUnit : ByteArray := prog_2_method_13_code
def yX0_dirtOfUnit : MethodName := ⟨RX0, "dirtOfUnit", "(I)I"⟩
abbrev cX0_partBelow : ByteArray := prog_2_method_14_code
def yX0_partBelow : MethodName := ⟨RX0, "partBelow", "(II)I"⟩
abbrev cX0_waterUpTo : ByteArray := prog_2_method_15_code
def yX0_waterUpTo : MethodName := ⟨RX0, "waterUpTo", "(I)I"⟩
abbrev cX0_depthOf : ByteArray := prog_2_method_16_code
def yX0_depthOf : MethodName := ⟨RX0, "depthOf", "(I)I"⟩
def RX1 : String := "CoreMelter$History"
def TX1 : u_T := fun k => match k with
  | 0 => ("CoreMelter$History", "size", "I", false)
  | 1 => ("CoreMelter$History", "oldest", "I", false)
  | _ => ("CoreMelter$History", "states", "[LCoreMelter$Plate;", true)
def tyX1 : Nat → FieldType := fun k => match k with
  | 0 => .int
  | 1 => .int
  | _ => .array (.object "CoreMelter$Plate")
abbrev wsX10 : List Cond := u_ws RX1 TX1 3
theorem nmX1 : ∀ a, a < 3 → ∀ b, b < 3 → a ≠ b → (TX1 a).2.1 ≠ (TX1 b).2.1 := by decide +kernel
theorem tyX1_ok : ∀ k, k < 3 → parseFieldDescriptor (TX1 k).2.2.1 = some (tyX1 k) := by decide +kernel
abbrev cX1_init : ByteArray := prog_3_method_1_code
def yX1_init : MethodName := ⟨RX1, "<init>", "()V"⟩
abbrev cX1_keep : ByteArray := prog_3_method_2_code
def yX1_keep : MethodName := ⟨RX1, "keep", "(LCoreMelter$Plate;)V"⟩
abbrev cX1_giveBack : ByteArray := prog_3_method_3_code
def yX1_giveBack : MethodName := ⟨RX1, "giveBack", "(LCoreMelter$Plate;)V"⟩
def RX2 : String := "CoreMelter$Lines"
def TX2 : u_T := fun k => match k with
  | 0 => ("CoreMelter$Lines", "stuck", "[I", true)
  | 1 => ("CoreMelter$Lines", "dirt", "[I", true)
  | 2 => ("CoreMelter$Lines", "gap", "[I", true)
  | 3 => ("CoreMelter$Lines", "drawn", "[I", true)
  | _ => ("CoreMelter$Lines", "wasted", "[I", true)
def tyX2 : Nat → FieldType := fun k => match k with
  | 0 => .array .int
  | 1 => .array .int
  | 2 => .array .int
  | 3 => .array .int
  | _ => .array .int
abbrev wsX20 : List Cond := u_ws RX2 TX2 5
theorem nmX2 : ∀ a, a < 5 → ∀ b, b < 5 → a ≠ b → (TX2 a).2.1 ≠ (TX2 b).2.1 := by decide +kernel
theorem tyX2_ok : ∀ k, k < 5 → parseFieldDescriptor (TX2 k).2.2.1 = some (tyX2 k) := by decide +kernel
abbrev cX2_init : ByteArray := prog_4_method_1_code
def yX2_init : MethodName := ⟨RX2, "<init>", "()V"⟩
abbrev cX2_copyFrom : ByteArray := prog_4_method_2_code
def yX2_copyFrom : MethodName := ⟨RX2, "copyFrom", "(LCoreMelter$Lines;)V"⟩
abbrev cX2_beginAnew : ByteArray := prog_4_method_3_code
def yX2_beginAnew : MethodName := ⟨RX2, "beginAnew", "()V"⟩
abbrev cX2_open : ByteArray := prog_4_method_4_code
def yX2_open : MethodName := ⟨RX2, "open", "(I)V"⟩
abbrev cX2_stuckOnes : ByteArray := prog_4_method_5_code
def yX2_stuckOnes : MethodName := ⟨RX2, "stuckOnes", "()I"⟩
abbrev cX2_breaks : ByteArray := prog_4_method_6_code
def yX2_breaks : MethodName := ⟨RX2, "breaks", "(IZI)Z"⟩
abbrev cX2_soil : ByteArray := prog_4_method_7_code
def yX2_soil : MethodName := ⟨RX2, "soil", "(III)V"⟩
def RX3 : String := "CoreMelter$Plate"
def TX3 : u_T := fun k => match k with
  | 0 => ("CoreMelter$Plate", "core", "LCoreMelter$Core;", true)
  | 1 => ("CoreMelter$Plate", "lines", "LCoreMelter$Lines;", true)
  | 2 => ("CoreMelter$Plate", "vials", "LCoreMelter$Vials;", true)
  | 3 => ("CoreMelter$Plate", "settings", "[I", true)
  | 4 => ("CoreMelter$Plate", "accounts", "[I", true)
  | 5 => ("CoreMelter$Plate", "front", "I", false)
  | 6 => ("CoreMelter$Plate", "store", "I", false)
  | 7 => ("CoreMelter$Plate", "stock", "I", false)
  | 8 => ("CoreMelter$Plate", "stockGas", "I", false)
  | 9 => ("CoreMelter$Plate", "stockDirt", "I", false)
  | 10 => ("CoreMelter$Plate", "told", "I", false)
  | 11 => ("CoreMelter$Plate", "waterBelowTold", "I", false)
  | 12 => ("CoreMelter$Plate", "ticks", "I", false)
  | 13 => ("CoreMelter$Plate", "reason", "I", false)
  | _ => ("CoreMelter$Plate", "stopped", "I", false)
def tyX3 : Nat → FieldType := fun k => match k with
  | 0 => .object "CoreMelter$Core"
  | 1 => .object "CoreMelter$Lines"
  | 2 => .object "CoreMelter$Vials"
  | 3 => .array .int
  | 4 => .array .int
  | 5 => .int
  | 6 => .int
  | 7 => .int
  | 8 => .int
  | 9 => .int
  | 10 => .int
  | 11 => .int
  | 12 => .int
  | 13 => .int
  | _ => .int
abbrev wsX30 : List Cond := u_ws RX3 TX3 15
theorem nmX3 : ∀ a, a < 15 → ∀ b, b < 15 → a ≠ b → (TX3 a).2.1 ≠ (TX3 b).2.1 := by decide +kernel
theorem tyX3_ok : ∀ k, k < 15 → parseFieldDescriptor (TX3 k).2.2.1 = some (tyX3 k) := by decide +kernel
abbrev cX3_init : ByteArray := prog_5_method_1_code
def yX3_init : MethodName := ⟨RX3, "<init>", "()V"⟩
abbrev cX3_copyFrom : ByteArray := prog_5_method_2_code
def yX3_copyFrom : MethodName := ⟨RX3, "copyFrom", "(LCoreMelter$Plate;)V"⟩
abbrev cX3_beginAnew : ByteArray := prog_5_method_3_code
def yX3_beginAnew : MethodName := ⟨RX3, "beginAnew", "()V"⟩
abbrev cX3_ticksLeft : ByteArray := prog_5_method_4_code
def yX3_ticksLeft : MethodName := ⟨RX3, "ticksLeft", "()I"⟩
abbrev cX3_drawn : ByteArray := prog_5_method_5_code
def yX3_drawn : MethodName := ⟨RX3, "drawn", "()I"⟩
abbrev cX3_pass : ByteArray := prog_5_method_6_code
def yX3_pass : MethodName := ⟨RX3, "pass", "(I)V"⟩
abbrev cX3_tick : ByteArray := prog_5_method_7_code
def yX3_tick : MethodName := ⟨RX3, "tick", "()V"⟩
abbrev cX3_reasonToStop : ByteArray := prog_5_method_8_code
def yX3_reasonToStop : MethodName := ⟨RX3, "reasonToStop", "()I"⟩
abbrev cX3_melt : ByteArray := prog_5_method_9_code
def yX3_melt : MethodName := ⟨RX3, "melt", "()V"⟩
abbrev cX3_meltIn : ByteArray := prog_5_method_10_code
def yX3_meltIn : MethodName := ⟨RX3, "meltIn", "(I)V"⟩
abbrev cX3_draw : ByteArray := prog_5_method_11_code
def yX3_draw : MethodName := ⟨RX3, "draw", "(I)V"⟩
abbrev cX3_raiseTold : ByteArray := prog_5_method_12_code
def yX3_raiseTold : MethodName := ⟨RX3, "raiseTold", "()V"⟩
def RX4 : String := "CoreMelter$Reading"
def TX4 : u_T := fun k => match k with
  | 0 => ("CoreMelter$Reading", "core", "LCoreMelter$Core;", true)
  | 1 => ("CoreMelter$Reading", "first", "I", false)
  | 2 => ("CoreMelter$Reading", "reason", "I", false)
  | 3 => ("CoreMelter$Reading", "number", "I", false)
  | 4 => ("CoreMelter$Reading", "next", "I", false)
  | _ => ("CoreMelter$Reading", "numbers", "[I", true)
def tyX4 : Nat → FieldType := fun k => match k with
  | 0 => .object "CoreMelter$Core"
  | 1 => .int
  | 2 => .int
  | 3 => .int
  | 4 => .int
  | _ => .array .int
abbrev wsX40 : List Cond := u_ws RX4 TX4 6
theorem nmX4 : ∀ a, a < 6 → ∀ b, b < 6 → a ≠ b → (TX4 a).2.1 ≠ (TX4 b).2.1 := by decide +kernel
theorem tyX4_ok : ∀ k, k < 6 → parseFieldDescriptor (TX4 k).2.2.1 = some (tyX4 k) := by decide +kernel
abbrev cX4_init : ByteArray := prog_6_method_1_code
def yX4_init : MethodName := ⟨RX4, "<init>", "()V"⟩
abbrev cX4_read : ByteArray := prog_6_method_2_code
def yX4_read : MethodName := ⟨RX4, "read", "(LCoreMelter$Text;LCoreMelter$Core;)V"⟩
abbrev cX4_readSegment : ByteArray := prog_6_method_3_code
def yX4_readSegment : MethodName := ⟨RX4, "readSegment", "(LCoreMelter$Text;)V"⟩
abbrev cX4_readWord : ByteArray := prog_6_method_4_code
def yX4_readWord : MethodName := ⟨RX4, "readWord", "(LCoreMelter$Text;)I"⟩
abbrev cX4_readNumbers : ByteArray := prog_6_method_5_code
def yX4_readNumbers : MethodName := ⟨RX4, "readNumbers", "(LCoreMelter$Text;I)I"⟩
abbrev cX4_readNumber : ByteArray := prog_6_method_6_code
def yX4_readNumber : MethodName := ⟨RX4, "readNumber", "(LCoreMelter$Text;)I"⟩
def RX5 : String := "CoreMelter$Text"
def TX5 : u_T := fun k => match k with
  | 0 => ("CoreMelter$Text", "length", "I", false)
  | _ => ("CoreMelter$Text", "characters", "[C", true)
def tyX5 : Nat → FieldType := fun k => match k with
  | 0 => .int
  | _ => .array .char
abbrev wsX50 : List Cond := u_ws RX5 TX5 2
theorem nmX5 : ∀ a, a < 2 → ∀ b, b < 2 → a ≠ b → (TX5 a).2.1 ≠ (TX5 b).2.1 := by decide +kernel
theorem tyX5_ok : ∀ k, k < 2 → parseFieldDescriptor (TX5 k).2.2.1 = some (tyX5 k) := by decide +kernel
abbrev cX5_init : ByteArray := prog_7_method_1_code
def yX5_init : MethodName := ⟨RX5, "<init>", "()V"⟩
abbrev cX5_isFull : ByteArray := prog_7_method_2_code
def yX5_isFull : MethodName := ⟨RX5, "isFull", "()Z"⟩
abbrev cX5_append : ByteArray := prog_7_method_3_code
def yX5_append : MethodName := ⟨RX5, "append", "(C)V"⟩
abbrev cX5_at : ByteArray := prog_7_method_4_code
def yX5_at : MethodName := ⟨RX5, "at", "(I)C"⟩
abbrev cX5_isSmallLetter : ByteArray := prog_7_method_5_code
def yX5_isSmallLetter : MethodName := ⟨RX5, "isSmallLetter", "(I)Z"⟩
abbrev cX5_isDigit : ByteArray := prog_7_method_6_code
def yX5_isDigit : MethodName := ⟨RX5, "isDigit", "(I)Z"⟩
abbrev cX5_holds : ByteArray := prog_7_method_7_code
def yX5_holds : MethodName := ⟨RX5, "holds", "(Ljava/lang/String;II)Z"⟩
def RX6 : String := "CoreMelter$Vials"
def TX6 : u_T := fun k => match k with
  | 0 => ("CoreMelter$Vials", "sealed", "I", false)
  | 1 => ("CoreMelter$Vials", "present", "I", false)
  | 2 => ("CoreMelter$Vials", "water", "[I", true)
  | 3 => ("CoreMelter$Vials", "depth", "[I", true)
  | _ => ("CoreMelter$Vials", "ticks", "[I", true)
def tyX6 : Nat → FieldType := fun k => match k with
  | 0 => .int
  | 1 => .int
  | 2 => .array .int
  | 3 => .array .int
  | _ => .array .int
abbrev wsX60 : List Cond := u_ws RX6 TX6 5
theorem nmX6 : ∀ a, a < 5 → ∀ b, b < 5 → a ≠ b → (TX6 a).2.1 ≠ (TX6 b).2.1 := by decide +kernel
theorem tyX6_ok : ∀ k, k < 5 → parseFieldDescriptor (TX6 k).2.2.1 = some (tyX6 k) := by decide +kernel
abbrev cX6_init : ByteArray := prog_8_method_1_code
def yX6_init : MethodName := ⟨RX6, "<init>", "()V"⟩
abbrev cX6_copyFrom : ByteArray := prog_8_method_2_code
def yX6_copyFrom : MethodName := ⟨RX6, "copyFrom", "(LCoreMelter$Vials;)V"⟩
abbrev cX6_beginAnew : ByteArray := prog_8_method_3_code
def yX6_beginAnew : MethodName := ⟨RX6, "beginAnew", "()V"⟩
abbrev cX6_sealIfFull : ByteArray := prog_8_method_4_code
def yX6_sealIfFull : MethodName := ⟨RX6, "sealIfFull", "(III)V"⟩
abbrev cX6_firstBeyond : ByteArray := prog_8_method_5_code
def yX6_firstBeyond : MethodName := ⟨RX6, "firstBeyond", "(I)I"⟩
def RX7 : String := "CoreMelter"
def TX7 : u_T := fun k => match k with
  | 0 => ("CoreMelter", "now", "LCoreMelter$Plate;", true)
  | 1 => ("CoreMelter", "trial", "LCoreMelter$Plate;", true)
  | 2 => ("CoreMelter", "history", "LCoreMelter$History;", true)
  | 3 => ("CoreMelter", "text", "LCoreMelter$Text;", true)
  | _ => ("CoreMelter", "reading", "LCoreMelter$Reading;", true)
def tyX7 : Nat → FieldType := fun k => match k with
  | 0 => .object "CoreMelter$Plate"
  | 1 => .object "CoreMelter$Plate"
  | 2 => .object "CoreMelter$History"
  | 3 => .object "CoreMelter$Text"
  | _ => .object "CoreMelter$Reading"
abbrev wsX70 : List Cond := u_ws RX7 TX7 5
theorem nmX7 : ∀ a, a < 5 → ∀ b, b < 5 → a ≠ b → (TX7 a).2.1 ≠ (TX7 b).2.1 := by decide +kernel
theorem tyX7_ok : ∀ k, k < 5 → parseFieldDescriptor (TX7 k).2.2.1 = some (tyX7 k) := by decide +kernel
abbrev cX7_init : ByteArray := prog_1_method_1_code
def yX7_init : MethodName := ⟨RX7, "<init>", "()V"⟩
abbrev cX7_addSegment : ByteArray := prog_1_method_2_code
def yX7_addSegment : MethodName := ⟨RX7, "addSegment", "(IIII)I"⟩
abbrev cX7_segment : ByteArray := prog_1_method_3_code
def yX7_segment : MethodName := ⟨RX7, "segment", "(II)I"⟩
abbrev cX7_segmentAt : ByteArray := prog_1_method_4_code
def yX7_segmentAt : MethodName := ⟨RX7, "segmentAt", "(I)I"⟩
abbrev cX7_waterBelow : ByteArray := prog_1_method_5_code
def yX7_waterBelow : MethodName := ⟨RX7, "waterBelow", "(I)I"⟩
abbrev cX7_renew : ByteArray := prog_1_method_6_code
def yX7_renew : MethodName := ⟨RX7, "renew", "()I"⟩
abbrev cX7_undo : ByteArray := prog_1_method_7_code
def yX7_undo : MethodName := ⟨RX7, "undo", "()I"⟩
abbrev cX7_set : ByteArray := prog_1_method_8_code
def yX7_set : MethodName := ⟨RX7, "set", "(II)I"⟩
abbrev cX7_clean : ByteArray := prog_1_method_9_code
def yX7_clean : MethodName := ⟨RX7, "clean", "(I)I"⟩
abbrev cX7_run : ByteArray := prog_1_method_10_code
def yX7_run : MethodName := ⟨RX7, "run", "(I)I"⟩
abbrev cX7_count : ByteArray := prog_1_method_11_code
def yX7_count : MethodName := ⟨RX7, "count", "(I)I"⟩
abbrev cX7_account : ByteArray := prog_1_method_12_code
def yX7_account : MethodName := ⟨RX7, "account", "(I)I"⟩
abbrev cX7_line : ByteArray := prog_1_method_13_code
def yX7_line : MethodName := ⟨RX7, "line", "(II)I"⟩
abbrev cX7_again : ByteArray := prog_1_method_14_code
def yX7_again : MethodName := ⟨RX7, "again", "()I"⟩
abbrev cX7_vial : ByteArray := prog_1_method_15_code
def yX7_vial : MethodName := ⟨RX7, "vial", "(II)I"⟩
abbrev cX7_vialAt : ByteArray := prog_1_method_16_code
def yX7_vialAt : MethodName := ⟨RX7, "vialAt", "(I)I"⟩
abbrev cX7_ifRun : ByteArray := prog_1_method_17_code
def yX7_ifRun : MethodName := ⟨RX7, "ifRun", "(II)I"⟩
abbrev cX7_ticksTo : ByteArray := prog_1_method_18_code
def yX7_ticksTo : MethodName := ⟨RX7, "ticksTo", "(I)I"⟩
abbrev cX7_flowFor : ByteArray := prog_1_method_19_code
def yX7_flowFor : MethodName := ⟨RX7, "flowFor", "(I)I"⟩
abbrev cX7_type : ByteArray := prog_1_method_20_code
def yX7_type : MethodName := ⟨RX7, "type", "(I)I"⟩
abbrev cX7_clearText : ByteArray := prog_1_method_21_code
def yX7_clearText : MethodName := ⟨RX7, "clearText", "()I"⟩
abbrev cX7_fault : ByteArray := prog_1_method_22_code
def yX7_fault : MethodName := ⟨RX7, "fault", "(I)I"⟩
abbrev cX7_lay : ByteArray := prog_1_method_23_code
def yX7_lay : MethodName := ⟨RX7, "lay", "()I"⟩
def RX8 : String := "CoreMelterModel"
def TX8 : u_T := fun k => match k with
  | 0 => ("CoreMelterModel", "m", "[I", true)
  | 1 => ("CoreMelterModel", "spare", "[I", true)
  | 2 => ("CoreMelterModel", "states", "[I", true)
  | 3 => ("CoreMelterModel", "stateCount", "I", false)
  | 4 => ("CoreMelterModel", "text", "[I", true)
  | 5 => ("CoreMelterModel", "textLength", "I", false)
  | 6 => ("CoreMelterModel", "at", "I", false)
  | 7 => ("CoreMelterModel", "faultAt", "I", false)
  | 8 => ("CoreMelterModel", "faultReason", "I", false)
  | 9 => ("CoreMelterModel", "faultNumber", "I", false)
  | _ => ("CoreMelterModel", "numbers", "[I", true)
def tyX8 : Nat → FieldType := fun k => match k with
  | 0 => .array .int
  | 1 => .array .int
  | 2 => .array .int
  | 3 => .int
  | 4 => .array .int
  | 5 => .int
  | 6 => .int
  | 7 => .int
  | 8 => .int
  | 9 => .int
  | _ => .array .int
abbrev wsX80 : List Cond := u_ws RX8 TX8 11
theorem nmX8 : ∀ a, a < 11 → ∀ b, b < 11 → a ≠ b → (TX8 a).2.1 ≠ (TX8 b).2.1 := by decide +kernel
theorem tyX8_ok : ∀ k, k < 11 → parseFieldDescriptor (TX8 k).2.2.1 = some (tyX8 k) := by decide +kernel
abbrev cX8_init : ByteArray := prog_10_method_1_code
def yX8_init : MethodName := ⟨RX8, "<init>", "()V"⟩
abbrev cX8_in : ByteArray := prog_10_method_2_code
def yX8_in : MethodName := ⟨RX8, "in", "(III)Z"⟩
abbrev cX8_lesser : ByteArray := prog_10_method_3_code
def yX8_lesser : MethodName := ⟨RX8, "lesser", "(II)I"⟩
abbrev cX8_bring : ByteArray := prog_10_method_4_code
def yX8_bring : MethodName := ⟨RX8, "bring", "([II[II)V"⟩
abbrev cX8_record : ByteArray := prog_10_method_5_code
def yX8_record : MethodName := ⟨RX8, "record", "()V"⟩
abbrev cX8_isSegment : ByteArray := prog_10_method_6_code
def yX8_isSegment : MethodName := ⟨RX8, "isSegment", "(I)Z"⟩
abbrev cX8_of : ByteArray := prog_10_method_7_code
def yX8_of : MethodName := ⟨RX8, "of", "(II)I"⟩
abbrev cX8_ofLine : ByteArray := prog_10_method_8_code
def yX8_ofLine : MethodName := ⟨RX8, "ofLine", "(II)I"⟩
abbrev cX8_lower : ByteArray := prog_10_method_9_code
def yX8_lower : MethodName := ⟨RX8, "lower", "(I)I"⟩
abbrev cX8_length : ByteArray := prog_10_method_10_code
def yX8_length : MethodName := ⟨RX8, "length", "()I"⟩
abbrev cX8_segmentOf : ByteArray := prog_10_method_11_code
def yX8_segmentOf : MethodName := ⟨RX8, "segmentOf", "(I)I"⟩
abbrev cX8_isDensity : ByteArray := prog_10_method_12_code
def yX8_isDensity : MethodName := ⟨RX8, "isDensity", "(I)Z"⟩
abbrev cX8_isKind : ByteArray := prog_10_method_13_code
def yX8_isKind : MethodName := ⟨RX8, "isKind", "(III)Z"⟩
abbrev cX8_puts : ByteArray := prog_10_method_14_code
def yX8_puts : MethodName := ⟨RX8, "puts", "(IIII)V"⟩
abbrev cX8_addSegment : ByteArray := prog_10_method_15_code
def yX8_addSegment : MethodName := ⟨RX8, "addSegment", "(IIII)I"⟩
abbrev cX8_melted : ByteArray := prog_10_method_16_code
def yX8_melted : MethodName := ⟨RX8, "melted", "(I)I"⟩
abbrev cX8_segment : ByteArray := prog_10_method_17_code
def yX8_segment : MethodName := ⟨RX8, "segment", "(II)I"⟩
abbrev cX8_segmentAt : ByteArray := prog_10_method_18_code
def yX8_segmentAt : MethodName := ⟨RX8, "segmentAt", "(I)I"⟩
abbrev cX8_water : ByteArray := prog_10_method_19_code
def yX8_water : MethodName := ⟨RX8, "water", "(I)I"⟩
abbrev cX8_waterBelow : ByteArray := prog_10_method_20_code
def yX8_waterBelow : MethodName := ⟨RX8, "waterBelow", "(I)I"⟩
abbrev cX8_renew : ByteArray := prog_10_method_21_code
def yX8_renew : MethodName := ⟨RX8, "renew", "()I"⟩
abbrev cX8_undo : ByteArray := prog_10_method_22_code
def yX8_undo : MethodName := ⟨RX8, "undo", "()I"⟩
abbrev cX8_isSetting : ByteArray := prog_10_method_23_code
def yX8_isSetting : MethodName := ⟨RX8, "isSetting", "(II)Z"⟩
abbrev cX8_set : ByteArray := prog_10_method_24_code
def yX8_set : MethodName := ⟨RX8, "set", "(II)I"⟩
abbrev cX8_clean : ByteArray := prog_10_method_25_code
def yX8_clean : MethodName := ⟨RX8, "clean", "(I)I"⟩
abbrev cX8_stuck : ByteArray := prog_10_method_26_code
def yX8_stuck : MethodName := ⟨RX8, "stuck", "()I"⟩
abbrev cX8_reasonNow : ByteArray := prog_10_method_27_code
def yX8_reasonNow : MethodName := ⟨RX8, "reasonNow", "(I)I"⟩
abbrev cX8_unit : ByteArray := prog_10_method_28_code
def yX8_unit : MethodName := ⟨RX8, "unit", "(I)V"⟩
abbrev cX8_melts : ByteArray := prog_10_method_29_code
def yX8_melts : MethodName := ⟨RX8, "melts", "(I)V"⟩
abbrev cX8_draws : ByteArray := prog_10_method_30_code
def yX8_draws : MethodName := ⟨RX8, "draws", "(I)V"⟩
abbrev cX8_told : ByteArray := prog_10_method_31_code
def yX8_told : MethodName := ⟨RX8, "told", "()I"⟩
abbrev cX8_seals : ByteArray := prog_10_method_32_code
def yX8_seals : MethodName := ⟨RX8, "seals", "()V"⟩
abbrev cX8_tick : ByteArray := prog_10_method_33_code
def yX8_tick : MethodName := ⟨RX8, "tick", "()V"⟩
abbrev cX8_goBy : ByteArray := prog_10_method_34_code
def yX8_goBy : MethodName := ⟨RX8, "goBy", "(I)V"⟩
abbrev cX8_run : ByteArray := prog_10_method_35_code
def yX8_run : MethodName := ⟨RX8, "run", "(I)I"⟩
abbrev cX8_count : ByteArray := prog_10_method_36_code
def yX8_count : MethodName := ⟨RX8, "count", "(I)I"⟩
abbrev cX8_account : ByteArray := prog_10_method_37_code
def yX8_account : MethodName := ⟨RX8, "account", "(I)I"⟩
abbrev cX8_line : ByteArray := prog_10_method_38_code
def yX8_line : MethodName := ⟨RX8, "line", "(II)I"⟩
abbrev cX8_again : ByteArray := prog_10_method_39_code
def yX8_again : MethodName := ⟨RX8, "again", "()I"⟩
abbrev cX8_isVial : ByteArray := prog_10_method_40_code
def yX8_isVial : MethodName := ⟨RX8, "isVial", "(I)Z"⟩
abbrev cX8_vial : ByteArray := prog_10_method_41_code
def yX8_vial : MethodName := ⟨RX8, "vial", "(II)I"⟩
abbrev cX8_vialAt : ByteArray := prog_10_method_42_code
def yX8_vialAt : MethodName := ⟨RX8, "vialAt", "(I)I"⟩
abbrev cX8_differs : ByteArray := prog_10_method_43_code
def yX8_differs : MethodName := ⟨RX8, "differs", "(I)I"⟩
abbrev cX8_ifRun : ByteArray := prog_10_method_44_code
def yX8_ifRun : MethodName := ⟨RX8, "ifRun", "(II)I"⟩
abbrev cX8_ticksTo : ByteArray := prog_10_method_45_code
def yX8_ticksTo : MethodName := ⟨RX8, "ticksTo", "(I)I"⟩
abbrev cX8_flowFor : ByteArray := prog_10_method_46_code
def yX8_flowFor : MethodName := ⟨RX8, "flowFor", "(I)I"⟩
abbrev cX8_type : ByteArray := prog_10_method_47_code
def yX8_type : MethodName := ⟨RX8, "type", "(I)I"⟩
abbrev cX8_clearText : ByteArray := prog_10_method_48_code
def yX8_clearText : MethodName := ⟨RX8, "clearText", "()I"⟩
abbrev cX8_here : ByteArray := prog_10_method_49_code
def yX8_here : MethodName := ⟨RX8, "here", "()I"⟩
abbrev cX8_readKind : ByteArray := prog_10_method_50_code
def yX8_readKind : MethodName := ⟨RX8, "readKind", "()I"⟩
abbrev cX8_readNumber : ByteArray := prog_10_method_51_code
def yX8_readNumber : MethodName := ⟨RX8, "readNumber", "(I)Z"⟩
abbrev cX8_isRanged : ByteArray := prog_10_method_52_code
def yX8_isRanged : MethodName := ⟨RX8, "isRanged", "(III)Z"⟩
abbrev cX8_fails : ByteArray := prog_10_method_53_code
def yX8_fails : MethodName := ⟨RX8, "fails", "(II)I"⟩
abbrev cX8_readSegment : ByteArray := prog_10_method_54_code
def yX8_readSegment : MethodName := ⟨RX8, "readSegment", "(I)I"⟩
abbrev cX8_reads : ByteArray := prog_10_method_55_code
def yX8_reads : MethodName := ⟨RX8, "reads", "()I"⟩
abbrev cX8_fault : ByteArray := prog_10_method_56_code
def yX8_fault : MethodName := ⟨RX8, "fault", "(I)I"⟩
abbrev cX8_lay : ByteArray := prog_10_method_57_code
def yX8_lay : MethodName := ⟨RX8, "lay", "()I"⟩
def RJx145de : String := "java/io/Serializable"
def TJx145de : u_T := fun k => match k with
  | _ => ("", "", "", false)
def tyJx145de : Nat → FieldType := fun k => match k with
  | _ => .int
abbrev wsJx145de0 : List Cond := u_ws RJx145de TJx145de 0
theorem nmJx145de : ∀ a, a < 0 → ∀ b, b < 0 → a ≠ b → (TJx145de a).2.1 ≠ (TJx145de b).2.1 := by decide +kernel
theorem tyJx145de_ok : ∀ k, k < 0 → parseFieldDescriptor (TJx145de k).2.2.1 = some (tyJx145de k) := by decide +kernel
def RJx9f9b0 : String := "java/lang/CharSequence"
def TJx9f9b0 : u_T := fun k => match k with
  | _ => ("", "", "", false)
def tyJx9f9b0 : Nat → FieldType := fun k => match k with
  | _ => .int
abbrev wsJx9f9b00 : List Cond := u_ws RJx9f9b0 TJx9f9b0 0
theorem nmJx9f9b0 : ∀ a, a < 0 → ∀ b, b < 0 → a ≠ b → (TJx9f9b0 a).2.1 ≠ (TJx9f9b0 b).2.1 := by decide +kernel
theorem tyJx9f9b0_ok : ∀ k, k < 0 → parseFieldDescriptor (TJx9f9b0 k).2.2.1 = some (tyJx9f9b0 k) := by decide +kernel
def RJxb160c : String := "java/lang/Comparable"
def TJxb160c : u_T := fun k => match k with
  | _ => ("", "", "", false)
def tyJxb160c : Nat → FieldType := fun k => match k with
  | _ => .int
abbrev wsJxb160c0 : List Cond := u_ws RJxb160c TJxb160c 0
theorem nmJxb160c : ∀ a, a < 0 → ∀ b, b < 0 → a ≠ b → (TJxb160c a).2.1 ≠ (TJxb160c b).2.1 := by decide +kernel
theorem tyJxb160c_ok : ∀ k, k < 0 → parseFieldDescriptor (TJxb160c k).2.2.1 = some (tyJxb160c k) := by decide +kernel
def RJ9 : String := "java/lang/Math"
def TJ9 : u_T := fun k => match k with
  | _ => ("", "", "", false)
def tyJ9 : Nat → FieldType := fun k => match k with
  | _ => .int
abbrev wsJ90 : List Cond := u_ws RJ9 TJ9 0
theorem nmJ9 : ∀ a, a < 0 → ∀ b, b < 0 → a ≠ b → (TJ9 a).2.1 ≠ (TJ9 b).2.1 := by decide +kernel
theorem tyJ9_ok : ∀ k, k < 0 → parseFieldDescriptor (TJ9 k).2.2.1 = some (tyJ9 k) := by decide +kernel
abbrev cJ9_max_7cf53 : ByteArray := prog_11_method_65_code
def yJ9_max_7cf53 : MethodName := ⟨RJ9, "max", "(II)I"⟩
abbrev cJ9_min_7cf53 : ByteArray := prog_11_method_69_code
def yJ9_min_7cf53 : MethodName := ⟨RJ9, "min", "(II)I"⟩
def RJ0 : String := "java/lang/String"
def TJ0 : u_T := fun k => match k with
  | _ => ("", "", "", false)
def tyJ0 : Nat → FieldType := fun k => match k with
  | _ => .int
abbrev wsJ00 : List Cond := u_ws RJ0 TJ0 0
theorem nmJ0 : ∀ a, a < 0 → ∀ b, b < 0 → a ≠ b → (TJ0 a).2.1 ≠ (TJ0 b).2.1 := by decide +kernel
theorem tyJ0_ok : ∀ k, k < 0 → parseFieldDescriptor (TJ0 k).2.2.1 = some (tyJ0 k) := by decide +kernel
abbrev cJ0_length_8abf5 : ByteArray := prog_12_method_54_code
def yJ0_length_8abf5 : MethodName := ⟨RJ0, "length", "()I"⟩
abbrev cJ0_charAt_5068e : ByteArray := prog_12_method_56_code
def yJ0_charAt_5068e : MethodName := ⟨RJ0, "charAt", "(I)C"⟩
abbrev cJ0_coder_7d493 : ByteArray := prog_12_method_152_code
def yJ0_coder_7d493 : MethodName := ⟨RJ0, "coder", "()B"⟩
abbrev cJ0_isLatin1_aae02 : ByteArray := prog_12_method_154_code
def yJ0_isLatin1_aae02 : MethodName := ⟨RJ0, "isLatin1", "()Z"⟩
abbrev cJ0_checkIndex_df160 : ByteArray := prog_12_method_155_code
def yJ0_checkIndex_df160 : MethodName := ⟨RJ0, "checkIndex", "(II)V"⟩
def RJ1 : String := "java/lang/StringLatin1"
def TJ1 : u_T := fun k => match k with
  | _ => ("", "", "", false)
def tyJ1 : Nat → FieldType := fun k => match k with
  | _ => .int
abbrev wsJ10 : List Cond := u_ws RJ1 TJ1 0
theorem nmJ1 : ∀ a, a < 0 → ∀ b, b < 0 → a ≠ b → (TJ1 a).2.1 ≠ (TJ1 b).2.1 := by decide +kernel
theorem tyJ1_ok : ∀ k, k < 0 → parseFieldDescriptor (TJ1 k).2.2.1 = some (tyJ1 k) := by decide +kernel
abbrev cJ1_charAt_3b067 : ByteArray := prog_13_method_2_code
def yJ1_charAt_3b067 : MethodName := ⟨RJ1, "charAt", "([BI)C"⟩
def RJ2 : String := "java/lang/StringUTF16"
def TJ2 : u_T := fun k => match k with
  | _ => ("", "", "", false)
def tyJ2 : Nat → FieldType := fun k => match k with
  | _ => .int
abbrev wsJ20 : List Cond := u_ws RJ2 TJ2 0
theorem nmJ2 : ∀ a, a < 0 → ∀ b, b < 0 → a ≠ b → (TJ2 a).2.1 ≠ (TJ2 b).2.1 := by decide +kernel
theorem tyJ2_ok : ∀ k, k < 0 → parseFieldDescriptor (TJ2 k).2.2.1 = some (tyJ2 k) := by decide +kernel
abbrev cJ2_getChar_3b067 : ByteArray := prog_14_method_5_code
def yJ2_getChar_3b067 : MethodName := ⟨RJ2, "getChar", "([BI)C"⟩
abbrev cJ2_length_9d52b : ByteArray := prog_14_method_6_code
def yJ2_length_9d52b : MethodName := ⟨RJ2, "length", "([B)I"⟩
abbrev cJ2_charAt_3b067 : ByteArray := prog_14_method_83_code
def yJ2_charAt_3b067 : MethodName := ⟨RJ2, "charAt", "([BI)C"⟩
abbrev cJ2_checkIndex_2214a : ByteArray := prog_14_method_91_code
def yJ2_checkIndex_2214a : MethodName := ⟨RJ2, "checkIndex", "(I[B)V"⟩
def RJ10 : String := "java/lang/System"
def TJ10 : u_T := fun k => match k with
  | _ => ("", "", "", false)
def tyJ10 : Nat → FieldType := fun k => match k with
  | _ => .int
abbrev wsJ100 : List Cond := u_ws RJ10 TJ10 0
theorem nmJ10 : ∀ a, a < 0 → ∀ b, b < 0 → a ≠ b → (TJ10 a).2.1 ≠ (TJ10 b).2.1 := by decide +kernel
theorem tyJ10_ok : ∀ k, k < 0 → parseFieldDescriptor (TJ10 k).2.2.1 = some (tyJ10 k) := by decide +kernel
def RJxfd54e : String := "java/lang/constant/Constable"
def TJxfd54e : u_T := fun k => match k with
  | _ => ("", "", "", false)
def tyJxfd54e : Nat → FieldType := fun k => match k with
  | _ => .int
abbrev wsJxfd54e0 : List Cond := u_ws RJxfd54e TJxfd54e 0
theorem nmJxfd54e : ∀ a, a < 0 → ∀ b, b < 0 → a ≠ b → (TJxfd54e a).2.1 ≠ (TJxfd54e b).2.1 := by decide +kernel
theorem tyJxfd54e_ok : ∀ k, k < 0 → parseFieldDescriptor (TJxfd54e k).2.2.1 = some (tyJxfd54e k) := by decide +kernel
def RJx3cf43 : String := "java/lang/constant/ConstantDesc"
def TJx3cf43 : u_T := fun k => match k with
  | _ => ("", "", "", false)
def tyJx3cf43 : Nat → FieldType := fun k => match k with
  | _ => .int
abbrev wsJx3cf430 : List Cond := u_ws RJx3cf43 TJx3cf43 0
theorem nmJx3cf43 : ∀ a, a < 0 → ∀ b, b < 0 → a ≠ b → (TJx3cf43 a).2.1 ≠ (TJx3cf43 b).2.1 := by decide +kernel
theorem tyJx3cf43_ok : ∀ k, k < 0 → parseFieldDescriptor (TJx3cf43 k).2.2.1 = some (tyJx3cf43 k) := by decide +kernel
def RJ7 : String := "java/util/Arrays"
def TJ7 : u_T := fun k => match k with
  | _ => ("", "", "", false)
def tyJ7 : Nat → FieldType := fun k => match k with
  | _ => .int
abbrev wsJ70 : List Cond := u_ws RJ7 TJ7 0
theorem nmJ7 : ∀ a, a < 0 → ∀ b, b < 0 → a ≠ b → (TJ7 a).2.1 ≠ (TJ7 b).2.1 := by decide +kernel
theorem tyJ7_ok : ∀ k, k < 0 → parseFieldDescriptor (TJ7 k).2.2.1 = some (tyJ7 k) := by decide +kernel
abbrev cJ7_fill_53178 : ByteArray := prog_16_method_103_code
def yJ7_fill_53178 : MethodName := ⟨RJ7, "fill", "([II)V"⟩
def RJ3 : String := "jdk/internal/util/Preconditions"
def TJ3 : u_T := fun k => match k with
  | _ => ("", "", "", false)
def tyJ3 : Nat → FieldType := fun k => match k with
  | _ => .int
abbrev wsJ30 : List Cond := u_ws RJ3 TJ3 0
theorem nmJ3 : ∀ a, a < 0 → ∀ b, b < 0 → a ≠ b → (TJ3 a).2.1 ≠ (TJ3 b).2.1 := by decide +kernel
theorem tyJ3_ok : ∀ k, k < 0 → parseFieldDescriptor (TJ3 k).2.2.1 = some (tyJ3 k) := by decide +kernel
abbrev cJ3_checkIndex_8e157 : ByteArray := prog_17_method_11_code
def yJ3_checkIndex_8e157 : MethodName := ⟨RJ3, "checkIndex", "(IILjava/util/function/BiFunction;)I"⟩
def RL : String := "CoreMelterLaw"
abbrev cL_law : ByteArray := code
def yL_law : MethodName := ⟨RL, "law", "([I)Z"⟩
def wsX0_init : List Cond := .code yX0_init cX0_init 1 none :: ([.methodLink RX0 1 objectInit, .instanceMethod objectInit, .code objectInit ⟨#[0xb1]⟩ 1 none, .arrayClass .int, .fieldLink RX0 9 "CoreMelter$Core" "kinds" "[I", .fieldLink RX0 13 "CoreMelter$Core" "lengths" "[I", .fieldLink RX0 16 "CoreMelter$Core" "densities" "[I", .fieldLink RX0 19 "CoreMelter$Core" "mores" "[I", .fieldLink RX0 22 "CoreMelter$Core" "lowers" "[I"] ++ wsX00)
def wsX0_copyFrom : List Cond := .code yX0_copyFrom cX0_copyFrom 2 none :: ([.fieldLink RX0 25 "CoreMelter$Core" "size" "I", .fieldLink RX0 29 "CoreMelter$Core" "height" "I", .fieldLink RX0 9 "CoreMelter$Core" "kinds" "[I", .methodLink RX0 32 arraycopyName, .native arraycopyName, .static arraycopyName, .initialized "java/lang/System", .fieldLink RX0 13 "CoreMelter$Core" "lengths" "[I", .fieldLink RX0 16 "CoreMelter$Core" "densities" "[I", .fieldLink RX0 19 "CoreMelter$Core" "mores" "[I", .fieldLink RX0 22 "CoreMelter$Core" "lowers" "[I"] ++ wsX00)
def wsX0_leastDensity : List Cond := .code yX0_leastDensity cX0_leastDensity 1 (some .int) :: ([])
def wsX0_mostDensity : List Cond := .code yX0_mostDensity cX0_mostDensity 1 (some .int) :: ([])
def wsX0_leastMore : List Cond := .code yX0_leastMore cX0_leastMore 1 (some .int) :: ([])
def wsX0_mostMore : List Cond := .code yX0_mostMore cX0_mostMore 1 (some .int) :: ([])
def wsX0_firstWrong : List Cond := .code yX0_firstWrong cX0_firstWrong 4 (some .int) :: ([.methodLink RX0 38 yX0_leastDensity, .static yX0_leastDensity, .initialized RX0, .code yX0_leastDensity cX0_leastDensity 1 (some .int), .methodLink RX0 42 yX0_mostDensity, .static yX0_mostDensity, .code yX0_mostDensity cX0_mostDensity 1 (some .int), .methodLink RX0 45 yX0_leastMore, .static yX0_leastMore, .code yX0_leastMore cX0_leastMore 1 (some .int), .methodLink RX0 48 yX0_mostMore, .static yX0_mostMore, .code yX0_mostMore cX0_mostMore 1 (some .int)])
def wsX0_isFull : List Cond := .code yX0_isFull cX0_isFull 1 (some .boolean) :: ([.fieldLink RX0 25 "CoreMelter$Core" "size" "I"] ++ wsX00)
def wsX0_put : List Cond := .code yX0_put cX0_put 5 none :: ([.fieldLink RX0 9 "CoreMelter$Core" "kinds" "[I", .fieldLink RX0 25 "CoreMelter$Core" "size" "I", .fieldLink RX0 13 "CoreMelter$Core" "lengths" "[I", .fieldLink RX0 16 "CoreMelter$Core" "densities" "[I", .fieldLink RX0 19 "CoreMelter$Core" "mores" "[I", .fieldLink RX0 22 "CoreMelter$Core" "lowers" "[I", .fieldLink RX0 29 "CoreMelter$Core" "height" "I", .methodLink RX0 51 yX0_isFull, .instanceMethod yX0_isFull, .selects RX0 yX0_isFull yX0_isFull, .initialized RX0, .code yX0_isFull cX0_isFull 1 (some .boolean)] ++ wsX00)
def wsX0_end : List Cond := .code yX0_end cX0_end 2 (some .int) :: ([.fieldLink RX0 22 "CoreMelter$Core" "lowers" "[I", .fieldLink RX0 13 "CoreMelter$Core" "lengths" "[I"] ++ wsX00)
def wsX0_holding : List Cond := .code yX0_holding cX0_holding 3 (some .int) :: ([.fieldLink RX0 25 "CoreMelter$Core" "size" "I", .methodLink RX0 55 yX0_end, .instanceMethod yX0_end, .selects RX0 yX0_end yX0_end, .initialized RX0, .code yX0_end cX0_end 2 (some .int), .fieldLink RX0 22 "CoreMelter$Core" "lowers" "[I", .fieldLink RX0 13 "CoreMelter$Core" "lengths" "[I"] ++ wsX00)
def wsX0_gasOfUnit : List Cond := .code yX0_gasOfUnit cX0_gasOfUnit 2 (some .int) :: ([.fieldLink RX0 9 "CoreMelter$Core" "kinds" "[I", .fieldLink RX0 16 "CoreMelter$Core" "densities" "[I", .fieldLink RX0 19 "CoreMelter$Core" "mores" "[I"] ++ wsX00)
def wsX0_dirtOfUnit : List Cond := .code yX0_dirtOfUnit cX0_dirtOfUnit 2 (some .int) :: ([.fieldLink RX0 9 "CoreMelter$Core" "kinds" "[I", .fieldLink RX0 19 "CoreMelter$Core" "mores" "[I"] ++ wsX00)
def wsX0_partBelow : List Cond := .code yX0_partBelow cX0_partBelow 3 (some .int) :: ([.fieldLink RX0 22 "CoreMelter$Core" "lowers" "[I", .fieldLink RX0 13 "CoreMelter$Core" "lengths" "[I", .methodLink RX0 58 Lib.Math.min.name, .static Lib.Math.min.name, .initialized "java/lang/Math", .code Lib.Math.min.name Lib.Math.min.code 2 (some .int), .methodLink RX0 64 Lib.Math.max.name, .static Lib.Math.max.name, .code Lib.Math.max.name Lib.Math.max.code 2 (some .int)] ++ wsX00)
def wsX0_waterUpTo : List Cond := .code yX0_waterUpTo cX0_waterUpTo 4 (some .int) :: ([.fieldLink RX0 25 "CoreMelter$Core" "size" "I", .fieldLink RX0 16 "CoreMelter$Core" "densities" "[I", .methodLink RX0 67 yX0_partBelow, .instanceMethod yX0_partBelow, .selects RX0 yX0_partBelow yX0_partBelow, .initialized RX0, .code yX0_partBelow cX0_partBelow 3 (some .int), .fieldLink RX0 22 "CoreMelter$Core" "lowers" "[I", .fieldLink RX0 13 "CoreMelter$Core" "lengths" "[I", .methodLink RX0 58 Lib.Math.min.name, .static Lib.Math.min.name, .initialized "java/lang/Math", .code Lib.Math.min.name Lib.Math.min.code 2 (some .int), .methodLink RX0 64 Lib.Math.max.name, .static Lib.Math.max.name, .code Lib.Math.max.name Lib.Math.max.code 2 (some .int)] ++ wsX00)
def wsX0_depthOf : List Cond := .code yX0_depthOf cX0_depthOf 7 (some .int) :: ([.fieldLink RX0 25 "CoreMelter$Core" "size" "I", .fieldLink RX0 16 "CoreMelter$Core" "densities" "[I", .fieldLink RX0 13 "CoreMelter$Core" "lengths" "[I", .methodLink RX0 58 Lib.Math.min.name, .static Lib.Math.min.name, .initialized "java/lang/Math", .code Lib.Math.min.name Lib.Math.min.code 2 (some .int)] ++ wsX00)
def wsX2_init : List Cond := .code yX2_init cX2_init 1 none :: ([.methodLink RX2 1 objectInit, .instanceMethod objectInit, .code objectInit ⟨#[0xb1]⟩ 1 none, .arrayClass .int, .fieldLink RX2 9 "CoreMelter$Lines" "stuck" "[I", .fieldLink RX2 13 "CoreMelter$Lines" "dirt" "[I", .fieldLink RX2 16 "CoreMelter$Lines" "gap" "[I", .fieldLink RX2 19 "CoreMelter$Lines" "drawn" "[I", .fieldLink RX2 22 "CoreMelter$Lines" "wasted" "[I"] ++ wsX20)
def wsX6_init : List Cond := .code yX6_init cX6_init 1 none :: ([.methodLink RX6 1 objectInit, .instanceMethod objectInit, .code objectInit ⟨#[0xb1]⟩ 1 none, .arrayClass .int, .fieldLink RX6 9 "CoreMelter$Vials" "water" "[I", .fieldLink RX6 13 "CoreMelter$Vials" "depth" "[I", .fieldLink RX6 16 "CoreMelter$Vials" "ticks" "[I"] ++ wsX60)
def wsX3_init_r1 : List Cond := [Cond.methodLink RX3 1 objectInit, Cond.instanceMethod objectInit, Cond.code objectInit ⟨#[0xb1]⟩ 1 none, Cond.classLink RX3 7 RX0, Cond.instantiable RX0 7, Cond.initialized RX0, Cond.fieldLink RX3 10 "CoreMelter$Plate" "core" "LCoreMelter$Core;", Cond.classLink RX3 16 RX2, Cond.instantiable RX2 5, Cond.initialized RX2, Cond.fieldLink RX3 19 "CoreMelter$Plate" "lines" "LCoreMelter$Lines;", Cond.classLink RX3 23 RX6, Cond.instantiable RX6 5, Cond.initialized RX6, Cond.fieldLink RX3 26 "CoreMelter$Plate" "vials" "LCoreMelter$Vials;", Cond.arrayClass .int, Cond.fieldLink RX3 30 "CoreMelter$Plate" "settings" "[I", Cond.fieldLink RX3 34 "CoreMelter$Plate" "accounts" "[I", Cond.fieldLink RX3 37 "CoreMelter$Plate" "INITIAL" "[I", Cond.methodLink RX3 40 arraycopyName, Cond.native arraycopyName, Cond.static arraycopyName, Cond.initialized "java/lang/System", Cond.instanceMethod yX0_init]
def wsX3_init_r2 : List Cond := [Cond.code yX0_init cX0_init 1 none, Cond.methodLink RX0 1 objectInit, Cond.fieldLink RX0 9 "CoreMelter$Core" "kinds" "[I", Cond.fieldLink RX0 13 "CoreMelter$Core" "lengths" "[I", Cond.fieldLink RX0 16 "CoreMelter$Core" "densities" "[I", Cond.fieldLink RX0 19 "CoreMelter$Core" "mores" "[I", Cond.fieldLink RX0 22 "CoreMelter$Core" "lowers" "[I", Cond.instanceMethod yX2_init, Cond.code yX2_init cX2_init 1 none, Cond.methodLink RX2 1 objectInit, Cond.fieldLink RX2 9 "CoreMelter$Lines" "stuck" "[I", Cond.fieldLink RX2 13 "CoreMelter$Lines" "dirt" "[I", Cond.fieldLink RX2 16 "CoreMelter$Lines" "gap" "[I", Cond.fieldLink RX2 19 "CoreMelter$Lines" "drawn" "[I", Cond.fieldLink RX2 22 "CoreMelter$Lines" "wasted" "[I", Cond.instanceMethod yX6_init, Cond.code yX6_init cX6_init 1 none, Cond.methodLink RX6 1 objectInit, Cond.fieldLink RX6 9 "CoreMelter$Vials" "water" "[I", Cond.fieldLink RX6 13 "CoreMelter$Vials" "depth" "[I", Cond.fieldLink RX6 16 "CoreMelter$Vials" "ticks" "[I"]
def wsX3_init : List Cond := .code yX3_init cX3_init 1 none :: ((wsX3_init_r1 ++ wsX3_init_r2) ++ wsX00 ++ wsX30 ++ wsX20 ++ wsX60)
def wsX1_init_r1 : List Cond := [Cond.methodLink RX1 1 objectInit, Cond.instanceMethod objectInit, Cond.code objectInit ⟨#[0xb1]⟩ 1 none, Cond.classLink RX1 9 RX3, Cond.fieldLink RX1 11 "CoreMelter$History" "states" "[LCoreMelter$Plate;", Cond.instantiable RX3 15, Cond.initialized RX3, Cond.methodLink RX1 15 yX3_init, Cond.instanceMethod yX3_init, Cond.code yX3_init cX3_init 1 none, Cond.methodLink RX3 1 objectInit, Cond.classLink RX3 7 RX0, Cond.instantiable RX0 7, Cond.initialized RX0, Cond.fieldLink RX3 10 "CoreMelter$Plate" "core" "LCoreMelter$Core;", Cond.classLink RX3 16 RX2, Cond.instantiable RX2 5, Cond.initialized RX2, Cond.fieldLink RX3 19 "CoreMelter$Plate" "lines" "LCoreMelter$Lines;", Cond.classLink RX3 23 RX6, Cond.instantiable RX6 5, Cond.initialized RX6, Cond.fieldLink RX3 26 "CoreMelter$Plate" "vials" "LCoreMelter$Vials;", Cond.arrayClass .int]
def wsX1_init_r2 : List Cond := [Cond.fieldLink RX3 30 "CoreMelter$Plate" "settings" "[I", Cond.fieldLink RX3 34 "CoreMelter$Plate" "accounts" "[I", Cond.fieldLink RX3 37 "CoreMelter$Plate" "INITIAL" "[I", Cond.methodLink RX3 40 arraycopyName, Cond.native arraycopyName, Cond.static arraycopyName, Cond.initialized "java/lang/System", Cond.instanceMethod yX0_init, Cond.code yX0_init cX0_init 1 none, Cond.methodLink RX0 1 objectInit, Cond.fieldLink RX0 9 "CoreMelter$Core" "kinds" "[I", Cond.fieldLink RX0 13 "CoreMelter$Core" "lengths" "[I", Cond.fieldLink RX0 16 "CoreMelter$Core" "densities" "[I", Cond.fieldLink RX0 19 "CoreMelter$Core" "mores" "[I", Cond.fieldLink RX0 22 "CoreMelter$Core" "lowers" "[I", Cond.instanceMethod yX2_init, Cond.code yX2_init cX2_init 1 none, Cond.methodLink RX2 1 objectInit, Cond.fieldLink RX2 9 "CoreMelter$Lines" "stuck" "[I", Cond.fieldLink RX2 13 "CoreMelter$Lines" "dirt" "[I", Cond.fieldLink RX2 16 "CoreMelter$Lines" "gap" "[I", Cond.fieldLink RX2 19 "CoreMelter$Lines" "drawn" "[I", Cond.fieldLink RX2 22 "CoreMelter$Lines" "wasted" "[I", Cond.instanceMethod yX6_init]
def wsX1_init_r3 : List Cond := [Cond.code yX6_init cX6_init 1 none, Cond.methodLink RX6 1 objectInit, Cond.fieldLink RX6 9 "CoreMelter$Vials" "water" "[I", Cond.fieldLink RX6 13 "CoreMelter$Vials" "depth" "[I", Cond.fieldLink RX6 16 "CoreMelter$Vials" "ticks" "[I"]
def wsX1_init : List Cond := .code yX1_init cX1_init 2 none :: ((wsX1_init_r1 ++ (wsX1_init_r2 ++ wsX1_init_r3)) ++ wsX10 ++ wsX30 ++ wsX00 ++ wsX20 ++ wsX60)
def wsX2_copyFrom : List Cond := .code yX2_copyFrom cX2_copyFrom 2 none :: ([.fieldLink RX2 9 "CoreMelter$Lines" "stuck" "[I", .methodLink RX2 25 arraycopyName, .native arraycopyName, .static arraycopyName, .initialized "java/lang/System", .fieldLink RX2 13 "CoreMelter$Lines" "dirt" "[I", .fieldLink RX2 16 "CoreMelter$Lines" "gap" "[I", .fieldLink RX2 19 "CoreMelter$Lines" "drawn" "[I", .fieldLink RX2 22 "CoreMelter$Lines" "wasted" "[I"] ++ wsX20)
def wsX6_copyFrom : List Cond := .code yX6_copyFrom cX6_copyFrom 2 none :: ([.fieldLink RX6 19 "CoreMelter$Vials" "sealed" "I", .fieldLink RX6 23 "CoreMelter$Vials" "present" "I", .fieldLink RX6 9 "CoreMelter$Vials" "water" "[I", .methodLink RX6 26 arraycopyName, .native arraycopyName, .static arraycopyName, .initialized "java/lang/System", .fieldLink RX6 13 "CoreMelter$Vials" "depth" "[I", .fieldLink RX6 16 "CoreMelter$Vials" "ticks" "[I"] ++ wsX60)
def wsX3_copyFrom_r1 : List Cond := [Cond.fieldLink RX3 10 "CoreMelter$Plate" "core" "LCoreMelter$Core;", Cond.fieldLink RX3 19 "CoreMelter$Plate" "lines" "LCoreMelter$Lines;", Cond.fieldLink RX3 26 "CoreMelter$Plate" "vials" "LCoreMelter$Vials;", Cond.fieldLink RX3 30 "CoreMelter$Plate" "settings" "[I", Cond.methodLink RX3 40 arraycopyName, Cond.native arraycopyName, Cond.static arraycopyName, Cond.initialized "java/lang/System", Cond.fieldLink RX3 34 "CoreMelter$Plate" "accounts" "[I", Cond.fieldLink RX3 56 "CoreMelter$Plate" "front" "I", Cond.fieldLink RX3 60 "CoreMelter$Plate" "store" "I", Cond.fieldLink RX3 63 "CoreMelter$Plate" "stock" "I", Cond.fieldLink RX3 66 "CoreMelter$Plate" "stockGas" "I", Cond.fieldLink RX3 69 "CoreMelter$Plate" "stockDirt" "I", Cond.fieldLink RX3 72 "CoreMelter$Plate" "told" "I", Cond.fieldLink RX3 75 "CoreMelter$Plate" "waterBelowTold" "I", Cond.fieldLink RX3 78 "CoreMelter$Plate" "ticks" "I", Cond.fieldLink RX3 81 "CoreMelter$Plate" "reason" "I", Cond.fieldLink RX3 84 "CoreMelter$Plate" "stopped" "I", Cond.methodLink RX3 46 yX0_copyFrom, Cond.instanceMethod yX0_copyFrom, Cond.selects RX0 yX0_copyFrom yX0_copyFrom, Cond.initialized RX0, Cond.code yX0_copyFrom cX0_copyFrom 2 none]
def wsX3_copyFrom_r2 : List Cond := [Cond.fieldLink RX0 25 "CoreMelter$Core" "size" "I", Cond.fieldLink RX0 29 "CoreMelter$Core" "height" "I", Cond.fieldLink RX0 9 "CoreMelter$Core" "kinds" "[I", Cond.methodLink RX0 32 arraycopyName, Cond.fieldLink RX0 13 "CoreMelter$Core" "lengths" "[I", Cond.fieldLink RX0 16 "CoreMelter$Core" "densities" "[I", Cond.fieldLink RX0 19 "CoreMelter$Core" "mores" "[I", Cond.fieldLink RX0 22 "CoreMelter$Core" "lowers" "[I", Cond.methodLink RX3 50 yX2_copyFrom, Cond.instanceMethod yX2_copyFrom, Cond.selects RX2 yX2_copyFrom yX2_copyFrom, Cond.initialized RX2, Cond.code yX2_copyFrom cX2_copyFrom 2 none, Cond.fieldLink RX2 9 "CoreMelter$Lines" "stuck" "[I", Cond.methodLink RX2 25 arraycopyName, Cond.fieldLink RX2 13 "CoreMelter$Lines" "dirt" "[I", Cond.fieldLink RX2 16 "CoreMelter$Lines" "gap" "[I", Cond.fieldLink RX2 19 "CoreMelter$Lines" "drawn" "[I", Cond.fieldLink RX2 22 "CoreMelter$Lines" "wasted" "[I", Cond.methodLink RX3 53 yX6_copyFrom, Cond.instanceMethod yX6_copyFrom, Cond.selects RX6 yX6_copyFrom yX6_copyFrom, Cond.initialized RX6, Cond.code yX6_copyFrom cX6_copyFrom 2 none]
def wsX3_copyFrom_r3 : List Cond := [Cond.fieldLink RX6 19 "CoreMelter$Vials" "sealed" "I", Cond.fieldLink RX6 23 "CoreMelter$Vials" "present" "I", Cond.fieldLink RX6 9 "CoreMelter$Vials" "water" "[I", Cond.methodLink RX6 26 arraycopyName, Cond.fieldLink RX6 13 "CoreMelter$Vials" "depth" "[I", Cond.fieldLink RX6 16 "CoreMelter$Vials" "ticks" "[I"]
def wsX3_copyFrom : List Cond := .code yX3_copyFrom cX3_copyFrom 2 none :: ((wsX3_copyFrom_r1 ++ (wsX3_copyFrom_r2 ++ wsX3_copyFrom_r3)) ++ wsX30 ++ wsX00 ++ wsX20 ++ wsX60)
def wsX1_keep_r1 : List Cond := [Cond.fieldLink RX1 16 "CoreMelter$History" "size" "I", Cond.fieldLink RX1 20 "CoreMelter$History" "oldest" "I", Cond.fieldLink RX1 11 "CoreMelter$History" "states" "[LCoreMelter$Plate;", Cond.methodLink RX1 23 yX3_copyFrom, Cond.instanceMethod yX3_copyFrom, Cond.selects RX3 yX3_copyFrom yX3_copyFrom, Cond.initialized RX3, Cond.code yX3_copyFrom cX3_copyFrom 2 none, Cond.fieldLink RX3 10 "CoreMelter$Plate" "core" "LCoreMelter$Core;", Cond.fieldLink RX3 19 "CoreMelter$Plate" "lines" "LCoreMelter$Lines;", Cond.fieldLink RX3 26 "CoreMelter$Plate" "vials" "LCoreMelter$Vials;", Cond.fieldLink RX3 30 "CoreMelter$Plate" "settings" "[I", Cond.methodLink RX3 40 arraycopyName, Cond.native arraycopyName, Cond.static arraycopyName, Cond.initialized "java/lang/System", Cond.fieldLink RX3 34 "CoreMelter$Plate" "accounts" "[I", Cond.fieldLink RX3 56 "CoreMelter$Plate" "front" "I", Cond.fieldLink RX3 60 "CoreMelter$Plate" "store" "I", Cond.fieldLink RX3 63 "CoreMelter$Plate" "stock" "I", Cond.fieldLink RX3 66 "CoreMelter$Plate" "stockGas" "I", Cond.fieldLink RX3 69 "CoreMelter$Plate" "stockDirt" "I", Cond.fieldLink RX3 72 "CoreMelter$Plate" "told" "I", Cond.fieldLink RX3 75 "CoreMelter$Plate" "waterBelowTold" "I"]
def wsX1_keep_r2 : List Cond := [Cond.fieldLink RX3 78 "CoreMelter$Plate" "ticks" "I", Cond.fieldLink RX3 81 "CoreMelter$Plate" "reason" "I", Cond.fieldLink RX3 84 "CoreMelter$Plate" "stopped" "I", Cond.methodLink RX3 46 yX0_copyFrom, Cond.instanceMethod yX0_copyFrom, Cond.selects RX0 yX0_copyFrom yX0_copyFrom, Cond.initialized RX0, Cond.code yX0_copyFrom cX0_copyFrom 2 none, Cond.fieldLink RX0 25 "CoreMelter$Core" "size" "I", Cond.fieldLink RX0 29 "CoreMelter$Core" "height" "I", Cond.fieldLink RX0 9 "CoreMelter$Core" "kinds" "[I", Cond.methodLink RX0 32 arraycopyName, Cond.fieldLink RX0 13 "CoreMelter$Core" "lengths" "[I", Cond.fieldLink RX0 16 "CoreMelter$Core" "densities" "[I", Cond.fieldLink RX0 19 "CoreMelter$Core" "mores" "[I", Cond.fieldLink RX0 22 "CoreMelter$Core" "lowers" "[I", Cond.methodLink RX3 50 yX2_copyFrom, Cond.instanceMethod yX2_copyFrom, Cond.selects RX2 yX2_copyFrom yX2_copyFrom, Cond.initialized RX2, Cond.code yX2_copyFrom cX2_copyFrom 2 none, Cond.fieldLink RX2 9 "CoreMelter$Lines" "stuck" "[I", Cond.methodLink RX2 25 arraycopyName, Cond.fieldLink RX2 13 "CoreMelter$Lines" "dirt" "[I"]
def wsX1_keep_r3 : List Cond := [Cond.fieldLink RX2 16 "CoreMelter$Lines" "gap" "[I", Cond.fieldLink RX2 19 "CoreMelter$Lines" "drawn" "[I", Cond.fieldLink RX2 22 "CoreMelter$Lines" "wasted" "[I", Cond.methodLink RX3 53 yX6_copyFrom, Cond.instanceMethod yX6_copyFrom, Cond.selects RX6 yX6_copyFrom yX6_copyFrom, Cond.initialized RX6, Cond.code yX6_copyFrom cX6_copyFrom 2 none, Cond.fieldLink RX6 19 "CoreMelter$Vials" "sealed" "I", Cond.fieldLink RX6 23 "CoreMelter$Vials" "present" "I", Cond.fieldLink RX6 9 "CoreMelter$Vials" "water" "[I", Cond.methodLink RX6 26 arraycopyName, Cond.fieldLink RX6 13 "CoreMelter$Vials" "depth" "[I", Cond.fieldLink RX6 16 "CoreMelter$Vials" "ticks" "[I"]
def wsX1_keep : List Cond := .code yX1_keep cX1_keep 2 none :: ((wsX1_keep_r1 ++ (wsX1_keep_r2 ++ wsX1_keep_r3)) ++ wsX10 ++ wsX30 ++ wsX00 ++ wsX20 ++ wsX60)
def wsX1_giveBack_r1 : List Cond := [Cond.fieldLink RX1 16 "CoreMelter$History" "size" "I", Cond.fieldLink RX1 11 "CoreMelter$History" "states" "[LCoreMelter$Plate;", Cond.fieldLink RX1 20 "CoreMelter$History" "oldest" "I", Cond.methodLink RX1 23 yX3_copyFrom, Cond.instanceMethod yX3_copyFrom, Cond.selects RX3 yX3_copyFrom yX3_copyFrom, Cond.initialized RX3, Cond.code yX3_copyFrom cX3_copyFrom 2 none, Cond.fieldLink RX3 10 "CoreMelter$Plate" "core" "LCoreMelter$Core;", Cond.fieldLink RX3 19 "CoreMelter$Plate" "lines" "LCoreMelter$Lines;", Cond.fieldLink RX3 26 "CoreMelter$Plate" "vials" "LCoreMelter$Vials;", Cond.fieldLink RX3 30 "CoreMelter$Plate" "settings" "[I", Cond.methodLink RX3 40 arraycopyName, Cond.native arraycopyName, Cond.static arraycopyName, Cond.initialized "java/lang/System", Cond.fieldLink RX3 34 "CoreMelter$Plate" "accounts" "[I", Cond.fieldLink RX3 56 "CoreMelter$Plate" "front" "I", Cond.fieldLink RX3 60 "CoreMelter$Plate" "store" "I", Cond.fieldLink RX3 63 "CoreMelter$Plate" "stock" "I", Cond.fieldLink RX3 66 "CoreMelter$Plate" "stockGas" "I", Cond.fieldLink RX3 69 "CoreMelter$Plate" "stockDirt" "I", Cond.fieldLink RX3 72 "CoreMelter$Plate" "told" "I", Cond.fieldLink RX3 75 "CoreMelter$Plate" "waterBelowTold" "I"]
def wsX1_giveBack_r2 : List Cond := [Cond.fieldLink RX3 78 "CoreMelter$Plate" "ticks" "I", Cond.fieldLink RX3 81 "CoreMelter$Plate" "reason" "I", Cond.fieldLink RX3 84 "CoreMelter$Plate" "stopped" "I", Cond.methodLink RX3 46 yX0_copyFrom, Cond.instanceMethod yX0_copyFrom, Cond.selects RX0 yX0_copyFrom yX0_copyFrom, Cond.initialized RX0, Cond.code yX0_copyFrom cX0_copyFrom 2 none, Cond.fieldLink RX0 25 "CoreMelter$Core" "size" "I", Cond.fieldLink RX0 29 "CoreMelter$Core" "height" "I", Cond.fieldLink RX0 9 "CoreMelter$Core" "kinds" "[I", Cond.methodLink RX0 32 arraycopyName, Cond.fieldLink RX0 13 "CoreMelter$Core" "lengths" "[I", Cond.fieldLink RX0 16 "CoreMelter$Core" "densities" "[I", Cond.fieldLink RX0 19 "CoreMelter$Core" "mores" "[I", Cond.fieldLink RX0 22 "CoreMelter$Core" "lowers" "[I", Cond.methodLink RX3 50 yX2_copyFrom, Cond.instanceMethod yX2_copyFrom, Cond.selects RX2 yX2_copyFrom yX2_copyFrom, Cond.initialized RX2, Cond.code yX2_copyFrom cX2_copyFrom 2 none, Cond.fieldLink RX2 9 "CoreMelter$Lines" "stuck" "[I", Cond.methodLink RX2 25 arraycopyName, Cond.fieldLink RX2 13 "CoreMelter$Lines" "dirt" "[I"]
def wsX1_giveBack_r3 : List Cond := [Cond.fieldLink RX2 16 "CoreMelter$Lines" "gap" "[I", Cond.fieldLink RX2 19 "CoreMelter$Lines" "drawn" "[I", Cond.fieldLink RX2 22 "CoreMelter$Lines" "wasted" "[I", Cond.methodLink RX3 53 yX6_copyFrom, Cond.instanceMethod yX6_copyFrom, Cond.selects RX6 yX6_copyFrom yX6_copyFrom, Cond.initialized RX6, Cond.code yX6_copyFrom cX6_copyFrom 2 none, Cond.fieldLink RX6 19 "CoreMelter$Vials" "sealed" "I", Cond.fieldLink RX6 23 "CoreMelter$Vials" "present" "I", Cond.fieldLink RX6 9 "CoreMelter$Vials" "water" "[I", Cond.methodLink RX6 26 arraycopyName, Cond.fieldLink RX6 13 "CoreMelter$Vials" "depth" "[I", Cond.fieldLink RX6 16 "CoreMelter$Vials" "ticks" "[I"]
def wsX1_giveBack : List Cond := .code yX1_giveBack cX1_giveBack 2 none :: ((wsX1_giveBack_r1 ++ (wsX1_giveBack_r2 ++ wsX1_giveBack_r3)) ++ wsX10 ++ wsX30 ++ wsX00 ++ wsX20 ++ wsX60)
def wsJ7_fill_53178 : List Cond := .code yJ7_fill_53178 cJ7_fill_53178 4 none :: ([])
def wsX2_beginAnew : List Cond := .code yX2_beginAnew cX2_beginAnew 1 none :: ([.fieldLink RX2 9 "CoreMelter$Lines" "stuck" "[I", .fieldLink RX2 13 "CoreMelter$Lines" "dirt" "[I", .fieldLink RX2 16 "CoreMelter$Lines" "gap" "[I", .fieldLink RX2 19 "CoreMelter$Lines" "drawn" "[I", .fieldLink RX2 22 "CoreMelter$Lines" "wasted" "[I", .methodLink RX2 31 yJ7_fill_53178, .static yJ7_fill_53178, .initialized RJ7, .code yJ7_fill_53178 cJ7_fill_53178 4 none] ++ wsX20)
def wsX2_open : List Cond := .code yX2_open cX2_open 2 none :: ([.fieldLink RX2 9 "CoreMelter$Lines" "stuck" "[I", .fieldLink RX2 13 "CoreMelter$Lines" "dirt" "[I", .fieldLink RX2 16 "CoreMelter$Lines" "gap" "[I"] ++ wsX20)
def wsX2_stuckOnes : List Cond := .code yX2_stuckOnes cX2_stuckOnes 3 (some .int) :: ([.fieldLink RX2 9 "CoreMelter$Lines" "stuck" "[I"] ++ wsX20)
def wsX2_breaks : List Cond := .code yX2_breaks cX2_breaks 4 (some .boolean) :: ([.fieldLink RX2 16 "CoreMelter$Lines" "gap" "[I"] ++ wsX20)
def wsX2_soil : List Cond := .code yX2_soil cX2_soil 4 none :: ([.fieldLink RX2 13 "CoreMelter$Lines" "dirt" "[I", .fieldLink RX2 9 "CoreMelter$Lines" "stuck" "[I"] ++ wsX20)
def wsX6_beginAnew : List Cond := .code yX6_beginAnew cX6_beginAnew 1 none :: ([.fieldLink RX6 19 "CoreMelter$Vials" "sealed" "I", .fieldLink RX6 23 "CoreMelter$Vials" "present" "I"] ++ wsX60)
def wsX3_beginAnew_r1 : List Cond := [Cond.fieldLink RX3 19 "CoreMelter$Plate" "lines" "LCoreMelter$Lines;", Cond.fieldLink RX3 26 "CoreMelter$Plate" "vials" "LCoreMelter$Vials;", Cond.fieldLink RX3 34 "CoreMelter$Plate" "accounts" "[I", Cond.fieldLink RX3 56 "CoreMelter$Plate" "front" "I", Cond.fieldLink RX3 60 "CoreMelter$Plate" "store" "I", Cond.fieldLink RX3 63 "CoreMelter$Plate" "stock" "I", Cond.fieldLink RX3 66 "CoreMelter$Plate" "stockGas" "I", Cond.fieldLink RX3 69 "CoreMelter$Plate" "stockDirt" "I", Cond.fieldLink RX3 72 "CoreMelter$Plate" "told" "I", Cond.fieldLink RX3 75 "CoreMelter$Plate" "waterBelowTold" "I", Cond.fieldLink RX3 78 "CoreMelter$Plate" "ticks" "I", Cond.fieldLink RX3 81 "CoreMelter$Plate" "reason" "I", Cond.fieldLink RX3 84 "CoreMelter$Plate" "stopped" "I", Cond.methodLink RX3 87 yX2_beginAnew, Cond.instanceMethod yX2_beginAnew, Cond.selects RX2 yX2_beginAnew yX2_beginAnew, Cond.initialized RX2, Cond.code yX2_beginAnew cX2_beginAnew 1 none, Cond.fieldLink RX2 9 "CoreMelter$Lines" "stuck" "[I", Cond.fieldLink RX2 13 "CoreMelter$Lines" "dirt" "[I", Cond.fieldLink RX2 16 "CoreMelter$Lines" "gap" "[I", Cond.fieldLink RX2 19 "CoreMelter$Lines" "drawn" "[I", Cond.fieldLink RX2 22 "CoreMelter$Lines" "wasted" "[I", Cond.methodLink RX2 31 yJ7_fill_53178]
def wsX3_beginAnew_r2 : List Cond := [Cond.static yJ7_fill_53178, Cond.initialized RJ7, Cond.code yJ7_fill_53178 cJ7_fill_53178 4 none, Cond.methodLink RX3 90 yX6_beginAnew, Cond.instanceMethod yX6_beginAnew, Cond.selects RX6 yX6_beginAnew yX6_beginAnew, Cond.initialized RX6, Cond.code yX6_beginAnew cX6_beginAnew 1 none, Cond.fieldLink RX6 19 "CoreMelter$Vials" "sealed" "I", Cond.fieldLink RX6 23 "CoreMelter$Vials" "present" "I", Cond.methodLink RX3 91 yJ7_fill_53178]
def wsX3_beginAnew : List Cond := .code yX3_beginAnew cX3_beginAnew 1 none :: ((wsX3_beginAnew_r1 ++ wsX3_beginAnew_r2) ++ wsX30 ++ wsX20 ++ wsX60)
def wsX3_ticksLeft : List Cond := .code yX3_ticksLeft cX3_ticksLeft 1 (some .int) :: ([.fieldLink RX3 78 "CoreMelter$Plate" "ticks" "I"] ++ wsX30)
def wsX3_drawn : List Cond := .code yX3_drawn cX3_drawn 1 (some .int) :: ([.fieldLink RX3 34 "CoreMelter$Plate" "accounts" "[I"] ++ wsX30)
def wsX3_reasonToStop : List Cond := .code yX3_reasonToStop cX3_reasonToStop 1 (some .int) :: ([.fieldLink RX3 56 "CoreMelter$Plate" "front" "I", .fieldLink RX3 10 "CoreMelter$Plate" "core" "LCoreMelter$Core;", .fieldLink RX3 118 "CoreMelter$Core" "height" "I", .fieldLink RX3 19 "CoreMelter$Plate" "lines" "LCoreMelter$Lines;", .fieldLink RX3 63 "CoreMelter$Plate" "stock" "I", .fieldLink RX3 30 "CoreMelter$Plate" "settings" "[I", .methodLink RX3 121 yX2_stuckOnes, .instanceMethod yX2_stuckOnes, .selects RX2 yX2_stuckOnes yX2_stuckOnes, .initialized RX2, .code yX2_stuckOnes cX2_stuckOnes 3 (some .int), .fieldLink RX2 9 "CoreMelter$Lines" "stuck" "[I"] ++ wsX30 ++ wsX00 ++ wsX20)
def wsX3_meltIn_r1 : List Cond := [Cond.fieldLink RX3 10 "CoreMelter$Plate" "core" "LCoreMelter$Core;", Cond.fieldLink RX3 140 "CoreMelter$Core" "densities" "[I", Cond.fieldLink RX3 30 "CoreMelter$Plate" "settings" "[I", Cond.fieldLink RX3 56 "CoreMelter$Plate" "front" "I", Cond.fieldLink RX3 63 "CoreMelter$Plate" "stock" "I", Cond.fieldLink RX3 60 "CoreMelter$Plate" "store" "I", Cond.fieldLink RX3 66 "CoreMelter$Plate" "stockGas" "I", Cond.fieldLink RX3 69 "CoreMelter$Plate" "stockDirt" "I", Cond.fieldLink RX3 34 "CoreMelter$Plate" "accounts" "[I", Cond.methodLink RX3 134 yX0_end, Cond.instanceMethod yX0_end, Cond.selects RX0 yX0_end yX0_end, Cond.initialized RX0, Cond.code yX0_end cX0_end 2 (some .int), Cond.fieldLink RX0 22 "CoreMelter$Core" "lowers" "[I", Cond.fieldLink RX0 13 "CoreMelter$Core" "lengths" "[I", Cond.methodLink RX3 143 yX0_gasOfUnit, Cond.instanceMethod yX0_gasOfUnit, Cond.selects RX0 yX0_gasOfUnit yX0_gasOfUnit, Cond.code yX0_gasOfUnit cX0_gasOfUnit 2 (some .int), Cond.fieldLink RX0 9 "CoreMelter$Core" "kinds" "[I", Cond.fieldLink RX0 16 "CoreMelter$Core" "densities" "[I", Cond.fieldLink RX0 19 "CoreMelter$Core" "mores" "[I", Cond.methodLink RX3 146 yX0_dirtOfUnit]
def wsX3_meltIn_r2 : List Cond := [Cond.instanceMethod yX0_dirtOfUnit, Cond.selects RX0 yX0_dirtOfUnit yX0_dirtOfUnit, Cond.code yX0_dirtOfUnit cX0_dirtOfUnit 2 (some .int)]
def wsX3_meltIn : List Cond := .code yX3_meltIn cX3_meltIn 7 none :: ((wsX3_meltIn_r1 ++ wsX3_meltIn_r2) ++ wsX30 ++ wsX00)
def wsX3_melt_r1 : List Cond := [Cond.fieldLink RX3 60 "CoreMelter$Plate" "store" "I", Cond.fieldLink RX3 30 "CoreMelter$Plate" "settings" "[I", Cond.fieldLink RX3 10 "CoreMelter$Plate" "core" "LCoreMelter$Core;", Cond.fieldLink RX3 56 "CoreMelter$Plate" "front" "I", Cond.fieldLink RX3 128 "CoreMelter$Core" "size" "I", Cond.fieldLink RX3 63 "CoreMelter$Plate" "stock" "I", Cond.fieldLink RX3 131 "CoreMelter$Core" "kinds" "[I", Cond.fieldLink RX3 118 "CoreMelter$Core" "height" "I", Cond.methodLink RX3 124 yX0_holding, Cond.instanceMethod yX0_holding, Cond.selects RX0 yX0_holding yX0_holding, Cond.initialized RX0, Cond.code yX0_holding cX0_holding 3 (some .int), Cond.fieldLink RX0 25 "CoreMelter$Core" "size" "I", Cond.methodLink RX0 55 yX0_end, Cond.instanceMethod yX0_end, Cond.selects RX0 yX0_end yX0_end, Cond.code yX0_end cX0_end 2 (some .int), Cond.fieldLink RX0 22 "CoreMelter$Core" "lowers" "[I", Cond.fieldLink RX0 13 "CoreMelter$Core" "lengths" "[I", Cond.methodLink RX3 134 yX0_end, Cond.methodLink RX3 137 yX3_meltIn, Cond.instanceMethod yX3_meltIn, Cond.selects RX3 yX3_meltIn yX3_meltIn]
def wsX3_melt_r2 : List Cond := [Cond.initialized RX3, Cond.code yX3_meltIn cX3_meltIn 7 none, Cond.fieldLink RX3 140 "CoreMelter$Core" "densities" "[I", Cond.fieldLink RX3 66 "CoreMelter$Plate" "stockGas" "I", Cond.fieldLink RX3 69 "CoreMelter$Plate" "stockDirt" "I", Cond.fieldLink RX3 34 "CoreMelter$Plate" "accounts" "[I", Cond.methodLink RX3 143 yX0_gasOfUnit, Cond.instanceMethod yX0_gasOfUnit, Cond.selects RX0 yX0_gasOfUnit yX0_gasOfUnit, Cond.code yX0_gasOfUnit cX0_gasOfUnit 2 (some .int), Cond.fieldLink RX0 9 "CoreMelter$Core" "kinds" "[I", Cond.fieldLink RX0 16 "CoreMelter$Core" "densities" "[I", Cond.fieldLink RX0 19 "CoreMelter$Core" "mores" "[I", Cond.methodLink RX3 146 yX0_dirtOfUnit, Cond.instanceMethod yX0_dirtOfUnit, Cond.selects RX0 yX0_dirtOfUnit yX0_dirtOfUnit, Cond.code yX0_dirtOfUnit cX0_dirtOfUnit 2 (some .int)]
def wsX3_melt : List Cond := .code yX3_melt cX3_melt 2 none :: ((wsX3_melt_r1 ++ wsX3_melt_r2) ++ wsX30 ++ wsX00)
def wsX3_draw_r1 : List Cond := [Cond.fieldLink RX3 30 "CoreMelter$Plate" "settings" "[I", Cond.fieldLink RX3 63 "CoreMelter$Plate" "stock" "I", Cond.methodLink RX3 149 Lib.Math.min.name, Cond.static Lib.Math.min.name, Cond.initialized "java/lang/Math", Cond.code Lib.Math.min.name Lib.Math.min.code 2 (some .int), Cond.fieldLink RX3 19 "CoreMelter$Plate" "lines" "LCoreMelter$Lines;", Cond.fieldLink RX3 155 "CoreMelter$Lines" "stuck" "[I", Cond.fieldLink RX3 66 "CoreMelter$Plate" "stockGas" "I", Cond.fieldLink RX3 69 "CoreMelter$Plate" "stockDirt" "I", Cond.fieldLink RX3 34 "CoreMelter$Plate" "accounts" "[I", Cond.fieldLink RX3 158 "CoreMelter$Lines" "drawn" "[I", Cond.fieldLink RX3 165 "CoreMelter$Lines" "wasted" "[I", Cond.fieldLink RX3 26 "CoreMelter$Plate" "vials" "LCoreMelter$Vials;", Cond.fieldLink RX3 168 "CoreMelter$Vials" "present" "I", Cond.methodLink RX3 161 yX2_breaks, Cond.instanceMethod yX2_breaks, Cond.selects RX2 yX2_breaks yX2_breaks, Cond.initialized RX2, Cond.code yX2_breaks cX2_breaks 4 (some .boolean), Cond.fieldLink RX2 16 "CoreMelter$Lines" "gap" "[I", Cond.methodLink RX3 171 yX2_soil, Cond.instanceMethod yX2_soil, Cond.selects RX2 yX2_soil yX2_soil]
def wsX3_draw_r2 : List Cond := [Cond.code yX2_soil cX2_soil 4 none, Cond.fieldLink RX2 13 "CoreMelter$Lines" "dirt" "[I", Cond.fieldLink RX2 9 "CoreMelter$Lines" "stuck" "[I"]
def wsX3_draw : List Cond := .code yX3_draw cX3_draw 6 none :: ((wsX3_draw_r1 ++ wsX3_draw_r2) ++ wsX30 ++ wsX20 ++ wsX60)
def wsX3_raiseTold_r1 : List Cond := [Cond.fieldLink RX3 10 "CoreMelter$Plate" "core" "LCoreMelter$Core;", Cond.fieldLink RX3 72 "CoreMelter$Plate" "told" "I", Cond.fieldLink RX3 128 "CoreMelter$Core" "size" "I", Cond.fieldLink RX3 56 "CoreMelter$Plate" "front" "I", Cond.methodLink RX3 149 Lib.Math.min.name, Cond.static Lib.Math.min.name, Cond.initialized "java/lang/Math", Cond.code Lib.Math.min.name Lib.Math.min.code 2 (some .int), Cond.fieldLink RX3 140 "CoreMelter$Core" "densities" "[I", Cond.fieldLink RX3 75 "CoreMelter$Plate" "waterBelowTold" "I", Cond.methodLink RX3 174 yX3_drawn, Cond.instanceMethod yX3_drawn, Cond.selects RX3 yX3_drawn yX3_drawn, Cond.initialized RX3, Cond.code yX3_drawn cX3_drawn 1 (some .int), Cond.fieldLink RX3 34 "CoreMelter$Plate" "accounts" "[I", Cond.methodLink RX3 124 yX0_holding, Cond.instanceMethod yX0_holding, Cond.selects RX0 yX0_holding yX0_holding, Cond.initialized RX0, Cond.code yX0_holding cX0_holding 3 (some .int), Cond.fieldLink RX0 25 "CoreMelter$Core" "size" "I", Cond.methodLink RX0 55 yX0_end, Cond.instanceMethod yX0_end]
def wsX3_raiseTold_r2 : List Cond := [Cond.selects RX0 yX0_end yX0_end, Cond.code yX0_end cX0_end 2 (some .int), Cond.fieldLink RX0 22 "CoreMelter$Core" "lowers" "[I", Cond.fieldLink RX0 13 "CoreMelter$Core" "lengths" "[I", Cond.methodLink RX3 134 yX0_end]
def wsX3_raiseTold : List Cond := .code yX3_raiseTold cX3_raiseTold 5 none :: ((wsX3_raiseTold_r1 ++ wsX3_raiseTold_r2) ++ wsX30 ++ wsX00)
def wsX6_sealIfFull : List Cond := .code yX6_sealIfFull cX6_sealIfFull 4 none :: ([.fieldLink RX6 23 "CoreMelter$Vials" "present" "I", .fieldLink RX6 19 "CoreMelter$Vials" "sealed" "I", .fieldLink RX6 9 "CoreMelter$Vials" "water" "[I", .fieldLink RX6 13 "CoreMelter$Vials" "depth" "[I", .fieldLink RX6 16 "CoreMelter$Vials" "ticks" "[I"] ++ wsX60)
def wsX3_tick_r1 : List Cond := [Cond.fieldLink RX3 78 "CoreMelter$Plate" "ticks" "I", Cond.fieldLink RX3 81 "CoreMelter$Plate" "reason" "I", Cond.fieldLink RX3 84 "CoreMelter$Plate" "stopped" "I", Cond.fieldLink RX3 26 "CoreMelter$Plate" "vials" "LCoreMelter$Vials;", Cond.fieldLink RX3 30 "CoreMelter$Plate" "settings" "[I", Cond.fieldLink RX3 72 "CoreMelter$Plate" "told" "I", Cond.methodLink RX3 100 yX3_reasonToStop, Cond.instanceMethod yX3_reasonToStop, Cond.selects RX3 yX3_reasonToStop yX3_reasonToStop, Cond.initialized RX3, Cond.code yX3_reasonToStop cX3_reasonToStop 1 (some .int), Cond.fieldLink RX3 56 "CoreMelter$Plate" "front" "I", Cond.fieldLink RX3 10 "CoreMelter$Plate" "core" "LCoreMelter$Core;", Cond.fieldLink RX3 118 "CoreMelter$Core" "height" "I", Cond.fieldLink RX3 19 "CoreMelter$Plate" "lines" "LCoreMelter$Lines;", Cond.fieldLink RX3 63 "CoreMelter$Plate" "stock" "I", Cond.methodLink RX3 121 yX2_stuckOnes, Cond.instanceMethod yX2_stuckOnes, Cond.selects RX2 yX2_stuckOnes yX2_stuckOnes, Cond.initialized RX2, Cond.code yX2_stuckOnes cX2_stuckOnes 3 (some .int), Cond.fieldLink RX2 9 "CoreMelter$Lines" "stuck" "[I", Cond.methodLink RX3 104 yX3_melt, Cond.instanceMethod yX3_melt]
def wsX3_tick_r2 : List Cond := [Cond.selects RX3 yX3_melt yX3_melt, Cond.code yX3_melt cX3_melt 2 none, Cond.fieldLink RX3 60 "CoreMelter$Plate" "store" "I", Cond.fieldLink RX3 128 "CoreMelter$Core" "size" "I", Cond.fieldLink RX3 131 "CoreMelter$Core" "kinds" "[I", Cond.methodLink RX3 124 yX0_holding, Cond.instanceMethod yX0_holding, Cond.selects RX0 yX0_holding yX0_holding, Cond.initialized RX0, Cond.code yX0_holding cX0_holding 3 (some .int), Cond.fieldLink RX0 25 "CoreMelter$Core" "size" "I", Cond.methodLink RX0 55 yX0_end, Cond.instanceMethod yX0_end, Cond.selects RX0 yX0_end yX0_end, Cond.code yX0_end cX0_end 2 (some .int), Cond.fieldLink RX0 22 "CoreMelter$Core" "lowers" "[I", Cond.fieldLink RX0 13 "CoreMelter$Core" "lengths" "[I", Cond.methodLink RX3 134 yX0_end, Cond.methodLink RX3 137 yX3_meltIn, Cond.instanceMethod yX3_meltIn, Cond.selects RX3 yX3_meltIn yX3_meltIn, Cond.code yX3_meltIn cX3_meltIn 7 none, Cond.fieldLink RX3 140 "CoreMelter$Core" "densities" "[I", Cond.fieldLink RX3 66 "CoreMelter$Plate" "stockGas" "I"]
def wsX3_tick_r3 : List Cond := [Cond.fieldLink RX3 69 "CoreMelter$Plate" "stockDirt" "I", Cond.fieldLink RX3 34 "CoreMelter$Plate" "accounts" "[I", Cond.methodLink RX3 143 yX0_gasOfUnit, Cond.instanceMethod yX0_gasOfUnit, Cond.selects RX0 yX0_gasOfUnit yX0_gasOfUnit, Cond.code yX0_gasOfUnit cX0_gasOfUnit 2 (some .int), Cond.fieldLink RX0 9 "CoreMelter$Core" "kinds" "[I", Cond.fieldLink RX0 16 "CoreMelter$Core" "densities" "[I", Cond.fieldLink RX0 19 "CoreMelter$Core" "mores" "[I", Cond.methodLink RX3 146 yX0_dirtOfUnit, Cond.instanceMethod yX0_dirtOfUnit, Cond.selects RX0 yX0_dirtOfUnit yX0_dirtOfUnit, Cond.code yX0_dirtOfUnit cX0_dirtOfUnit 2 (some .int), Cond.methodLink RX3 107 yX3_draw, Cond.instanceMethod yX3_draw, Cond.selects RX3 yX3_draw yX3_draw, Cond.code yX3_draw cX3_draw 6 none, Cond.methodLink RX3 149 Lib.Math.min.name, Cond.static Lib.Math.min.name, Cond.initialized "java/lang/Math", Cond.code Lib.Math.min.name Lib.Math.min.code 2 (some .int), Cond.fieldLink RX3 155 "CoreMelter$Lines" "stuck" "[I", Cond.fieldLink RX3 158 "CoreMelter$Lines" "drawn" "[I", Cond.fieldLink RX3 165 "CoreMelter$Lines" "wasted" "[I"]
def wsX3_tick_r4 : List Cond := [Cond.fieldLink RX3 168 "CoreMelter$Vials" "present" "I", Cond.methodLink RX3 161 yX2_breaks, Cond.instanceMethod yX2_breaks, Cond.selects RX2 yX2_breaks yX2_breaks, Cond.code yX2_breaks cX2_breaks 4 (some .boolean), Cond.fieldLink RX2 16 "CoreMelter$Lines" "gap" "[I", Cond.methodLink RX3 171 yX2_soil, Cond.instanceMethod yX2_soil, Cond.selects RX2 yX2_soil yX2_soil, Cond.code yX2_soil cX2_soil 4 none, Cond.fieldLink RX2 13 "CoreMelter$Lines" "dirt" "[I", Cond.methodLink RX3 111 yX3_raiseTold, Cond.instanceMethod yX3_raiseTold, Cond.selects RX3 yX3_raiseTold yX3_raiseTold, Cond.code yX3_raiseTold cX3_raiseTold 5 none, Cond.fieldLink RX3 75 "CoreMelter$Plate" "waterBelowTold" "I", Cond.methodLink RX3 174 yX3_drawn, Cond.instanceMethod yX3_drawn, Cond.selects RX3 yX3_drawn yX3_drawn, Cond.code yX3_drawn cX3_drawn 1 (some .int), Cond.methodLink RX3 114 yX6_sealIfFull, Cond.instanceMethod yX6_sealIfFull, Cond.selects RX6 yX6_sealIfFull yX6_sealIfFull, Cond.initialized RX6]
def wsX3_tick_r5 : List Cond := [Cond.code yX6_sealIfFull cX6_sealIfFull 4 none, Cond.fieldLink RX6 23 "CoreMelter$Vials" "present" "I", Cond.fieldLink RX6 19 "CoreMelter$Vials" "sealed" "I", Cond.fieldLink RX6 9 "CoreMelter$Vials" "water" "[I", Cond.fieldLink RX6 13 "CoreMelter$Vials" "depth" "[I", Cond.fieldLink RX6 16 "CoreMelter$Vials" "ticks" "[I"]
def wsX3_tick : List Cond := .code yX3_tick cX3_tick 2 none :: ((wsX3_tick_r1 ++ (wsX3_tick_r2 ++ (wsX3_tick_r3 ++ (wsX3_tick_r4 ++ wsX3_tick_r5)))) ++ wsX30 ++ wsX00 ++ wsX20 ++ wsX60)
def wsX3_pass_r1 : List Cond := [Cond.methodLink RX3 97 yX3_tick, Cond.instanceMethod yX3_tick, Cond.selects RX3 yX3_tick yX3_tick, Cond.initialized RX3, Cond.code yX3_tick cX3_tick 2 none, Cond.fieldLink RX3 78 "CoreMelter$Plate" "ticks" "I", Cond.fieldLink RX3 81 "CoreMelter$Plate" "reason" "I", Cond.fieldLink RX3 84 "CoreMelter$Plate" "stopped" "I", Cond.fieldLink RX3 26 "CoreMelter$Plate" "vials" "LCoreMelter$Vials;", Cond.fieldLink RX3 30 "CoreMelter$Plate" "settings" "[I", Cond.fieldLink RX3 72 "CoreMelter$Plate" "told" "I", Cond.methodLink RX3 100 yX3_reasonToStop, Cond.instanceMethod yX3_reasonToStop, Cond.selects RX3 yX3_reasonToStop yX3_reasonToStop, Cond.code yX3_reasonToStop cX3_reasonToStop 1 (some .int), Cond.fieldLink RX3 56 "CoreMelter$Plate" "front" "I", Cond.fieldLink RX3 10 "CoreMelter$Plate" "core" "LCoreMelter$Core;", Cond.fieldLink RX3 118 "CoreMelter$Core" "height" "I", Cond.fieldLink RX3 19 "CoreMelter$Plate" "lines" "LCoreMelter$Lines;", Cond.fieldLink RX3 63 "CoreMelter$Plate" "stock" "I", Cond.methodLink RX3 121 yX2_stuckOnes, Cond.instanceMethod yX2_stuckOnes, Cond.selects RX2 yX2_stuckOnes yX2_stuckOnes, Cond.initialized RX2]
def wsX3_pass_r2 : List Cond := [Cond.code yX2_stuckOnes cX2_stuckOnes 3 (some .int), Cond.fieldLink RX2 9 "CoreMelter$Lines" "stuck" "[I", Cond.methodLink RX3 104 yX3_melt, Cond.instanceMethod yX3_melt, Cond.selects RX3 yX3_melt yX3_melt, Cond.code yX3_melt cX3_melt 2 none, Cond.fieldLink RX3 60 "CoreMelter$Plate" "store" "I", Cond.fieldLink RX3 128 "CoreMelter$Core" "size" "I", Cond.fieldLink RX3 131 "CoreMelter$Core" "kinds" "[I", Cond.methodLink RX3 124 yX0_holding, Cond.instanceMethod yX0_holding, Cond.selects RX0 yX0_holding yX0_holding, Cond.initialized RX0, Cond.code yX0_holding cX0_holding 3 (some .int), Cond.fieldLink RX0 25 "CoreMelter$Core" "size" "I", Cond.methodLink RX0 55 yX0_end, Cond.instanceMethod yX0_end, Cond.selects RX0 yX0_end yX0_end, Cond.code yX0_end cX0_end 2 (some .int), Cond.fieldLink RX0 22 "CoreMelter$Core" "lowers" "[I", Cond.fieldLink RX0 13 "CoreMelter$Core" "lengths" "[I", Cond.methodLink RX3 134 yX0_end, Cond.methodLink RX3 137 yX3_meltIn, Cond.instanceMethod yX3_meltIn]
def wsX3_pass_r3 : List Cond := [Cond.selects RX3 yX3_meltIn yX3_meltIn, Cond.code yX3_meltIn cX3_meltIn 7 none, Cond.fieldLink RX3 140 "CoreMelter$Core" "densities" "[I", Cond.fieldLink RX3 66 "CoreMelter$Plate" "stockGas" "I", Cond.fieldLink RX3 69 "CoreMelter$Plate" "stockDirt" "I", Cond.fieldLink RX3 34 "CoreMelter$Plate" "accounts" "[I", Cond.methodLink RX3 143 yX0_gasOfUnit, Cond.instanceMethod yX0_gasOfUnit, Cond.selects RX0 yX0_gasOfUnit yX0_gasOfUnit, Cond.code yX0_gasOfUnit cX0_gasOfUnit 2 (some .int), Cond.fieldLink RX0 9 "CoreMelter$Core" "kinds" "[I", Cond.fieldLink RX0 16 "CoreMelter$Core" "densities" "[I", Cond.fieldLink RX0 19 "CoreMelter$Core" "mores" "[I", Cond.methodLink RX3 146 yX0_dirtOfUnit, Cond.instanceMethod yX0_dirtOfUnit, Cond.selects RX0 yX0_dirtOfUnit yX0_dirtOfUnit, Cond.code yX0_dirtOfUnit cX0_dirtOfUnit 2 (some .int), Cond.methodLink RX3 107 yX3_draw, Cond.instanceMethod yX3_draw, Cond.selects RX3 yX3_draw yX3_draw, Cond.code yX3_draw cX3_draw 6 none, Cond.methodLink RX3 149 Lib.Math.min.name, Cond.static Lib.Math.min.name, Cond.initialized "java/lang/Math"]
def wsX3_pass_r4 : List Cond := [Cond.code Lib.Math.min.name Lib.Math.min.code 2 (some .int), Cond.fieldLink RX3 155 "CoreMelter$Lines" "stuck" "[I", Cond.fieldLink RX3 158 "CoreMelter$Lines" "drawn" "[I", Cond.fieldLink RX3 165 "CoreMelter$Lines" "wasted" "[I", Cond.fieldLink RX3 168 "CoreMelter$Vials" "present" "I", Cond.methodLink RX3 161 yX2_breaks, Cond.instanceMethod yX2_breaks, Cond.selects RX2 yX2_breaks yX2_breaks, Cond.code yX2_breaks cX2_breaks 4 (some .boolean), Cond.fieldLink RX2 16 "CoreMelter$Lines" "gap" "[I", Cond.methodLink RX3 171 yX2_soil, Cond.instanceMethod yX2_soil, Cond.selects RX2 yX2_soil yX2_soil, Cond.code yX2_soil cX2_soil 4 none, Cond.fieldLink RX2 13 "CoreMelter$Lines" "dirt" "[I", Cond.methodLink RX3 111 yX3_raiseTold, Cond.instanceMethod yX3_raiseTold, Cond.selects RX3 yX3_raiseTold yX3_raiseTold, Cond.code yX3_raiseTold cX3_raiseTold 5 none, Cond.fieldLink RX3 75 "CoreMelter$Plate" "waterBelowTold" "I", Cond.methodLink RX3 174 yX3_drawn, Cond.instanceMethod yX3_drawn, Cond.selects RX3 yX3_drawn yX3_drawn, Cond.code yX3_drawn cX3_drawn 1 (some .int)]
def wsX3_pass_r5 : List Cond := [Cond.methodLink RX3 114 yX6_sealIfFull, Cond.instanceMethod yX6_sealIfFull, Cond.selects RX6 yX6_sealIfFull yX6_sealIfFull, Cond.initialized RX6, Cond.code yX6_sealIfFull cX6_sealIfFull 4 none, Cond.fieldLink RX6 23 "CoreMelter$Vials" "present" "I", Cond.fieldLink RX6 19 "CoreMelter$Vials" "sealed" "I", Cond.fieldLink RX6 9 "CoreMelter$Vials" "water" "[I", Cond.fieldLink RX6 13 "CoreMelter$Vials" "depth" "[I", Cond.fieldLink RX6 16 "CoreMelter$Vials" "ticks" "[I"]
def wsX3_pass : List Cond := .code yX3_pass cX3_pass 3 none :: ((wsX3_pass_r1 ++ (wsX3_pass_r2 ++ (wsX3_pass_r3 ++ (wsX3_pass_r4 ++ wsX3_pass_r5)))) ++ wsX30 ++ wsX00 ++ wsX20 ++ wsX60)
def wsX4_init : List Cond := .code yX4_init cX4_init 1 none :: ([.methodLink RX4 1 objectInit, .instanceMethod objectInit, .code objectInit ⟨#[0xb1]⟩ 1 none, .classLink RX4 7 RX0, .instantiable RX0 7, .initialized RX0, .fieldLink RX4 10 "CoreMelter$Reading" "core" "LCoreMelter$Core;", .arrayClass .int, .fieldLink RX4 16 "CoreMelter$Reading" "numbers" "[I", .instanceMethod yX0_init, .code yX0_init cX0_init 1 none, .methodLink RX0 1 objectInit, .fieldLink RX0 9 "CoreMelter$Core" "kinds" "[I", .fieldLink RX0 13 "CoreMelter$Core" "lengths" "[I", .fieldLink RX0 16 "CoreMelter$Core" "densities" "[I", .fieldLink RX0 19 "CoreMelter$Core" "mores" "[I", .fieldLink RX0 22 "CoreMelter$Core" "lowers" "[I"] ++ wsX00 ++ wsX40)
def wsX5_at : List Cond := .code yX5_at cX5_at 2 (some .char) :: ([.fieldLink RX5 13 "CoreMelter$Text" "length" "I", .fieldLink RX5 9 "CoreMelter$Text" "characters" "[C"] ++ wsX50)
def wsX5_isSmallLetter : List Cond := .code yX5_isSmallLetter cX5_isSmallLetter 2 (some .boolean) :: ([.methodLink RX5 21 yX5_at, .instanceMethod yX5_at, .selects RX5 yX5_at yX5_at, .initialized RX5, .code yX5_at cX5_at 2 (some .char), .fieldLink RX5 13 "CoreMelter$Text" "length" "I", .fieldLink RX5 9 "CoreMelter$Text" "characters" "[C"] ++ wsX50)
def wsJ0_coder_7d493 : List Cond := .code yJ0_coder_7d493 cJ0_coder_7d493 1 (some .byte) :: ([.fieldLink RJ0 38 "java/lang/String" "COMPACT_STRINGS" "Z", .fieldLink RJ0 15 "java/lang/String" "coder" "B"])
def wsJ0_length_8abf5 : List Cond := .code yJ0_length_8abf5 cJ0_length_8abf5 1 (some .int) :: ([.fieldLink RJ0 9 "java/lang/String" "value" "[B", .methodLink RJ0 335 yJ0_coder_7d493, .instanceMethod yJ0_coder_7d493, .selects RJ0 yJ0_coder_7d493 yJ0_coder_7d493, .initialized RJ0, .code yJ0_coder_7d493 cJ0_coder_7d493 1 (some .byte), .fieldLink RJ0 38 "java/lang/String" "COMPACT_STRINGS" "Z", .fieldLink RJ0 15 "java/lang/String" "coder" "B"])
def wsJ0_isLatin1_aae02 : List Cond := .code yJ0_isLatin1_aae02 cJ0_isLatin1_aae02 1 (some .boolean) :: ([.fieldLink RJ0 38 "java/lang/String" "COMPACT_STRINGS" "Z", .fieldLink RJ0 15 "java/lang/String" "coder" "B"])
def wsJ3_checkIndex_8e157 : List Cond := .code yJ3_checkIndex_8e157 cJ3_checkIndex_8e157 3 (some .int) :: ([])
def wsJ0_checkIndex_df160 : List Cond := .code yJ0_checkIndex_df160 cJ0_checkIndex_df160 2 none :: ([.fieldLink RJ0 1053 "jdk/internal/util/Preconditions" "SIOOBE_FORMATTER" "Ljava/util/function/BiFunction;", .methodLink RJ0 1059 yJ3_checkIndex_8e157, .static yJ3_checkIndex_8e157, .initialized RJ3, .code yJ3_checkIndex_8e157 cJ3_checkIndex_8e157 3 (some .int)])
def wsJ1_charAt_3b067 : List Cond := .code yJ1_charAt_3b067 cJ1_charAt_3b067 2 (some .char) :: ([.methodLink RJ1 9 yJ0_checkIndex_df160, .static yJ0_checkIndex_df160, .initialized RJ0, .code yJ0_checkIndex_df160 cJ0_checkIndex_df160 2 none, .fieldLink RJ0 1053 "jdk/internal/util/Preconditions" "SIOOBE_FORMATTER" "Ljava/util/function/BiFunction;", .methodLink RJ0 1059 yJ3_checkIndex_8e157, .static yJ3_checkIndex_8e157, .initialized RJ3, .code yJ3_checkIndex_8e157 cJ3_checkIndex_8e157 3 (some .int)])
def wsJ2_length_9d52b : List Cond := .code yJ2_length_9d52b cJ2_length_9d52b 1 (some .int) :: ([])
def wsJ2_checkIndex_2214a : List Cond := .code yJ2_checkIndex_2214a cJ2_checkIndex_2214a 2 none :: ([.methodLink RJ2 48 yJ2_length_9d52b, .static yJ2_length_9d52b, .initialized RJ2, .code yJ2_length_9d52b cJ2_length_9d52b 1 (some .int), .methodLink RJ2 414 yJ0_checkIndex_df160, .static yJ0_checkIndex_df160, .initialized RJ0, .code yJ0_checkIndex_df160 cJ0_checkIndex_df160 2 none, .fieldLink RJ0 1053 "jdk/internal/util/Preconditions" "SIOOBE_FORMATTER" "Ljava/util/function/BiFunction;", .methodLink RJ0 1059 yJ3_checkIndex_8e157, .static yJ3_checkIndex_8e157, .initialized RJ3, .code yJ3_checkIndex_8e157 cJ3_checkIndex_8e157 3 (some .int)])
def wsJ2_getChar_3b067 : List Cond := .code yJ2_getChar_3b067 cJ2_getChar_3b067 2 (some .char) :: ([.fieldLink RJ2 44 "java/lang/StringUTF16" "$assertionsDisabled" "Z", .fieldLink RJ2 59 "java/lang/StringUTF16" "HI_BYTE_SHIFT" "I", .fieldLink RJ2 63 "java/lang/StringUTF16" "LO_BYTE_SHIFT" "I", .methodLink RJ2 48 yJ2_length_9d52b, .static yJ2_length_9d52b, .initialized RJ2, .code yJ2_length_9d52b cJ2_length_9d52b 1 (some .int)])
def wsJ2_charAt_3b067 : List Cond := .code yJ2_charAt_3b067 cJ2_charAt_3b067 2 (some .char) :: ([.methodLink RJ2 67 yJ2_checkIndex_2214a, .static yJ2_checkIndex_2214a, .initialized RJ2, .code yJ2_checkIndex_2214a cJ2_checkIndex_2214a 2 none, .methodLink RJ2 48 yJ2_length_9d52b, .static yJ2_length_9d52b, .code yJ2_length_9d52b cJ2_length_9d52b 1 (some .int), .methodLink RJ2 414 yJ0_checkIndex_df160, .static yJ0_checkIndex_df160, .initialized RJ0, .code yJ0_checkIndex_df160 cJ0_checkIndex_df160 2 none, .fieldLink RJ0 1053 "jdk/internal/util/Preconditions" "SIOOBE_FORMATTER" "Ljava/util/function/BiFunction;", .methodLink RJ0 1059 yJ3_checkIndex_8e157, .static yJ3_checkIndex_8e157, .initialized RJ3, .code yJ3_checkIndex_8e157 cJ3_checkIndex_8e157 3 (some .int), .methodLink RJ2 71 yJ2_getChar_3b067, .static yJ2_getChar_3b067, .code yJ2_getChar_3b067 cJ2_getChar_3b067 2 (some .char), .fieldLink RJ2 44 "java/lang/StringUTF16" "$assertionsDisabled" "Z", .fieldLink RJ2 59 "java/lang/StringUTF16" "HI_BYTE_SHIFT" "I", .fieldLink RJ2 63 "java/lang/StringUTF16" "LO_BYTE_SHIFT" "I"])
def wsJ0_charAt_5068e_r1 : List Cond := [Cond.fieldLink RJ0 9 "java/lang/String" "value" "[B", Cond.methodLink RJ0 492 yJ0_isLatin1_aae02, Cond.instanceMethod yJ0_isLatin1_aae02, Cond.selects RJ0 yJ0_isLatin1_aae02 yJ0_isLatin1_aae02, Cond.initialized RJ0, Cond.code yJ0_isLatin1_aae02 cJ0_isLatin1_aae02 1 (some .boolean), Cond.fieldLink RJ0 38 "java/lang/String" "COMPACT_STRINGS" "Z", Cond.fieldLink RJ0 15 "java/lang/String" "coder" "B", Cond.methodLink RJ0 495 yJ1_charAt_3b067, Cond.static yJ1_charAt_3b067, Cond.initialized RJ1, Cond.code yJ1_charAt_3b067 cJ1_charAt_3b067 2 (some .char), Cond.methodLink RJ1 9 yJ0_checkIndex_df160, Cond.static yJ0_checkIndex_df160, Cond.code yJ0_checkIndex_df160 cJ0_checkIndex_df160 2 none, Cond.fieldLink RJ0 1053 "jdk/internal/util/Preconditions" "SIOOBE_FORMATTER" "Ljava/util/function/BiFunction;", Cond.methodLink RJ0 1059 yJ3_checkIndex_8e157, Cond.static yJ3_checkIndex_8e157, Cond.initialized RJ3, Cond.code yJ3_checkIndex_8e157 cJ3_checkIndex_8e157 3 (some .int), Cond.methodLink RJ0 498 yJ2_charAt_3b067, Cond.static yJ2_charAt_3b067, Cond.initialized RJ2, Cond.code yJ2_charAt_3b067 cJ2_charAt_3b067 2 (some .char)]
def wsJ0_charAt_5068e_r2 : List Cond := [Cond.methodLink RJ2 67 yJ2_checkIndex_2214a, Cond.static yJ2_checkIndex_2214a, Cond.code yJ2_checkIndex_2214a cJ2_checkIndex_2214a 2 none, Cond.methodLink RJ2 48 yJ2_length_9d52b, Cond.static yJ2_length_9d52b, Cond.code yJ2_length_9d52b cJ2_length_9d52b 1 (some .int), Cond.methodLink RJ2 414 yJ0_checkIndex_df160, Cond.methodLink RJ2 71 yJ2_getChar_3b067, Cond.static yJ2_getChar_3b067, Cond.code yJ2_getChar_3b067 cJ2_getChar_3b067 2 (some .char), Cond.fieldLink RJ2 44 "java/lang/StringUTF16" "$assertionsDisabled" "Z", Cond.fieldLink RJ2 59 "java/lang/StringUTF16" "HI_BYTE_SHIFT" "I", Cond.fieldLink RJ2 63 "java/lang/StringUTF16" "LO_BYTE_SHIFT" "I"]
def wsJ0_charAt_5068e : List Cond := .code yJ0_charAt_5068e cJ0_charAt_5068e 2 (some .char) :: ((wsJ0_charAt_5068e_r1 ++ wsJ0_charAt_5068e_r2))
def wsX5_holds_r1 : List Cond := [Cond.methodLink RX5 25 yJ0_length_8abf5, Cond.instanceMethod yJ0_length_8abf5, Cond.selects RJ0 yJ0_length_8abf5 yJ0_length_8abf5, Cond.initialized RJ0, Cond.code yJ0_length_8abf5 cJ0_length_8abf5 1 (some .int), Cond.fieldLink RJ0 9 "java/lang/String" "value" "[B", Cond.methodLink RJ0 335 yJ0_coder_7d493, Cond.instanceMethod yJ0_coder_7d493, Cond.selects RJ0 yJ0_coder_7d493 yJ0_coder_7d493, Cond.code yJ0_coder_7d493 cJ0_coder_7d493 1 (some .byte), Cond.fieldLink RJ0 38 "java/lang/String" "COMPACT_STRINGS" "Z", Cond.fieldLink RJ0 15 "java/lang/String" "coder" "B", Cond.methodLink RX5 21 yX5_at, Cond.instanceMethod yX5_at, Cond.selects RX5 yX5_at yX5_at, Cond.initialized RX5, Cond.code yX5_at cX5_at 2 (some .char), Cond.fieldLink RX5 13 "CoreMelter$Text" "length" "I", Cond.fieldLink RX5 9 "CoreMelter$Text" "characters" "[C", Cond.methodLink RX5 30 yJ0_charAt_5068e, Cond.instanceMethod yJ0_charAt_5068e, Cond.selects RJ0 yJ0_charAt_5068e yJ0_charAt_5068e, Cond.code yJ0_charAt_5068e cJ0_charAt_5068e 2 (some .char), Cond.methodLink RJ0 492 yJ0_isLatin1_aae02]
def wsX5_holds_r2 : List Cond := [Cond.instanceMethod yJ0_isLatin1_aae02, Cond.selects RJ0 yJ0_isLatin1_aae02 yJ0_isLatin1_aae02, Cond.code yJ0_isLatin1_aae02 cJ0_isLatin1_aae02 1 (some .boolean), Cond.methodLink RJ0 495 yJ1_charAt_3b067, Cond.static yJ1_charAt_3b067, Cond.initialized RJ1, Cond.code yJ1_charAt_3b067 cJ1_charAt_3b067 2 (some .char), Cond.methodLink RJ1 9 yJ0_checkIndex_df160, Cond.static yJ0_checkIndex_df160, Cond.code yJ0_checkIndex_df160 cJ0_checkIndex_df160 2 none, Cond.fieldLink RJ0 1053 "jdk/internal/util/Preconditions" "SIOOBE_FORMATTER" "Ljava/util/function/BiFunction;", Cond.methodLink RJ0 1059 yJ3_checkIndex_8e157, Cond.static yJ3_checkIndex_8e157, Cond.initialized RJ3, Cond.code yJ3_checkIndex_8e157 cJ3_checkIndex_8e157 3 (some .int), Cond.methodLink RJ0 498 yJ2_charAt_3b067, Cond.static yJ2_charAt_3b067, Cond.initialized RJ2, Cond.code yJ2_charAt_3b067 cJ2_charAt_3b067 2 (some .char), Cond.methodLink RJ2 67 yJ2_checkIndex_2214a, Cond.static yJ2_checkIndex_2214a, Cond.code yJ2_checkIndex_2214a cJ2_checkIndex_2214a 2 none, Cond.methodLink RJ2 48 yJ2_length_9d52b, Cond.static yJ2_length_9d52b]
def wsX5_holds_r3 : List Cond := [Cond.code yJ2_length_9d52b cJ2_length_9d52b 1 (some .int), Cond.methodLink RJ2 414 yJ0_checkIndex_df160, Cond.methodLink RJ2 71 yJ2_getChar_3b067, Cond.static yJ2_getChar_3b067, Cond.code yJ2_getChar_3b067 cJ2_getChar_3b067 2 (some .char), Cond.fieldLink RJ2 44 "java/lang/StringUTF16" "$assertionsDisabled" "Z", Cond.fieldLink RJ2 59 "java/lang/StringUTF16" "HI_BYTE_SHIFT" "I", Cond.fieldLink RJ2 63 "java/lang/StringUTF16" "LO_BYTE_SHIFT" "I"]
def wsX5_holds : List Cond := .code yX5_holds cX5_holds 5 (some .boolean) :: ((wsX5_holds_r1 ++ (wsX5_holds_r2 ++ wsX5_holds_r3)) ++ wsX50)
def wsX4_readWord_r1 : List Cond := [Cond.fieldLink RX4 31 "CoreMelter$Reading" "next" "I", Cond.fieldLink RX4 34 "CoreMelter$Text" "length" "I", Cond.methodLink RX4 70 yX5_isSmallLetter, Cond.instanceMethod yX5_isSmallLetter, Cond.selects RX5 yX5_isSmallLetter yX5_isSmallLetter, Cond.initialized RX5, Cond.code yX5_isSmallLetter cX5_isSmallLetter 2 (some .boolean), Cond.methodLink RX5 21 yX5_at, Cond.instanceMethod yX5_at, Cond.selects RX5 yX5_at yX5_at, Cond.code yX5_at cX5_at 2 (some .char), Cond.fieldLink RX5 13 "CoreMelter$Text" "length" "I", Cond.fieldLink RX5 9 "CoreMelter$Text" "characters" "[C", Cond.methodLink RX4 76 yX5_holds, Cond.instanceMethod yX5_holds, Cond.selects RX5 yX5_holds yX5_holds, Cond.code yX5_holds cX5_holds 5 (some .boolean), Cond.methodLink RX5 25 yJ0_length_8abf5, Cond.instanceMethod yJ0_length_8abf5, Cond.selects RJ0 yJ0_length_8abf5 yJ0_length_8abf5, Cond.initialized RJ0, Cond.code yJ0_length_8abf5 cJ0_length_8abf5 1 (some .int), Cond.fieldLink RJ0 9 "java/lang/String" "value" "[B", Cond.methodLink RJ0 335 yJ0_coder_7d493]
def wsX4_readWord_r2 : List Cond := [Cond.instanceMethod yJ0_coder_7d493, Cond.selects RJ0 yJ0_coder_7d493 yJ0_coder_7d493, Cond.code yJ0_coder_7d493 cJ0_coder_7d493 1 (some .byte), Cond.fieldLink RJ0 38 "java/lang/String" "COMPACT_STRINGS" "Z", Cond.fieldLink RJ0 15 "java/lang/String" "coder" "B", Cond.methodLink RX5 30 yJ0_charAt_5068e, Cond.instanceMethod yJ0_charAt_5068e, Cond.selects RJ0 yJ0_charAt_5068e yJ0_charAt_5068e, Cond.code yJ0_charAt_5068e cJ0_charAt_5068e 2 (some .char), Cond.methodLink RJ0 492 yJ0_isLatin1_aae02, Cond.instanceMethod yJ0_isLatin1_aae02, Cond.selects RJ0 yJ0_isLatin1_aae02 yJ0_isLatin1_aae02, Cond.code yJ0_isLatin1_aae02 cJ0_isLatin1_aae02 1 (some .boolean), Cond.methodLink RJ0 495 yJ1_charAt_3b067, Cond.static yJ1_charAt_3b067, Cond.initialized RJ1, Cond.code yJ1_charAt_3b067 cJ1_charAt_3b067 2 (some .char), Cond.methodLink RJ1 9 yJ0_checkIndex_df160, Cond.static yJ0_checkIndex_df160, Cond.code yJ0_checkIndex_df160 cJ0_checkIndex_df160 2 none, Cond.fieldLink RJ0 1053 "jdk/internal/util/Preconditions" "SIOOBE_FORMATTER" "Ljava/util/function/BiFunction;", Cond.methodLink RJ0 1059 yJ3_checkIndex_8e157, Cond.static yJ3_checkIndex_8e157, Cond.initialized RJ3]
def wsX4_readWord_r3 : List Cond := [Cond.code yJ3_checkIndex_8e157 cJ3_checkIndex_8e157 3 (some .int), Cond.methodLink RJ0 498 yJ2_charAt_3b067, Cond.static yJ2_charAt_3b067, Cond.initialized RJ2, Cond.code yJ2_charAt_3b067 cJ2_charAt_3b067 2 (some .char), Cond.methodLink RJ2 67 yJ2_checkIndex_2214a, Cond.static yJ2_checkIndex_2214a, Cond.code yJ2_checkIndex_2214a cJ2_checkIndex_2214a 2 none, Cond.methodLink RJ2 48 yJ2_length_9d52b, Cond.static yJ2_length_9d52b, Cond.code yJ2_length_9d52b cJ2_length_9d52b 1 (some .int), Cond.methodLink RJ2 414 yJ0_checkIndex_df160, Cond.methodLink RJ2 71 yJ2_getChar_3b067, Cond.static yJ2_getChar_3b067, Cond.code yJ2_getChar_3b067 cJ2_getChar_3b067 2 (some .char), Cond.fieldLink RJ2 44 "java/lang/StringUTF16" "$assertionsDisabled" "Z", Cond.fieldLink RJ2 59 "java/lang/StringUTF16" "HI_BYTE_SHIFT" "I", Cond.fieldLink RJ2 63 "java/lang/StringUTF16" "LO_BYTE_SHIFT" "I"]
def wsX4_readWord : List Cond := .code yX4_readWord cX4_readWord 3 (some .int) :: ((wsX4_readWord_r1 ++ (wsX4_readWord_r2 ++ wsX4_readWord_r3)) ++ wsX40 ++ wsX50)
def wsX5_isDigit : List Cond := .code yX5_isDigit cX5_isDigit 2 (some .boolean) :: ([.methodLink RX5 21 yX5_at, .instanceMethod yX5_at, .selects RX5 yX5_at yX5_at, .initialized RX5, .code yX5_at cX5_at 2 (some .char), .fieldLink RX5 13 "CoreMelter$Text" "length" "I", .fieldLink RX5 9 "CoreMelter$Text" "characters" "[C"] ++ wsX50)
def wsX4_readNumber : List Cond := .code yX4_readNumber cX4_readNumber 4 (some .int) :: ([.fieldLink RX4 31 "CoreMelter$Reading" "next" "I", .methodLink RX4 90 yX5_isDigit, .instanceMethod yX5_isDigit, .selects RX5 yX5_isDigit yX5_isDigit, .initialized RX5, .code yX5_isDigit cX5_isDigit 2 (some .boolean), .methodLink RX5 21 yX5_at, .instanceMethod yX5_at, .selects RX5 yX5_at yX5_at, .code yX5_at cX5_at 2 (some .char), .fieldLink RX5 13 "CoreMelter$Text" "length" "I", .fieldLink RX5 9 "CoreMelter$Text" "characters" "[C", .methodLink RX4 62 yX5_at] ++ wsX40 ++ wsX50)
def wsX4_readNumbers : List Cond := .code yX4_readNumbers cX4_readNumbers 4 (some .int) :: ([.fieldLink RX4 16 "CoreMelter$Reading" "numbers" "[I", .fieldLink RX4 31 "CoreMelter$Reading" "next" "I", .methodLink RX4 84 yJ7_fill_53178, .static yJ7_fill_53178, .initialized RJ7, .code yJ7_fill_53178 cJ7_fill_53178 4 none, .methodLink RX4 62 yX5_at, .instanceMethod yX5_at, .selects RX5 yX5_at yX5_at, .initialized RX5, .code yX5_at cX5_at 2 (some .char), .fieldLink RX5 13 "CoreMelter$Text" "length" "I", .fieldLink RX5 9 "CoreMelter$Text" "characters" "[C", .methodLink RX4 90 yX5_isDigit, .instanceMethod yX5_isDigit, .selects RX5 yX5_isDigit yX5_isDigit, .code yX5_isDigit cX5_isDigit 2 (some .boolean), .methodLink RX5 21 yX5_at, .methodLink RX4 93 yX4_readNumber, .instanceMethod yX4_readNumber, .selects RX4 yX4_readNumber yX4_readNumber, .initialized RX4, .code yX4_readNumber cX4_readNumber 4 (some .int)] ++ wsX40 ++ wsX50)
def wsX4_readSegment_r1 : List Cond := [Cond.fieldLink RX4 24 "CoreMelter$Reading" "reason" "I", Cond.fieldLink RX4 28 "CoreMelter$Reading" "number" "I", Cond.fieldLink RX4 16 "CoreMelter$Reading" "numbers" "[I", Cond.fieldLink RX4 10 "CoreMelter$Reading" "core" "LCoreMelter$Core;", Cond.fieldLink RX4 31 "CoreMelter$Reading" "next" "I", Cond.methodLink RX4 46 yX4_readWord, Cond.instanceMethod yX4_readWord, Cond.selects RX4 yX4_readWord yX4_readWord, Cond.initialized RX4, Cond.code yX4_readWord cX4_readWord 3 (some .int), Cond.fieldLink RX4 34 "CoreMelter$Text" "length" "I", Cond.methodLink RX4 70 yX5_isSmallLetter, Cond.instanceMethod yX5_isSmallLetter, Cond.selects RX5 yX5_isSmallLetter yX5_isSmallLetter, Cond.initialized RX5, Cond.code yX5_isSmallLetter cX5_isSmallLetter 2 (some .boolean), Cond.methodLink RX5 21 yX5_at, Cond.instanceMethod yX5_at, Cond.selects RX5 yX5_at yX5_at, Cond.code yX5_at cX5_at 2 (some .char), Cond.fieldLink RX5 13 "CoreMelter$Text" "length" "I", Cond.fieldLink RX5 9 "CoreMelter$Text" "characters" "[C", Cond.methodLink RX4 76 yX5_holds, Cond.instanceMethod yX5_holds]
def wsX4_readSegment_r2 : List Cond := [Cond.selects RX5 yX5_holds yX5_holds, Cond.code yX5_holds cX5_holds 5 (some .boolean), Cond.methodLink RX5 25 yJ0_length_8abf5, Cond.instanceMethod yJ0_length_8abf5, Cond.selects RJ0 yJ0_length_8abf5 yJ0_length_8abf5, Cond.initialized RJ0, Cond.code yJ0_length_8abf5 cJ0_length_8abf5 1 (some .int), Cond.fieldLink RJ0 9 "java/lang/String" "value" "[B", Cond.methodLink RJ0 335 yJ0_coder_7d493, Cond.instanceMethod yJ0_coder_7d493, Cond.selects RJ0 yJ0_coder_7d493 yJ0_coder_7d493, Cond.code yJ0_coder_7d493 cJ0_coder_7d493 1 (some .byte), Cond.fieldLink RJ0 38 "java/lang/String" "COMPACT_STRINGS" "Z", Cond.fieldLink RJ0 15 "java/lang/String" "coder" "B", Cond.methodLink RX5 30 yJ0_charAt_5068e, Cond.instanceMethod yJ0_charAt_5068e, Cond.selects RJ0 yJ0_charAt_5068e yJ0_charAt_5068e, Cond.code yJ0_charAt_5068e cJ0_charAt_5068e 2 (some .char), Cond.methodLink RJ0 492 yJ0_isLatin1_aae02, Cond.instanceMethod yJ0_isLatin1_aae02, Cond.selects RJ0 yJ0_isLatin1_aae02 yJ0_isLatin1_aae02, Cond.code yJ0_isLatin1_aae02 cJ0_isLatin1_aae02 1 (some .boolean), Cond.methodLink RJ0 495 yJ1_charAt_3b067, Cond.static yJ1_charAt_3b067]
def wsX4_readSegment_r3 : List Cond := [Cond.initialized RJ1, Cond.code yJ1_charAt_3b067 cJ1_charAt_3b067 2 (some .char), Cond.methodLink RJ1 9 yJ0_checkIndex_df160, Cond.static yJ0_checkIndex_df160, Cond.code yJ0_checkIndex_df160 cJ0_checkIndex_df160 2 none, Cond.fieldLink RJ0 1053 "jdk/internal/util/Preconditions" "SIOOBE_FORMATTER" "Ljava/util/function/BiFunction;", Cond.methodLink RJ0 1059 yJ3_checkIndex_8e157, Cond.static yJ3_checkIndex_8e157, Cond.initialized RJ3, Cond.code yJ3_checkIndex_8e157 cJ3_checkIndex_8e157 3 (some .int), Cond.methodLink RJ0 498 yJ2_charAt_3b067, Cond.static yJ2_charAt_3b067, Cond.initialized RJ2, Cond.code yJ2_charAt_3b067 cJ2_charAt_3b067 2 (some .char), Cond.methodLink RJ2 67 yJ2_checkIndex_2214a, Cond.static yJ2_checkIndex_2214a, Cond.code yJ2_checkIndex_2214a cJ2_checkIndex_2214a 2 none, Cond.methodLink RJ2 48 yJ2_length_9d52b, Cond.static yJ2_length_9d52b, Cond.code yJ2_length_9d52b cJ2_length_9d52b 1 (some .int), Cond.methodLink RJ2 414 yJ0_checkIndex_df160, Cond.methodLink RJ2 71 yJ2_getChar_3b067, Cond.static yJ2_getChar_3b067, Cond.code yJ2_getChar_3b067 cJ2_getChar_3b067 2 (some .char)]
def wsX4_readSegment_r4 : List Cond := [Cond.fieldLink RJ2 44 "java/lang/StringUTF16" "$assertionsDisabled" "Z", Cond.fieldLink RJ2 59 "java/lang/StringUTF16" "HI_BYTE_SHIFT" "I", Cond.fieldLink RJ2 63 "java/lang/StringUTF16" "LO_BYTE_SHIFT" "I", Cond.methodLink RX4 50 yX4_readNumbers, Cond.instanceMethod yX4_readNumbers, Cond.selects RX4 yX4_readNumbers yX4_readNumbers, Cond.code yX4_readNumbers cX4_readNumbers 4 (some .int), Cond.methodLink RX4 84 yJ7_fill_53178, Cond.static yJ7_fill_53178, Cond.initialized RJ7, Cond.code yJ7_fill_53178 cJ7_fill_53178 4 none, Cond.methodLink RX4 62 yX5_at, Cond.methodLink RX4 90 yX5_isDigit, Cond.instanceMethod yX5_isDigit, Cond.selects RX5 yX5_isDigit yX5_isDigit, Cond.code yX5_isDigit cX5_isDigit 2 (some .boolean), Cond.methodLink RX4 93 yX4_readNumber, Cond.instanceMethod yX4_readNumber, Cond.selects RX4 yX4_readNumber yX4_readNumber, Cond.code yX4_readNumber cX4_readNumber 4 (some .int), Cond.methodLink RX4 54 yX0_firstWrong, Cond.static yX0_firstWrong, Cond.initialized RX0, Cond.code yX0_firstWrong cX0_firstWrong 4 (some .int)]
def wsX4_readSegment_r5 : List Cond := [Cond.methodLink RX0 38 yX0_leastDensity, Cond.static yX0_leastDensity, Cond.code yX0_leastDensity cX0_leastDensity 1 (some .int), Cond.methodLink RX0 42 yX0_mostDensity, Cond.static yX0_mostDensity, Cond.code yX0_mostDensity cX0_mostDensity 1 (some .int), Cond.methodLink RX0 45 yX0_leastMore, Cond.static yX0_leastMore, Cond.code yX0_leastMore cX0_leastMore 1 (some .int), Cond.methodLink RX0 48 yX0_mostMore, Cond.static yX0_mostMore, Cond.code yX0_mostMore cX0_mostMore 1 (some .int), Cond.methodLink RX4 58 yX0_isFull, Cond.instanceMethod yX0_isFull, Cond.selects RX0 yX0_isFull yX0_isFull, Cond.code yX0_isFull cX0_isFull 1 (some .boolean), Cond.fieldLink RX0 25 "CoreMelter$Core" "size" "I", Cond.methodLink RX4 66 yX0_put, Cond.instanceMethod yX0_put, Cond.selects RX0 yX0_put yX0_put, Cond.code yX0_put cX0_put 5 none, Cond.fieldLink RX0 9 "CoreMelter$Core" "kinds" "[I", Cond.fieldLink RX0 13 "CoreMelter$Core" "lengths" "[I", Cond.fieldLink RX0 16 "CoreMelter$Core" "densities" "[I"]
def wsX4_readSegment_r6 : List Cond := [Cond.fieldLink RX0 19 "CoreMelter$Core" "mores" "[I", Cond.fieldLink RX0 22 "CoreMelter$Core" "lowers" "[I", Cond.fieldLink RX0 29 "CoreMelter$Core" "height" "I", Cond.methodLink RX0 51 yX0_isFull]
def wsX4_readSegment : List Cond := .code yX4_readSegment cX4_readSegment 3 none :: ((wsX4_readSegment_r1 ++ (wsX4_readSegment_r2 ++ (wsX4_readSegment_r3 ++ (wsX4_readSegment_r4 ++ (wsX4_readSegment_r5 ++ wsX4_readSegment_r6))))) ++ wsX40 ++ wsX50 ++ wsX00)
def wsX4_read_r1 : List Cond := [Cond.fieldLink RX4 10 "CoreMelter$Reading" "core" "LCoreMelter$Core;", Cond.fieldLink RX4 24 "CoreMelter$Reading" "reason" "I", Cond.fieldLink RX4 28 "CoreMelter$Reading" "number" "I", Cond.fieldLink RX4 31 "CoreMelter$Reading" "next" "I", Cond.fieldLink RX4 34 "CoreMelter$Text" "length" "I", Cond.fieldLink RX4 39 "CoreMelter$Reading" "first" "I", Cond.methodLink RX4 20 yX0_copyFrom, Cond.instanceMethod yX0_copyFrom, Cond.selects RX0 yX0_copyFrom yX0_copyFrom, Cond.initialized RX0, Cond.code yX0_copyFrom cX0_copyFrom 2 none, Cond.fieldLink RX0 25 "CoreMelter$Core" "size" "I", Cond.fieldLink RX0 29 "CoreMelter$Core" "height" "I", Cond.fieldLink RX0 9 "CoreMelter$Core" "kinds" "[I", Cond.methodLink RX0 32 arraycopyName, Cond.native arraycopyName, Cond.static arraycopyName, Cond.initialized "java/lang/System", Cond.fieldLink RX0 13 "CoreMelter$Core" "lengths" "[I", Cond.fieldLink RX0 16 "CoreMelter$Core" "densities" "[I", Cond.fieldLink RX0 19 "CoreMelter$Core" "mores" "[I", Cond.fieldLink RX0 22 "CoreMelter$Core" "lowers" "[I", Cond.methodLink RX4 42 yX4_readSegment, Cond.instanceMethod yX4_readSegment]
def wsX4_read_r2 : List Cond := [Cond.selects RX4 yX4_readSegment yX4_readSegment, Cond.initialized RX4, Cond.code yX4_readSegment cX4_readSegment 3 none, Cond.fieldLink RX4 16 "CoreMelter$Reading" "numbers" "[I", Cond.methodLink RX4 46 yX4_readWord, Cond.instanceMethod yX4_readWord, Cond.selects RX4 yX4_readWord yX4_readWord, Cond.code yX4_readWord cX4_readWord 3 (some .int), Cond.methodLink RX4 70 yX5_isSmallLetter, Cond.instanceMethod yX5_isSmallLetter, Cond.selects RX5 yX5_isSmallLetter yX5_isSmallLetter, Cond.initialized RX5, Cond.code yX5_isSmallLetter cX5_isSmallLetter 2 (some .boolean), Cond.methodLink RX5 21 yX5_at, Cond.instanceMethod yX5_at, Cond.selects RX5 yX5_at yX5_at, Cond.code yX5_at cX5_at 2 (some .char), Cond.fieldLink RX5 13 "CoreMelter$Text" "length" "I", Cond.fieldLink RX5 9 "CoreMelter$Text" "characters" "[C", Cond.methodLink RX4 76 yX5_holds, Cond.instanceMethod yX5_holds, Cond.selects RX5 yX5_holds yX5_holds, Cond.code yX5_holds cX5_holds 5 (some .boolean), Cond.methodLink RX5 25 yJ0_length_8abf5]
def wsX4_read_r3 : List Cond := [Cond.instanceMethod yJ0_length_8abf5, Cond.selects RJ0 yJ0_length_8abf5 yJ0_length_8abf5, Cond.initialized RJ0, Cond.code yJ0_length_8abf5 cJ0_length_8abf5 1 (some .int), Cond.fieldLink RJ0 9 "java/lang/String" "value" "[B", Cond.methodLink RJ0 335 yJ0_coder_7d493, Cond.instanceMethod yJ0_coder_7d493, Cond.selects RJ0 yJ0_coder_7d493 yJ0_coder_7d493, Cond.code yJ0_coder_7d493 cJ0_coder_7d493 1 (some .byte), Cond.fieldLink RJ0 38 "java/lang/String" "COMPACT_STRINGS" "Z", Cond.fieldLink RJ0 15 "java/lang/String" "coder" "B", Cond.methodLink RX5 30 yJ0_charAt_5068e, Cond.instanceMethod yJ0_charAt_5068e, Cond.selects RJ0 yJ0_charAt_5068e yJ0_charAt_5068e, Cond.code yJ0_charAt_5068e cJ0_charAt_5068e 2 (some .char), Cond.methodLink RJ0 492 yJ0_isLatin1_aae02, Cond.instanceMethod yJ0_isLatin1_aae02, Cond.selects RJ0 yJ0_isLatin1_aae02 yJ0_isLatin1_aae02, Cond.code yJ0_isLatin1_aae02 cJ0_isLatin1_aae02 1 (some .boolean), Cond.methodLink RJ0 495 yJ1_charAt_3b067, Cond.static yJ1_charAt_3b067, Cond.initialized RJ1, Cond.code yJ1_charAt_3b067 cJ1_charAt_3b067 2 (some .char), Cond.methodLink RJ1 9 yJ0_checkIndex_df160]
def wsX4_read_r4 : List Cond := [Cond.static yJ0_checkIndex_df160, Cond.code yJ0_checkIndex_df160 cJ0_checkIndex_df160 2 none, Cond.fieldLink RJ0 1053 "jdk/internal/util/Preconditions" "SIOOBE_FORMATTER" "Ljava/util/function/BiFunction;", Cond.methodLink RJ0 1059 yJ3_checkIndex_8e157, Cond.static yJ3_checkIndex_8e157, Cond.initialized RJ3, Cond.code yJ3_checkIndex_8e157 cJ3_checkIndex_8e157 3 (some .int), Cond.methodLink RJ0 498 yJ2_charAt_3b067, Cond.static yJ2_charAt_3b067, Cond.initialized RJ2, Cond.code yJ2_charAt_3b067 cJ2_charAt_3b067 2 (some .char), Cond.methodLink RJ2 67 yJ2_checkIndex_2214a, Cond.static yJ2_checkIndex_2214a, Cond.code yJ2_checkIndex_2214a cJ2_checkIndex_2214a 2 none, Cond.methodLink RJ2 48 yJ2_length_9d52b, Cond.static yJ2_length_9d52b, Cond.code yJ2_length_9d52b cJ2_length_9d52b 1 (some .int), Cond.methodLink RJ2 414 yJ0_checkIndex_df160, Cond.methodLink RJ2 71 yJ2_getChar_3b067, Cond.static yJ2_getChar_3b067, Cond.code yJ2_getChar_3b067 cJ2_getChar_3b067 2 (some .char), Cond.fieldLink RJ2 44 "java/lang/StringUTF16" "$assertionsDisabled" "Z", Cond.fieldLink RJ2 59 "java/lang/StringUTF16" "HI_BYTE_SHIFT" "I", Cond.fieldLink RJ2 63 "java/lang/StringUTF16" "LO_BYTE_SHIFT" "I"]
def wsX4_read_r5 : List Cond := [Cond.methodLink RX4 50 yX4_readNumbers, Cond.instanceMethod yX4_readNumbers, Cond.selects RX4 yX4_readNumbers yX4_readNumbers, Cond.code yX4_readNumbers cX4_readNumbers 4 (some .int), Cond.methodLink RX4 84 yJ7_fill_53178, Cond.static yJ7_fill_53178, Cond.initialized RJ7, Cond.code yJ7_fill_53178 cJ7_fill_53178 4 none, Cond.methodLink RX4 62 yX5_at, Cond.methodLink RX4 90 yX5_isDigit, Cond.instanceMethod yX5_isDigit, Cond.selects RX5 yX5_isDigit yX5_isDigit, Cond.code yX5_isDigit cX5_isDigit 2 (some .boolean), Cond.methodLink RX4 93 yX4_readNumber, Cond.instanceMethod yX4_readNumber, Cond.selects RX4 yX4_readNumber yX4_readNumber, Cond.code yX4_readNumber cX4_readNumber 4 (some .int), Cond.methodLink RX4 54 yX0_firstWrong, Cond.static yX0_firstWrong, Cond.code yX0_firstWrong cX0_firstWrong 4 (some .int), Cond.methodLink RX0 38 yX0_leastDensity, Cond.static yX0_leastDensity, Cond.code yX0_leastDensity cX0_leastDensity 1 (some .int), Cond.methodLink RX0 42 yX0_mostDensity]
def wsX4_read_r6 : List Cond := [Cond.static yX0_mostDensity, Cond.code yX0_mostDensity cX0_mostDensity 1 (some .int), Cond.methodLink RX0 45 yX0_leastMore, Cond.static yX0_leastMore, Cond.code yX0_leastMore cX0_leastMore 1 (some .int), Cond.methodLink RX0 48 yX0_mostMore, Cond.static yX0_mostMore, Cond.code yX0_mostMore cX0_mostMore 1 (some .int), Cond.methodLink RX4 58 yX0_isFull, Cond.instanceMethod yX0_isFull, Cond.selects RX0 yX0_isFull yX0_isFull, Cond.code yX0_isFull cX0_isFull 1 (some .boolean), Cond.methodLink RX4 66 yX0_put, Cond.instanceMethod yX0_put, Cond.selects RX0 yX0_put yX0_put, Cond.code yX0_put cX0_put 5 none, Cond.methodLink RX0 51 yX0_isFull]
def wsX4_read : List Cond := .code yX4_read cX4_read 4 none :: ((wsX4_read_r1 ++ (wsX4_read_r2 ++ (wsX4_read_r3 ++ (wsX4_read_r4 ++ (wsX4_read_r5 ++ wsX4_read_r6))))) ++ wsX40 ++ wsX50 ++ wsX00)
def wsX5_init : List Cond := .code yX5_init cX5_init 1 none :: ([.methodLink RX5 1 objectInit, .instanceMethod objectInit, .code objectInit ⟨#[0xb1]⟩ 1 none, .arrayClass .char, .fieldLink RX5 9 "CoreMelter$Text" "characters" "[C"] ++ wsX50)
def wsX5_isFull : List Cond := .code yX5_isFull cX5_isFull 1 (some .boolean) :: ([.fieldLink RX5 13 "CoreMelter$Text" "length" "I"] ++ wsX50)
def wsX5_append : List Cond := .code yX5_append cX5_append 2 none :: ([.fieldLink RX5 9 "CoreMelter$Text" "characters" "[C", .fieldLink RX5 13 "CoreMelter$Text" "length" "I", .methodLink RX5 17 yX5_isFull, .instanceMethod yX5_isFull, .selects RX5 yX5_isFull yX5_isFull, .initialized RX5, .code yX5_isFull cX5_isFull 1 (some .boolean)] ++ wsX50)
def wsX6_firstBeyond : List Cond := .code yX6_firstBeyond cX6_firstBeyond 3 (some .int) :: ([.fieldLink RX6 19 "CoreMelter$Vials" "sealed" "I", .fieldLink RX6 13 "CoreMelter$Vials" "depth" "[I"] ++ wsX60)
def wsX7_init_r1 : List Cond := [Cond.methodLink RX7 1 objectInit, Cond.instanceMethod objectInit, Cond.code objectInit ⟨#[0xb1]⟩ 1 none, Cond.classLink RX7 7 RX3, Cond.instantiable RX3 15, Cond.initialized RX3, Cond.fieldLink RX7 10 "CoreMelter" "now" "LCoreMelter$Plate;", Cond.fieldLink RX7 16 "CoreMelter" "trial" "LCoreMelter$Plate;", Cond.classLink RX7 19 RX1, Cond.instantiable RX1 3, Cond.initialized RX1, Cond.fieldLink RX7 22 "CoreMelter" "history" "LCoreMelter$History;", Cond.classLink RX7 26 RX5, Cond.instantiable RX5 2, Cond.initialized RX5, Cond.fieldLink RX7 29 "CoreMelter" "text" "LCoreMelter$Text;", Cond.classLink RX7 33 RX4, Cond.instantiable RX4 6, Cond.initialized RX4, Cond.fieldLink RX7 36 "CoreMelter" "reading" "LCoreMelter$Reading;", Cond.methodLink RX7 9 yX3_init, Cond.instanceMethod yX3_init, Cond.code yX3_init cX3_init 1 none, Cond.methodLink RX3 1 objectInit]
def wsX7_init_r2 : List Cond := [Cond.classLink RX3 7 RX0, Cond.instantiable RX0 7, Cond.initialized RX0, Cond.fieldLink RX3 10 "CoreMelter$Plate" "core" "LCoreMelter$Core;", Cond.classLink RX3 16 RX2, Cond.instantiable RX2 5, Cond.initialized RX2, Cond.fieldLink RX3 19 "CoreMelter$Plate" "lines" "LCoreMelter$Lines;", Cond.classLink RX3 23 RX6, Cond.instantiable RX6 5, Cond.initialized RX6, Cond.fieldLink RX3 26 "CoreMelter$Plate" "vials" "LCoreMelter$Vials;", Cond.arrayClass .int, Cond.fieldLink RX3 30 "CoreMelter$Plate" "settings" "[I", Cond.fieldLink RX3 34 "CoreMelter$Plate" "accounts" "[I", Cond.fieldLink RX3 37 "CoreMelter$Plate" "INITIAL" "[I", Cond.methodLink RX3 40 arraycopyName, Cond.native arraycopyName, Cond.static arraycopyName, Cond.initialized "java/lang/System", Cond.instanceMethod yX0_init, Cond.code yX0_init cX0_init 1 none, Cond.methodLink RX0 1 objectInit, Cond.fieldLink RX0 9 "CoreMelter$Core" "kinds" "[I"]
def wsX7_init_r3 : List Cond := [Cond.fieldLink RX0 13 "CoreMelter$Core" "lengths" "[I", Cond.fieldLink RX0 16 "CoreMelter$Core" "densities" "[I", Cond.fieldLink RX0 19 "CoreMelter$Core" "mores" "[I", Cond.fieldLink RX0 22 "CoreMelter$Core" "lowers" "[I", Cond.instanceMethod yX2_init, Cond.code yX2_init cX2_init 1 none, Cond.methodLink RX2 1 objectInit, Cond.fieldLink RX2 9 "CoreMelter$Lines" "stuck" "[I", Cond.fieldLink RX2 13 "CoreMelter$Lines" "dirt" "[I", Cond.fieldLink RX2 16 "CoreMelter$Lines" "gap" "[I", Cond.fieldLink RX2 19 "CoreMelter$Lines" "drawn" "[I", Cond.fieldLink RX2 22 "CoreMelter$Lines" "wasted" "[I", Cond.instanceMethod yX6_init, Cond.code yX6_init cX6_init 1 none, Cond.methodLink RX6 1 objectInit, Cond.fieldLink RX6 9 "CoreMelter$Vials" "water" "[I", Cond.fieldLink RX6 13 "CoreMelter$Vials" "depth" "[I", Cond.fieldLink RX6 16 "CoreMelter$Vials" "ticks" "[I", Cond.methodLink RX7 21 yX1_init, Cond.instanceMethod yX1_init, Cond.code yX1_init cX1_init 2 none, Cond.methodLink RX1 1 objectInit, Cond.classLink RX1 9 RX3, Cond.fieldLink RX1 11 "CoreMelter$History" "states" "[LCoreMelter$Plate;"]
def wsX7_init_r4 : List Cond := [Cond.methodLink RX1 15 yX3_init, Cond.instanceMethod yX5_init, Cond.code yX5_init cX5_init 1 none, Cond.methodLink RX5 1 objectInit, Cond.arrayClass .char, Cond.fieldLink RX5 9 "CoreMelter$Text" "characters" "[C", Cond.instanceMethod yX4_init, Cond.code yX4_init cX4_init 1 none, Cond.methodLink RX4 1 objectInit, Cond.classLink RX4 7 RX0, Cond.fieldLink RX4 10 "CoreMelter$Reading" "core" "LCoreMelter$Core;", Cond.fieldLink RX4 16 "CoreMelter$Reading" "numbers" "[I"]
def wsX7_init : List Cond := .code yX7_init cX7_init 1 none :: ((wsX7_init_r1 ++ (wsX7_init_r2 ++ (wsX7_init_r3 ++ wsX7_init_r4))) ++ wsX30 ++ wsX70 ++ wsX10 ++ wsX50 ++ wsX40 ++ wsX00 ++ wsX20 ++ wsX60)
def wsX7_addSegment_r1 : List Cond := [Cond.fieldLink RX7 10 "CoreMelter" "now" "LCoreMelter$Plate;", Cond.fieldLink RX7 46 "CoreMelter$Plate" "core" "LCoreMelter$Core;", Cond.fieldLink RX7 22 "CoreMelter" "history" "LCoreMelter$History;", Cond.fieldLink RX7 62 "CoreMelter$Core" "size" "I", Cond.methodLink RX7 42 yX0_firstWrong, Cond.static yX0_firstWrong, Cond.initialized RX0, Cond.code yX0_firstWrong cX0_firstWrong 4 (some .int), Cond.methodLink RX0 38 yX0_leastDensity, Cond.static yX0_leastDensity, Cond.code yX0_leastDensity cX0_leastDensity 1 (some .int), Cond.methodLink RX0 42 yX0_mostDensity, Cond.static yX0_mostDensity, Cond.code yX0_mostDensity cX0_mostDensity 1 (some .int), Cond.methodLink RX0 45 yX0_leastMore, Cond.static yX0_leastMore, Cond.code yX0_leastMore cX0_leastMore 1 (some .int), Cond.methodLink RX0 48 yX0_mostMore, Cond.static yX0_mostMore, Cond.code yX0_mostMore cX0_mostMore 1 (some .int), Cond.methodLink RX7 50 yX0_isFull, Cond.instanceMethod yX0_isFull, Cond.selects RX0 yX0_isFull yX0_isFull, Cond.code yX0_isFull cX0_isFull 1 (some .boolean)]
def wsX7_addSegment_r2 : List Cond := [Cond.fieldLink RX0 25 "CoreMelter$Core" "size" "I", Cond.methodLink RX7 54 yX1_keep, Cond.instanceMethod yX1_keep, Cond.selects RX1 yX1_keep yX1_keep, Cond.initialized RX1, Cond.code yX1_keep cX1_keep 2 none, Cond.fieldLink RX1 16 "CoreMelter$History" "size" "I", Cond.fieldLink RX1 20 "CoreMelter$History" "oldest" "I", Cond.fieldLink RX1 11 "CoreMelter$History" "states" "[LCoreMelter$Plate;", Cond.methodLink RX1 23 yX3_copyFrom, Cond.instanceMethod yX3_copyFrom, Cond.selects RX3 yX3_copyFrom yX3_copyFrom, Cond.initialized RX3, Cond.code yX3_copyFrom cX3_copyFrom 2 none, Cond.fieldLink RX3 10 "CoreMelter$Plate" "core" "LCoreMelter$Core;", Cond.fieldLink RX3 19 "CoreMelter$Plate" "lines" "LCoreMelter$Lines;", Cond.fieldLink RX3 26 "CoreMelter$Plate" "vials" "LCoreMelter$Vials;", Cond.fieldLink RX3 30 "CoreMelter$Plate" "settings" "[I", Cond.methodLink RX3 40 arraycopyName, Cond.native arraycopyName, Cond.static arraycopyName, Cond.initialized "java/lang/System", Cond.fieldLink RX3 34 "CoreMelter$Plate" "accounts" "[I", Cond.fieldLink RX3 56 "CoreMelter$Plate" "front" "I"]
def wsX7_addSegment_r3 : List Cond := [Cond.fieldLink RX3 60 "CoreMelter$Plate" "store" "I", Cond.fieldLink RX3 63 "CoreMelter$Plate" "stock" "I", Cond.fieldLink RX3 66 "CoreMelter$Plate" "stockGas" "I", Cond.fieldLink RX3 69 "CoreMelter$Plate" "stockDirt" "I", Cond.fieldLink RX3 72 "CoreMelter$Plate" "told" "I", Cond.fieldLink RX3 75 "CoreMelter$Plate" "waterBelowTold" "I", Cond.fieldLink RX3 78 "CoreMelter$Plate" "ticks" "I", Cond.fieldLink RX3 81 "CoreMelter$Plate" "reason" "I", Cond.fieldLink RX3 84 "CoreMelter$Plate" "stopped" "I", Cond.methodLink RX3 46 yX0_copyFrom, Cond.instanceMethod yX0_copyFrom, Cond.selects RX0 yX0_copyFrom yX0_copyFrom, Cond.code yX0_copyFrom cX0_copyFrom 2 none, Cond.fieldLink RX0 29 "CoreMelter$Core" "height" "I", Cond.fieldLink RX0 9 "CoreMelter$Core" "kinds" "[I", Cond.methodLink RX0 32 arraycopyName, Cond.fieldLink RX0 13 "CoreMelter$Core" "lengths" "[I", Cond.fieldLink RX0 16 "CoreMelter$Core" "densities" "[I", Cond.fieldLink RX0 19 "CoreMelter$Core" "mores" "[I", Cond.fieldLink RX0 22 "CoreMelter$Core" "lowers" "[I", Cond.methodLink RX3 50 yX2_copyFrom, Cond.instanceMethod yX2_copyFrom, Cond.selects RX2 yX2_copyFrom yX2_copyFrom, Cond.initialized RX2]
def wsX7_addSegment_r4 : List Cond := [Cond.code yX2_copyFrom cX2_copyFrom 2 none, Cond.fieldLink RX2 9 "CoreMelter$Lines" "stuck" "[I", Cond.methodLink RX2 25 arraycopyName, Cond.fieldLink RX2 13 "CoreMelter$Lines" "dirt" "[I", Cond.fieldLink RX2 16 "CoreMelter$Lines" "gap" "[I", Cond.fieldLink RX2 19 "CoreMelter$Lines" "drawn" "[I", Cond.fieldLink RX2 22 "CoreMelter$Lines" "wasted" "[I", Cond.methodLink RX3 53 yX6_copyFrom, Cond.instanceMethod yX6_copyFrom, Cond.selects RX6 yX6_copyFrom yX6_copyFrom, Cond.initialized RX6, Cond.code yX6_copyFrom cX6_copyFrom 2 none, Cond.fieldLink RX6 19 "CoreMelter$Vials" "sealed" "I", Cond.fieldLink RX6 23 "CoreMelter$Vials" "present" "I", Cond.fieldLink RX6 9 "CoreMelter$Vials" "water" "[I", Cond.methodLink RX6 26 arraycopyName, Cond.fieldLink RX6 13 "CoreMelter$Vials" "depth" "[I", Cond.fieldLink RX6 16 "CoreMelter$Vials" "ticks" "[I", Cond.methodLink RX7 58 yX0_put, Cond.instanceMethod yX0_put, Cond.selects RX0 yX0_put yX0_put, Cond.code yX0_put cX0_put 5 none, Cond.methodLink RX0 51 yX0_isFull]
def wsX7_addSegment : List Cond := .code yX7_addSegment cX7_addSegment 5 (some .int) :: ((wsX7_addSegment_r1 ++ (wsX7_addSegment_r2 ++ (wsX7_addSegment_r3 ++ wsX7_addSegment_r4))) ++ wsX70 ++ wsX30 ++ wsX00 ++ wsX10 ++ wsX20 ++ wsX60)
def wsX7_segment : List Cond := .code yX7_segment cX7_segment 3 (some .int) :: ([.fieldLink RX7 10 "CoreMelter" "now" "LCoreMelter$Plate;", .fieldLink RX7 46 "CoreMelter$Plate" "core" "LCoreMelter$Core;", .fieldLink RX7 62 "CoreMelter$Core" "size" "I", .fieldLink RX7 66 "CoreMelter$Core" "kinds" "[I", .fieldLink RX7 70 "CoreMelter$Core" "lengths" "[I", .fieldLink RX7 73 "CoreMelter$Core" "densities" "[I", .fieldLink RX7 76 "CoreMelter$Core" "mores" "[I", .fieldLink RX7 79 "CoreMelter$Core" "lowers" "[I", .fieldLink RX7 82 "CoreMelter$Plate" "front" "I", .methodLink RX7 85 yX0_partBelow, .instanceMethod yX0_partBelow, .selects RX0 yX0_partBelow yX0_partBelow, .initialized RX0, .code yX0_partBelow cX0_partBelow 3 (some .int), .fieldLink RX0 22 "CoreMelter$Core" "lowers" "[I", .fieldLink RX0 13 "CoreMelter$Core" "lengths" "[I", .methodLink RX0 58 Lib.Math.min.name, .static Lib.Math.min.name, .initialized "java/lang/Math", .code Lib.Math.min.name Lib.Math.min.code 2 (some .int), .methodLink RX0 64 Lib.Math.max.name, .static Lib.Math.max.name, .code Lib.Math.max.name Lib.Math.max.code 2 (some .int)] ++ wsX70 ++ wsX30 ++ wsX00)
def wsX7_segmentAt : List Cond := .code yX7_segmentAt cX7_segmentAt 2 (some .int) :: ([.fieldLink RX7 10 "CoreMelter" "now" "LCoreMelter$Plate;", .fieldLink RX7 46 "CoreMelter$Plate" "core" "LCoreMelter$Core;", .fieldLink RX7 89 "CoreMelter$Core" "height" "I", .methodLink RX7 92 yX0_holding, .instanceMethod yX0_holding, .selects RX0 yX0_holding yX0_holding, .initialized RX0, .code yX0_holding cX0_holding 3 (some .int), .fieldLink RX0 25 "CoreMelter$Core" "size" "I", .methodLink RX0 55 yX0_end, .instanceMethod yX0_end, .selects RX0 yX0_end yX0_end, .code yX0_end cX0_end 2 (some .int), .fieldLink RX0 22 "CoreMelter$Core" "lowers" "[I", .fieldLink RX0 13 "CoreMelter$Core" "lengths" "[I"] ++ wsX70 ++ wsX30 ++ wsX00)
def wsX7_waterBelow : List Cond := .code yX7_waterBelow cX7_waterBelow 2 (some .int) :: ([.fieldLink RX7 10 "CoreMelter" "now" "LCoreMelter$Plate;", .fieldLink RX7 46 "CoreMelter$Plate" "core" "LCoreMelter$Core;", .fieldLink RX7 89 "CoreMelter$Core" "height" "I", .methodLink RX7 96 yX0_waterUpTo, .instanceMethod yX0_waterUpTo, .selects RX0 yX0_waterUpTo yX0_waterUpTo, .initialized RX0, .code yX0_waterUpTo cX0_waterUpTo 4 (some .int), .fieldLink RX0 25 "CoreMelter$Core" "size" "I", .fieldLink RX0 16 "CoreMelter$Core" "densities" "[I", .methodLink RX0 67 yX0_partBelow, .instanceMethod yX0_partBelow, .selects RX0 yX0_partBelow yX0_partBelow, .code yX0_partBelow cX0_partBelow 3 (some .int), .fieldLink RX0 22 "CoreMelter$Core" "lowers" "[I", .fieldLink RX0 13 "CoreMelter$Core" "lengths" "[I", .methodLink RX0 58 Lib.Math.min.name, .static Lib.Math.min.name, .initialized "java/lang/Math", .code Lib.Math.min.name Lib.Math.min.code 2 (some .int), .methodLink RX0 64 Lib.Math.max.name, .static Lib.Math.max.name, .code Lib.Math.max.name Lib.Math.max.code 2 (some .int)] ++ wsX70 ++ wsX30 ++ wsX00)
def wsX7_renew_r1 : List Cond := [Cond.fieldLink RX7 10 "CoreMelter" "now" "LCoreMelter$Plate;", Cond.fieldLink RX7 82 "CoreMelter$Plate" "front" "I", Cond.fieldLink RX7 22 "CoreMelter" "history" "LCoreMelter$History;", Cond.methodLink RX7 54 yX1_keep, Cond.instanceMethod yX1_keep, Cond.selects RX1 yX1_keep yX1_keep, Cond.initialized RX1, Cond.code yX1_keep cX1_keep 2 none, Cond.fieldLink RX1 16 "CoreMelter$History" "size" "I", Cond.fieldLink RX1 20 "CoreMelter$History" "oldest" "I", Cond.fieldLink RX1 11 "CoreMelter$History" "states" "[LCoreMelter$Plate;", Cond.methodLink RX1 23 yX3_copyFrom, Cond.instanceMethod yX3_copyFrom, Cond.selects RX3 yX3_copyFrom yX3_copyFrom, Cond.initialized RX3, Cond.code yX3_copyFrom cX3_copyFrom 2 none, Cond.fieldLink RX3 10 "CoreMelter$Plate" "core" "LCoreMelter$Core;", Cond.fieldLink RX3 19 "CoreMelter$Plate" "lines" "LCoreMelter$Lines;", Cond.fieldLink RX3 26 "CoreMelter$Plate" "vials" "LCoreMelter$Vials;", Cond.fieldLink RX3 30 "CoreMelter$Plate" "settings" "[I", Cond.methodLink RX3 40 arraycopyName, Cond.native arraycopyName, Cond.static arraycopyName, Cond.initialized "java/lang/System"]
def wsX7_renew_r2 : List Cond := [Cond.fieldLink RX3 34 "CoreMelter$Plate" "accounts" "[I", Cond.fieldLink RX3 56 "CoreMelter$Plate" "front" "I", Cond.fieldLink RX3 60 "CoreMelter$Plate" "store" "I", Cond.fieldLink RX3 63 "CoreMelter$Plate" "stock" "I", Cond.fieldLink RX3 66 "CoreMelter$Plate" "stockGas" "I", Cond.fieldLink RX3 69 "CoreMelter$Plate" "stockDirt" "I", Cond.fieldLink RX3 72 "CoreMelter$Plate" "told" "I", Cond.fieldLink RX3 75 "CoreMelter$Plate" "waterBelowTold" "I", Cond.fieldLink RX3 78 "CoreMelter$Plate" "ticks" "I", Cond.fieldLink RX3 81 "CoreMelter$Plate" "reason" "I", Cond.fieldLink RX3 84 "CoreMelter$Plate" "stopped" "I", Cond.methodLink RX3 46 yX0_copyFrom, Cond.instanceMethod yX0_copyFrom, Cond.selects RX0 yX0_copyFrom yX0_copyFrom, Cond.initialized RX0, Cond.code yX0_copyFrom cX0_copyFrom 2 none, Cond.fieldLink RX0 25 "CoreMelter$Core" "size" "I", Cond.fieldLink RX0 29 "CoreMelter$Core" "height" "I", Cond.fieldLink RX0 9 "CoreMelter$Core" "kinds" "[I", Cond.methodLink RX0 32 arraycopyName, Cond.fieldLink RX0 13 "CoreMelter$Core" "lengths" "[I", Cond.fieldLink RX0 16 "CoreMelter$Core" "densities" "[I", Cond.fieldLink RX0 19 "CoreMelter$Core" "mores" "[I", Cond.fieldLink RX0 22 "CoreMelter$Core" "lowers" "[I"]
def wsX7_renew_r3 : List Cond := [Cond.methodLink RX3 50 yX2_copyFrom, Cond.instanceMethod yX2_copyFrom, Cond.selects RX2 yX2_copyFrom yX2_copyFrom, Cond.initialized RX2, Cond.code yX2_copyFrom cX2_copyFrom 2 none, Cond.fieldLink RX2 9 "CoreMelter$Lines" "stuck" "[I", Cond.methodLink RX2 25 arraycopyName, Cond.fieldLink RX2 13 "CoreMelter$Lines" "dirt" "[I", Cond.fieldLink RX2 16 "CoreMelter$Lines" "gap" "[I", Cond.fieldLink RX2 19 "CoreMelter$Lines" "drawn" "[I", Cond.fieldLink RX2 22 "CoreMelter$Lines" "wasted" "[I", Cond.methodLink RX3 53 yX6_copyFrom, Cond.instanceMethod yX6_copyFrom, Cond.selects RX6 yX6_copyFrom yX6_copyFrom, Cond.initialized RX6, Cond.code yX6_copyFrom cX6_copyFrom 2 none, Cond.fieldLink RX6 19 "CoreMelter$Vials" "sealed" "I", Cond.fieldLink RX6 23 "CoreMelter$Vials" "present" "I", Cond.fieldLink RX6 9 "CoreMelter$Vials" "water" "[I", Cond.methodLink RX6 26 arraycopyName, Cond.fieldLink RX6 13 "CoreMelter$Vials" "depth" "[I", Cond.fieldLink RX6 16 "CoreMelter$Vials" "ticks" "[I", Cond.methodLink RX7 99 yX3_beginAnew, Cond.instanceMethod yX3_beginAnew]
def wsX7_renew_r4 : List Cond := [Cond.selects RX3 yX3_beginAnew yX3_beginAnew, Cond.code yX3_beginAnew cX3_beginAnew 1 none, Cond.methodLink RX3 87 yX2_beginAnew, Cond.instanceMethod yX2_beginAnew, Cond.selects RX2 yX2_beginAnew yX2_beginAnew, Cond.code yX2_beginAnew cX2_beginAnew 1 none, Cond.methodLink RX2 31 yJ7_fill_53178, Cond.static yJ7_fill_53178, Cond.initialized RJ7, Cond.code yJ7_fill_53178 cJ7_fill_53178 4 none, Cond.methodLink RX3 90 yX6_beginAnew, Cond.instanceMethod yX6_beginAnew, Cond.selects RX6 yX6_beginAnew yX6_beginAnew, Cond.code yX6_beginAnew cX6_beginAnew 1 none, Cond.methodLink RX3 91 yJ7_fill_53178]
def wsX7_renew : List Cond := .code yX7_renew cX7_renew 2 (some .int) :: ((wsX7_renew_r1 ++ (wsX7_renew_r2 ++ (wsX7_renew_r3 ++ wsX7_renew_r4))) ++ wsX70 ++ wsX30 ++ wsX10 ++ wsX00 ++ wsX20 ++ wsX60)
def wsX7_undo_r1 : List Cond := [Cond.fieldLink RX7 22 "CoreMelter" "history" "LCoreMelter$History;", Cond.fieldLink RX7 102 "CoreMelter$History" "size" "I", Cond.fieldLink RX7 10 "CoreMelter" "now" "LCoreMelter$Plate;", Cond.methodLink RX7 103 yX1_giveBack, Cond.instanceMethod yX1_giveBack, Cond.selects RX1 yX1_giveBack yX1_giveBack, Cond.initialized RX1, Cond.code yX1_giveBack cX1_giveBack 2 none, Cond.fieldLink RX1 16 "CoreMelter$History" "size" "I", Cond.fieldLink RX1 11 "CoreMelter$History" "states" "[LCoreMelter$Plate;", Cond.fieldLink RX1 20 "CoreMelter$History" "oldest" "I", Cond.methodLink RX1 23 yX3_copyFrom, Cond.instanceMethod yX3_copyFrom, Cond.selects RX3 yX3_copyFrom yX3_copyFrom, Cond.initialized RX3, Cond.code yX3_copyFrom cX3_copyFrom 2 none, Cond.fieldLink RX3 10 "CoreMelter$Plate" "core" "LCoreMelter$Core;", Cond.fieldLink RX3 19 "CoreMelter$Plate" "lines" "LCoreMelter$Lines;", Cond.fieldLink RX3 26 "CoreMelter$Plate" "vials" "LCoreMelter$Vials;", Cond.fieldLink RX3 30 "CoreMelter$Plate" "settings" "[I", Cond.methodLink RX3 40 arraycopyName, Cond.native arraycopyName, Cond.static arraycopyName, Cond.initialized "java/lang/System"]
def wsX7_undo_r2 : List Cond := [Cond.fieldLink RX3 34 "CoreMelter$Plate" "accounts" "[I", Cond.fieldLink RX3 56 "CoreMelter$Plate" "front" "I", Cond.fieldLink RX3 60 "CoreMelter$Plate" "store" "I", Cond.fieldLink RX3 63 "CoreMelter$Plate" "stock" "I", Cond.fieldLink RX3 66 "CoreMelter$Plate" "stockGas" "I", Cond.fieldLink RX3 69 "CoreMelter$Plate" "stockDirt" "I", Cond.fieldLink RX3 72 "CoreMelter$Plate" "told" "I", Cond.fieldLink RX3 75 "CoreMelter$Plate" "waterBelowTold" "I", Cond.fieldLink RX3 78 "CoreMelter$Plate" "ticks" "I", Cond.fieldLink RX3 81 "CoreMelter$Plate" "reason" "I", Cond.fieldLink RX3 84 "CoreMelter$Plate" "stopped" "I", Cond.methodLink RX3 46 yX0_copyFrom, Cond.instanceMethod yX0_copyFrom, Cond.selects RX0 yX0_copyFrom yX0_copyFrom, Cond.initialized RX0, Cond.code yX0_copyFrom cX0_copyFrom 2 none, Cond.fieldLink RX0 25 "CoreMelter$Core" "size" "I", Cond.fieldLink RX0 29 "CoreMelter$Core" "height" "I", Cond.fieldLink RX0 9 "CoreMelter$Core" "kinds" "[I", Cond.methodLink RX0 32 arraycopyName, Cond.fieldLink RX0 13 "CoreMelter$Core" "lengths" "[I", Cond.fieldLink RX0 16 "CoreMelter$Core" "densities" "[I", Cond.fieldLink RX0 19 "CoreMelter$Core" "mores" "[I", Cond.fieldLink RX0 22 "CoreMelter$Core" "lowers" "[I"]
def wsX7_undo_r3 : List Cond := [Cond.methodLink RX3 50 yX2_copyFrom, Cond.instanceMethod yX2_copyFrom, Cond.selects RX2 yX2_copyFrom yX2_copyFrom, Cond.initialized RX2, Cond.code yX2_copyFrom cX2_copyFrom 2 none, Cond.fieldLink RX2 9 "CoreMelter$Lines" "stuck" "[I", Cond.methodLink RX2 25 arraycopyName, Cond.fieldLink RX2 13 "CoreMelter$Lines" "dirt" "[I", Cond.fieldLink RX2 16 "CoreMelter$Lines" "gap" "[I", Cond.fieldLink RX2 19 "CoreMelter$Lines" "drawn" "[I", Cond.fieldLink RX2 22 "CoreMelter$Lines" "wasted" "[I", Cond.methodLink RX3 53 yX6_copyFrom, Cond.instanceMethod yX6_copyFrom, Cond.selects RX6 yX6_copyFrom yX6_copyFrom, Cond.initialized RX6, Cond.code yX6_copyFrom cX6_copyFrom 2 none, Cond.fieldLink RX6 19 "CoreMelter$Vials" "sealed" "I", Cond.fieldLink RX6 23 "CoreMelter$Vials" "present" "I", Cond.fieldLink RX6 9 "CoreMelter$Vials" "water" "[I", Cond.methodLink RX6 26 arraycopyName, Cond.fieldLink RX6 13 "CoreMelter$Vials" "depth" "[I", Cond.fieldLink RX6 16 "CoreMelter$Vials" "ticks" "[I"]
def wsX7_undo : List Cond := .code yX7_undo cX7_undo 1 (some .int) :: ((wsX7_undo_r1 ++ (wsX7_undo_r2 ++ wsX7_undo_r3)) ++ wsX70 ++ wsX10 ++ wsX30 ++ wsX00 ++ wsX20 ++ wsX60)
def wsX7_set_r1 : List Cond := [Cond.fieldLink RX7 106 "CoreMelter$Plate" "LEAST" "[I", Cond.fieldLink RX7 109 "CoreMelter$Plate" "MOST" "[I", Cond.fieldLink RX7 10 "CoreMelter" "now" "LCoreMelter$Plate;", Cond.fieldLink RX7 112 "CoreMelter$Plate" "settings" "[I", Cond.fieldLink RX7 22 "CoreMelter" "history" "LCoreMelter$History;", Cond.methodLink RX7 54 yX1_keep, Cond.instanceMethod yX1_keep, Cond.selects RX1 yX1_keep yX1_keep, Cond.initialized RX1, Cond.code yX1_keep cX1_keep 2 none, Cond.fieldLink RX1 16 "CoreMelter$History" "size" "I", Cond.fieldLink RX1 20 "CoreMelter$History" "oldest" "I", Cond.fieldLink RX1 11 "CoreMelter$History" "states" "[LCoreMelter$Plate;", Cond.methodLink RX1 23 yX3_copyFrom, Cond.instanceMethod yX3_copyFrom, Cond.selects RX3 yX3_copyFrom yX3_copyFrom, Cond.initialized RX3, Cond.code yX3_copyFrom cX3_copyFrom 2 none, Cond.fieldLink RX3 10 "CoreMelter$Plate" "core" "LCoreMelter$Core;", Cond.fieldLink RX3 19 "CoreMelter$Plate" "lines" "LCoreMelter$Lines;", Cond.fieldLink RX3 26 "CoreMelter$Plate" "vials" "LCoreMelter$Vials;", Cond.fieldLink RX3 30 "CoreMelter$Plate" "settings" "[I", Cond.methodLink RX3 40 arraycopyName, Cond.native arraycopyName]
def wsX7_set_r2 : List Cond := [Cond.static arraycopyName, Cond.initialized "java/lang/System", Cond.fieldLink RX3 34 "CoreMelter$Plate" "accounts" "[I", Cond.fieldLink RX3 56 "CoreMelter$Plate" "front" "I", Cond.fieldLink RX3 60 "CoreMelter$Plate" "store" "I", Cond.fieldLink RX3 63 "CoreMelter$Plate" "stock" "I", Cond.fieldLink RX3 66 "CoreMelter$Plate" "stockGas" "I", Cond.fieldLink RX3 69 "CoreMelter$Plate" "stockDirt" "I", Cond.fieldLink RX3 72 "CoreMelter$Plate" "told" "I", Cond.fieldLink RX3 75 "CoreMelter$Plate" "waterBelowTold" "I", Cond.fieldLink RX3 78 "CoreMelter$Plate" "ticks" "I", Cond.fieldLink RX3 81 "CoreMelter$Plate" "reason" "I", Cond.fieldLink RX3 84 "CoreMelter$Plate" "stopped" "I", Cond.methodLink RX3 46 yX0_copyFrom, Cond.instanceMethod yX0_copyFrom, Cond.selects RX0 yX0_copyFrom yX0_copyFrom, Cond.initialized RX0, Cond.code yX0_copyFrom cX0_copyFrom 2 none, Cond.fieldLink RX0 25 "CoreMelter$Core" "size" "I", Cond.fieldLink RX0 29 "CoreMelter$Core" "height" "I", Cond.fieldLink RX0 9 "CoreMelter$Core" "kinds" "[I", Cond.methodLink RX0 32 arraycopyName, Cond.fieldLink RX0 13 "CoreMelter$Core" "lengths" "[I", Cond.fieldLink RX0 16 "CoreMelter$Core" "densities" "[I"]
def wsX7_set_r3 : List Cond := [Cond.fieldLink RX0 19 "CoreMelter$Core" "mores" "[I", Cond.fieldLink RX0 22 "CoreMelter$Core" "lowers" "[I", Cond.methodLink RX3 50 yX2_copyFrom, Cond.instanceMethod yX2_copyFrom, Cond.selects RX2 yX2_copyFrom yX2_copyFrom, Cond.initialized RX2, Cond.code yX2_copyFrom cX2_copyFrom 2 none, Cond.fieldLink RX2 9 "CoreMelter$Lines" "stuck" "[I", Cond.methodLink RX2 25 arraycopyName, Cond.fieldLink RX2 13 "CoreMelter$Lines" "dirt" "[I", Cond.fieldLink RX2 16 "CoreMelter$Lines" "gap" "[I", Cond.fieldLink RX2 19 "CoreMelter$Lines" "drawn" "[I", Cond.fieldLink RX2 22 "CoreMelter$Lines" "wasted" "[I", Cond.methodLink RX3 53 yX6_copyFrom, Cond.instanceMethod yX6_copyFrom, Cond.selects RX6 yX6_copyFrom yX6_copyFrom, Cond.initialized RX6, Cond.code yX6_copyFrom cX6_copyFrom 2 none, Cond.fieldLink RX6 19 "CoreMelter$Vials" "sealed" "I", Cond.fieldLink RX6 23 "CoreMelter$Vials" "present" "I", Cond.fieldLink RX6 9 "CoreMelter$Vials" "water" "[I", Cond.methodLink RX6 26 arraycopyName, Cond.fieldLink RX6 13 "CoreMelter$Vials" "depth" "[I", Cond.fieldLink RX6 16 "CoreMelter$Vials" "ticks" "[I"]
def wsX7_set : List Cond := .code yX7_set cX7_set 4 (some .int) :: ((wsX7_set_r1 ++ (wsX7_set_r2 ++ wsX7_set_r3)) ++ wsX70 ++ wsX30 ++ wsX10 ++ wsX00 ++ wsX20 ++ wsX60)
def wsX7_clean_r1 : List Cond := [Cond.fieldLink RX7 10 "CoreMelter" "now" "LCoreMelter$Plate;", Cond.fieldLink RX7 117 "CoreMelter$Plate" "lines" "LCoreMelter$Lines;", Cond.fieldLink RX7 121 "CoreMelter$Lines" "stuck" "[I", Cond.fieldLink RX7 124 "CoreMelter$Lines" "dirt" "[I", Cond.fieldLink RX7 22 "CoreMelter" "history" "LCoreMelter$History;", Cond.methodLink RX7 54 yX1_keep, Cond.instanceMethod yX1_keep, Cond.selects RX1 yX1_keep yX1_keep, Cond.initialized RX1, Cond.code yX1_keep cX1_keep 2 none, Cond.fieldLink RX1 16 "CoreMelter$History" "size" "I", Cond.fieldLink RX1 20 "CoreMelter$History" "oldest" "I", Cond.fieldLink RX1 11 "CoreMelter$History" "states" "[LCoreMelter$Plate;", Cond.methodLink RX1 23 yX3_copyFrom, Cond.instanceMethod yX3_copyFrom, Cond.selects RX3 yX3_copyFrom yX3_copyFrom, Cond.initialized RX3, Cond.code yX3_copyFrom cX3_copyFrom 2 none, Cond.fieldLink RX3 10 "CoreMelter$Plate" "core" "LCoreMelter$Core;", Cond.fieldLink RX3 19 "CoreMelter$Plate" "lines" "LCoreMelter$Lines;", Cond.fieldLink RX3 26 "CoreMelter$Plate" "vials" "LCoreMelter$Vials;", Cond.fieldLink RX3 30 "CoreMelter$Plate" "settings" "[I", Cond.methodLink RX3 40 arraycopyName, Cond.native arraycopyName]
def wsX7_clean_r2 : List Cond := [Cond.static arraycopyName, Cond.initialized "java/lang/System", Cond.fieldLink RX3 34 "CoreMelter$Plate" "accounts" "[I", Cond.fieldLink RX3 56 "CoreMelter$Plate" "front" "I", Cond.fieldLink RX3 60 "CoreMelter$Plate" "store" "I", Cond.fieldLink RX3 63 "CoreMelter$Plate" "stock" "I", Cond.fieldLink RX3 66 "CoreMelter$Plate" "stockGas" "I", Cond.fieldLink RX3 69 "CoreMelter$Plate" "stockDirt" "I", Cond.fieldLink RX3 72 "CoreMelter$Plate" "told" "I", Cond.fieldLink RX3 75 "CoreMelter$Plate" "waterBelowTold" "I", Cond.fieldLink RX3 78 "CoreMelter$Plate" "ticks" "I", Cond.fieldLink RX3 81 "CoreMelter$Plate" "reason" "I", Cond.fieldLink RX3 84 "CoreMelter$Plate" "stopped" "I", Cond.methodLink RX3 46 yX0_copyFrom, Cond.instanceMethod yX0_copyFrom, Cond.selects RX0 yX0_copyFrom yX0_copyFrom, Cond.initialized RX0, Cond.code yX0_copyFrom cX0_copyFrom 2 none, Cond.fieldLink RX0 25 "CoreMelter$Core" "size" "I", Cond.fieldLink RX0 29 "CoreMelter$Core" "height" "I", Cond.fieldLink RX0 9 "CoreMelter$Core" "kinds" "[I", Cond.methodLink RX0 32 arraycopyName, Cond.fieldLink RX0 13 "CoreMelter$Core" "lengths" "[I", Cond.fieldLink RX0 16 "CoreMelter$Core" "densities" "[I"]
def wsX7_clean_r3 : List Cond := [Cond.fieldLink RX0 19 "CoreMelter$Core" "mores" "[I", Cond.fieldLink RX0 22 "CoreMelter$Core" "lowers" "[I", Cond.methodLink RX3 50 yX2_copyFrom, Cond.instanceMethod yX2_copyFrom, Cond.selects RX2 yX2_copyFrom yX2_copyFrom, Cond.initialized RX2, Cond.code yX2_copyFrom cX2_copyFrom 2 none, Cond.fieldLink RX2 9 "CoreMelter$Lines" "stuck" "[I", Cond.methodLink RX2 25 arraycopyName, Cond.fieldLink RX2 13 "CoreMelter$Lines" "dirt" "[I", Cond.fieldLink RX2 16 "CoreMelter$Lines" "gap" "[I", Cond.fieldLink RX2 19 "CoreMelter$Lines" "drawn" "[I", Cond.fieldLink RX2 22 "CoreMelter$Lines" "wasted" "[I", Cond.methodLink RX3 53 yX6_copyFrom, Cond.instanceMethod yX6_copyFrom, Cond.selects RX6 yX6_copyFrom yX6_copyFrom, Cond.initialized RX6, Cond.code yX6_copyFrom cX6_copyFrom 2 none, Cond.fieldLink RX6 19 "CoreMelter$Vials" "sealed" "I", Cond.fieldLink RX6 23 "CoreMelter$Vials" "present" "I", Cond.fieldLink RX6 9 "CoreMelter$Vials" "water" "[I", Cond.methodLink RX6 26 arraycopyName, Cond.fieldLink RX6 13 "CoreMelter$Vials" "depth" "[I", Cond.fieldLink RX6 16 "CoreMelter$Vials" "ticks" "[I"]
def wsX7_clean_r4 : List Cond := [Cond.methodLink RX7 127 yX2_open, Cond.instanceMethod yX2_open, Cond.selects RX2 yX2_open yX2_open, Cond.code yX2_open cX2_open 2 none]
def wsX7_clean : List Cond := .code yX7_clean cX7_clean 3 (some .int) :: ((wsX7_clean_r1 ++ (wsX7_clean_r2 ++ (wsX7_clean_r3 ++ wsX7_clean_r4))) ++ wsX70 ++ wsX30 ++ wsX20 ++ wsX10 ++ wsX00 ++ wsX60)
def wsX7_run_r1 : List Cond := [Cond.fieldLink RX7 10 "CoreMelter" "now" "LCoreMelter$Plate;", Cond.fieldLink RX7 22 "CoreMelter" "history" "LCoreMelter$History;", Cond.fieldLink RX7 138 "CoreMelter$Plate" "told" "I", Cond.methodLink RX7 131 yX3_ticksLeft, Cond.instanceMethod yX3_ticksLeft, Cond.selects RX3 yX3_ticksLeft yX3_ticksLeft, Cond.initialized RX3, Cond.code yX3_ticksLeft cX3_ticksLeft 1 (some .int), Cond.fieldLink RX3 78 "CoreMelter$Plate" "ticks" "I", Cond.methodLink RX7 54 yX1_keep, Cond.instanceMethod yX1_keep, Cond.selects RX1 yX1_keep yX1_keep, Cond.initialized RX1, Cond.code yX1_keep cX1_keep 2 none, Cond.fieldLink RX1 16 "CoreMelter$History" "size" "I", Cond.fieldLink RX1 20 "CoreMelter$History" "oldest" "I", Cond.fieldLink RX1 11 "CoreMelter$History" "states" "[LCoreMelter$Plate;", Cond.methodLink RX1 23 yX3_copyFrom, Cond.instanceMethod yX3_copyFrom, Cond.selects RX3 yX3_copyFrom yX3_copyFrom, Cond.code yX3_copyFrom cX3_copyFrom 2 none, Cond.fieldLink RX3 10 "CoreMelter$Plate" "core" "LCoreMelter$Core;", Cond.fieldLink RX3 19 "CoreMelter$Plate" "lines" "LCoreMelter$Lines;", Cond.fieldLink RX3 26 "CoreMelter$Plate" "vials" "LCoreMelter$Vials;"]
def wsX7_run_r2 : List Cond := [Cond.fieldLink RX3 30 "CoreMelter$Plate" "settings" "[I", Cond.methodLink RX3 40 arraycopyName, Cond.native arraycopyName, Cond.static arraycopyName, Cond.initialized "java/lang/System", Cond.fieldLink RX3 34 "CoreMelter$Plate" "accounts" "[I", Cond.fieldLink RX3 56 "CoreMelter$Plate" "front" "I", Cond.fieldLink RX3 60 "CoreMelter$Plate" "store" "I", Cond.fieldLink RX3 63 "CoreMelter$Plate" "stock" "I", Cond.fieldLink RX3 66 "CoreMelter$Plate" "stockGas" "I", Cond.fieldLink RX3 69 "CoreMelter$Plate" "stockDirt" "I", Cond.fieldLink RX3 72 "CoreMelter$Plate" "told" "I", Cond.fieldLink RX3 75 "CoreMelter$Plate" "waterBelowTold" "I", Cond.fieldLink RX3 81 "CoreMelter$Plate" "reason" "I", Cond.fieldLink RX3 84 "CoreMelter$Plate" "stopped" "I", Cond.methodLink RX3 46 yX0_copyFrom, Cond.instanceMethod yX0_copyFrom, Cond.selects RX0 yX0_copyFrom yX0_copyFrom, Cond.initialized RX0, Cond.code yX0_copyFrom cX0_copyFrom 2 none, Cond.fieldLink RX0 25 "CoreMelter$Core" "size" "I", Cond.fieldLink RX0 29 "CoreMelter$Core" "height" "I", Cond.fieldLink RX0 9 "CoreMelter$Core" "kinds" "[I", Cond.methodLink RX0 32 arraycopyName]
def wsX7_run_r3 : List Cond := [Cond.fieldLink RX0 13 "CoreMelter$Core" "lengths" "[I", Cond.fieldLink RX0 16 "CoreMelter$Core" "densities" "[I", Cond.fieldLink RX0 19 "CoreMelter$Core" "mores" "[I", Cond.fieldLink RX0 22 "CoreMelter$Core" "lowers" "[I", Cond.methodLink RX3 50 yX2_copyFrom, Cond.instanceMethod yX2_copyFrom, Cond.selects RX2 yX2_copyFrom yX2_copyFrom, Cond.initialized RX2, Cond.code yX2_copyFrom cX2_copyFrom 2 none, Cond.fieldLink RX2 9 "CoreMelter$Lines" "stuck" "[I", Cond.methodLink RX2 25 arraycopyName, Cond.fieldLink RX2 13 "CoreMelter$Lines" "dirt" "[I", Cond.fieldLink RX2 16 "CoreMelter$Lines" "gap" "[I", Cond.fieldLink RX2 19 "CoreMelter$Lines" "drawn" "[I", Cond.fieldLink RX2 22 "CoreMelter$Lines" "wasted" "[I", Cond.methodLink RX3 53 yX6_copyFrom, Cond.instanceMethod yX6_copyFrom, Cond.selects RX6 yX6_copyFrom yX6_copyFrom, Cond.initialized RX6, Cond.code yX6_copyFrom cX6_copyFrom 2 none, Cond.fieldLink RX6 19 "CoreMelter$Vials" "sealed" "I", Cond.fieldLink RX6 23 "CoreMelter$Vials" "present" "I", Cond.fieldLink RX6 9 "CoreMelter$Vials" "water" "[I", Cond.methodLink RX6 26 arraycopyName]
def wsX7_run_r4 : List Cond := [Cond.fieldLink RX6 13 "CoreMelter$Vials" "depth" "[I", Cond.fieldLink RX6 16 "CoreMelter$Vials" "ticks" "[I", Cond.methodLink RX7 135 yX3_pass, Cond.instanceMethod yX3_pass, Cond.selects RX3 yX3_pass yX3_pass, Cond.code yX3_pass cX3_pass 3 none, Cond.methodLink RX3 97 yX3_tick, Cond.instanceMethod yX3_tick, Cond.selects RX3 yX3_tick yX3_tick, Cond.code yX3_tick cX3_tick 2 none, Cond.methodLink RX3 100 yX3_reasonToStop, Cond.instanceMethod yX3_reasonToStop, Cond.selects RX3 yX3_reasonToStop yX3_reasonToStop, Cond.code yX3_reasonToStop cX3_reasonToStop 1 (some .int), Cond.fieldLink RX3 118 "CoreMelter$Core" "height" "I", Cond.methodLink RX3 121 yX2_stuckOnes, Cond.instanceMethod yX2_stuckOnes, Cond.selects RX2 yX2_stuckOnes yX2_stuckOnes, Cond.code yX2_stuckOnes cX2_stuckOnes 3 (some .int), Cond.methodLink RX3 104 yX3_melt, Cond.instanceMethod yX3_melt, Cond.selects RX3 yX3_melt yX3_melt, Cond.code yX3_melt cX3_melt 2 none, Cond.fieldLink RX3 128 "CoreMelter$Core" "size" "I"]
def wsX7_run_r5 : List Cond := [Cond.fieldLink RX3 131 "CoreMelter$Core" "kinds" "[I", Cond.methodLink RX3 124 yX0_holding, Cond.instanceMethod yX0_holding, Cond.selects RX0 yX0_holding yX0_holding, Cond.code yX0_holding cX0_holding 3 (some .int), Cond.methodLink RX0 55 yX0_end, Cond.instanceMethod yX0_end, Cond.selects RX0 yX0_end yX0_end, Cond.code yX0_end cX0_end 2 (some .int), Cond.methodLink RX3 134 yX0_end, Cond.methodLink RX3 137 yX3_meltIn, Cond.instanceMethod yX3_meltIn, Cond.selects RX3 yX3_meltIn yX3_meltIn, Cond.code yX3_meltIn cX3_meltIn 7 none, Cond.fieldLink RX3 140 "CoreMelter$Core" "densities" "[I", Cond.methodLink RX3 143 yX0_gasOfUnit, Cond.instanceMethod yX0_gasOfUnit, Cond.selects RX0 yX0_gasOfUnit yX0_gasOfUnit, Cond.code yX0_gasOfUnit cX0_gasOfUnit 2 (some .int), Cond.methodLink RX3 146 yX0_dirtOfUnit, Cond.instanceMethod yX0_dirtOfUnit, Cond.selects RX0 yX0_dirtOfUnit yX0_dirtOfUnit, Cond.code yX0_dirtOfUnit cX0_dirtOfUnit 2 (some .int), Cond.methodLink RX3 107 yX3_draw]
def wsX7_run_r6 : List Cond := [Cond.instanceMethod yX3_draw, Cond.selects RX3 yX3_draw yX3_draw, Cond.code yX3_draw cX3_draw 6 none, Cond.methodLink RX3 149 Lib.Math.min.name, Cond.static Lib.Math.min.name, Cond.initialized "java/lang/Math", Cond.code Lib.Math.min.name Lib.Math.min.code 2 (some .int), Cond.fieldLink RX3 155 "CoreMelter$Lines" "stuck" "[I", Cond.fieldLink RX3 158 "CoreMelter$Lines" "drawn" "[I", Cond.fieldLink RX3 165 "CoreMelter$Lines" "wasted" "[I", Cond.fieldLink RX3 168 "CoreMelter$Vials" "present" "I", Cond.methodLink RX3 161 yX2_breaks, Cond.instanceMethod yX2_breaks, Cond.selects RX2 yX2_breaks yX2_breaks, Cond.code yX2_breaks cX2_breaks 4 (some .boolean), Cond.methodLink RX3 171 yX2_soil, Cond.instanceMethod yX2_soil, Cond.selects RX2 yX2_soil yX2_soil, Cond.code yX2_soil cX2_soil 4 none, Cond.methodLink RX3 111 yX3_raiseTold, Cond.instanceMethod yX3_raiseTold, Cond.selects RX3 yX3_raiseTold yX3_raiseTold, Cond.code yX3_raiseTold cX3_raiseTold 5 none, Cond.methodLink RX3 174 yX3_drawn]
def wsX7_run_r7 : List Cond := [Cond.instanceMethod yX3_drawn, Cond.selects RX3 yX3_drawn yX3_drawn, Cond.code yX3_drawn cX3_drawn 1 (some .int), Cond.methodLink RX3 114 yX6_sealIfFull, Cond.instanceMethod yX6_sealIfFull, Cond.selects RX6 yX6_sealIfFull yX6_sealIfFull, Cond.code yX6_sealIfFull cX6_sealIfFull 4 none]
def wsX7_run : List Cond := .code yX7_run cX7_run 2 (some .int) :: ((wsX7_run_r1 ++ (wsX7_run_r2 ++ (wsX7_run_r3 ++ (wsX7_run_r4 ++ (wsX7_run_r5 ++ (wsX7_run_r6 ++ wsX7_run_r7)))))) ++ wsX70 ++ wsX30 ++ wsX10 ++ wsX00 ++ wsX20 ++ wsX60)
def wsX7_count_r1 : List Cond := [Cond.fieldLink RX7 10 "CoreMelter" "now" "LCoreMelter$Plate;", Cond.fieldLink RX7 112 "CoreMelter$Plate" "settings" "[I", Cond.fieldLink RX7 46 "CoreMelter$Plate" "core" "LCoreMelter$Core;", Cond.fieldLink RX7 62 "CoreMelter$Core" "size" "I", Cond.fieldLink RX7 89 "CoreMelter$Core" "height" "I", Cond.fieldLink RX7 82 "CoreMelter$Plate" "front" "I", Cond.fieldLink RX7 141 "CoreMelter$Plate" "store" "I", Cond.fieldLink RX7 144 "CoreMelter$Plate" "stock" "I", Cond.fieldLink RX7 147 "CoreMelter$Plate" "stockGas" "I", Cond.fieldLink RX7 150 "CoreMelter$Plate" "stockDirt" "I", Cond.fieldLink RX7 138 "CoreMelter$Plate" "told" "I", Cond.fieldLink RX7 153 "CoreMelter$Plate" "vials" "LCoreMelter$Vials;", Cond.fieldLink RX7 157 "CoreMelter$Vials" "sealed" "I", Cond.fieldLink RX7 162 "CoreMelter$Vials" "present" "I", Cond.fieldLink RX7 165 "CoreMelter$Plate" "ticks" "I", Cond.fieldLink RX7 168 "CoreMelter$Plate" "reason" "I", Cond.fieldLink RX7 171 "CoreMelter$Plate" "stopped" "I", Cond.fieldLink RX7 117 "CoreMelter$Plate" "lines" "LCoreMelter$Lines;", Cond.fieldLink RX7 22 "CoreMelter" "history" "LCoreMelter$History;", Cond.fieldLink RX7 102 "CoreMelter$History" "size" "I", Cond.fieldLink RX7 29 "CoreMelter" "text" "LCoreMelter$Text;", Cond.fieldLink RX7 177 "CoreMelter$Text" "length" "I", Cond.methodLink RX7 174 yX2_stuckOnes, Cond.instanceMethod yX2_stuckOnes]
def wsX7_count_r2 : List Cond := [Cond.selects RX2 yX2_stuckOnes yX2_stuckOnes, Cond.initialized RX2, Cond.code yX2_stuckOnes cX2_stuckOnes 3 (some .int), Cond.fieldLink RX2 9 "CoreMelter$Lines" "stuck" "[I"]
def wsX7_count : List Cond := .code yX7_count cX7_count 2 (some .int) :: ((wsX7_count_r1 ++ wsX7_count_r2) ++ wsX70 ++ wsX30 ++ wsX00 ++ wsX60 ++ wsX10 ++ wsX50 ++ wsX20)
def wsX7_account : List Cond := .code yX7_account cX7_account 2 (some .int) :: ([.fieldLink RX7 10 "CoreMelter" "now" "LCoreMelter$Plate;", .fieldLink RX7 180 "CoreMelter$Plate" "accounts" "[I"] ++ wsX70 ++ wsX30)
def wsX7_line : List Cond := .code yX7_line cX7_line 3 (some .int) :: ([.fieldLink RX7 10 "CoreMelter" "now" "LCoreMelter$Plate;", .fieldLink RX7 117 "CoreMelter$Plate" "lines" "LCoreMelter$Lines;", .fieldLink RX7 121 "CoreMelter$Lines" "stuck" "[I", .fieldLink RX7 124 "CoreMelter$Lines" "dirt" "[I", .fieldLink RX7 183 "CoreMelter$Lines" "gap" "[I", .fieldLink RX7 186 "CoreMelter$Lines" "drawn" "[I", .fieldLink RX7 189 "CoreMelter$Lines" "wasted" "[I"] ++ wsX70 ++ wsX30 ++ wsX20)
def wsX7_again : List Cond := .code yX7_again cX7_again 1 (some .int) :: ([.fieldLink RX7 10 "CoreMelter" "now" "LCoreMelter$Plate;", .fieldLink RX7 46 "CoreMelter$Plate" "core" "LCoreMelter$Core;", .fieldLink RX7 82 "CoreMelter$Plate" "front" "I", .methodLink RX7 197 Lib.Math.min.name, .static Lib.Math.min.name, .initialized "java/lang/Math", .code Lib.Math.min.name Lib.Math.min.code 2 (some .int), .methodLink RX7 192 yX3_drawn, .instanceMethod yX3_drawn, .selects RX3 yX3_drawn yX3_drawn, .initialized RX3, .code yX3_drawn cX3_drawn 1 (some .int), .fieldLink RX3 34 "CoreMelter$Plate" "accounts" "[I", .methodLink RX7 194 yX0_depthOf, .instanceMethod yX0_depthOf, .selects RX0 yX0_depthOf yX0_depthOf, .initialized RX0, .code yX0_depthOf cX0_depthOf 7 (some .int), .fieldLink RX0 25 "CoreMelter$Core" "size" "I", .fieldLink RX0 16 "CoreMelter$Core" "densities" "[I", .fieldLink RX0 13 "CoreMelter$Core" "lengths" "[I", .methodLink RX0 58 Lib.Math.min.name] ++ wsX70 ++ wsX30 ++ wsX00)
def wsX7_vial : List Cond := .code yX7_vial cX7_vial 3 (some .int) :: ([.fieldLink RX7 10 "CoreMelter" "now" "LCoreMelter$Plate;", .fieldLink RX7 153 "CoreMelter$Plate" "vials" "LCoreMelter$Vials;", .fieldLink RX7 157 "CoreMelter$Vials" "sealed" "I", .fieldLink RX7 202 "CoreMelter$Vials" "water" "[I", .fieldLink RX7 205 "CoreMelter$Vials" "depth" "[I", .fieldLink RX7 208 "CoreMelter$Vials" "ticks" "[I"] ++ wsX70 ++ wsX30 ++ wsX60)
def wsX7_vialAt : List Cond := .code yX7_vialAt cX7_vialAt 3 (some .int) :: ([.fieldLink RX7 10 "CoreMelter" "now" "LCoreMelter$Plate;", .fieldLink RX7 153 "CoreMelter$Plate" "vials" "LCoreMelter$Vials;", .fieldLink RX7 157 "CoreMelter$Vials" "sealed" "I", .methodLink RX7 210 yX6_firstBeyond, .instanceMethod yX6_firstBeyond, .selects RX6 yX6_firstBeyond yX6_firstBeyond, .initialized RX6, .code yX6_firstBeyond cX6_firstBeyond 3 (some .int), .fieldLink RX6 19 "CoreMelter$Vials" "sealed" "I", .fieldLink RX6 13 "CoreMelter$Vials" "depth" "[I"] ++ wsX70 ++ wsX30 ++ wsX60)
def wsX7_ifRun_r1 : List Cond := [Cond.fieldLink RX7 10 "CoreMelter" "now" "LCoreMelter$Plate;", Cond.fieldLink RX7 16 "CoreMelter" "trial" "LCoreMelter$Plate;", Cond.fieldLink RX7 138 "CoreMelter$Plate" "told" "I", Cond.fieldLink RX7 82 "CoreMelter$Plate" "front" "I", Cond.fieldLink RX7 180 "CoreMelter$Plate" "accounts" "[I", Cond.fieldLink RX7 153 "CoreMelter$Plate" "vials" "LCoreMelter$Vials;", Cond.fieldLink RX7 157 "CoreMelter$Vials" "sealed" "I", Cond.fieldLink RX7 117 "CoreMelter$Plate" "lines" "LCoreMelter$Lines;", Cond.fieldLink RX7 171 "CoreMelter$Plate" "stopped" "I", Cond.methodLink RX7 131 yX3_ticksLeft, Cond.instanceMethod yX3_ticksLeft, Cond.selects RX3 yX3_ticksLeft yX3_ticksLeft, Cond.initialized RX3, Cond.code yX3_ticksLeft cX3_ticksLeft 1 (some .int), Cond.fieldLink RX3 78 "CoreMelter$Plate" "ticks" "I", Cond.methodLink RX7 213 yX3_copyFrom, Cond.instanceMethod yX3_copyFrom, Cond.selects RX3 yX3_copyFrom yX3_copyFrom, Cond.code yX3_copyFrom cX3_copyFrom 2 none, Cond.fieldLink RX3 10 "CoreMelter$Plate" "core" "LCoreMelter$Core;", Cond.fieldLink RX3 19 "CoreMelter$Plate" "lines" "LCoreMelter$Lines;", Cond.fieldLink RX3 26 "CoreMelter$Plate" "vials" "LCoreMelter$Vials;", Cond.fieldLink RX3 30 "CoreMelter$Plate" "settings" "[I", Cond.methodLink RX3 40 arraycopyName]
def wsX7_ifRun_r2 : List Cond := [Cond.native arraycopyName, Cond.static arraycopyName, Cond.initialized "java/lang/System", Cond.fieldLink RX3 34 "CoreMelter$Plate" "accounts" "[I", Cond.fieldLink RX3 56 "CoreMelter$Plate" "front" "I", Cond.fieldLink RX3 60 "CoreMelter$Plate" "store" "I", Cond.fieldLink RX3 63 "CoreMelter$Plate" "stock" "I", Cond.fieldLink RX3 66 "CoreMelter$Plate" "stockGas" "I", Cond.fieldLink RX3 69 "CoreMelter$Plate" "stockDirt" "I", Cond.fieldLink RX3 72 "CoreMelter$Plate" "told" "I", Cond.fieldLink RX3 75 "CoreMelter$Plate" "waterBelowTold" "I", Cond.fieldLink RX3 81 "CoreMelter$Plate" "reason" "I", Cond.fieldLink RX3 84 "CoreMelter$Plate" "stopped" "I", Cond.methodLink RX3 46 yX0_copyFrom, Cond.instanceMethod yX0_copyFrom, Cond.selects RX0 yX0_copyFrom yX0_copyFrom, Cond.initialized RX0, Cond.code yX0_copyFrom cX0_copyFrom 2 none, Cond.fieldLink RX0 25 "CoreMelter$Core" "size" "I", Cond.fieldLink RX0 29 "CoreMelter$Core" "height" "I", Cond.fieldLink RX0 9 "CoreMelter$Core" "kinds" "[I", Cond.methodLink RX0 32 arraycopyName, Cond.fieldLink RX0 13 "CoreMelter$Core" "lengths" "[I", Cond.fieldLink RX0 16 "CoreMelter$Core" "densities" "[I"]
def wsX7_ifRun_r3 : List Cond := [Cond.fieldLink RX0 19 "CoreMelter$Core" "mores" "[I", Cond.fieldLink RX0 22 "CoreMelter$Core" "lowers" "[I", Cond.methodLink RX3 50 yX2_copyFrom, Cond.instanceMethod yX2_copyFrom, Cond.selects RX2 yX2_copyFrom yX2_copyFrom, Cond.initialized RX2, Cond.code yX2_copyFrom cX2_copyFrom 2 none, Cond.fieldLink RX2 9 "CoreMelter$Lines" "stuck" "[I", Cond.methodLink RX2 25 arraycopyName, Cond.fieldLink RX2 13 "CoreMelter$Lines" "dirt" "[I", Cond.fieldLink RX2 16 "CoreMelter$Lines" "gap" "[I", Cond.fieldLink RX2 19 "CoreMelter$Lines" "drawn" "[I", Cond.fieldLink RX2 22 "CoreMelter$Lines" "wasted" "[I", Cond.methodLink RX3 53 yX6_copyFrom, Cond.instanceMethod yX6_copyFrom, Cond.selects RX6 yX6_copyFrom yX6_copyFrom, Cond.initialized RX6, Cond.code yX6_copyFrom cX6_copyFrom 2 none, Cond.fieldLink RX6 19 "CoreMelter$Vials" "sealed" "I", Cond.fieldLink RX6 23 "CoreMelter$Vials" "present" "I", Cond.fieldLink RX6 9 "CoreMelter$Vials" "water" "[I", Cond.methodLink RX6 26 arraycopyName, Cond.fieldLink RX6 13 "CoreMelter$Vials" "depth" "[I", Cond.fieldLink RX6 16 "CoreMelter$Vials" "ticks" "[I"]
def wsX7_ifRun_r4 : List Cond := [Cond.methodLink RX7 135 yX3_pass, Cond.instanceMethod yX3_pass, Cond.selects RX3 yX3_pass yX3_pass, Cond.code yX3_pass cX3_pass 3 none, Cond.methodLink RX3 97 yX3_tick, Cond.instanceMethod yX3_tick, Cond.selects RX3 yX3_tick yX3_tick, Cond.code yX3_tick cX3_tick 2 none, Cond.methodLink RX3 100 yX3_reasonToStop, Cond.instanceMethod yX3_reasonToStop, Cond.selects RX3 yX3_reasonToStop yX3_reasonToStop, Cond.code yX3_reasonToStop cX3_reasonToStop 1 (some .int), Cond.fieldLink RX3 118 "CoreMelter$Core" "height" "I", Cond.methodLink RX3 121 yX2_stuckOnes, Cond.instanceMethod yX2_stuckOnes, Cond.selects RX2 yX2_stuckOnes yX2_stuckOnes, Cond.code yX2_stuckOnes cX2_stuckOnes 3 (some .int), Cond.methodLink RX3 104 yX3_melt, Cond.instanceMethod yX3_melt, Cond.selects RX3 yX3_melt yX3_melt, Cond.code yX3_melt cX3_melt 2 none, Cond.fieldLink RX3 128 "CoreMelter$Core" "size" "I", Cond.fieldLink RX3 131 "CoreMelter$Core" "kinds" "[I", Cond.methodLink RX3 124 yX0_holding]
def wsX7_ifRun_r5 : List Cond := [Cond.instanceMethod yX0_holding, Cond.selects RX0 yX0_holding yX0_holding, Cond.code yX0_holding cX0_holding 3 (some .int), Cond.methodLink RX0 55 yX0_end, Cond.instanceMethod yX0_end, Cond.selects RX0 yX0_end yX0_end, Cond.code yX0_end cX0_end 2 (some .int), Cond.methodLink RX3 134 yX0_end, Cond.methodLink RX3 137 yX3_meltIn, Cond.instanceMethod yX3_meltIn, Cond.selects RX3 yX3_meltIn yX3_meltIn, Cond.code yX3_meltIn cX3_meltIn 7 none, Cond.fieldLink RX3 140 "CoreMelter$Core" "densities" "[I", Cond.methodLink RX3 143 yX0_gasOfUnit, Cond.instanceMethod yX0_gasOfUnit, Cond.selects RX0 yX0_gasOfUnit yX0_gasOfUnit, Cond.code yX0_gasOfUnit cX0_gasOfUnit 2 (some .int), Cond.methodLink RX3 146 yX0_dirtOfUnit, Cond.instanceMethod yX0_dirtOfUnit, Cond.selects RX0 yX0_dirtOfUnit yX0_dirtOfUnit, Cond.code yX0_dirtOfUnit cX0_dirtOfUnit 2 (some .int), Cond.methodLink RX3 107 yX3_draw, Cond.instanceMethod yX3_draw, Cond.selects RX3 yX3_draw yX3_draw]
def wsX7_ifRun_r6 : List Cond := [Cond.code yX3_draw cX3_draw 6 none, Cond.methodLink RX3 149 Lib.Math.min.name, Cond.static Lib.Math.min.name, Cond.initialized "java/lang/Math", Cond.code Lib.Math.min.name Lib.Math.min.code 2 (some .int), Cond.fieldLink RX3 155 "CoreMelter$Lines" "stuck" "[I", Cond.fieldLink RX3 158 "CoreMelter$Lines" "drawn" "[I", Cond.fieldLink RX3 165 "CoreMelter$Lines" "wasted" "[I", Cond.fieldLink RX3 168 "CoreMelter$Vials" "present" "I", Cond.methodLink RX3 161 yX2_breaks, Cond.instanceMethod yX2_breaks, Cond.selects RX2 yX2_breaks yX2_breaks, Cond.code yX2_breaks cX2_breaks 4 (some .boolean), Cond.methodLink RX3 171 yX2_soil, Cond.instanceMethod yX2_soil, Cond.selects RX2 yX2_soil yX2_soil, Cond.code yX2_soil cX2_soil 4 none, Cond.methodLink RX3 111 yX3_raiseTold, Cond.instanceMethod yX3_raiseTold, Cond.selects RX3 yX3_raiseTold yX3_raiseTold, Cond.code yX3_raiseTold cX3_raiseTold 5 none, Cond.methodLink RX3 174 yX3_drawn, Cond.instanceMethod yX3_drawn, Cond.selects RX3 yX3_drawn yX3_drawn]
def wsX7_ifRun_r7 : List Cond := [Cond.code yX3_drawn cX3_drawn 1 (some .int), Cond.methodLink RX3 114 yX6_sealIfFull, Cond.instanceMethod yX6_sealIfFull, Cond.selects RX6 yX6_sealIfFull yX6_sealIfFull, Cond.code yX6_sealIfFull cX6_sealIfFull 4 none, Cond.methodLink RX7 174 yX2_stuckOnes]
def wsX7_ifRun : List Cond := .code yX7_ifRun cX7_ifRun 3 (some .int) :: ((wsX7_ifRun_r1 ++ (wsX7_ifRun_r2 ++ (wsX7_ifRun_r3 ++ (wsX7_ifRun_r4 ++ (wsX7_ifRun_r5 ++ (wsX7_ifRun_r6 ++ wsX7_ifRun_r7)))))) ++ wsX70 ++ wsX30 ++ wsX60 ++ wsX00 ++ wsX20)
def wsX7_ticksTo_r1 : List Cond := [Cond.fieldLink RX7 10 "CoreMelter" "now" "LCoreMelter$Plate;", Cond.methodLink RX7 197 Lib.Math.min.name, Cond.static Lib.Math.min.name, Cond.initialized "java/lang/Math", Cond.code Lib.Math.min.name Lib.Math.min.code 2 (some .int), Cond.fieldLink RX7 16 "CoreMelter" "trial" "LCoreMelter$Plate;", Cond.fieldLink RX7 138 "CoreMelter$Plate" "told" "I", Cond.fieldLink RX7 165 "CoreMelter$Plate" "ticks" "I", Cond.methodLink RX7 131 yX3_ticksLeft, Cond.instanceMethod yX3_ticksLeft, Cond.selects RX3 yX3_ticksLeft yX3_ticksLeft, Cond.initialized RX3, Cond.code yX3_ticksLeft cX3_ticksLeft 1 (some .int), Cond.fieldLink RX3 78 "CoreMelter$Plate" "ticks" "I", Cond.methodLink RX7 213 yX3_copyFrom, Cond.instanceMethod yX3_copyFrom, Cond.selects RX3 yX3_copyFrom yX3_copyFrom, Cond.code yX3_copyFrom cX3_copyFrom 2 none, Cond.fieldLink RX3 10 "CoreMelter$Plate" "core" "LCoreMelter$Core;", Cond.fieldLink RX3 19 "CoreMelter$Plate" "lines" "LCoreMelter$Lines;", Cond.fieldLink RX3 26 "CoreMelter$Plate" "vials" "LCoreMelter$Vials;", Cond.fieldLink RX3 30 "CoreMelter$Plate" "settings" "[I", Cond.methodLink RX3 40 arraycopyName, Cond.native arraycopyName]
def wsX7_ticksTo_r2 : List Cond := [Cond.static arraycopyName, Cond.initialized "java/lang/System", Cond.fieldLink RX3 34 "CoreMelter$Plate" "accounts" "[I", Cond.fieldLink RX3 56 "CoreMelter$Plate" "front" "I", Cond.fieldLink RX3 60 "CoreMelter$Plate" "store" "I", Cond.fieldLink RX3 63 "CoreMelter$Plate" "stock" "I", Cond.fieldLink RX3 66 "CoreMelter$Plate" "stockGas" "I", Cond.fieldLink RX3 69 "CoreMelter$Plate" "stockDirt" "I", Cond.fieldLink RX3 72 "CoreMelter$Plate" "told" "I", Cond.fieldLink RX3 75 "CoreMelter$Plate" "waterBelowTold" "I", Cond.fieldLink RX3 81 "CoreMelter$Plate" "reason" "I", Cond.fieldLink RX3 84 "CoreMelter$Plate" "stopped" "I", Cond.methodLink RX3 46 yX0_copyFrom, Cond.instanceMethod yX0_copyFrom, Cond.selects RX0 yX0_copyFrom yX0_copyFrom, Cond.initialized RX0, Cond.code yX0_copyFrom cX0_copyFrom 2 none, Cond.fieldLink RX0 25 "CoreMelter$Core" "size" "I", Cond.fieldLink RX0 29 "CoreMelter$Core" "height" "I", Cond.fieldLink RX0 9 "CoreMelter$Core" "kinds" "[I", Cond.methodLink RX0 32 arraycopyName, Cond.fieldLink RX0 13 "CoreMelter$Core" "lengths" "[I", Cond.fieldLink RX0 16 "CoreMelter$Core" "densities" "[I", Cond.fieldLink RX0 19 "CoreMelter$Core" "mores" "[I"]
def wsX7_ticksTo_r3 : List Cond := [Cond.fieldLink RX0 22 "CoreMelter$Core" "lowers" "[I", Cond.methodLink RX3 50 yX2_copyFrom, Cond.instanceMethod yX2_copyFrom, Cond.selects RX2 yX2_copyFrom yX2_copyFrom, Cond.initialized RX2, Cond.code yX2_copyFrom cX2_copyFrom 2 none, Cond.fieldLink RX2 9 "CoreMelter$Lines" "stuck" "[I", Cond.methodLink RX2 25 arraycopyName, Cond.fieldLink RX2 13 "CoreMelter$Lines" "dirt" "[I", Cond.fieldLink RX2 16 "CoreMelter$Lines" "gap" "[I", Cond.fieldLink RX2 19 "CoreMelter$Lines" "drawn" "[I", Cond.fieldLink RX2 22 "CoreMelter$Lines" "wasted" "[I", Cond.methodLink RX3 53 yX6_copyFrom, Cond.instanceMethod yX6_copyFrom, Cond.selects RX6 yX6_copyFrom yX6_copyFrom, Cond.initialized RX6, Cond.code yX6_copyFrom cX6_copyFrom 2 none, Cond.fieldLink RX6 19 "CoreMelter$Vials" "sealed" "I", Cond.fieldLink RX6 23 "CoreMelter$Vials" "present" "I", Cond.fieldLink RX6 9 "CoreMelter$Vials" "water" "[I", Cond.methodLink RX6 26 arraycopyName, Cond.fieldLink RX6 13 "CoreMelter$Vials" "depth" "[I", Cond.fieldLink RX6 16 "CoreMelter$Vials" "ticks" "[I", Cond.methodLink RX7 216 yX3_tick]
def wsX7_ticksTo_r4 : List Cond := [Cond.instanceMethod yX3_tick, Cond.selects RX3 yX3_tick yX3_tick, Cond.code yX3_tick cX3_tick 2 none, Cond.methodLink RX3 100 yX3_reasonToStop, Cond.instanceMethod yX3_reasonToStop, Cond.selects RX3 yX3_reasonToStop yX3_reasonToStop, Cond.code yX3_reasonToStop cX3_reasonToStop 1 (some .int), Cond.fieldLink RX3 118 "CoreMelter$Core" "height" "I", Cond.methodLink RX3 121 yX2_stuckOnes, Cond.instanceMethod yX2_stuckOnes, Cond.selects RX2 yX2_stuckOnes yX2_stuckOnes, Cond.code yX2_stuckOnes cX2_stuckOnes 3 (some .int), Cond.methodLink RX3 104 yX3_melt, Cond.instanceMethod yX3_melt, Cond.selects RX3 yX3_melt yX3_melt, Cond.code yX3_melt cX3_melt 2 none, Cond.fieldLink RX3 128 "CoreMelter$Core" "size" "I", Cond.fieldLink RX3 131 "CoreMelter$Core" "kinds" "[I", Cond.methodLink RX3 124 yX0_holding, Cond.instanceMethod yX0_holding, Cond.selects RX0 yX0_holding yX0_holding, Cond.code yX0_holding cX0_holding 3 (some .int), Cond.methodLink RX0 55 yX0_end, Cond.instanceMethod yX0_end]
def wsX7_ticksTo_r5 : List Cond := [Cond.selects RX0 yX0_end yX0_end, Cond.code yX0_end cX0_end 2 (some .int), Cond.methodLink RX3 134 yX0_end, Cond.methodLink RX3 137 yX3_meltIn, Cond.instanceMethod yX3_meltIn, Cond.selects RX3 yX3_meltIn yX3_meltIn, Cond.code yX3_meltIn cX3_meltIn 7 none, Cond.fieldLink RX3 140 "CoreMelter$Core" "densities" "[I", Cond.methodLink RX3 143 yX0_gasOfUnit, Cond.instanceMethod yX0_gasOfUnit, Cond.selects RX0 yX0_gasOfUnit yX0_gasOfUnit, Cond.code yX0_gasOfUnit cX0_gasOfUnit 2 (some .int), Cond.methodLink RX3 146 yX0_dirtOfUnit, Cond.instanceMethod yX0_dirtOfUnit, Cond.selects RX0 yX0_dirtOfUnit yX0_dirtOfUnit, Cond.code yX0_dirtOfUnit cX0_dirtOfUnit 2 (some .int), Cond.methodLink RX3 107 yX3_draw, Cond.instanceMethod yX3_draw, Cond.selects RX3 yX3_draw yX3_draw, Cond.code yX3_draw cX3_draw 6 none, Cond.methodLink RX3 149 Lib.Math.min.name, Cond.fieldLink RX3 155 "CoreMelter$Lines" "stuck" "[I", Cond.fieldLink RX3 158 "CoreMelter$Lines" "drawn" "[I", Cond.fieldLink RX3 165 "CoreMelter$Lines" "wasted" "[I"]
def wsX7_ticksTo_r6 : List Cond := [Cond.fieldLink RX3 168 "CoreMelter$Vials" "present" "I", Cond.methodLink RX3 161 yX2_breaks, Cond.instanceMethod yX2_breaks, Cond.selects RX2 yX2_breaks yX2_breaks, Cond.code yX2_breaks cX2_breaks 4 (some .boolean), Cond.methodLink RX3 171 yX2_soil, Cond.instanceMethod yX2_soil, Cond.selects RX2 yX2_soil yX2_soil, Cond.code yX2_soil cX2_soil 4 none, Cond.methodLink RX3 111 yX3_raiseTold, Cond.instanceMethod yX3_raiseTold, Cond.selects RX3 yX3_raiseTold yX3_raiseTold, Cond.code yX3_raiseTold cX3_raiseTold 5 none, Cond.methodLink RX3 174 yX3_drawn, Cond.instanceMethod yX3_drawn, Cond.selects RX3 yX3_drawn yX3_drawn, Cond.code yX3_drawn cX3_drawn 1 (some .int), Cond.methodLink RX3 114 yX6_sealIfFull, Cond.instanceMethod yX6_sealIfFull, Cond.selects RX6 yX6_sealIfFull yX6_sealIfFull, Cond.code yX6_sealIfFull cX6_sealIfFull 4 none]
def wsX7_ticksTo : List Cond := .code yX7_ticksTo cX7_ticksTo 4 (some .int) :: ((wsX7_ticksTo_r1 ++ (wsX7_ticksTo_r2 ++ (wsX7_ticksTo_r3 ++ (wsX7_ticksTo_r4 ++ (wsX7_ticksTo_r5 ++ wsX7_ticksTo_r6))))) ++ wsX70 ++ wsX30 ++ wsX00 ++ wsX20 ++ wsX60)
def wsX7_flowFor_r1 : List Cond := [Cond.fieldLink RX7 10 "CoreMelter" "now" "LCoreMelter$Plate;", Cond.fieldLink RX7 109 "CoreMelter$Plate" "MOST" "[I", Cond.fieldLink RX7 16 "CoreMelter" "trial" "LCoreMelter$Plate;", Cond.fieldLink RX7 112 "CoreMelter$Plate" "settings" "[I", Cond.fieldLink RX7 180 "CoreMelter$Plate" "accounts" "[I", Cond.methodLink RX7 131 yX3_ticksLeft, Cond.instanceMethod yX3_ticksLeft, Cond.selects RX3 yX3_ticksLeft yX3_ticksLeft, Cond.initialized RX3, Cond.code yX3_ticksLeft cX3_ticksLeft 1 (some .int), Cond.fieldLink RX3 78 "CoreMelter$Plate" "ticks" "I", Cond.methodLink RX7 213 yX3_copyFrom, Cond.instanceMethod yX3_copyFrom, Cond.selects RX3 yX3_copyFrom yX3_copyFrom, Cond.code yX3_copyFrom cX3_copyFrom 2 none, Cond.fieldLink RX3 10 "CoreMelter$Plate" "core" "LCoreMelter$Core;", Cond.fieldLink RX3 19 "CoreMelter$Plate" "lines" "LCoreMelter$Lines;", Cond.fieldLink RX3 26 "CoreMelter$Plate" "vials" "LCoreMelter$Vials;", Cond.fieldLink RX3 30 "CoreMelter$Plate" "settings" "[I", Cond.methodLink RX3 40 arraycopyName, Cond.native arraycopyName, Cond.static arraycopyName, Cond.initialized "java/lang/System", Cond.fieldLink RX3 34 "CoreMelter$Plate" "accounts" "[I"]
def wsX7_flowFor_r2 : List Cond := [Cond.fieldLink RX3 56 "CoreMelter$Plate" "front" "I", Cond.fieldLink RX3 60 "CoreMelter$Plate" "store" "I", Cond.fieldLink RX3 63 "CoreMelter$Plate" "stock" "I", Cond.fieldLink RX3 66 "CoreMelter$Plate" "stockGas" "I", Cond.fieldLink RX3 69 "CoreMelter$Plate" "stockDirt" "I", Cond.fieldLink RX3 72 "CoreMelter$Plate" "told" "I", Cond.fieldLink RX3 75 "CoreMelter$Plate" "waterBelowTold" "I", Cond.fieldLink RX3 81 "CoreMelter$Plate" "reason" "I", Cond.fieldLink RX3 84 "CoreMelter$Plate" "stopped" "I", Cond.methodLink RX3 46 yX0_copyFrom, Cond.instanceMethod yX0_copyFrom, Cond.selects RX0 yX0_copyFrom yX0_copyFrom, Cond.initialized RX0, Cond.code yX0_copyFrom cX0_copyFrom 2 none, Cond.fieldLink RX0 25 "CoreMelter$Core" "size" "I", Cond.fieldLink RX0 29 "CoreMelter$Core" "height" "I", Cond.fieldLink RX0 9 "CoreMelter$Core" "kinds" "[I", Cond.methodLink RX0 32 arraycopyName, Cond.fieldLink RX0 13 "CoreMelter$Core" "lengths" "[I", Cond.fieldLink RX0 16 "CoreMelter$Core" "densities" "[I", Cond.fieldLink RX0 19 "CoreMelter$Core" "mores" "[I", Cond.fieldLink RX0 22 "CoreMelter$Core" "lowers" "[I", Cond.methodLink RX3 50 yX2_copyFrom, Cond.instanceMethod yX2_copyFrom]
def wsX7_flowFor_r3 : List Cond := [Cond.selects RX2 yX2_copyFrom yX2_copyFrom, Cond.initialized RX2, Cond.code yX2_copyFrom cX2_copyFrom 2 none, Cond.fieldLink RX2 9 "CoreMelter$Lines" "stuck" "[I", Cond.methodLink RX2 25 arraycopyName, Cond.fieldLink RX2 13 "CoreMelter$Lines" "dirt" "[I", Cond.fieldLink RX2 16 "CoreMelter$Lines" "gap" "[I", Cond.fieldLink RX2 19 "CoreMelter$Lines" "drawn" "[I", Cond.fieldLink RX2 22 "CoreMelter$Lines" "wasted" "[I", Cond.methodLink RX3 53 yX6_copyFrom, Cond.instanceMethod yX6_copyFrom, Cond.selects RX6 yX6_copyFrom yX6_copyFrom, Cond.initialized RX6, Cond.code yX6_copyFrom cX6_copyFrom 2 none, Cond.fieldLink RX6 19 "CoreMelter$Vials" "sealed" "I", Cond.fieldLink RX6 23 "CoreMelter$Vials" "present" "I", Cond.fieldLink RX6 9 "CoreMelter$Vials" "water" "[I", Cond.methodLink RX6 26 arraycopyName, Cond.fieldLink RX6 13 "CoreMelter$Vials" "depth" "[I", Cond.fieldLink RX6 16 "CoreMelter$Vials" "ticks" "[I", Cond.methodLink RX7 135 yX3_pass, Cond.instanceMethod yX3_pass, Cond.selects RX3 yX3_pass yX3_pass, Cond.code yX3_pass cX3_pass 3 none]
def wsX7_flowFor_r4 : List Cond := [Cond.methodLink RX3 97 yX3_tick, Cond.instanceMethod yX3_tick, Cond.selects RX3 yX3_tick yX3_tick, Cond.code yX3_tick cX3_tick 2 none, Cond.methodLink RX3 100 yX3_reasonToStop, Cond.instanceMethod yX3_reasonToStop, Cond.selects RX3 yX3_reasonToStop yX3_reasonToStop, Cond.code yX3_reasonToStop cX3_reasonToStop 1 (some .int), Cond.fieldLink RX3 118 "CoreMelter$Core" "height" "I", Cond.methodLink RX3 121 yX2_stuckOnes, Cond.instanceMethod yX2_stuckOnes, Cond.selects RX2 yX2_stuckOnes yX2_stuckOnes, Cond.code yX2_stuckOnes cX2_stuckOnes 3 (some .int), Cond.methodLink RX3 104 yX3_melt, Cond.instanceMethod yX3_melt, Cond.selects RX3 yX3_melt yX3_melt, Cond.code yX3_melt cX3_melt 2 none, Cond.fieldLink RX3 128 "CoreMelter$Core" "size" "I", Cond.fieldLink RX3 131 "CoreMelter$Core" "kinds" "[I", Cond.methodLink RX3 124 yX0_holding, Cond.instanceMethod yX0_holding, Cond.selects RX0 yX0_holding yX0_holding, Cond.code yX0_holding cX0_holding 3 (some .int), Cond.methodLink RX0 55 yX0_end]
def wsX7_flowFor_r5 : List Cond := [Cond.instanceMethod yX0_end, Cond.selects RX0 yX0_end yX0_end, Cond.code yX0_end cX0_end 2 (some .int), Cond.methodLink RX3 134 yX0_end, Cond.methodLink RX3 137 yX3_meltIn, Cond.instanceMethod yX3_meltIn, Cond.selects RX3 yX3_meltIn yX3_meltIn, Cond.code yX3_meltIn cX3_meltIn 7 none, Cond.fieldLink RX3 140 "CoreMelter$Core" "densities" "[I", Cond.methodLink RX3 143 yX0_gasOfUnit, Cond.instanceMethod yX0_gasOfUnit, Cond.selects RX0 yX0_gasOfUnit yX0_gasOfUnit, Cond.code yX0_gasOfUnit cX0_gasOfUnit 2 (some .int), Cond.methodLink RX3 146 yX0_dirtOfUnit, Cond.instanceMethod yX0_dirtOfUnit, Cond.selects RX0 yX0_dirtOfUnit yX0_dirtOfUnit, Cond.code yX0_dirtOfUnit cX0_dirtOfUnit 2 (some .int), Cond.methodLink RX3 107 yX3_draw, Cond.instanceMethod yX3_draw, Cond.selects RX3 yX3_draw yX3_draw, Cond.code yX3_draw cX3_draw 6 none, Cond.methodLink RX3 149 Lib.Math.min.name, Cond.static Lib.Math.min.name, Cond.initialized "java/lang/Math"]
def wsX7_flowFor_r6 : List Cond := [Cond.code Lib.Math.min.name Lib.Math.min.code 2 (some .int), Cond.fieldLink RX3 155 "CoreMelter$Lines" "stuck" "[I", Cond.fieldLink RX3 158 "CoreMelter$Lines" "drawn" "[I", Cond.fieldLink RX3 165 "CoreMelter$Lines" "wasted" "[I", Cond.fieldLink RX3 168 "CoreMelter$Vials" "present" "I", Cond.methodLink RX3 161 yX2_breaks, Cond.instanceMethod yX2_breaks, Cond.selects RX2 yX2_breaks yX2_breaks, Cond.code yX2_breaks cX2_breaks 4 (some .boolean), Cond.methodLink RX3 171 yX2_soil, Cond.instanceMethod yX2_soil, Cond.selects RX2 yX2_soil yX2_soil, Cond.code yX2_soil cX2_soil 4 none, Cond.methodLink RX3 111 yX3_raiseTold, Cond.instanceMethod yX3_raiseTold, Cond.selects RX3 yX3_raiseTold yX3_raiseTold, Cond.code yX3_raiseTold cX3_raiseTold 5 none, Cond.methodLink RX3 174 yX3_drawn, Cond.instanceMethod yX3_drawn, Cond.selects RX3 yX3_drawn yX3_drawn, Cond.code yX3_drawn cX3_drawn 1 (some .int), Cond.methodLink RX3 114 yX6_sealIfFull, Cond.instanceMethod yX6_sealIfFull, Cond.selects RX6 yX6_sealIfFull yX6_sealIfFull]
def wsX7_flowFor_r7 : List Cond := [Cond.code yX6_sealIfFull cX6_sealIfFull 4 none]
def wsX7_flowFor : List Cond := .code yX7_flowFor cX7_flowFor 5 (some .int) :: ((wsX7_flowFor_r1 ++ (wsX7_flowFor_r2 ++ (wsX7_flowFor_r3 ++ (wsX7_flowFor_r4 ++ (wsX7_flowFor_r5 ++ (wsX7_flowFor_r6 ++ wsX7_flowFor_r7)))))) ++ wsX70 ++ wsX30 ++ wsX00 ++ wsX20 ++ wsX60)
def wsX7_type : List Cond := .code yX7_type cX7_type 2 (some .int) :: ([.fieldLink RX7 29 "CoreMelter" "text" "LCoreMelter$Text;", .fieldLink RX7 177 "CoreMelter$Text" "length" "I", .methodLink RX7 219 yX5_isFull, .instanceMethod yX5_isFull, .selects RX5 yX5_isFull yX5_isFull, .initialized RX5, .code yX5_isFull cX5_isFull 1 (some .boolean), .fieldLink RX5 13 "CoreMelter$Text" "length" "I", .methodLink RX7 220 yX5_append, .instanceMethod yX5_append, .selects RX5 yX5_append yX5_append, .code yX5_append cX5_append 2 none, .fieldLink RX5 9 "CoreMelter$Text" "characters" "[C", .methodLink RX5 17 yX5_isFull] ++ wsX70 ++ wsX50)
def wsX7_clearText : List Cond := .code yX7_clearText cX7_clearText 2 (some .int) :: ([.fieldLink RX7 29 "CoreMelter" "text" "LCoreMelter$Text;", .fieldLink RX7 177 "CoreMelter$Text" "length" "I"] ++ wsX70 ++ wsX50)
def wsX7_fault_r1 : List Cond := [Cond.fieldLink RX7 36 "CoreMelter" "reading" "LCoreMelter$Reading;", Cond.fieldLink RX7 29 "CoreMelter" "text" "LCoreMelter$Text;", Cond.fieldLink RX7 10 "CoreMelter" "now" "LCoreMelter$Plate;", Cond.fieldLink RX7 46 "CoreMelter$Plate" "core" "LCoreMelter$Core;", Cond.fieldLink RX7 228 "CoreMelter$Reading" "reason" "I", Cond.fieldLink RX7 229 "CoreMelter$Reading" "first" "I", Cond.fieldLink RX7 232 "CoreMelter$Reading" "number" "I", Cond.methodLink RX7 224 yX4_read, Cond.instanceMethod yX4_read, Cond.selects RX4 yX4_read yX4_read, Cond.initialized RX4, Cond.code yX4_read cX4_read 4 none, Cond.fieldLink RX4 10 "CoreMelter$Reading" "core" "LCoreMelter$Core;", Cond.fieldLink RX4 24 "CoreMelter$Reading" "reason" "I", Cond.fieldLink RX4 28 "CoreMelter$Reading" "number" "I", Cond.fieldLink RX4 31 "CoreMelter$Reading" "next" "I", Cond.fieldLink RX4 34 "CoreMelter$Text" "length" "I", Cond.fieldLink RX4 39 "CoreMelter$Reading" "first" "I", Cond.methodLink RX4 20 yX0_copyFrom, Cond.instanceMethod yX0_copyFrom, Cond.selects RX0 yX0_copyFrom yX0_copyFrom, Cond.initialized RX0, Cond.code yX0_copyFrom cX0_copyFrom 2 none, Cond.fieldLink RX0 25 "CoreMelter$Core" "size" "I"]
def wsX7_fault_r2 : List Cond := [Cond.fieldLink RX0 29 "CoreMelter$Core" "height" "I", Cond.fieldLink RX0 9 "CoreMelter$Core" "kinds" "[I", Cond.methodLink RX0 32 arraycopyName, Cond.native arraycopyName, Cond.static arraycopyName, Cond.initialized "java/lang/System", Cond.fieldLink RX0 13 "CoreMelter$Core" "lengths" "[I", Cond.fieldLink RX0 16 "CoreMelter$Core" "densities" "[I", Cond.fieldLink RX0 19 "CoreMelter$Core" "mores" "[I", Cond.fieldLink RX0 22 "CoreMelter$Core" "lowers" "[I", Cond.methodLink RX4 42 yX4_readSegment, Cond.instanceMethod yX4_readSegment, Cond.selects RX4 yX4_readSegment yX4_readSegment, Cond.code yX4_readSegment cX4_readSegment 3 none, Cond.fieldLink RX4 16 "CoreMelter$Reading" "numbers" "[I", Cond.methodLink RX4 46 yX4_readWord, Cond.instanceMethod yX4_readWord, Cond.selects RX4 yX4_readWord yX4_readWord, Cond.code yX4_readWord cX4_readWord 3 (some .int), Cond.methodLink RX4 70 yX5_isSmallLetter, Cond.instanceMethod yX5_isSmallLetter, Cond.selects RX5 yX5_isSmallLetter yX5_isSmallLetter, Cond.initialized RX5, Cond.code yX5_isSmallLetter cX5_isSmallLetter 2 (some .boolean)]
def wsX7_fault_r3 : List Cond := [Cond.methodLink RX5 21 yX5_at, Cond.instanceMethod yX5_at, Cond.selects RX5 yX5_at yX5_at, Cond.code yX5_at cX5_at 2 (some .char), Cond.fieldLink RX5 13 "CoreMelter$Text" "length" "I", Cond.fieldLink RX5 9 "CoreMelter$Text" "characters" "[C", Cond.methodLink RX4 76 yX5_holds, Cond.instanceMethod yX5_holds, Cond.selects RX5 yX5_holds yX5_holds, Cond.code yX5_holds cX5_holds 5 (some .boolean), Cond.methodLink RX5 25 yJ0_length_8abf5, Cond.instanceMethod yJ0_length_8abf5, Cond.selects RJ0 yJ0_length_8abf5 yJ0_length_8abf5, Cond.initialized RJ0, Cond.code yJ0_length_8abf5 cJ0_length_8abf5 1 (some .int), Cond.fieldLink RJ0 9 "java/lang/String" "value" "[B", Cond.methodLink RJ0 335 yJ0_coder_7d493, Cond.instanceMethod yJ0_coder_7d493, Cond.selects RJ0 yJ0_coder_7d493 yJ0_coder_7d493, Cond.code yJ0_coder_7d493 cJ0_coder_7d493 1 (some .byte), Cond.fieldLink RJ0 38 "java/lang/String" "COMPACT_STRINGS" "Z", Cond.fieldLink RJ0 15 "java/lang/String" "coder" "B", Cond.methodLink RX5 30 yJ0_charAt_5068e, Cond.instanceMethod yJ0_charAt_5068e]
def wsX7_fault_r4 : List Cond := [Cond.selects RJ0 yJ0_charAt_5068e yJ0_charAt_5068e, Cond.code yJ0_charAt_5068e cJ0_charAt_5068e 2 (some .char), Cond.methodLink RJ0 492 yJ0_isLatin1_aae02, Cond.instanceMethod yJ0_isLatin1_aae02, Cond.selects RJ0 yJ0_isLatin1_aae02 yJ0_isLatin1_aae02, Cond.code yJ0_isLatin1_aae02 cJ0_isLatin1_aae02 1 (some .boolean), Cond.methodLink RJ0 495 yJ1_charAt_3b067, Cond.static yJ1_charAt_3b067, Cond.initialized RJ1, Cond.code yJ1_charAt_3b067 cJ1_charAt_3b067 2 (some .char), Cond.methodLink RJ1 9 yJ0_checkIndex_df160, Cond.static yJ0_checkIndex_df160, Cond.code yJ0_checkIndex_df160 cJ0_checkIndex_df160 2 none, Cond.fieldLink RJ0 1053 "jdk/internal/util/Preconditions" "SIOOBE_FORMATTER" "Ljava/util/function/BiFunction;", Cond.methodLink RJ0 1059 yJ3_checkIndex_8e157, Cond.static yJ3_checkIndex_8e157, Cond.initialized RJ3, Cond.code yJ3_checkIndex_8e157 cJ3_checkIndex_8e157 3 (some .int), Cond.methodLink RJ0 498 yJ2_charAt_3b067, Cond.static yJ2_charAt_3b067, Cond.initialized RJ2, Cond.code yJ2_charAt_3b067 cJ2_charAt_3b067 2 (some .char), Cond.methodLink RJ2 67 yJ2_checkIndex_2214a, Cond.static yJ2_checkIndex_2214a]
def wsX7_fault_r5 : List Cond := [Cond.code yJ2_checkIndex_2214a cJ2_checkIndex_2214a 2 none, Cond.methodLink RJ2 48 yJ2_length_9d52b, Cond.static yJ2_length_9d52b, Cond.code yJ2_length_9d52b cJ2_length_9d52b 1 (some .int), Cond.methodLink RJ2 414 yJ0_checkIndex_df160, Cond.methodLink RJ2 71 yJ2_getChar_3b067, Cond.static yJ2_getChar_3b067, Cond.code yJ2_getChar_3b067 cJ2_getChar_3b067 2 (some .char), Cond.fieldLink RJ2 44 "java/lang/StringUTF16" "$assertionsDisabled" "Z", Cond.fieldLink RJ2 59 "java/lang/StringUTF16" "HI_BYTE_SHIFT" "I", Cond.fieldLink RJ2 63 "java/lang/StringUTF16" "LO_BYTE_SHIFT" "I", Cond.methodLink RX4 50 yX4_readNumbers, Cond.instanceMethod yX4_readNumbers, Cond.selects RX4 yX4_readNumbers yX4_readNumbers, Cond.code yX4_readNumbers cX4_readNumbers 4 (some .int), Cond.methodLink RX4 84 yJ7_fill_53178, Cond.static yJ7_fill_53178, Cond.initialized RJ7, Cond.code yJ7_fill_53178 cJ7_fill_53178 4 none, Cond.methodLink RX4 62 yX5_at, Cond.methodLink RX4 90 yX5_isDigit, Cond.instanceMethod yX5_isDigit, Cond.selects RX5 yX5_isDigit yX5_isDigit, Cond.code yX5_isDigit cX5_isDigit 2 (some .boolean)]
def wsX7_fault_r6 : List Cond := [Cond.methodLink RX4 93 yX4_readNumber, Cond.instanceMethod yX4_readNumber, Cond.selects RX4 yX4_readNumber yX4_readNumber, Cond.code yX4_readNumber cX4_readNumber 4 (some .int), Cond.methodLink RX4 54 yX0_firstWrong, Cond.static yX0_firstWrong, Cond.code yX0_firstWrong cX0_firstWrong 4 (some .int), Cond.methodLink RX0 38 yX0_leastDensity, Cond.static yX0_leastDensity, Cond.code yX0_leastDensity cX0_leastDensity 1 (some .int), Cond.methodLink RX0 42 yX0_mostDensity, Cond.static yX0_mostDensity, Cond.code yX0_mostDensity cX0_mostDensity 1 (some .int), Cond.methodLink RX0 45 yX0_leastMore, Cond.static yX0_leastMore, Cond.code yX0_leastMore cX0_leastMore 1 (some .int), Cond.methodLink RX0 48 yX0_mostMore, Cond.static yX0_mostMore, Cond.code yX0_mostMore cX0_mostMore 1 (some .int), Cond.methodLink RX4 58 yX0_isFull, Cond.instanceMethod yX0_isFull, Cond.selects RX0 yX0_isFull yX0_isFull, Cond.code yX0_isFull cX0_isFull 1 (some .boolean), Cond.methodLink RX4 66 yX0_put]
def wsX7_fault_r7 : List Cond := [Cond.instanceMethod yX0_put, Cond.selects RX0 yX0_put yX0_put, Cond.code yX0_put cX0_put 5 none, Cond.methodLink RX0 51 yX0_isFull]
def wsX7_fault : List Cond := .code yX7_fault cX7_fault 2 (some .int) :: ((wsX7_fault_r1 ++ (wsX7_fault_r2 ++ (wsX7_fault_r3 ++ (wsX7_fault_r4 ++ (wsX7_fault_r5 ++ (wsX7_fault_r6 ++ wsX7_fault_r7)))))) ++ wsX70 ++ wsX30 ++ wsX40 ++ wsX50 ++ wsX00)
def wsX7_lay_r1 : List Cond := [Cond.fieldLink RX7 36 "CoreMelter" "reading" "LCoreMelter$Reading;", Cond.fieldLink RX7 29 "CoreMelter" "text" "LCoreMelter$Text;", Cond.fieldLink RX7 10 "CoreMelter" "now" "LCoreMelter$Plate;", Cond.fieldLink RX7 46 "CoreMelter$Plate" "core" "LCoreMelter$Core;", Cond.fieldLink RX7 228 "CoreMelter$Reading" "reason" "I", Cond.fieldLink RX7 235 "CoreMelter$Reading" "core" "LCoreMelter$Core;", Cond.fieldLink RX7 62 "CoreMelter$Core" "size" "I", Cond.fieldLink RX7 22 "CoreMelter" "history" "LCoreMelter$History;", Cond.methodLink RX7 224 yX4_read, Cond.instanceMethod yX4_read, Cond.selects RX4 yX4_read yX4_read, Cond.initialized RX4, Cond.code yX4_read cX4_read 4 none, Cond.fieldLink RX4 10 "CoreMelter$Reading" "core" "LCoreMelter$Core;", Cond.fieldLink RX4 24 "CoreMelter$Reading" "reason" "I", Cond.fieldLink RX4 28 "CoreMelter$Reading" "number" "I", Cond.fieldLink RX4 31 "CoreMelter$Reading" "next" "I", Cond.fieldLink RX4 34 "CoreMelter$Text" "length" "I", Cond.fieldLink RX4 39 "CoreMelter$Reading" "first" "I", Cond.methodLink RX4 20 yX0_copyFrom, Cond.instanceMethod yX0_copyFrom, Cond.selects RX0 yX0_copyFrom yX0_copyFrom, Cond.initialized RX0, Cond.code yX0_copyFrom cX0_copyFrom 2 none]
def wsX7_lay_r2 : List Cond := [Cond.fieldLink RX0 25 "CoreMelter$Core" "size" "I", Cond.fieldLink RX0 29 "CoreMelter$Core" "height" "I", Cond.fieldLink RX0 9 "CoreMelter$Core" "kinds" "[I", Cond.methodLink RX0 32 arraycopyName, Cond.native arraycopyName, Cond.static arraycopyName, Cond.initialized "java/lang/System", Cond.fieldLink RX0 13 "CoreMelter$Core" "lengths" "[I", Cond.fieldLink RX0 16 "CoreMelter$Core" "densities" "[I", Cond.fieldLink RX0 19 "CoreMelter$Core" "mores" "[I", Cond.fieldLink RX0 22 "CoreMelter$Core" "lowers" "[I", Cond.methodLink RX4 42 yX4_readSegment, Cond.instanceMethod yX4_readSegment, Cond.selects RX4 yX4_readSegment yX4_readSegment, Cond.code yX4_readSegment cX4_readSegment 3 none, Cond.fieldLink RX4 16 "CoreMelter$Reading" "numbers" "[I", Cond.methodLink RX4 46 yX4_readWord, Cond.instanceMethod yX4_readWord, Cond.selects RX4 yX4_readWord yX4_readWord, Cond.code yX4_readWord cX4_readWord 3 (some .int), Cond.methodLink RX4 70 yX5_isSmallLetter, Cond.instanceMethod yX5_isSmallLetter, Cond.selects RX5 yX5_isSmallLetter yX5_isSmallLetter, Cond.initialized RX5]
def wsX7_lay_r3 : List Cond := [Cond.code yX5_isSmallLetter cX5_isSmallLetter 2 (some .boolean), Cond.methodLink RX5 21 yX5_at, Cond.instanceMethod yX5_at, Cond.selects RX5 yX5_at yX5_at, Cond.code yX5_at cX5_at 2 (some .char), Cond.fieldLink RX5 13 "CoreMelter$Text" "length" "I", Cond.fieldLink RX5 9 "CoreMelter$Text" "characters" "[C", Cond.methodLink RX4 76 yX5_holds, Cond.instanceMethod yX5_holds, Cond.selects RX5 yX5_holds yX5_holds, Cond.code yX5_holds cX5_holds 5 (some .boolean), Cond.methodLink RX5 25 yJ0_length_8abf5, Cond.instanceMethod yJ0_length_8abf5, Cond.selects RJ0 yJ0_length_8abf5 yJ0_length_8abf5, Cond.initialized RJ0, Cond.code yJ0_length_8abf5 cJ0_length_8abf5 1 (some .int), Cond.fieldLink RJ0 9 "java/lang/String" "value" "[B", Cond.methodLink RJ0 335 yJ0_coder_7d493, Cond.instanceMethod yJ0_coder_7d493, Cond.selects RJ0 yJ0_coder_7d493 yJ0_coder_7d493, Cond.code yJ0_coder_7d493 cJ0_coder_7d493 1 (some .byte), Cond.fieldLink RJ0 38 "java/lang/String" "COMPACT_STRINGS" "Z", Cond.fieldLink RJ0 15 "java/lang/String" "coder" "B", Cond.methodLink RX5 30 yJ0_charAt_5068e]
def wsX7_lay_r4 : List Cond := [Cond.instanceMethod yJ0_charAt_5068e, Cond.selects RJ0 yJ0_charAt_5068e yJ0_charAt_5068e, Cond.code yJ0_charAt_5068e cJ0_charAt_5068e 2 (some .char), Cond.methodLink RJ0 492 yJ0_isLatin1_aae02, Cond.instanceMethod yJ0_isLatin1_aae02, Cond.selects RJ0 yJ0_isLatin1_aae02 yJ0_isLatin1_aae02, Cond.code yJ0_isLatin1_aae02 cJ0_isLatin1_aae02 1 (some .boolean), Cond.methodLink RJ0 495 yJ1_charAt_3b067, Cond.static yJ1_charAt_3b067, Cond.initialized RJ1, Cond.code yJ1_charAt_3b067 cJ1_charAt_3b067 2 (some .char), Cond.methodLink RJ1 9 yJ0_checkIndex_df160, Cond.static yJ0_checkIndex_df160, Cond.code yJ0_checkIndex_df160 cJ0_checkIndex_df160 2 none, Cond.fieldLink RJ0 1053 "jdk/internal/util/Preconditions" "SIOOBE_FORMATTER" "Ljava/util/function/BiFunction;", Cond.methodLink RJ0 1059 yJ3_checkIndex_8e157, Cond.static yJ3_checkIndex_8e157, Cond.initialized RJ3, Cond.code yJ3_checkIndex_8e157 cJ3_checkIndex_8e157 3 (some .int), Cond.methodLink RJ0 498 yJ2_charAt_3b067, Cond.static yJ2_charAt_3b067, Cond.initialized RJ2, Cond.code yJ2_charAt_3b067 cJ2_charAt_3b067 2 (some .char), Cond.methodLink RJ2 67 yJ2_checkIndex_2214a]
def wsX7_lay_r5 : List Cond := [Cond.static yJ2_checkIndex_2214a, Cond.code yJ2_checkIndex_2214a cJ2_checkIndex_2214a 2 none, Cond.methodLink RJ2 48 yJ2_length_9d52b, Cond.static yJ2_length_9d52b, Cond.code yJ2_length_9d52b cJ2_length_9d52b 1 (some .int), Cond.methodLink RJ2 414 yJ0_checkIndex_df160, Cond.methodLink RJ2 71 yJ2_getChar_3b067, Cond.static yJ2_getChar_3b067, Cond.code yJ2_getChar_3b067 cJ2_getChar_3b067 2 (some .char), Cond.fieldLink RJ2 44 "java/lang/StringUTF16" "$assertionsDisabled" "Z", Cond.fieldLink RJ2 59 "java/lang/StringUTF16" "HI_BYTE_SHIFT" "I", Cond.fieldLink RJ2 63 "java/lang/StringUTF16" "LO_BYTE_SHIFT" "I", Cond.methodLink RX4 50 yX4_readNumbers, Cond.instanceMethod yX4_readNumbers, Cond.selects RX4 yX4_readNumbers yX4_readNumbers, Cond.code yX4_readNumbers cX4_readNumbers 4 (some .int), Cond.methodLink RX4 84 yJ7_fill_53178, Cond.static yJ7_fill_53178, Cond.initialized RJ7, Cond.code yJ7_fill_53178 cJ7_fill_53178 4 none, Cond.methodLink RX4 62 yX5_at, Cond.methodLink RX4 90 yX5_isDigit, Cond.instanceMethod yX5_isDigit, Cond.selects RX5 yX5_isDigit yX5_isDigit]
def wsX7_lay_r6 : List Cond := [Cond.code yX5_isDigit cX5_isDigit 2 (some .boolean), Cond.methodLink RX4 93 yX4_readNumber, Cond.instanceMethod yX4_readNumber, Cond.selects RX4 yX4_readNumber yX4_readNumber, Cond.code yX4_readNumber cX4_readNumber 4 (some .int), Cond.methodLink RX4 54 yX0_firstWrong, Cond.static yX0_firstWrong, Cond.code yX0_firstWrong cX0_firstWrong 4 (some .int), Cond.methodLink RX0 38 yX0_leastDensity, Cond.static yX0_leastDensity, Cond.code yX0_leastDensity cX0_leastDensity 1 (some .int), Cond.methodLink RX0 42 yX0_mostDensity, Cond.static yX0_mostDensity, Cond.code yX0_mostDensity cX0_mostDensity 1 (some .int), Cond.methodLink RX0 45 yX0_leastMore, Cond.static yX0_leastMore, Cond.code yX0_leastMore cX0_leastMore 1 (some .int), Cond.methodLink RX0 48 yX0_mostMore, Cond.static yX0_mostMore, Cond.code yX0_mostMore cX0_mostMore 1 (some .int), Cond.methodLink RX4 58 yX0_isFull, Cond.instanceMethod yX0_isFull, Cond.selects RX0 yX0_isFull yX0_isFull, Cond.code yX0_isFull cX0_isFull 1 (some .boolean)]
def wsX7_lay_r7 : List Cond := [Cond.methodLink RX4 66 yX0_put, Cond.instanceMethod yX0_put, Cond.selects RX0 yX0_put yX0_put, Cond.code yX0_put cX0_put 5 none, Cond.methodLink RX0 51 yX0_isFull, Cond.methodLink RX7 54 yX1_keep, Cond.instanceMethod yX1_keep, Cond.selects RX1 yX1_keep yX1_keep, Cond.initialized RX1, Cond.code yX1_keep cX1_keep 2 none, Cond.fieldLink RX1 16 "CoreMelter$History" "size" "I", Cond.fieldLink RX1 20 "CoreMelter$History" "oldest" "I", Cond.fieldLink RX1 11 "CoreMelter$History" "states" "[LCoreMelter$Plate;", Cond.methodLink RX1 23 yX3_copyFrom, Cond.instanceMethod yX3_copyFrom, Cond.selects RX3 yX3_copyFrom yX3_copyFrom, Cond.initialized RX3, Cond.code yX3_copyFrom cX3_copyFrom 2 none, Cond.fieldLink RX3 10 "CoreMelter$Plate" "core" "LCoreMelter$Core;", Cond.fieldLink RX3 19 "CoreMelter$Plate" "lines" "LCoreMelter$Lines;", Cond.fieldLink RX3 26 "CoreMelter$Plate" "vials" "LCoreMelter$Vials;", Cond.fieldLink RX3 30 "CoreMelter$Plate" "settings" "[I", Cond.methodLink RX3 40 arraycopyName, Cond.fieldLink RX3 34 "CoreMelter$Plate" "accounts" "[I"]
def wsX7_lay_r8 : List Cond := [Cond.fieldLink RX3 56 "CoreMelter$Plate" "front" "I", Cond.fieldLink RX3 60 "CoreMelter$Plate" "store" "I", Cond.fieldLink RX3 63 "CoreMelter$Plate" "stock" "I", Cond.fieldLink RX3 66 "CoreMelter$Plate" "stockGas" "I", Cond.fieldLink RX3 69 "CoreMelter$Plate" "stockDirt" "I", Cond.fieldLink RX3 72 "CoreMelter$Plate" "told" "I", Cond.fieldLink RX3 75 "CoreMelter$Plate" "waterBelowTold" "I", Cond.fieldLink RX3 78 "CoreMelter$Plate" "ticks" "I", Cond.fieldLink RX3 81 "CoreMelter$Plate" "reason" "I", Cond.fieldLink RX3 84 "CoreMelter$Plate" "stopped" "I", Cond.methodLink RX3 46 yX0_copyFrom, Cond.methodLink RX3 50 yX2_copyFrom, Cond.instanceMethod yX2_copyFrom, Cond.selects RX2 yX2_copyFrom yX2_copyFrom, Cond.initialized RX2, Cond.code yX2_copyFrom cX2_copyFrom 2 none, Cond.fieldLink RX2 9 "CoreMelter$Lines" "stuck" "[I", Cond.methodLink RX2 25 arraycopyName, Cond.fieldLink RX2 13 "CoreMelter$Lines" "dirt" "[I", Cond.fieldLink RX2 16 "CoreMelter$Lines" "gap" "[I", Cond.fieldLink RX2 19 "CoreMelter$Lines" "drawn" "[I", Cond.fieldLink RX2 22 "CoreMelter$Lines" "wasted" "[I", Cond.methodLink RX3 53 yX6_copyFrom, Cond.instanceMethod yX6_copyFrom]
def wsX7_lay_r9 : List Cond := [Cond.selects RX6 yX6_copyFrom yX6_copyFrom, Cond.initialized RX6, Cond.code yX6_copyFrom cX6_copyFrom 2 none, Cond.fieldLink RX6 19 "CoreMelter$Vials" "sealed" "I", Cond.fieldLink RX6 23 "CoreMelter$Vials" "present" "I", Cond.fieldLink RX6 9 "CoreMelter$Vials" "water" "[I", Cond.methodLink RX6 26 arraycopyName, Cond.fieldLink RX6 13 "CoreMelter$Vials" "depth" "[I", Cond.fieldLink RX6 16 "CoreMelter$Vials" "ticks" "[I", Cond.methodLink RX7 236 yX0_copyFrom]
def wsX7_lay : List Cond := .code yX7_lay cX7_lay 2 (some .int) :: ((wsX7_lay_r1 ++ (wsX7_lay_r2 ++ (wsX7_lay_r3 ++ (wsX7_lay_r4 ++ (wsX7_lay_r5 ++ (wsX7_lay_r6 ++ (wsX7_lay_r7 ++ (wsX7_lay_r8 ++ wsX7_lay_r9)))))))) ++ wsX70 ++ wsX30 ++ wsX40 ++ wsX00 ++ wsX50 ++ wsX10 ++ wsX20 ++ wsX60)
def wsX8_init : List Cond := .code yX8_init cX8_init 1 none :: ([.methodLink RX8 1 objectInit, .instanceMethod objectInit, .code objectInit ⟨#[0xb1]⟩ 1 none, .arrayClass .int, .fieldLink RX8 7 "CoreMelterModel" "m" "[I", .fieldLink RX8 13 "CoreMelterModel" "spare" "[I", .fieldLink RX8 16 "CoreMelterModel" "states" "[I", .fieldLink RX8 19 "CoreMelterModel" "text" "[I", .fieldLink RX8 22 "CoreMelterModel" "numbers" "[I"] ++ wsX80)
def wsX8_in : List Cond := .code yX8_in cX8_in 3 (some .boolean) :: ([])
def wsX8_lesser : List Cond := .code yX8_lesser cX8_lesser 2 (some .int) :: ([])
def wsX8_bring : List Cond := .code yX8_bring cX8_bring 5 none :: ([])
def wsX8_record : List Cond := .code yX8_record cX8_record 2 none :: ([.fieldLink RX8 25 "CoreMelterModel" "stateCount" "I", .fieldLink RX8 16 "CoreMelterModel" "states" "[I", .fieldLink RX8 7 "CoreMelterModel" "m" "[I", .methodLink RX8 29 yX8_bring, .static yX8_bring, .initialized RX8, .code yX8_bring cX8_bring 5 none] ++ wsX80)
def wsX8_isSegment : List Cond := .code yX8_isSegment cX8_isSegment 2 (some .boolean) :: ([.fieldLink RX8 7 "CoreMelterModel" "m" "[I", .methodLink RX8 33 yX8_in, .static yX8_in, .initialized RX8, .code yX8_in cX8_in 3 (some .boolean)] ++ wsX80)
def wsX8_of : List Cond := .code yX8_of cX8_of 3 (some .int) :: ([.fieldLink RX8 7 "CoreMelterModel" "m" "[I"] ++ wsX80)
def wsX8_ofLine : List Cond := .code yX8_ofLine cX8_ofLine 3 (some .int) :: ([.fieldLink RX8 7 "CoreMelterModel" "m" "[I"] ++ wsX80)
def wsX8_lower : List Cond := .code yX8_lower cX8_lower 4 (some .int) :: ([.methodLink RX8 37 yX8_of, .instanceMethod yX8_of, .selects RX8 yX8_of yX8_of, .initialized RX8, .code yX8_of cX8_of 3 (some .int), .fieldLink RX8 7 "CoreMelterModel" "m" "[I"] ++ wsX80)
def wsX8_length : List Cond := .code yX8_length cX8_length 1 (some .int) :: ([.fieldLink RX8 7 "CoreMelterModel" "m" "[I", .methodLink RX8 41 yX8_lower, .instanceMethod yX8_lower, .selects RX8 yX8_lower yX8_lower, .initialized RX8, .code yX8_lower cX8_lower 4 (some .int), .methodLink RX8 37 yX8_of, .instanceMethod yX8_of, .selects RX8 yX8_of yX8_of, .code yX8_of cX8_of 3 (some .int)] ++ wsX80)
def wsX8_segmentOf : List Cond := .code yX8_segmentOf cX8_segmentOf 3 (some .int) :: ([.fieldLink RX8 7 "CoreMelterModel" "m" "[I", .methodLink RX8 41 yX8_lower, .instanceMethod yX8_lower, .selects RX8 yX8_lower yX8_lower, .initialized RX8, .code yX8_lower cX8_lower 4 (some .int), .methodLink RX8 37 yX8_of, .instanceMethod yX8_of, .selects RX8 yX8_of yX8_of, .code yX8_of cX8_of 3 (some .int)] ++ wsX80)
def wsX8_isDensity : List Cond := .code yX8_isDensity cX8_isDensity 1 (some .boolean) :: ([.methodLink RX8 33 yX8_in, .static yX8_in, .initialized RX8, .code yX8_in cX8_in 3 (some .boolean)])
def wsX8_isKind : List Cond := .code yX8_isKind cX8_isKind 3 (some .boolean) :: ([.methodLink RX8 45 yX8_isDensity, .static yX8_isDensity, .initialized RX8, .code yX8_isDensity cX8_isDensity 1 (some .boolean), .methodLink RX8 33 yX8_in, .static yX8_in, .code yX8_in cX8_in 3 (some .boolean)])
def wsX8_puts : List Cond := .code yX8_puts cX8_puts 6 none :: ([.fieldLink RX8 7 "CoreMelterModel" "m" "[I"] ++ wsX80)
def wsX8_addSegment : List Cond := .code yX8_addSegment cX8_addSegment 5 (some .int) :: ([.fieldLink RX8 7 "CoreMelterModel" "m" "[I", .methodLink RX8 33 yX8_in, .static yX8_in, .initialized RX8, .code yX8_in cX8_in 3 (some .boolean), .methodLink RX8 49 yX8_isKind, .static yX8_isKind, .code yX8_isKind cX8_isKind 3 (some .boolean), .methodLink RX8 45 yX8_isDensity, .static yX8_isDensity, .code yX8_isDensity cX8_isDensity 1 (some .boolean), .methodLink RX8 52 yX8_record, .instanceMethod yX8_record, .selects RX8 yX8_record yX8_record, .code yX8_record cX8_record 2 none, .fieldLink RX8 25 "CoreMelterModel" "stateCount" "I", .fieldLink RX8 16 "CoreMelterModel" "states" "[I", .methodLink RX8 29 yX8_bring, .static yX8_bring, .code yX8_bring cX8_bring 5 none, .methodLink RX8 55 yX8_puts, .instanceMethod yX8_puts, .selects RX8 yX8_puts yX8_puts, .code yX8_puts cX8_puts 6 none] ++ wsX80)
def wsX8_melted : List Cond := .code yX8_melted cX8_melted 3 (some .int) :: ([.fieldLink RX8 7 "CoreMelterModel" "m" "[I", .methodLink RX8 41 yX8_lower, .instanceMethod yX8_lower, .selects RX8 yX8_lower yX8_lower, .initialized RX8, .code yX8_lower cX8_lower 4 (some .int), .methodLink RX8 37 yX8_of, .instanceMethod yX8_of, .selects RX8 yX8_of yX8_of, .code yX8_of cX8_of 3 (some .int), .methodLink RX8 59 yX8_lesser, .static yX8_lesser, .code yX8_lesser cX8_lesser 2 (some .int)] ++ wsX80)
def wsX8_segment : List Cond := .code yX8_segment cX8_segment 3 (some .int) :: ([.methodLink RX8 62 yX8_isSegment, .instanceMethod yX8_isSegment, .selects RX8 yX8_isSegment yX8_isSegment, .initialized RX8, .code yX8_isSegment cX8_isSegment 2 (some .boolean), .fieldLink RX8 7 "CoreMelterModel" "m" "[I", .methodLink RX8 33 yX8_in, .static yX8_in, .code yX8_in cX8_in 3 (some .boolean), .methodLink RX8 37 yX8_of, .instanceMethod yX8_of, .selects RX8 yX8_of yX8_of, .code yX8_of cX8_of 3 (some .int), .methodLink RX8 41 yX8_lower, .instanceMethod yX8_lower, .selects RX8 yX8_lower yX8_lower, .code yX8_lower cX8_lower 4 (some .int), .methodLink RX8 65 yX8_melted, .instanceMethod yX8_melted, .selects RX8 yX8_melted yX8_melted, .code yX8_melted cX8_melted 3 (some .int), .methodLink RX8 59 yX8_lesser, .static yX8_lesser, .code yX8_lesser cX8_lesser 2 (some .int)] ++ wsX80)
def wsX8_segmentAt : List Cond := .code yX8_segmentAt cX8_segmentAt 2 (some .int) :: ([.methodLink RX8 68 yX8_segmentOf, .instanceMethod yX8_segmentOf, .selects RX8 yX8_segmentOf yX8_segmentOf, .initialized RX8, .code yX8_segmentOf cX8_segmentOf 3 (some .int), .fieldLink RX8 7 "CoreMelterModel" "m" "[I", .methodLink RX8 41 yX8_lower, .instanceMethod yX8_lower, .selects RX8 yX8_lower yX8_lower, .code yX8_lower cX8_lower 4 (some .int), .methodLink RX8 37 yX8_of, .instanceMethod yX8_of, .selects RX8 yX8_of yX8_of, .code yX8_of cX8_of 3 (some .int)] ++ wsX80)
def wsX8_water : List Cond := .code yX8_water cX8_water 5 (some .int) :: ([.fieldLink RX8 7 "CoreMelterModel" "m" "[I", .methodLink RX8 37 yX8_of, .instanceMethod yX8_of, .selects RX8 yX8_of yX8_of, .initialized RX8, .code yX8_of cX8_of 3 (some .int), .methodLink RX8 59 yX8_lesser, .static yX8_lesser, .code yX8_lesser cX8_lesser 2 (some .int)] ++ wsX80)
def wsX8_waterBelow : List Cond := .code yX8_waterBelow cX8_waterBelow 2 (some .int) :: ([.methodLink RX8 71 yX8_length, .instanceMethod yX8_length, .selects RX8 yX8_length yX8_length, .initialized RX8, .code yX8_length cX8_length 1 (some .int), .fieldLink RX8 7 "CoreMelterModel" "m" "[I", .methodLink RX8 41 yX8_lower, .instanceMethod yX8_lower, .selects RX8 yX8_lower yX8_lower, .code yX8_lower cX8_lower 4 (some .int), .methodLink RX8 37 yX8_of, .instanceMethod yX8_of, .selects RX8 yX8_of yX8_of, .code yX8_of cX8_of 3 (some .int), .methodLink RX8 33 yX8_in, .static yX8_in, .code yX8_in cX8_in 3 (some .boolean), .methodLink RX8 75 yX8_water, .instanceMethod yX8_water, .selects RX8 yX8_water yX8_water, .code yX8_water cX8_water 5 (some .int), .methodLink RX8 59 yX8_lesser, .static yX8_lesser, .code yX8_lesser cX8_lesser 2 (some .int)] ++ wsX80)
def wsX8_renew : List Cond := .code yX8_renew cX8_renew 3 (some .int) :: ([.fieldLink RX8 7 "CoreMelterModel" "m" "[I", .methodLink RX8 52 yX8_record, .instanceMethod yX8_record, .selects RX8 yX8_record yX8_record, .initialized RX8, .code yX8_record cX8_record 2 none, .fieldLink RX8 25 "CoreMelterModel" "stateCount" "I", .fieldLink RX8 16 "CoreMelterModel" "states" "[I", .methodLink RX8 29 yX8_bring, .static yX8_bring, .code yX8_bring cX8_bring 5 none] ++ wsX80)
def wsX8_undo : List Cond := .code yX8_undo cX8_undo 1 (some .int) :: ([.fieldLink RX8 25 "CoreMelterModel" "stateCount" "I", .fieldLink RX8 16 "CoreMelterModel" "states" "[I", .fieldLink RX8 7 "CoreMelterModel" "m" "[I", .methodLink RX8 29 yX8_bring, .static yX8_bring, .initialized RX8, .code yX8_bring cX8_bring 5 none] ++ wsX80)
def wsX8_isSetting : List Cond := .code yX8_isSetting cX8_isSetting 2 (some .boolean) :: ([.methodLink RX8 33 yX8_in, .static yX8_in, .initialized RX8, .code yX8_in cX8_in 3 (some .boolean)])
def wsX8_set : List Cond := .code yX8_set cX8_set 4 (some .int) :: ([.fieldLink RX8 7 "CoreMelterModel" "m" "[I", .methodLink RX8 78 yX8_isSetting, .static yX8_isSetting, .initialized RX8, .code yX8_isSetting cX8_isSetting 2 (some .boolean), .methodLink RX8 33 yX8_in, .static yX8_in, .code yX8_in cX8_in 3 (some .boolean), .methodLink RX8 52 yX8_record, .instanceMethod yX8_record, .selects RX8 yX8_record yX8_record, .code yX8_record cX8_record 2 none, .fieldLink RX8 25 "CoreMelterModel" "stateCount" "I", .fieldLink RX8 16 "CoreMelterModel" "states" "[I", .methodLink RX8 29 yX8_bring, .static yX8_bring, .code yX8_bring cX8_bring 5 none] ++ wsX80)
def wsX8_clean : List Cond := .code yX8_clean cX8_clean 4 (some .int) :: ([.fieldLink RX8 7 "CoreMelterModel" "m" "[I", .methodLink RX8 33 yX8_in, .static yX8_in, .initialized RX8, .code yX8_in cX8_in 3 (some .boolean), .methodLink RX8 82 yX8_ofLine, .instanceMethod yX8_ofLine, .selects RX8 yX8_ofLine yX8_ofLine, .code yX8_ofLine cX8_ofLine 3 (some .int), .methodLink RX8 52 yX8_record, .instanceMethod yX8_record, .selects RX8 yX8_record yX8_record, .code yX8_record cX8_record 2 none, .fieldLink RX8 25 "CoreMelterModel" "stateCount" "I", .fieldLink RX8 16 "CoreMelterModel" "states" "[I", .methodLink RX8 29 yX8_bring, .static yX8_bring, .code yX8_bring cX8_bring 5 none] ++ wsX80)
def wsX8_stuck : List Cond := .code yX8_stuck cX8_stuck 3 (some .int) :: ([.methodLink RX8 82 yX8_ofLine, .instanceMethod yX8_ofLine, .selects RX8 yX8_ofLine yX8_ofLine, .initialized RX8, .code yX8_ofLine cX8_ofLine 3 (some .int), .fieldLink RX8 7 "CoreMelterModel" "m" "[I"] ++ wsX80)
def wsX8_reasonNow : List Cond := .code yX8_reasonNow cX8_reasonNow 2 (some .int) :: ([.fieldLink RX8 7 "CoreMelterModel" "m" "[I", .methodLink RX8 85 yX8_stuck, .instanceMethod yX8_stuck, .selects RX8 yX8_stuck yX8_stuck, .initialized RX8, .code yX8_stuck cX8_stuck 3 (some .int), .methodLink RX8 82 yX8_ofLine, .instanceMethod yX8_ofLine, .selects RX8 yX8_ofLine yX8_ofLine, .code yX8_ofLine cX8_ofLine 3 (some .int)] ++ wsX80)
def wsX8_unit : List Cond := .code yX8_unit cX8_unit 5 none :: ([.fieldLink RX8 7 "CoreMelterModel" "m" "[I", .methodLink RX8 37 yX8_of, .instanceMethod yX8_of, .selects RX8 yX8_of yX8_of, .initialized RX8, .code yX8_of cX8_of 3 (some .int)] ++ wsX80)
def wsX8_melts : List Cond := .code yX8_melts cX8_melts 4 none :: ([.fieldLink RX8 7 "CoreMelterModel" "m" "[I", .methodLink RX8 68 yX8_segmentOf, .instanceMethod yX8_segmentOf, .selects RX8 yX8_segmentOf yX8_segmentOf, .initialized RX8, .code yX8_segmentOf cX8_segmentOf 3 (some .int), .methodLink RX8 41 yX8_lower, .instanceMethod yX8_lower, .selects RX8 yX8_lower yX8_lower, .code yX8_lower cX8_lower 4 (some .int), .methodLink RX8 37 yX8_of, .instanceMethod yX8_of, .selects RX8 yX8_of yX8_of, .code yX8_of cX8_of 3 (some .int), .methodLink RX8 88 yX8_unit, .instanceMethod yX8_unit, .selects RX8 yX8_unit yX8_unit, .code yX8_unit cX8_unit 5 none] ++ wsX80)
def wsX8_draws : List Cond := .code yX8_draws cX8_draws 9 none :: ([.fieldLink RX8 7 "CoreMelterModel" "m" "[I", .methodLink RX8 59 yX8_lesser, .static yX8_lesser, .initialized RX8, .code yX8_lesser cX8_lesser 2 (some .int)] ++ wsX80)
def wsX8_told : List Cond := .code yX8_told cX8_told 6 (some .int) :: ([.fieldLink RX8 7 "CoreMelterModel" "m" "[I", .methodLink RX8 37 yX8_of, .instanceMethod yX8_of, .selects RX8 yX8_of yX8_of, .initialized RX8, .code yX8_of cX8_of 3 (some .int), .methodLink RX8 59 yX8_lesser, .static yX8_lesser, .code yX8_lesser cX8_lesser 2 (some .int)] ++ wsX80)
def wsX8_seals : List Cond := .code yX8_seals cX8_seals 2 none :: ([.fieldLink RX8 7 "CoreMelterModel" "m" "[I", .methodLink RX8 92 yX8_told, .instanceMethod yX8_told, .selects RX8 yX8_told yX8_told, .initialized RX8, .code yX8_told cX8_told 6 (some .int), .methodLink RX8 37 yX8_of, .instanceMethod yX8_of, .selects RX8 yX8_of yX8_of, .code yX8_of cX8_of 3 (some .int), .methodLink RX8 59 yX8_lesser, .static yX8_lesser, .code yX8_lesser cX8_lesser 2 (some .int)] ++ wsX80)
def wsX8_tick_r1 : List Cond := [Cond.fieldLink RX8 7 "CoreMelterModel" "m" "[I", Cond.methodLink RX8 71 yX8_length, Cond.instanceMethod yX8_length, Cond.selects RX8 yX8_length yX8_length, Cond.initialized RX8, Cond.code yX8_length cX8_length 1 (some .int), Cond.methodLink RX8 41 yX8_lower, Cond.instanceMethod yX8_lower, Cond.selects RX8 yX8_lower yX8_lower, Cond.code yX8_lower cX8_lower 4 (some .int), Cond.methodLink RX8 37 yX8_of, Cond.instanceMethod yX8_of, Cond.selects RX8 yX8_of yX8_of, Cond.code yX8_of cX8_of 3 (some .int), Cond.methodLink RX8 95 yX8_reasonNow, Cond.instanceMethod yX8_reasonNow, Cond.selects RX8 yX8_reasonNow yX8_reasonNow, Cond.code yX8_reasonNow cX8_reasonNow 2 (some .int), Cond.methodLink RX8 85 yX8_stuck, Cond.instanceMethod yX8_stuck, Cond.selects RX8 yX8_stuck yX8_stuck, Cond.code yX8_stuck cX8_stuck 3 (some .int), Cond.methodLink RX8 82 yX8_ofLine, Cond.instanceMethod yX8_ofLine]
def wsX8_tick_r2 : List Cond := [Cond.selects RX8 yX8_ofLine yX8_ofLine, Cond.code yX8_ofLine cX8_ofLine 3 (some .int), Cond.methodLink RX8 98 yX8_melts, Cond.instanceMethod yX8_melts, Cond.selects RX8 yX8_melts yX8_melts, Cond.code yX8_melts cX8_melts 4 none, Cond.methodLink RX8 68 yX8_segmentOf, Cond.instanceMethod yX8_segmentOf, Cond.selects RX8 yX8_segmentOf yX8_segmentOf, Cond.code yX8_segmentOf cX8_segmentOf 3 (some .int), Cond.methodLink RX8 88 yX8_unit, Cond.instanceMethod yX8_unit, Cond.selects RX8 yX8_unit yX8_unit, Cond.code yX8_unit cX8_unit 5 none, Cond.methodLink RX8 101 yX8_draws, Cond.instanceMethod yX8_draws, Cond.selects RX8 yX8_draws yX8_draws, Cond.code yX8_draws cX8_draws 9 none, Cond.methodLink RX8 59 yX8_lesser, Cond.static yX8_lesser, Cond.code yX8_lesser cX8_lesser 2 (some .int), Cond.methodLink RX8 104 yX8_seals, Cond.instanceMethod yX8_seals, Cond.selects RX8 yX8_seals yX8_seals]
def wsX8_tick_r3 : List Cond := [Cond.code yX8_seals cX8_seals 2 none, Cond.methodLink RX8 92 yX8_told, Cond.instanceMethod yX8_told, Cond.selects RX8 yX8_told yX8_told, Cond.code yX8_told cX8_told 6 (some .int)]
def wsX8_tick : List Cond := .code yX8_tick cX8_tick 3 none :: ((wsX8_tick_r1 ++ (wsX8_tick_r2 ++ wsX8_tick_r3)) ++ wsX80)
def wsX8_goBy_r1 : List Cond := [Cond.methodLink RX8 107 yX8_tick, Cond.instanceMethod yX8_tick, Cond.selects RX8 yX8_tick yX8_tick, Cond.initialized RX8, Cond.code yX8_tick cX8_tick 3 none, Cond.fieldLink RX8 7 "CoreMelterModel" "m" "[I", Cond.methodLink RX8 71 yX8_length, Cond.instanceMethod yX8_length, Cond.selects RX8 yX8_length yX8_length, Cond.code yX8_length cX8_length 1 (some .int), Cond.methodLink RX8 41 yX8_lower, Cond.instanceMethod yX8_lower, Cond.selects RX8 yX8_lower yX8_lower, Cond.code yX8_lower cX8_lower 4 (some .int), Cond.methodLink RX8 37 yX8_of, Cond.instanceMethod yX8_of, Cond.selects RX8 yX8_of yX8_of, Cond.code yX8_of cX8_of 3 (some .int), Cond.methodLink RX8 95 yX8_reasonNow, Cond.instanceMethod yX8_reasonNow, Cond.selects RX8 yX8_reasonNow yX8_reasonNow, Cond.code yX8_reasonNow cX8_reasonNow 2 (some .int), Cond.methodLink RX8 85 yX8_stuck, Cond.instanceMethod yX8_stuck]
def wsX8_goBy_r2 : List Cond := [Cond.selects RX8 yX8_stuck yX8_stuck, Cond.code yX8_stuck cX8_stuck 3 (some .int), Cond.methodLink RX8 82 yX8_ofLine, Cond.instanceMethod yX8_ofLine, Cond.selects RX8 yX8_ofLine yX8_ofLine, Cond.code yX8_ofLine cX8_ofLine 3 (some .int), Cond.methodLink RX8 98 yX8_melts, Cond.instanceMethod yX8_melts, Cond.selects RX8 yX8_melts yX8_melts, Cond.code yX8_melts cX8_melts 4 none, Cond.methodLink RX8 68 yX8_segmentOf, Cond.instanceMethod yX8_segmentOf, Cond.selects RX8 yX8_segmentOf yX8_segmentOf, Cond.code yX8_segmentOf cX8_segmentOf 3 (some .int), Cond.methodLink RX8 88 yX8_unit, Cond.instanceMethod yX8_unit, Cond.selects RX8 yX8_unit yX8_unit, Cond.code yX8_unit cX8_unit 5 none, Cond.methodLink RX8 101 yX8_draws, Cond.instanceMethod yX8_draws, Cond.selects RX8 yX8_draws yX8_draws, Cond.code yX8_draws cX8_draws 9 none, Cond.methodLink RX8 59 yX8_lesser, Cond.static yX8_lesser]
def wsX8_goBy_r3 : List Cond := [Cond.code yX8_lesser cX8_lesser 2 (some .int), Cond.methodLink RX8 104 yX8_seals, Cond.instanceMethod yX8_seals, Cond.selects RX8 yX8_seals yX8_seals, Cond.code yX8_seals cX8_seals 2 none, Cond.methodLink RX8 92 yX8_told, Cond.instanceMethod yX8_told, Cond.selects RX8 yX8_told yX8_told, Cond.code yX8_told cX8_told 6 (some .int)]
def wsX8_goBy : List Cond := .code yX8_goBy cX8_goBy 3 none :: ((wsX8_goBy_r1 ++ (wsX8_goBy_r2 ++ wsX8_goBy_r3)) ++ wsX80)
def wsX8_run_r1 : List Cond := [Cond.fieldLink RX8 7 "CoreMelterModel" "m" "[I", Cond.methodLink RX8 33 yX8_in, Cond.static yX8_in, Cond.initialized RX8, Cond.code yX8_in cX8_in 3 (some .boolean), Cond.methodLink RX8 52 yX8_record, Cond.instanceMethod yX8_record, Cond.selects RX8 yX8_record yX8_record, Cond.code yX8_record cX8_record 2 none, Cond.fieldLink RX8 25 "CoreMelterModel" "stateCount" "I", Cond.fieldLink RX8 16 "CoreMelterModel" "states" "[I", Cond.methodLink RX8 29 yX8_bring, Cond.static yX8_bring, Cond.code yX8_bring cX8_bring 5 none, Cond.methodLink RX8 110 yX8_goBy, Cond.instanceMethod yX8_goBy, Cond.selects RX8 yX8_goBy yX8_goBy, Cond.code yX8_goBy cX8_goBy 3 none, Cond.methodLink RX8 107 yX8_tick, Cond.instanceMethod yX8_tick, Cond.selects RX8 yX8_tick yX8_tick, Cond.code yX8_tick cX8_tick 3 none, Cond.methodLink RX8 71 yX8_length, Cond.instanceMethod yX8_length]
def wsX8_run_r2 : List Cond := [Cond.selects RX8 yX8_length yX8_length, Cond.code yX8_length cX8_length 1 (some .int), Cond.methodLink RX8 41 yX8_lower, Cond.instanceMethod yX8_lower, Cond.selects RX8 yX8_lower yX8_lower, Cond.code yX8_lower cX8_lower 4 (some .int), Cond.methodLink RX8 37 yX8_of, Cond.instanceMethod yX8_of, Cond.selects RX8 yX8_of yX8_of, Cond.code yX8_of cX8_of 3 (some .int), Cond.methodLink RX8 95 yX8_reasonNow, Cond.instanceMethod yX8_reasonNow, Cond.selects RX8 yX8_reasonNow yX8_reasonNow, Cond.code yX8_reasonNow cX8_reasonNow 2 (some .int), Cond.methodLink RX8 85 yX8_stuck, Cond.instanceMethod yX8_stuck, Cond.selects RX8 yX8_stuck yX8_stuck, Cond.code yX8_stuck cX8_stuck 3 (some .int), Cond.methodLink RX8 82 yX8_ofLine, Cond.instanceMethod yX8_ofLine, Cond.selects RX8 yX8_ofLine yX8_ofLine, Cond.code yX8_ofLine cX8_ofLine 3 (some .int), Cond.methodLink RX8 98 yX8_melts, Cond.instanceMethod yX8_melts]
def wsX8_run_r3 : List Cond := [Cond.selects RX8 yX8_melts yX8_melts, Cond.code yX8_melts cX8_melts 4 none, Cond.methodLink RX8 68 yX8_segmentOf, Cond.instanceMethod yX8_segmentOf, Cond.selects RX8 yX8_segmentOf yX8_segmentOf, Cond.code yX8_segmentOf cX8_segmentOf 3 (some .int), Cond.methodLink RX8 88 yX8_unit, Cond.instanceMethod yX8_unit, Cond.selects RX8 yX8_unit yX8_unit, Cond.code yX8_unit cX8_unit 5 none, Cond.methodLink RX8 101 yX8_draws, Cond.instanceMethod yX8_draws, Cond.selects RX8 yX8_draws yX8_draws, Cond.code yX8_draws cX8_draws 9 none, Cond.methodLink RX8 59 yX8_lesser, Cond.static yX8_lesser, Cond.code yX8_lesser cX8_lesser 2 (some .int), Cond.methodLink RX8 104 yX8_seals, Cond.instanceMethod yX8_seals, Cond.selects RX8 yX8_seals yX8_seals, Cond.code yX8_seals cX8_seals 2 none, Cond.methodLink RX8 92 yX8_told, Cond.instanceMethod yX8_told, Cond.selects RX8 yX8_told yX8_told]
def wsX8_run_r4 : List Cond := [Cond.code yX8_told cX8_told 6 (some .int)]
def wsX8_run : List Cond := .code yX8_run cX8_run 2 (some .int) :: ((wsX8_run_r1 ++ (wsX8_run_r2 ++ (wsX8_run_r3 ++ wsX8_run_r4))) ++ wsX80)
def wsX8_count_r1 : List Cond := [Cond.fieldLink RX8 7 "CoreMelterModel" "m" "[I", Cond.fieldLink RX8 25 "CoreMelterModel" "stateCount" "I", Cond.fieldLink RX8 113 "CoreMelterModel" "textLength" "I", Cond.methodLink RX8 71 yX8_length, Cond.instanceMethod yX8_length, Cond.selects RX8 yX8_length yX8_length, Cond.initialized RX8, Cond.code yX8_length cX8_length 1 (some .int), Cond.methodLink RX8 41 yX8_lower, Cond.instanceMethod yX8_lower, Cond.selects RX8 yX8_lower yX8_lower, Cond.code yX8_lower cX8_lower 4 (some .int), Cond.methodLink RX8 37 yX8_of, Cond.instanceMethod yX8_of, Cond.selects RX8 yX8_of yX8_of, Cond.code yX8_of cX8_of 3 (some .int), Cond.methodLink RX8 92 yX8_told, Cond.instanceMethod yX8_told, Cond.selects RX8 yX8_told yX8_told, Cond.code yX8_told cX8_told 6 (some .int), Cond.methodLink RX8 59 yX8_lesser, Cond.static yX8_lesser, Cond.code yX8_lesser cX8_lesser 2 (some .int), Cond.methodLink RX8 85 yX8_stuck]
def wsX8_count_r2 : List Cond := [Cond.instanceMethod yX8_stuck, Cond.selects RX8 yX8_stuck yX8_stuck, Cond.code yX8_stuck cX8_stuck 3 (some .int), Cond.methodLink RX8 82 yX8_ofLine, Cond.instanceMethod yX8_ofLine, Cond.selects RX8 yX8_ofLine yX8_ofLine, Cond.code yX8_ofLine cX8_ofLine 3 (some .int), Cond.methodLink RX8 33 yX8_in, Cond.static yX8_in, Cond.code yX8_in cX8_in 3 (some .boolean)]
def wsX8_count : List Cond := .code yX8_count cX8_count 2 (some .int) :: ((wsX8_count_r1 ++ wsX8_count_r2) ++ wsX80)
def wsX8_account : List Cond := .code yX8_account cX8_account 2 (some .int) :: ([.fieldLink RX8 7 "CoreMelterModel" "m" "[I", .methodLink RX8 33 yX8_in, .static yX8_in, .initialized RX8, .code yX8_in cX8_in 3 (some .boolean)] ++ wsX80)
def wsX8_line : List Cond := .code yX8_line cX8_line 3 (some .int) :: ([.methodLink RX8 33 yX8_in, .static yX8_in, .initialized RX8, .code yX8_in cX8_in 3 (some .boolean), .methodLink RX8 82 yX8_ofLine, .instanceMethod yX8_ofLine, .selects RX8 yX8_ofLine yX8_ofLine, .code yX8_ofLine cX8_ofLine 3 (some .int), .fieldLink RX8 7 "CoreMelterModel" "m" "[I"] ++ wsX80)
def wsX8_again : List Cond := .code yX8_again cX8_again 3 (some .int) :: ([.fieldLink RX8 7 "CoreMelterModel" "m" "[I", .methodLink RX8 75 yX8_water, .instanceMethod yX8_water, .selects RX8 yX8_water yX8_water, .initialized RX8, .code yX8_water cX8_water 5 (some .int), .methodLink RX8 37 yX8_of, .instanceMethod yX8_of, .selects RX8 yX8_of yX8_of, .code yX8_of cX8_of 3 (some .int), .methodLink RX8 59 yX8_lesser, .static yX8_lesser, .code yX8_lesser cX8_lesser 2 (some .int)] ++ wsX80)
def wsX8_isVial : List Cond := .code yX8_isVial cX8_isVial 2 (some .boolean) :: ([.fieldLink RX8 7 "CoreMelterModel" "m" "[I", .methodLink RX8 33 yX8_in, .static yX8_in, .initialized RX8, .code yX8_in cX8_in 3 (some .boolean)] ++ wsX80)
def wsX8_vial : List Cond := .code yX8_vial cX8_vial 3 (some .int) :: ([.fieldLink RX8 7 "CoreMelterModel" "m" "[I", .methodLink RX8 116 yX8_isVial, .instanceMethod yX8_isVial, .selects RX8 yX8_isVial yX8_isVial, .initialized RX8, .code yX8_isVial cX8_isVial 2 (some .boolean), .methodLink RX8 33 yX8_in, .static yX8_in, .code yX8_in cX8_in 3 (some .boolean)] ++ wsX80)
def wsX8_vialAt : List Cond := .code yX8_vialAt cX8_vialAt 3 (some .int) :: ([.fieldLink RX8 7 "CoreMelterModel" "m" "[I"] ++ wsX80)
def wsX8_differs : List Cond := .code yX8_differs cX8_differs 2 (some .int) :: ([.fieldLink RX8 7 "CoreMelterModel" "m" "[I", .fieldLink RX8 13 "CoreMelterModel" "spare" "[I", .methodLink RX8 92 yX8_told, .instanceMethod yX8_told, .selects RX8 yX8_told yX8_told, .initialized RX8, .code yX8_told cX8_told 6 (some .int), .methodLink RX8 37 yX8_of, .instanceMethod yX8_of, .selects RX8 yX8_of yX8_of, .code yX8_of cX8_of 3 (some .int), .methodLink RX8 59 yX8_lesser, .static yX8_lesser, .code yX8_lesser cX8_lesser 2 (some .int), .methodLink RX8 85 yX8_stuck, .instanceMethod yX8_stuck, .selects RX8 yX8_stuck yX8_stuck, .code yX8_stuck cX8_stuck 3 (some .int), .methodLink RX8 82 yX8_ofLine, .instanceMethod yX8_ofLine, .selects RX8 yX8_ofLine yX8_ofLine, .code yX8_ofLine cX8_ofLine 3 (some .int)] ++ wsX80)
def wsX8_ifRun_r1 : List Cond := [Cond.fieldLink RX8 7 "CoreMelterModel" "m" "[I", Cond.fieldLink RX8 13 "CoreMelterModel" "spare" "[I", Cond.methodLink RX8 33 yX8_in, Cond.static yX8_in, Cond.initialized RX8, Cond.code yX8_in cX8_in 3 (some .boolean), Cond.methodLink RX8 29 yX8_bring, Cond.static yX8_bring, Cond.code yX8_bring cX8_bring 5 none, Cond.methodLink RX8 110 yX8_goBy, Cond.instanceMethod yX8_goBy, Cond.selects RX8 yX8_goBy yX8_goBy, Cond.code yX8_goBy cX8_goBy 3 none, Cond.methodLink RX8 107 yX8_tick, Cond.instanceMethod yX8_tick, Cond.selects RX8 yX8_tick yX8_tick, Cond.code yX8_tick cX8_tick 3 none, Cond.methodLink RX8 71 yX8_length, Cond.instanceMethod yX8_length, Cond.selects RX8 yX8_length yX8_length, Cond.code yX8_length cX8_length 1 (some .int), Cond.methodLink RX8 41 yX8_lower, Cond.instanceMethod yX8_lower, Cond.selects RX8 yX8_lower yX8_lower]
def wsX8_ifRun_r2 : List Cond := [Cond.code yX8_lower cX8_lower 4 (some .int), Cond.methodLink RX8 37 yX8_of, Cond.instanceMethod yX8_of, Cond.selects RX8 yX8_of yX8_of, Cond.code yX8_of cX8_of 3 (some .int), Cond.methodLink RX8 95 yX8_reasonNow, Cond.instanceMethod yX8_reasonNow, Cond.selects RX8 yX8_reasonNow yX8_reasonNow, Cond.code yX8_reasonNow cX8_reasonNow 2 (some .int), Cond.methodLink RX8 85 yX8_stuck, Cond.instanceMethod yX8_stuck, Cond.selects RX8 yX8_stuck yX8_stuck, Cond.code yX8_stuck cX8_stuck 3 (some .int), Cond.methodLink RX8 82 yX8_ofLine, Cond.instanceMethod yX8_ofLine, Cond.selects RX8 yX8_ofLine yX8_ofLine, Cond.code yX8_ofLine cX8_ofLine 3 (some .int), Cond.methodLink RX8 98 yX8_melts, Cond.instanceMethod yX8_melts, Cond.selects RX8 yX8_melts yX8_melts, Cond.code yX8_melts cX8_melts 4 none, Cond.methodLink RX8 68 yX8_segmentOf, Cond.instanceMethod yX8_segmentOf, Cond.selects RX8 yX8_segmentOf yX8_segmentOf]
def wsX8_ifRun_r3 : List Cond := [Cond.code yX8_segmentOf cX8_segmentOf 3 (some .int), Cond.methodLink RX8 88 yX8_unit, Cond.instanceMethod yX8_unit, Cond.selects RX8 yX8_unit yX8_unit, Cond.code yX8_unit cX8_unit 5 none, Cond.methodLink RX8 101 yX8_draws, Cond.instanceMethod yX8_draws, Cond.selects RX8 yX8_draws yX8_draws, Cond.code yX8_draws cX8_draws 9 none, Cond.methodLink RX8 59 yX8_lesser, Cond.static yX8_lesser, Cond.code yX8_lesser cX8_lesser 2 (some .int), Cond.methodLink RX8 104 yX8_seals, Cond.instanceMethod yX8_seals, Cond.selects RX8 yX8_seals yX8_seals, Cond.code yX8_seals cX8_seals 2 none, Cond.methodLink RX8 92 yX8_told, Cond.instanceMethod yX8_told, Cond.selects RX8 yX8_told yX8_told, Cond.code yX8_told cX8_told 6 (some .int), Cond.methodLink RX8 119 yX8_differs, Cond.instanceMethod yX8_differs, Cond.selects RX8 yX8_differs yX8_differs, Cond.code yX8_differs cX8_differs 2 (some .int)]
def wsX8_ifRun : List Cond := .code yX8_ifRun cX8_ifRun 4 (some .int) :: ((wsX8_ifRun_r1 ++ (wsX8_ifRun_r2 ++ wsX8_ifRun_r3)) ++ wsX80)
def wsX8_ticksTo_r1 : List Cond := [Cond.fieldLink RX8 7 "CoreMelterModel" "m" "[I", Cond.fieldLink RX8 13 "CoreMelterModel" "spare" "[I", Cond.methodLink RX8 29 yX8_bring, Cond.static yX8_bring, Cond.initialized RX8, Cond.code yX8_bring cX8_bring 5 none, Cond.methodLink RX8 92 yX8_told, Cond.instanceMethod yX8_told, Cond.selects RX8 yX8_told yX8_told, Cond.code yX8_told cX8_told 6 (some .int), Cond.methodLink RX8 37 yX8_of, Cond.instanceMethod yX8_of, Cond.selects RX8 yX8_of yX8_of, Cond.code yX8_of cX8_of 3 (some .int), Cond.methodLink RX8 59 yX8_lesser, Cond.static yX8_lesser, Cond.code yX8_lesser cX8_lesser 2 (some .int), Cond.methodLink RX8 107 yX8_tick, Cond.instanceMethod yX8_tick, Cond.selects RX8 yX8_tick yX8_tick, Cond.code yX8_tick cX8_tick 3 none, Cond.methodLink RX8 71 yX8_length, Cond.instanceMethod yX8_length, Cond.selects RX8 yX8_length yX8_length]
def wsX8_ticksTo_r2 : List Cond := [Cond.code yX8_length cX8_length 1 (some .int), Cond.methodLink RX8 41 yX8_lower, Cond.instanceMethod yX8_lower, Cond.selects RX8 yX8_lower yX8_lower, Cond.code yX8_lower cX8_lower 4 (some .int), Cond.methodLink RX8 95 yX8_reasonNow, Cond.instanceMethod yX8_reasonNow, Cond.selects RX8 yX8_reasonNow yX8_reasonNow, Cond.code yX8_reasonNow cX8_reasonNow 2 (some .int), Cond.methodLink RX8 85 yX8_stuck, Cond.instanceMethod yX8_stuck, Cond.selects RX8 yX8_stuck yX8_stuck, Cond.code yX8_stuck cX8_stuck 3 (some .int), Cond.methodLink RX8 82 yX8_ofLine, Cond.instanceMethod yX8_ofLine, Cond.selects RX8 yX8_ofLine yX8_ofLine, Cond.code yX8_ofLine cX8_ofLine 3 (some .int), Cond.methodLink RX8 98 yX8_melts, Cond.instanceMethod yX8_melts, Cond.selects RX8 yX8_melts yX8_melts, Cond.code yX8_melts cX8_melts 4 none, Cond.methodLink RX8 68 yX8_segmentOf, Cond.instanceMethod yX8_segmentOf, Cond.selects RX8 yX8_segmentOf yX8_segmentOf]
def wsX8_ticksTo_r3 : List Cond := [Cond.code yX8_segmentOf cX8_segmentOf 3 (some .int), Cond.methodLink RX8 88 yX8_unit, Cond.instanceMethod yX8_unit, Cond.selects RX8 yX8_unit yX8_unit, Cond.code yX8_unit cX8_unit 5 none, Cond.methodLink RX8 101 yX8_draws, Cond.instanceMethod yX8_draws, Cond.selects RX8 yX8_draws yX8_draws, Cond.code yX8_draws cX8_draws 9 none, Cond.methodLink RX8 104 yX8_seals, Cond.instanceMethod yX8_seals, Cond.selects RX8 yX8_seals yX8_seals, Cond.code yX8_seals cX8_seals 2 none]
def wsX8_ticksTo : List Cond := .code yX8_ticksTo cX8_ticksTo 4 (some .int) :: ((wsX8_ticksTo_r1 ++ (wsX8_ticksTo_r2 ++ wsX8_ticksTo_r3)) ++ wsX80)
def wsX8_flowFor_r1 : List Cond := [Cond.fieldLink RX8 7 "CoreMelterModel" "m" "[I", Cond.fieldLink RX8 13 "CoreMelterModel" "spare" "[I", Cond.methodLink RX8 33 yX8_in, Cond.static yX8_in, Cond.initialized RX8, Cond.code yX8_in cX8_in 3 (some .boolean), Cond.methodLink RX8 29 yX8_bring, Cond.static yX8_bring, Cond.code yX8_bring cX8_bring 5 none, Cond.methodLink RX8 110 yX8_goBy, Cond.instanceMethod yX8_goBy, Cond.selects RX8 yX8_goBy yX8_goBy, Cond.code yX8_goBy cX8_goBy 3 none, Cond.methodLink RX8 107 yX8_tick, Cond.instanceMethod yX8_tick, Cond.selects RX8 yX8_tick yX8_tick, Cond.code yX8_tick cX8_tick 3 none, Cond.methodLink RX8 71 yX8_length, Cond.instanceMethod yX8_length, Cond.selects RX8 yX8_length yX8_length, Cond.code yX8_length cX8_length 1 (some .int), Cond.methodLink RX8 41 yX8_lower, Cond.instanceMethod yX8_lower, Cond.selects RX8 yX8_lower yX8_lower]
def wsX8_flowFor_r2 : List Cond := [Cond.code yX8_lower cX8_lower 4 (some .int), Cond.methodLink RX8 37 yX8_of, Cond.instanceMethod yX8_of, Cond.selects RX8 yX8_of yX8_of, Cond.code yX8_of cX8_of 3 (some .int), Cond.methodLink RX8 95 yX8_reasonNow, Cond.instanceMethod yX8_reasonNow, Cond.selects RX8 yX8_reasonNow yX8_reasonNow, Cond.code yX8_reasonNow cX8_reasonNow 2 (some .int), Cond.methodLink RX8 85 yX8_stuck, Cond.instanceMethod yX8_stuck, Cond.selects RX8 yX8_stuck yX8_stuck, Cond.code yX8_stuck cX8_stuck 3 (some .int), Cond.methodLink RX8 82 yX8_ofLine, Cond.instanceMethod yX8_ofLine, Cond.selects RX8 yX8_ofLine yX8_ofLine, Cond.code yX8_ofLine cX8_ofLine 3 (some .int), Cond.methodLink RX8 98 yX8_melts, Cond.instanceMethod yX8_melts, Cond.selects RX8 yX8_melts yX8_melts, Cond.code yX8_melts cX8_melts 4 none, Cond.methodLink RX8 68 yX8_segmentOf, Cond.instanceMethod yX8_segmentOf, Cond.selects RX8 yX8_segmentOf yX8_segmentOf]
def wsX8_flowFor_r3 : List Cond := [Cond.code yX8_segmentOf cX8_segmentOf 3 (some .int), Cond.methodLink RX8 88 yX8_unit, Cond.instanceMethod yX8_unit, Cond.selects RX8 yX8_unit yX8_unit, Cond.code yX8_unit cX8_unit 5 none, Cond.methodLink RX8 101 yX8_draws, Cond.instanceMethod yX8_draws, Cond.selects RX8 yX8_draws yX8_draws, Cond.code yX8_draws cX8_draws 9 none, Cond.methodLink RX8 59 yX8_lesser, Cond.static yX8_lesser, Cond.code yX8_lesser cX8_lesser 2 (some .int), Cond.methodLink RX8 104 yX8_seals, Cond.instanceMethod yX8_seals, Cond.selects RX8 yX8_seals yX8_seals, Cond.code yX8_seals cX8_seals 2 none, Cond.methodLink RX8 92 yX8_told, Cond.instanceMethod yX8_told, Cond.selects RX8 yX8_told yX8_told, Cond.code yX8_told cX8_told 6 (some .int)]
def wsX8_flowFor : List Cond := .code yX8_flowFor cX8_flowFor 6 (some .int) :: ((wsX8_flowFor_r1 ++ (wsX8_flowFor_r2 ++ wsX8_flowFor_r3)) ++ wsX80)
def wsX8_type : List Cond := .code yX8_type cX8_type 2 (some .int) :: ([.fieldLink RX8 113 "CoreMelterModel" "textLength" "I", .fieldLink RX8 19 "CoreMelterModel" "text" "[I", .methodLink RX8 33 yX8_in, .static yX8_in, .initialized RX8, .code yX8_in cX8_in 3 (some .boolean)] ++ wsX80)
def wsX8_clearText : List Cond := .code yX8_clearText cX8_clearText 2 (some .int) :: ([.fieldLink RX8 113 "CoreMelterModel" "textLength" "I"] ++ wsX80)
def wsX8_here : List Cond := .code yX8_here cX8_here 1 (some .int) :: ([.fieldLink RX8 122 "CoreMelterModel" "at" "I", .fieldLink RX8 113 "CoreMelterModel" "textLength" "I", .fieldLink RX8 19 "CoreMelterModel" "text" "[I"] ++ wsX80)
def wsX8_readKind : List Cond := .code yX8_readKind cX8_readKind 3 (some .int) :: ([.constantLong RX8 128 (100000000), .constantLong RX8 130 (27), .constantLong RX8 132 (96), .fieldLink RX8 122 "CoreMelterModel" "at" "I", .constantLong RX8 134 (6647), .constantLong RX8 136 (1949438), .constantLong RX8 138 (94574), .methodLink RX8 125 yX8_here, .instanceMethod yX8_here, .selects RX8 yX8_here yX8_here, .initialized RX8, .code yX8_here cX8_here 1 (some .int), .fieldLink RX8 113 "CoreMelterModel" "textLength" "I", .fieldLink RX8 19 "CoreMelterModel" "text" "[I", .methodLink RX8 33 yX8_in, .static yX8_in, .code yX8_in cX8_in 3 (some .boolean)] ++ wsX80)
def wsX8_readNumber : List Cond := .code yX8_readNumber cX8_readNumber 4 (some .boolean) :: ([.fieldLink RX8 122 "CoreMelterModel" "at" "I", .fieldLink RX8 22 "CoreMelterModel" "numbers" "[I", .methodLink RX8 125 yX8_here, .instanceMethod yX8_here, .selects RX8 yX8_here yX8_here, .initialized RX8, .code yX8_here cX8_here 1 (some .int), .fieldLink RX8 113 "CoreMelterModel" "textLength" "I", .fieldLink RX8 19 "CoreMelterModel" "text" "[I", .methodLink RX8 33 yX8_in, .static yX8_in, .code yX8_in cX8_in 3 (some .boolean)] ++ wsX80)
def wsX8_isRanged : List Cond := .code yX8_isRanged cX8_isRanged 3 (some .boolean) :: ([.methodLink RX8 33 yX8_in, .static yX8_in, .initialized RX8, .code yX8_in cX8_in 3 (some .boolean), .methodLink RX8 45 yX8_isDensity, .static yX8_isDensity, .code yX8_isDensity cX8_isDensity 1 (some .boolean)])
def wsX8_fails : List Cond := .code yX8_fails cX8_fails 3 (some .int) :: ([.fieldLink RX8 140 "CoreMelterModel" "faultReason" "I", .fieldLink RX8 143 "CoreMelterModel" "faultNumber" "I"] ++ wsX80)
def wsX8_readSegment_r1 : List Cond := [Cond.fieldLink RX8 122 "CoreMelterModel" "at" "I", Cond.fieldLink RX8 146 "CoreMelterModel" "faultAt" "I", Cond.fieldLink RX8 22 "CoreMelterModel" "numbers" "[I", Cond.methodLink RX8 149 yX8_readKind, Cond.instanceMethod yX8_readKind, Cond.selects RX8 yX8_readKind yX8_readKind, Cond.initialized RX8, Cond.code yX8_readKind cX8_readKind 3 (some .int), Cond.constantLong RX8 128 (100000000), Cond.constantLong RX8 130 (27), Cond.constantLong RX8 132 (96), Cond.constantLong RX8 134 (6647), Cond.constantLong RX8 136 (1949438), Cond.constantLong RX8 138 (94574), Cond.methodLink RX8 125 yX8_here, Cond.instanceMethod yX8_here, Cond.selects RX8 yX8_here yX8_here, Cond.code yX8_here cX8_here 1 (some .int), Cond.fieldLink RX8 113 "CoreMelterModel" "textLength" "I", Cond.fieldLink RX8 19 "CoreMelterModel" "text" "[I", Cond.methodLink RX8 33 yX8_in, Cond.static yX8_in, Cond.code yX8_in cX8_in 3 (some .boolean), Cond.methodLink RX8 152 yX8_fails]
def wsX8_readSegment_r2 : List Cond := [Cond.instanceMethod yX8_fails, Cond.selects RX8 yX8_fails yX8_fails, Cond.code yX8_fails cX8_fails 3 (some .int), Cond.fieldLink RX8 140 "CoreMelterModel" "faultReason" "I", Cond.fieldLink RX8 143 "CoreMelterModel" "faultNumber" "I", Cond.methodLink RX8 155 yX8_readNumber, Cond.instanceMethod yX8_readNumber, Cond.selects RX8 yX8_readNumber yX8_readNumber, Cond.code yX8_readNumber cX8_readNumber 4 (some .boolean), Cond.methodLink RX8 158 yX8_isRanged, Cond.static yX8_isRanged, Cond.code yX8_isRanged cX8_isRanged 3 (some .boolean), Cond.methodLink RX8 45 yX8_isDensity, Cond.static yX8_isDensity, Cond.code yX8_isDensity cX8_isDensity 1 (some .boolean)]
def wsX8_readSegment : List Cond := .code yX8_readSegment cX8_readSegment 5 (some .int) :: ((wsX8_readSegment_r1 ++ wsX8_readSegment_r2) ++ wsX80)
def wsX8_reads_r1 : List Cond := [Cond.fieldLink RX8 122 "CoreMelterModel" "at" "I", Cond.fieldLink RX8 113 "CoreMelterModel" "textLength" "I", Cond.fieldLink RX8 7 "CoreMelterModel" "m" "[I", Cond.methodLink RX8 161 yX8_readSegment, Cond.instanceMethod yX8_readSegment, Cond.selects RX8 yX8_readSegment yX8_readSegment, Cond.initialized RX8, Cond.code yX8_readSegment cX8_readSegment 5 (some .int), Cond.fieldLink RX8 146 "CoreMelterModel" "faultAt" "I", Cond.fieldLink RX8 22 "CoreMelterModel" "numbers" "[I", Cond.methodLink RX8 149 yX8_readKind, Cond.instanceMethod yX8_readKind, Cond.selects RX8 yX8_readKind yX8_readKind, Cond.code yX8_readKind cX8_readKind 3 (some .int), Cond.constantLong RX8 128 (100000000), Cond.constantLong RX8 130 (27), Cond.constantLong RX8 132 (96), Cond.constantLong RX8 134 (6647), Cond.constantLong RX8 136 (1949438), Cond.constantLong RX8 138 (94574), Cond.methodLink RX8 125 yX8_here, Cond.instanceMethod yX8_here, Cond.selects RX8 yX8_here yX8_here, Cond.code yX8_here cX8_here 1 (some .int)]
def wsX8_reads_r2 : List Cond := [Cond.fieldLink RX8 19 "CoreMelterModel" "text" "[I", Cond.methodLink RX8 33 yX8_in, Cond.static yX8_in, Cond.code yX8_in cX8_in 3 (some .boolean), Cond.methodLink RX8 152 yX8_fails, Cond.instanceMethod yX8_fails, Cond.selects RX8 yX8_fails yX8_fails, Cond.code yX8_fails cX8_fails 3 (some .int), Cond.fieldLink RX8 140 "CoreMelterModel" "faultReason" "I", Cond.fieldLink RX8 143 "CoreMelterModel" "faultNumber" "I", Cond.methodLink RX8 155 yX8_readNumber, Cond.instanceMethod yX8_readNumber, Cond.selects RX8 yX8_readNumber yX8_readNumber, Cond.code yX8_readNumber cX8_readNumber 4 (some .boolean), Cond.methodLink RX8 158 yX8_isRanged, Cond.static yX8_isRanged, Cond.code yX8_isRanged cX8_isRanged 3 (some .boolean), Cond.methodLink RX8 45 yX8_isDensity, Cond.static yX8_isDensity, Cond.code yX8_isDensity cX8_isDensity 1 (some .boolean)]
def wsX8_reads : List Cond := .code yX8_reads cX8_reads 3 (some .int) :: ((wsX8_reads_r1 ++ wsX8_reads_r2) ++ wsX80)
def wsX8_fault_r1 : List Cond := [Cond.fieldLink RX8 146 "CoreMelterModel" "faultAt" "I", Cond.fieldLink RX8 140 "CoreMelterModel" "faultReason" "I", Cond.fieldLink RX8 143 "CoreMelterModel" "faultNumber" "I", Cond.methodLink RX8 33 yX8_in, Cond.static yX8_in, Cond.initialized RX8, Cond.code yX8_in cX8_in 3 (some .boolean), Cond.methodLink RX8 164 yX8_reads, Cond.instanceMethod yX8_reads, Cond.selects RX8 yX8_reads yX8_reads, Cond.code yX8_reads cX8_reads 3 (some .int), Cond.fieldLink RX8 122 "CoreMelterModel" "at" "I", Cond.fieldLink RX8 113 "CoreMelterModel" "textLength" "I", Cond.fieldLink RX8 7 "CoreMelterModel" "m" "[I", Cond.methodLink RX8 161 yX8_readSegment, Cond.instanceMethod yX8_readSegment, Cond.selects RX8 yX8_readSegment yX8_readSegment, Cond.code yX8_readSegment cX8_readSegment 5 (some .int), Cond.fieldLink RX8 22 "CoreMelterModel" "numbers" "[I", Cond.methodLink RX8 149 yX8_readKind, Cond.instanceMethod yX8_readKind, Cond.selects RX8 yX8_readKind yX8_readKind, Cond.code yX8_readKind cX8_readKind 3 (some .int), Cond.constantLong RX8 128 (100000000)]
def wsX8_fault_r2 : List Cond := [Cond.constantLong RX8 130 (27), Cond.constantLong RX8 132 (96), Cond.constantLong RX8 134 (6647), Cond.constantLong RX8 136 (1949438), Cond.constantLong RX8 138 (94574), Cond.methodLink RX8 125 yX8_here, Cond.instanceMethod yX8_here, Cond.selects RX8 yX8_here yX8_here, Cond.code yX8_here cX8_here 1 (some .int), Cond.fieldLink RX8 19 "CoreMelterModel" "text" "[I", Cond.methodLink RX8 152 yX8_fails, Cond.instanceMethod yX8_fails, Cond.selects RX8 yX8_fails yX8_fails, Cond.code yX8_fails cX8_fails 3 (some .int), Cond.methodLink RX8 155 yX8_readNumber, Cond.instanceMethod yX8_readNumber, Cond.selects RX8 yX8_readNumber yX8_readNumber, Cond.code yX8_readNumber cX8_readNumber 4 (some .boolean), Cond.methodLink RX8 158 yX8_isRanged, Cond.static yX8_isRanged, Cond.code yX8_isRanged cX8_isRanged 3 (some .boolean), Cond.methodLink RX8 45 yX8_isDensity, Cond.static yX8_isDensity, Cond.code yX8_isDensity cX8_isDensity 1 (some .boolean)]
def wsX8_fault : List Cond := .code yX8_fault cX8_fault 2 (some .int) :: ((wsX8_fault_r1 ++ wsX8_fault_r2) ++ wsX80)
def wsX8_lay_r1 : List Cond := [Cond.fieldLink RX8 122 "CoreMelterModel" "at" "I", Cond.fieldLink RX8 7 "CoreMelterModel" "m" "[I", Cond.fieldLink RX8 22 "CoreMelterModel" "numbers" "[I", Cond.methodLink RX8 164 yX8_reads, Cond.instanceMethod yX8_reads, Cond.selects RX8 yX8_reads yX8_reads, Cond.initialized RX8, Cond.code yX8_reads cX8_reads 3 (some .int), Cond.fieldLink RX8 113 "CoreMelterModel" "textLength" "I", Cond.methodLink RX8 161 yX8_readSegment, Cond.instanceMethod yX8_readSegment, Cond.selects RX8 yX8_readSegment yX8_readSegment, Cond.code yX8_readSegment cX8_readSegment 5 (some .int), Cond.fieldLink RX8 146 "CoreMelterModel" "faultAt" "I", Cond.methodLink RX8 149 yX8_readKind, Cond.instanceMethod yX8_readKind, Cond.selects RX8 yX8_readKind yX8_readKind, Cond.code yX8_readKind cX8_readKind 3 (some .int), Cond.constantLong RX8 128 (100000000), Cond.constantLong RX8 130 (27), Cond.constantLong RX8 132 (96), Cond.constantLong RX8 134 (6647), Cond.constantLong RX8 136 (1949438), Cond.constantLong RX8 138 (94574)]
def wsX8_lay_r2 : List Cond := [Cond.methodLink RX8 125 yX8_here, Cond.instanceMethod yX8_here, Cond.selects RX8 yX8_here yX8_here, Cond.code yX8_here cX8_here 1 (some .int), Cond.fieldLink RX8 19 "CoreMelterModel" "text" "[I", Cond.methodLink RX8 33 yX8_in, Cond.static yX8_in, Cond.code yX8_in cX8_in 3 (some .boolean), Cond.methodLink RX8 152 yX8_fails, Cond.instanceMethod yX8_fails, Cond.selects RX8 yX8_fails yX8_fails, Cond.code yX8_fails cX8_fails 3 (some .int), Cond.fieldLink RX8 140 "CoreMelterModel" "faultReason" "I", Cond.fieldLink RX8 143 "CoreMelterModel" "faultNumber" "I", Cond.methodLink RX8 155 yX8_readNumber, Cond.instanceMethod yX8_readNumber, Cond.selects RX8 yX8_readNumber yX8_readNumber, Cond.code yX8_readNumber cX8_readNumber 4 (some .boolean), Cond.methodLink RX8 158 yX8_isRanged, Cond.static yX8_isRanged, Cond.code yX8_isRanged cX8_isRanged 3 (some .boolean), Cond.methodLink RX8 45 yX8_isDensity, Cond.static yX8_isDensity, Cond.code yX8_isDensity cX8_isDensity 1 (some .boolean)]
def wsX8_lay_r3 : List Cond := [Cond.methodLink RX8 52 yX8_record, Cond.instanceMethod yX8_record, Cond.selects RX8 yX8_record yX8_record, Cond.code yX8_record cX8_record 2 none, Cond.fieldLink RX8 25 "CoreMelterModel" "stateCount" "I", Cond.fieldLink RX8 16 "CoreMelterModel" "states" "[I", Cond.methodLink RX8 29 yX8_bring, Cond.static yX8_bring, Cond.code yX8_bring cX8_bring 5 none, Cond.methodLink RX8 55 yX8_puts, Cond.instanceMethod yX8_puts, Cond.selects RX8 yX8_puts yX8_puts, Cond.code yX8_puts cX8_puts 6 none]
def wsX8_lay : List Cond := .code yX8_lay cX8_lay 4 (some .int) :: ((wsX8_lay_r1 ++ (wsX8_lay_r2 ++ wsX8_lay_r3)) ++ wsX80)
def wsJ9_max_7cf53 : List Cond := .code yJ9_max_7cf53 cJ9_max_7cf53 2 (some .int) :: ([])
def wsJ9_min_7cf53 : List Cond := .code yJ9_min_7cf53 cJ9_min_7cf53 2 (some .int) :: ([])
def wsL_law_r1 : List Cond := [Cond.classLink RL 7 RX7, Cond.instantiable RX7 5, Cond.initialized RX7, Cond.classLink RL 10 RX8, Cond.instantiable RX8 11, Cond.initialized RX8, Cond.methodLink RL 9 yX7_init, Cond.instanceMethod yX7_init, Cond.code yX7_init cX7_init 1 none, Cond.methodLink RX7 1 objectInit, Cond.instanceMethod objectInit, Cond.code objectInit ⟨#[0xb1]⟩ 1 none, Cond.classLink RX7 7 RX3, Cond.instantiable RX3 15, Cond.initialized RX3, Cond.fieldLink RX7 10 "CoreMelter" "now" "LCoreMelter$Plate;", Cond.fieldLink RX7 16 "CoreMelter" "trial" "LCoreMelter$Plate;", Cond.classLink RX7 19 RX1, Cond.instantiable RX1 3, Cond.initialized RX1, Cond.fieldLink RX7 22 "CoreMelter" "history" "LCoreMelter$History;", Cond.classLink RX7 26 RX5, Cond.instantiable RX5 2, Cond.initialized RX5]
def wsL_law_r2 : List Cond := [Cond.fieldLink RX7 29 "CoreMelter" "text" "LCoreMelter$Text;", Cond.classLink RX7 33 RX4, Cond.instantiable RX4 6, Cond.initialized RX4, Cond.fieldLink RX7 36 "CoreMelter" "reading" "LCoreMelter$Reading;", Cond.methodLink RX7 9 yX3_init, Cond.instanceMethod yX3_init, Cond.code yX3_init cX3_init 1 none, Cond.methodLink RX3 1 objectInit, Cond.classLink RX3 7 RX0, Cond.instantiable RX0 7, Cond.initialized RX0, Cond.fieldLink RX3 10 "CoreMelter$Plate" "core" "LCoreMelter$Core;", Cond.classLink RX3 16 RX2, Cond.instantiable RX2 5, Cond.initialized RX2, Cond.fieldLink RX3 19 "CoreMelter$Plate" "lines" "LCoreMelter$Lines;", Cond.classLink RX3 23 RX6, Cond.instantiable RX6 5, Cond.initialized RX6, Cond.fieldLink RX3 26 "CoreMelter$Plate" "vials" "LCoreMelter$Vials;", Cond.arrayClass .int, Cond.fieldLink RX3 30 "CoreMelter$Plate" "settings" "[I", Cond.fieldLink RX3 34 "CoreMelter$Plate" "accounts" "[I"]
def wsL_law_r3 : List Cond := [Cond.fieldLink RX3 37 "CoreMelter$Plate" "INITIAL" "[I", Cond.methodLink RX3 40 arraycopyName, Cond.native arraycopyName, Cond.static arraycopyName, Cond.initialized "java/lang/System", Cond.instanceMethod yX0_init, Cond.code yX0_init cX0_init 1 none, Cond.methodLink RX0 1 objectInit, Cond.fieldLink RX0 9 "CoreMelter$Core" "kinds" "[I", Cond.fieldLink RX0 13 "CoreMelter$Core" "lengths" "[I", Cond.fieldLink RX0 16 "CoreMelter$Core" "densities" "[I", Cond.fieldLink RX0 19 "CoreMelter$Core" "mores" "[I", Cond.fieldLink RX0 22 "CoreMelter$Core" "lowers" "[I", Cond.instanceMethod yX2_init, Cond.code yX2_init cX2_init 1 none, Cond.methodLink RX2 1 objectInit, Cond.fieldLink RX2 9 "CoreMelter$Lines" "stuck" "[I", Cond.fieldLink RX2 13 "CoreMelter$Lines" "dirt" "[I", Cond.fieldLink RX2 16 "CoreMelter$Lines" "gap" "[I", Cond.fieldLink RX2 19 "CoreMelter$Lines" "drawn" "[I", Cond.fieldLink RX2 22 "CoreMelter$Lines" "wasted" "[I", Cond.instanceMethod yX6_init, Cond.code yX6_init cX6_init 1 none, Cond.methodLink RX6 1 objectInit]
def wsL_law_r4 : List Cond := [Cond.fieldLink RX6 9 "CoreMelter$Vials" "water" "[I", Cond.fieldLink RX6 13 "CoreMelter$Vials" "depth" "[I", Cond.fieldLink RX6 16 "CoreMelter$Vials" "ticks" "[I", Cond.methodLink RX7 21 yX1_init, Cond.instanceMethod yX1_init, Cond.code yX1_init cX1_init 2 none, Cond.methodLink RX1 1 objectInit, Cond.classLink RX1 9 RX3, Cond.fieldLink RX1 11 "CoreMelter$History" "states" "[LCoreMelter$Plate;", Cond.methodLink RX1 15 yX3_init, Cond.instanceMethod yX5_init, Cond.code yX5_init cX5_init 1 none, Cond.methodLink RX5 1 objectInit, Cond.arrayClass .char, Cond.fieldLink RX5 9 "CoreMelter$Text" "characters" "[C", Cond.instanceMethod yX4_init, Cond.code yX4_init cX4_init 1 none, Cond.methodLink RX4 1 objectInit, Cond.classLink RX4 7 RX0, Cond.fieldLink RX4 10 "CoreMelter$Reading" "core" "LCoreMelter$Core;", Cond.fieldLink RX4 16 "CoreMelter$Reading" "numbers" "[I", Cond.methodLink RL 12 yX8_init, Cond.instanceMethod yX8_init, Cond.code yX8_init cX8_init 1 none]
def wsL_law_r5 : List Cond := [Cond.methodLink RX8 1 objectInit, Cond.fieldLink RX8 7 "CoreMelterModel" "m" "[I", Cond.fieldLink RX8 13 "CoreMelterModel" "spare" "[I", Cond.fieldLink RX8 16 "CoreMelterModel" "states" "[I", Cond.fieldLink RX8 19 "CoreMelterModel" "text" "[I", Cond.fieldLink RX8 22 "CoreMelterModel" "numbers" "[I", Cond.methodLink RL 13 yX7_addSegment, Cond.instanceMethod yX7_addSegment, Cond.selects RX7 yX7_addSegment yX7_addSegment, Cond.code yX7_addSegment cX7_addSegment 5 (some .int), Cond.fieldLink RX7 46 "CoreMelter$Plate" "core" "LCoreMelter$Core;", Cond.fieldLink RX7 62 "CoreMelter$Core" "size" "I", Cond.methodLink RX7 42 yX0_firstWrong, Cond.static yX0_firstWrong, Cond.code yX0_firstWrong cX0_firstWrong 4 (some .int), Cond.methodLink RX0 38 yX0_leastDensity, Cond.static yX0_leastDensity, Cond.code yX0_leastDensity cX0_leastDensity 1 (some .int), Cond.methodLink RX0 42 yX0_mostDensity, Cond.static yX0_mostDensity, Cond.code yX0_mostDensity cX0_mostDensity 1 (some .int), Cond.methodLink RX0 45 yX0_leastMore, Cond.static yX0_leastMore, Cond.code yX0_leastMore cX0_leastMore 1 (some .int)]
def wsL_law_r6 : List Cond := [Cond.methodLink RX0 48 yX0_mostMore, Cond.static yX0_mostMore, Cond.code yX0_mostMore cX0_mostMore 1 (some .int), Cond.methodLink RX7 50 yX0_isFull, Cond.instanceMethod yX0_isFull, Cond.selects RX0 yX0_isFull yX0_isFull, Cond.code yX0_isFull cX0_isFull 1 (some .boolean), Cond.fieldLink RX0 25 "CoreMelter$Core" "size" "I", Cond.methodLink RX7 54 yX1_keep, Cond.instanceMethod yX1_keep, Cond.selects RX1 yX1_keep yX1_keep, Cond.code yX1_keep cX1_keep 2 none, Cond.fieldLink RX1 16 "CoreMelter$History" "size" "I", Cond.fieldLink RX1 20 "CoreMelter$History" "oldest" "I", Cond.methodLink RX1 23 yX3_copyFrom, Cond.instanceMethod yX3_copyFrom, Cond.selects RX3 yX3_copyFrom yX3_copyFrom, Cond.code yX3_copyFrom cX3_copyFrom 2 none, Cond.fieldLink RX3 56 "CoreMelter$Plate" "front" "I", Cond.fieldLink RX3 60 "CoreMelter$Plate" "store" "I", Cond.fieldLink RX3 63 "CoreMelter$Plate" "stock" "I", Cond.fieldLink RX3 66 "CoreMelter$Plate" "stockGas" "I", Cond.fieldLink RX3 69 "CoreMelter$Plate" "stockDirt" "I", Cond.fieldLink RX3 72 "CoreMelter$Plate" "told" "I"]
def wsL_law_r7 : List Cond := [Cond.fieldLink RX3 75 "CoreMelter$Plate" "waterBelowTold" "I", Cond.fieldLink RX3 78 "CoreMelter$Plate" "ticks" "I", Cond.fieldLink RX3 81 "CoreMelter$Plate" "reason" "I", Cond.fieldLink RX3 84 "CoreMelter$Plate" "stopped" "I", Cond.methodLink RX3 46 yX0_copyFrom, Cond.instanceMethod yX0_copyFrom, Cond.selects RX0 yX0_copyFrom yX0_copyFrom, Cond.code yX0_copyFrom cX0_copyFrom 2 none, Cond.fieldLink RX0 29 "CoreMelter$Core" "height" "I", Cond.methodLink RX0 32 arraycopyName, Cond.methodLink RX3 50 yX2_copyFrom, Cond.instanceMethod yX2_copyFrom, Cond.selects RX2 yX2_copyFrom yX2_copyFrom, Cond.code yX2_copyFrom cX2_copyFrom 2 none, Cond.methodLink RX2 25 arraycopyName, Cond.methodLink RX3 53 yX6_copyFrom, Cond.instanceMethod yX6_copyFrom, Cond.selects RX6 yX6_copyFrom yX6_copyFrom, Cond.code yX6_copyFrom cX6_copyFrom 2 none, Cond.fieldLink RX6 19 "CoreMelter$Vials" "sealed" "I", Cond.fieldLink RX6 23 "CoreMelter$Vials" "present" "I", Cond.methodLink RX6 26 arraycopyName, Cond.methodLink RX7 58 yX0_put, Cond.instanceMethod yX0_put]
def wsL_law_r8 : List Cond := [Cond.selects RX0 yX0_put yX0_put, Cond.code yX0_put cX0_put 5 none, Cond.methodLink RX0 51 yX0_isFull, Cond.methodLink RL 17 yX8_addSegment, Cond.instanceMethod yX8_addSegment, Cond.selects RX8 yX8_addSegment yX8_addSegment, Cond.code yX8_addSegment cX8_addSegment 5 (some .int), Cond.methodLink RX8 33 yX8_in, Cond.static yX8_in, Cond.code yX8_in cX8_in 3 (some .boolean), Cond.methodLink RX8 49 yX8_isKind, Cond.static yX8_isKind, Cond.code yX8_isKind cX8_isKind 3 (some .boolean), Cond.methodLink RX8 45 yX8_isDensity, Cond.static yX8_isDensity, Cond.code yX8_isDensity cX8_isDensity 1 (some .boolean), Cond.methodLink RX8 52 yX8_record, Cond.instanceMethod yX8_record, Cond.selects RX8 yX8_record yX8_record, Cond.code yX8_record cX8_record 2 none, Cond.fieldLink RX8 25 "CoreMelterModel" "stateCount" "I", Cond.methodLink RX8 29 yX8_bring, Cond.static yX8_bring, Cond.code yX8_bring cX8_bring 5 none]
def wsL_law_r9 : List Cond := [Cond.methodLink RX8 55 yX8_puts, Cond.instanceMethod yX8_puts, Cond.selects RX8 yX8_puts yX8_puts, Cond.code yX8_puts cX8_puts 6 none, Cond.methodLink RL 18 yX7_segment, Cond.instanceMethod yX7_segment, Cond.selects RX7 yX7_segment yX7_segment, Cond.code yX7_segment cX7_segment 3 (some .int), Cond.fieldLink RX7 66 "CoreMelter$Core" "kinds" "[I", Cond.fieldLink RX7 70 "CoreMelter$Core" "lengths" "[I", Cond.fieldLink RX7 73 "CoreMelter$Core" "densities" "[I", Cond.fieldLink RX7 76 "CoreMelter$Core" "mores" "[I", Cond.fieldLink RX7 79 "CoreMelter$Core" "lowers" "[I", Cond.fieldLink RX7 82 "CoreMelter$Plate" "front" "I", Cond.methodLink RX7 85 yX0_partBelow, Cond.instanceMethod yX0_partBelow, Cond.selects RX0 yX0_partBelow yX0_partBelow, Cond.code yX0_partBelow cX0_partBelow 3 (some .int), Cond.methodLink RX0 58 Lib.Math.min.name, Cond.static Lib.Math.min.name, Cond.initialized "java/lang/Math", Cond.code Lib.Math.min.name Lib.Math.min.code 2 (some .int), Cond.methodLink RX0 64 Lib.Math.max.name, Cond.static Lib.Math.max.name]
def wsL_law_r10 : List Cond := [Cond.code Lib.Math.max.name Lib.Math.max.code 2 (some .int), Cond.methodLink RL 22 yX8_segment, Cond.instanceMethod yX8_segment, Cond.selects RX8 yX8_segment yX8_segment, Cond.code yX8_segment cX8_segment 3 (some .int), Cond.methodLink RX8 62 yX8_isSegment, Cond.instanceMethod yX8_isSegment, Cond.selects RX8 yX8_isSegment yX8_isSegment, Cond.code yX8_isSegment cX8_isSegment 2 (some .boolean), Cond.methodLink RX8 37 yX8_of, Cond.instanceMethod yX8_of, Cond.selects RX8 yX8_of yX8_of, Cond.code yX8_of cX8_of 3 (some .int), Cond.methodLink RX8 41 yX8_lower, Cond.instanceMethod yX8_lower, Cond.selects RX8 yX8_lower yX8_lower, Cond.code yX8_lower cX8_lower 4 (some .int), Cond.methodLink RX8 65 yX8_melted, Cond.instanceMethod yX8_melted, Cond.selects RX8 yX8_melted yX8_melted, Cond.code yX8_melted cX8_melted 3 (some .int), Cond.methodLink RX8 59 yX8_lesser, Cond.static yX8_lesser, Cond.code yX8_lesser cX8_lesser 2 (some .int)]
def wsL_law_r11 : List Cond := [Cond.methodLink RL 23 yX7_segmentAt, Cond.instanceMethod yX7_segmentAt, Cond.selects RX7 yX7_segmentAt yX7_segmentAt, Cond.code yX7_segmentAt cX7_segmentAt 2 (some .int), Cond.fieldLink RX7 89 "CoreMelter$Core" "height" "I", Cond.methodLink RX7 92 yX0_holding, Cond.instanceMethod yX0_holding, Cond.selects RX0 yX0_holding yX0_holding, Cond.code yX0_holding cX0_holding 3 (some .int), Cond.methodLink RX0 55 yX0_end, Cond.instanceMethod yX0_end, Cond.selects RX0 yX0_end yX0_end, Cond.code yX0_end cX0_end 2 (some .int), Cond.methodLink RL 27 yX8_segmentAt, Cond.instanceMethod yX8_segmentAt, Cond.selects RX8 yX8_segmentAt yX8_segmentAt, Cond.code yX8_segmentAt cX8_segmentAt 2 (some .int), Cond.methodLink RX8 68 yX8_segmentOf, Cond.instanceMethod yX8_segmentOf, Cond.selects RX8 yX8_segmentOf yX8_segmentOf, Cond.code yX8_segmentOf cX8_segmentOf 3 (some .int), Cond.methodLink RL 28 yX7_waterBelow, Cond.instanceMethod yX7_waterBelow, Cond.selects RX7 yX7_waterBelow yX7_waterBelow]
def wsL_law_r12 : List Cond := [Cond.code yX7_waterBelow cX7_waterBelow 2 (some .int), Cond.methodLink RX7 96 yX0_waterUpTo, Cond.instanceMethod yX0_waterUpTo, Cond.selects RX0 yX0_waterUpTo yX0_waterUpTo, Cond.code yX0_waterUpTo cX0_waterUpTo 4 (some .int), Cond.methodLink RX0 67 yX0_partBelow, Cond.methodLink RL 31 yX8_waterBelow, Cond.instanceMethod yX8_waterBelow, Cond.selects RX8 yX8_waterBelow yX8_waterBelow, Cond.code yX8_waterBelow cX8_waterBelow 2 (some .int), Cond.methodLink RX8 71 yX8_length, Cond.instanceMethod yX8_length, Cond.selects RX8 yX8_length yX8_length, Cond.code yX8_length cX8_length 1 (some .int), Cond.methodLink RX8 75 yX8_water, Cond.instanceMethod yX8_water, Cond.selects RX8 yX8_water yX8_water, Cond.code yX8_water cX8_water 5 (some .int), Cond.methodLink RL 32 yX7_renew, Cond.instanceMethod yX7_renew, Cond.selects RX7 yX7_renew yX7_renew, Cond.code yX7_renew cX7_renew 2 (some .int), Cond.methodLink RX7 99 yX3_beginAnew, Cond.instanceMethod yX3_beginAnew]
def wsL_law_r13 : List Cond := [Cond.selects RX3 yX3_beginAnew yX3_beginAnew, Cond.code yX3_beginAnew cX3_beginAnew 1 none, Cond.methodLink RX3 87 yX2_beginAnew, Cond.instanceMethod yX2_beginAnew, Cond.selects RX2 yX2_beginAnew yX2_beginAnew, Cond.code yX2_beginAnew cX2_beginAnew 1 none, Cond.methodLink RX2 31 yJ7_fill_53178, Cond.static yJ7_fill_53178, Cond.initialized RJ7, Cond.code yJ7_fill_53178 cJ7_fill_53178 4 none, Cond.methodLink RX3 90 yX6_beginAnew, Cond.instanceMethod yX6_beginAnew, Cond.selects RX6 yX6_beginAnew yX6_beginAnew, Cond.code yX6_beginAnew cX6_beginAnew 1 none, Cond.methodLink RX3 91 yJ7_fill_53178, Cond.methodLink RL 36 yX8_renew, Cond.instanceMethod yX8_renew, Cond.selects RX8 yX8_renew yX8_renew, Cond.code yX8_renew cX8_renew 3 (some .int), Cond.methodLink RL 37 yX7_undo, Cond.instanceMethod yX7_undo, Cond.selects RX7 yX7_undo yX7_undo, Cond.code yX7_undo cX7_undo 1 (some .int), Cond.fieldLink RX7 102 "CoreMelter$History" "size" "I"]
def wsL_law_r14 : List Cond := [Cond.methodLink RX7 103 yX1_giveBack, Cond.instanceMethod yX1_giveBack, Cond.selects RX1 yX1_giveBack yX1_giveBack, Cond.code yX1_giveBack cX1_giveBack 2 none, Cond.methodLink RL 40 yX8_undo, Cond.instanceMethod yX8_undo, Cond.selects RX8 yX8_undo yX8_undo, Cond.code yX8_undo cX8_undo 1 (some .int), Cond.methodLink RL 41 yX7_set, Cond.instanceMethod yX7_set, Cond.selects RX7 yX7_set yX7_set, Cond.code yX7_set cX7_set 4 (some .int), Cond.fieldLink RX7 106 "CoreMelter$Plate" "LEAST" "[I", Cond.fieldLink RX7 109 "CoreMelter$Plate" "MOST" "[I", Cond.fieldLink RX7 112 "CoreMelter$Plate" "settings" "[I", Cond.methodLink RL 44 yX8_set, Cond.instanceMethod yX8_set, Cond.selects RX8 yX8_set yX8_set, Cond.code yX8_set cX8_set 4 (some .int), Cond.methodLink RX8 78 yX8_isSetting, Cond.static yX8_isSetting, Cond.code yX8_isSetting cX8_isSetting 2 (some .boolean), Cond.methodLink RL 45 yX7_clean, Cond.instanceMethod yX7_clean]
def wsL_law_r15 : List Cond := [Cond.selects RX7 yX7_clean yX7_clean, Cond.code yX7_clean cX7_clean 3 (some .int), Cond.fieldLink RX7 117 "CoreMelter$Plate" "lines" "LCoreMelter$Lines;", Cond.fieldLink RX7 121 "CoreMelter$Lines" "stuck" "[I", Cond.fieldLink RX7 124 "CoreMelter$Lines" "dirt" "[I", Cond.methodLink RX7 127 yX2_open, Cond.instanceMethod yX2_open, Cond.selects RX2 yX2_open yX2_open, Cond.code yX2_open cX2_open 2 none, Cond.methodLink RL 48 yX8_clean, Cond.instanceMethod yX8_clean, Cond.selects RX8 yX8_clean yX8_clean, Cond.code yX8_clean cX8_clean 4 (some .int), Cond.methodLink RX8 82 yX8_ofLine, Cond.instanceMethod yX8_ofLine, Cond.selects RX8 yX8_ofLine yX8_ofLine, Cond.code yX8_ofLine cX8_ofLine 3 (some .int), Cond.methodLink RL 49 yX7_run, Cond.instanceMethod yX7_run, Cond.selects RX7 yX7_run yX7_run, Cond.code yX7_run cX7_run 2 (some .int), Cond.fieldLink RX7 138 "CoreMelter$Plate" "told" "I", Cond.methodLink RX7 131 yX3_ticksLeft, Cond.instanceMethod yX3_ticksLeft]
def wsL_law_r16 : List Cond := [Cond.selects RX3 yX3_ticksLeft yX3_ticksLeft, Cond.code yX3_ticksLeft cX3_ticksLeft 1 (some .int), Cond.methodLink RX7 135 yX3_pass, Cond.instanceMethod yX3_pass, Cond.selects RX3 yX3_pass yX3_pass, Cond.code yX3_pass cX3_pass 3 none, Cond.methodLink RX3 97 yX3_tick, Cond.instanceMethod yX3_tick, Cond.selects RX3 yX3_tick yX3_tick, Cond.code yX3_tick cX3_tick 2 none, Cond.methodLink RX3 100 yX3_reasonToStop, Cond.instanceMethod yX3_reasonToStop, Cond.selects RX3 yX3_reasonToStop yX3_reasonToStop, Cond.code yX3_reasonToStop cX3_reasonToStop 1 (some .int), Cond.fieldLink RX3 118 "CoreMelter$Core" "height" "I", Cond.methodLink RX3 121 yX2_stuckOnes, Cond.instanceMethod yX2_stuckOnes, Cond.selects RX2 yX2_stuckOnes yX2_stuckOnes, Cond.code yX2_stuckOnes cX2_stuckOnes 3 (some .int), Cond.methodLink RX3 104 yX3_melt, Cond.instanceMethod yX3_melt, Cond.selects RX3 yX3_melt yX3_melt, Cond.code yX3_melt cX3_melt 2 none, Cond.fieldLink RX3 128 "CoreMelter$Core" "size" "I"]
def wsL_law_r17 : List Cond := [Cond.fieldLink RX3 131 "CoreMelter$Core" "kinds" "[I", Cond.methodLink RX3 124 yX0_holding, Cond.methodLink RX3 134 yX0_end, Cond.methodLink RX3 137 yX3_meltIn, Cond.instanceMethod yX3_meltIn, Cond.selects RX3 yX3_meltIn yX3_meltIn, Cond.code yX3_meltIn cX3_meltIn 7 none, Cond.fieldLink RX3 140 "CoreMelter$Core" "densities" "[I", Cond.methodLink RX3 143 yX0_gasOfUnit, Cond.instanceMethod yX0_gasOfUnit, Cond.selects RX0 yX0_gasOfUnit yX0_gasOfUnit, Cond.code yX0_gasOfUnit cX0_gasOfUnit 2 (some .int), Cond.methodLink RX3 146 yX0_dirtOfUnit, Cond.instanceMethod yX0_dirtOfUnit, Cond.selects RX0 yX0_dirtOfUnit yX0_dirtOfUnit, Cond.code yX0_dirtOfUnit cX0_dirtOfUnit 2 (some .int), Cond.methodLink RX3 107 yX3_draw, Cond.instanceMethod yX3_draw, Cond.selects RX3 yX3_draw yX3_draw, Cond.code yX3_draw cX3_draw 6 none, Cond.methodLink RX3 149 Lib.Math.min.name, Cond.fieldLink RX3 155 "CoreMelter$Lines" "stuck" "[I", Cond.fieldLink RX3 158 "CoreMelter$Lines" "drawn" "[I", Cond.fieldLink RX3 165 "CoreMelter$Lines" "wasted" "[I"]
def wsL_law_r18 : List Cond := [Cond.fieldLink RX3 168 "CoreMelter$Vials" "present" "I", Cond.methodLink RX3 161 yX2_breaks, Cond.instanceMethod yX2_breaks, Cond.selects RX2 yX2_breaks yX2_breaks, Cond.code yX2_breaks cX2_breaks 4 (some .boolean), Cond.methodLink RX3 171 yX2_soil, Cond.instanceMethod yX2_soil, Cond.selects RX2 yX2_soil yX2_soil, Cond.code yX2_soil cX2_soil 4 none, Cond.methodLink RX3 111 yX3_raiseTold, Cond.instanceMethod yX3_raiseTold, Cond.selects RX3 yX3_raiseTold yX3_raiseTold, Cond.code yX3_raiseTold cX3_raiseTold 5 none, Cond.methodLink RX3 174 yX3_drawn, Cond.instanceMethod yX3_drawn, Cond.selects RX3 yX3_drawn yX3_drawn, Cond.code yX3_drawn cX3_drawn 1 (some .int), Cond.methodLink RX3 114 yX6_sealIfFull, Cond.instanceMethod yX6_sealIfFull, Cond.selects RX6 yX6_sealIfFull yX6_sealIfFull, Cond.code yX6_sealIfFull cX6_sealIfFull 4 none, Cond.methodLink RL 52 yX8_run, Cond.instanceMethod yX8_run, Cond.selects RX8 yX8_run yX8_run]
def wsL_law_r19 : List Cond := [Cond.code yX8_run cX8_run 2 (some .int), Cond.methodLink RX8 110 yX8_goBy, Cond.instanceMethod yX8_goBy, Cond.selects RX8 yX8_goBy yX8_goBy, Cond.code yX8_goBy cX8_goBy 3 none, Cond.methodLink RX8 107 yX8_tick, Cond.instanceMethod yX8_tick, Cond.selects RX8 yX8_tick yX8_tick, Cond.code yX8_tick cX8_tick 3 none, Cond.methodLink RX8 95 yX8_reasonNow, Cond.instanceMethod yX8_reasonNow, Cond.selects RX8 yX8_reasonNow yX8_reasonNow, Cond.code yX8_reasonNow cX8_reasonNow 2 (some .int), Cond.methodLink RX8 85 yX8_stuck, Cond.instanceMethod yX8_stuck, Cond.selects RX8 yX8_stuck yX8_stuck, Cond.code yX8_stuck cX8_stuck 3 (some .int), Cond.methodLink RX8 98 yX8_melts, Cond.instanceMethod yX8_melts, Cond.selects RX8 yX8_melts yX8_melts, Cond.code yX8_melts cX8_melts 4 none, Cond.methodLink RX8 88 yX8_unit, Cond.instanceMethod yX8_unit, Cond.selects RX8 yX8_unit yX8_unit]
def wsL_law_r20 : List Cond := [Cond.code yX8_unit cX8_unit 5 none, Cond.methodLink RX8 101 yX8_draws, Cond.instanceMethod yX8_draws, Cond.selects RX8 yX8_draws yX8_draws, Cond.code yX8_draws cX8_draws 9 none, Cond.methodLink RX8 104 yX8_seals, Cond.instanceMethod yX8_seals, Cond.selects RX8 yX8_seals yX8_seals, Cond.code yX8_seals cX8_seals 2 none, Cond.methodLink RX8 92 yX8_told, Cond.instanceMethod yX8_told, Cond.selects RX8 yX8_told yX8_told, Cond.code yX8_told cX8_told 6 (some .int), Cond.methodLink RL 53 yX7_count, Cond.instanceMethod yX7_count, Cond.selects RX7 yX7_count yX7_count, Cond.code yX7_count cX7_count 2 (some .int), Cond.fieldLink RX7 141 "CoreMelter$Plate" "store" "I", Cond.fieldLink RX7 144 "CoreMelter$Plate" "stock" "I", Cond.fieldLink RX7 147 "CoreMelter$Plate" "stockGas" "I", Cond.fieldLink RX7 150 "CoreMelter$Plate" "stockDirt" "I", Cond.fieldLink RX7 153 "CoreMelter$Plate" "vials" "LCoreMelter$Vials;", Cond.fieldLink RX7 157 "CoreMelter$Vials" "sealed" "I", Cond.fieldLink RX7 162 "CoreMelter$Vials" "present" "I"]
def wsL_law_r21 : List Cond := [Cond.fieldLink RX7 165 "CoreMelter$Plate" "ticks" "I", Cond.fieldLink RX7 168 "CoreMelter$Plate" "reason" "I", Cond.fieldLink RX7 171 "CoreMelter$Plate" "stopped" "I", Cond.fieldLink RX7 177 "CoreMelter$Text" "length" "I", Cond.methodLink RX7 174 yX2_stuckOnes, Cond.methodLink RL 56 yX8_count, Cond.instanceMethod yX8_count, Cond.selects RX8 yX8_count yX8_count, Cond.code yX8_count cX8_count 2 (some .int), Cond.fieldLink RX8 113 "CoreMelterModel" "textLength" "I", Cond.methodLink RL 57 yX7_account, Cond.instanceMethod yX7_account, Cond.selects RX7 yX7_account yX7_account, Cond.code yX7_account cX7_account 2 (some .int), Cond.fieldLink RX7 180 "CoreMelter$Plate" "accounts" "[I", Cond.methodLink RL 60 yX8_account, Cond.instanceMethod yX8_account, Cond.selects RX8 yX8_account yX8_account, Cond.code yX8_account cX8_account 2 (some .int), Cond.methodLink RL 61 yX7_line, Cond.instanceMethod yX7_line, Cond.selects RX7 yX7_line yX7_line, Cond.code yX7_line cX7_line 3 (some .int), Cond.fieldLink RX7 183 "CoreMelter$Lines" "gap" "[I"]
def wsL_law_r22 : List Cond := [Cond.fieldLink RX7 186 "CoreMelter$Lines" "drawn" "[I", Cond.fieldLink RX7 189 "CoreMelter$Lines" "wasted" "[I", Cond.methodLink RL 64 yX8_line, Cond.instanceMethod yX8_line, Cond.selects RX8 yX8_line yX8_line, Cond.code yX8_line cX8_line 3 (some .int), Cond.methodLink RL 65 yX7_again, Cond.instanceMethod yX7_again, Cond.selects RX7 yX7_again yX7_again, Cond.code yX7_again cX7_again 1 (some .int), Cond.methodLink RX7 197 Lib.Math.min.name, Cond.methodLink RX7 192 yX3_drawn, Cond.methodLink RX7 194 yX0_depthOf, Cond.instanceMethod yX0_depthOf, Cond.selects RX0 yX0_depthOf yX0_depthOf, Cond.code yX0_depthOf cX0_depthOf 7 (some .int), Cond.methodLink RL 68 yX8_again, Cond.instanceMethod yX8_again, Cond.selects RX8 yX8_again yX8_again, Cond.code yX8_again cX8_again 3 (some .int), Cond.methodLink RL 69 yX7_vial, Cond.instanceMethod yX7_vial, Cond.selects RX7 yX7_vial yX7_vial, Cond.code yX7_vial cX7_vial 3 (some .int)]
def wsL_law_r23 : List Cond := [Cond.fieldLink RX7 202 "CoreMelter$Vials" "water" "[I", Cond.fieldLink RX7 205 "CoreMelter$Vials" "depth" "[I", Cond.fieldLink RX7 208 "CoreMelter$Vials" "ticks" "[I", Cond.methodLink RL 72 yX8_vial, Cond.instanceMethod yX8_vial, Cond.selects RX8 yX8_vial yX8_vial, Cond.code yX8_vial cX8_vial 3 (some .int), Cond.methodLink RX8 116 yX8_isVial, Cond.instanceMethod yX8_isVial, Cond.selects RX8 yX8_isVial yX8_isVial, Cond.code yX8_isVial cX8_isVial 2 (some .boolean), Cond.methodLink RL 73 yX7_vialAt, Cond.instanceMethod yX7_vialAt, Cond.selects RX7 yX7_vialAt yX7_vialAt, Cond.code yX7_vialAt cX7_vialAt 3 (some .int), Cond.methodLink RX7 210 yX6_firstBeyond, Cond.instanceMethod yX6_firstBeyond, Cond.selects RX6 yX6_firstBeyond yX6_firstBeyond, Cond.code yX6_firstBeyond cX6_firstBeyond 3 (some .int), Cond.methodLink RL 76 yX8_vialAt, Cond.instanceMethod yX8_vialAt, Cond.selects RX8 yX8_vialAt yX8_vialAt, Cond.code yX8_vialAt cX8_vialAt 3 (some .int), Cond.methodLink RL 77 yX7_ifRun]
def wsL_law_r24 : List Cond := [Cond.instanceMethod yX7_ifRun, Cond.selects RX7 yX7_ifRun yX7_ifRun, Cond.code yX7_ifRun cX7_ifRun 3 (some .int), Cond.methodLink RX7 213 yX3_copyFrom, Cond.methodLink RL 80 yX8_ifRun, Cond.instanceMethod yX8_ifRun, Cond.selects RX8 yX8_ifRun yX8_ifRun, Cond.code yX8_ifRun cX8_ifRun 4 (some .int), Cond.methodLink RX8 119 yX8_differs, Cond.instanceMethod yX8_differs, Cond.selects RX8 yX8_differs yX8_differs, Cond.code yX8_differs cX8_differs 2 (some .int), Cond.methodLink RL 81 yX7_ticksTo, Cond.instanceMethod yX7_ticksTo, Cond.selects RX7 yX7_ticksTo yX7_ticksTo, Cond.code yX7_ticksTo cX7_ticksTo 4 (some .int), Cond.methodLink RX7 216 yX3_tick, Cond.methodLink RL 84 yX8_ticksTo, Cond.instanceMethod yX8_ticksTo, Cond.selects RX8 yX8_ticksTo yX8_ticksTo, Cond.code yX8_ticksTo cX8_ticksTo 4 (some .int), Cond.methodLink RL 85 yX7_flowFor, Cond.instanceMethod yX7_flowFor, Cond.selects RX7 yX7_flowFor yX7_flowFor]
def wsL_law_r25 : List Cond := [Cond.code yX7_flowFor cX7_flowFor 5 (some .int), Cond.methodLink RL 88 yX8_flowFor, Cond.instanceMethod yX8_flowFor, Cond.selects RX8 yX8_flowFor yX8_flowFor, Cond.code yX8_flowFor cX8_flowFor 6 (some .int), Cond.methodLink RL 89 yX7_type, Cond.instanceMethod yX7_type, Cond.selects RX7 yX7_type yX7_type, Cond.code yX7_type cX7_type 2 (some .int), Cond.methodLink RX7 219 yX5_isFull, Cond.instanceMethod yX5_isFull, Cond.selects RX5 yX5_isFull yX5_isFull, Cond.code yX5_isFull cX5_isFull 1 (some .boolean), Cond.fieldLink RX5 13 "CoreMelter$Text" "length" "I", Cond.methodLink RX7 220 yX5_append, Cond.instanceMethod yX5_append, Cond.selects RX5 yX5_append yX5_append, Cond.code yX5_append cX5_append 2 none, Cond.methodLink RX5 17 yX5_isFull, Cond.methodLink RL 92 yX8_type, Cond.instanceMethod yX8_type, Cond.selects RX8 yX8_type yX8_type, Cond.code yX8_type cX8_type 2 (some .int), Cond.methodLink RL 93 yX7_clearText]
def wsL_law_r26 : List Cond := [Cond.instanceMethod yX7_clearText, Cond.selects RX7 yX7_clearText yX7_clearText, Cond.code yX7_clearText cX7_clearText 2 (some .int), Cond.methodLink RL 96 yX8_clearText, Cond.instanceMethod yX8_clearText, Cond.selects RX8 yX8_clearText yX8_clearText, Cond.code yX8_clearText cX8_clearText 2 (some .int), Cond.methodLink RL 97 yX7_fault, Cond.instanceMethod yX7_fault, Cond.selects RX7 yX7_fault yX7_fault, Cond.code yX7_fault cX7_fault 2 (some .int), Cond.fieldLink RX7 228 "CoreMelter$Reading" "reason" "I", Cond.fieldLink RX7 229 "CoreMelter$Reading" "first" "I", Cond.fieldLink RX7 232 "CoreMelter$Reading" "number" "I", Cond.methodLink RX7 224 yX4_read, Cond.instanceMethod yX4_read, Cond.selects RX4 yX4_read yX4_read, Cond.code yX4_read cX4_read 4 none, Cond.fieldLink RX4 24 "CoreMelter$Reading" "reason" "I", Cond.fieldLink RX4 28 "CoreMelter$Reading" "number" "I", Cond.fieldLink RX4 31 "CoreMelter$Reading" "next" "I", Cond.fieldLink RX4 34 "CoreMelter$Text" "length" "I", Cond.fieldLink RX4 39 "CoreMelter$Reading" "first" "I", Cond.methodLink RX4 20 yX0_copyFrom]
def wsL_law_r27 : List Cond := [Cond.methodLink RX4 42 yX4_readSegment, Cond.instanceMethod yX4_readSegment, Cond.selects RX4 yX4_readSegment yX4_readSegment, Cond.code yX4_readSegment cX4_readSegment 3 none, Cond.methodLink RX4 46 yX4_readWord, Cond.instanceMethod yX4_readWord, Cond.selects RX4 yX4_readWord yX4_readWord, Cond.code yX4_readWord cX4_readWord 3 (some .int), Cond.methodLink RX4 70 yX5_isSmallLetter, Cond.instanceMethod yX5_isSmallLetter, Cond.selects RX5 yX5_isSmallLetter yX5_isSmallLetter, Cond.code yX5_isSmallLetter cX5_isSmallLetter 2 (some .boolean), Cond.methodLink RX5 21 yX5_at, Cond.instanceMethod yX5_at, Cond.selects RX5 yX5_at yX5_at, Cond.code yX5_at cX5_at 2 (some .char), Cond.methodLink RX4 76 yX5_holds, Cond.instanceMethod yX5_holds, Cond.selects RX5 yX5_holds yX5_holds, Cond.code yX5_holds cX5_holds 5 (some .boolean), Cond.methodLink RX5 25 yJ0_length_8abf5, Cond.instanceMethod yJ0_length_8abf5, Cond.selects RJ0 yJ0_length_8abf5 yJ0_length_8abf5, Cond.initialized RJ0]
def wsL_law_r28 : List Cond := [Cond.code yJ0_length_8abf5 cJ0_length_8abf5 1 (some .int), Cond.fieldLink RJ0 9 "java/lang/String" "value" "[B", Cond.methodLink RJ0 335 yJ0_coder_7d493, Cond.instanceMethod yJ0_coder_7d493, Cond.selects RJ0 yJ0_coder_7d493 yJ0_coder_7d493, Cond.code yJ0_coder_7d493 cJ0_coder_7d493 1 (some .byte), Cond.fieldLink RJ0 38 "java/lang/String" "COMPACT_STRINGS" "Z", Cond.fieldLink RJ0 15 "java/lang/String" "coder" "B", Cond.methodLink RX5 30 yJ0_charAt_5068e, Cond.instanceMethod yJ0_charAt_5068e, Cond.selects RJ0 yJ0_charAt_5068e yJ0_charAt_5068e, Cond.code yJ0_charAt_5068e cJ0_charAt_5068e 2 (some .char), Cond.methodLink RJ0 492 yJ0_isLatin1_aae02, Cond.instanceMethod yJ0_isLatin1_aae02, Cond.selects RJ0 yJ0_isLatin1_aae02 yJ0_isLatin1_aae02, Cond.code yJ0_isLatin1_aae02 cJ0_isLatin1_aae02 1 (some .boolean), Cond.methodLink RJ0 495 yJ1_charAt_3b067, Cond.static yJ1_charAt_3b067, Cond.initialized RJ1, Cond.code yJ1_charAt_3b067 cJ1_charAt_3b067 2 (some .char), Cond.methodLink RJ1 9 yJ0_checkIndex_df160, Cond.static yJ0_checkIndex_df160, Cond.code yJ0_checkIndex_df160 cJ0_checkIndex_df160 2 none, Cond.fieldLink RJ0 1053 "jdk/internal/util/Preconditions" "SIOOBE_FORMATTER" "Ljava/util/function/BiFunction;"]
def wsL_law_r29 : List Cond := [Cond.methodLink RJ0 1059 yJ3_checkIndex_8e157, Cond.static yJ3_checkIndex_8e157, Cond.initialized RJ3, Cond.code yJ3_checkIndex_8e157 cJ3_checkIndex_8e157 3 (some .int), Cond.methodLink RJ0 498 yJ2_charAt_3b067, Cond.static yJ2_charAt_3b067, Cond.initialized RJ2, Cond.code yJ2_charAt_3b067 cJ2_charAt_3b067 2 (some .char), Cond.methodLink RJ2 67 yJ2_checkIndex_2214a, Cond.static yJ2_checkIndex_2214a, Cond.code yJ2_checkIndex_2214a cJ2_checkIndex_2214a 2 none, Cond.methodLink RJ2 48 yJ2_length_9d52b, Cond.static yJ2_length_9d52b, Cond.code yJ2_length_9d52b cJ2_length_9d52b 1 (some .int), Cond.methodLink RJ2 414 yJ0_checkIndex_df160, Cond.methodLink RJ2 71 yJ2_getChar_3b067, Cond.static yJ2_getChar_3b067, Cond.code yJ2_getChar_3b067 cJ2_getChar_3b067 2 (some .char), Cond.fieldLink RJ2 44 "java/lang/StringUTF16" "$assertionsDisabled" "Z", Cond.fieldLink RJ2 59 "java/lang/StringUTF16" "HI_BYTE_SHIFT" "I", Cond.fieldLink RJ2 63 "java/lang/StringUTF16" "LO_BYTE_SHIFT" "I", Cond.methodLink RX4 50 yX4_readNumbers, Cond.instanceMethod yX4_readNumbers, Cond.selects RX4 yX4_readNumbers yX4_readNumbers]
def wsL_law_r30 : List Cond := [Cond.code yX4_readNumbers cX4_readNumbers 4 (some .int), Cond.methodLink RX4 84 yJ7_fill_53178, Cond.methodLink RX4 62 yX5_at, Cond.methodLink RX4 90 yX5_isDigit, Cond.instanceMethod yX5_isDigit, Cond.selects RX5 yX5_isDigit yX5_isDigit, Cond.code yX5_isDigit cX5_isDigit 2 (some .boolean), Cond.methodLink RX4 93 yX4_readNumber, Cond.instanceMethod yX4_readNumber, Cond.selects RX4 yX4_readNumber yX4_readNumber, Cond.code yX4_readNumber cX4_readNumber 4 (some .int), Cond.methodLink RX4 54 yX0_firstWrong, Cond.methodLink RX4 58 yX0_isFull, Cond.methodLink RX4 66 yX0_put, Cond.methodLink RL 100 yX8_fault, Cond.instanceMethod yX8_fault, Cond.selects RX8 yX8_fault yX8_fault, Cond.code yX8_fault cX8_fault 2 (some .int), Cond.fieldLink RX8 146 "CoreMelterModel" "faultAt" "I", Cond.fieldLink RX8 140 "CoreMelterModel" "faultReason" "I", Cond.fieldLink RX8 143 "CoreMelterModel" "faultNumber" "I", Cond.methodLink RX8 164 yX8_reads, Cond.instanceMethod yX8_reads, Cond.selects RX8 yX8_reads yX8_reads]
def wsL_law_r31 : List Cond := [Cond.code yX8_reads cX8_reads 3 (some .int), Cond.fieldLink RX8 122 "CoreMelterModel" "at" "I", Cond.methodLink RX8 161 yX8_readSegment, Cond.instanceMethod yX8_readSegment, Cond.selects RX8 yX8_readSegment yX8_readSegment, Cond.code yX8_readSegment cX8_readSegment 5 (some .int), Cond.methodLink RX8 149 yX8_readKind, Cond.instanceMethod yX8_readKind, Cond.selects RX8 yX8_readKind yX8_readKind, Cond.code yX8_readKind cX8_readKind 3 (some .int), Cond.constantLong RX8 128 (100000000), Cond.constantLong RX8 130 (27), Cond.constantLong RX8 132 (96), Cond.constantLong RX8 134 (6647), Cond.constantLong RX8 136 (1949438), Cond.constantLong RX8 138 (94574), Cond.methodLink RX8 125 yX8_here, Cond.instanceMethod yX8_here, Cond.selects RX8 yX8_here yX8_here, Cond.code yX8_here cX8_here 1 (some .int), Cond.methodLink RX8 152 yX8_fails, Cond.instanceMethod yX8_fails, Cond.selects RX8 yX8_fails yX8_fails, Cond.code yX8_fails cX8_fails 3 (some .int)]
def wsL_law_r32 : List Cond := [Cond.methodLink RX8 155 yX8_readNumber, Cond.instanceMethod yX8_readNumber, Cond.selects RX8 yX8_readNumber yX8_readNumber, Cond.code yX8_readNumber cX8_readNumber 4 (some .boolean), Cond.methodLink RX8 158 yX8_isRanged, Cond.static yX8_isRanged, Cond.code yX8_isRanged cX8_isRanged 3 (some .boolean), Cond.methodLink RL 101 yX7_lay, Cond.instanceMethod yX7_lay, Cond.selects RX7 yX7_lay yX7_lay, Cond.code yX7_lay cX7_lay 2 (some .int), Cond.fieldLink RX7 235 "CoreMelter$Reading" "core" "LCoreMelter$Core;", Cond.methodLink RX7 236 yX0_copyFrom, Cond.methodLink RL 104 yX8_lay, Cond.instanceMethod yX8_lay, Cond.selects RX8 yX8_lay yX8_lay, Cond.code yX8_lay cX8_lay 4 (some .int)]
def wsL_law : List Cond := (wsL_law_r1 ++ (wsL_law_r2 ++ (wsL_law_r3 ++ (wsL_law_r4 ++ (wsL_law_r5 ++ (wsL_law_r6 ++ (wsL_law_r7 ++ (wsL_law_r8 ++ (wsL_law_r9 ++ (wsL_law_r10 ++ (wsL_law_r11 ++ (wsL_law_r12 ++ (wsL_law_r13 ++ (wsL_law_r14 ++ (wsL_law_r15 ++ (wsL_law_r16 ++ (wsL_law_r17 ++ (wsL_law_r18 ++ (wsL_law_r19 ++ (wsL_law_r20 ++ (wsL_law_r21 ++ (wsL_law_r22 ++ (wsL_law_r23 ++ (wsL_law_r24 ++ (wsL_law_r25 ++ (wsL_law_r26 ++ (wsL_law_r27 ++ (wsL_law_r28 ++ (wsL_law_r29 ++ (wsL_law_r30 ++ (wsL_law_r31 ++ wsL_law_r32))))))))))))))))))))))))))))))) ++ wsX70 ++ wsX80 ++ wsX30 ++ wsX10 ++ wsX50 ++ wsX40 ++ wsX00 ++ wsX20 ++ wsX60 ++ ([] : List Cond)
set_option maxRecDepth 20000 in
abbrev vwCl : List vw_C := [(RX0, TX0, 7), (RX1, TX1, 3), (RX2, TX2, 5), (RX3, TX3, 15), (RX4, TX4, 6), (RX5, TX5, 2), (RX6, TX6, 5), (RX7, TX7, 5), (RX8, TX8, 11)]
end
section
theorem dX0_init_0 : decode cX0_init 0 = .ok (.aload_n 0, 1) := by decide +kernel
theorem dX0_init_1 : decode cX0_init 1 = .ok (.invokespecial 1, 3) := by decide +kernel
theorem dX0_init_4 : decode cX0_init 4 = .ok (.aload_n 0, 1) := by decide +kernel
theorem dX0_init_5 : decode cX0_init 5 = .ok (.bipush 20, 2) := by decide +kernel
theorem dX0_init_7 : decode cX0_init 7 = .ok (.newarray .int, 2) := by decide +kernel
theorem dX0_init_9 : decode cX0_init 9 = .ok (.putfield 9, 3) := by decide +kernel
theorem dX0_init_12 : decode cX0_init 12 = .ok (.aload_n 0, 1) := by decide +kernel
theorem dX0_init_13 : decode cX0_init 13 = .ok (.bipush 20, 2) := by decide +kernel
theorem dX0_init_15 : decode cX0_init 15 = .ok (.newarray .int, 2) := by decide +kernel
theorem dX0_init_17 : decode cX0_init 17 = .ok (.putfield 13, 3) := by decide +kernel
theorem dX0_init_20 : decode cX0_init 20 = .ok (.aload_n 0, 1) := by decide +kernel
theorem dX0_init_21 : decode cX0_init 21 = .ok (.bipush 20, 2) := by decide +kernel
theorem dX0_init_23 : decode cX0_init 23 = .ok (.newarray .int, 2) := by decide +kernel
theorem dX0_init_25 : decode cX0_init 25 = .ok (.putfield 16, 3) := by decide +kernel
theorem dX0_init_28 : decode cX0_init 28 = .ok (.aload_n 0, 1) := by decide +kernel
theorem dX0_init_29 : decode cX0_init 29 = .ok (.bipush 20, 2) := by decide +kernel
theorem dX0_init_31 : decode cX0_init 31 = .ok (.newarray .int, 2) := by decide +kernel
theorem dX0_init_33 : decode cX0_init 33 = .ok (.putfield 19, 3) := by decide +kernel
theorem dX0_init_36 : decode cX0_init 36 = .ok (.aload_n 0, 1) := by decide +kernel
theorem dX0_init_37 : decode cX0_init 37 = .ok (.bipush 20, 2) := by decide +kernel
theorem dX0_init_39 : decode cX0_init 39 = .ok (.newarray .int, 2) := by decide +kernel
theorem dX0_init_41 : decode cX0_init 41 = .ok (.putfield 22, 3) := by decide +kernel
theorem dX0_init_44 : decode cX0_init 44 = .ok (.return_, 1) := by decide +kernel
theorem dX0_copyFrom_0 : decode cX0_copyFrom 0 = .ok (.aload_n 0, 1) := by decide +kernel
theorem dX0_copyFrom_1 : decode cX0_copyFrom 1 = .ok (.aload_n 1, 1) := by decide +kernel
theorem dX0_copyFrom_2 : decode cX0_copyFrom 2 = .ok (.getfield 25, 3) := by decide +kernel
theorem dX0_copyFrom_5 : decode cX0_copyFrom 5 = .ok (.putfield 25, 3) := by decide +kernel
theorem dX0_copyFrom_8 : decode cX0_copyFrom 8 = .ok (.aload_n 0, 1) := by decide +kernel
theorem dX0_copyFrom_9 : decode cX0_copyFrom 9 = .ok (.aload_n 1, 1) := by decide +kernel
theorem dX0_copyFrom_10 : decode cX0_copyFrom 10 = .ok (.getfield 29, 3) := by decide +kernel
theorem dX0_copyFrom_13 : decode cX0_copyFrom 13 = .ok (.putfield 29, 3) := by decide +kernel
theorem dX0_copyFrom_16 : decode cX0_copyFrom 16 = .ok (.aload_n 1, 1) := by decide +kernel
theorem dX0_copyFrom_17 : decode cX0_copyFrom 17 = .ok (.getfield 9, 3) := by decide +kernel
theorem dX0_copyFrom_20 : decode cX0_copyFrom 20 = .ok (.iconst 0, 1) := by decide +kernel
theorem dX0_copyFrom_21 : decode cX0_copyFrom 21 = .ok (.aload_n 0, 1) := by decide +kernel
theorem dX0_copyFrom_22 : decode cX0_copyFrom 22 = .ok (.getfield 9, 3) := by decide +kernel
theorem dX0_copyFrom_25 : decode cX0_copyFrom 25 = .ok (.iconst 0, 1) := by decide +kernel
theorem dX0_copyFrom_26 : decode cX0_copyFrom 26 = .ok (.bipush 20, 2) := by decide +kernel
theorem dX0_copyFrom_28 : decode cX0_copyFrom 28 = .ok (.invokestatic 32, 3) := by decide +kernel
theorem dX0_copyFrom_31 : decode cX0_copyFrom 31 = .ok (.aload_n 1, 1) := by decide +kernel
theorem dX0_copyFrom_32 : decode cX0_copyFrom 32 = .ok (.getfield 13, 3) := by decide +kernel
theorem dX0_copyFrom_35 : decode cX0_copyFrom 35 = .ok (.iconst 0, 1) := by decide +kernel
theorem dX0_copyFrom_36 : decode cX0_copyFrom 36 = .ok (.aload_n 0, 1) := by decide +kernel
theorem dX0_copyFrom_37 : decode cX0_copyFrom 37 = .ok (.getfield 13, 3) := by decide +kernel
theorem dX0_copyFrom_40 : decode cX0_copyFrom 40 = .ok (.iconst 0, 1) := by decide +kernel
theorem dX0_copyFrom_41 : decode cX0_copyFrom 41 = .ok (.bipush 20, 2) := by decide +kernel
theorem dX0_copyFrom_43 : decode cX0_copyFrom 43 = .ok (.invokestatic 32, 3) := by decide +kernel
theorem dX0_copyFrom_46 : decode cX0_copyFrom 46 = .ok (.aload_n 1, 1) := by decide +kernel
theorem dX0_copyFrom_47 : decode cX0_copyFrom 47 = .ok (.getfield 16, 3) := by decide +kernel
theorem dX0_copyFrom_50 : decode cX0_copyFrom 50 = .ok (.iconst 0, 1) := by decide +kernel
theorem dX0_copyFrom_51 : decode cX0_copyFrom 51 = .ok (.aload_n 0, 1) := by decide +kernel
theorem dX0_copyFrom_52 : decode cX0_copyFrom 52 = .ok (.getfield 16, 3) := by decide +kernel
theorem dX0_copyFrom_55 : decode cX0_copyFrom 55 = .ok (.iconst 0, 1) := by decide +kernel
theorem dX0_copyFrom_56 : decode cX0_copyFrom 56 = .ok (.bipush 20, 2) := by decide +kernel
theorem dX0_copyFrom_58 : decode cX0_copyFrom 58 = .ok (.invokestatic 32, 3) := by decide +kernel
theorem dX0_copyFrom_61 : decode cX0_copyFrom 61 = .ok (.aload_n 1, 1) := by decide +kernel
theorem dX0_copyFrom_62 : decode cX0_copyFrom 62 = .ok (.getfield 19, 3) := by decide +kernel
theorem dX0_copyFrom_65 : decode cX0_copyFrom 65 = .ok (.iconst 0, 1) := by decide +kernel
theorem dX0_copyFrom_66 : decode cX0_copyFrom 66 = .ok (.aload_n 0, 1) := by decide +kernel
theorem dX0_copyFrom_67 : decode cX0_copyFrom 67 = .ok (.getfield 19, 3) := by decide +kernel
theorem dX0_copyFrom_70 : decode cX0_copyFrom 70 = .ok (.iconst 0, 1) := by decide +kernel
theorem dX0_copyFrom_71 : decode cX0_copyFrom 71 = .ok (.bipush 20, 2) := by decide +kernel
theorem dX0_copyFrom_73 : decode cX0_copyFrom 73 = .ok (.invokestatic 32, 3) := by decide +kernel
theorem dX0_copyFrom_76 : decode cX0_copyFrom 76 = .ok (.aload_n 1, 1) := by decide +kernel
theorem dX0_copyFrom_77 : decode cX0_copyFrom 77 = .ok (.getfield 22, 3) := by decide +kernel
theorem dX0_copyFrom_80 : decode cX0_copyFrom 80 = .ok (.iconst 0, 1) := by decide +kernel
theorem dX0_copyFrom_81 : decode cX0_copyFrom 81 = .ok (.aload_n 0, 1) := by decide +kernel
theorem dX0_copyFrom_82 : decode cX0_copyFrom 82 = .ok (.getfield 22, 3) := by decide +kernel
theorem dX0_copyFrom_85 : decode cX0_copyFrom 85 = .ok (.iconst 0, 1) := by decide +kernel
theorem dX0_copyFrom_86 : decode cX0_copyFrom 86 = .ok (.bipush 20, 2) := by decide +kernel
theorem dX0_copyFrom_88 : decode cX0_copyFrom 88 = .ok (.invokestatic 32, 3) := by decide +kernel
theorem dX0_copyFrom_91 : decode cX0_copyFrom 91 = .ok (.return_, 1) := by decide +kernel
set_option maxRecDepth 20000 in
theorem ggX0_firstWrong_X0_leastDensity : GoodIn wsX0_firstWrong wsX0_leastDensity := goodIn_r _ [4] (by decide +kernel) (by decide +kernel)
set_option maxRecDepth 20000 in
theorem gX0_firstWrong_X0_leastDensity : GoodIn wsX0_firstWrong (va_wsS RX0 38 yX0_leastDensity wsX0_leastDensity) := goodIn_app (goodIn_of _ (by decide +kernel)) ggX0_firstWrong_X0_leastDensity
set_option maxRecDepth 20000 in
theorem ggX0_firstWrong_X0_mostDensity : GoodIn wsX0_firstWrong wsX0_mostDensity := goodIn_r _ [7] (by decide +kernel) (by decide +kernel)
set_option maxRecDepth 20000 in
theorem gX0_firstWrong_X0_mostDensity : GoodIn wsX0_firstWrong (va_wsS RX0 42 yX0_mostDensity wsX0_mostDensity) := goodIn_app (goodIn_of _ (by decide +kernel)) ggX0_firstWrong_X0_mostDensity
set_option maxRecDepth 20000 in
theorem ggX0_firstWrong_X0_leastMore : GoodIn wsX0_firstWrong wsX0_leastMore := goodIn_r _ [10] (by decide +kernel) (by decide +kernel)
set_option maxRecDepth 20000 in
theorem gX0_firstWrong_X0_leastMore : GoodIn wsX0_firstWrong (va_wsS RX0 45 yX0_leastMore wsX0_leastMore) := goodIn_app (goodIn_of _ (by decide +kernel)) ggX0_firstWrong_X0_leastMore
set_option maxRecDepth 20000 in
theorem ggX0_firstWrong_X0_mostMore : GoodIn wsX0_firstWrong wsX0_mostMore := goodIn_r _ [13] (by decide +kernel) (by decide +kernel)
set_option maxRecDepth 20000 in
theorem gX0_firstWrong_X0_mostMore : GoodIn wsX0_firstWrong (va_wsS RX0 48 yX0_mostMore wsX0_mostMore) := goodIn_app (goodIn_of _ (by decide +kernel)) ggX0_firstWrong_X0_mostMore
theorem dX0_firstWrong_0 : decode cX0_firstWrong 0 = .ok (.iload_n 1, 1) := by decide +kernel
theorem dX0_firstWrong_1 : decode cX0_firstWrong 1 = .ok (.iconst 1, 1) := by decide +kernel
theorem dX0_firstWrong_2 : decode cX0_firstWrong 2 = .ok (.if_icmp .lt 10, 3) := by decide +kernel
theorem dX0_firstWrong_5 : decode cX0_firstWrong 5 = .ok (.iload_n 1, 1) := by decide +kernel
theorem dX0_firstWrong_6 : decode cX0_firstWrong 6 = .ok (.sipush 300, 3) := by decide +kernel
theorem dX0_firstWrong_9 : decode cX0_firstWrong 9 = .ok (.if_icmp .le 5, 3) := by decide +kernel
theorem dX0_firstWrong_12 : decode cX0_firstWrong 12 = .ok (.iconst 1, 1) := by decide +kernel
theorem dX0_firstWrong_13 : decode cX0_firstWrong 13 = .ok (.ireturn, 1) := by decide +kernel
theorem dX0_firstWrong_14 : decode cX0_firstWrong 14 = .ok (.iload_n 2, 1) := by decide +kernel
theorem dX0_firstWrong_15 : decode cX0_firstWrong 15 = .ok (.iload_n 0, 1) := by decide +kernel
theorem dX0_firstWrong_16 : decode cX0_firstWrong 16 = .ok (.invokestatic 38, 3) := by decide +kernel
theorem dX0_firstWrong_19 : decode cX0_firstWrong 19 = .ok (.if_icmp .lt 11, 3) := by decide +kernel
theorem dX0_firstWrong_22 : decode cX0_firstWrong 22 = .ok (.iload_n 2, 1) := by decide +kernel
theorem dX0_firstWrong_23 : decode cX0_firstWrong 23 = .ok (.iload_n 0, 1) := by decide +kernel
theorem dX0_firstWrong_24 : decode cX0_firstWrong 24 = .ok (.invokestatic 42, 3) := by decide +kernel
theorem dX0_firstWrong_27 : decode cX0_firstWrong 27 = .ok (.if_icmp .le 5, 3) := by decide +kernel
theorem dX0_firstWrong_30 : decode cX0_firstWrong 30 = .ok (.iconst 2, 1) := by decide +kernel
theorem dX0_firstWrong_31 : decode cX0_firstWrong 31 = .ok (.ireturn, 1) := by decide +kernel
theorem dX0_firstWrong_32 : decode cX0_firstWrong 32 = .ok (.iload_n 3, 1) := by decide +kernel
theorem dX0_firstWrong_33 : decode cX0_firstWrong 33 = .ok (.iload_n 0, 1) := by decide +kernel
theorem dX0_firstWrong_34 : decode cX0_firstWrong 34 = .ok (.invokestatic 45, 3) := by decide +kernel
theorem dX0_firstWrong_37 : decode cX0_firstWrong 37 = .ok (.if_icmp .lt 11, 3) := by decide +kernel
theorem dX0_firstWrong_40 : decode cX0_firstWrong 40 = .ok (.iload_n 3, 1) := by decide +kernel
theorem dX0_firstWrong_41 : decode cX0_firstWrong 41 = .ok (.iload_n 0, 1) := by decide +kernel
theorem dX0_firstWrong_42 : decode cX0_firstWrong 42 = .ok (.invokestatic 48, 3) := by decide +kernel
theorem dX0_firstWrong_45 : decode cX0_firstWrong 45 = .ok (.if_icmp .le 7, 3) := by decide +kernel
theorem dX0_firstWrong_48 : decode cX0_firstWrong 48 = .ok (.iconst 3, 1) := by decide +kernel
theorem dX0_firstWrong_49 : decode cX0_firstWrong 49 = .ok (.goto 4, 3) := by decide +kernel
theorem dX0_firstWrong_52 : decode cX0_firstWrong 52 = .ok (.iconst 0, 1) := by decide +kernel
theorem dX0_firstWrong_53 : decode cX0_firstWrong 53 = .ok (.ireturn, 1) := by decide +kernel
theorem dX0_leastDensity_0 : decode cX0_leastDensity 0 = .ok (.iload_n 0, 1) := by decide +kernel
theorem dX0_leastDensity_1 : decode cX0_leastDensity 1 = .ok (.iconst 1, 1) := by decide +kernel
theorem dX0_leastDensity_2 : decode cX0_leastDensity 2 = .ok (.if_icmp .ne 7, 3) := by decide +kernel
theorem dX0_leastDensity_5 : decode cX0_leastDensity 5 = .ok (.iconst 0, 1) := by decide +kernel
theorem dX0_leastDensity_6 : decode cX0_leastDensity 6 = .ok (.goto 5, 3) := by decide +kernel
theorem dX0_leastDensity_9 : decode cX0_leastDensity 9 = .ok (.bipush 60, 2) := by decide +kernel
theorem dX0_leastDensity_11 : decode cX0_leastDensity 11 = .ok (.ireturn, 1) := by decide +kernel
theorem dX0_mostDensity_0 : decode cX0_mostDensity 0 = .ok (.iload_n 0, 1) := by decide +kernel
theorem dX0_mostDensity_1 : decode cX0_mostDensity 1 = .ok (.iconst 1, 1) := by decide +kernel
theorem dX0_mostDensity_2 : decode cX0_mostDensity 2 = .ok (.if_icmp .ne 7, 3) := by decide +kernel
theorem dX0_mostDensity_5 : decode cX0_mostDensity 5 = .ok (.iconst 0, 1) := by decide +kernel
theorem dX0_mostDensity_6 : decode cX0_mostDensity 6 = .ok (.goto 5, 3) := by decide +kernel
theorem dX0_mostDensity_9 : decode cX0_mostDensity 9 = .ok (.bipush 92, 2) := by decide +kernel
theorem dX0_mostDensity_11 : decode cX0_mostDensity 11 = .ok (.ireturn, 1) := by decide +kernel
theorem dX0_leastMore_0 : decode cX0_leastMore 0 = .ok (.iload_n 0, 1) := by decide +kernel
theorem dX0_leastMore_1 : decode cX0_leastMore 1 = .ok (.iconst 2, 1) := by decide +kernel
theorem dX0_leastMore_2 : decode cX0_leastMore 2 = .ok (.if_icmp .ne 7, 3) := by decide +kernel
theorem dX0_leastMore_5 : decode cX0_leastMore 5 = .ok (.iconst 1, 1) := by decide +kernel
theorem dX0_leastMore_6 : decode cX0_leastMore 6 = .ok (.goto 4, 3) := by decide +kernel
theorem dX0_leastMore_9 : decode cX0_leastMore 9 = .ok (.iconst 0, 1) := by decide +kernel
theorem dX0_leastMore_10 : decode cX0_leastMore 10 = .ok (.ireturn, 1) := by decide +kernel
theorem dX0_mostMore_0 : decode cX0_mostMore 0 = .ok (.iload_n 0, 1) := by decide +kernel
theorem dX0_mostMore_1 : decode cX0_mostMore 1 = .ok (.lookupswitch 33 #[(0, 27), (2, 30)], 27) := by decide +kernel
theorem dX0_mostMore_28 : decode cX0_mostMore 28 = .ok (.bipush 50, 2) := by decide +kernel
theorem dX0_mostMore_30 : decode cX0_mostMore 30 = .ok (.ireturn, 1) := by decide +kernel
theorem dX0_mostMore_31 : decode cX0_mostMore 31 = .ok (.bipush 100, 2) := by decide +kernel
theorem dX0_mostMore_33 : decode cX0_mostMore 33 = .ok (.ireturn, 1) := by decide +kernel
theorem dX0_mostMore_34 : decode cX0_mostMore 34 = .ok (.iconst 0, 1) := by decide +kernel
theorem dX0_mostMore_35 : decode cX0_mostMore 35 = .ok (.ireturn, 1) := by decide +kernel
theorem dX0_isFull_0 : decode cX0_isFull 0 = .ok (.aload_n 0, 1) := by decide +kernel
theorem dX0_isFull_1 : decode cX0_isFull 1 = .ok (.getfield 25, 3) := by decide +kernel
theorem dX0_isFull_4 : decode cX0_isFull 4 = .ok (.bipush 20, 2) := by decide +kernel
theorem dX0_isFull_6 : decode cX0_isFull 6 = .ok (.if_icmp .lt 7, 3) := by decide +kernel
theorem dX0_isFull_9 : decode cX0_isFull 9 = .ok (.iconst 1, 1) := by decide +kernel
theorem dX0_isFull_10 : decode cX0_isFull 10 = .ok (.goto 4, 3) := by decide +kernel
theorem dX0_isFull_13 : decode cX0_isFull 13 = .ok (.iconst 0, 1) := by decide +kernel
theorem dX0_isFull_14 : decode cX0_isFull 14 = .ok (.ireturn, 1) := by decide +kernel
set_option maxRecDepth 20000 in
theorem ggX0_put_X0_isFull : GoodIn wsX0_put wsX0_isFull := goodIn_r _ [12, 2, 13, 14, 15, 16, 17, 18, 19] (by decide +kernel) (by decide +kernel)
set_option maxRecDepth 20000 in
theorem gX0_put_X0_isFull : GoodIn wsX0_put (wsV RX0 51 RX0 yX0_isFull wsX0_isFull) := goodIn_app (goodIn_of _ (by decide +kernel)) ggX0_put_X0_isFull
theorem dX0_put_0 : decode cX0_put 0 = .ok (.aload_n 0, 1) := by decide +kernel
theorem dX0_put_1 : decode cX0_put 1 = .ok (.invokevirtual 51, 3) := by decide +kernel
theorem dX0_put_4 : decode cX0_put 4 = .ok (.ifCond .eq 4, 3) := by decide +kernel
theorem dX0_put_7 : decode cX0_put 7 = .ok (.return_, 1) := by decide +kernel
theorem dX0_put_8 : decode cX0_put 8 = .ok (.aload_n 0, 1) := by decide +kernel
theorem dX0_put_9 : decode cX0_put 9 = .ok (.getfield 9, 3) := by decide +kernel
theorem dX0_put_12 : decode cX0_put 12 = .ok (.aload_n 0, 1) := by decide +kernel
theorem dX0_put_13 : decode cX0_put 13 = .ok (.getfield 25, 3) := by decide +kernel
theorem dX0_put_16 : decode cX0_put 16 = .ok (.iload_n 1, 1) := by decide +kernel
theorem dX0_put_17 : decode cX0_put 17 = .ok (.iastore, 1) := by decide +kernel
theorem dX0_put_18 : decode cX0_put 18 = .ok (.aload_n 0, 1) := by decide +kernel
theorem dX0_put_19 : decode cX0_put 19 = .ok (.getfield 13, 3) := by decide +kernel
theorem dX0_put_22 : decode cX0_put 22 = .ok (.aload_n 0, 1) := by decide +kernel
theorem dX0_put_23 : decode cX0_put 23 = .ok (.getfield 25, 3) := by decide +kernel
theorem dX0_put_26 : decode cX0_put 26 = .ok (.iload_n 2, 1) := by decide +kernel
theorem dX0_put_27 : decode cX0_put 27 = .ok (.iastore, 1) := by decide +kernel
theorem dX0_put_28 : decode cX0_put 28 = .ok (.aload_n 0, 1) := by decide +kernel
theorem dX0_put_29 : decode cX0_put 29 = .ok (.getfield 16, 3) := by decide +kernel
theorem dX0_put_32 : decode cX0_put 32 = .ok (.aload_n 0, 1) := by decide +kernel
theorem dX0_put_33 : decode cX0_put 33 = .ok (.getfield 25, 3) := by decide +kernel
theorem dX0_put_36 : decode cX0_put 36 = .ok (.iload_n 3, 1) := by decide +kernel
theorem dX0_put_37 : decode cX0_put 37 = .ok (.iastore, 1) := by decide +kernel
theorem dX0_put_38 : decode cX0_put 38 = .ok (.aload_n 0, 1) := by decide +kernel
theorem dX0_put_39 : decode cX0_put 39 = .ok (.getfield 19, 3) := by decide +kernel
theorem dX0_put_42 : decode cX0_put 42 = .ok (.aload_n 0, 1) := by decide +kernel
theorem dX0_put_43 : decode cX0_put 43 = .ok (.getfield 25, 3) := by decide +kernel
theorem dX0_put_46 : decode cX0_put 46 = .ok (.iload 4, 2) := by decide +kernel
theorem dX0_put_48 : decode cX0_put 48 = .ok (.iastore, 1) := by decide +kernel
theorem dX0_put_49 : decode cX0_put 49 = .ok (.aload_n 0, 1) := by decide +kernel
theorem dX0_put_50 : decode cX0_put 50 = .ok (.getfield 22, 3) := by decide +kernel
theorem dX0_put_53 : decode cX0_put 53 = .ok (.aload_n 0, 1) := by decide +kernel
theorem dX0_put_54 : decode cX0_put 54 = .ok (.getfield 25, 3) := by decide +kernel
theorem dX0_put_57 : decode cX0_put 57 = .ok (.aload_n 0, 1) := by decide +kernel
theorem dX0_put_58 : decode cX0_put 58 = .ok (.getfield 29, 3) := by decide +kernel
theorem dX0_put_61 : decode cX0_put 61 = .ok (.iastore, 1) := by decide +kernel
theorem dX0_put_62 : decode cX0_put 62 = .ok (.aload_n 0, 1) := by decide +kernel
theorem dX0_put_63 : decode cX0_put 63 = .ok (.dup, 1) := by decide +kernel
theorem dX0_put_64 : decode cX0_put 64 = .ok (.getfield 29, 3) := by decide +kernel
theorem dX0_put_67 : decode cX0_put 67 = .ok (.iload_n 2, 1) := by decide +kernel
theorem dX0_put_68 : decode cX0_put 68 = .ok (.iadd, 1) := by decide +kernel
theorem dX0_put_69 : decode cX0_put 69 = .ok (.putfield 29, 3) := by decide +kernel
theorem dX0_put_72 : decode cX0_put 72 = .ok (.aload_n 0, 1) := by decide +kernel
theorem dX0_put_73 : decode cX0_put 73 = .ok (.dup, 1) := by decide +kernel
theorem dX0_put_74 : decode cX0_put 74 = .ok (.getfield 25, 3) := by decide +kernel
theorem dX0_put_77 : decode cX0_put 77 = .ok (.iconst 1, 1) := by decide +kernel
theorem dX0_put_78 : decode cX0_put 78 = .ok (.iadd, 1) := by decide +kernel
theorem dX0_put_79 : decode cX0_put 79 = .ok (.putfield 25, 3) := by decide +kernel
theorem dX0_put_82 : decode cX0_put 82 = .ok (.return_, 1) := by decide +kernel
theorem dX0_end_0 : decode cX0_end 0 = .ok (.aload_n 0, 1) := by decide +kernel
theorem dX0_end_1 : decode cX0_end 1 = .ok (.getfield 22, 3) := by decide +kernel
theorem dX0_end_4 : decode cX0_end 4 = .ok (.iload_n 1, 1) := by decide +kernel
theorem dX0_end_5 : decode cX0_end 5 = .ok (.iaload, 1) := by decide +kernel
theorem dX0_end_6 : decode cX0_end 6 = .ok (.aload_n 0, 1) := by decide +kernel
theorem dX0_end_7 : decode cX0_end 7 = .ok (.getfield 13, 3) := by decide +kernel
theorem dX0_end_10 : decode cX0_end 10 = .ok (.iload_n 1, 1) := by decide +kernel
theorem dX0_end_11 : decode cX0_end 11 = .ok (.iaload, 1) := by decide +kernel
theorem dX0_end_12 : decode cX0_end 12 = .ok (.iadd, 1) := by decide +kernel
theorem dX0_end_13 : decode cX0_end 13 = .ok (.ireturn, 1) := by decide +kernel
set_option maxRecDepth 20000 in
theorem ggX0_holding_X0_end : GoodIn wsX0_holding wsX0_end := goodIn_r _ [6, 7, 8, 9, 10, 11, 12, 13, 14, 15] (by decide +kernel) (by decide +kernel)
set_option maxRecDepth 20000 in
theorem gX0_holding_X0_end : GoodIn wsX0_holding (wsV RX0 55 RX0 yX0_end wsX0_end) := goodIn_app (goodIn_of _ (by decide +kernel)) ggX0_holding_X0_end
theorem dX0_holding_0 : decode cX0_holding 0 = .ok (.iconst 0, 1) := by decide +kernel
theorem dX0_holding_1 : decode cX0_holding 1 = .ok (.istore_n 2, 1) := by decide +kernel
theorem dX0_holding_2 : decode cX0_holding 2 = .ok (.iload_n 2, 1) := by decide +kernel
theorem dX0_holding_3 : decode cX0_holding 3 = .ok (.aload_n 0, 1) := by decide +kernel
theorem dX0_holding_4 : decode cX0_holding 4 = .ok (.getfield 25, 3) := by decide +kernel
theorem dX0_holding_7 : decode cX0_holding 7 = .ok (.if_icmp .ge 18, 3) := by decide +kernel
theorem dX0_holding_10 : decode cX0_holding 10 = .ok (.iload_n 1, 1) := by decide +kernel
theorem dX0_holding_11 : decode cX0_holding 11 = .ok (.aload_n 0, 1) := by decide +kernel
theorem dX0_holding_12 : decode cX0_holding 12 = .ok (.iload_n 2, 1) := by decide +kernel
theorem dX0_holding_13 : decode cX0_holding 13 = .ok (.invokevirtual 55, 3) := by decide +kernel
theorem dX0_holding_16 : decode cX0_holding 16 = .ok (.if_icmp .lt 9, 3) := by decide +kernel
theorem dX0_holding_19 : decode cX0_holding 19 = .ok (.iinc 2 1, 3) := by decide +kernel
theorem dX0_holding_22 : decode cX0_holding 22 = .ok (.goto (-20), 3) := by decide +kernel
theorem dX0_holding_25 : decode cX0_holding 25 = .ok (.iload_n 2, 1) := by decide +kernel
theorem dX0_holding_26 : decode cX0_holding 26 = .ok (.ireturn, 1) := by decide +kernel
theorem dX0_gasOfUnit_0 : decode cX0_gasOfUnit 0 = .ok (.aload_n 0, 1) := by decide +kernel
theorem dX0_gasOfUnit_1 : decode cX0_gasOfUnit 1 = .ok (.getfield 9, 3) := by decide +kernel
theorem dX0_gasOfUnit_4 : decode cX0_gasOfUnit 4 = .ok (.iload_n 1, 1) := by decide +kernel
theorem dX0_gasOfUnit_5 : decode cX0_gasOfUnit 5 = .ok (.iaload, 1) := by decide +kernel
theorem dX0_gasOfUnit_6 : decode cX0_gasOfUnit 6 = .ok (.ifCond .ne 22, 3) := by decide +kernel
theorem dX0_gasOfUnit_9 : decode cX0_gasOfUnit 9 = .ok (.aload_n 0, 1) := by decide +kernel
theorem dX0_gasOfUnit_10 : decode cX0_gasOfUnit 10 = .ok (.getfield 16, 3) := by decide +kernel
theorem dX0_gasOfUnit_13 : decode cX0_gasOfUnit 13 = .ok (.iload_n 1, 1) := by decide +kernel
theorem dX0_gasOfUnit_14 : decode cX0_gasOfUnit 14 = .ok (.iaload, 1) := by decide +kernel
theorem dX0_gasOfUnit_15 : decode cX0_gasOfUnit 15 = .ok (.aload_n 0, 1) := by decide +kernel
theorem dX0_gasOfUnit_16 : decode cX0_gasOfUnit 16 = .ok (.getfield 19, 3) := by decide +kernel
theorem dX0_gasOfUnit_19 : decode cX0_gasOfUnit 19 = .ok (.iload_n 1, 1) := by decide +kernel
theorem dX0_gasOfUnit_20 : decode cX0_gasOfUnit 20 = .ok (.iaload, 1) := by decide +kernel
theorem dX0_gasOfUnit_21 : decode cX0_gasOfUnit 21 = .ok (.imul, 1) := by decide +kernel
theorem dX0_gasOfUnit_22 : decode cX0_gasOfUnit 22 = .ok (.bipush 100, 2) := by decide +kernel
theorem dX0_gasOfUnit_24 : decode cX0_gasOfUnit 24 = .ok (.idiv, 1) := by decide +kernel
theorem dX0_gasOfUnit_25 : decode cX0_gasOfUnit 25 = .ok (.goto 4, 3) := by decide +kernel
theorem dX0_gasOfUnit_28 : decode cX0_gasOfUnit 28 = .ok (.iconst 0, 1) := by decide +kernel
theorem dX0_gasOfUnit_29 : decode cX0_gasOfUnit 29 = .ok (.ireturn, 1) := by decide +kernel
theorem dX0_dirtOfUnit_0 : decode cX0_dirtOfUnit 0 = .ok (.aload_n 0, 1) := by decide +kernel
theorem dX0_dirtOfUnit_1 : decode cX0_dirtOfUnit 1 = .ok (.getfield 9, 3) := by decide +kernel
theorem dX0_dirtOfUnit_4 : decode cX0_dirtOfUnit 4 = .ok (.iload_n 1, 1) := by decide +kernel
theorem dX0_dirtOfUnit_5 : decode cX0_dirtOfUnit 5 = .ok (.iaload, 1) := by decide +kernel
theorem dX0_dirtOfUnit_6 : decode cX0_dirtOfUnit 6 = .ok (.iconst 2, 1) := by decide +kernel
theorem dX0_dirtOfUnit_7 : decode cX0_dirtOfUnit 7 = .ok (.if_icmp .ne 12, 3) := by decide +kernel
theorem dX0_dirtOfUnit_10 : decode cX0_dirtOfUnit 10 = .ok (.aload_n 0, 1) := by decide +kernel
theorem dX0_dirtOfUnit_11 : decode cX0_dirtOfUnit 11 = .ok (.getfield 19, 3) := by decide +kernel
theorem dX0_dirtOfUnit_14 : decode cX0_dirtOfUnit 14 = .ok (.iload_n 1, 1) := by decide +kernel
theorem dX0_dirtOfUnit_15 : decode cX0_dirtOfUnit 15 = .ok (.iaload, 1) := by decide +kernel
theorem dX0_dirtOfUnit_16 : decode cX0_dirtOfUnit 16 = .ok (.goto 4, 3) := by decide +kernel
theorem dX0_dirtOfUnit_19 : decode cX0_dirtOfUnit 19 = .ok (.iconst 0, 1) := by decide +kernel
theorem dX0_dirtOfUnit_20 : decode cX0_dirtOfUnit 20 = .ok (.ireturn, 1) := by decide +kernel
theorem dX0_partBelow_0 : decode cX0_partBelow 0 = .ok (.iconst 0, 1) := by decide +kernel
theorem dX0_partBelow_1 : decode cX0_partBelow 1 = .ok (.iload_n 1, 1) := by decide +kernel
theorem dX0_partBelow_2 : decode cX0_partBelow 2 = .ok (.aload_n 0, 1) := by decide +kernel
theorem dX0_partBelow_3 : decode cX0_partBelow 3 = .ok (.getfield 22, 3) := by decide +kernel
theorem dX0_partBelow_6 : decode cX0_partBelow 6 = .ok (.iload_n 2, 1) := by decide +kernel
theorem dX0_partBelow_7 : decode cX0_partBelow 7 = .ok (.iaload, 1) := by decide +kernel
theorem dX0_partBelow_8 : decode cX0_partBelow 8 = .ok (.isub, 1) := by decide +kernel
theorem dX0_partBelow_9 : decode cX0_partBelow 9 = .ok (.aload_n 0, 1) := by decide +kernel
theorem dX0_partBelow_10 : decode cX0_partBelow 10 = .ok (.getfield 13, 3) := by decide +kernel
theorem dX0_partBelow_13 : decode cX0_partBelow 13 = .ok (.iload_n 2, 1) := by decide +kernel
theorem dX0_partBelow_14 : decode cX0_partBelow 14 = .ok (.iaload, 1) := by decide +kernel
theorem dX0_partBelow_15 : decode cX0_partBelow 15 = .ok (.invokestatic 58, 3) := by decide +kernel
theorem dX0_partBelow_18 : decode cX0_partBelow 18 = .ok (.invokestatic 64, 3) := by decide +kernel
theorem dX0_partBelow_21 : decode cX0_partBelow 21 = .ok (.ireturn, 1) := by decide +kernel
set_option maxRecDepth 20000 in
theorem ggX0_waterUpTo_X0_partBelow : GoodIn wsX0_waterUpTo wsX0_partBelow := goodIn_r _ [7, 8, 9, 10, 11, 12, 13, 14, 15, 16, 17, 18, 19, 20, 21, 22, 23] (by decide +kernel) (by decide +kernel)
set_option maxRecDepth 20000 in
theorem gX0_waterUpTo_X0_partBelow : GoodIn wsX0_waterUpTo (wsV RX0 67 RX0 yX0_partBelow wsX0_partBelow) := goodIn_app (goodIn_of _ (by decide +kernel)) ggX0_waterUpTo_X0_partBelow
theorem dX0_waterUpTo_0 : decode cX0_waterUpTo 0 = .ok (.iconst 0, 1) := by decide +kernel
theorem dX0_waterUpTo_1 : decode cX0_waterUpTo 1 = .ok (.istore_n 2, 1) := by decide +kernel
theorem dX0_waterUpTo_2 : decode cX0_waterUpTo 2 = .ok (.iconst 0, 1) := by decide +kernel
theorem dX0_waterUpTo_3 : decode cX0_waterUpTo 3 = .ok (.istore_n 3, 1) := by decide +kernel
theorem dX0_waterUpTo_4 : decode cX0_waterUpTo 4 = .ok (.iload_n 3, 1) := by decide +kernel
theorem dX0_waterUpTo_5 : decode cX0_waterUpTo 5 = .ok (.aload_n 0, 1) := by decide +kernel
theorem dX0_waterUpTo_6 : decode cX0_waterUpTo 6 = .ok (.getfield 25, 3) := by decide +kernel
theorem dX0_waterUpTo_9 : decode cX0_waterUpTo 9 = .ok (.if_icmp .ge 25, 3) := by decide +kernel
theorem dX0_waterUpTo_12 : decode cX0_waterUpTo 12 = .ok (.iload_n 2, 1) := by decide +kernel
theorem dX0_waterUpTo_13 : decode cX0_waterUpTo 13 = .ok (.aload_n 0, 1) := by decide +kernel
theorem dX0_waterUpTo_14 : decode cX0_waterUpTo 14 = .ok (.getfield 16, 3) := by decide +kernel
theorem dX0_waterUpTo_17 : decode cX0_waterUpTo 17 = .ok (.iload_n 3, 1) := by decide +kernel
theorem dX0_waterUpTo_18 : decode cX0_waterUpTo 18 = .ok (.iaload, 1) := by decide +kernel
theorem dX0_waterUpTo_19 : decode cX0_waterUpTo 19 = .ok (.aload_n 0, 1) := by decide +kernel
theorem dX0_waterUpTo_20 : decode cX0_waterUpTo 20 = .ok (.iload_n 1, 1) := by decide +kernel
theorem dX0_waterUpTo_21 : decode cX0_waterUpTo 21 = .ok (.iload_n 3, 1) := by decide +kernel
theorem dX0_waterUpTo_22 : decode cX0_waterUpTo 22 = .ok (.invokevirtual 67, 3) := by decide +kernel
theorem dX0_waterUpTo_25 : decode cX0_waterUpTo 25 = .ok (.imul, 1) := by decide +kernel
theorem dX0_waterUpTo_26 : decode cX0_waterUpTo 26 = .ok (.iadd, 1) := by decide +kernel
theorem dX0_waterUpTo_27 : decode cX0_waterUpTo 27 = .ok (.istore_n 2, 1) := by decide +kernel
theorem dX0_waterUpTo_28 : decode cX0_waterUpTo 28 = .ok (.iinc 3 1, 3) := by decide +kernel
theorem dX0_waterUpTo_31 : decode cX0_waterUpTo 31 = .ok (.goto (-27), 3) := by decide +kernel
theorem dX0_waterUpTo_34 : decode cX0_waterUpTo 34 = .ok (.iload_n 2, 1) := by decide +kernel
theorem dX0_waterUpTo_35 : decode cX0_waterUpTo 35 = .ok (.ireturn, 1) := by decide +kernel
theorem dX0_depthOf_0 : decode cX0_depthOf 0 = .ok (.iload_n 1, 1) := by decide +kernel
theorem dX0_depthOf_1 : decode cX0_depthOf 1 = .ok (.istore_n 2, 1) := by decide +kernel
theorem dX0_depthOf_2 : decode cX0_depthOf 2 = .ok (.iconst 0, 1) := by decide +kernel
theorem dX0_depthOf_3 : decode cX0_depthOf 3 = .ok (.istore_n 3, 1) := by decide +kernel
theorem dX0_depthOf_4 : decode cX0_depthOf 4 = .ok (.iconst 0, 1) := by decide +kernel
theorem dX0_depthOf_5 : decode cX0_depthOf 5 = .ok (.istore 4, 2) := by decide +kernel
theorem dX0_depthOf_7 : decode cX0_depthOf 7 = .ok (.iload 4, 2) := by decide +kernel
theorem dX0_depthOf_9 : decode cX0_depthOf 9 = .ok (.aload_n 0, 1) := by decide +kernel
theorem dX0_depthOf_10 : decode cX0_depthOf 10 = .ok (.getfield 25, 3) := by decide +kernel
theorem dX0_depthOf_13 : decode cX0_depthOf 13 = .ok (.if_icmp .ge 77, 3) := by decide +kernel
theorem dX0_depthOf_16 : decode cX0_depthOf 16 = .ok (.aload_n 0, 1) := by decide +kernel
theorem dX0_depthOf_17 : decode cX0_depthOf 17 = .ok (.getfield 16, 3) := by decide +kernel
theorem dX0_depthOf_20 : decode cX0_depthOf 20 = .ok (.iload 4, 2) := by decide +kernel
theorem dX0_depthOf_22 : decode cX0_depthOf 22 = .ok (.iaload, 1) := by decide +kernel
theorem dX0_depthOf_23 : decode cX0_depthOf 23 = .ok (.istore 5, 2) := by decide +kernel
theorem dX0_depthOf_25 : decode cX0_depthOf 25 = .ok (.iload 5, 2) := by decide +kernel
theorem dX0_depthOf_27 : decode cX0_depthOf 27 = .ok (.ifCond .le 20, 3) := by decide +kernel
theorem dX0_depthOf_30 : decode cX0_depthOf 30 = .ok (.aload_n 0, 1) := by decide +kernel
theorem dX0_depthOf_31 : decode cX0_depthOf 31 = .ok (.getfield 13, 3) := by decide +kernel
theorem dX0_depthOf_34 : decode cX0_depthOf 34 = .ok (.iload 4, 2) := by decide +kernel
theorem dX0_depthOf_36 : decode cX0_depthOf 36 = .ok (.iaload, 1) := by decide +kernel
theorem dX0_depthOf_37 : decode cX0_depthOf 37 = .ok (.iload_n 2, 1) := by decide +kernel
theorem dX0_depthOf_38 : decode cX0_depthOf 38 = .ok (.iload 5, 2) := by decide +kernel
theorem dX0_depthOf_40 : decode cX0_depthOf 40 = .ok (.idiv, 1) := by decide +kernel
theorem dX0_depthOf_41 : decode cX0_depthOf 41 = .ok (.invokestatic 58, 3) := by decide +kernel
theorem dX0_depthOf_44 : decode cX0_depthOf 44 = .ok (.goto 10, 3) := by decide +kernel
theorem dX0_depthOf_47 : decode cX0_depthOf 47 = .ok (.aload_n 0, 1) := by decide +kernel
theorem dX0_depthOf_48 : decode cX0_depthOf 48 = .ok (.getfield 13, 3) := by decide +kernel
theorem dX0_depthOf_51 : decode cX0_depthOf 51 = .ok (.iload 4, 2) := by decide +kernel
theorem dX0_depthOf_53 : decode cX0_depthOf 53 = .ok (.iaload, 1) := by decide +kernel
theorem dX0_depthOf_54 : decode cX0_depthOf 54 = .ok (.istore 6, 2) := by decide +kernel
theorem dX0_depthOf_56 : decode cX0_depthOf 56 = .ok (.iload_n 3, 1) := by decide +kernel
theorem dX0_depthOf_57 : decode cX0_depthOf 57 = .ok (.iload 6, 2) := by decide +kernel
theorem dX0_depthOf_59 : decode cX0_depthOf 59 = .ok (.iadd, 1) := by decide +kernel
theorem dX0_depthOf_60 : decode cX0_depthOf 60 = .ok (.istore_n 3, 1) := by decide +kernel
theorem dX0_depthOf_61 : decode cX0_depthOf 61 = .ok (.iload_n 2, 1) := by decide +kernel
theorem dX0_depthOf_62 : decode cX0_depthOf 62 = .ok (.iload 6, 2) := by decide +kernel
theorem dX0_depthOf_64 : decode cX0_depthOf 64 = .ok (.iload 5, 2) := by decide +kernel
theorem dX0_depthOf_66 : decode cX0_depthOf 66 = .ok (.imul, 1) := by decide +kernel
theorem dX0_depthOf_67 : decode cX0_depthOf 67 = .ok (.isub, 1) := by decide +kernel
theorem dX0_depthOf_68 : decode cX0_depthOf 68 = .ok (.istore_n 2, 1) := by decide +kernel
theorem dX0_depthOf_69 : decode cX0_depthOf 69 = .ok (.iload 6, 2) := by decide +kernel
theorem dX0_depthOf_71 : decode cX0_depthOf 71 = .ok (.aload_n 0, 1) := by decide +kernel
theorem dX0_depthOf_72 : decode cX0_depthOf 72 = .ok (.getfield 13, 3) := by decide +kernel
theorem dX0_depthOf_75 : decode cX0_depthOf 75 = .ok (.iload 4, 2) := by decide +kernel
theorem dX0_depthOf_77 : decode cX0_depthOf 77 = .ok (.iaload, 1) := by decide +kernel
theorem dX0_depthOf_78 : decode cX0_depthOf 78 = .ok (.if_icmp .ge 6, 3) := by decide +kernel
theorem dX0_depthOf_81 : decode cX0_depthOf 81 = .ok (.goto 9, 3) := by decide +kernel
theorem dX0_depthOf_84 : decode cX0_depthOf 84 = .ok (.iinc 4 1, 3) := by decide +kernel
theorem dX0_depthOf_87 : decode cX0_depthOf 87 = .ok (.goto (-80), 3) := by decide +kernel
theorem dX0_depthOf_90 : decode cX0_depthOf 90 = .ok (.iload_n 3, 1) := by decide +kernel
theorem dX0_depthOf_91 : decode cX0_depthOf 91 = .ok (.ireturn, 1) := by decide +kernel
set_option maxRecDepth 20000 in
theorem ggX1_init_X3_init : GoodIn wsX1_init wsX3_init := goodIn_r _ [10, 11, 2, 3, 12, 13, 14, 15, 16, 17, 18, 19, 20, 21, 22, 23, 24, 25, 26, 27, 28, 29, 30, 31, 32, 33, 34, 35, 36, 37, 38, 39, 40, 41, 42, 43, 44, 45, 46, 47, 48, 49, 50, 51, 52, 53, 72, 73, 74, 75, 76, 77, 78, 57, 58, 59, 60, 61, 62, 63, 64, 65, 66, 67, 68, 69, 70, 71, 79, 80, 81, 82, 83, 84, 85, 86, 87, 88] (by decide +kernel) (by decide +kernel)
set_option maxRecDepth 20000 in
theorem gX1_init_X3_init : GoodIn wsX1_init (wsX3_init) := ggX1_init_X3_init
theorem dX1_init_0 : decode cX1_init 0 = .ok (.aload_n 0, 1) := by decide +kernel
theorem dX1_init_1 : decode cX1_init 1 = .ok (.invokespecial 1, 3) := by decide +kernel
theorem dX1_init_4 : decode cX1_init 4 = .ok (.aload_n 0, 1) := by decide +kernel
theorem dX1_init_5 : decode cX1_init 5 = .ok (.iconst 5, 1) := by decide +kernel
theorem dX1_init_6 : decode cX1_init 6 = .ok (.anewarray 9, 3) := by decide +kernel
theorem dX1_init_9 : decode cX1_init 9 = .ok (.putfield 11, 3) := by decide +kernel
theorem dX1_init_12 : decode cX1_init 12 = .ok (.iconst 0, 1) := by decide +kernel
theorem dX1_init_13 : decode cX1_init 13 = .ok (.istore_n 1, 1) := by decide +kernel
theorem dX1_init_14 : decode cX1_init 14 = .ok (.iload_n 1, 1) := by decide +kernel
theorem dX1_init_15 : decode cX1_init 15 = .ok (.iconst 5, 1) := by decide +kernel
theorem dX1_init_16 : decode cX1_init 16 = .ok (.if_icmp .ge 22, 3) := by decide +kernel
theorem dX1_init_19 : decode cX1_init 19 = .ok (.aload_n 0, 1) := by decide +kernel
theorem dX1_init_20 : decode cX1_init 20 = .ok (.getfield 11, 3) := by decide +kernel
theorem dX1_init_23 : decode cX1_init 23 = .ok (.iload_n 1, 1) := by decide +kernel
theorem dX1_init_24 : decode cX1_init 24 = .ok (.new 9, 3) := by decide +kernel
theorem dX1_init_27 : decode cX1_init 27 = .ok (.dup, 1) := by decide +kernel
theorem dX1_init_28 : decode cX1_init 28 = .ok (.invokespecial 15, 3) := by decide +kernel
theorem dX1_init_31 : decode cX1_init 31 = .ok (.aastore, 1) := by decide +kernel
theorem dX1_init_32 : decode cX1_init 32 = .ok (.iinc 1 1, 3) := by decide +kernel
theorem dX1_init_35 : decode cX1_init 35 = .ok (.goto (-21), 3) := by decide +kernel
theorem dX1_init_38 : decode cX1_init 38 = .ok (.return_, 1) := by decide +kernel
set_option maxRecDepth 20000 in
theorem ggX1_keep_X3_copyFrom : GoodIn wsX1_keep wsX3_copyFrom := goodIn_r _ [8, 9, 10, 11, 12, 13, 14, 15, 16, 17, 18, 19, 20, 21, 22, 23, 24, 25, 26, 27, 28, 29, 30, 31, 32, 33, 34, 35, 36, 37, 38, 39, 40, 41, 42, 43, 44, 45, 46, 47, 48, 49, 50, 51, 52, 53, 54, 55, 56, 57, 58, 59, 60, 61, 62, 66, 67, 68, 69, 70, 71, 72, 73, 74, 75, 76, 77, 78, 79, 80, 81, 82, 83, 84, 85, 86, 87, 88, 89, 90, 91, 92, 93, 94, 95, 96, 97] (by decide +kernel) (by decide +kernel)
set_option maxRecDepth 20000 in
theorem gX1_keep_X3_copyFrom : GoodIn wsX1_keep (wsV RX1 23 RX3 yX3_copyFrom wsX3_copyFrom) := goodIn_app (goodIn_of _ (by decide +kernel)) ggX1_keep_X3_copyFrom
theorem dX1_keep_0 : decode cX1_keep 0 = .ok (.aload_n 0, 1) := by decide +kernel
theorem dX1_keep_1 : decode cX1_keep 1 = .ok (.getfield 16, 3) := by decide +kernel
theorem dX1_keep_4 : decode cX1_keep 4 = .ok (.iconst 5, 1) := by decide +kernel
theorem dX1_keep_5 : decode cX1_keep 5 = .ok (.if_icmp .lt 20, 3) := by decide +kernel
theorem dX1_keep_8 : decode cX1_keep 8 = .ok (.aload_n 0, 1) := by decide +kernel
theorem dX1_keep_9 : decode cX1_keep 9 = .ok (.aload_n 0, 1) := by decide +kernel
theorem dX1_keep_10 : decode cX1_keep 10 = .ok (.getfield 20, 3) := by decide +kernel
theorem dX1_keep_13 : decode cX1_keep 13 = .ok (.iconst 1, 1) := by decide +kernel
theorem dX1_keep_14 : decode cX1_keep 14 = .ok (.iadd, 1) := by decide +kernel
theorem dX1_keep_15 : decode cX1_keep 15 = .ok (.iconst 5, 1) := by decide +kernel
theorem dX1_keep_16 : decode cX1_keep 16 = .ok (.irem, 1) := by decide +kernel
theorem dX1_keep_17 : decode cX1_keep 17 = .ok (.putfield 20, 3) := by decide +kernel
theorem dX1_keep_20 : decode cX1_keep 20 = .ok (.aload_n 0, 1) := by decide +kernel
theorem dX1_keep_21 : decode cX1_keep 21 = .ok (.iconst 4, 1) := by decide +kernel
theorem dX1_keep_22 : decode cX1_keep 22 = .ok (.putfield 16, 3) := by decide +kernel
theorem dX1_keep_25 : decode cX1_keep 25 = .ok (.aload_n 0, 1) := by decide +kernel
theorem dX1_keep_26 : decode cX1_keep 26 = .ok (.getfield 11, 3) := by decide +kernel
theorem dX1_keep_29 : decode cX1_keep 29 = .ok (.aload_n 0, 1) := by decide +kernel
theorem dX1_keep_30 : decode cX1_keep 30 = .ok (.getfield 20, 3) := by decide +kernel
theorem dX1_keep_33 : decode cX1_keep 33 = .ok (.aload_n 0, 1) := by decide +kernel
theorem dX1_keep_34 : decode cX1_keep 34 = .ok (.getfield 16, 3) := by decide +kernel
theorem dX1_keep_37 : decode cX1_keep 37 = .ok (.iadd, 1) := by decide +kernel
theorem dX1_keep_38 : decode cX1_keep 38 = .ok (.iconst 5, 1) := by decide +kernel
theorem dX1_keep_39 : decode cX1_keep 39 = .ok (.irem, 1) := by decide +kernel
theorem dX1_keep_40 : decode cX1_keep 40 = .ok (.aaload, 1) := by decide +kernel
theorem dX1_keep_41 : decode cX1_keep 41 = .ok (.aload_n 1, 1) := by decide +kernel
theorem dX1_keep_42 : decode cX1_keep 42 = .ok (.invokevirtual 23, 3) := by decide +kernel
theorem dX1_keep_45 : decode cX1_keep 45 = .ok (.aload_n 0, 1) := by decide +kernel
theorem dX1_keep_46 : decode cX1_keep 46 = .ok (.dup, 1) := by decide +kernel
theorem dX1_keep_47 : decode cX1_keep 47 = .ok (.getfield 16, 3) := by decide +kernel
theorem dX1_keep_50 : decode cX1_keep 50 = .ok (.iconst 1, 1) := by decide +kernel
theorem dX1_keep_51 : decode cX1_keep 51 = .ok (.iadd, 1) := by decide +kernel
theorem dX1_keep_52 : decode cX1_keep 52 = .ok (.putfield 16, 3) := by decide +kernel
theorem dX1_keep_55 : decode cX1_keep 55 = .ok (.return_, 1) := by decide +kernel
set_option maxRecDepth 20000 in
theorem ggX1_giveBack_X3_copyFrom : GoodIn wsX1_giveBack wsX3_copyFrom := goodIn_r _ [8, 9, 10, 11, 12, 13, 14, 15, 16, 17, 18, 19, 20, 21, 22, 23, 24, 25, 26, 27, 28, 29, 30, 31, 32, 33, 34, 35, 36, 37, 38, 39, 40, 41, 42, 43, 44, 45, 46, 47, 48, 49, 50, 51, 52, 53, 54, 55, 56, 57, 58, 59, 60, 61, 62, 66, 67, 68, 69, 70, 71, 72, 73, 74, 75, 76, 77, 78, 79, 80, 81, 82, 83, 84, 85, 86, 87, 88, 89, 90, 91, 92, 93, 94, 95, 96, 97] (by decide +kernel) (by decide +kernel)
set_option maxRecDepth 20000 in
theorem gX1_giveBack_X3_copyFrom : GoodIn wsX1_giveBack (wsV RX1 23 RX3 yX3_copyFrom wsX3_copyFrom) := goodIn_app (goodIn_of _ (by decide +kernel)) ggX1_giveBack_X3_copyFrom
theorem dX1_giveBack_0 : decode cX1_giveBack 0 = .ok (.aload_n 0, 1) := by decide +kernel
theorem dX1_giveBack_1 : decode cX1_giveBack 1 = .ok (.getfield 16, 3) := by decide +kernel
theorem dX1_giveBack_4 : decode cX1_giveBack 4 = .ok (.ifCond .gt 4, 3) := by decide +kernel
theorem dX1_giveBack_7 : decode cX1_giveBack 7 = .ok (.return_, 1) := by decide +kernel
theorem dX1_giveBack_8 : decode cX1_giveBack 8 = .ok (.aload_n 0, 1) := by decide +kernel
theorem dX1_giveBack_9 : decode cX1_giveBack 9 = .ok (.dup, 1) := by decide +kernel
theorem dX1_giveBack_10 : decode cX1_giveBack 10 = .ok (.getfield 16, 3) := by decide +kernel
theorem dX1_giveBack_13 : decode cX1_giveBack 13 = .ok (.iconst 1, 1) := by decide +kernel
theorem dX1_giveBack_14 : decode cX1_giveBack 14 = .ok (.isub, 1) := by decide +kernel
theorem dX1_giveBack_15 : decode cX1_giveBack 15 = .ok (.putfield 16, 3) := by decide +kernel
theorem dX1_giveBack_18 : decode cX1_giveBack 18 = .ok (.aload_n 1, 1) := by decide +kernel
theorem dX1_giveBack_19 : decode cX1_giveBack 19 = .ok (.aload_n 0, 1) := by decide +kernel
theorem dX1_giveBack_20 : decode cX1_giveBack 20 = .ok (.getfield 11, 3) := by decide +kernel
theorem dX1_giveBack_23 : decode cX1_giveBack 23 = .ok (.aload_n 0, 1) := by decide +kernel
theorem dX1_giveBack_24 : decode cX1_giveBack 24 = .ok (.getfield 20, 3) := by decide +kernel
theorem dX1_giveBack_27 : decode cX1_giveBack 27 = .ok (.aload_n 0, 1) := by decide +kernel
theorem dX1_giveBack_28 : decode cX1_giveBack 28 = .ok (.getfield 16, 3) := by decide +kernel
theorem dX1_giveBack_31 : decode cX1_giveBack 31 = .ok (.iadd, 1) := by decide +kernel
theorem dX1_giveBack_32 : decode cX1_giveBack 32 = .ok (.iconst 5, 1) := by decide +kernel
theorem dX1_giveBack_33 : decode cX1_giveBack 33 = .ok (.irem, 1) := by decide +kernel
theorem dX1_giveBack_34 : decode cX1_giveBack 34 = .ok (.aaload, 1) := by decide +kernel
theorem dX1_giveBack_35 : decode cX1_giveBack 35 = .ok (.invokevirtual 23, 3) := by decide +kernel
theorem dX1_giveBack_38 : decode cX1_giveBack 38 = .ok (.return_, 1) := by decide +kernel
theorem dX2_init_0 : decode cX2_init 0 = .ok (.aload_n 0, 1) := by decide +kernel
theorem dX2_init_1 : decode cX2_init 1 = .ok (.invokespecial 1, 3) := by decide +kernel
theorem dX2_init_4 : decode cX2_init 4 = .ok (.aload_n 0, 1) := by decide +kernel
theorem dX2_init_5 : decode cX2_init 5 = .ok (.iconst 4, 1) := by decide +kernel
theorem dX2_init_6 : decode cX2_init 6 = .ok (.newarray .int, 2) := by decide +kernel
theorem dX2_init_8 : decode cX2_init 8 = .ok (.putfield 9, 3) := by decide +kernel
theorem dX2_init_11 : decode cX2_init 11 = .ok (.aload_n 0, 1) := by decide +kernel
theorem dX2_init_12 : decode cX2_init 12 = .ok (.iconst 4, 1) := by decide +kernel
theorem dX2_init_13 : decode cX2_init 13 = .ok (.newarray .int, 2) := by decide +kernel
theorem dX2_init_15 : decode cX2_init 15 = .ok (.putfield 13, 3) := by decide +kernel
theorem dX2_init_18 : decode cX2_init 18 = .ok (.aload_n 0, 1) := by decide +kernel
theorem dX2_init_19 : decode cX2_init 19 = .ok (.iconst 4, 1) := by decide +kernel
theorem dX2_init_20 : decode cX2_init 20 = .ok (.newarray .int, 2) := by decide +kernel
theorem dX2_init_22 : decode cX2_init 22 = .ok (.putfield 16, 3) := by decide +kernel
theorem dX2_init_25 : decode cX2_init 25 = .ok (.aload_n 0, 1) := by decide +kernel
theorem dX2_init_26 : decode cX2_init 26 = .ok (.iconst 4, 1) := by decide +kernel
theorem dX2_init_27 : decode cX2_init 27 = .ok (.newarray .int, 2) := by decide +kernel
theorem dX2_init_29 : decode cX2_init 29 = .ok (.putfield 19, 3) := by decide +kernel
theorem dX2_init_32 : decode cX2_init 32 = .ok (.aload_n 0, 1) := by decide +kernel
theorem dX2_init_33 : decode cX2_init 33 = .ok (.iconst 4, 1) := by decide +kernel
theorem dX2_init_34 : decode cX2_init 34 = .ok (.newarray .int, 2) := by decide +kernel
theorem dX2_init_36 : decode cX2_init 36 = .ok (.putfield 22, 3) := by decide +kernel
theorem dX2_init_39 : decode cX2_init 39 = .ok (.return_, 1) := by decide +kernel
theorem dX2_copyFrom_0 : decode cX2_copyFrom 0 = .ok (.aload_n 1, 1) := by decide +kernel
theorem dX2_copyFrom_1 : decode cX2_copyFrom 1 = .ok (.getfield 9, 3) := by decide +kernel
theorem dX2_copyFrom_4 : decode cX2_copyFrom 4 = .ok (.iconst 0, 1) := by decide +kernel
theorem dX2_copyFrom_5 : decode cX2_copyFrom 5 = .ok (.aload_n 0, 1) := by decide +kernel
theorem dX2_copyFrom_6 : decode cX2_copyFrom 6 = .ok (.getfield 9, 3) := by decide +kernel
theorem dX2_copyFrom_9 : decode cX2_copyFrom 9 = .ok (.iconst 0, 1) := by decide +kernel
theorem dX2_copyFrom_10 : decode cX2_copyFrom 10 = .ok (.iconst 4, 1) := by decide +kernel
theorem dX2_copyFrom_11 : decode cX2_copyFrom 11 = .ok (.invokestatic 25, 3) := by decide +kernel
theorem dX2_copyFrom_14 : decode cX2_copyFrom 14 = .ok (.aload_n 1, 1) := by decide +kernel
theorem dX2_copyFrom_15 : decode cX2_copyFrom 15 = .ok (.getfield 13, 3) := by decide +kernel
theorem dX2_copyFrom_18 : decode cX2_copyFrom 18 = .ok (.iconst 0, 1) := by decide +kernel
theorem dX2_copyFrom_19 : decode cX2_copyFrom 19 = .ok (.aload_n 0, 1) := by decide +kernel
theorem dX2_copyFrom_20 : decode cX2_copyFrom 20 = .ok (.getfield 13, 3) := by decide +kernel
theorem dX2_copyFrom_23 : decode cX2_copyFrom 23 = .ok (.iconst 0, 1) := by decide +kernel
theorem dX2_copyFrom_24 : decode cX2_copyFrom 24 = .ok (.iconst 4, 1) := by decide +kernel
theorem dX2_copyFrom_25 : decode cX2_copyFrom 25 = .ok (.invokestatic 25, 3) := by decide +kernel
theorem dX2_copyFrom_28 : decode cX2_copyFrom 28 = .ok (.aload_n 1, 1) := by decide +kernel
theorem dX2_copyFrom_29 : decode cX2_copyFrom 29 = .ok (.getfield 16, 3) := by decide +kernel
theorem dX2_copyFrom_32 : decode cX2_copyFrom 32 = .ok (.iconst 0, 1) := by decide +kernel
theorem dX2_copyFrom_33 : decode cX2_copyFrom 33 = .ok (.aload_n 0, 1) := by decide +kernel
theorem dX2_copyFrom_34 : decode cX2_copyFrom 34 = .ok (.getfield 16, 3) := by decide +kernel
theorem dX2_copyFrom_37 : decode cX2_copyFrom 37 = .ok (.iconst 0, 1) := by decide +kernel
theorem dX2_copyFrom_38 : decode cX2_copyFrom 38 = .ok (.iconst 4, 1) := by decide +kernel
theorem dX2_copyFrom_39 : decode cX2_copyFrom 39 = .ok (.invokestatic 25, 3) := by decide +kernel
theorem dX2_copyFrom_42 : decode cX2_copyFrom 42 = .ok (.aload_n 1, 1) := by decide +kernel
theorem dX2_copyFrom_43 : decode cX2_copyFrom 43 = .ok (.getfield 19, 3) := by decide +kernel
theorem dX2_copyFrom_46 : decode cX2_copyFrom 46 = .ok (.iconst 0, 1) := by decide +kernel
theorem dX2_copyFrom_47 : decode cX2_copyFrom 47 = .ok (.aload_n 0, 1) := by decide +kernel
theorem dX2_copyFrom_48 : decode cX2_copyFrom 48 = .ok (.getfield 19, 3) := by decide +kernel
theorem dX2_copyFrom_51 : decode cX2_copyFrom 51 = .ok (.iconst 0, 1) := by decide +kernel
theorem dX2_copyFrom_52 : decode cX2_copyFrom 52 = .ok (.iconst 4, 1) := by decide +kernel
theorem dX2_copyFrom_53 : decode cX2_copyFrom 53 = .ok (.invokestatic 25, 3) := by decide +kernel
theorem dX2_copyFrom_56 : decode cX2_copyFrom 56 = .ok (.aload_n 1, 1) := by decide +kernel
theorem dX2_copyFrom_57 : decode cX2_copyFrom 57 = .ok (.getfield 22, 3) := by decide +kernel
theorem dX2_copyFrom_60 : decode cX2_copyFrom 60 = .ok (.iconst 0, 1) := by decide +kernel
theorem dX2_copyFrom_61 : decode cX2_copyFrom 61 = .ok (.aload_n 0, 1) := by decide +kernel
theorem dX2_copyFrom_62 : decode cX2_copyFrom 62 = .ok (.getfield 22, 3) := by decide +kernel
theorem dX2_copyFrom_65 : decode cX2_copyFrom 65 = .ok (.iconst 0, 1) := by decide +kernel
theorem dX2_copyFrom_66 : decode cX2_copyFrom 66 = .ok (.iconst 4, 1) := by decide +kernel
theorem dX2_copyFrom_67 : decode cX2_copyFrom 67 = .ok (.invokestatic 25, 3) := by decide +kernel
theorem dX2_copyFrom_70 : decode cX2_copyFrom 70 = .ok (.return_, 1) := by decide +kernel
set_option maxRecDepth 20000 in
theorem ggX2_beginAnew_J7_fill_53178 : GoodIn wsX2_beginAnew wsJ7_fill_53178 := goodIn_r _ [9] (by decide +kernel) (by decide +kernel)
set_option maxRecDepth 20000 in
theorem gX2_beginAnew_J7_fill_53178 : GoodIn wsX2_beginAnew (va_wsS RX2 31 yJ7_fill_53178 wsJ7_fill_53178) := goodIn_app (goodIn_of _ (by decide +kernel)) ggX2_beginAnew_J7_fill_53178
theorem dX2_beginAnew_0 : decode cX2_beginAnew 0 = .ok (.aload_n 0, 1) := by decide +kernel
theorem dX2_beginAnew_1 : decode cX2_beginAnew 1 = .ok (.getfield 9, 3) := by decide +kernel
theorem dX2_beginAnew_4 : decode cX2_beginAnew 4 = .ok (.iconst 0, 1) := by decide +kernel
theorem dX2_beginAnew_5 : decode cX2_beginAnew 5 = .ok (.invokestatic 31, 3) := by decide +kernel
theorem dX2_beginAnew_8 : decode cX2_beginAnew 8 = .ok (.aload_n 0, 1) := by decide +kernel
theorem dX2_beginAnew_9 : decode cX2_beginAnew 9 = .ok (.getfield 13, 3) := by decide +kernel
theorem dX2_beginAnew_12 : decode cX2_beginAnew 12 = .ok (.iconst 0, 1) := by decide +kernel
theorem dX2_beginAnew_13 : decode cX2_beginAnew 13 = .ok (.invokestatic 31, 3) := by decide +kernel
theorem dX2_beginAnew_16 : decode cX2_beginAnew 16 = .ok (.aload_n 0, 1) := by decide +kernel
theorem dX2_beginAnew_17 : decode cX2_beginAnew 17 = .ok (.getfield 16, 3) := by decide +kernel
theorem dX2_beginAnew_20 : decode cX2_beginAnew 20 = .ok (.iconst 0, 1) := by decide +kernel
theorem dX2_beginAnew_21 : decode cX2_beginAnew 21 = .ok (.invokestatic 31, 3) := by decide +kernel
theorem dX2_beginAnew_24 : decode cX2_beginAnew 24 = .ok (.aload_n 0, 1) := by decide +kernel
theorem dX2_beginAnew_25 : decode cX2_beginAnew 25 = .ok (.getfield 19, 3) := by decide +kernel
theorem dX2_beginAnew_28 : decode cX2_beginAnew 28 = .ok (.iconst 0, 1) := by decide +kernel
theorem dX2_beginAnew_29 : decode cX2_beginAnew 29 = .ok (.invokestatic 31, 3) := by decide +kernel
theorem dX2_beginAnew_32 : decode cX2_beginAnew 32 = .ok (.aload_n 0, 1) := by decide +kernel
theorem dX2_beginAnew_33 : decode cX2_beginAnew 33 = .ok (.getfield 22, 3) := by decide +kernel
theorem dX2_beginAnew_36 : decode cX2_beginAnew 36 = .ok (.iconst 0, 1) := by decide +kernel
theorem dX2_beginAnew_37 : decode cX2_beginAnew 37 = .ok (.invokestatic 31, 3) := by decide +kernel
theorem dX2_beginAnew_40 : decode cX2_beginAnew 40 = .ok (.return_, 1) := by decide +kernel
theorem dX2_open_0 : decode cX2_open 0 = .ok (.aload_n 0, 1) := by decide +kernel
theorem dX2_open_1 : decode cX2_open 1 = .ok (.getfield 9, 3) := by decide +kernel
theorem dX2_open_4 : decode cX2_open 4 = .ok (.iload_n 1, 1) := by decide +kernel
theorem dX2_open_5 : decode cX2_open 5 = .ok (.iconst 0, 1) := by decide +kernel
theorem dX2_open_6 : decode cX2_open 6 = .ok (.iastore, 1) := by decide +kernel
theorem dX2_open_7 : decode cX2_open 7 = .ok (.aload_n 0, 1) := by decide +kernel
theorem dX2_open_8 : decode cX2_open 8 = .ok (.getfield 13, 3) := by decide +kernel
theorem dX2_open_11 : decode cX2_open 11 = .ok (.iload_n 1, 1) := by decide +kernel
theorem dX2_open_12 : decode cX2_open 12 = .ok (.iconst 0, 1) := by decide +kernel
theorem dX2_open_13 : decode cX2_open 13 = .ok (.iastore, 1) := by decide +kernel
theorem dX2_open_14 : decode cX2_open 14 = .ok (.aload_n 0, 1) := by decide +kernel
theorem dX2_open_15 : decode cX2_open 15 = .ok (.getfield 16, 3) := by decide +kernel
theorem dX2_open_18 : decode cX2_open 18 = .ok (.iload_n 1, 1) := by decide +kernel
theorem dX2_open_19 : decode cX2_open 19 = .ok (.iconst 0, 1) := by decide +kernel
theorem dX2_open_20 : decode cX2_open 20 = .ok (.iastore, 1) := by decide +kernel
theorem dX2_open_21 : decode cX2_open 21 = .ok (.return_, 1) := by decide +kernel
theorem dX2_stuckOnes_0 : decode cX2_stuckOnes 0 = .ok (.iconst 0, 1) := by decide +kernel
theorem dX2_stuckOnes_1 : decode cX2_stuckOnes 1 = .ok (.istore_n 1, 1) := by decide +kernel
theorem dX2_stuckOnes_2 : decode cX2_stuckOnes 2 = .ok (.iconst 0, 1) := by decide +kernel
theorem dX2_stuckOnes_3 : decode cX2_stuckOnes 3 = .ok (.istore_n 2, 1) := by decide +kernel
theorem dX2_stuckOnes_4 : decode cX2_stuckOnes 4 = .ok (.iload_n 2, 1) := by decide +kernel
theorem dX2_stuckOnes_5 : decode cX2_stuckOnes 5 = .ok (.iconst 4, 1) := by decide +kernel
theorem dX2_stuckOnes_6 : decode cX2_stuckOnes 6 = .ok (.if_icmp .ge 18, 3) := by decide +kernel
theorem dX2_stuckOnes_9 : decode cX2_stuckOnes 9 = .ok (.iload_n 1, 1) := by decide +kernel
theorem dX2_stuckOnes_10 : decode cX2_stuckOnes 10 = .ok (.aload_n 0, 1) := by decide +kernel
theorem dX2_stuckOnes_11 : decode cX2_stuckOnes 11 = .ok (.getfield 9, 3) := by decide +kernel
theorem dX2_stuckOnes_14 : decode cX2_stuckOnes 14 = .ok (.iload_n 2, 1) := by decide +kernel
theorem dX2_stuckOnes_15 : decode cX2_stuckOnes 15 = .ok (.iaload, 1) := by decide +kernel
theorem dX2_stuckOnes_16 : decode cX2_stuckOnes 16 = .ok (.iadd, 1) := by decide +kernel
theorem dX2_stuckOnes_17 : decode cX2_stuckOnes 17 = .ok (.istore_n 1, 1) := by decide +kernel
theorem dX2_stuckOnes_18 : decode cX2_stuckOnes 18 = .ok (.iinc 2 1, 3) := by decide +kernel
theorem dX2_stuckOnes_21 : decode cX2_stuckOnes 21 = .ok (.goto (-17), 3) := by decide +kernel
theorem dX2_stuckOnes_24 : decode cX2_stuckOnes 24 = .ok (.iload_n 1, 1) := by decide +kernel
theorem dX2_stuckOnes_25 : decode cX2_stuckOnes 25 = .ok (.ireturn, 1) := by decide +kernel
theorem dX2_breaks_0 : decode cX2_breaks 0 = .ok (.iload_n 2, 1) := by decide +kernel
theorem dX2_breaks_1 : decode cX2_breaks 1 = .ok (.ifCond .eq 12, 3) := by decide +kernel
theorem dX2_breaks_4 : decode cX2_breaks 4 = .ok (.aload_n 0, 1) := by decide +kernel
theorem dX2_breaks_5 : decode cX2_breaks 5 = .ok (.getfield 16, 3) := by decide +kernel
theorem dX2_breaks_8 : decode cX2_breaks 8 = .ok (.iload_n 1, 1) := by decide +kernel
theorem dX2_breaks_9 : decode cX2_breaks 9 = .ok (.iconst 1, 1) := by decide +kernel
theorem dX2_breaks_10 : decode cX2_breaks 10 = .ok (.iastore, 1) := by decide +kernel
theorem dX2_breaks_11 : decode cX2_breaks 11 = .ok (.iconst 1, 1) := by decide +kernel
theorem dX2_breaks_12 : decode cX2_breaks 12 = .ok (.ireturn, 1) := by decide +kernel
theorem dX2_breaks_13 : decode cX2_breaks 13 = .ok (.aload_n 0, 1) := by decide +kernel
theorem dX2_breaks_14 : decode cX2_breaks 14 = .ok (.getfield 16, 3) := by decide +kernel
theorem dX2_breaks_17 : decode cX2_breaks 17 = .ok (.iload_n 1, 1) := by decide +kernel
theorem dX2_breaks_18 : decode cX2_breaks 18 = .ok (.iaload, 1) := by decide +kernel
theorem dX2_breaks_19 : decode cX2_breaks 19 = .ok (.ifCond .ne 5, 3) := by decide +kernel
theorem dX2_breaks_22 : decode cX2_breaks 22 = .ok (.iconst 0, 1) := by decide +kernel
theorem dX2_breaks_23 : decode cX2_breaks 23 = .ok (.ireturn, 1) := by decide +kernel
theorem dX2_breaks_24 : decode cX2_breaks 24 = .ok (.aload_n 0, 1) := by decide +kernel
theorem dX2_breaks_25 : decode cX2_breaks 25 = .ok (.getfield 16, 3) := by decide +kernel
theorem dX2_breaks_28 : decode cX2_breaks 28 = .ok (.iload_n 1, 1) := by decide +kernel
theorem dX2_breaks_29 : decode cX2_breaks 29 = .ok (.dup2, 1) := by decide +kernel
theorem dX2_breaks_30 : decode cX2_breaks 30 = .ok (.iaload, 1) := by decide +kernel
theorem dX2_breaks_31 : decode cX2_breaks 31 = .ok (.iconst 1, 1) := by decide +kernel
theorem dX2_breaks_32 : decode cX2_breaks 32 = .ok (.iadd, 1) := by decide +kernel
theorem dX2_breaks_33 : decode cX2_breaks 33 = .ok (.iastore, 1) := by decide +kernel
theorem dX2_breaks_34 : decode cX2_breaks 34 = .ok (.aload_n 0, 1) := by decide +kernel
theorem dX2_breaks_35 : decode cX2_breaks 35 = .ok (.getfield 16, 3) := by decide +kernel
theorem dX2_breaks_38 : decode cX2_breaks 38 = .ok (.iload_n 1, 1) := by decide +kernel
theorem dX2_breaks_39 : decode cX2_breaks 39 = .ok (.iaload, 1) := by decide +kernel
theorem dX2_breaks_40 : decode cX2_breaks 40 = .ok (.iload_n 3, 1) := by decide +kernel
theorem dX2_breaks_41 : decode cX2_breaks 41 = .ok (.if_icmp .le 10, 3) := by decide +kernel
theorem dX2_breaks_44 : decode cX2_breaks 44 = .ok (.aload_n 0, 1) := by decide +kernel
theorem dX2_breaks_45 : decode cX2_breaks 45 = .ok (.getfield 16, 3) := by decide +kernel
theorem dX2_breaks_48 : decode cX2_breaks 48 = .ok (.iload_n 1, 1) := by decide +kernel
theorem dX2_breaks_49 : decode cX2_breaks 49 = .ok (.iconst 0, 1) := by decide +kernel
theorem dX2_breaks_50 : decode cX2_breaks 50 = .ok (.iastore, 1) := by decide +kernel
theorem dX2_breaks_51 : decode cX2_breaks 51 = .ok (.iconst 1, 1) := by decide +kernel
theorem dX2_breaks_52 : decode cX2_breaks 52 = .ok (.ireturn, 1) := by decide +kernel
theorem dX2_soil_0 : decode cX2_soil 0 = .ok (.aload_n 0, 1) := by decide +kernel
theorem dX2_soil_1 : decode cX2_soil 1 = .ok (.getfield 13, 3) := by decide +kernel
theorem dX2_soil_4 : decode cX2_soil 4 = .ok (.iload_n 1, 1) := by decide +kernel
theorem dX2_soil_5 : decode cX2_soil 5 = .ok (.dup2, 1) := by decide +kernel
theorem dX2_soil_6 : decode cX2_soil 6 = .ok (.iaload, 1) := by decide +kernel
theorem dX2_soil_7 : decode cX2_soil 7 = .ok (.iload_n 2, 1) := by decide +kernel
theorem dX2_soil_8 : decode cX2_soil 8 = .ok (.iadd, 1) := by decide +kernel
theorem dX2_soil_9 : decode cX2_soil 9 = .ok (.iastore, 1) := by decide +kernel
theorem dX2_soil_10 : decode cX2_soil 10 = .ok (.aload_n 0, 1) := by decide +kernel
theorem dX2_soil_11 : decode cX2_soil 11 = .ok (.getfield 13, 3) := by decide +kernel
theorem dX2_soil_14 : decode cX2_soil 14 = .ok (.iload_n 1, 1) := by decide +kernel
theorem dX2_soil_15 : decode cX2_soil 15 = .ok (.iaload, 1) := by decide +kernel
theorem dX2_soil_16 : decode cX2_soil 16 = .ok (.iload_n 3, 1) := by decide +kernel
theorem dX2_soil_17 : decode cX2_soil 17 = .ok (.if_icmp .lt 10, 3) := by decide +kernel
theorem dX2_soil_20 : decode cX2_soil 20 = .ok (.aload_n 0, 1) := by decide +kernel
theorem dX2_soil_21 : decode cX2_soil 21 = .ok (.getfield 9, 3) := by decide +kernel
theorem dX2_soil_24 : decode cX2_soil 24 = .ok (.iload_n 1, 1) := by decide +kernel
theorem dX2_soil_25 : decode cX2_soil 25 = .ok (.iconst 1, 1) := by decide +kernel
theorem dX2_soil_26 : decode cX2_soil 26 = .ok (.iastore, 1) := by decide +kernel
theorem dX2_soil_27 : decode cX2_soil 27 = .ok (.return_, 1) := by decide +kernel
set_option maxRecDepth 20000 in
theorem ggX3_init_X0_init : GoodIn wsX3_init wsX0_init := goodIn_r _ [25, 26, 2, 3, 16, 27, 28, 29, 30, 31, 46, 47, 48, 49, 50, 51, 52] (by decide +kernel) (by decide +kernel)
set_option maxRecDepth 20000 in
theorem gX3_init_X0_init_n9 : GoodIn wsX3_init (wsX0_init) := ggX3_init_X0_init
set_option maxRecDepth 20000 in
theorem ggX3_init_X2_init : GoodIn wsX3_init wsX2_init := goodIn_r _ [33, 34, 2, 3, 16, 35, 36, 37, 38, 39, 68, 69, 70, 71, 72] (by decide +kernel) (by decide +kernel)
set_option maxRecDepth 20000 in
theorem gX3_init_X2_init_n18 : GoodIn wsX3_init (wsX2_init) := ggX3_init_X2_init
set_option maxRecDepth 20000 in
theorem ggX3_init_X6_init : GoodIn wsX3_init wsX6_init := goodIn_r _ [41, 42, 2, 3, 16, 43, 44, 45, 73, 74, 75, 76, 77] (by decide +kernel) (by decide +kernel)
set_option maxRecDepth 20000 in
theorem gX3_init_X6_init_n25 : GoodIn wsX3_init (wsX6_init) := ggX3_init_X6_init
theorem dX3_init_0 : decode cX3_init 0 = .ok (.aload_n 0, 1) := by decide +kernel
theorem dX3_init_1 : decode cX3_init 1 = .ok (.invokespecial 1, 3) := by decide +kernel
theorem dX3_init_4 : decode cX3_init 4 = .ok (.aload_n 0, 1) := by decide +kernel
theorem dX3_init_5 : decode cX3_init 5 = .ok (.new 7, 3) := by decide +kernel
theorem dX3_init_8 : decode cX3_init 8 = .ok (.dup, 1) := by decide +kernel
theorem dX3_init_9 : decode cX3_init 9 = .ok (.invokespecial 9, 3) := by decide +kernel
theorem dX3_init_12 : decode cX3_init 12 = .ok (.putfield 10, 3) := by decide +kernel
theorem dX3_init_15 : decode cX3_init 15 = .ok (.aload_n 0, 1) := by decide +kernel
theorem dX3_init_16 : decode cX3_init 16 = .ok (.new 16, 3) := by decide +kernel
theorem dX3_init_19 : decode cX3_init 19 = .ok (.dup, 1) := by decide +kernel
theorem dX3_init_20 : decode cX3_init 20 = .ok (.invokespecial 18, 3) := by decide +kernel
theorem dX3_init_23 : decode cX3_init 23 = .ok (.putfield 19, 3) := by decide +kernel
theorem dX3_init_26 : decode cX3_init 26 = .ok (.aload_n 0, 1) := by decide +kernel
theorem dX3_init_27 : decode cX3_init 27 = .ok (.new 23, 3) := by decide +kernel
theorem dX3_init_30 : decode cX3_init 30 = .ok (.dup, 1) := by decide +kernel
theorem dX3_init_31 : decode cX3_init 31 = .ok (.invokespecial 25, 3) := by decide +kernel
theorem dX3_init_34 : decode cX3_init 34 = .ok (.putfield 26, 3) := by decide +kernel
theorem dX3_init_37 : decode cX3_init 37 = .ok (.aload_n 0, 1) := by decide +kernel
theorem dX3_init_38 : decode cX3_init 38 = .ok (.bipush 8, 2) := by decide +kernel
theorem dX3_init_40 : decode cX3_init 40 = .ok (.newarray .int, 2) := by decide +kernel
theorem dX3_init_42 : decode cX3_init 42 = .ok (.putfield 30, 3) := by decide +kernel
theorem dX3_init_45 : decode cX3_init 45 = .ok (.aload_n 0, 1) := by decide +kernel
theorem dX3_init_46 : decode cX3_init 46 = .ok (.bipush 7, 2) := by decide +kernel
theorem dX3_init_48 : decode cX3_init 48 = .ok (.newarray .int, 2) := by decide +kernel
theorem dX3_init_50 : decode cX3_init 50 = .ok (.putfield 34, 3) := by decide +kernel
theorem dX3_init_53 : decode cX3_init 53 = .ok (.getstatic 37, 3) := by decide +kernel
theorem dX3_init_56 : decode cX3_init 56 = .ok (.iconst 0, 1) := by decide +kernel
theorem dX3_init_57 : decode cX3_init 57 = .ok (.aload_n 0, 1) := by decide +kernel
theorem dX3_init_58 : decode cX3_init 58 = .ok (.getfield 30, 3) := by decide +kernel
theorem dX3_init_61 : decode cX3_init 61 = .ok (.iconst 0, 1) := by decide +kernel
theorem dX3_init_62 : decode cX3_init 62 = .ok (.bipush 8, 2) := by decide +kernel
theorem dX3_init_64 : decode cX3_init 64 = .ok (.invokestatic 40, 3) := by decide +kernel
theorem dX3_init_67 : decode cX3_init 67 = .ok (.return_, 1) := by decide +kernel
set_option maxRecDepth 20000 in
theorem ggX3_copyFrom_X0_copyFrom : GoodIn wsX3_copyFrom wsX0_copyFrom := goodIn_r _ [24, 25, 26, 27, 28, 6, 7, 8, 29, 30, 31, 32, 70, 71, 72, 73, 74, 75, 76] (by decide +kernel) (by decide +kernel)
set_option maxRecDepth 20000 in
theorem gX3_copyFrom_X0_copyFrom : GoodIn wsX3_copyFrom (wsV RX3 46 RX0 yX0_copyFrom wsX0_copyFrom) := goodIn_app (goodIn_of _ (by decide +kernel)) ggX3_copyFrom_X0_copyFrom
set_option maxRecDepth 20000 in
theorem ggX3_copyFrom_X2_copyFrom : GoodIn wsX3_copyFrom wsX2_copyFrom := goodIn_r _ [37, 38, 39, 6, 7, 8, 40, 41, 42, 43, 77, 78, 79, 80, 81] (by decide +kernel) (by decide +kernel)
set_option maxRecDepth 20000 in
theorem gX3_copyFrom_X2_copyFrom : GoodIn wsX3_copyFrom (wsV RX3 50 RX2 yX2_copyFrom wsX2_copyFrom) := goodIn_app (goodIn_of _ (by decide +kernel)) ggX3_copyFrom_X2_copyFrom
set_option maxRecDepth 20000 in
theorem ggX3_copyFrom_X6_copyFrom : GoodIn wsX3_copyFrom wsX6_copyFrom := goodIn_r _ [48, 49, 50, 51, 52, 6, 7, 8, 53, 54, 82, 83, 84, 85, 86] (by decide +kernel) (by decide +kernel)
set_option maxRecDepth 20000 in
theorem gX3_copyFrom_X6_copyFrom : GoodIn wsX3_copyFrom (wsV RX3 53 RX6 yX6_copyFrom wsX6_copyFrom) := goodIn_app (goodIn_of _ (by decide +kernel)) ggX3_copyFrom_X6_copyFrom
theorem dX3_copyFrom_0 : decode cX3_copyFrom 0 = .ok (.aload_n 0, 1) := by decide +kernel
theorem dX3_copyFrom_1 : decode cX3_copyFrom 1 = .ok (.getfield 10, 3) := by decide +kernel
theorem dX3_copyFrom_4 : decode cX3_copyFrom 4 = .ok (.aload_n 1, 1) := by decide +kernel
theorem dX3_copyFrom_5 : decode cX3_copyFrom 5 = .ok (.getfield 10, 3) := by decide +kernel
theorem dX3_copyFrom_8 : decode cX3_copyFrom 8 = .ok (.invokevirtual 46, 3) := by decide +kernel
theorem dX3_copyFrom_11 : decode cX3_copyFrom 11 = .ok (.aload_n 0, 1) := by decide +kernel
theorem dX3_copyFrom_12 : decode cX3_copyFrom 12 = .ok (.getfield 19, 3) := by decide +kernel
theorem dX3_copyFrom_15 : decode cX3_copyFrom 15 = .ok (.aload_n 1, 1) := by decide +kernel
theorem dX3_copyFrom_16 : decode cX3_copyFrom 16 = .ok (.getfield 19, 3) := by decide +kernel
theorem dX3_copyFrom_19 : decode cX3_copyFrom 19 = .ok (.invokevirtual 50, 3) := by decide +kernel
theorem dX3_copyFrom_22 : decode cX3_copyFrom 22 = .ok (.aload_n 0, 1) := by decide +kernel
theorem dX3_copyFrom_23 : decode cX3_copyFrom 23 = .ok (.getfield 26, 3) := by decide +kernel
theorem dX3_copyFrom_26 : decode cX3_copyFrom 26 = .ok (.aload_n 1, 1) := by decide +kernel
theorem dX3_copyFrom_27 : decode cX3_copyFrom 27 = .ok (.getfield 26, 3) := by decide +kernel
theorem dX3_copyFrom_30 : decode cX3_copyFrom 30 = .ok (.invokevirtual 53, 3) := by decide +kernel
theorem dX3_copyFrom_33 : decode cX3_copyFrom 33 = .ok (.aload_n 1, 1) := by decide +kernel
theorem dX3_copyFrom_34 : decode cX3_copyFrom 34 = .ok (.getfield 30, 3) := by decide +kernel
theorem dX3_copyFrom_37 : decode cX3_copyFrom 37 = .ok (.iconst 0, 1) := by decide +kernel
theorem dX3_copyFrom_38 : decode cX3_copyFrom 38 = .ok (.aload_n 0, 1) := by decide +kernel
theorem dX3_copyFrom_39 : decode cX3_copyFrom 39 = .ok (.getfield 30, 3) := by decide +kernel
theorem dX3_copyFrom_42 : decode cX3_copyFrom 42 = .ok (.iconst 0, 1) := by decide +kernel
theorem dX3_copyFrom_43 : decode cX3_copyFrom 43 = .ok (.bipush 8, 2) := by decide +kernel
theorem dX3_copyFrom_45 : decode cX3_copyFrom 45 = .ok (.invokestatic 40, 3) := by decide +kernel
theorem dX3_copyFrom_48 : decode cX3_copyFrom 48 = .ok (.aload_n 1, 1) := by decide +kernel
theorem dX3_copyFrom_49 : decode cX3_copyFrom 49 = .ok (.getfield 34, 3) := by decide +kernel
theorem dX3_copyFrom_52 : decode cX3_copyFrom 52 = .ok (.iconst 0, 1) := by decide +kernel
theorem dX3_copyFrom_53 : decode cX3_copyFrom 53 = .ok (.aload_n 0, 1) := by decide +kernel
theorem dX3_copyFrom_54 : decode cX3_copyFrom 54 = .ok (.getfield 34, 3) := by decide +kernel
theorem dX3_copyFrom_57 : decode cX3_copyFrom 57 = .ok (.iconst 0, 1) := by decide +kernel
theorem dX3_copyFrom_58 : decode cX3_copyFrom 58 = .ok (.bipush 7, 2) := by decide +kernel
theorem dX3_copyFrom_60 : decode cX3_copyFrom 60 = .ok (.invokestatic 40, 3) := by decide +kernel
theorem dX3_copyFrom_63 : decode cX3_copyFrom 63 = .ok (.aload_n 0, 1) := by decide +kernel
theorem dX3_copyFrom_64 : decode cX3_copyFrom 64 = .ok (.aload_n 1, 1) := by decide +kernel
theorem dX3_copyFrom_65 : decode cX3_copyFrom 65 = .ok (.getfield 56, 3) := by decide +kernel
theorem dX3_copyFrom_68 : decode cX3_copyFrom 68 = .ok (.putfield 56, 3) := by decide +kernel
theorem dX3_copyFrom_71 : decode cX3_copyFrom 71 = .ok (.aload_n 0, 1) := by decide +kernel
theorem dX3_copyFrom_72 : decode cX3_copyFrom 72 = .ok (.aload_n 1, 1) := by decide +kernel
theorem dX3_copyFrom_73 : decode cX3_copyFrom 73 = .ok (.getfield 60, 3) := by decide +kernel
theorem dX3_copyFrom_76 : decode cX3_copyFrom 76 = .ok (.putfield 60, 3) := by decide +kernel
theorem dX3_copyFrom_79 : decode cX3_copyFrom 79 = .ok (.aload_n 0, 1) := by decide +kernel
theorem dX3_copyFrom_80 : decode cX3_copyFrom 80 = .ok (.aload_n 1, 1) := by decide +kernel
theorem dX3_copyFrom_81 : decode cX3_copyFrom 81 = .ok (.getfield 63, 3) := by decide +kernel
theorem dX3_copyFrom_84 : decode cX3_copyFrom 84 = .ok (.putfield 63, 3) := by decide +kernel
theorem dX3_copyFrom_87 : decode cX3_copyFrom 87 = .ok (.aload_n 0, 1) := by decide +kernel
theorem dX3_copyFrom_88 : decode cX3_copyFrom 88 = .ok (.aload_n 1, 1) := by decide +kernel
theorem dX3_copyFrom_89 : decode cX3_copyFrom 89 = .ok (.getfield 66, 3) := by decide +kernel
theorem dX3_copyFrom_92 : decode cX3_copyFrom 92 = .ok (.putfield 66, 3) := by decide +kernel
theorem dX3_copyFrom_95 : decode cX3_copyFrom 95 = .ok (.aload_n 0, 1) := by decide +kernel
theorem dX3_copyFrom_96 : decode cX3_copyFrom 96 = .ok (.aload_n 1, 1) := by decide +kernel
theorem dX3_copyFrom_97 : decode cX3_copyFrom 97 = .ok (.getfield 69, 3) := by decide +kernel
theorem dX3_copyFrom_100 : decode cX3_copyFrom 100 = .ok (.putfield 69, 3) := by decide +kernel
theorem dX3_copyFrom_103 : decode cX3_copyFrom 103 = .ok (.aload_n 0, 1) := by decide +kernel
theorem dX3_copyFrom_104 : decode cX3_copyFrom 104 = .ok (.aload_n 1, 1) := by decide +kernel
theorem dX3_copyFrom_105 : decode cX3_copyFrom 105 = .ok (.getfield 72, 3) := by decide +kernel
theorem dX3_copyFrom_108 : decode cX3_copyFrom 108 = .ok (.putfield 72, 3) := by decide +kernel
theorem dX3_copyFrom_111 : decode cX3_copyFrom 111 = .ok (.aload_n 0, 1) := by decide +kernel
theorem dX3_copyFrom_112 : decode cX3_copyFrom 112 = .ok (.aload_n 1, 1) := by decide +kernel
theorem dX3_copyFrom_113 : decode cX3_copyFrom 113 = .ok (.getfield 75, 3) := by decide +kernel
theorem dX3_copyFrom_116 : decode cX3_copyFrom 116 = .ok (.putfield 75, 3) := by decide +kernel
theorem dX3_copyFrom_119 : decode cX3_copyFrom 119 = .ok (.aload_n 0, 1) := by decide +kernel
theorem dX3_copyFrom_120 : decode cX3_copyFrom 120 = .ok (.aload_n 1, 1) := by decide +kernel
theorem dX3_copyFrom_121 : decode cX3_copyFrom 121 = .ok (.getfield 78, 3) := by decide +kernel
theorem dX3_copyFrom_124 : decode cX3_copyFrom 124 = .ok (.putfield 78, 3) := by decide +kernel
theorem dX3_copyFrom_127 : decode cX3_copyFrom 127 = .ok (.aload_n 0, 1) := by decide +kernel
theorem dX3_copyFrom_128 : decode cX3_copyFrom 128 = .ok (.aload_n 1, 1) := by decide +kernel
theorem dX3_copyFrom_129 : decode cX3_copyFrom 129 = .ok (.getfield 81, 3) := by decide +kernel
theorem dX3_copyFrom_132 : decode cX3_copyFrom 132 = .ok (.putfield 81, 3) := by decide +kernel
theorem dX3_copyFrom_135 : decode cX3_copyFrom 135 = .ok (.aload_n 0, 1) := by decide +kernel
theorem dX3_copyFrom_136 : decode cX3_copyFrom 136 = .ok (.aload_n 1, 1) := by decide +kernel
theorem dX3_copyFrom_137 : decode cX3_copyFrom 137 = .ok (.getfield 84, 3) := by decide +kernel
theorem dX3_copyFrom_140 : decode cX3_copyFrom 140 = .ok (.putfield 84, 3) := by decide +kernel
theorem dX3_copyFrom_143 : decode cX3_copyFrom 143 = .ok (.return_, 1) := by decide +kernel
set_option maxRecDepth 20000 in
theorem ggX3_beginAnew_X2_beginAnew : GoodIn wsX3_beginAnew wsX2_beginAnew := goodIn_r _ [18, 19, 20, 21, 22, 23, 24, 25, 26, 27, 51, 52, 53, 54, 55] (by decide +kernel) (by decide +kernel)
set_option maxRecDepth 20000 in
theorem gX3_beginAnew_X2_beginAnew : GoodIn wsX3_beginAnew (wsV RX3 87 RX2 yX2_beginAnew wsX2_beginAnew) := goodIn_app (goodIn_of _ (by decide +kernel)) ggX3_beginAnew_X2_beginAnew
set_option maxRecDepth 20000 in
theorem ggX3_beginAnew_X6_beginAnew : GoodIn wsX3_beginAnew wsX6_beginAnew := goodIn_r _ [32, 33, 34, 56, 57, 58, 59, 60] (by decide +kernel) (by decide +kernel)
set_option maxRecDepth 20000 in
theorem gX3_beginAnew_X6_beginAnew : GoodIn wsX3_beginAnew (wsV RX3 90 RX6 yX6_beginAnew wsX6_beginAnew) := goodIn_app (goodIn_of _ (by decide +kernel)) ggX3_beginAnew_X6_beginAnew
set_option maxRecDepth 20000 in
theorem ggX3_beginAnew_J7_fill_53178 : GoodIn wsX3_beginAnew wsJ7_fill_53178 := goodIn_r _ [27] (by decide +kernel) (by decide +kernel)
set_option maxRecDepth 20000 in
theorem gX3_beginAnew_J7_fill_53178 : GoodIn wsX3_beginAnew (va_wsS RX3 91 yJ7_fill_53178 wsJ7_fill_53178) := goodIn_app (goodIn_of _ (by decide +kernel)) ggX3_beginAnew_J7_fill_53178
theorem dX3_beginAnew_0 : decode cX3_beginAnew 0 = .ok (.aload_n 0, 1) := by decide +kernel
theorem dX3_beginAnew_1 : decode cX3_beginAnew 1 = .ok (.getfield 19, 3) := by decide +kernel
theorem dX3_beginAnew_4 : decode cX3_beginAnew 4 = .ok (.invokevirtual 87, 3) := by decide +kernel
theorem dX3_beginAnew_7 : decode cX3_beginAnew 7 = .ok (.aload_n 0, 1) := by decide +kernel
theorem dX3_beginAnew_8 : decode cX3_beginAnew 8 = .ok (.getfield 26, 3) := by decide +kernel
theorem dX3_beginAnew_11 : decode cX3_beginAnew 11 = .ok (.invokevirtual 90, 3) := by decide +kernel
theorem dX3_beginAnew_14 : decode cX3_beginAnew 14 = .ok (.aload_n 0, 1) := by decide +kernel
theorem dX3_beginAnew_15 : decode cX3_beginAnew 15 = .ok (.getfield 34, 3) := by decide +kernel
theorem dX3_beginAnew_18 : decode cX3_beginAnew 18 = .ok (.iconst 0, 1) := by decide +kernel
theorem dX3_beginAnew_19 : decode cX3_beginAnew 19 = .ok (.invokestatic 91, 3) := by decide +kernel
theorem dX3_beginAnew_22 : decode cX3_beginAnew 22 = .ok (.aload_n 0, 1) := by decide +kernel
theorem dX3_beginAnew_23 : decode cX3_beginAnew 23 = .ok (.iconst 0, 1) := by decide +kernel
theorem dX3_beginAnew_24 : decode cX3_beginAnew 24 = .ok (.putfield 56, 3) := by decide +kernel
theorem dX3_beginAnew_27 : decode cX3_beginAnew 27 = .ok (.aload_n 0, 1) := by decide +kernel
theorem dX3_beginAnew_28 : decode cX3_beginAnew 28 = .ok (.iconst 0, 1) := by decide +kernel
theorem dX3_beginAnew_29 : decode cX3_beginAnew 29 = .ok (.putfield 60, 3) := by decide +kernel
theorem dX3_beginAnew_32 : decode cX3_beginAnew 32 = .ok (.aload_n 0, 1) := by decide +kernel
theorem dX3_beginAnew_33 : decode cX3_beginAnew 33 = .ok (.iconst 0, 1) := by decide +kernel
theorem dX3_beginAnew_34 : decode cX3_beginAnew 34 = .ok (.putfield 63, 3) := by decide +kernel
theorem dX3_beginAnew_37 : decode cX3_beginAnew 37 = .ok (.aload_n 0, 1) := by decide +kernel
theorem dX3_beginAnew_38 : decode cX3_beginAnew 38 = .ok (.iconst 0, 1) := by decide +kernel
theorem dX3_beginAnew_39 : decode cX3_beginAnew 39 = .ok (.putfield 66, 3) := by decide +kernel
theorem dX3_beginAnew_42 : decode cX3_beginAnew 42 = .ok (.aload_n 0, 1) := by decide +kernel
theorem dX3_beginAnew_43 : decode cX3_beginAnew 43 = .ok (.iconst 0, 1) := by decide +kernel
theorem dX3_beginAnew_44 : decode cX3_beginAnew 44 = .ok (.putfield 69, 3) := by decide +kernel
theorem dX3_beginAnew_47 : decode cX3_beginAnew 47 = .ok (.aload_n 0, 1) := by decide +kernel
theorem dX3_beginAnew_48 : decode cX3_beginAnew 48 = .ok (.iconst 0, 1) := by decide +kernel
theorem dX3_beginAnew_49 : decode cX3_beginAnew 49 = .ok (.putfield 72, 3) := by decide +kernel
theorem dX3_beginAnew_52 : decode cX3_beginAnew 52 = .ok (.aload_n 0, 1) := by decide +kernel
theorem dX3_beginAnew_53 : decode cX3_beginAnew 53 = .ok (.iconst 0, 1) := by decide +kernel
theorem dX3_beginAnew_54 : decode cX3_beginAnew 54 = .ok (.putfield 75, 3) := by decide +kernel
theorem dX3_beginAnew_57 : decode cX3_beginAnew 57 = .ok (.aload_n 0, 1) := by decide +kernel
theorem dX3_beginAnew_58 : decode cX3_beginAnew 58 = .ok (.iconst 0, 1) := by decide +kernel
theorem dX3_beginAnew_59 : decode cX3_beginAnew 59 = .ok (.putfield 78, 3) := by decide +kernel
theorem dX3_beginAnew_62 : decode cX3_beginAnew 62 = .ok (.aload_n 0, 1) := by decide +kernel
theorem dX3_beginAnew_63 : decode cX3_beginAnew 63 = .ok (.iconst 0, 1) := by decide +kernel
theorem dX3_beginAnew_64 : decode cX3_beginAnew 64 = .ok (.putfield 81, 3) := by decide +kernel
theorem dX3_beginAnew_67 : decode cX3_beginAnew 67 = .ok (.aload_n 0, 1) := by decide +kernel
theorem dX3_beginAnew_68 : decode cX3_beginAnew 68 = .ok (.iconst 0, 1) := by decide +kernel
theorem dX3_beginAnew_69 : decode cX3_beginAnew 69 = .ok (.putfield 84, 3) := by decide +kernel
theorem dX3_beginAnew_72 : decode cX3_beginAnew 72 = .ok (.return_, 1) := by decide +kernel
theorem dX3_ticksLeft_0 : decode cX3_ticksLeft 0 = .ok (.sipush 20000, 3) := by decide +kernel
theorem dX3_ticksLeft_3 : decode cX3_ticksLeft 3 = .ok (.aload_n 0, 1) := by decide +kernel
theorem dX3_ticksLeft_4 : decode cX3_ticksLeft 4 = .ok (.getfield 78, 3) := by decide +kernel
theorem dX3_ticksLeft_7 : decode cX3_ticksLeft 7 = .ok (.isub, 1) := by decide +kernel
theorem dX3_ticksLeft_8 : decode cX3_ticksLeft 8 = .ok (.ireturn, 1) := by decide +kernel
theorem dX3_drawn_0 : decode cX3_drawn 0 = .ok (.aload_n 0, 1) := by decide +kernel
theorem dX3_drawn_1 : decode cX3_drawn 1 = .ok (.getfield 34, 3) := by decide +kernel
theorem dX3_drawn_4 : decode cX3_drawn 4 = .ok (.iconst 1, 1) := by decide +kernel
theorem dX3_drawn_5 : decode cX3_drawn 5 = .ok (.iaload, 1) := by decide +kernel
theorem dX3_drawn_6 : decode cX3_drawn 6 = .ok (.aload_n 0, 1) := by decide +kernel
theorem dX3_drawn_7 : decode cX3_drawn 7 = .ok (.getfield 34, 3) := by decide +kernel
theorem dX3_drawn_10 : decode cX3_drawn 10 = .ok (.iconst 2, 1) := by decide +kernel
theorem dX3_drawn_11 : decode cX3_drawn 11 = .ok (.iaload, 1) := by decide +kernel
theorem dX3_drawn_12 : decode cX3_drawn 12 = .ok (.iadd, 1) := by decide +kernel
theorem dX3_drawn_13 : decode cX3_drawn 13 = .ok (.ireturn, 1) := by decide +kernel
set_option maxRecDepth 20000 in
theorem ggX3_pass_X3_tick : GoodIn wsX3_pass wsX3_tick := goodIn_r _ [5, 6, 7, 8, 9, 10, 11, 12, 13, 14, 4, 15, 16, 17, 18, 19, 20, 21, 22, 23, 24, 25, 26, 27, 28, 29, 30, 31, 32, 33, 34, 35, 36, 37, 38, 39, 40, 41, 42, 43, 44, 45, 46, 47, 48, 49, 50, 51, 52, 53, 54, 55, 56, 57, 58, 59, 60, 61, 62, 63, 64, 65, 66, 67, 68, 69, 70, 71, 72, 73, 74, 75, 76, 77, 78, 79, 80, 81, 82, 83, 84, 85, 86, 87, 88, 89, 90, 91, 92, 93, 94, 95, 96, 97, 98, 99, 100, 101, 102, 103, 104, 105, 106, 107, 108, 109, 110, 111, 112, 113, 114, 115, 116, 117, 118, 119, 120, 121, 122, 123, 124, 125, 126, 127, 128, 129, 130, 131, 132, 133, 134, 135, 136, 137, 138] (by decide +kernel) (by decide +kernel)
set_option maxRecDepth 20000 in
theorem gX3_pass_X3_tick : GoodIn wsX3_pass (wsV RX3 97 RX3 yX3_tick wsX3_tick) := goodIn_app (goodIn_of _ (by decide +kernel)) ggX3_pass_X3_tick
theorem dX3_pass_0 : decode cX3_pass 0 = .ok (.iconst 0, 1) := by decide +kernel
theorem dX3_pass_1 : decode cX3_pass 1 = .ok (.istore_n 2, 1) := by decide +kernel
theorem dX3_pass_2 : decode cX3_pass 2 = .ok (.iload_n 2, 1) := by decide +kernel
theorem dX3_pass_3 : decode cX3_pass 3 = .ok (.iload_n 1, 1) := by decide +kernel
theorem dX3_pass_4 : decode cX3_pass 4 = .ok (.if_icmp .ge 13, 3) := by decide +kernel
theorem dX3_pass_7 : decode cX3_pass 7 = .ok (.aload_n 0, 1) := by decide +kernel
theorem dX3_pass_8 : decode cX3_pass 8 = .ok (.invokevirtual 97, 3) := by decide +kernel
theorem dX3_pass_11 : decode cX3_pass 11 = .ok (.iinc 2 1, 3) := by decide +kernel
theorem dX3_pass_14 : decode cX3_pass 14 = .ok (.goto (-12), 3) := by decide +kernel
theorem dX3_pass_17 : decode cX3_pass 17 = .ok (.return_, 1) := by decide +kernel
set_option maxRecDepth 20000 in
theorem ggX3_tick_X3_reasonToStop : GoodIn wsX3_tick wsX3_reasonToStop := goodIn_r _ [11, 12, 13, 14, 15, 16, 5, 17, 18, 19, 20, 21, 22, 103, 104, 105, 106, 107, 108, 109, 110, 111, 112, 113, 114, 115, 116, 117, 118, 119, 120, 121, 122, 123, 124, 125, 126, 127, 128, 129] (by decide +kernel) (by decide +kernel)
set_option maxRecDepth 20000 in
theorem gX3_tick_X3_reasonToStop : GoodIn wsX3_tick (wsV RX3 100 RX3 yX3_reasonToStop wsX3_reasonToStop) := goodIn_app (goodIn_of _ (by decide +kernel)) ggX3_tick_X3_reasonToStop
set_option maxRecDepth 20000 in
theorem ggX3_tick_X3_melt : GoodIn wsX3_tick wsX3_melt := goodIn_r _ [26, 27, 5, 13, 12, 28, 16, 29, 14, 30, 31, 32, 33, 34, 35, 36, 37, 38, 39, 40, 41, 42, 43, 44, 45, 10, 46, 47, 48, 49, 50, 51, 52, 53, 54, 55, 56, 57, 58, 59, 60, 61, 103, 104, 105, 106, 107, 108, 109, 110, 111, 112, 113, 114, 115, 116, 117, 118, 119, 120, 121, 122, 123, 124] (by decide +kernel) (by decide +kernel)
set_option maxRecDepth 20000 in
theorem gX3_tick_X3_melt : GoodIn wsX3_tick (wsV RX3 104 RX3 yX3_melt wsX3_melt) := goodIn_app (goodIn_of _ (by decide +kernel)) ggX3_tick_X3_melt
set_option maxRecDepth 20000 in
theorem ggX3_tick_X3_draw : GoodIn wsX3_tick wsX3_draw := goodIn_r _ [65, 5, 16, 66, 67, 68, 69, 15, 70, 48, 49, 50, 71, 72, 4, 73, 74, 75, 76, 20, 77, 78, 79, 80, 81, 82, 83, 22, 103, 104, 105, 106, 107, 108, 109, 110, 111, 112, 113, 114, 115, 116, 117, 125, 126, 127, 128, 129, 130, 131, 132, 133, 134] (by decide +kernel) (by decide +kernel)
set_option maxRecDepth 20000 in
theorem gX3_tick_X3_draw : GoodIn wsX3_tick (wsV RX3 107 RX3 yX3_draw wsX3_draw) := goodIn_app (goodIn_of _ (by decide +kernel)) ggX3_tick_X3_draw
set_option maxRecDepth 20000 in
theorem ggX3_tick_X3_raiseTold : GoodIn wsX3_tick wsX3_raiseTold := goodIn_r _ [87, 13, 6, 28, 12, 66, 67, 68, 69, 47, 88, 89, 90, 91, 10, 92, 50, 30, 31, 32, 33, 34, 35, 36, 37, 38, 39, 40, 41, 42, 103, 104, 105, 106, 107, 108, 109, 110, 111, 112, 113, 114, 115, 116, 117, 118, 119, 120, 121, 122, 123, 124] (by decide +kernel) (by decide +kernel)
set_option maxRecDepth 20000 in
theorem gX3_tick_X3_raiseTold : GoodIn wsX3_tick (wsV RX3 111 RX3 yX3_raiseTold wsX3_raiseTold) := goodIn_app (goodIn_of _ (by decide +kernel)) ggX3_tick_X3_raiseTold
set_option maxRecDepth 20000 in
theorem ggX3_tick_X6_sealIfFull : GoodIn wsX3_tick wsX6_sealIfFull := goodIn_r _ [97, 98, 99, 100, 101, 102, 130, 131, 132, 133, 134] (by decide +kernel) (by decide +kernel)
set_option maxRecDepth 20000 in
theorem gX3_tick_X6_sealIfFull : GoodIn wsX3_tick (wsV RX3 114 RX6 yX6_sealIfFull wsX6_sealIfFull) := goodIn_app (goodIn_of _ (by decide +kernel)) ggX3_tick_X6_sealIfFull
theorem dX3_tick_0 : decode cX3_tick 0 = .ok (.aload_n 0, 1) := by decide +kernel
theorem dX3_tick_1 : decode cX3_tick 1 = .ok (.dup, 1) := by decide +kernel
theorem dX3_tick_2 : decode cX3_tick 2 = .ok (.getfield 78, 3) := by decide +kernel
theorem dX3_tick_5 : decode cX3_tick 5 = .ok (.iconst 1, 1) := by decide +kernel
theorem dX3_tick_6 : decode cX3_tick 6 = .ok (.iadd, 1) := by decide +kernel
theorem dX3_tick_7 : decode cX3_tick 7 = .ok (.putfield 78, 3) := by decide +kernel
theorem dX3_tick_10 : decode cX3_tick 10 = .ok (.aload_n 0, 1) := by decide +kernel
theorem dX3_tick_11 : decode cX3_tick 11 = .ok (.aload_n 0, 1) := by decide +kernel
theorem dX3_tick_12 : decode cX3_tick 12 = .ok (.invokevirtual 100, 3) := by decide +kernel
theorem dX3_tick_15 : decode cX3_tick 15 = .ok (.putfield 81, 3) := by decide +kernel
theorem dX3_tick_18 : decode cX3_tick 18 = .ok (.aload_n 0, 1) := by decide +kernel
theorem dX3_tick_19 : decode cX3_tick 19 = .ok (.getfield 81, 3) := by decide +kernel
theorem dX3_tick_22 : decode cX3_tick 22 = .ok (.ifCond .ne 10, 3) := by decide +kernel
theorem dX3_tick_25 : decode cX3_tick 25 = .ok (.aload_n 0, 1) := by decide +kernel
theorem dX3_tick_26 : decode cX3_tick 26 = .ok (.invokevirtual 104, 3) := by decide +kernel
theorem dX3_tick_29 : decode cX3_tick 29 = .ok (.goto 13, 3) := by decide +kernel
theorem dX3_tick_32 : decode cX3_tick 32 = .ok (.aload_n 0, 1) := by decide +kernel
theorem dX3_tick_33 : decode cX3_tick 33 = .ok (.dup, 1) := by decide +kernel
theorem dX3_tick_34 : decode cX3_tick 34 = .ok (.getfield 84, 3) := by decide +kernel
theorem dX3_tick_37 : decode cX3_tick 37 = .ok (.iconst 1, 1) := by decide +kernel
theorem dX3_tick_38 : decode cX3_tick 38 = .ok (.iadd, 1) := by decide +kernel
theorem dX3_tick_39 : decode cX3_tick 39 = .ok (.putfield 84, 3) := by decide +kernel
theorem dX3_tick_42 : decode cX3_tick 42 = .ok (.iconst 0, 1) := by decide +kernel
theorem dX3_tick_43 : decode cX3_tick 43 = .ok (.istore_n 1, 1) := by decide +kernel
theorem dX3_tick_44 : decode cX3_tick 44 = .ok (.iload_n 1, 1) := by decide +kernel
theorem dX3_tick_45 : decode cX3_tick 45 = .ok (.iconst 4, 1) := by decide +kernel
theorem dX3_tick_46 : decode cX3_tick 46 = .ok (.if_icmp .ge 14, 3) := by decide +kernel
theorem dX3_tick_49 : decode cX3_tick 49 = .ok (.aload_n 0, 1) := by decide +kernel
theorem dX3_tick_50 : decode cX3_tick 50 = .ok (.iload_n 1, 1) := by decide +kernel
theorem dX3_tick_51 : decode cX3_tick 51 = .ok (.invokevirtual 107, 3) := by decide +kernel
theorem dX3_tick_54 : decode cX3_tick 54 = .ok (.iinc 1 1, 3) := by decide +kernel
theorem dX3_tick_57 : decode cX3_tick 57 = .ok (.goto (-13), 3) := by decide +kernel
theorem dX3_tick_60 : decode cX3_tick 60 = .ok (.aload_n 0, 1) := by decide +kernel
theorem dX3_tick_61 : decode cX3_tick 61 = .ok (.invokevirtual 111, 3) := by decide +kernel
theorem dX3_tick_64 : decode cX3_tick 64 = .ok (.aload_n 0, 1) := by decide +kernel
theorem dX3_tick_65 : decode cX3_tick 65 = .ok (.getfield 26, 3) := by decide +kernel
theorem dX3_tick_68 : decode cX3_tick 68 = .ok (.aload_n 0, 1) := by decide +kernel
theorem dX3_tick_69 : decode cX3_tick 69 = .ok (.getfield 30, 3) := by decide +kernel
theorem dX3_tick_72 : decode cX3_tick 72 = .ok (.bipush 6, 2) := by decide +kernel
theorem dX3_tick_74 : decode cX3_tick 74 = .ok (.iaload, 1) := by decide +kernel
theorem dX3_tick_75 : decode cX3_tick 75 = .ok (.aload_n 0, 1) := by decide +kernel
theorem dX3_tick_76 : decode cX3_tick 76 = .ok (.getfield 72, 3) := by decide +kernel
theorem dX3_tick_79 : decode cX3_tick 79 = .ok (.aload_n 0, 1) := by decide +kernel
theorem dX3_tick_80 : decode cX3_tick 80 = .ok (.getfield 78, 3) := by decide +kernel
theorem dX3_tick_83 : decode cX3_tick 83 = .ok (.invokevirtual 114, 3) := by decide +kernel
theorem dX3_tick_86 : decode cX3_tick 86 = .ok (.return_, 1) := by decide +kernel
set_option maxRecDepth 20000 in
theorem ggX3_reasonToStop_X2_stuckOnes : GoodIn wsX3_reasonToStop wsX2_stuckOnes := goodIn_r _ [11, 12, 35, 36, 37, 38, 39] (by decide +kernel) (by decide +kernel)
set_option maxRecDepth 20000 in
theorem gX3_reasonToStop_X2_stuckOnes : GoodIn wsX3_reasonToStop (wsV RX3 121 RX2 yX2_stuckOnes wsX2_stuckOnes) := goodIn_app (goodIn_of _ (by decide +kernel)) ggX3_reasonToStop_X2_stuckOnes
theorem dX3_reasonToStop_0 : decode cX3_reasonToStop 0 = .ok (.aload_n 0, 1) := by decide +kernel
theorem dX3_reasonToStop_1 : decode cX3_reasonToStop 1 = .ok (.getfield 56, 3) := by decide +kernel
theorem dX3_reasonToStop_4 : decode cX3_reasonToStop 4 = .ok (.aload_n 0, 1) := by decide +kernel
theorem dX3_reasonToStop_5 : decode cX3_reasonToStop 5 = .ok (.getfield 10, 3) := by decide +kernel
theorem dX3_reasonToStop_8 : decode cX3_reasonToStop 8 = .ok (.getfield 118, 3) := by decide +kernel
theorem dX3_reasonToStop_11 : decode cX3_reasonToStop 11 = .ok (.if_icmp .lt 5, 3) := by decide +kernel
theorem dX3_reasonToStop_14 : decode cX3_reasonToStop 14 = .ok (.iconst 1, 1) := by decide +kernel
theorem dX3_reasonToStop_15 : decode cX3_reasonToStop 15 = .ok (.ireturn, 1) := by decide +kernel
theorem dX3_reasonToStop_16 : decode cX3_reasonToStop 16 = .ok (.aload_n 0, 1) := by decide +kernel
theorem dX3_reasonToStop_17 : decode cX3_reasonToStop 17 = .ok (.getfield 19, 3) := by decide +kernel
theorem dX3_reasonToStop_20 : decode cX3_reasonToStop 20 = .ok (.invokevirtual 121, 3) := by decide +kernel
theorem dX3_reasonToStop_23 : decode cX3_reasonToStop 23 = .ok (.iconst 4, 1) := by decide +kernel
theorem dX3_reasonToStop_24 : decode cX3_reasonToStop 24 = .ok (.if_icmp .ne 5, 3) := by decide +kernel
theorem dX3_reasonToStop_27 : decode cX3_reasonToStop 27 = .ok (.iconst 2, 1) := by decide +kernel
theorem dX3_reasonToStop_28 : decode cX3_reasonToStop 28 = .ok (.ireturn, 1) := by decide +kernel
theorem dX3_reasonToStop_29 : decode cX3_reasonToStop 29 = .ok (.aload_n 0, 1) := by decide +kernel
theorem dX3_reasonToStop_30 : decode cX3_reasonToStop 30 = .ok (.getfield 63, 3) := by decide +kernel
theorem dX3_reasonToStop_33 : decode cX3_reasonToStop 33 = .ok (.aload_n 0, 1) := by decide +kernel
theorem dX3_reasonToStop_34 : decode cX3_reasonToStop 34 = .ok (.getfield 30, 3) := by decide +kernel
theorem dX3_reasonToStop_37 : decode cX3_reasonToStop 37 = .ok (.iconst 2, 1) := by decide +kernel
theorem dX3_reasonToStop_38 : decode cX3_reasonToStop 38 = .ok (.iaload, 1) := by decide +kernel
theorem dX3_reasonToStop_39 : decode cX3_reasonToStop 39 = .ok (.if_icmp .lt 7, 3) := by decide +kernel
theorem dX3_reasonToStop_42 : decode cX3_reasonToStop 42 = .ok (.iconst 3, 1) := by decide +kernel
theorem dX3_reasonToStop_43 : decode cX3_reasonToStop 43 = .ok (.goto 4, 3) := by decide +kernel
theorem dX3_reasonToStop_46 : decode cX3_reasonToStop 46 = .ok (.iconst 0, 1) := by decide +kernel
theorem dX3_reasonToStop_47 : decode cX3_reasonToStop 47 = .ok (.ireturn, 1) := by decide +kernel
set_option maxRecDepth 20000 in
theorem ggX3_melt_X0_holding : GoodIn wsX3_melt wsX0_holding := goodIn_r _ [13, 14, 15, 16, 17, 12, 18, 19, 20, 57, 58, 59, 60, 61, 62, 63] (by decide +kernel) (by decide +kernel)
set_option maxRecDepth 20000 in
theorem gX3_melt_X0_holding : GoodIn wsX3_melt (wsV RX3 124 RX0 yX0_holding wsX0_holding) := goodIn_app (goodIn_of _ (by decide +kernel)) ggX3_melt_X0_holding
set_option maxRecDepth 20000 in
theorem ggX3_melt_X0_end : GoodIn wsX3_melt wsX0_end := goodIn_r _ [18, 19, 20, 57, 58, 59, 60, 61, 62, 63] (by decide +kernel) (by decide +kernel)
set_option maxRecDepth 20000 in
theorem gX3_melt_X0_end : GoodIn wsX3_melt (wsV RX3 134 RX0 yX0_end wsX0_end) := goodIn_app (goodIn_of _ (by decide +kernel)) ggX3_melt_X0_end
set_option maxRecDepth 20000 in
theorem ggX3_melt_X3_meltIn : GoodIn wsX3_melt wsX3_meltIn := goodIn_r _ [26, 3, 27, 2, 4, 6, 1, 28, 29, 30, 21, 16, 17, 12, 18, 19, 20, 31, 32, 33, 34, 35, 36, 37, 38, 39, 40, 41, 42, 43, 44, 45, 46, 47, 48, 49, 50, 51, 52, 53, 54, 55, 56, 57, 58, 59, 60, 61, 62, 63] (by decide +kernel) (by decide +kernel)
set_option maxRecDepth 20000 in
theorem gX3_melt_X3_meltIn : GoodIn wsX3_melt (wsV RX3 137 RX3 yX3_meltIn wsX3_meltIn) := goodIn_app (goodIn_of _ (by decide +kernel)) ggX3_melt_X3_meltIn
theorem dX3_melt_0 : decode cX3_melt 0 = .ok (.aload_n 0, 1) := by decide +kernel
theorem dX3_melt_1 : decode cX3_melt 1 = .ok (.dup, 1) := by decide +kernel
theorem dX3_melt_2 : decode cX3_melt 2 = .ok (.getfield 60, 3) := by decide +kernel
theorem dX3_melt_5 : decode cX3_melt 5 = .ok (.aload_n 0, 1) := by decide +kernel
theorem dX3_melt_6 : decode cX3_melt 6 = .ok (.getfield 30, 3) := by decide +kernel
theorem dX3_melt_9 : decode cX3_melt 9 = .ok (.iconst 0, 1) := by decide +kernel
theorem dX3_melt_10 : decode cX3_melt 10 = .ok (.iaload, 1) := by decide +kernel
theorem dX3_melt_11 : decode cX3_melt 11 = .ok (.iadd, 1) := by decide +kernel
theorem dX3_melt_12 : decode cX3_melt 12 = .ok (.putfield 60, 3) := by decide +kernel
theorem dX3_melt_15 : decode cX3_melt 15 = .ok (.aload_n 0, 1) := by decide +kernel
theorem dX3_melt_16 : decode cX3_melt 16 = .ok (.getfield 10, 3) := by decide +kernel
theorem dX3_melt_19 : decode cX3_melt 19 = .ok (.aload_n 0, 1) := by decide +kernel
theorem dX3_melt_20 : decode cX3_melt 20 = .ok (.getfield 56, 3) := by decide +kernel
theorem dX3_melt_23 : decode cX3_melt 23 = .ok (.invokevirtual 124, 3) := by decide +kernel
theorem dX3_melt_26 : decode cX3_melt 26 = .ok (.istore_n 1, 1) := by decide +kernel
theorem dX3_melt_27 : decode cX3_melt 27 = .ok (.iload_n 1, 1) := by decide +kernel
theorem dX3_melt_28 : decode cX3_melt 28 = .ok (.aload_n 0, 1) := by decide +kernel
theorem dX3_melt_29 : decode cX3_melt 29 = .ok (.getfield 10, 3) := by decide +kernel
theorem dX3_melt_32 : decode cX3_melt 32 = .ok (.getfield 128, 3) := by decide +kernel
theorem dX3_melt_35 : decode cX3_melt 35 = .ok (.if_icmp .ge 73, 3) := by decide +kernel
theorem dX3_melt_38 : decode cX3_melt 38 = .ok (.aload_n 0, 1) := by decide +kernel
theorem dX3_melt_39 : decode cX3_melt 39 = .ok (.getfield 63, 3) := by decide +kernel
theorem dX3_melt_42 : decode cX3_melt 42 = .ok (.aload_n 0, 1) := by decide +kernel
theorem dX3_melt_43 : decode cX3_melt 43 = .ok (.getfield 30, 3) := by decide +kernel
theorem dX3_melt_46 : decode cX3_melt 46 = .ok (.iconst 2, 1) := by decide +kernel
theorem dX3_melt_47 : decode cX3_melt 47 = .ok (.iaload, 1) := by decide +kernel
theorem dX3_melt_48 : decode cX3_melt 48 = .ok (.if_icmp .ge 60, 3) := by decide +kernel
theorem dX3_melt_51 : decode cX3_melt 51 = .ok (.aload_n 0, 1) := by decide +kernel
theorem dX3_melt_52 : decode cX3_melt 52 = .ok (.getfield 10, 3) := by decide +kernel
theorem dX3_melt_55 : decode cX3_melt 55 = .ok (.getfield 131, 3) := by decide +kernel
theorem dX3_melt_58 : decode cX3_melt 58 = .ok (.iload_n 1, 1) := by decide +kernel
theorem dX3_melt_59 : decode cX3_melt 59 = .ok (.iaload, 1) := by decide +kernel
theorem dX3_melt_60 : decode cX3_melt 60 = .ok (.iconst 1, 1) := by decide +kernel
theorem dX3_melt_61 : decode cX3_melt 61 = .ok (.if_icmp .ne 18, 3) := by decide +kernel
theorem dX3_melt_64 : decode cX3_melt 64 = .ok (.aload_n 0, 1) := by decide +kernel
theorem dX3_melt_65 : decode cX3_melt 65 = .ok (.aload_n 0, 1) := by decide +kernel
theorem dX3_melt_66 : decode cX3_melt 66 = .ok (.getfield 10, 3) := by decide +kernel
theorem dX3_melt_69 : decode cX3_melt 69 = .ok (.iload_n 1, 1) := by decide +kernel
theorem dX3_melt_70 : decode cX3_melt 70 = .ok (.invokevirtual 134, 3) := by decide +kernel
theorem dX3_melt_73 : decode cX3_melt 73 = .ok (.putfield 56, 3) := by decide +kernel
theorem dX3_melt_76 : decode cX3_melt 76 = .ok (.goto 8, 3) := by decide +kernel
theorem dX3_melt_79 : decode cX3_melt 79 = .ok (.aload_n 0, 1) := by decide +kernel
theorem dX3_melt_80 : decode cX3_melt 80 = .ok (.iload_n 1, 1) := by decide +kernel
theorem dX3_melt_81 : decode cX3_melt 81 = .ok (.invokevirtual 137, 3) := by decide +kernel
theorem dX3_melt_84 : decode cX3_melt 84 = .ok (.aload_n 0, 1) := by decide +kernel
theorem dX3_melt_85 : decode cX3_melt 85 = .ok (.getfield 56, 3) := by decide +kernel
theorem dX3_melt_88 : decode cX3_melt 88 = .ok (.aload_n 0, 1) := by decide +kernel
theorem dX3_melt_89 : decode cX3_melt 89 = .ok (.getfield 10, 3) := by decide +kernel
theorem dX3_melt_92 : decode cX3_melt 92 = .ok (.iload_n 1, 1) := by decide +kernel
theorem dX3_melt_93 : decode cX3_melt 93 = .ok (.invokevirtual 134, 3) := by decide +kernel
theorem dX3_melt_96 : decode cX3_melt 96 = .ok (.if_icmp .ge 6, 3) := by decide +kernel
theorem dX3_melt_99 : decode cX3_melt 99 = .ok (.goto 9, 3) := by decide +kernel
theorem dX3_melt_102 : decode cX3_melt 102 = .ok (.iinc 1 1, 3) := by decide +kernel
theorem dX3_melt_105 : decode cX3_melt 105 = .ok (.goto (-78), 3) := by decide +kernel
theorem dX3_melt_108 : decode cX3_melt 108 = .ok (.aload_n 0, 1) := by decide +kernel
theorem dX3_melt_109 : decode cX3_melt 109 = .ok (.getfield 56, 3) := by decide +kernel
theorem dX3_melt_112 : decode cX3_melt 112 = .ok (.aload_n 0, 1) := by decide +kernel
theorem dX3_melt_113 : decode cX3_melt 113 = .ok (.getfield 10, 3) := by decide +kernel
theorem dX3_melt_116 : decode cX3_melt 116 = .ok (.getfield 118, 3) := by decide +kernel
theorem dX3_melt_119 : decode cX3_melt 119 = .ok (.if_icmp .lt 8, 3) := by decide +kernel
theorem dX3_melt_122 : decode cX3_melt 122 = .ok (.aload_n 0, 1) := by decide +kernel
theorem dX3_melt_123 : decode cX3_melt 123 = .ok (.iconst 0, 1) := by decide +kernel
theorem dX3_melt_124 : decode cX3_melt 124 = .ok (.putfield 60, 3) := by decide +kernel
theorem dX3_melt_127 : decode cX3_melt 127 = .ok (.return_, 1) := by decide +kernel
set_option maxRecDepth 20000 in
theorem ggX3_meltIn_X0_end : GoodIn wsX3_meltIn wsX0_end := goodIn_r _ [14, 15, 16, 43, 44, 45, 46, 47, 48, 49] (by decide +kernel) (by decide +kernel)
set_option maxRecDepth 20000 in
theorem gX3_meltIn_X0_end : GoodIn wsX3_meltIn (wsV RX3 134 RX0 yX0_end wsX0_end) := goodIn_app (goodIn_of _ (by decide +kernel)) ggX3_meltIn_X0_end
set_option maxRecDepth 20000 in
theorem ggX3_meltIn_X0_gasOfUnit : GoodIn wsX3_meltIn wsX0_gasOfUnit := goodIn_r _ [20, 21, 22, 23, 43, 44, 45, 46, 47, 48, 49] (by decide +kernel) (by decide +kernel)
set_option maxRecDepth 20000 in
theorem gX3_meltIn_X0_gasOfUnit : GoodIn wsX3_meltIn (wsV RX3 143 RX0 yX0_gasOfUnit wsX0_gasOfUnit) := goodIn_app (goodIn_of _ (by decide +kernel)) ggX3_meltIn_X0_gasOfUnit
set_option maxRecDepth 20000 in
theorem ggX3_meltIn_X0_dirtOfUnit : GoodIn wsX3_meltIn wsX0_dirtOfUnit := goodIn_r _ [27, 21, 23, 43, 44, 45, 46, 47, 48, 49] (by decide +kernel) (by decide +kernel)
set_option maxRecDepth 20000 in
theorem gX3_meltIn_X0_dirtOfUnit : GoodIn wsX3_meltIn (wsV RX3 146 RX0 yX0_dirtOfUnit wsX0_dirtOfUnit) := goodIn_app (goodIn_of _ (by decide +kernel)) ggX3_meltIn_X0_dirtOfUnit
theorem dX3_meltIn_0 : decode cX3_meltIn 0 = .ok (.aload_n 0, 1) := by decide +kernel
theorem dX3_meltIn_1 : decode cX3_meltIn 1 = .ok (.getfield 10, 3) := by decide +kernel
theorem dX3_meltIn_4 : decode cX3_meltIn 4 = .ok (.iload_n 1, 1) := by decide +kernel
theorem dX3_meltIn_5 : decode cX3_meltIn 5 = .ok (.invokevirtual 134, 3) := by decide +kernel
theorem dX3_meltIn_8 : decode cX3_meltIn 8 = .ok (.istore_n 2, 1) := by decide +kernel
theorem dX3_meltIn_9 : decode cX3_meltIn 9 = .ok (.aload_n 0, 1) := by decide +kernel
theorem dX3_meltIn_10 : decode cX3_meltIn 10 = .ok (.getfield 10, 3) := by decide +kernel
theorem dX3_meltIn_13 : decode cX3_meltIn 13 = .ok (.getfield 140, 3) := by decide +kernel
theorem dX3_meltIn_16 : decode cX3_meltIn 16 = .ok (.iload_n 1, 1) := by decide +kernel
theorem dX3_meltIn_17 : decode cX3_meltIn 17 = .ok (.iaload, 1) := by decide +kernel
theorem dX3_meltIn_18 : decode cX3_meltIn 18 = .ok (.istore_n 3, 1) := by decide +kernel
theorem dX3_meltIn_19 : decode cX3_meltIn 19 = .ok (.aload_n 0, 1) := by decide +kernel
theorem dX3_meltIn_20 : decode cX3_meltIn 20 = .ok (.getfield 10, 3) := by decide +kernel
theorem dX3_meltIn_23 : decode cX3_meltIn 23 = .ok (.iload_n 1, 1) := by decide +kernel
theorem dX3_meltIn_24 : decode cX3_meltIn 24 = .ok (.invokevirtual 143, 3) := by decide +kernel
theorem dX3_meltIn_27 : decode cX3_meltIn 27 = .ok (.istore 4, 2) := by decide +kernel
theorem dX3_meltIn_29 : decode cX3_meltIn 29 = .ok (.aload_n 0, 1) := by decide +kernel
theorem dX3_meltIn_30 : decode cX3_meltIn 30 = .ok (.getfield 10, 3) := by decide +kernel
theorem dX3_meltIn_33 : decode cX3_meltIn 33 = .ok (.iload_n 1, 1) := by decide +kernel
theorem dX3_meltIn_34 : decode cX3_meltIn 34 = .ok (.invokevirtual 146, 3) := by decide +kernel
theorem dX3_meltIn_37 : decode cX3_meltIn 37 = .ok (.istore 5, 2) := by decide +kernel
theorem dX3_meltIn_39 : decode cX3_meltIn 39 = .ok (.aload_n 0, 1) := by decide +kernel
theorem dX3_meltIn_40 : decode cX3_meltIn 40 = .ok (.getfield 30, 3) := by decide +kernel
theorem dX3_meltIn_43 : decode cX3_meltIn 43 = .ok (.iconst 1, 1) := by decide +kernel
theorem dX3_meltIn_44 : decode cX3_meltIn 44 = .ok (.iaload, 1) := by decide +kernel
theorem dX3_meltIn_45 : decode cX3_meltIn 45 = .ok (.iload_n 3, 1) := by decide +kernel
theorem dX3_meltIn_46 : decode cX3_meltIn 46 = .ok (.imul, 1) := by decide +kernel
theorem dX3_meltIn_47 : decode cX3_meltIn 47 = .ok (.bipush 100, 2) := by decide +kernel
theorem dX3_meltIn_49 : decode cX3_meltIn 49 = .ok (.idiv, 1) := by decide +kernel
theorem dX3_meltIn_50 : decode cX3_meltIn 50 = .ok (.istore 6, 2) := by decide +kernel
theorem dX3_meltIn_52 : decode cX3_meltIn 52 = .ok (.aload_n 0, 1) := by decide +kernel
theorem dX3_meltIn_53 : decode cX3_meltIn 53 = .ok (.getfield 56, 3) := by decide +kernel
theorem dX3_meltIn_56 : decode cX3_meltIn 56 = .ok (.iload_n 2, 1) := by decide +kernel
theorem dX3_meltIn_57 : decode cX3_meltIn 57 = .ok (.if_icmp .ge 113, 3) := by decide +kernel
theorem dX3_meltIn_60 : decode cX3_meltIn 60 = .ok (.aload_n 0, 1) := by decide +kernel
theorem dX3_meltIn_61 : decode cX3_meltIn 61 = .ok (.getfield 63, 3) := by decide +kernel
theorem dX3_meltIn_64 : decode cX3_meltIn 64 = .ok (.aload_n 0, 1) := by decide +kernel
theorem dX3_meltIn_65 : decode cX3_meltIn 65 = .ok (.getfield 30, 3) := by decide +kernel
theorem dX3_meltIn_68 : decode cX3_meltIn 68 = .ok (.iconst 2, 1) := by decide +kernel
theorem dX3_meltIn_69 : decode cX3_meltIn 69 = .ok (.iaload, 1) := by decide +kernel
theorem dX3_meltIn_70 : decode cX3_meltIn 70 = .ok (.if_icmp .ge 100, 3) := by decide +kernel
theorem dX3_meltIn_73 : decode cX3_meltIn 73 = .ok (.aload_n 0, 1) := by decide +kernel
theorem dX3_meltIn_74 : decode cX3_meltIn 74 = .ok (.getfield 60, 3) := by decide +kernel
theorem dX3_meltIn_77 : decode cX3_meltIn 77 = .ok (.iload 6, 2) := by decide +kernel
theorem dX3_meltIn_79 : decode cX3_meltIn 79 = .ok (.if_icmp .lt 91, 3) := by decide +kernel
theorem dX3_meltIn_82 : decode cX3_meltIn 82 = .ok (.aload_n 0, 1) := by decide +kernel
theorem dX3_meltIn_83 : decode cX3_meltIn 83 = .ok (.dup, 1) := by decide +kernel
theorem dX3_meltIn_84 : decode cX3_meltIn 84 = .ok (.getfield 56, 3) := by decide +kernel
theorem dX3_meltIn_87 : decode cX3_meltIn 87 = .ok (.iconst 1, 1) := by decide +kernel
theorem dX3_meltIn_88 : decode cX3_meltIn 88 = .ok (.iadd, 1) := by decide +kernel
theorem dX3_meltIn_89 : decode cX3_meltIn 89 = .ok (.putfield 56, 3) := by decide +kernel
theorem dX3_meltIn_92 : decode cX3_meltIn 92 = .ok (.aload_n 0, 1) := by decide +kernel
theorem dX3_meltIn_93 : decode cX3_meltIn 93 = .ok (.dup, 1) := by decide +kernel
theorem dX3_meltIn_94 : decode cX3_meltIn 94 = .ok (.getfield 60, 3) := by decide +kernel
theorem dX3_meltIn_97 : decode cX3_meltIn 97 = .ok (.iload 6, 2) := by decide +kernel
theorem dX3_meltIn_99 : decode cX3_meltIn 99 = .ok (.isub, 1) := by decide +kernel
theorem dX3_meltIn_100 : decode cX3_meltIn 100 = .ok (.putfield 60, 3) := by decide +kernel
theorem dX3_meltIn_103 : decode cX3_meltIn 103 = .ok (.aload_n 0, 1) := by decide +kernel
theorem dX3_meltIn_104 : decode cX3_meltIn 104 = .ok (.dup, 1) := by decide +kernel
theorem dX3_meltIn_105 : decode cX3_meltIn 105 = .ok (.getfield 63, 3) := by decide +kernel
theorem dX3_meltIn_108 : decode cX3_meltIn 108 = .ok (.iload_n 3, 1) := by decide +kernel
theorem dX3_meltIn_109 : decode cX3_meltIn 109 = .ok (.iadd, 1) := by decide +kernel
theorem dX3_meltIn_110 : decode cX3_meltIn 110 = .ok (.putfield 63, 3) := by decide +kernel
theorem dX3_meltIn_113 : decode cX3_meltIn 113 = .ok (.aload_n 0, 1) := by decide +kernel
theorem dX3_meltIn_114 : decode cX3_meltIn 114 = .ok (.dup, 1) := by decide +kernel
theorem dX3_meltIn_115 : decode cX3_meltIn 115 = .ok (.getfield 66, 3) := by decide +kernel
theorem dX3_meltIn_118 : decode cX3_meltIn 118 = .ok (.iload 4, 2) := by decide +kernel
theorem dX3_meltIn_120 : decode cX3_meltIn 120 = .ok (.iadd, 1) := by decide +kernel
theorem dX3_meltIn_121 : decode cX3_meltIn 121 = .ok (.putfield 66, 3) := by decide +kernel
theorem dX3_meltIn_124 : decode cX3_meltIn 124 = .ok (.aload_n 0, 1) := by decide +kernel
theorem dX3_meltIn_125 : decode cX3_meltIn 125 = .ok (.dup, 1) := by decide +kernel
theorem dX3_meltIn_126 : decode cX3_meltIn 126 = .ok (.getfield 69, 3) := by decide +kernel
theorem dX3_meltIn_129 : decode cX3_meltIn 129 = .ok (.iload 5, 2) := by decide +kernel
theorem dX3_meltIn_131 : decode cX3_meltIn 131 = .ok (.iadd, 1) := by decide +kernel
theorem dX3_meltIn_132 : decode cX3_meltIn 132 = .ok (.putfield 69, 3) := by decide +kernel
theorem dX3_meltIn_135 : decode cX3_meltIn 135 = .ok (.aload_n 0, 1) := by decide +kernel
theorem dX3_meltIn_136 : decode cX3_meltIn 136 = .ok (.getfield 34, 3) := by decide +kernel
theorem dX3_meltIn_139 : decode cX3_meltIn 139 = .ok (.iconst 0, 1) := by decide +kernel
theorem dX3_meltIn_140 : decode cX3_meltIn 140 = .ok (.dup2, 1) := by decide +kernel
theorem dX3_meltIn_141 : decode cX3_meltIn 141 = .ok (.iaload, 1) := by decide +kernel
theorem dX3_meltIn_142 : decode cX3_meltIn 142 = .ok (.iload_n 3, 1) := by decide +kernel
theorem dX3_meltIn_143 : decode cX3_meltIn 143 = .ok (.iadd, 1) := by decide +kernel
theorem dX3_meltIn_144 : decode cX3_meltIn 144 = .ok (.iastore, 1) := by decide +kernel
theorem dX3_meltIn_145 : decode cX3_meltIn 145 = .ok (.aload_n 0, 1) := by decide +kernel
theorem dX3_meltIn_146 : decode cX3_meltIn 146 = .ok (.getfield 34, 3) := by decide +kernel
theorem dX3_meltIn_149 : decode cX3_meltIn 149 = .ok (.iconst 3, 1) := by decide +kernel
theorem dX3_meltIn_150 : decode cX3_meltIn 150 = .ok (.dup2, 1) := by decide +kernel
theorem dX3_meltIn_151 : decode cX3_meltIn 151 = .ok (.iaload, 1) := by decide +kernel
theorem dX3_meltIn_152 : decode cX3_meltIn 152 = .ok (.iload 4, 2) := by decide +kernel
theorem dX3_meltIn_154 : decode cX3_meltIn 154 = .ok (.iadd, 1) := by decide +kernel
theorem dX3_meltIn_155 : decode cX3_meltIn 155 = .ok (.iastore, 1) := by decide +kernel
theorem dX3_meltIn_156 : decode cX3_meltIn 156 = .ok (.aload_n 0, 1) := by decide +kernel
theorem dX3_meltIn_157 : decode cX3_meltIn 157 = .ok (.getfield 34, 3) := by decide +kernel
theorem dX3_meltIn_160 : decode cX3_meltIn 160 = .ok (.iconst 5, 1) := by decide +kernel
theorem dX3_meltIn_161 : decode cX3_meltIn 161 = .ok (.dup2, 1) := by decide +kernel
theorem dX3_meltIn_162 : decode cX3_meltIn 162 = .ok (.iaload, 1) := by decide +kernel
theorem dX3_meltIn_163 : decode cX3_meltIn 163 = .ok (.iload 5, 2) := by decide +kernel
theorem dX3_meltIn_165 : decode cX3_meltIn 165 = .ok (.iadd, 1) := by decide +kernel
theorem dX3_meltIn_166 : decode cX3_meltIn 166 = .ok (.iastore, 1) := by decide +kernel
theorem dX3_meltIn_167 : decode cX3_meltIn 167 = .ok (.goto (-115), 3) := by decide +kernel
theorem dX3_meltIn_170 : decode cX3_meltIn 170 = .ok (.return_, 1) := by decide +kernel
set_option maxRecDepth 20000 in
theorem ggX3_draw_X2_breaks : GoodIn wsX3_draw wsX2_breaks := goodIn_r _ [20, 21, 43, 44, 45, 46, 47] (by decide +kernel) (by decide +kernel)
set_option maxRecDepth 20000 in
theorem gX3_draw_X2_breaks : GoodIn wsX3_draw (wsV RX3 161 RX2 yX2_breaks wsX2_breaks) := goodIn_app (goodIn_of _ (by decide +kernel)) ggX3_draw_X2_breaks
set_option maxRecDepth 20000 in
theorem ggX3_draw_X2_soil : GoodIn wsX3_draw wsX2_soil := goodIn_r _ [25, 26, 27, 43, 44, 45, 46, 47] (by decide +kernel) (by decide +kernel)
set_option maxRecDepth 20000 in
theorem gX3_draw_X2_soil : GoodIn wsX3_draw (wsV RX3 171 RX2 yX2_soil wsX2_soil) := goodIn_app (goodIn_of _ (by decide +kernel)) ggX3_draw_X2_soil
theorem dX3_draw_0 : decode cX3_draw 0 = .ok (.aload_n 0, 1) := by decide +kernel
theorem dX3_draw_1 : decode cX3_draw 1 = .ok (.getfield 30, 3) := by decide +kernel
theorem dX3_draw_4 : decode cX3_draw 4 = .ok (.iconst 3, 1) := by decide +kernel
theorem dX3_draw_5 : decode cX3_draw 5 = .ok (.iaload, 1) := by decide +kernel
theorem dX3_draw_6 : decode cX3_draw 6 = .ok (.aload_n 0, 1) := by decide +kernel
theorem dX3_draw_7 : decode cX3_draw 7 = .ok (.getfield 63, 3) := by decide +kernel
theorem dX3_draw_10 : decode cX3_draw 10 = .ok (.invokestatic 149, 3) := by decide +kernel
theorem dX3_draw_13 : decode cX3_draw 13 = .ok (.istore_n 2, 1) := by decide +kernel
theorem dX3_draw_14 : decode cX3_draw 14 = .ok (.aload_n 0, 1) := by decide +kernel
theorem dX3_draw_15 : decode cX3_draw 15 = .ok (.getfield 19, 3) := by decide +kernel
theorem dX3_draw_18 : decode cX3_draw 18 = .ok (.getfield 155, 3) := by decide +kernel
theorem dX3_draw_21 : decode cX3_draw 21 = .ok (.iload_n 1, 1) := by decide +kernel
theorem dX3_draw_22 : decode cX3_draw 22 = .ok (.iaload, 1) := by decide +kernel
theorem dX3_draw_23 : decode cX3_draw 23 = .ok (.ifCond .ne 14, 3) := by decide +kernel
theorem dX3_draw_26 : decode cX3_draw 26 = .ok (.aload_n 0, 1) := by decide +kernel
theorem dX3_draw_27 : decode cX3_draw 27 = .ok (.getfield 63, 3) := by decide +kernel
theorem dX3_draw_30 : decode cX3_draw 30 = .ok (.ifCond .le 7, 3) := by decide +kernel
theorem dX3_draw_33 : decode cX3_draw 33 = .ok (.iload_n 2, 1) := by decide +kernel
theorem dX3_draw_34 : decode cX3_draw 34 = .ok (.ifCond .gt 4, 3) := by decide +kernel
theorem dX3_draw_37 : decode cX3_draw 37 = .ok (.return_, 1) := by decide +kernel
theorem dX3_draw_38 : decode cX3_draw 38 = .ok (.aload_n 0, 1) := by decide +kernel
theorem dX3_draw_39 : decode cX3_draw 39 = .ok (.getfield 66, 3) := by decide +kernel
theorem dX3_draw_42 : decode cX3_draw 42 = .ok (.iload_n 2, 1) := by decide +kernel
theorem dX3_draw_43 : decode cX3_draw 43 = .ok (.imul, 1) := by decide +kernel
theorem dX3_draw_44 : decode cX3_draw 44 = .ok (.aload_n 0, 1) := by decide +kernel
theorem dX3_draw_45 : decode cX3_draw 45 = .ok (.getfield 63, 3) := by decide +kernel
theorem dX3_draw_48 : decode cX3_draw 48 = .ok (.idiv, 1) := by decide +kernel
theorem dX3_draw_49 : decode cX3_draw 49 = .ok (.istore_n 3, 1) := by decide +kernel
theorem dX3_draw_50 : decode cX3_draw 50 = .ok (.aload_n 0, 1) := by decide +kernel
theorem dX3_draw_51 : decode cX3_draw 51 = .ok (.getfield 69, 3) := by decide +kernel
theorem dX3_draw_54 : decode cX3_draw 54 = .ok (.iload_n 2, 1) := by decide +kernel
theorem dX3_draw_55 : decode cX3_draw 55 = .ok (.imul, 1) := by decide +kernel
theorem dX3_draw_56 : decode cX3_draw 56 = .ok (.aload_n 0, 1) := by decide +kernel
theorem dX3_draw_57 : decode cX3_draw 57 = .ok (.getfield 63, 3) := by decide +kernel
theorem dX3_draw_60 : decode cX3_draw 60 = .ok (.idiv, 1) := by decide +kernel
theorem dX3_draw_61 : decode cX3_draw 61 = .ok (.istore 4, 2) := by decide +kernel
theorem dX3_draw_63 : decode cX3_draw 63 = .ok (.aload_n 0, 1) := by decide +kernel
theorem dX3_draw_64 : decode cX3_draw 64 = .ok (.dup, 1) := by decide +kernel
theorem dX3_draw_65 : decode cX3_draw 65 = .ok (.getfield 63, 3) := by decide +kernel
theorem dX3_draw_68 : decode cX3_draw 68 = .ok (.iload_n 2, 1) := by decide +kernel
theorem dX3_draw_69 : decode cX3_draw 69 = .ok (.isub, 1) := by decide +kernel
theorem dX3_draw_70 : decode cX3_draw 70 = .ok (.putfield 63, 3) := by decide +kernel
theorem dX3_draw_73 : decode cX3_draw 73 = .ok (.aload_n 0, 1) := by decide +kernel
theorem dX3_draw_74 : decode cX3_draw 74 = .ok (.dup, 1) := by decide +kernel
theorem dX3_draw_75 : decode cX3_draw 75 = .ok (.getfield 66, 3) := by decide +kernel
theorem dX3_draw_78 : decode cX3_draw 78 = .ok (.iload_n 3, 1) := by decide +kernel
theorem dX3_draw_79 : decode cX3_draw 79 = .ok (.isub, 1) := by decide +kernel
theorem dX3_draw_80 : decode cX3_draw 80 = .ok (.putfield 66, 3) := by decide +kernel
theorem dX3_draw_83 : decode cX3_draw 83 = .ok (.aload_n 0, 1) := by decide +kernel
theorem dX3_draw_84 : decode cX3_draw 84 = .ok (.dup, 1) := by decide +kernel
theorem dX3_draw_85 : decode cX3_draw 85 = .ok (.getfield 69, 3) := by decide +kernel
theorem dX3_draw_88 : decode cX3_draw 88 = .ok (.iload 4, 2) := by decide +kernel
theorem dX3_draw_90 : decode cX3_draw 90 = .ok (.isub, 1) := by decide +kernel
theorem dX3_draw_91 : decode cX3_draw 91 = .ok (.putfield 69, 3) := by decide +kernel
theorem dX3_draw_94 : decode cX3_draw 94 = .ok (.aload_n 0, 1) := by decide +kernel
theorem dX3_draw_95 : decode cX3_draw 95 = .ok (.getfield 34, 3) := by decide +kernel
theorem dX3_draw_98 : decode cX3_draw 98 = .ok (.iconst 4, 1) := by decide +kernel
theorem dX3_draw_99 : decode cX3_draw 99 = .ok (.dup2, 1) := by decide +kernel
theorem dX3_draw_100 : decode cX3_draw 100 = .ok (.iaload, 1) := by decide +kernel
theorem dX3_draw_101 : decode cX3_draw 101 = .ok (.iload_n 3, 1) := by decide +kernel
theorem dX3_draw_102 : decode cX3_draw 102 = .ok (.iadd, 1) := by decide +kernel
theorem dX3_draw_103 : decode cX3_draw 103 = .ok (.iastore, 1) := by decide +kernel
theorem dX3_draw_104 : decode cX3_draw 104 = .ok (.aload_n 0, 1) := by decide +kernel
theorem dX3_draw_105 : decode cX3_draw 105 = .ok (.getfield 34, 3) := by decide +kernel
theorem dX3_draw_108 : decode cX3_draw 108 = .ok (.bipush 6, 2) := by decide +kernel
theorem dX3_draw_110 : decode cX3_draw 110 = .ok (.dup2, 1) := by decide +kernel
theorem dX3_draw_111 : decode cX3_draw 111 = .ok (.iaload, 1) := by decide +kernel
theorem dX3_draw_112 : decode cX3_draw 112 = .ok (.iload 4, 2) := by decide +kernel
theorem dX3_draw_114 : decode cX3_draw 114 = .ok (.iadd, 1) := by decide +kernel
theorem dX3_draw_115 : decode cX3_draw 115 = .ok (.iastore, 1) := by decide +kernel
theorem dX3_draw_116 : decode cX3_draw 116 = .ok (.aload_n 0, 1) := by decide +kernel
theorem dX3_draw_117 : decode cX3_draw 117 = .ok (.getfield 19, 3) := by decide +kernel
theorem dX3_draw_120 : decode cX3_draw 120 = .ok (.getfield 158, 3) := by decide +kernel
theorem dX3_draw_123 : decode cX3_draw 123 = .ok (.iload_n 1, 1) := by decide +kernel
theorem dX3_draw_124 : decode cX3_draw 124 = .ok (.dup2, 1) := by decide +kernel
theorem dX3_draw_125 : decode cX3_draw 125 = .ok (.iaload, 1) := by decide +kernel
theorem dX3_draw_126 : decode cX3_draw 126 = .ok (.iload_n 2, 1) := by decide +kernel
theorem dX3_draw_127 : decode cX3_draw 127 = .ok (.iadd, 1) := by decide +kernel
theorem dX3_draw_128 : decode cX3_draw 128 = .ok (.iastore, 1) := by decide +kernel
theorem dX3_draw_129 : decode cX3_draw 129 = .ok (.bipush 100, 2) := by decide +kernel
theorem dX3_draw_131 : decode cX3_draw 131 = .ok (.iload_n 3, 1) := by decide +kernel
theorem dX3_draw_132 : decode cX3_draw 132 = .ok (.imul, 1) := by decide +kernel
theorem dX3_draw_133 : decode cX3_draw 133 = .ok (.iload_n 2, 1) := by decide +kernel
theorem dX3_draw_134 : decode cX3_draw 134 = .ok (.idiv, 1) := by decide +kernel
theorem dX3_draw_135 : decode cX3_draw 135 = .ok (.aload_n 0, 1) := by decide +kernel
theorem dX3_draw_136 : decode cX3_draw 136 = .ok (.getfield 30, 3) := by decide +kernel
theorem dX3_draw_139 : decode cX3_draw 139 = .ok (.iconst 5, 1) := by decide +kernel
theorem dX3_draw_140 : decode cX3_draw 140 = .ok (.iaload, 1) := by decide +kernel
theorem dX3_draw_141 : decode cX3_draw 141 = .ok (.if_icmp .le 7, 3) := by decide +kernel
theorem dX3_draw_144 : decode cX3_draw 144 = .ok (.iconst 1, 1) := by decide +kernel
theorem dX3_draw_145 : decode cX3_draw 145 = .ok (.goto 4, 3) := by decide +kernel
theorem dX3_draw_148 : decode cX3_draw 148 = .ok (.iconst 0, 1) := by decide +kernel
theorem dX3_draw_149 : decode cX3_draw 149 = .ok (.istore 5, 2) := by decide +kernel
theorem dX3_draw_151 : decode cX3_draw 151 = .ok (.aload_n 0, 1) := by decide +kernel
theorem dX3_draw_152 : decode cX3_draw 152 = .ok (.getfield 19, 3) := by decide +kernel
theorem dX3_draw_155 : decode cX3_draw 155 = .ok (.iload_n 1, 1) := by decide +kernel
theorem dX3_draw_156 : decode cX3_draw 156 = .ok (.iload 5, 2) := by decide +kernel
theorem dX3_draw_158 : decode cX3_draw 158 = .ok (.aload_n 0, 1) := by decide +kernel
theorem dX3_draw_159 : decode cX3_draw 159 = .ok (.getfield 30, 3) := by decide +kernel
theorem dX3_draw_162 : decode cX3_draw 162 = .ok (.bipush 7, 2) := by decide +kernel
theorem dX3_draw_164 : decode cX3_draw 164 = .ok (.iaload, 1) := by decide +kernel
theorem dX3_draw_165 : decode cX3_draw 165 = .ok (.invokevirtual 161, 3) := by decide +kernel
theorem dX3_draw_168 : decode cX3_draw 168 = .ok (.ifCond .eq 29, 3) := by decide +kernel
theorem dX3_draw_171 : decode cX3_draw 171 = .ok (.aload_n 0, 1) := by decide +kernel
theorem dX3_draw_172 : decode cX3_draw 172 = .ok (.getfield 19, 3) := by decide +kernel
theorem dX3_draw_175 : decode cX3_draw 175 = .ok (.getfield 165, 3) := by decide +kernel
theorem dX3_draw_178 : decode cX3_draw 178 = .ok (.iload_n 1, 1) := by decide +kernel
theorem dX3_draw_179 : decode cX3_draw 179 = .ok (.dup2, 1) := by decide +kernel
theorem dX3_draw_180 : decode cX3_draw 180 = .ok (.iaload, 1) := by decide +kernel
theorem dX3_draw_181 : decode cX3_draw 181 = .ok (.iload_n 2, 1) := by decide +kernel
theorem dX3_draw_182 : decode cX3_draw 182 = .ok (.iadd, 1) := by decide +kernel
theorem dX3_draw_183 : decode cX3_draw 183 = .ok (.iastore, 1) := by decide +kernel
theorem dX3_draw_184 : decode cX3_draw 184 = .ok (.aload_n 0, 1) := by decide +kernel
theorem dX3_draw_185 : decode cX3_draw 185 = .ok (.getfield 34, 3) := by decide +kernel
theorem dX3_draw_188 : decode cX3_draw 188 = .ok (.iconst 2, 1) := by decide +kernel
theorem dX3_draw_189 : decode cX3_draw 189 = .ok (.dup2, 1) := by decide +kernel
theorem dX3_draw_190 : decode cX3_draw 190 = .ok (.iaload, 1) := by decide +kernel
theorem dX3_draw_191 : decode cX3_draw 191 = .ok (.iload_n 2, 1) := by decide +kernel
theorem dX3_draw_192 : decode cX3_draw 192 = .ok (.iadd, 1) := by decide +kernel
theorem dX3_draw_193 : decode cX3_draw 193 = .ok (.iastore, 1) := by decide +kernel
theorem dX3_draw_194 : decode cX3_draw 194 = .ok (.goto 26, 3) := by decide +kernel
theorem dX3_draw_197 : decode cX3_draw 197 = .ok (.aload_n 0, 1) := by decide +kernel
theorem dX3_draw_198 : decode cX3_draw 198 = .ok (.getfield 26, 3) := by decide +kernel
theorem dX3_draw_201 : decode cX3_draw 201 = .ok (.dup, 1) := by decide +kernel
theorem dX3_draw_202 : decode cX3_draw 202 = .ok (.getfield 168, 3) := by decide +kernel
theorem dX3_draw_205 : decode cX3_draw 205 = .ok (.iload_n 2, 1) := by decide +kernel
theorem dX3_draw_206 : decode cX3_draw 206 = .ok (.iadd, 1) := by decide +kernel
theorem dX3_draw_207 : decode cX3_draw 207 = .ok (.putfield 168, 3) := by decide +kernel
theorem dX3_draw_210 : decode cX3_draw 210 = .ok (.aload_n 0, 1) := by decide +kernel
theorem dX3_draw_211 : decode cX3_draw 211 = .ok (.getfield 34, 3) := by decide +kernel
theorem dX3_draw_214 : decode cX3_draw 214 = .ok (.iconst 1, 1) := by decide +kernel
theorem dX3_draw_215 : decode cX3_draw 215 = .ok (.dup2, 1) := by decide +kernel
theorem dX3_draw_216 : decode cX3_draw 216 = .ok (.iaload, 1) := by decide +kernel
theorem dX3_draw_217 : decode cX3_draw 217 = .ok (.iload_n 2, 1) := by decide +kernel
theorem dX3_draw_218 : decode cX3_draw 218 = .ok (.iadd, 1) := by decide +kernel
theorem dX3_draw_219 : decode cX3_draw 219 = .ok (.iastore, 1) := by decide +kernel
theorem dX3_draw_220 : decode cX3_draw 220 = .ok (.aload_n 0, 1) := by decide +kernel
theorem dX3_draw_221 : decode cX3_draw 221 = .ok (.getfield 19, 3) := by decide +kernel
theorem dX3_draw_224 : decode cX3_draw 224 = .ok (.iload_n 1, 1) := by decide +kernel
theorem dX3_draw_225 : decode cX3_draw 225 = .ok (.iload 4, 2) := by decide +kernel
theorem dX3_draw_227 : decode cX3_draw 227 = .ok (.aload_n 0, 1) := by decide +kernel
theorem dX3_draw_228 : decode cX3_draw 228 = .ok (.getfield 30, 3) := by decide +kernel
theorem dX3_draw_231 : decode cX3_draw 231 = .ok (.iconst 4, 1) := by decide +kernel
theorem dX3_draw_232 : decode cX3_draw 232 = .ok (.iaload, 1) := by decide +kernel
theorem dX3_draw_233 : decode cX3_draw 233 = .ok (.invokevirtual 171, 3) := by decide +kernel
theorem dX3_draw_236 : decode cX3_draw 236 = .ok (.return_, 1) := by decide +kernel
set_option maxRecDepth 20000 in
theorem ggX3_raiseTold_X3_drawn : GoodIn wsX3_raiseTold wsX3_drawn := goodIn_r _ [15, 16, 30, 31, 32, 33, 34, 35, 36, 37, 38, 39, 40, 41, 42, 43, 44] (by decide +kernel) (by decide +kernel)
set_option maxRecDepth 20000 in
theorem gX3_raiseTold_X3_drawn : GoodIn wsX3_raiseTold (wsV RX3 174 RX3 yX3_drawn wsX3_drawn) := goodIn_app (goodIn_of _ (by decide +kernel)) ggX3_raiseTold_X3_drawn
set_option maxRecDepth 20000 in
theorem ggX3_raiseTold_X0_holding : GoodIn wsX3_raiseTold wsX0_holding := goodIn_r _ [21, 22, 23, 24, 25, 20, 26, 27, 28, 45, 46, 47, 48, 49, 50, 51] (by decide +kernel) (by decide +kernel)
set_option maxRecDepth 20000 in
theorem gX3_raiseTold_X0_holding : GoodIn wsX3_raiseTold (wsV RX3 124 RX0 yX0_holding wsX0_holding) := goodIn_app (goodIn_of _ (by decide +kernel)) ggX3_raiseTold_X0_holding
set_option maxRecDepth 20000 in
theorem ggX3_raiseTold_X0_end : GoodIn wsX3_raiseTold wsX0_end := goodIn_r _ [26, 27, 28, 45, 46, 47, 48, 49, 50, 51] (by decide +kernel) (by decide +kernel)
set_option maxRecDepth 20000 in
theorem gX3_raiseTold_X0_end : GoodIn wsX3_raiseTold (wsV RX3 134 RX0 yX0_end wsX0_end) := goodIn_app (goodIn_of _ (by decide +kernel)) ggX3_raiseTold_X0_end
theorem dX3_raiseTold_0 : decode cX3_raiseTold 0 = .ok (.aload_n 0, 1) := by decide +kernel
theorem dX3_raiseTold_1 : decode cX3_raiseTold 1 = .ok (.invokevirtual 174, 3) := by decide +kernel
theorem dX3_raiseTold_4 : decode cX3_raiseTold 4 = .ok (.istore_n 1, 1) := by decide +kernel
theorem dX3_raiseTold_5 : decode cX3_raiseTold 5 = .ok (.aload_n 0, 1) := by decide +kernel
theorem dX3_raiseTold_6 : decode cX3_raiseTold 6 = .ok (.getfield 10, 3) := by decide +kernel
theorem dX3_raiseTold_9 : decode cX3_raiseTold 9 = .ok (.aload_n 0, 1) := by decide +kernel
theorem dX3_raiseTold_10 : decode cX3_raiseTold 10 = .ok (.getfield 72, 3) := by decide +kernel
theorem dX3_raiseTold_13 : decode cX3_raiseTold 13 = .ok (.invokevirtual 124, 3) := by decide +kernel
theorem dX3_raiseTold_16 : decode cX3_raiseTold 16 = .ok (.istore_n 2, 1) := by decide +kernel
theorem dX3_raiseTold_17 : decode cX3_raiseTold 17 = .ok (.iload_n 2, 1) := by decide +kernel
theorem dX3_raiseTold_18 : decode cX3_raiseTold 18 = .ok (.aload_n 0, 1) := by decide +kernel
theorem dX3_raiseTold_19 : decode cX3_raiseTold 19 = .ok (.getfield 10, 3) := by decide +kernel
theorem dX3_raiseTold_22 : decode cX3_raiseTold 22 = .ok (.getfield 128, 3) := by decide +kernel
theorem dX3_raiseTold_25 : decode cX3_raiseTold 25 = .ok (.if_icmp .ge 101, 3) := by decide +kernel
theorem dX3_raiseTold_28 : decode cX3_raiseTold 28 = .ok (.aload_n 0, 1) := by decide +kernel
theorem dX3_raiseTold_29 : decode cX3_raiseTold 29 = .ok (.getfield 72, 3) := by decide +kernel
theorem dX3_raiseTold_32 : decode cX3_raiseTold 32 = .ok (.aload_n 0, 1) := by decide +kernel
theorem dX3_raiseTold_33 : decode cX3_raiseTold 33 = .ok (.getfield 56, 3) := by decide +kernel
theorem dX3_raiseTold_36 : decode cX3_raiseTold 36 = .ok (.if_icmp .ge 90, 3) := by decide +kernel
theorem dX3_raiseTold_39 : decode cX3_raiseTold 39 = .ok (.aload_n 0, 1) := by decide +kernel
theorem dX3_raiseTold_40 : decode cX3_raiseTold 40 = .ok (.getfield 10, 3) := by decide +kernel
theorem dX3_raiseTold_43 : decode cX3_raiseTold 43 = .ok (.iload_n 2, 1) := by decide +kernel
theorem dX3_raiseTold_44 : decode cX3_raiseTold 44 = .ok (.invokevirtual 134, 3) := by decide +kernel
theorem dX3_raiseTold_47 : decode cX3_raiseTold 47 = .ok (.aload_n 0, 1) := by decide +kernel
theorem dX3_raiseTold_48 : decode cX3_raiseTold 48 = .ok (.getfield 56, 3) := by decide +kernel
theorem dX3_raiseTold_51 : decode cX3_raiseTold 51 = .ok (.invokestatic 149, 3) := by decide +kernel
theorem dX3_raiseTold_54 : decode cX3_raiseTold 54 = .ok (.istore_n 3, 1) := by decide +kernel
theorem dX3_raiseTold_55 : decode cX3_raiseTold 55 = .ok (.aload_n 0, 1) := by decide +kernel
theorem dX3_raiseTold_56 : decode cX3_raiseTold 56 = .ok (.getfield 10, 3) := by decide +kernel
theorem dX3_raiseTold_59 : decode cX3_raiseTold 59 = .ok (.getfield 140, 3) := by decide +kernel
theorem dX3_raiseTold_62 : decode cX3_raiseTold 62 = .ok (.iload_n 2, 1) := by decide +kernel
theorem dX3_raiseTold_63 : decode cX3_raiseTold 63 = .ok (.iaload, 1) := by decide +kernel
theorem dX3_raiseTold_64 : decode cX3_raiseTold 64 = .ok (.istore 4, 2) := by decide +kernel
theorem dX3_raiseTold_66 : decode cX3_raiseTold 66 = .ok (.aload_n 0, 1) := by decide +kernel
theorem dX3_raiseTold_67 : decode cX3_raiseTold 67 = .ok (.getfield 72, 3) := by decide +kernel
theorem dX3_raiseTold_70 : decode cX3_raiseTold 70 = .ok (.iload_n 3, 1) := by decide +kernel
theorem dX3_raiseTold_71 : decode cX3_raiseTold 71 = .ok (.if_icmp .ge 38, 3) := by decide +kernel
theorem dX3_raiseTold_74 : decode cX3_raiseTold 74 = .ok (.aload_n 0, 1) := by decide +kernel
theorem dX3_raiseTold_75 : decode cX3_raiseTold 75 = .ok (.getfield 75, 3) := by decide +kernel
theorem dX3_raiseTold_78 : decode cX3_raiseTold 78 = .ok (.iload 4, 2) := by decide +kernel
theorem dX3_raiseTold_80 : decode cX3_raiseTold 80 = .ok (.iadd, 1) := by decide +kernel
theorem dX3_raiseTold_81 : decode cX3_raiseTold 81 = .ok (.iload_n 1, 1) := by decide +kernel
theorem dX3_raiseTold_82 : decode cX3_raiseTold 82 = .ok (.if_icmp .gt 27, 3) := by decide +kernel
theorem dX3_raiseTold_85 : decode cX3_raiseTold 85 = .ok (.aload_n 0, 1) := by decide +kernel
theorem dX3_raiseTold_86 : decode cX3_raiseTold 86 = .ok (.dup, 1) := by decide +kernel
theorem dX3_raiseTold_87 : decode cX3_raiseTold 87 = .ok (.getfield 72, 3) := by decide +kernel
theorem dX3_raiseTold_90 : decode cX3_raiseTold 90 = .ok (.iconst 1, 1) := by decide +kernel
theorem dX3_raiseTold_91 : decode cX3_raiseTold 91 = .ok (.iadd, 1) := by decide +kernel
theorem dX3_raiseTold_92 : decode cX3_raiseTold 92 = .ok (.putfield 72, 3) := by decide +kernel
theorem dX3_raiseTold_95 : decode cX3_raiseTold 95 = .ok (.aload_n 0, 1) := by decide +kernel
theorem dX3_raiseTold_96 : decode cX3_raiseTold 96 = .ok (.dup, 1) := by decide +kernel
theorem dX3_raiseTold_97 : decode cX3_raiseTold 97 = .ok (.getfield 75, 3) := by decide +kernel
theorem dX3_raiseTold_100 : decode cX3_raiseTold 100 = .ok (.iload 4, 2) := by decide +kernel
theorem dX3_raiseTold_102 : decode cX3_raiseTold 102 = .ok (.iadd, 1) := by decide +kernel
theorem dX3_raiseTold_103 : decode cX3_raiseTold 103 = .ok (.putfield 75, 3) := by decide +kernel
theorem dX3_raiseTold_106 : decode cX3_raiseTold 106 = .ok (.goto (-40), 3) := by decide +kernel
theorem dX3_raiseTold_109 : decode cX3_raiseTold 109 = .ok (.aload_n 0, 1) := by decide +kernel
theorem dX3_raiseTold_110 : decode cX3_raiseTold 110 = .ok (.getfield 72, 3) := by decide +kernel
theorem dX3_raiseTold_113 : decode cX3_raiseTold 113 = .ok (.iload_n 3, 1) := by decide +kernel
theorem dX3_raiseTold_114 : decode cX3_raiseTold 114 = .ok (.if_icmp .ge 6, 3) := by decide +kernel
theorem dX3_raiseTold_117 : decode cX3_raiseTold 117 = .ok (.goto 9, 3) := by decide +kernel
theorem dX3_raiseTold_120 : decode cX3_raiseTold 120 = .ok (.iinc 2 1, 3) := by decide +kernel
theorem dX3_raiseTold_123 : decode cX3_raiseTold 123 = .ok (.goto (-106), 3) := by decide +kernel
theorem dX3_raiseTold_126 : decode cX3_raiseTold 126 = .ok (.return_, 1) := by decide +kernel
set_option maxRecDepth 20000 in
theorem ggX4_init_X0_init : GoodIn wsX4_init wsX0_init := goodIn_r _ [11, 12, 2, 3, 8, 13, 14, 15, 16, 17, 18, 19, 20, 21, 22, 23, 24] (by decide +kernel) (by decide +kernel)
set_option maxRecDepth 20000 in
theorem gX4_init_X0_init_n9 : GoodIn wsX4_init (wsX0_init) := ggX4_init_X0_init
theorem dX4_init_0 : decode cX4_init 0 = .ok (.aload_n 0, 1) := by decide +kernel
theorem dX4_init_1 : decode cX4_init 1 = .ok (.invokespecial 1, 3) := by decide +kernel
theorem dX4_init_4 : decode cX4_init 4 = .ok (.aload_n 0, 1) := by decide +kernel
theorem dX4_init_5 : decode cX4_init 5 = .ok (.new 7, 3) := by decide +kernel
theorem dX4_init_8 : decode cX4_init 8 = .ok (.dup, 1) := by decide +kernel
theorem dX4_init_9 : decode cX4_init 9 = .ok (.invokespecial 9, 3) := by decide +kernel
theorem dX4_init_12 : decode cX4_init 12 = .ok (.putfield 10, 3) := by decide +kernel
theorem dX4_init_15 : decode cX4_init 15 = .ok (.aload_n 0, 1) := by decide +kernel
theorem dX4_init_16 : decode cX4_init 16 = .ok (.iconst 3, 1) := by decide +kernel
theorem dX4_init_17 : decode cX4_init 17 = .ok (.newarray .int, 2) := by decide +kernel
theorem dX4_init_19 : decode cX4_init 19 = .ok (.putfield 16, 3) := by decide +kernel
theorem dX4_init_22 : decode cX4_init 22 = .ok (.return_, 1) := by decide +kernel
set_option maxRecDepth 20000 in
theorem ggX4_read_X0_copyFrom : GoodIn wsX4_read wsX0_copyFrom := goodIn_r _ [11, 12, 13, 14, 15, 16, 17, 18, 19, 20, 21, 22, 146, 147, 148, 149, 150, 151, 152] (by decide +kernel) (by decide +kernel)
set_option maxRecDepth 20000 in
theorem gX4_read_X0_copyFrom : GoodIn wsX4_read (wsV RX4 20 RX0 yX0_copyFrom wsX0_copyFrom) := goodIn_app (goodIn_of _ (by decide +kernel)) ggX4_read_X0_copyFrom
set_option maxRecDepth 20000 in
theorem ggX4_read_X4_readSegment : GoodIn wsX4_read wsX4_readSegment := goodIn_r _ [27, 2, 3, 28, 1, 4, 29, 30, 31, 26, 32, 5, 33, 34, 35, 36, 37, 38, 39, 40, 41, 42, 43, 44, 45, 46, 47, 48, 49, 50, 51, 52, 53, 54, 55, 56, 57, 58, 59, 60, 61, 62, 63, 64, 65, 66, 67, 68, 69, 70, 71, 72, 73, 74, 75, 76, 77, 78, 79, 80, 81, 82, 83, 84, 85, 86, 87, 88, 89, 90, 91, 92, 93, 94, 95, 96, 97, 98, 99, 100, 101, 102, 103, 104, 105, 106, 107, 108, 109, 110, 111, 112, 113, 114, 115, 10, 116, 117, 118, 119, 120, 121, 122, 123, 124, 125, 126, 127, 128, 129, 130, 131, 132, 12, 133, 134, 135, 136, 14, 19, 20, 21, 22, 13, 137, 138, 139, 140, 141, 142, 143, 144, 145, 146, 147, 148, 149, 150, 151, 152] (by decide +kernel) (by decide +kernel)
set_option maxRecDepth 20000 in
theorem gX4_read_X4_readSegment : GoodIn wsX4_read (wsV RX4 42 RX4 yX4_readSegment wsX4_readSegment) := goodIn_app (goodIn_of _ (by decide +kernel)) ggX4_read_X4_readSegment
theorem dX4_read_0 : decode cX4_read 0 = .ok (.aload_n 0, 1) := by decide +kernel
theorem dX4_read_1 : decode cX4_read 1 = .ok (.getfield 10, 3) := by decide +kernel
theorem dX4_read_4 : decode cX4_read 4 = .ok (.aload_n 2, 1) := by decide +kernel
theorem dX4_read_5 : decode cX4_read 5 = .ok (.invokevirtual 20, 3) := by decide +kernel
theorem dX4_read_8 : decode cX4_read 8 = .ok (.aload_n 0, 1) := by decide +kernel
theorem dX4_read_9 : decode cX4_read 9 = .ok (.iconst 0, 1) := by decide +kernel
theorem dX4_read_10 : decode cX4_read 10 = .ok (.putfield 24, 3) := by decide +kernel
theorem dX4_read_13 : decode cX4_read 13 = .ok (.aload_n 0, 1) := by decide +kernel
theorem dX4_read_14 : decode cX4_read 14 = .ok (.iconst 0, 1) := by decide +kernel
theorem dX4_read_15 : decode cX4_read 15 = .ok (.putfield 28, 3) := by decide +kernel
theorem dX4_read_18 : decode cX4_read 18 = .ok (.aload_n 0, 1) := by decide +kernel
theorem dX4_read_19 : decode cX4_read 19 = .ok (.iconst 0, 1) := by decide +kernel
theorem dX4_read_20 : decode cX4_read 20 = .ok (.putfield 31, 3) := by decide +kernel
theorem dX4_read_23 : decode cX4_read 23 = .ok (.iconst 0, 1) := by decide +kernel
theorem dX4_read_24 : decode cX4_read 24 = .ok (.istore_n 3, 1) := by decide +kernel
theorem dX4_read_25 : decode cX4_read 25 = .ok (.iload_n 3, 1) := by decide +kernel
theorem dX4_read_26 : decode cX4_read 26 = .ok (.bipush 20, 2) := by decide +kernel
theorem dX4_read_28 : decode cX4_read 28 = .ok (.if_icmp .gt 40, 3) := by decide +kernel
theorem dX4_read_31 : decode cX4_read 31 = .ok (.aload_n 0, 1) := by decide +kernel
theorem dX4_read_32 : decode cX4_read 32 = .ok (.getfield 31, 3) := by decide +kernel
theorem dX4_read_35 : decode cX4_read 35 = .ok (.aload_n 1, 1) := by decide +kernel
theorem dX4_read_36 : decode cX4_read 36 = .ok (.getfield 34, 3) := by decide +kernel
theorem dX4_read_39 : decode cX4_read 39 = .ok (.if_icmp .ge 29, 3) := by decide +kernel
theorem dX4_read_42 : decode cX4_read 42 = .ok (.aload_n 0, 1) := by decide +kernel
theorem dX4_read_43 : decode cX4_read 43 = .ok (.getfield 24, 3) := by decide +kernel
theorem dX4_read_46 : decode cX4_read 46 = .ok (.ifCond .ne 22, 3) := by decide +kernel
theorem dX4_read_49 : decode cX4_read 49 = .ok (.aload_n 0, 1) := by decide +kernel
theorem dX4_read_50 : decode cX4_read 50 = .ok (.aload_n 0, 1) := by decide +kernel
theorem dX4_read_51 : decode cX4_read 51 = .ok (.getfield 31, 3) := by decide +kernel
theorem dX4_read_54 : decode cX4_read 54 = .ok (.putfield 39, 3) := by decide +kernel
theorem dX4_read_57 : decode cX4_read 57 = .ok (.aload_n 0, 1) := by decide +kernel
theorem dX4_read_58 : decode cX4_read 58 = .ok (.aload_n 1, 1) := by decide +kernel
theorem dX4_read_59 : decode cX4_read 59 = .ok (.invokevirtual 42, 3) := by decide +kernel
theorem dX4_read_62 : decode cX4_read 62 = .ok (.iinc 3 1, 3) := by decide +kernel
theorem dX4_read_65 : decode cX4_read 65 = .ok (.goto (-40), 3) := by decide +kernel
theorem dX4_read_68 : decode cX4_read 68 = .ok (.return_, 1) := by decide +kernel
set_option maxRecDepth 20000 in
theorem ggX4_readSegment_X4_readWord : GoodIn wsX4_readSegment wsX4_readWord := goodIn_r _ [10, 5, 11, 12, 13, 14, 15, 16, 17, 18, 19, 20, 21, 22, 23, 24, 25, 26, 27, 28, 29, 30, 31, 32, 33, 34, 35, 36, 37, 38, 39, 40, 41, 42, 43, 44, 45, 46, 47, 48, 49, 50, 51, 52, 53, 54, 55, 56, 57, 58, 59, 60, 61, 62, 63, 64, 65, 66, 67, 68, 69, 70, 71, 72, 73, 74, 75, 125, 126, 127, 128, 129, 130, 131, 132] (by decide +kernel) (by decide +kernel)
set_option maxRecDepth 20000 in
theorem gX4_readSegment_X4_readWord : GoodIn wsX4_readSegment (wsV RX4 46 RX4 yX4_readWord wsX4_readWord) := goodIn_app (goodIn_of _ (by decide +kernel)) ggX4_readSegment_X4_readWord
set_option maxRecDepth 20000 in
theorem ggX4_readSegment_X4_readNumbers : GoodIn wsX4_readSegment wsX4_readNumbers := goodIn_r _ [79, 3, 5, 80, 81, 82, 83, 84, 18, 19, 15, 20, 21, 22, 85, 86, 87, 88, 17, 89, 90, 91, 9, 92, 125, 126, 127, 128, 129, 130, 131, 132] (by decide +kernel) (by decide +kernel)
set_option maxRecDepth 20000 in
theorem gX4_readSegment_X4_readNumbers : GoodIn wsX4_readSegment (wsV RX4 50 RX4 yX4_readNumbers wsX4_readNumbers) := goodIn_app (goodIn_of _ (by decide +kernel)) ggX4_readSegment_X4_readNumbers
set_option maxRecDepth 20000 in
theorem ggX4_readSegment_X0_firstWrong : GoodIn wsX4_readSegment wsX0_firstWrong := goodIn_r _ [96, 97, 98, 95, 99, 100, 101, 102, 103, 104, 105, 106, 107, 108] (by decide +kernel) (by decide +kernel)
set_option maxRecDepth 20000 in
theorem gX4_readSegment_X0_firstWrong : GoodIn wsX4_readSegment (va_wsS RX4 54 yX0_firstWrong wsX0_firstWrong) := goodIn_app (goodIn_of _ (by decide +kernel)) ggX4_readSegment_X0_firstWrong
set_option maxRecDepth 20000 in
theorem ggX4_readSegment_X0_isFull : GoodIn wsX4_readSegment wsX0_isFull := goodIn_r _ [112, 113, 133, 134, 135, 136, 137, 138, 139] (by decide +kernel) (by decide +kernel)
set_option maxRecDepth 20000 in
theorem gX4_readSegment_X0_isFull : GoodIn wsX4_readSegment (wsV RX4 58 RX0 yX0_isFull wsX0_isFull) := goodIn_app (goodIn_of _ (by decide +kernel)) ggX4_readSegment_X0_isFull
set_option maxRecDepth 20000 in
theorem ggX4_readSegment_X5_at : GoodIn wsX4_readSegment wsX5_at := goodIn_r _ [20, 21, 22, 131, 132] (by decide +kernel) (by decide +kernel)
set_option maxRecDepth 20000 in
theorem gX4_readSegment_X5_at : GoodIn wsX4_readSegment (wsV RX4 62 RX5 yX5_at wsX5_at) := goodIn_app (goodIn_of _ (by decide +kernel)) ggX4_readSegment_X5_at
set_option maxRecDepth 20000 in
theorem ggX4_readSegment_X0_put : GoodIn wsX4_readSegment wsX0_put := goodIn_r _ [117, 118, 113, 119, 120, 121, 122, 123, 124, 110, 111, 95, 112, 133, 134, 135, 136, 137, 138, 139] (by decide +kernel) (by decide +kernel)
set_option maxRecDepth 20000 in
theorem gX4_readSegment_X0_put : GoodIn wsX4_readSegment (wsV RX4 66 RX0 yX0_put wsX0_put) := goodIn_app (goodIn_of _ (by decide +kernel)) ggX4_readSegment_X0_put
theorem dX4_readSegment_0 : decode cX4_readSegment 0 = .ok (.aload_n 0, 1) := by decide +kernel
theorem dX4_readSegment_1 : decode cX4_readSegment 1 = .ok (.aload_n 1, 1) := by decide +kernel
theorem dX4_readSegment_2 : decode cX4_readSegment 2 = .ok (.invokevirtual 46, 3) := by decide +kernel
theorem dX4_readSegment_5 : decode cX4_readSegment 5 = .ok (.istore_n 2, 1) := by decide +kernel
theorem dX4_readSegment_6 : decode cX4_readSegment 6 = .ok (.iload_n 2, 1) := by decide +kernel
theorem dX4_readSegment_7 : decode cX4_readSegment 7 = .ok (.iconst (-1), 1) := by decide +kernel
theorem dX4_readSegment_8 : decode cX4_readSegment 8 = .ok (.if_icmp .ne 9, 3) := by decide +kernel
theorem dX4_readSegment_11 : decode cX4_readSegment 11 = .ok (.aload_n 0, 1) := by decide +kernel
theorem dX4_readSegment_12 : decode cX4_readSegment 12 = .ok (.iconst 1, 1) := by decide +kernel
theorem dX4_readSegment_13 : decode cX4_readSegment 13 = .ok (.putfield 24, 3) := by decide +kernel
theorem dX4_readSegment_16 : decode cX4_readSegment 16 = .ok (.return_, 1) := by decide +kernel
theorem dX4_readSegment_17 : decode cX4_readSegment 17 = .ok (.aload_n 0, 1) := by decide +kernel
theorem dX4_readSegment_18 : decode cX4_readSegment 18 = .ok (.aload_n 0, 1) := by decide +kernel
theorem dX4_readSegment_19 : decode cX4_readSegment 19 = .ok (.aload_n 1, 1) := by decide +kernel
theorem dX4_readSegment_20 : decode cX4_readSegment 20 = .ok (.iload_n 2, 1) := by decide +kernel
theorem dX4_readSegment_21 : decode cX4_readSegment 21 = .ok (.iconst 1, 1) := by decide +kernel
theorem dX4_readSegment_22 : decode cX4_readSegment 22 = .ok (.if_icmp .ne 7, 3) := by decide +kernel
theorem dX4_readSegment_25 : decode cX4_readSegment 25 = .ok (.iconst 1, 1) := by decide +kernel
theorem dX4_readSegment_26 : decode cX4_readSegment 26 = .ok (.goto 4, 3) := by decide +kernel
theorem dX4_readSegment_29 : decode cX4_readSegment 29 = .ok (.iconst 3, 1) := by decide +kernel
theorem dX4_readSegment_30 : decode cX4_readSegment 30 = .ok (.invokevirtual 50, 3) := by decide +kernel
theorem dX4_readSegment_33 : decode cX4_readSegment 33 = .ok (.putfield 28, 3) := by decide +kernel
theorem dX4_readSegment_36 : decode cX4_readSegment 36 = .ok (.aload_n 0, 1) := by decide +kernel
theorem dX4_readSegment_37 : decode cX4_readSegment 37 = .ok (.getfield 28, 3) := by decide +kernel
theorem dX4_readSegment_40 : decode cX4_readSegment 40 = .ok (.ifCond .eq 9, 3) := by decide +kernel
theorem dX4_readSegment_43 : decode cX4_readSegment 43 = .ok (.aload_n 0, 1) := by decide +kernel
theorem dX4_readSegment_44 : decode cX4_readSegment 44 = .ok (.iconst 2, 1) := by decide +kernel
theorem dX4_readSegment_45 : decode cX4_readSegment 45 = .ok (.putfield 24, 3) := by decide +kernel
theorem dX4_readSegment_48 : decode cX4_readSegment 48 = .ok (.return_, 1) := by decide +kernel
theorem dX4_readSegment_49 : decode cX4_readSegment 49 = .ok (.aload_n 0, 1) := by decide +kernel
theorem dX4_readSegment_50 : decode cX4_readSegment 50 = .ok (.iload_n 2, 1) := by decide +kernel
theorem dX4_readSegment_51 : decode cX4_readSegment 51 = .ok (.aload_n 0, 1) := by decide +kernel
theorem dX4_readSegment_52 : decode cX4_readSegment 52 = .ok (.getfield 16, 3) := by decide +kernel
theorem dX4_readSegment_55 : decode cX4_readSegment 55 = .ok (.iconst 0, 1) := by decide +kernel
theorem dX4_readSegment_56 : decode cX4_readSegment 56 = .ok (.iaload, 1) := by decide +kernel
theorem dX4_readSegment_57 : decode cX4_readSegment 57 = .ok (.aload_n 0, 1) := by decide +kernel
theorem dX4_readSegment_58 : decode cX4_readSegment 58 = .ok (.getfield 16, 3) := by decide +kernel
theorem dX4_readSegment_61 : decode cX4_readSegment 61 = .ok (.iconst 1, 1) := by decide +kernel
theorem dX4_readSegment_62 : decode cX4_readSegment 62 = .ok (.iaload, 1) := by decide +kernel
theorem dX4_readSegment_63 : decode cX4_readSegment 63 = .ok (.aload_n 0, 1) := by decide +kernel
theorem dX4_readSegment_64 : decode cX4_readSegment 64 = .ok (.getfield 16, 3) := by decide +kernel
theorem dX4_readSegment_67 : decode cX4_readSegment 67 = .ok (.iconst 2, 1) := by decide +kernel
theorem dX4_readSegment_68 : decode cX4_readSegment 68 = .ok (.iaload, 1) := by decide +kernel
theorem dX4_readSegment_69 : decode cX4_readSegment 69 = .ok (.invokestatic 54, 3) := by decide +kernel
theorem dX4_readSegment_72 : decode cX4_readSegment 72 = .ok (.putfield 28, 3) := by decide +kernel
theorem dX4_readSegment_75 : decode cX4_readSegment 75 = .ok (.aload_n 0, 1) := by decide +kernel
theorem dX4_readSegment_76 : decode cX4_readSegment 76 = .ok (.getfield 28, 3) := by decide +kernel
theorem dX4_readSegment_79 : decode cX4_readSegment 79 = .ok (.ifCond .eq 11, 3) := by decide +kernel
theorem dX4_readSegment_82 : decode cX4_readSegment 82 = .ok (.aload_n 0, 1) := by decide +kernel
theorem dX4_readSegment_83 : decode cX4_readSegment 83 = .ok (.iconst 3, 1) := by decide +kernel
theorem dX4_readSegment_84 : decode cX4_readSegment 84 = .ok (.putfield 24, 3) := by decide +kernel
theorem dX4_readSegment_87 : decode cX4_readSegment 87 = .ok (.goto 78, 3) := by decide +kernel
theorem dX4_readSegment_90 : decode cX4_readSegment 90 = .ok (.aload_n 0, 1) := by decide +kernel
theorem dX4_readSegment_91 : decode cX4_readSegment 91 = .ok (.getfield 10, 3) := by decide +kernel
theorem dX4_readSegment_94 : decode cX4_readSegment 94 = .ok (.invokevirtual 58, 3) := by decide +kernel
theorem dX4_readSegment_97 : decode cX4_readSegment 97 = .ok (.ifCond .eq 11, 3) := by decide +kernel
theorem dX4_readSegment_100 : decode cX4_readSegment 100 = .ok (.aload_n 0, 1) := by decide +kernel
theorem dX4_readSegment_101 : decode cX4_readSegment 101 = .ok (.iconst 4, 1) := by decide +kernel
theorem dX4_readSegment_102 : decode cX4_readSegment 102 = .ok (.putfield 24, 3) := by decide +kernel
theorem dX4_readSegment_105 : decode cX4_readSegment 105 = .ok (.goto 60, 3) := by decide +kernel
theorem dX4_readSegment_108 : decode cX4_readSegment 108 = .ok (.aload_n 1, 1) := by decide +kernel
theorem dX4_readSegment_109 : decode cX4_readSegment 109 = .ok (.aload_n 0, 1) := by decide +kernel
theorem dX4_readSegment_110 : decode cX4_readSegment 110 = .ok (.getfield 31, 3) := by decide +kernel
theorem dX4_readSegment_113 : decode cX4_readSegment 113 = .ok (.invokevirtual 62, 3) := by decide +kernel
theorem dX4_readSegment_116 : decode cX4_readSegment 116 = .ok (.bipush 59, 2) := by decide +kernel
theorem dX4_readSegment_118 : decode cX4_readSegment 118 = .ok (.if_icmp .eq 11, 3) := by decide +kernel
theorem dX4_readSegment_121 : decode cX4_readSegment 121 = .ok (.aload_n 0, 1) := by decide +kernel
theorem dX4_readSegment_122 : decode cX4_readSegment 122 = .ok (.iconst 5, 1) := by decide +kernel
theorem dX4_readSegment_123 : decode cX4_readSegment 123 = .ok (.putfield 24, 3) := by decide +kernel
theorem dX4_readSegment_126 : decode cX4_readSegment 126 = .ok (.goto 39, 3) := by decide +kernel
theorem dX4_readSegment_129 : decode cX4_readSegment 129 = .ok (.aload_n 0, 1) := by decide +kernel
theorem dX4_readSegment_130 : decode cX4_readSegment 130 = .ok (.dup, 1) := by decide +kernel
theorem dX4_readSegment_131 : decode cX4_readSegment 131 = .ok (.getfield 31, 3) := by decide +kernel
theorem dX4_readSegment_134 : decode cX4_readSegment 134 = .ok (.iconst 1, 1) := by decide +kernel
theorem dX4_readSegment_135 : decode cX4_readSegment 135 = .ok (.iadd, 1) := by decide +kernel
theorem dX4_readSegment_136 : decode cX4_readSegment 136 = .ok (.putfield 31, 3) := by decide +kernel
theorem dX4_readSegment_139 : decode cX4_readSegment 139 = .ok (.aload_n 0, 1) := by decide +kernel
theorem dX4_readSegment_140 : decode cX4_readSegment 140 = .ok (.getfield 10, 3) := by decide +kernel
theorem dX4_readSegment_143 : decode cX4_readSegment 143 = .ok (.iload_n 2, 1) := by decide +kernel
theorem dX4_readSegment_144 : decode cX4_readSegment 144 = .ok (.aload_n 0, 1) := by decide +kernel
theorem dX4_readSegment_145 : decode cX4_readSegment 145 = .ok (.getfield 16, 3) := by decide +kernel
theorem dX4_readSegment_148 : decode cX4_readSegment 148 = .ok (.iconst 0, 1) := by decide +kernel
theorem dX4_readSegment_149 : decode cX4_readSegment 149 = .ok (.iaload, 1) := by decide +kernel
theorem dX4_readSegment_150 : decode cX4_readSegment 150 = .ok (.aload_n 0, 1) := by decide +kernel
theorem dX4_readSegment_151 : decode cX4_readSegment 151 = .ok (.getfield 16, 3) := by decide +kernel
theorem dX4_readSegment_154 : decode cX4_readSegment 154 = .ok (.iconst 1, 1) := by decide +kernel
theorem dX4_readSegment_155 : decode cX4_readSegment 155 = .ok (.iaload, 1) := by decide +kernel
theorem dX4_readSegment_156 : decode cX4_readSegment 156 = .ok (.aload_n 0, 1) := by decide +kernel
theorem dX4_readSegment_157 : decode cX4_readSegment 157 = .ok (.getfield 16, 3) := by decide +kernel
theorem dX4_readSegment_160 : decode cX4_readSegment 160 = .ok (.iconst 2, 1) := by decide +kernel
theorem dX4_readSegment_161 : decode cX4_readSegment 161 = .ok (.iaload, 1) := by decide +kernel
theorem dX4_readSegment_162 : decode cX4_readSegment 162 = .ok (.invokevirtual 66, 3) := by decide +kernel
theorem dX4_readSegment_165 : decode cX4_readSegment 165 = .ok (.return_, 1) := by decide +kernel
set_option maxRecDepth 20000 in
theorem ggX4_readWord_X5_isSmallLetter : GoodIn wsX4_readWord wsX5_isSmallLetter := goodIn_r _ [7, 8, 9, 10, 6, 11, 12, 13, 73, 74] (by decide +kernel) (by decide +kernel)
set_option maxRecDepth 20000 in
theorem gX4_readWord_X5_isSmallLetter : GoodIn wsX4_readWord (wsV RX4 70 RX5 yX5_isSmallLetter wsX5_isSmallLetter) := goodIn_app (goodIn_of _ (by decide +kernel)) ggX4_readWord_X5_isSmallLetter
set_option maxRecDepth 20000 in
theorem ggX4_readWord_X5_holds : GoodIn wsX4_readWord wsX5_holds := goodIn_r _ [17, 18, 19, 20, 21, 22, 23, 24, 25, 26, 27, 28, 29, 8, 9, 10, 6, 11, 12, 13, 30, 31, 32, 33, 34, 35, 36, 37, 38, 39, 40, 41, 42, 43, 44, 45, 46, 47, 48, 49, 50, 51, 52, 53, 54, 55, 56, 57, 58, 59, 60, 61, 62, 63, 64, 65, 66, 73, 74] (by decide +kernel) (by decide +kernel)
set_option maxRecDepth 20000 in
theorem gX4_readWord_X5_holds : GoodIn wsX4_readWord (wsV RX4 76 RX5 yX5_holds wsX5_holds) := goodIn_app (goodIn_of _ (by decide +kernel)) ggX4_readWord_X5_holds
theorem dX4_readWord_0 : decode cX4_readWord 0 = .ok (.aload_n 0, 1) := by decide +kernel
theorem dX4_readWord_1 : decode cX4_readWord 1 = .ok (.getfield 31, 3) := by decide +kernel
theorem dX4_readWord_4 : decode cX4_readWord 4 = .ok (.istore_n 2, 1) := by decide +kernel
theorem dX4_readWord_5 : decode cX4_readWord 5 = .ok (.aload_n 0, 1) := by decide +kernel
theorem dX4_readWord_6 : decode cX4_readWord 6 = .ok (.getfield 31, 3) := by decide +kernel
theorem dX4_readWord_9 : decode cX4_readWord 9 = .ok (.aload_n 1, 1) := by decide +kernel
theorem dX4_readWord_10 : decode cX4_readWord 10 = .ok (.getfield 34, 3) := by decide +kernel
theorem dX4_readWord_13 : decode cX4_readWord 13 = .ok (.if_icmp .ge 27, 3) := by decide +kernel
theorem dX4_readWord_16 : decode cX4_readWord 16 = .ok (.aload_n 1, 1) := by decide +kernel
theorem dX4_readWord_17 : decode cX4_readWord 17 = .ok (.aload_n 0, 1) := by decide +kernel
theorem dX4_readWord_18 : decode cX4_readWord 18 = .ok (.getfield 31, 3) := by decide +kernel
theorem dX4_readWord_21 : decode cX4_readWord 21 = .ok (.invokevirtual 70, 3) := by decide +kernel
theorem dX4_readWord_24 : decode cX4_readWord 24 = .ok (.ifCond .eq 16, 3) := by decide +kernel
theorem dX4_readWord_27 : decode cX4_readWord 27 = .ok (.aload_n 0, 1) := by decide +kernel
theorem dX4_readWord_28 : decode cX4_readWord 28 = .ok (.dup, 1) := by decide +kernel
theorem dX4_readWord_29 : decode cX4_readWord 29 = .ok (.getfield 31, 3) := by decide +kernel
theorem dX4_readWord_32 : decode cX4_readWord 32 = .ok (.iconst 1, 1) := by decide +kernel
theorem dX4_readWord_33 : decode cX4_readWord 33 = .ok (.iadd, 1) := by decide +kernel
theorem dX4_readWord_34 : decode cX4_readWord 34 = .ok (.putfield 31, 3) := by decide +kernel
theorem dX4_readWord_37 : decode cX4_readWord 37 = .ok (.goto (-32), 3) := by decide +kernel
theorem dX4_readWord_40 : decode cX4_readWord 40 = .ok (.aload_n 1, 1) := by decide +kernel
theorem dX4_readWord_41 : decode cX4_readWord 41 = .ok (.ldc 74, 2) := by decide +kernel
theorem dX4_readWord_43 : decode cX4_readWord 43 = .ok (.iload_n 2, 1) := by decide +kernel
theorem dX4_readWord_44 : decode cX4_readWord 44 = .ok (.aload_n 0, 1) := by decide +kernel
theorem dX4_readWord_45 : decode cX4_readWord 45 = .ok (.getfield 31, 3) := by decide +kernel
theorem dX4_readWord_48 : decode cX4_readWord 48 = .ok (.invokevirtual 76, 3) := by decide +kernel
theorem dX4_readWord_51 : decode cX4_readWord 51 = .ok (.ifCond .eq 5, 3) := by decide +kernel
theorem dX4_readWord_54 : decode cX4_readWord 54 = .ok (.iconst 0, 1) := by decide +kernel
theorem dX4_readWord_55 : decode cX4_readWord 55 = .ok (.ireturn, 1) := by decide +kernel
theorem dX4_readWord_56 : decode cX4_readWord 56 = .ok (.aload_n 1, 1) := by decide +kernel
theorem dX4_readWord_57 : decode cX4_readWord 57 = .ok (.ldc 80, 2) := by decide +kernel
theorem dX4_readWord_59 : decode cX4_readWord 59 = .ok (.iload_n 2, 1) := by decide +kernel
theorem dX4_readWord_60 : decode cX4_readWord 60 = .ok (.aload_n 0, 1) := by decide +kernel
theorem dX4_readWord_61 : decode cX4_readWord 61 = .ok (.getfield 31, 3) := by decide +kernel
theorem dX4_readWord_64 : decode cX4_readWord 64 = .ok (.invokevirtual 76, 3) := by decide +kernel
theorem dX4_readWord_67 : decode cX4_readWord 67 = .ok (.ifCond .eq 5, 3) := by decide +kernel
theorem dX4_readWord_70 : decode cX4_readWord 70 = .ok (.iconst 1, 1) := by decide +kernel
theorem dX4_readWord_71 : decode cX4_readWord 71 = .ok (.ireturn, 1) := by decide +kernel
theorem dX4_readWord_72 : decode cX4_readWord 72 = .ok (.aload_n 1, 1) := by decide +kernel
theorem dX4_readWord_73 : decode cX4_readWord 73 = .ok (.ldc 82, 2) := by decide +kernel
theorem dX4_readWord_75 : decode cX4_readWord 75 = .ok (.iload_n 2, 1) := by decide +kernel
theorem dX4_readWord_76 : decode cX4_readWord 76 = .ok (.aload_n 0, 1) := by decide +kernel
theorem dX4_readWord_77 : decode cX4_readWord 77 = .ok (.getfield 31, 3) := by decide +kernel
theorem dX4_readWord_80 : decode cX4_readWord 80 = .ok (.invokevirtual 76, 3) := by decide +kernel
theorem dX4_readWord_83 : decode cX4_readWord 83 = .ok (.ifCond .eq 7, 3) := by decide +kernel
theorem dX4_readWord_86 : decode cX4_readWord 86 = .ok (.iconst 2, 1) := by decide +kernel
theorem dX4_readWord_87 : decode cX4_readWord 87 = .ok (.goto 4, 3) := by decide +kernel
theorem dX4_readWord_90 : decode cX4_readWord 90 = .ok (.iconst (-1), 1) := by decide +kernel
theorem dX4_readWord_91 : decode cX4_readWord 91 = .ok (.ireturn, 1) := by decide +kernel
set_option maxRecDepth 20000 in
theorem ggX4_readNumbers_J7_fill_53178 : GoodIn wsX4_readNumbers wsJ7_fill_53178 := goodIn_r _ [6] (by decide +kernel) (by decide +kernel)
set_option maxRecDepth 20000 in
theorem gX4_readNumbers_J7_fill_53178 : GoodIn wsX4_readNumbers (va_wsS RX4 84 yJ7_fill_53178 wsJ7_fill_53178) := goodIn_app (goodIn_of _ (by decide +kernel)) ggX4_readNumbers_J7_fill_53178
set_option maxRecDepth 20000 in
theorem ggX4_readNumbers_X5_at : GoodIn wsX4_readNumbers wsX5_at := goodIn_r _ [11, 12, 13, 30, 31] (by decide +kernel) (by decide +kernel)
set_option maxRecDepth 20000 in
theorem gX4_readNumbers_X5_at : GoodIn wsX4_readNumbers (wsV RX4 62 RX5 yX5_at wsX5_at) := goodIn_app (goodIn_of _ (by decide +kernel)) ggX4_readNumbers_X5_at
set_option maxRecDepth 20000 in
theorem ggX4_readNumbers_X5_isDigit : GoodIn wsX4_readNumbers wsX5_isDigit := goodIn_r _ [17, 18, 8, 9, 10, 11, 12, 13, 30, 31] (by decide +kernel) (by decide +kernel)
set_option maxRecDepth 20000 in
theorem gX4_readNumbers_X5_isDigit : GoodIn wsX4_readNumbers (wsV RX4 90 RX5 yX5_isDigit wsX5_isDigit) := goodIn_app (goodIn_of _ (by decide +kernel)) ggX4_readNumbers_X5_isDigit
set_option maxRecDepth 20000 in
theorem ggX4_readNumbers_X4_readNumber : GoodIn wsX4_readNumbers wsX4_readNumber := goodIn_r _ [23, 2, 14, 15, 16, 10, 17, 18, 8, 9, 11, 12, 13, 7, 24, 25, 26, 27, 28, 29, 30, 31] (by decide +kernel) (by decide +kernel)
set_option maxRecDepth 20000 in
theorem gX4_readNumbers_X4_readNumber : GoodIn wsX4_readNumbers (wsV RX4 93 RX4 yX4_readNumber wsX4_readNumber) := goodIn_app (goodIn_of _ (by decide +kernel)) ggX4_readNumbers_X4_readNumber
theorem dX4_readNumbers_0 : decode cX4_readNumbers 0 = .ok (.aload_n 0, 1) := by decide +kernel
theorem dX4_readNumbers_1 : decode cX4_readNumbers 1 = .ok (.getfield 16, 3) := by decide +kernel
theorem dX4_readNumbers_4 : decode cX4_readNumbers 4 = .ok (.iconst 0, 1) := by decide +kernel
theorem dX4_readNumbers_5 : decode cX4_readNumbers 5 = .ok (.invokestatic 84, 3) := by decide +kernel
theorem dX4_readNumbers_8 : decode cX4_readNumbers 8 = .ok (.iconst 0, 1) := by decide +kernel
theorem dX4_readNumbers_9 : decode cX4_readNumbers 9 = .ok (.istore_n 3, 1) := by decide +kernel
theorem dX4_readNumbers_10 : decode cX4_readNumbers 10 = .ok (.iload_n 3, 1) := by decide +kernel
theorem dX4_readNumbers_11 : decode cX4_readNumbers 11 = .ok (.iload_n 2, 1) := by decide +kernel
theorem dX4_readNumbers_12 : decode cX4_readNumbers 12 = .ok (.if_icmp .ge 65, 3) := by decide +kernel
theorem dX4_readNumbers_15 : decode cX4_readNumbers 15 = .ok (.iload_n 3, 1) := by decide +kernel
theorem dX4_readNumbers_16 : decode cX4_readNumbers 16 = .ok (.iconst 3, 1) := by decide +kernel
theorem dX4_readNumbers_17 : decode cX4_readNumbers 17 = .ok (.if_icmp .ge 60, 3) := by decide +kernel
theorem dX4_readNumbers_20 : decode cX4_readNumbers 20 = .ok (.aload_n 1, 1) := by decide +kernel
theorem dX4_readNumbers_21 : decode cX4_readNumbers 21 = .ok (.aload_n 0, 1) := by decide +kernel
theorem dX4_readNumbers_22 : decode cX4_readNumbers 22 = .ok (.getfield 31, 3) := by decide +kernel
theorem dX4_readNumbers_25 : decode cX4_readNumbers 25 = .ok (.invokevirtual 62, 3) := by decide +kernel
theorem dX4_readNumbers_28 : decode cX4_readNumbers 28 = .ok (.bipush 32, 2) := by decide +kernel
theorem dX4_readNumbers_30 : decode cX4_readNumbers 30 = .ok (.if_icmp .ne 16, 3) := by decide +kernel
theorem dX4_readNumbers_33 : decode cX4_readNumbers 33 = .ok (.aload_n 1, 1) := by decide +kernel
theorem dX4_readNumbers_34 : decode cX4_readNumbers 34 = .ok (.aload_n 0, 1) := by decide +kernel
theorem dX4_readNumbers_35 : decode cX4_readNumbers 35 = .ok (.getfield 31, 3) := by decide +kernel
theorem dX4_readNumbers_38 : decode cX4_readNumbers 38 = .ok (.iconst 1, 1) := by decide +kernel
theorem dX4_readNumbers_39 : decode cX4_readNumbers 39 = .ok (.iadd, 1) := by decide +kernel
theorem dX4_readNumbers_40 : decode cX4_readNumbers 40 = .ok (.invokevirtual 90, 3) := by decide +kernel
theorem dX4_readNumbers_43 : decode cX4_readNumbers 43 = .ok (.ifCond .ne 7, 3) := by decide +kernel
theorem dX4_readNumbers_46 : decode cX4_readNumbers 46 = .ok (.iload_n 3, 1) := by decide +kernel
theorem dX4_readNumbers_47 : decode cX4_readNumbers 47 = .ok (.iconst 1, 1) := by decide +kernel
theorem dX4_readNumbers_48 : decode cX4_readNumbers 48 = .ok (.iadd, 1) := by decide +kernel
theorem dX4_readNumbers_49 : decode cX4_readNumbers 49 = .ok (.ireturn, 1) := by decide +kernel
theorem dX4_readNumbers_50 : decode cX4_readNumbers 50 = .ok (.aload_n 0, 1) := by decide +kernel
theorem dX4_readNumbers_51 : decode cX4_readNumbers 51 = .ok (.dup, 1) := by decide +kernel
theorem dX4_readNumbers_52 : decode cX4_readNumbers 52 = .ok (.getfield 31, 3) := by decide +kernel
theorem dX4_readNumbers_55 : decode cX4_readNumbers 55 = .ok (.iconst 1, 1) := by decide +kernel
theorem dX4_readNumbers_56 : decode cX4_readNumbers 56 = .ok (.iadd, 1) := by decide +kernel
theorem dX4_readNumbers_57 : decode cX4_readNumbers 57 = .ok (.putfield 31, 3) := by decide +kernel
theorem dX4_readNumbers_60 : decode cX4_readNumbers 60 = .ok (.aload_n 0, 1) := by decide +kernel
theorem dX4_readNumbers_61 : decode cX4_readNumbers 61 = .ok (.getfield 16, 3) := by decide +kernel
theorem dX4_readNumbers_64 : decode cX4_readNumbers 64 = .ok (.iload_n 3, 1) := by decide +kernel
theorem dX4_readNumbers_65 : decode cX4_readNumbers 65 = .ok (.aload_n 0, 1) := by decide +kernel
theorem dX4_readNumbers_66 : decode cX4_readNumbers 66 = .ok (.aload_n 1, 1) := by decide +kernel
theorem dX4_readNumbers_67 : decode cX4_readNumbers 67 = .ok (.invokevirtual 93, 3) := by decide +kernel
theorem dX4_readNumbers_70 : decode cX4_readNumbers 70 = .ok (.iastore, 1) := by decide +kernel
theorem dX4_readNumbers_71 : decode cX4_readNumbers 71 = .ok (.iinc 3 1, 3) := by decide +kernel
theorem dX4_readNumbers_74 : decode cX4_readNumbers 74 = .ok (.goto (-64), 3) := by decide +kernel
theorem dX4_readNumbers_77 : decode cX4_readNumbers 77 = .ok (.iconst 0, 1) := by decide +kernel
theorem dX4_readNumbers_78 : decode cX4_readNumbers 78 = .ok (.ireturn, 1) := by decide +kernel
set_option maxRecDepth 20000 in
theorem ggX4_readNumber_X5_isDigit : GoodIn wsX4_readNumber wsX5_isDigit := goodIn_r _ [6, 7, 8, 9, 5, 10, 11, 12, 20, 21] (by decide +kernel) (by decide +kernel)
set_option maxRecDepth 20000 in
theorem gX4_readNumber_X5_isDigit : GoodIn wsX4_readNumber (wsV RX4 90 RX5 yX5_isDigit wsX5_isDigit) := goodIn_app (goodIn_of _ (by decide +kernel)) ggX4_readNumber_X5_isDigit
set_option maxRecDepth 20000 in
theorem ggX4_readNumber_X5_at : GoodIn wsX4_readNumber wsX5_at := goodIn_r _ [10, 11, 12, 20, 21] (by decide +kernel) (by decide +kernel)
set_option maxRecDepth 20000 in
theorem gX4_readNumber_X5_at : GoodIn wsX4_readNumber (wsV RX4 62 RX5 yX5_at wsX5_at) := goodIn_app (goodIn_of _ (by decide +kernel)) ggX4_readNumber_X5_at
theorem dX4_readNumber_0 : decode cX4_readNumber 0 = .ok (.iconst 0, 1) := by decide +kernel
theorem dX4_readNumber_1 : decode cX4_readNumber 1 = .ok (.istore_n 2, 1) := by decide +kernel
theorem dX4_readNumber_2 : decode cX4_readNumber 2 = .ok (.iconst 0, 1) := by decide +kernel
theorem dX4_readNumber_3 : decode cX4_readNumber 3 = .ok (.istore_n 3, 1) := by decide +kernel
theorem dX4_readNumber_4 : decode cX4_readNumber 4 = .ok (.iload_n 3, 1) := by decide +kernel
theorem dX4_readNumber_5 : decode cX4_readNumber 5 = .ok (.iconst 3, 1) := by decide +kernel
theorem dX4_readNumber_6 : decode cX4_readNumber 6 = .ok (.if_icmp .ge 47, 3) := by decide +kernel
theorem dX4_readNumber_9 : decode cX4_readNumber 9 = .ok (.aload_n 1, 1) := by decide +kernel
theorem dX4_readNumber_10 : decode cX4_readNumber 10 = .ok (.aload_n 0, 1) := by decide +kernel
theorem dX4_readNumber_11 : decode cX4_readNumber 11 = .ok (.getfield 31, 3) := by decide +kernel
theorem dX4_readNumber_14 : decode cX4_readNumber 14 = .ok (.invokevirtual 90, 3) := by decide +kernel
theorem dX4_readNumber_17 : decode cX4_readNumber 17 = .ok (.ifCond .eq 36, 3) := by decide +kernel
theorem dX4_readNumber_20 : decode cX4_readNumber 20 = .ok (.bipush 10, 2) := by decide +kernel
theorem dX4_readNumber_22 : decode cX4_readNumber 22 = .ok (.iload_n 2, 1) := by decide +kernel
theorem dX4_readNumber_23 : decode cX4_readNumber 23 = .ok (.imul, 1) := by decide +kernel
theorem dX4_readNumber_24 : decode cX4_readNumber 24 = .ok (.aload_n 1, 1) := by decide +kernel
theorem dX4_readNumber_25 : decode cX4_readNumber 25 = .ok (.aload_n 0, 1) := by decide +kernel
theorem dX4_readNumber_26 : decode cX4_readNumber 26 = .ok (.getfield 31, 3) := by decide +kernel
theorem dX4_readNumber_29 : decode cX4_readNumber 29 = .ok (.invokevirtual 62, 3) := by decide +kernel
theorem dX4_readNumber_32 : decode cX4_readNumber 32 = .ok (.iadd, 1) := by decide +kernel
theorem dX4_readNumber_33 : decode cX4_readNumber 33 = .ok (.bipush 48, 2) := by decide +kernel
theorem dX4_readNumber_35 : decode cX4_readNumber 35 = .ok (.isub, 1) := by decide +kernel
theorem dX4_readNumber_36 : decode cX4_readNumber 36 = .ok (.istore_n 2, 1) := by decide +kernel
theorem dX4_readNumber_37 : decode cX4_readNumber 37 = .ok (.aload_n 0, 1) := by decide +kernel
theorem dX4_readNumber_38 : decode cX4_readNumber 38 = .ok (.dup, 1) := by decide +kernel
theorem dX4_readNumber_39 : decode cX4_readNumber 39 = .ok (.getfield 31, 3) := by decide +kernel
theorem dX4_readNumber_42 : decode cX4_readNumber 42 = .ok (.iconst 1, 1) := by decide +kernel
theorem dX4_readNumber_43 : decode cX4_readNumber 43 = .ok (.iadd, 1) := by decide +kernel
theorem dX4_readNumber_44 : decode cX4_readNumber 44 = .ok (.putfield 31, 3) := by decide +kernel
theorem dX4_readNumber_47 : decode cX4_readNumber 47 = .ok (.iinc 3 1, 3) := by decide +kernel
theorem dX4_readNumber_50 : decode cX4_readNumber 50 = .ok (.goto (-46), 3) := by decide +kernel
theorem dX4_readNumber_53 : decode cX4_readNumber 53 = .ok (.iload_n 2, 1) := by decide +kernel
theorem dX4_readNumber_54 : decode cX4_readNumber 54 = .ok (.ireturn, 1) := by decide +kernel
theorem dX5_init_0 : decode cX5_init 0 = .ok (.aload_n 0, 1) := by decide +kernel
theorem dX5_init_1 : decode cX5_init 1 = .ok (.invokespecial 1, 3) := by decide +kernel
theorem dX5_init_4 : decode cX5_init 4 = .ok (.aload_n 0, 1) := by decide +kernel
theorem dX5_init_5 : decode cX5_init 5 = .ok (.bipush 100, 2) := by decide +kernel
theorem dX5_init_7 : decode cX5_init 7 = .ok (.newarray .char, 2) := by decide +kernel
theorem dX5_init_9 : decode cX5_init 9 = .ok (.putfield 9, 3) := by decide +kernel
theorem dX5_init_12 : decode cX5_init 12 = .ok (.return_, 1) := by decide +kernel
theorem dX5_isFull_0 : decode cX5_isFull 0 = .ok (.aload_n 0, 1) := by decide +kernel
theorem dX5_isFull_1 : decode cX5_isFull 1 = .ok (.getfield 13, 3) := by decide +kernel
theorem dX5_isFull_4 : decode cX5_isFull 4 = .ok (.bipush 100, 2) := by decide +kernel
theorem dX5_isFull_6 : decode cX5_isFull 6 = .ok (.if_icmp .lt 7, 3) := by decide +kernel
theorem dX5_isFull_9 : decode cX5_isFull 9 = .ok (.iconst 1, 1) := by decide +kernel
theorem dX5_isFull_10 : decode cX5_isFull 10 = .ok (.goto 4, 3) := by decide +kernel
theorem dX5_isFull_13 : decode cX5_isFull 13 = .ok (.iconst 0, 1) := by decide +kernel
theorem dX5_isFull_14 : decode cX5_isFull 14 = .ok (.ireturn, 1) := by decide +kernel
set_option maxRecDepth 20000 in
theorem ggX5_append_X5_isFull : GoodIn wsX5_append wsX5_isFull := goodIn_r _ [7, 2, 8, 9] (by decide +kernel) (by decide +kernel)
set_option maxRecDepth 20000 in
theorem gX5_append_X5_isFull : GoodIn wsX5_append (wsV RX5 17 RX5 yX5_isFull wsX5_isFull) := goodIn_app (goodIn_of _ (by decide +kernel)) ggX5_append_X5_isFull
theorem dX5_append_0 : decode cX5_append 0 = .ok (.aload_n 0, 1) := by decide +kernel
theorem dX5_append_1 : decode cX5_append 1 = .ok (.invokevirtual 17, 3) := by decide +kernel
theorem dX5_append_4 : decode cX5_append 4 = .ok (.ifCond .eq 4, 3) := by decide +kernel
theorem dX5_append_7 : decode cX5_append 7 = .ok (.return_, 1) := by decide +kernel
theorem dX5_append_8 : decode cX5_append 8 = .ok (.aload_n 0, 1) := by decide +kernel
theorem dX5_append_9 : decode cX5_append 9 = .ok (.getfield 9, 3) := by decide +kernel
theorem dX5_append_12 : decode cX5_append 12 = .ok (.aload_n 0, 1) := by decide +kernel
theorem dX5_append_13 : decode cX5_append 13 = .ok (.getfield 13, 3) := by decide +kernel
theorem dX5_append_16 : decode cX5_append 16 = .ok (.iload_n 1, 1) := by decide +kernel
theorem dX5_append_17 : decode cX5_append 17 = .ok (.castore, 1) := by decide +kernel
theorem dX5_append_18 : decode cX5_append 18 = .ok (.aload_n 0, 1) := by decide +kernel
theorem dX5_append_19 : decode cX5_append 19 = .ok (.dup, 1) := by decide +kernel
theorem dX5_append_20 : decode cX5_append 20 = .ok (.getfield 13, 3) := by decide +kernel
theorem dX5_append_23 : decode cX5_append 23 = .ok (.iconst 1, 1) := by decide +kernel
theorem dX5_append_24 : decode cX5_append 24 = .ok (.iadd, 1) := by decide +kernel
theorem dX5_append_25 : decode cX5_append 25 = .ok (.putfield 13, 3) := by decide +kernel
theorem dX5_append_28 : decode cX5_append 28 = .ok (.return_, 1) := by decide +kernel
theorem dX5_at_0 : decode cX5_at 0 = .ok (.iload_n 1, 1) := by decide +kernel
theorem dX5_at_1 : decode cX5_at 1 = .ok (.ifCond .lt 20, 3) := by decide +kernel
theorem dX5_at_4 : decode cX5_at 4 = .ok (.iload_n 1, 1) := by decide +kernel
theorem dX5_at_5 : decode cX5_at 5 = .ok (.aload_n 0, 1) := by decide +kernel
theorem dX5_at_6 : decode cX5_at 6 = .ok (.getfield 13, 3) := by decide +kernel
theorem dX5_at_9 : decode cX5_at 9 = .ok (.if_icmp .ge 12, 3) := by decide +kernel
theorem dX5_at_12 : decode cX5_at 12 = .ok (.aload_n 0, 1) := by decide +kernel
theorem dX5_at_13 : decode cX5_at 13 = .ok (.getfield 9, 3) := by decide +kernel
theorem dX5_at_16 : decode cX5_at 16 = .ok (.iload_n 1, 1) := by decide +kernel
theorem dX5_at_17 : decode cX5_at 17 = .ok (.caload, 1) := by decide +kernel
theorem dX5_at_18 : decode cX5_at 18 = .ok (.goto 4, 3) := by decide +kernel
theorem dX5_at_21 : decode cX5_at 21 = .ok (.iconst 0, 1) := by decide +kernel
theorem dX5_at_22 : decode cX5_at 22 = .ok (.ireturn, 1) := by decide +kernel
set_option maxRecDepth 20000 in
theorem ggX5_isSmallLetter_X5_at : GoodIn wsX5_isSmallLetter wsX5_at := goodIn_r _ [5, 6, 7, 8, 9] (by decide +kernel) (by decide +kernel)
set_option maxRecDepth 20000 in
theorem gX5_isSmallLetter_X5_at : GoodIn wsX5_isSmallLetter (wsV RX5 21 RX5 yX5_at wsX5_at) := goodIn_app (goodIn_of _ (by decide +kernel)) ggX5_isSmallLetter_X5_at
theorem dX5_isSmallLetter_0 : decode cX5_isSmallLetter 0 = .ok (.aload_n 0, 1) := by decide +kernel
theorem dX5_isSmallLetter_1 : decode cX5_isSmallLetter 1 = .ok (.iload_n 1, 1) := by decide +kernel
theorem dX5_isSmallLetter_2 : decode cX5_isSmallLetter 2 = .ok (.invokevirtual 21, 3) := by decide +kernel
theorem dX5_isSmallLetter_5 : decode cX5_isSmallLetter 5 = .ok (.bipush 97, 2) := by decide +kernel
theorem dX5_isSmallLetter_7 : decode cX5_isSmallLetter 7 = .ok (.if_icmp .lt 17, 3) := by decide +kernel
theorem dX5_isSmallLetter_10 : decode cX5_isSmallLetter 10 = .ok (.aload_n 0, 1) := by decide +kernel
theorem dX5_isSmallLetter_11 : decode cX5_isSmallLetter 11 = .ok (.iload_n 1, 1) := by decide +kernel
theorem dX5_isSmallLetter_12 : decode cX5_isSmallLetter 12 = .ok (.invokevirtual 21, 3) := by decide +kernel
theorem dX5_isSmallLetter_15 : decode cX5_isSmallLetter 15 = .ok (.bipush 122, 2) := by decide +kernel
theorem dX5_isSmallLetter_17 : decode cX5_isSmallLetter 17 = .ok (.if_icmp .gt 7, 3) := by decide +kernel
theorem dX5_isSmallLetter_20 : decode cX5_isSmallLetter 20 = .ok (.iconst 1, 1) := by decide +kernel
theorem dX5_isSmallLetter_21 : decode cX5_isSmallLetter 21 = .ok (.goto 4, 3) := by decide +kernel
theorem dX5_isSmallLetter_24 : decode cX5_isSmallLetter 24 = .ok (.iconst 0, 1) := by decide +kernel
theorem dX5_isSmallLetter_25 : decode cX5_isSmallLetter 25 = .ok (.ireturn, 1) := by decide +kernel
set_option maxRecDepth 20000 in
theorem ggX5_isDigit_X5_at : GoodIn wsX5_isDigit wsX5_at := goodIn_r _ [5, 6, 7, 8, 9] (by decide +kernel) (by decide +kernel)
set_option maxRecDepth 20000 in
theorem gX5_isDigit_X5_at : GoodIn wsX5_isDigit (wsV RX5 21 RX5 yX5_at wsX5_at) := goodIn_app (goodIn_of _ (by decide +kernel)) ggX5_isDigit_X5_at
theorem dX5_isDigit_0 : decode cX5_isDigit 0 = .ok (.aload_n 0, 1) := by decide +kernel
theorem dX5_isDigit_1 : decode cX5_isDigit 1 = .ok (.iload_n 1, 1) := by decide +kernel
theorem dX5_isDigit_2 : decode cX5_isDigit 2 = .ok (.invokevirtual 21, 3) := by decide +kernel
theorem dX5_isDigit_5 : decode cX5_isDigit 5 = .ok (.bipush 48, 2) := by decide +kernel
theorem dX5_isDigit_7 : decode cX5_isDigit 7 = .ok (.if_icmp .lt 17, 3) := by decide +kernel
theorem dX5_isDigit_10 : decode cX5_isDigit 10 = .ok (.aload_n 0, 1) := by decide +kernel
theorem dX5_isDigit_11 : decode cX5_isDigit 11 = .ok (.iload_n 1, 1) := by decide +kernel
theorem dX5_isDigit_12 : decode cX5_isDigit 12 = .ok (.invokevirtual 21, 3) := by decide +kernel
theorem dX5_isDigit_15 : decode cX5_isDigit 15 = .ok (.bipush 57, 2) := by decide +kernel
theorem dX5_isDigit_17 : decode cX5_isDigit 17 = .ok (.if_icmp .gt 7, 3) := by decide +kernel
theorem dX5_isDigit_20 : decode cX5_isDigit 20 = .ok (.iconst 1, 1) := by decide +kernel
theorem dX5_isDigit_21 : decode cX5_isDigit 21 = .ok (.goto 4, 3) := by decide +kernel
theorem dX5_isDigit_24 : decode cX5_isDigit 24 = .ok (.iconst 0, 1) := by decide +kernel
theorem dX5_isDigit_25 : decode cX5_isDigit 25 = .ok (.ireturn, 1) := by decide +kernel
set_option maxRecDepth 20000 in
theorem ggX5_holds_J0_length_8abf5 : GoodIn wsX5_holds wsJ0_length_8abf5 := goodIn_r _ [5, 6, 7, 8, 9, 4, 10, 11, 12] (by decide +kernel) (by decide +kernel)
set_option maxRecDepth 20000 in
theorem gX5_holds_J0_length_8abf5 : GoodIn wsX5_holds (wsV RX5 25 RJ0 yJ0_length_8abf5 wsJ0_length_8abf5) := goodIn_app (goodIn_of _ (by decide +kernel)) ggX5_holds_J0_length_8abf5
set_option maxRecDepth 20000 in
theorem ggX5_holds_X5_at : GoodIn wsX5_holds wsX5_at := goodIn_r _ [17, 18, 19, 57, 58] (by decide +kernel) (by decide +kernel)
set_option maxRecDepth 20000 in
theorem gX5_holds_X5_at : GoodIn wsX5_holds (wsV RX5 21 RX5 yX5_at wsX5_at) := goodIn_app (goodIn_of _ (by decide +kernel)) ggX5_holds_X5_at
set_option maxRecDepth 20000 in
theorem ggX5_holds_J0_charAt_5068e : GoodIn wsX5_holds wsJ0_charAt_5068e := goodIn_r _ [23, 6, 24, 25, 26, 4, 27, 11, 12, 28, 29, 30, 31, 32, 33, 34, 35, 36, 37, 38, 39, 40, 41, 42, 43, 44, 45, 46, 47, 48, 49, 50, 51, 52, 53, 54, 55, 56] (by decide +kernel) (by decide +kernel)
set_option maxRecDepth 20000 in
theorem gX5_holds_J0_charAt_5068e : GoodIn wsX5_holds (wsV RX5 30 RJ0 yJ0_charAt_5068e wsJ0_charAt_5068e) := goodIn_app (goodIn_of _ (by decide +kernel)) ggX5_holds_J0_charAt_5068e
theorem dX5_holds_0 : decode cX5_holds 0 = .ok (.iload_n 3, 1) := by decide +kernel
theorem dX5_holds_1 : decode cX5_holds 1 = .ok (.iload_n 2, 1) := by decide +kernel
theorem dX5_holds_2 : decode cX5_holds 2 = .ok (.isub, 1) := by decide +kernel
theorem dX5_holds_3 : decode cX5_holds 3 = .ok (.aload_n 1, 1) := by decide +kernel
theorem dX5_holds_4 : decode cX5_holds 4 = .ok (.invokevirtual 25, 3) := by decide +kernel
theorem dX5_holds_7 : decode cX5_holds 7 = .ok (.if_icmp .eq 5, 3) := by decide +kernel
theorem dX5_holds_10 : decode cX5_holds 10 = .ok (.iconst 0, 1) := by decide +kernel
theorem dX5_holds_11 : decode cX5_holds 11 = .ok (.ireturn, 1) := by decide +kernel
theorem dX5_holds_12 : decode cX5_holds 12 = .ok (.iconst 0, 1) := by decide +kernel
theorem dX5_holds_13 : decode cX5_holds 13 = .ok (.istore 4, 2) := by decide +kernel
theorem dX5_holds_15 : decode cX5_holds 15 = .ok (.iload 4, 2) := by decide +kernel
theorem dX5_holds_17 : decode cX5_holds 17 = .ok (.aload_n 1, 1) := by decide +kernel
theorem dX5_holds_18 : decode cX5_holds 18 = .ok (.invokevirtual 25, 3) := by decide +kernel
theorem dX5_holds_21 : decode cX5_holds 21 = .ok (.if_icmp .ge 28, 3) := by decide +kernel
theorem dX5_holds_24 : decode cX5_holds 24 = .ok (.aload_n 0, 1) := by decide +kernel
theorem dX5_holds_25 : decode cX5_holds 25 = .ok (.iload_n 2, 1) := by decide +kernel
theorem dX5_holds_26 : decode cX5_holds 26 = .ok (.iload 4, 2) := by decide +kernel
theorem dX5_holds_28 : decode cX5_holds 28 = .ok (.iadd, 1) := by decide +kernel
theorem dX5_holds_29 : decode cX5_holds 29 = .ok (.invokevirtual 21, 3) := by decide +kernel
theorem dX5_holds_32 : decode cX5_holds 32 = .ok (.aload_n 1, 1) := by decide +kernel
theorem dX5_holds_33 : decode cX5_holds 33 = .ok (.iload 4, 2) := by decide +kernel
theorem dX5_holds_35 : decode cX5_holds 35 = .ok (.invokevirtual 30, 3) := by decide +kernel
theorem dX5_holds_38 : decode cX5_holds 38 = .ok (.if_icmp .eq 5, 3) := by decide +kernel
theorem dX5_holds_41 : decode cX5_holds 41 = .ok (.iconst 0, 1) := by decide +kernel
theorem dX5_holds_42 : decode cX5_holds 42 = .ok (.ireturn, 1) := by decide +kernel
theorem dX5_holds_43 : decode cX5_holds 43 = .ok (.iinc 4 1, 3) := by decide +kernel
theorem dX5_holds_46 : decode cX5_holds 46 = .ok (.goto (-31), 3) := by decide +kernel
theorem dX5_holds_49 : decode cX5_holds 49 = .ok (.iconst 1, 1) := by decide +kernel
theorem dX5_holds_50 : decode cX5_holds 50 = .ok (.ireturn, 1) := by decide +kernel
theorem dX6_init_0 : decode cX6_init 0 = .ok (.aload_n 0, 1) := by decide +kernel
theorem dX6_init_1 : decode cX6_init 1 = .ok (.invokespecial 1, 3) := by decide +kernel
theorem dX6_init_4 : decode cX6_init 4 = .ok (.aload_n 0, 1) := by decide +kernel
theorem dX6_init_5 : decode cX6_init 5 = .ok (.bipush 40, 2) := by decide +kernel
theorem dX6_init_7 : decode cX6_init 7 = .ok (.newarray .int, 2) := by decide +kernel
theorem dX6_init_9 : decode cX6_init 9 = .ok (.putfield 9, 3) := by decide +kernel
theorem dX6_init_12 : decode cX6_init 12 = .ok (.aload_n 0, 1) := by decide +kernel
theorem dX6_init_13 : decode cX6_init 13 = .ok (.bipush 40, 2) := by decide +kernel
theorem dX6_init_15 : decode cX6_init 15 = .ok (.newarray .int, 2) := by decide +kernel
theorem dX6_init_17 : decode cX6_init 17 = .ok (.putfield 13, 3) := by decide +kernel
theorem dX6_init_20 : decode cX6_init 20 = .ok (.aload_n 0, 1) := by decide +kernel
theorem dX6_init_21 : decode cX6_init 21 = .ok (.bipush 40, 2) := by decide +kernel
theorem dX6_init_23 : decode cX6_init 23 = .ok (.newarray .int, 2) := by decide +kernel
theorem dX6_init_25 : decode cX6_init 25 = .ok (.putfield 16, 3) := by decide +kernel
theorem dX6_init_28 : decode cX6_init 28 = .ok (.return_, 1) := by decide +kernel
theorem dX6_copyFrom_0 : decode cX6_copyFrom 0 = .ok (.aload_n 0, 1) := by decide +kernel
theorem dX6_copyFrom_1 : decode cX6_copyFrom 1 = .ok (.aload_n 1, 1) := by decide +kernel
theorem dX6_copyFrom_2 : decode cX6_copyFrom 2 = .ok (.getfield 19, 3) := by decide +kernel
theorem dX6_copyFrom_5 : decode cX6_copyFrom 5 = .ok (.putfield 19, 3) := by decide +kernel
theorem dX6_copyFrom_8 : decode cX6_copyFrom 8 = .ok (.aload_n 0, 1) := by decide +kernel
theorem dX6_copyFrom_9 : decode cX6_copyFrom 9 = .ok (.aload_n 1, 1) := by decide +kernel
theorem dX6_copyFrom_10 : decode cX6_copyFrom 10 = .ok (.getfield 23, 3) := by decide +kernel
theorem dX6_copyFrom_13 : decode cX6_copyFrom 13 = .ok (.putfield 23, 3) := by decide +kernel
theorem dX6_copyFrom_16 : decode cX6_copyFrom 16 = .ok (.aload_n 1, 1) := by decide +kernel
theorem dX6_copyFrom_17 : decode cX6_copyFrom 17 = .ok (.getfield 9, 3) := by decide +kernel
theorem dX6_copyFrom_20 : decode cX6_copyFrom 20 = .ok (.iconst 0, 1) := by decide +kernel
theorem dX6_copyFrom_21 : decode cX6_copyFrom 21 = .ok (.aload_n 0, 1) := by decide +kernel
theorem dX6_copyFrom_22 : decode cX6_copyFrom 22 = .ok (.getfield 9, 3) := by decide +kernel
theorem dX6_copyFrom_25 : decode cX6_copyFrom 25 = .ok (.iconst 0, 1) := by decide +kernel
theorem dX6_copyFrom_26 : decode cX6_copyFrom 26 = .ok (.bipush 40, 2) := by decide +kernel
theorem dX6_copyFrom_28 : decode cX6_copyFrom 28 = .ok (.invokestatic 26, 3) := by decide +kernel
theorem dX6_copyFrom_31 : decode cX6_copyFrom 31 = .ok (.aload_n 1, 1) := by decide +kernel
theorem dX6_copyFrom_32 : decode cX6_copyFrom 32 = .ok (.getfield 13, 3) := by decide +kernel
theorem dX6_copyFrom_35 : decode cX6_copyFrom 35 = .ok (.iconst 0, 1) := by decide +kernel
theorem dX6_copyFrom_36 : decode cX6_copyFrom 36 = .ok (.aload_n 0, 1) := by decide +kernel
theorem dX6_copyFrom_37 : decode cX6_copyFrom 37 = .ok (.getfield 13, 3) := by decide +kernel
theorem dX6_copyFrom_40 : decode cX6_copyFrom 40 = .ok (.iconst 0, 1) := by decide +kernel
theorem dX6_copyFrom_41 : decode cX6_copyFrom 41 = .ok (.bipush 40, 2) := by decide +kernel
theorem dX6_copyFrom_43 : decode cX6_copyFrom 43 = .ok (.invokestatic 26, 3) := by decide +kernel
theorem dX6_copyFrom_46 : decode cX6_copyFrom 46 = .ok (.aload_n 1, 1) := by decide +kernel
theorem dX6_copyFrom_47 : decode cX6_copyFrom 47 = .ok (.getfield 16, 3) := by decide +kernel
theorem dX6_copyFrom_50 : decode cX6_copyFrom 50 = .ok (.iconst 0, 1) := by decide +kernel
theorem dX6_copyFrom_51 : decode cX6_copyFrom 51 = .ok (.aload_n 0, 1) := by decide +kernel
theorem dX6_copyFrom_52 : decode cX6_copyFrom 52 = .ok (.getfield 16, 3) := by decide +kernel
theorem dX6_copyFrom_55 : decode cX6_copyFrom 55 = .ok (.iconst 0, 1) := by decide +kernel
theorem dX6_copyFrom_56 : decode cX6_copyFrom 56 = .ok (.bipush 40, 2) := by decide +kernel
theorem dX6_copyFrom_58 : decode cX6_copyFrom 58 = .ok (.invokestatic 26, 3) := by decide +kernel
theorem dX6_copyFrom_61 : decode cX6_copyFrom 61 = .ok (.return_, 1) := by decide +kernel
theorem dX6_beginAnew_0 : decode cX6_beginAnew 0 = .ok (.aload_n 0, 1) := by decide +kernel
theorem dX6_beginAnew_1 : decode cX6_beginAnew 1 = .ok (.iconst 0, 1) := by decide +kernel
theorem dX6_beginAnew_2 : decode cX6_beginAnew 2 = .ok (.putfield 19, 3) := by decide +kernel
theorem dX6_beginAnew_5 : decode cX6_beginAnew 5 = .ok (.aload_n 0, 1) := by decide +kernel
theorem dX6_beginAnew_6 : decode cX6_beginAnew 6 = .ok (.iconst 0, 1) := by decide +kernel
theorem dX6_beginAnew_7 : decode cX6_beginAnew 7 = .ok (.putfield 23, 3) := by decide +kernel
theorem dX6_beginAnew_10 : decode cX6_beginAnew 10 = .ok (.return_, 1) := by decide +kernel
theorem dX6_sealIfFull_0 : decode cX6_sealIfFull 0 = .ok (.aload_n 0, 1) := by decide +kernel
theorem dX6_sealIfFull_1 : decode cX6_sealIfFull 1 = .ok (.getfield 23, 3) := by decide +kernel
theorem dX6_sealIfFull_4 : decode cX6_sealIfFull 4 = .ok (.iload_n 1, 1) := by decide +kernel
theorem dX6_sealIfFull_5 : decode cX6_sealIfFull 5 = .ok (.if_icmp .lt 12, 3) := by decide +kernel
theorem dX6_sealIfFull_8 : decode cX6_sealIfFull 8 = .ok (.aload_n 0, 1) := by decide +kernel
theorem dX6_sealIfFull_9 : decode cX6_sealIfFull 9 = .ok (.getfield 19, 3) := by decide +kernel
theorem dX6_sealIfFull_12 : decode cX6_sealIfFull 12 = .ok (.bipush 40, 2) := by decide +kernel
theorem dX6_sealIfFull_14 : decode cX6_sealIfFull 14 = .ok (.if_icmp .lt 4, 3) := by decide +kernel
theorem dX6_sealIfFull_17 : decode cX6_sealIfFull 17 = .ok (.return_, 1) := by decide +kernel
theorem dX6_sealIfFull_18 : decode cX6_sealIfFull 18 = .ok (.aload_n 0, 1) := by decide +kernel
theorem dX6_sealIfFull_19 : decode cX6_sealIfFull 19 = .ok (.getfield 9, 3) := by decide +kernel
theorem dX6_sealIfFull_22 : decode cX6_sealIfFull 22 = .ok (.aload_n 0, 1) := by decide +kernel
theorem dX6_sealIfFull_23 : decode cX6_sealIfFull 23 = .ok (.getfield 19, 3) := by decide +kernel
theorem dX6_sealIfFull_26 : decode cX6_sealIfFull 26 = .ok (.aload_n 0, 1) := by decide +kernel
theorem dX6_sealIfFull_27 : decode cX6_sealIfFull 27 = .ok (.getfield 23, 3) := by decide +kernel
theorem dX6_sealIfFull_30 : decode cX6_sealIfFull 30 = .ok (.iastore, 1) := by decide +kernel
theorem dX6_sealIfFull_31 : decode cX6_sealIfFull 31 = .ok (.aload_n 0, 1) := by decide +kernel
theorem dX6_sealIfFull_32 : decode cX6_sealIfFull 32 = .ok (.getfield 13, 3) := by decide +kernel
theorem dX6_sealIfFull_35 : decode cX6_sealIfFull 35 = .ok (.aload_n 0, 1) := by decide +kernel
theorem dX6_sealIfFull_36 : decode cX6_sealIfFull 36 = .ok (.getfield 19, 3) := by decide +kernel
theorem dX6_sealIfFull_39 : decode cX6_sealIfFull 39 = .ok (.iload_n 2, 1) := by decide +kernel
theorem dX6_sealIfFull_40 : decode cX6_sealIfFull 40 = .ok (.iastore, 1) := by decide +kernel
theorem dX6_sealIfFull_41 : decode cX6_sealIfFull 41 = .ok (.aload_n 0, 1) := by decide +kernel
theorem dX6_sealIfFull_42 : decode cX6_sealIfFull 42 = .ok (.getfield 16, 3) := by decide +kernel
theorem dX6_sealIfFull_45 : decode cX6_sealIfFull 45 = .ok (.aload_n 0, 1) := by decide +kernel
theorem dX6_sealIfFull_46 : decode cX6_sealIfFull 46 = .ok (.getfield 19, 3) := by decide +kernel
theorem dX6_sealIfFull_49 : decode cX6_sealIfFull 49 = .ok (.iload_n 3, 1) := by decide +kernel
theorem dX6_sealIfFull_50 : decode cX6_sealIfFull 50 = .ok (.iastore, 1) := by decide +kernel
theorem dX6_sealIfFull_51 : decode cX6_sealIfFull 51 = .ok (.aload_n 0, 1) := by decide +kernel
theorem dX6_sealIfFull_52 : decode cX6_sealIfFull 52 = .ok (.dup, 1) := by decide +kernel
theorem dX6_sealIfFull_53 : decode cX6_sealIfFull 53 = .ok (.getfield 19, 3) := by decide +kernel
theorem dX6_sealIfFull_56 : decode cX6_sealIfFull 56 = .ok (.iconst 1, 1) := by decide +kernel
theorem dX6_sealIfFull_57 : decode cX6_sealIfFull 57 = .ok (.iadd, 1) := by decide +kernel
theorem dX6_sealIfFull_58 : decode cX6_sealIfFull 58 = .ok (.putfield 19, 3) := by decide +kernel
theorem dX6_sealIfFull_61 : decode cX6_sealIfFull 61 = .ok (.aload_n 0, 1) := by decide +kernel
theorem dX6_sealIfFull_62 : decode cX6_sealIfFull 62 = .ok (.iconst 0, 1) := by decide +kernel
theorem dX6_sealIfFull_63 : decode cX6_sealIfFull 63 = .ok (.putfield 23, 3) := by decide +kernel
theorem dX6_sealIfFull_66 : decode cX6_sealIfFull 66 = .ok (.return_, 1) := by decide +kernel
theorem dX6_firstBeyond_0 : decode cX6_firstBeyond 0 = .ok (.iconst 0, 1) := by decide +kernel
theorem dX6_firstBeyond_1 : decode cX6_firstBeyond 1 = .ok (.istore_n 2, 1) := by decide +kernel
theorem dX6_firstBeyond_2 : decode cX6_firstBeyond 2 = .ok (.iload_n 2, 1) := by decide +kernel
theorem dX6_firstBeyond_3 : decode cX6_firstBeyond 3 = .ok (.aload_n 0, 1) := by decide +kernel
theorem dX6_firstBeyond_4 : decode cX6_firstBeyond 4 = .ok (.getfield 19, 3) := by decide +kernel
theorem dX6_firstBeyond_7 : decode cX6_firstBeyond 7 = .ok (.if_icmp .ge 19, 3) := by decide +kernel
theorem dX6_firstBeyond_10 : decode cX6_firstBeyond 10 = .ok (.aload_n 0, 1) := by decide +kernel
theorem dX6_firstBeyond_11 : decode cX6_firstBeyond 11 = .ok (.getfield 13, 3) := by decide +kernel
theorem dX6_firstBeyond_14 : decode cX6_firstBeyond 14 = .ok (.iload_n 2, 1) := by decide +kernel
theorem dX6_firstBeyond_15 : decode cX6_firstBeyond 15 = .ok (.iaload, 1) := by decide +kernel
theorem dX6_firstBeyond_16 : decode cX6_firstBeyond 16 = .ok (.iload_n 1, 1) := by decide +kernel
theorem dX6_firstBeyond_17 : decode cX6_firstBeyond 17 = .ok (.if_icmp .gt 9, 3) := by decide +kernel
theorem dX6_firstBeyond_20 : decode cX6_firstBeyond 20 = .ok (.iinc 2 1, 3) := by decide +kernel
theorem dX6_firstBeyond_23 : decode cX6_firstBeyond 23 = .ok (.goto (-21), 3) := by decide +kernel
theorem dX6_firstBeyond_26 : decode cX6_firstBeyond 26 = .ok (.iload_n 2, 1) := by decide +kernel
theorem dX6_firstBeyond_27 : decode cX6_firstBeyond 27 = .ok (.ireturn, 1) := by decide +kernel
set_option maxRecDepth 20000 in
theorem ggX7_init_X3_init : GoodIn wsX7_init wsX3_init := goodIn_r _ [23, 24, 2, 3, 25, 26, 27, 28, 29, 30, 31, 32, 33, 34, 35, 36, 37, 38, 39, 40, 41, 42, 43, 44, 45, 46, 47, 48, 49, 50, 51, 52, 53, 54, 55, 56, 57, 58, 59, 60, 61, 62, 63, 64, 65, 66, 116, 117, 118, 119, 120, 121, 122, 85, 86, 87, 88, 89, 90, 91, 92, 93, 94, 95, 96, 97, 98, 99, 123, 124, 125, 126, 127, 128, 129, 130, 131, 132] (by decide +kernel) (by decide +kernel)
set_option maxRecDepth 20000 in
theorem gX7_init_X3_init : GoodIn wsX7_init (wsX3_init) := ggX7_init_X3_init
set_option maxRecDepth 20000 in
theorem ggX7_init_X1_init : GoodIn wsX7_init wsX1_init := goodIn_r _ [69, 70, 2, 3, 71, 72, 5, 6, 73, 22, 23, 24, 25, 26, 27, 28, 29, 30, 31, 32, 33, 34, 35, 36, 37, 38, 39, 40, 41, 42, 43, 44, 45, 46, 47, 48, 49, 50, 51, 52, 53, 54, 55, 56, 57, 58, 59, 60, 61, 62, 63, 64, 65, 66, 105, 106, 107, 85, 86, 87, 88, 89, 90, 91, 92, 93, 94, 95, 96, 97, 98, 99, 116, 117, 118, 119, 120, 121, 122, 123, 124, 125, 126, 127, 128, 129, 130, 131, 132] (by decide +kernel) (by decide +kernel)
set_option maxRecDepth 20000 in
theorem gX7_init_X1_init : GoodIn wsX7_init (wsX1_init) := ggX7_init_X1_init
set_option maxRecDepth 20000 in
theorem ggX7_init_X5_init : GoodIn wsX7_init wsX5_init := goodIn_r _ [75, 76, 2, 3, 77, 78, 108, 109] (by decide +kernel) (by decide +kernel)
set_option maxRecDepth 20000 in
theorem gX7_init_X5_init_n28 : GoodIn wsX7_init (wsX5_init) := ggX7_init_X5_init
set_option maxRecDepth 20000 in
theorem ggX7_init_X4_init : GoodIn wsX7_init wsX4_init := goodIn_r _ [80, 81, 2, 3, 82, 26, 27, 83, 37, 84, 45, 46, 47, 48, 49, 50, 51, 52, 116, 117, 118, 119, 120, 121, 122, 110, 111, 112, 113, 114, 115] (by decide +kernel) (by decide +kernel)
set_option maxRecDepth 20000 in
theorem gX7_init_X4_init_n35 : GoodIn wsX7_init (wsX4_init) := ggX7_init_X4_init
theorem dX7_init_0 : decode cX7_init 0 = .ok (.aload_n 0, 1) := by decide +kernel
theorem dX7_init_1 : decode cX7_init 1 = .ok (.invokespecial 1, 3) := by decide +kernel
theorem dX7_init_4 : decode cX7_init 4 = .ok (.aload_n 0, 1) := by decide +kernel
theorem dX7_init_5 : decode cX7_init 5 = .ok (.new 7, 3) := by decide +kernel
theorem dX7_init_8 : decode cX7_init 8 = .ok (.dup, 1) := by decide +kernel
theorem dX7_init_9 : decode cX7_init 9 = .ok (.invokespecial 9, 3) := by decide +kernel
theorem dX7_init_12 : decode cX7_init 12 = .ok (.putfield 10, 3) := by decide +kernel
theorem dX7_init_15 : decode cX7_init 15 = .ok (.aload_n 0, 1) := by decide +kernel
theorem dX7_init_16 : decode cX7_init 16 = .ok (.new 7, 3) := by decide +kernel
theorem dX7_init_19 : decode cX7_init 19 = .ok (.dup, 1) := by decide +kernel
theorem dX7_init_20 : decode cX7_init 20 = .ok (.invokespecial 9, 3) := by decide +kernel
theorem dX7_init_23 : decode cX7_init 23 = .ok (.putfield 16, 3) := by decide +kernel
theorem dX7_init_26 : decode cX7_init 26 = .ok (.aload_n 0, 1) := by decide +kernel
theorem dX7_init_27 : decode cX7_init 27 = .ok (.new 19, 3) := by decide +kernel
theorem dX7_init_30 : decode cX7_init 30 = .ok (.dup, 1) := by decide +kernel
theorem dX7_init_31 : decode cX7_init 31 = .ok (.invokespecial 21, 3) := by decide +kernel
theorem dX7_init_34 : decode cX7_init 34 = .ok (.putfield 22, 3) := by decide +kernel
theorem dX7_init_37 : decode cX7_init 37 = .ok (.aload_n 0, 1) := by decide +kernel
theorem dX7_init_38 : decode cX7_init 38 = .ok (.new 26, 3) := by decide +kernel
theorem dX7_init_41 : decode cX7_init 41 = .ok (.dup, 1) := by decide +kernel
theorem dX7_init_42 : decode cX7_init 42 = .ok (.invokespecial 28, 3) := by decide +kernel
theorem dX7_init_45 : decode cX7_init 45 = .ok (.putfield 29, 3) := by decide +kernel
theorem dX7_init_48 : decode cX7_init 48 = .ok (.aload_n 0, 1) := by decide +kernel
theorem dX7_init_49 : decode cX7_init 49 = .ok (.new 33, 3) := by decide +kernel
theorem dX7_init_52 : decode cX7_init 52 = .ok (.dup, 1) := by decide +kernel
theorem dX7_init_53 : decode cX7_init 53 = .ok (.invokespecial 35, 3) := by decide +kernel
theorem dX7_init_56 : decode cX7_init 56 = .ok (.putfield 36, 3) := by decide +kernel
theorem dX7_init_59 : decode cX7_init 59 = .ok (.return_, 1) := by decide +kernel
set_option maxRecDepth 20000 in
theorem ggX7_addSegment_X0_firstWrong : GoodIn wsX7_addSegment wsX0_firstWrong := goodIn_r _ [8, 9, 10, 7, 11, 12, 13, 14, 15, 16, 17, 18, 19, 20] (by decide +kernel) (by decide +kernel)
set_option maxRecDepth 20000 in
theorem gX7_addSegment_X0_firstWrong : GoodIn wsX7_addSegment (va_wsS RX7 42 yX0_firstWrong wsX0_firstWrong) := goodIn_app (goodIn_of _ (by decide +kernel)) ggX7_addSegment_X0_firstWrong
set_option maxRecDepth 20000 in
theorem ggX7_addSegment_X0_isFull : GoodIn wsX7_addSegment wsX0_isFull := goodIn_r _ [24, 25, 116, 117, 118, 119, 120, 121, 122] (by decide +kernel) (by decide +kernel)
set_option maxRecDepth 20000 in
theorem gX7_addSegment_X0_isFull : GoodIn wsX7_addSegment (wsV RX7 50 RX0 yX0_isFull wsX0_isFull) := goodIn_app (goodIn_of _ (by decide +kernel)) ggX7_addSegment_X0_isFull
set_option maxRecDepth 20000 in
theorem ggX7_addSegment_X1_keep : GoodIn wsX7_addSegment wsX1_keep := goodIn_r _ [30, 31, 32, 33, 34, 35, 36, 37, 38, 39, 40, 41, 42, 43, 44, 45, 46, 47, 48, 49, 50, 51, 52, 53, 54, 55, 56, 57, 58, 59, 60, 7, 61, 25, 62, 63, 64, 65, 66, 67, 68, 69, 70, 71, 72, 73, 74, 75, 76, 77, 78, 79, 80, 81, 82, 83, 84, 85, 86, 87, 88, 89, 90, 123, 124, 125, 101, 102, 103, 104, 105, 106, 107, 108, 109, 110, 111, 112, 113, 114, 115, 116, 117, 118, 119, 120, 121, 122, 126, 127, 128, 129, 130, 131, 132, 133, 134, 135] (by decide +kernel) (by decide +kernel)
set_option maxRecDepth 20000 in
theorem gX7_addSegment_X1_keep : GoodIn wsX7_addSegment (wsV RX7 54 RX1 yX1_keep wsX1_keep) := goodIn_app (goodIn_of _ (by decide +kernel)) ggX7_addSegment_X1_keep
set_option maxRecDepth 20000 in
theorem ggX7_addSegment_X0_put : GoodIn wsX7_addSegment wsX0_put := goodIn_r _ [94, 63, 25, 65, 66, 67, 68, 62, 95, 22, 23, 7, 24, 116, 117, 118, 119, 120, 121, 122] (by decide +kernel) (by decide +kernel)
set_option maxRecDepth 20000 in
theorem gX7_addSegment_X0_put : GoodIn wsX7_addSegment (wsV RX7 58 RX0 yX0_put wsX0_put) := goodIn_app (goodIn_of _ (by decide +kernel)) ggX7_addSegment_X0_put
theorem dX7_addSegment_0 : decode cX7_addSegment 0 = .ok (.iload_n 1, 1) := by decide +kernel
theorem dX7_addSegment_1 : decode cX7_addSegment 1 = .ok (.ifCond .lt 19, 3) := by decide +kernel
theorem dX7_addSegment_4 : decode cX7_addSegment 4 = .ok (.iload_n 1, 1) := by decide +kernel
theorem dX7_addSegment_5 : decode cX7_addSegment 5 = .ok (.iconst 2, 1) := by decide +kernel
theorem dX7_addSegment_6 : decode cX7_addSegment 6 = .ok (.if_icmp .gt 14, 3) := by decide +kernel
theorem dX7_addSegment_9 : decode cX7_addSegment 9 = .ok (.iload_n 1, 1) := by decide +kernel
theorem dX7_addSegment_10 : decode cX7_addSegment 10 = .ok (.iload_n 2, 1) := by decide +kernel
theorem dX7_addSegment_11 : decode cX7_addSegment 11 = .ok (.iload_n 3, 1) := by decide +kernel
theorem dX7_addSegment_12 : decode cX7_addSegment 12 = .ok (.iload 4, 2) := by decide +kernel
theorem dX7_addSegment_14 : decode cX7_addSegment 14 = .ok (.invokestatic 42, 3) := by decide +kernel
theorem dX7_addSegment_17 : decode cX7_addSegment 17 = .ok (.ifCond .eq 5, 3) := by decide +kernel
theorem dX7_addSegment_20 : decode cX7_addSegment 20 = .ok (.iconst (-1), 1) := by decide +kernel
theorem dX7_addSegment_21 : decode cX7_addSegment 21 = .ok (.ireturn, 1) := by decide +kernel
theorem dX7_addSegment_22 : decode cX7_addSegment 22 = .ok (.aload_n 0, 1) := by decide +kernel
theorem dX7_addSegment_23 : decode cX7_addSegment 23 = .ok (.getfield 10, 3) := by decide +kernel
theorem dX7_addSegment_26 : decode cX7_addSegment 26 = .ok (.getfield 46, 3) := by decide +kernel
theorem dX7_addSegment_29 : decode cX7_addSegment 29 = .ok (.invokevirtual 50, 3) := by decide +kernel
theorem dX7_addSegment_32 : decode cX7_addSegment 32 = .ok (.ifCond .eq 6, 3) := by decide +kernel
theorem dX7_addSegment_35 : decode cX7_addSegment 35 = .ok (.bipush (-3), 2) := by decide +kernel
theorem dX7_addSegment_37 : decode cX7_addSegment 37 = .ok (.ireturn, 1) := by decide +kernel
theorem dX7_addSegment_38 : decode cX7_addSegment 38 = .ok (.aload_n 0, 1) := by decide +kernel
theorem dX7_addSegment_39 : decode cX7_addSegment 39 = .ok (.getfield 22, 3) := by decide +kernel
theorem dX7_addSegment_42 : decode cX7_addSegment 42 = .ok (.aload_n 0, 1) := by decide +kernel
theorem dX7_addSegment_43 : decode cX7_addSegment 43 = .ok (.getfield 10, 3) := by decide +kernel
theorem dX7_addSegment_46 : decode cX7_addSegment 46 = .ok (.invokevirtual 54, 3) := by decide +kernel
theorem dX7_addSegment_49 : decode cX7_addSegment 49 = .ok (.aload_n 0, 1) := by decide +kernel
theorem dX7_addSegment_50 : decode cX7_addSegment 50 = .ok (.getfield 10, 3) := by decide +kernel
theorem dX7_addSegment_53 : decode cX7_addSegment 53 = .ok (.getfield 46, 3) := by decide +kernel
theorem dX7_addSegment_56 : decode cX7_addSegment 56 = .ok (.iload_n 1, 1) := by decide +kernel
theorem dX7_addSegment_57 : decode cX7_addSegment 57 = .ok (.iload_n 2, 1) := by decide +kernel
theorem dX7_addSegment_58 : decode cX7_addSegment 58 = .ok (.iload_n 3, 1) := by decide +kernel
theorem dX7_addSegment_59 : decode cX7_addSegment 59 = .ok (.iload 4, 2) := by decide +kernel
theorem dX7_addSegment_61 : decode cX7_addSegment 61 = .ok (.invokevirtual 58, 3) := by decide +kernel
theorem dX7_addSegment_64 : decode cX7_addSegment 64 = .ok (.aload_n 0, 1) := by decide +kernel
theorem dX7_addSegment_65 : decode cX7_addSegment 65 = .ok (.getfield 10, 3) := by decide +kernel
theorem dX7_addSegment_68 : decode cX7_addSegment 68 = .ok (.getfield 46, 3) := by decide +kernel
theorem dX7_addSegment_71 : decode cX7_addSegment 71 = .ok (.getfield 62, 3) := by decide +kernel
theorem dX7_addSegment_74 : decode cX7_addSegment 74 = .ok (.iconst 1, 1) := by decide +kernel
theorem dX7_addSegment_75 : decode cX7_addSegment 75 = .ok (.isub, 1) := by decide +kernel
theorem dX7_addSegment_76 : decode cX7_addSegment 76 = .ok (.ireturn, 1) := by decide +kernel
set_option maxRecDepth 20000 in
theorem ggX7_segment_X0_partBelow : GoodIn wsX7_segment wsX0_partBelow := goodIn_r _ [14, 15, 16, 17, 18, 19, 20, 21, 22, 23, 44, 45, 46, 47, 48, 49, 50] (by decide +kernel) (by decide +kernel)
set_option maxRecDepth 20000 in
theorem gX7_segment_X0_partBelow : GoodIn wsX7_segment (wsV RX7 85 RX0 yX0_partBelow wsX0_partBelow) := goodIn_app (goodIn_of _ (by decide +kernel)) ggX7_segment_X0_partBelow
theorem dX7_segment_0 : decode cX7_segment 0 = .ok (.iload_n 1, 1) := by decide +kernel
theorem dX7_segment_1 : decode cX7_segment 1 = .ok (.ifCond .lt 17, 3) := by decide +kernel
theorem dX7_segment_4 : decode cX7_segment 4 = .ok (.iload_n 1, 1) := by decide +kernel
theorem dX7_segment_5 : decode cX7_segment 5 = .ok (.aload_n 0, 1) := by decide +kernel
theorem dX7_segment_6 : decode cX7_segment 6 = .ok (.getfield 10, 3) := by decide +kernel
theorem dX7_segment_9 : decode cX7_segment 9 = .ok (.getfield 46, 3) := by decide +kernel
theorem dX7_segment_12 : decode cX7_segment 12 = .ok (.getfield 62, 3) := by decide +kernel
theorem dX7_segment_15 : decode cX7_segment 15 = .ok (.if_icmp .lt 5, 3) := by decide +kernel
theorem dX7_segment_18 : decode cX7_segment 18 = .ok (.iconst (-1), 1) := by decide +kernel
theorem dX7_segment_19 : decode cX7_segment 19 = .ok (.ireturn, 1) := by decide +kernel
theorem dX7_segment_20 : decode cX7_segment 20 = .ok (.iload_n 2, 1) := by decide +kernel
theorem dX7_segment_21 : decode cX7_segment 21 = .ok (.tableswitch 123 0 5 #[39, 52, 65, 78, 91, 104], 39) := by decide +kernel
theorem dX7_segment_60 : decode cX7_segment 60 = .ok (.aload_n 0, 1) := by decide +kernel
theorem dX7_segment_61 : decode cX7_segment 61 = .ok (.getfield 10, 3) := by decide +kernel
theorem dX7_segment_64 : decode cX7_segment 64 = .ok (.getfield 46, 3) := by decide +kernel
theorem dX7_segment_67 : decode cX7_segment 67 = .ok (.getfield 66, 3) := by decide +kernel
theorem dX7_segment_70 : decode cX7_segment 70 = .ok (.iload_n 1, 1) := by decide +kernel
theorem dX7_segment_71 : decode cX7_segment 71 = .ok (.iaload, 1) := by decide +kernel
theorem dX7_segment_72 : decode cX7_segment 72 = .ok (.ireturn, 1) := by decide +kernel
theorem dX7_segment_73 : decode cX7_segment 73 = .ok (.aload_n 0, 1) := by decide +kernel
theorem dX7_segment_74 : decode cX7_segment 74 = .ok (.getfield 10, 3) := by decide +kernel
theorem dX7_segment_77 : decode cX7_segment 77 = .ok (.getfield 46, 3) := by decide +kernel
theorem dX7_segment_80 : decode cX7_segment 80 = .ok (.getfield 70, 3) := by decide +kernel
theorem dX7_segment_83 : decode cX7_segment 83 = .ok (.iload_n 1, 1) := by decide +kernel
theorem dX7_segment_84 : decode cX7_segment 84 = .ok (.iaload, 1) := by decide +kernel
theorem dX7_segment_85 : decode cX7_segment 85 = .ok (.ireturn, 1) := by decide +kernel
theorem dX7_segment_86 : decode cX7_segment 86 = .ok (.aload_n 0, 1) := by decide +kernel
theorem dX7_segment_87 : decode cX7_segment 87 = .ok (.getfield 10, 3) := by decide +kernel
theorem dX7_segment_90 : decode cX7_segment 90 = .ok (.getfield 46, 3) := by decide +kernel
theorem dX7_segment_93 : decode cX7_segment 93 = .ok (.getfield 73, 3) := by decide +kernel
theorem dX7_segment_96 : decode cX7_segment 96 = .ok (.iload_n 1, 1) := by decide +kernel
theorem dX7_segment_97 : decode cX7_segment 97 = .ok (.iaload, 1) := by decide +kernel
theorem dX7_segment_98 : decode cX7_segment 98 = .ok (.ireturn, 1) := by decide +kernel
theorem dX7_segment_99 : decode cX7_segment 99 = .ok (.aload_n 0, 1) := by decide +kernel
theorem dX7_segment_100 : decode cX7_segment 100 = .ok (.getfield 10, 3) := by decide +kernel
theorem dX7_segment_103 : decode cX7_segment 103 = .ok (.getfield 46, 3) := by decide +kernel
theorem dX7_segment_106 : decode cX7_segment 106 = .ok (.getfield 76, 3) := by decide +kernel
theorem dX7_segment_109 : decode cX7_segment 109 = .ok (.iload_n 1, 1) := by decide +kernel
theorem dX7_segment_110 : decode cX7_segment 110 = .ok (.iaload, 1) := by decide +kernel
theorem dX7_segment_111 : decode cX7_segment 111 = .ok (.ireturn, 1) := by decide +kernel
theorem dX7_segment_112 : decode cX7_segment 112 = .ok (.aload_n 0, 1) := by decide +kernel
theorem dX7_segment_113 : decode cX7_segment 113 = .ok (.getfield 10, 3) := by decide +kernel
theorem dX7_segment_116 : decode cX7_segment 116 = .ok (.getfield 46, 3) := by decide +kernel
theorem dX7_segment_119 : decode cX7_segment 119 = .ok (.getfield 79, 3) := by decide +kernel
theorem dX7_segment_122 : decode cX7_segment 122 = .ok (.iload_n 1, 1) := by decide +kernel
theorem dX7_segment_123 : decode cX7_segment 123 = .ok (.iaload, 1) := by decide +kernel
theorem dX7_segment_124 : decode cX7_segment 124 = .ok (.ireturn, 1) := by decide +kernel
theorem dX7_segment_125 : decode cX7_segment 125 = .ok (.aload_n 0, 1) := by decide +kernel
theorem dX7_segment_126 : decode cX7_segment 126 = .ok (.getfield 10, 3) := by decide +kernel
theorem dX7_segment_129 : decode cX7_segment 129 = .ok (.getfield 46, 3) := by decide +kernel
theorem dX7_segment_132 : decode cX7_segment 132 = .ok (.aload_n 0, 1) := by decide +kernel
theorem dX7_segment_133 : decode cX7_segment 133 = .ok (.getfield 10, 3) := by decide +kernel
theorem dX7_segment_136 : decode cX7_segment 136 = .ok (.getfield 82, 3) := by decide +kernel
theorem dX7_segment_139 : decode cX7_segment 139 = .ok (.iload_n 1, 1) := by decide +kernel
theorem dX7_segment_140 : decode cX7_segment 140 = .ok (.invokevirtual 85, 3) := by decide +kernel
theorem dX7_segment_143 : decode cX7_segment 143 = .ok (.ireturn, 1) := by decide +kernel
theorem dX7_segment_144 : decode cX7_segment 144 = .ok (.iconst (-1), 1) := by decide +kernel
theorem dX7_segment_145 : decode cX7_segment 145 = .ok (.ireturn, 1) := by decide +kernel
set_option maxRecDepth 20000 in
theorem ggX7_segmentAt_X0_holding : GoodIn wsX7_segmentAt wsX0_holding := goodIn_r _ [8, 9, 10, 11, 12, 7, 13, 14, 15, 36, 37, 38, 39, 40, 41, 42] (by decide +kernel) (by decide +kernel)
set_option maxRecDepth 20000 in
theorem gX7_segmentAt_X0_holding : GoodIn wsX7_segmentAt (wsV RX7 92 RX0 yX0_holding wsX0_holding) := goodIn_app (goodIn_of _ (by decide +kernel)) ggX7_segmentAt_X0_holding
theorem dX7_segmentAt_0 : decode cX7_segmentAt 0 = .ok (.iload_n 1, 1) := by decide +kernel
theorem dX7_segmentAt_1 : decode cX7_segmentAt 1 = .ok (.ifCond .ge 5, 3) := by decide +kernel
theorem dX7_segmentAt_4 : decode cX7_segmentAt 4 = .ok (.iconst (-1), 1) := by decide +kernel
theorem dX7_segmentAt_5 : decode cX7_segmentAt 5 = .ok (.ireturn, 1) := by decide +kernel
end
section
theorem dX7_segmentAt_6 : decode cX7_segmentAt 6 = .ok (.iload_n 1, 1) := by decide +kernel
theorem dX7_segmentAt_7 : decode cX7_segmentAt 7 = .ok (.aload_n 0, 1) := by decide +kernel
theorem dX7_segmentAt_8 : decode cX7_segmentAt 8 = .ok (.getfield 10, 3) := by decide +kernel
theorem dX7_segmentAt_11 : decode cX7_segmentAt 11 = .ok (.getfield 46, 3) := by decide +kernel
theorem dX7_segmentAt_14 : decode cX7_segmentAt 14 = .ok (.getfield 89, 3) := by decide +kernel
theorem dX7_segmentAt_17 : decode cX7_segmentAt 17 = .ok (.if_icmp .lt 6, 3) := by decide +kernel
theorem dX7_segmentAt_20 : decode cX7_segmentAt 20 = .ok (.bipush (-4), 2) := by decide +kernel
theorem dX7_segmentAt_22 : decode cX7_segmentAt 22 = .ok (.ireturn, 1) := by decide +kernel
theorem dX7_segmentAt_23 : decode cX7_segmentAt 23 = .ok (.aload_n 0, 1) := by decide +kernel
theorem dX7_segmentAt_24 : decode cX7_segmentAt 24 = .ok (.getfield 10, 3) := by decide +kernel
theorem dX7_segmentAt_27 : decode cX7_segmentAt 27 = .ok (.getfield 46, 3) := by decide +kernel
theorem dX7_segmentAt_30 : decode cX7_segmentAt 30 = .ok (.iload_n 1, 1) := by decide +kernel
theorem dX7_segmentAt_31 : decode cX7_segmentAt 31 = .ok (.invokevirtual 92, 3) := by decide +kernel
theorem dX7_segmentAt_34 : decode cX7_segmentAt 34 = .ok (.ireturn, 1) := by decide +kernel
set_option maxRecDepth 20000 in
theorem ggX7_waterBelow_X0_waterUpTo : GoodIn wsX7_waterBelow wsX0_waterUpTo := goodIn_r _ [8, 9, 10, 11, 12, 13, 7, 14, 15, 16, 17, 18, 19, 20, 21, 22, 23, 44, 45, 46, 47, 48, 49, 50] (by decide +kernel) (by decide +kernel)
set_option maxRecDepth 20000 in
theorem gX7_waterBelow_X0_waterUpTo : GoodIn wsX7_waterBelow (wsV RX7 96 RX0 yX0_waterUpTo wsX0_waterUpTo) := goodIn_app (goodIn_of _ (by decide +kernel)) ggX7_waterBelow_X0_waterUpTo
theorem dX7_waterBelow_0 : decode cX7_waterBelow 0 = .ok (.iload_n 1, 1) := by decide +kernel
theorem dX7_waterBelow_1 : decode cX7_waterBelow 1 = .ok (.ifCond .lt 17, 3) := by decide +kernel
theorem dX7_waterBelow_4 : decode cX7_waterBelow 4 = .ok (.iload_n 1, 1) := by decide +kernel
theorem dX7_waterBelow_5 : decode cX7_waterBelow 5 = .ok (.aload_n 0, 1) := by decide +kernel
theorem dX7_waterBelow_6 : decode cX7_waterBelow 6 = .ok (.getfield 10, 3) := by decide +kernel
theorem dX7_waterBelow_9 : decode cX7_waterBelow 9 = .ok (.getfield 46, 3) := by decide +kernel
theorem dX7_waterBelow_12 : decode cX7_waterBelow 12 = .ok (.getfield 89, 3) := by decide +kernel
theorem dX7_waterBelow_15 : decode cX7_waterBelow 15 = .ok (.if_icmp .le 5, 3) := by decide +kernel
theorem dX7_waterBelow_18 : decode cX7_waterBelow 18 = .ok (.iconst (-1), 1) := by decide +kernel
theorem dX7_waterBelow_19 : decode cX7_waterBelow 19 = .ok (.ireturn, 1) := by decide +kernel
theorem dX7_waterBelow_20 : decode cX7_waterBelow 20 = .ok (.aload_n 0, 1) := by decide +kernel
theorem dX7_waterBelow_21 : decode cX7_waterBelow 21 = .ok (.getfield 10, 3) := by decide +kernel
theorem dX7_waterBelow_24 : decode cX7_waterBelow 24 = .ok (.getfield 46, 3) := by decide +kernel
theorem dX7_waterBelow_27 : decode cX7_waterBelow 27 = .ok (.iload_n 1, 1) := by decide +kernel
theorem dX7_waterBelow_28 : decode cX7_waterBelow 28 = .ok (.invokevirtual 96, 3) := by decide +kernel
theorem dX7_waterBelow_31 : decode cX7_waterBelow 31 = .ok (.ireturn, 1) := by decide +kernel
set_option maxRecDepth 20000 in
theorem ggX7_renew_X1_keep : GoodIn wsX7_renew wsX1_keep := goodIn_r _ [8, 9, 10, 11, 12, 13, 14, 15, 16, 17, 18, 19, 20, 21, 22, 23, 24, 25, 26, 27, 28, 29, 30, 31, 32, 33, 34, 35, 36, 37, 38, 39, 40, 41, 42, 43, 44, 45, 46, 47, 48, 49, 50, 51, 52, 53, 54, 55, 56, 57, 58, 59, 60, 61, 62, 63, 64, 65, 66, 67, 68, 69, 70, 108, 109, 110, 93, 94, 95, 96, 97, 98, 99, 100, 101, 102, 103, 104, 105, 106, 107, 111, 112, 113, 114, 115, 116, 117, 118, 119, 120, 121, 122, 123, 124, 125, 126, 127] (by decide +kernel) (by decide +kernel)
set_option maxRecDepth 20000 in
theorem gX7_renew_X1_keep : GoodIn wsX7_renew (wsV RX7 54 RX1 yX1_keep wsX1_keep) := goodIn_app (goodIn_of _ (by decide +kernel)) ggX7_renew_X1_keep
set_option maxRecDepth 20000 in
theorem ggX7_renew_X3_beginAnew : GoodIn wsX7_renew wsX3_beginAnew := goodIn_r _ [74, 18, 19, 25, 26, 27, 28, 29, 30, 31, 32, 33, 34, 35, 75, 76, 77, 52, 78, 54, 56, 57, 58, 59, 79, 80, 81, 82, 83, 84, 85, 63, 86, 65, 66, 87, 93, 94, 95, 96, 97, 98, 99, 100, 101, 102, 103, 104, 105, 106, 107, 118, 119, 120, 121, 122, 123, 124, 125, 126, 127] (by decide +kernel) (by decide +kernel)
set_option maxRecDepth 20000 in
theorem gX7_renew_X3_beginAnew : GoodIn wsX7_renew (wsV RX7 99 RX3 yX3_beginAnew wsX3_beginAnew) := goodIn_app (goodIn_of _ (by decide +kernel)) ggX7_renew_X3_beginAnew
theorem dX7_renew_0 : decode cX7_renew 0 = .ok (.aload_n 0, 1) := by decide +kernel
theorem dX7_renew_1 : decode cX7_renew 1 = .ok (.getfield 10, 3) := by decide +kernel
theorem dX7_renew_4 : decode cX7_renew 4 = .ok (.getfield 82, 3) := by decide +kernel
theorem dX7_renew_7 : decode cX7_renew 7 = .ok (.istore_n 1, 1) := by decide +kernel
theorem dX7_renew_8 : decode cX7_renew 8 = .ok (.aload_n 0, 1) := by decide +kernel
theorem dX7_renew_9 : decode cX7_renew 9 = .ok (.getfield 22, 3) := by decide +kernel
theorem dX7_renew_12 : decode cX7_renew 12 = .ok (.aload_n 0, 1) := by decide +kernel
theorem dX7_renew_13 : decode cX7_renew 13 = .ok (.getfield 10, 3) := by decide +kernel
theorem dX7_renew_16 : decode cX7_renew 16 = .ok (.invokevirtual 54, 3) := by decide +kernel
theorem dX7_renew_19 : decode cX7_renew 19 = .ok (.aload_n 0, 1) := by decide +kernel
theorem dX7_renew_20 : decode cX7_renew 20 = .ok (.getfield 10, 3) := by decide +kernel
theorem dX7_renew_23 : decode cX7_renew 23 = .ok (.invokevirtual 99, 3) := by decide +kernel
theorem dX7_renew_26 : decode cX7_renew 26 = .ok (.iload_n 1, 1) := by decide +kernel
theorem dX7_renew_27 : decode cX7_renew 27 = .ok (.ireturn, 1) := by decide +kernel
set_option maxRecDepth 20000 in
theorem ggX7_undo_X1_giveBack : GoodIn wsX7_undo wsX1_giveBack := goodIn_r _ [8, 9, 10, 11, 12, 13, 14, 15, 16, 17, 18, 19, 20, 21, 22, 23, 24, 25, 26, 27, 28, 29, 30, 31, 32, 33, 34, 35, 36, 37, 38, 39, 40, 41, 42, 43, 44, 45, 46, 47, 48, 49, 50, 51, 52, 53, 54, 55, 56, 57, 58, 59, 60, 61, 62, 63, 64, 65, 66, 67, 68, 69, 70, 76, 77, 78, 79, 80, 81, 82, 83, 84, 85, 86, 87, 88, 89, 90, 91, 92, 93, 94, 95, 96, 97, 98, 99, 100, 101, 102, 103, 104, 105, 106, 107, 108, 109, 110] (by decide +kernel) (by decide +kernel)
set_option maxRecDepth 20000 in
theorem gX7_undo_X1_giveBack : GoodIn wsX7_undo (wsV RX7 103 RX1 yX1_giveBack wsX1_giveBack) := goodIn_app (goodIn_of _ (by decide +kernel)) ggX7_undo_X1_giveBack
theorem dX7_undo_0 : decode cX7_undo 0 = .ok (.aload_n 0, 1) := by decide +kernel
theorem dX7_undo_1 : decode cX7_undo 1 = .ok (.getfield 22, 3) := by decide +kernel
theorem dX7_undo_4 : decode cX7_undo 4 = .ok (.getfield 102, 3) := by decide +kernel
theorem dX7_undo_7 : decode cX7_undo 7 = .ok (.ifCond .gt 6, 3) := by decide +kernel
theorem dX7_undo_10 : decode cX7_undo 10 = .ok (.bipush (-2), 2) := by decide +kernel
theorem dX7_undo_12 : decode cX7_undo 12 = .ok (.ireturn, 1) := by decide +kernel
theorem dX7_undo_13 : decode cX7_undo 13 = .ok (.aload_n 0, 1) := by decide +kernel
theorem dX7_undo_14 : decode cX7_undo 14 = .ok (.getfield 22, 3) := by decide +kernel
theorem dX7_undo_17 : decode cX7_undo 17 = .ok (.aload_n 0, 1) := by decide +kernel
theorem dX7_undo_18 : decode cX7_undo 18 = .ok (.getfield 10, 3) := by decide +kernel
theorem dX7_undo_21 : decode cX7_undo 21 = .ok (.invokevirtual 103, 3) := by decide +kernel
theorem dX7_undo_24 : decode cX7_undo 24 = .ok (.aload_n 0, 1) := by decide +kernel
theorem dX7_undo_25 : decode cX7_undo 25 = .ok (.getfield 22, 3) := by decide +kernel
theorem dX7_undo_28 : decode cX7_undo 28 = .ok (.getfield 102, 3) := by decide +kernel
theorem dX7_undo_31 : decode cX7_undo 31 = .ok (.ireturn, 1) := by decide +kernel
set_option maxRecDepth 20000 in
theorem ggX7_set_X1_keep : GoodIn wsX7_set wsX1_keep := goodIn_r _ [10, 11, 12, 13, 14, 15, 16, 17, 18, 19, 20, 21, 22, 23, 24, 25, 26, 27, 28, 29, 30, 31, 32, 33, 34, 35, 36, 37, 38, 39, 40, 41, 42, 43, 44, 45, 46, 47, 48, 49, 50, 51, 52, 53, 54, 55, 56, 57, 58, 59, 60, 61, 62, 63, 64, 65, 66, 67, 68, 69, 70, 71, 72, 93, 94, 95, 78, 79, 80, 81, 82, 83, 84, 85, 86, 87, 88, 89, 90, 91, 92, 96, 97, 98, 99, 100, 101, 102, 103, 104, 105, 106, 107, 108, 109, 110, 111, 112] (by decide +kernel) (by decide +kernel)
set_option maxRecDepth 20000 in
theorem gX7_set_X1_keep : GoodIn wsX7_set (wsV RX7 54 RX1 yX1_keep wsX1_keep) := goodIn_app (goodIn_of _ (by decide +kernel)) ggX7_set_X1_keep
theorem dX7_set_0 : decode cX7_set 0 = .ok (.iload_n 1, 1) := by decide +kernel
theorem dX7_set_1 : decode cX7_set 1 = .ok (.ifCond .lt 27, 3) := by decide +kernel
theorem dX7_set_4 : decode cX7_set 4 = .ok (.iload_n 1, 1) := by decide +kernel
theorem dX7_set_5 : decode cX7_set 5 = .ok (.bipush 8, 2) := by decide +kernel
theorem dX7_set_7 : decode cX7_set 7 = .ok (.if_icmp .ge 21, 3) := by decide +kernel
theorem dX7_set_10 : decode cX7_set 10 = .ok (.iload_n 2, 1) := by decide +kernel
theorem dX7_set_11 : decode cX7_set 11 = .ok (.getstatic 106, 3) := by decide +kernel
theorem dX7_set_14 : decode cX7_set 14 = .ok (.iload_n 1, 1) := by decide +kernel
theorem dX7_set_15 : decode cX7_set 15 = .ok (.iaload, 1) := by decide +kernel
theorem dX7_set_16 : decode cX7_set 16 = .ok (.if_icmp .lt 12, 3) := by decide +kernel
theorem dX7_set_19 : decode cX7_set 19 = .ok (.iload_n 2, 1) := by decide +kernel
theorem dX7_set_20 : decode cX7_set 20 = .ok (.getstatic 109, 3) := by decide +kernel
theorem dX7_set_23 : decode cX7_set 23 = .ok (.iload_n 1, 1) := by decide +kernel
theorem dX7_set_24 : decode cX7_set 24 = .ok (.iaload, 1) := by decide +kernel
theorem dX7_set_25 : decode cX7_set 25 = .ok (.if_icmp .le 5, 3) := by decide +kernel
theorem dX7_set_28 : decode cX7_set 28 = .ok (.iconst (-1), 1) := by decide +kernel
theorem dX7_set_29 : decode cX7_set 29 = .ok (.ireturn, 1) := by decide +kernel
theorem dX7_set_30 : decode cX7_set 30 = .ok (.aload_n 0, 1) := by decide +kernel
theorem dX7_set_31 : decode cX7_set 31 = .ok (.getfield 10, 3) := by decide +kernel
theorem dX7_set_34 : decode cX7_set 34 = .ok (.getfield 112, 3) := by decide +kernel
theorem dX7_set_37 : decode cX7_set 37 = .ok (.iload_n 1, 1) := by decide +kernel
theorem dX7_set_38 : decode cX7_set 38 = .ok (.iaload, 1) := by decide +kernel
theorem dX7_set_39 : decode cX7_set 39 = .ok (.istore_n 3, 1) := by decide +kernel
theorem dX7_set_40 : decode cX7_set 40 = .ok (.aload_n 0, 1) := by decide +kernel
theorem dX7_set_41 : decode cX7_set 41 = .ok (.getfield 22, 3) := by decide +kernel
theorem dX7_set_44 : decode cX7_set 44 = .ok (.aload_n 0, 1) := by decide +kernel
theorem dX7_set_45 : decode cX7_set 45 = .ok (.getfield 10, 3) := by decide +kernel
theorem dX7_set_48 : decode cX7_set 48 = .ok (.invokevirtual 54, 3) := by decide +kernel
theorem dX7_set_51 : decode cX7_set 51 = .ok (.aload_n 0, 1) := by decide +kernel
theorem dX7_set_52 : decode cX7_set 52 = .ok (.getfield 10, 3) := by decide +kernel
theorem dX7_set_55 : decode cX7_set 55 = .ok (.getfield 112, 3) := by decide +kernel
theorem dX7_set_58 : decode cX7_set 58 = .ok (.iload_n 1, 1) := by decide +kernel
theorem dX7_set_59 : decode cX7_set 59 = .ok (.iload_n 2, 1) := by decide +kernel
theorem dX7_set_60 : decode cX7_set 60 = .ok (.iastore, 1) := by decide +kernel
theorem dX7_set_61 : decode cX7_set 61 = .ok (.iload_n 3, 1) := by decide +kernel
theorem dX7_set_62 : decode cX7_set 62 = .ok (.ireturn, 1) := by decide +kernel
set_option maxRecDepth 20000 in
theorem ggX7_clean_X1_keep : GoodIn wsX7_clean wsX1_keep := goodIn_r _ [10, 11, 12, 13, 14, 15, 16, 17, 18, 19, 20, 21, 22, 23, 24, 25, 26, 27, 28, 29, 30, 31, 32, 33, 34, 35, 36, 37, 38, 39, 40, 41, 42, 43, 44, 45, 46, 47, 48, 49, 50, 51, 52, 53, 54, 55, 56, 57, 58, 59, 60, 61, 62, 63, 64, 65, 66, 67, 68, 69, 70, 71, 72, 102, 103, 104, 82, 83, 84, 85, 86, 87, 88, 89, 90, 91, 92, 93, 94, 95, 96, 105, 106, 107, 108, 109, 110, 111, 97, 98, 99, 100, 101, 112, 113, 114, 115, 116] (by decide +kernel) (by decide +kernel)
set_option maxRecDepth 20000 in
theorem gX7_clean_X1_keep : GoodIn wsX7_clean (wsV RX7 54 RX1 yX1_keep wsX1_keep) := goodIn_app (goodIn_of _ (by decide +kernel)) ggX7_clean_X1_keep
set_option maxRecDepth 20000 in
theorem ggX7_clean_X2_open : GoodIn wsX7_clean wsX2_open := goodIn_r _ [76, 56, 58, 59, 97, 98, 99, 100, 101] (by decide +kernel) (by decide +kernel)
set_option maxRecDepth 20000 in
theorem gX7_clean_X2_open : GoodIn wsX7_clean (wsV RX7 127 RX2 yX2_open wsX2_open) := goodIn_app (goodIn_of _ (by decide +kernel)) ggX7_clean_X2_open
theorem dX7_clean_0 : decode cX7_clean 0 = .ok (.iload_n 1, 1) := by decide +kernel
theorem dX7_clean_1 : decode cX7_clean 1 = .ok (.ifCond .lt 8, 3) := by decide +kernel
theorem dX7_clean_4 : decode cX7_clean 4 = .ok (.iload_n 1, 1) := by decide +kernel
theorem dX7_clean_5 : decode cX7_clean 5 = .ok (.iconst 4, 1) := by decide +kernel
theorem dX7_clean_6 : decode cX7_clean 6 = .ok (.if_icmp .lt 5, 3) := by decide +kernel
theorem dX7_clean_9 : decode cX7_clean 9 = .ok (.iconst (-1), 1) := by decide +kernel
theorem dX7_clean_10 : decode cX7_clean 10 = .ok (.ireturn, 1) := by decide +kernel
theorem dX7_clean_11 : decode cX7_clean 11 = .ok (.aload_n 0, 1) := by decide +kernel
theorem dX7_clean_12 : decode cX7_clean 12 = .ok (.getfield 10, 3) := by decide +kernel
theorem dX7_clean_15 : decode cX7_clean 15 = .ok (.getfield 117, 3) := by decide +kernel
theorem dX7_clean_18 : decode cX7_clean 18 = .ok (.getfield 121, 3) := by decide +kernel
theorem dX7_clean_21 : decode cX7_clean 21 = .ok (.iload_n 1, 1) := by decide +kernel
theorem dX7_clean_22 : decode cX7_clean 22 = .ok (.iaload, 1) := by decide +kernel
theorem dX7_clean_23 : decode cX7_clean 23 = .ok (.ifCond .ne 6, 3) := by decide +kernel
theorem dX7_clean_26 : decode cX7_clean 26 = .ok (.bipush (-2), 2) := by decide +kernel
theorem dX7_clean_28 : decode cX7_clean 28 = .ok (.ireturn, 1) := by decide +kernel
theorem dX7_clean_29 : decode cX7_clean 29 = .ok (.aload_n 0, 1) := by decide +kernel
theorem dX7_clean_30 : decode cX7_clean 30 = .ok (.getfield 10, 3) := by decide +kernel
theorem dX7_clean_33 : decode cX7_clean 33 = .ok (.getfield 117, 3) := by decide +kernel
theorem dX7_clean_36 : decode cX7_clean 36 = .ok (.getfield 124, 3) := by decide +kernel
theorem dX7_clean_39 : decode cX7_clean 39 = .ok (.iload_n 1, 1) := by decide +kernel
theorem dX7_clean_40 : decode cX7_clean 40 = .ok (.iaload, 1) := by decide +kernel
theorem dX7_clean_41 : decode cX7_clean 41 = .ok (.istore_n 2, 1) := by decide +kernel
theorem dX7_clean_42 : decode cX7_clean 42 = .ok (.aload_n 0, 1) := by decide +kernel
theorem dX7_clean_43 : decode cX7_clean 43 = .ok (.getfield 22, 3) := by decide +kernel
theorem dX7_clean_46 : decode cX7_clean 46 = .ok (.aload_n 0, 1) := by decide +kernel
theorem dX7_clean_47 : decode cX7_clean 47 = .ok (.getfield 10, 3) := by decide +kernel
theorem dX7_clean_50 : decode cX7_clean 50 = .ok (.invokevirtual 54, 3) := by decide +kernel
theorem dX7_clean_53 : decode cX7_clean 53 = .ok (.aload_n 0, 1) := by decide +kernel
theorem dX7_clean_54 : decode cX7_clean 54 = .ok (.getfield 10, 3) := by decide +kernel
theorem dX7_clean_57 : decode cX7_clean 57 = .ok (.getfield 117, 3) := by decide +kernel
theorem dX7_clean_60 : decode cX7_clean 60 = .ok (.iload_n 1, 1) := by decide +kernel
theorem dX7_clean_61 : decode cX7_clean 61 = .ok (.invokevirtual 127, 3) := by decide +kernel
theorem dX7_clean_64 : decode cX7_clean 64 = .ok (.iload_n 2, 1) := by decide +kernel
theorem dX7_clean_65 : decode cX7_clean 65 = .ok (.ireturn, 1) := by decide +kernel
set_option maxRecDepth 20000 in
theorem ggX7_run_X3_ticksLeft : GoodIn wsX7_run wsX3_ticksLeft := goodIn_r _ [8, 9, 157, 158, 159, 160, 161, 162, 163, 164, 165, 166, 167, 168, 169, 170, 171] (by decide +kernel) (by decide +kernel)
set_option maxRecDepth 20000 in
theorem gX7_run_X3_ticksLeft : GoodIn wsX7_run (wsV RX7 131 RX3 yX3_ticksLeft wsX3_ticksLeft) := goodIn_app (goodIn_of _ (by decide +kernel)) ggX7_run_X3_ticksLeft
set_option maxRecDepth 20000 in
theorem ggX7_run_X1_keep : GoodIn wsX7_run wsX1_keep := goodIn_r _ [14, 15, 16, 17, 18, 19, 20, 7, 21, 22, 23, 24, 25, 26, 27, 28, 29, 30, 31, 32, 33, 34, 35, 36, 37, 9, 38, 39, 40, 41, 42, 43, 44, 45, 46, 47, 48, 49, 50, 51, 52, 53, 54, 55, 56, 57, 58, 59, 60, 61, 62, 63, 64, 65, 66, 67, 68, 69, 70, 71, 72, 73, 74, 172, 173, 174, 157, 158, 159, 160, 161, 162, 163, 164, 165, 166, 167, 168, 169, 170, 171, 175, 176, 177, 178, 179, 180, 181, 182, 183, 184, 185, 186, 187, 188, 189, 190, 191] (by decide +kernel) (by decide +kernel)
set_option maxRecDepth 20000 in
theorem gX7_run_X1_keep : GoodIn wsX7_run (wsV RX7 54 RX1 yX1_keep wsX1_keep) := goodIn_app (goodIn_of _ (by decide +kernel)) ggX7_run_X1_keep
set_option maxRecDepth 20000 in
theorem ggX7_run_X3_pass : GoodIn wsX7_run wsX3_pass := goodIn_r _ [78, 79, 80, 81, 7, 82, 9, 38, 39, 24, 25, 36, 83, 84, 85, 86, 31, 22, 87, 23, 33, 88, 89, 90, 56, 91, 58, 92, 93, 94, 95, 32, 96, 97, 98, 99, 100, 43, 101, 45, 102, 103, 104, 105, 52, 49, 106, 107, 108, 109, 110, 111, 34, 35, 30, 112, 113, 114, 115, 47, 50, 51, 116, 117, 118, 119, 120, 121, 122, 123, 124, 125, 126, 127, 128, 129, 130, 131, 132, 133, 134, 135, 61, 136, 137, 138, 139, 60, 140, 141, 142, 143, 37, 144, 145, 146, 147, 148, 149, 150, 67, 151, 70, 69, 71, 73, 74, 157, 158, 159, 160, 161, 162, 163, 164, 165, 166, 167, 168, 169, 170, 171, 175, 176, 177, 178, 179, 180, 181, 182, 183, 184, 185, 186, 187, 188, 189, 190, 191] (by decide +kernel) (by decide +kernel)
set_option maxRecDepth 20000 in
theorem gX7_run_X3_pass : GoodIn wsX7_run (wsV RX7 135 RX3 yX3_pass wsX3_pass) := goodIn_app (goodIn_of _ (by decide +kernel)) ggX7_run_X3_pass
theorem dX7_run_0 : decode cX7_run 0 = .ok (.iload_n 1, 1) := by decide +kernel
theorem dX7_run_1 : decode cX7_run 1 = .ok (.iconst 1, 1) := by decide +kernel
theorem dX7_run_2 : decode cX7_run 2 = .ok (.if_icmp .lt 10, 3) := by decide +kernel
theorem dX7_run_5 : decode cX7_run 5 = .ok (.iload_n 1, 1) := by decide +kernel
theorem dX7_run_6 : decode cX7_run 6 = .ok (.sipush 1000, 3) := by decide +kernel
theorem dX7_run_9 : decode cX7_run 9 = .ok (.if_icmp .le 5, 3) := by decide +kernel
theorem dX7_run_12 : decode cX7_run 12 = .ok (.iconst (-1), 1) := by decide +kernel
theorem dX7_run_13 : decode cX7_run 13 = .ok (.ireturn, 1) := by decide +kernel
theorem dX7_run_14 : decode cX7_run 14 = .ok (.iload_n 1, 1) := by decide +kernel
theorem dX7_run_15 : decode cX7_run 15 = .ok (.aload_n 0, 1) := by decide +kernel
theorem dX7_run_16 : decode cX7_run 16 = .ok (.getfield 10, 3) := by decide +kernel
theorem dX7_run_19 : decode cX7_run 19 = .ok (.invokevirtual 131, 3) := by decide +kernel
theorem dX7_run_22 : decode cX7_run 22 = .ok (.if_icmp .le 6, 3) := by decide +kernel
theorem dX7_run_25 : decode cX7_run 25 = .ok (.bipush (-3), 2) := by decide +kernel
theorem dX7_run_27 : decode cX7_run 27 = .ok (.ireturn, 1) := by decide +kernel
theorem dX7_run_28 : decode cX7_run 28 = .ok (.aload_n 0, 1) := by decide +kernel
theorem dX7_run_29 : decode cX7_run 29 = .ok (.getfield 22, 3) := by decide +kernel
theorem dX7_run_32 : decode cX7_run 32 = .ok (.aload_n 0, 1) := by decide +kernel
theorem dX7_run_33 : decode cX7_run 33 = .ok (.getfield 10, 3) := by decide +kernel
theorem dX7_run_36 : decode cX7_run 36 = .ok (.invokevirtual 54, 3) := by decide +kernel
theorem dX7_run_39 : decode cX7_run 39 = .ok (.aload_n 0, 1) := by decide +kernel
theorem dX7_run_40 : decode cX7_run 40 = .ok (.getfield 10, 3) := by decide +kernel
theorem dX7_run_43 : decode cX7_run 43 = .ok (.iload_n 1, 1) := by decide +kernel
theorem dX7_run_44 : decode cX7_run 44 = .ok (.invokevirtual 135, 3) := by decide +kernel
theorem dX7_run_47 : decode cX7_run 47 = .ok (.aload_n 0, 1) := by decide +kernel
theorem dX7_run_48 : decode cX7_run 48 = .ok (.getfield 10, 3) := by decide +kernel
theorem dX7_run_51 : decode cX7_run 51 = .ok (.getfield 138, 3) := by decide +kernel
theorem dX7_run_54 : decode cX7_run 54 = .ok (.ireturn, 1) := by decide +kernel
set_option maxRecDepth 20000 in
theorem ggX7_count_X2_stuckOnes : GoodIn wsX7_count wsX2_stuckOnes := goodIn_r _ [27, 28, 66, 67, 68, 69, 70] (by decide +kernel) (by decide +kernel)
set_option maxRecDepth 20000 in
theorem gX7_count_X2_stuckOnes : GoodIn wsX7_count (wsV RX7 174 RX2 yX2_stuckOnes wsX2_stuckOnes) := goodIn_app (goodIn_of _ (by decide +kernel)) ggX7_count_X2_stuckOnes
theorem dX7_count_0 : decode cX7_count 0 = .ok (.iload_n 1, 1) := by decide +kernel
theorem dX7_count_1 : decode cX7_count 1 = .ok (.ifCond .lt 19, 3) := by decide +kernel
theorem dX7_count_4 : decode cX7_count 4 = .ok (.iload_n 1, 1) := by decide +kernel
theorem dX7_count_5 : decode cX7_count 5 = .ok (.bipush 8, 2) := by decide +kernel
theorem dX7_count_7 : decode cX7_count 7 = .ok (.if_icmp .ge 13, 3) := by decide +kernel
theorem dX7_count_10 : decode cX7_count 10 = .ok (.aload_n 0, 1) := by decide +kernel
theorem dX7_count_11 : decode cX7_count 11 = .ok (.getfield 10, 3) := by decide +kernel
theorem dX7_count_14 : decode cX7_count 14 = .ok (.getfield 112, 3) := by decide +kernel
theorem dX7_count_17 : decode cX7_count 17 = .ok (.iload_n 1, 1) := by decide +kernel
theorem dX7_count_18 : decode cX7_count 18 = .ok (.iaload, 1) := by decide +kernel
theorem dX7_count_19 : decode cX7_count 19 = .ok (.ireturn, 1) := by decide +kernel
theorem dX7_count_20 : decode cX7_count 20 = .ok (.iload_n 1, 1) := by decide +kernel
theorem dX7_count_21 : decode cX7_count 21 = .ok (.tableswitch 222 8 23 #[79, 90, 101, 109, 117, 125, 133, 141, 149, 160, 171, 179, 187, 195, 206, 214], 79) := by decide +kernel
theorem dX7_count_100 : decode cX7_count 100 = .ok (.aload_n 0, 1) := by decide +kernel
theorem dX7_count_101 : decode cX7_count 101 = .ok (.getfield 10, 3) := by decide +kernel
theorem dX7_count_104 : decode cX7_count 104 = .ok (.getfield 46, 3) := by decide +kernel
theorem dX7_count_107 : decode cX7_count 107 = .ok (.getfield 62, 3) := by decide +kernel
theorem dX7_count_110 : decode cX7_count 110 = .ok (.ireturn, 1) := by decide +kernel
theorem dX7_count_111 : decode cX7_count 111 = .ok (.aload_n 0, 1) := by decide +kernel
theorem dX7_count_112 : decode cX7_count 112 = .ok (.getfield 10, 3) := by decide +kernel
theorem dX7_count_115 : decode cX7_count 115 = .ok (.getfield 46, 3) := by decide +kernel
theorem dX7_count_118 : decode cX7_count 118 = .ok (.getfield 89, 3) := by decide +kernel
theorem dX7_count_121 : decode cX7_count 121 = .ok (.ireturn, 1) := by decide +kernel
theorem dX7_count_122 : decode cX7_count 122 = .ok (.aload_n 0, 1) := by decide +kernel
theorem dX7_count_123 : decode cX7_count 123 = .ok (.getfield 10, 3) := by decide +kernel
theorem dX7_count_126 : decode cX7_count 126 = .ok (.getfield 82, 3) := by decide +kernel
theorem dX7_count_129 : decode cX7_count 129 = .ok (.ireturn, 1) := by decide +kernel
theorem dX7_count_130 : decode cX7_count 130 = .ok (.aload_n 0, 1) := by decide +kernel
theorem dX7_count_131 : decode cX7_count 131 = .ok (.getfield 10, 3) := by decide +kernel
theorem dX7_count_134 : decode cX7_count 134 = .ok (.getfield 141, 3) := by decide +kernel
theorem dX7_count_137 : decode cX7_count 137 = .ok (.ireturn, 1) := by decide +kernel
theorem dX7_count_138 : decode cX7_count 138 = .ok (.aload_n 0, 1) := by decide +kernel
theorem dX7_count_139 : decode cX7_count 139 = .ok (.getfield 10, 3) := by decide +kernel
theorem dX7_count_142 : decode cX7_count 142 = .ok (.getfield 144, 3) := by decide +kernel
theorem dX7_count_145 : decode cX7_count 145 = .ok (.ireturn, 1) := by decide +kernel
theorem dX7_count_146 : decode cX7_count 146 = .ok (.aload_n 0, 1) := by decide +kernel
theorem dX7_count_147 : decode cX7_count 147 = .ok (.getfield 10, 3) := by decide +kernel
theorem dX7_count_150 : decode cX7_count 150 = .ok (.getfield 147, 3) := by decide +kernel
theorem dX7_count_153 : decode cX7_count 153 = .ok (.ireturn, 1) := by decide +kernel
theorem dX7_count_154 : decode cX7_count 154 = .ok (.aload_n 0, 1) := by decide +kernel
theorem dX7_count_155 : decode cX7_count 155 = .ok (.getfield 10, 3) := by decide +kernel
theorem dX7_count_158 : decode cX7_count 158 = .ok (.getfield 150, 3) := by decide +kernel
theorem dX7_count_161 : decode cX7_count 161 = .ok (.ireturn, 1) := by decide +kernel
theorem dX7_count_162 : decode cX7_count 162 = .ok (.aload_n 0, 1) := by decide +kernel
theorem dX7_count_163 : decode cX7_count 163 = .ok (.getfield 10, 3) := by decide +kernel
theorem dX7_count_166 : decode cX7_count 166 = .ok (.getfield 138, 3) := by decide +kernel
theorem dX7_count_169 : decode cX7_count 169 = .ok (.ireturn, 1) := by decide +kernel
theorem dX7_count_170 : decode cX7_count 170 = .ok (.aload_n 0, 1) := by decide +kernel
theorem dX7_count_171 : decode cX7_count 171 = .ok (.getfield 10, 3) := by decide +kernel
theorem dX7_count_174 : decode cX7_count 174 = .ok (.getfield 153, 3) := by decide +kernel
theorem dX7_count_177 : decode cX7_count 177 = .ok (.getfield 157, 3) := by decide +kernel
theorem dX7_count_180 : decode cX7_count 180 = .ok (.ireturn, 1) := by decide +kernel
theorem dX7_count_181 : decode cX7_count 181 = .ok (.aload_n 0, 1) := by decide +kernel
theorem dX7_count_182 : decode cX7_count 182 = .ok (.getfield 10, 3) := by decide +kernel
theorem dX7_count_185 : decode cX7_count 185 = .ok (.getfield 153, 3) := by decide +kernel
theorem dX7_count_188 : decode cX7_count 188 = .ok (.getfield 162, 3) := by decide +kernel
theorem dX7_count_191 : decode cX7_count 191 = .ok (.ireturn, 1) := by decide +kernel
theorem dX7_count_192 : decode cX7_count 192 = .ok (.aload_n 0, 1) := by decide +kernel
theorem dX7_count_193 : decode cX7_count 193 = .ok (.getfield 10, 3) := by decide +kernel
theorem dX7_count_196 : decode cX7_count 196 = .ok (.getfield 165, 3) := by decide +kernel
theorem dX7_count_199 : decode cX7_count 199 = .ok (.ireturn, 1) := by decide +kernel
theorem dX7_count_200 : decode cX7_count 200 = .ok (.aload_n 0, 1) := by decide +kernel
theorem dX7_count_201 : decode cX7_count 201 = .ok (.getfield 10, 3) := by decide +kernel
theorem dX7_count_204 : decode cX7_count 204 = .ok (.getfield 168, 3) := by decide +kernel
theorem dX7_count_207 : decode cX7_count 207 = .ok (.ireturn, 1) := by decide +kernel
theorem dX7_count_208 : decode cX7_count 208 = .ok (.aload_n 0, 1) := by decide +kernel
theorem dX7_count_209 : decode cX7_count 209 = .ok (.getfield 10, 3) := by decide +kernel
theorem dX7_count_212 : decode cX7_count 212 = .ok (.getfield 171, 3) := by decide +kernel
theorem dX7_count_215 : decode cX7_count 215 = .ok (.ireturn, 1) := by decide +kernel
theorem dX7_count_216 : decode cX7_count 216 = .ok (.aload_n 0, 1) := by decide +kernel
theorem dX7_count_217 : decode cX7_count 217 = .ok (.getfield 10, 3) := by decide +kernel
theorem dX7_count_220 : decode cX7_count 220 = .ok (.getfield 117, 3) := by decide +kernel
theorem dX7_count_223 : decode cX7_count 223 = .ok (.invokevirtual 174, 3) := by decide +kernel
theorem dX7_count_226 : decode cX7_count 226 = .ok (.ireturn, 1) := by decide +kernel
theorem dX7_count_227 : decode cX7_count 227 = .ok (.aload_n 0, 1) := by decide +kernel
theorem dX7_count_228 : decode cX7_count 228 = .ok (.getfield 22, 3) := by decide +kernel
theorem dX7_count_231 : decode cX7_count 231 = .ok (.getfield 102, 3) := by decide +kernel
theorem dX7_count_234 : decode cX7_count 234 = .ok (.ireturn, 1) := by decide +kernel
theorem dX7_count_235 : decode cX7_count 235 = .ok (.aload_n 0, 1) := by decide +kernel
theorem dX7_count_236 : decode cX7_count 236 = .ok (.getfield 29, 3) := by decide +kernel
theorem dX7_count_239 : decode cX7_count 239 = .ok (.getfield 177, 3) := by decide +kernel
theorem dX7_count_242 : decode cX7_count 242 = .ok (.ireturn, 1) := by decide +kernel
theorem dX7_count_243 : decode cX7_count 243 = .ok (.iconst (-1), 1) := by decide +kernel
theorem dX7_count_244 : decode cX7_count 244 = .ok (.ireturn, 1) := by decide +kernel
theorem dX7_account_0 : decode cX7_account 0 = .ok (.iload_n 1, 1) := by decide +kernel
theorem dX7_account_1 : decode cX7_account 1 = .ok (.ifCond .lt 9, 3) := by decide +kernel
theorem dX7_account_4 : decode cX7_account 4 = .ok (.iload_n 1, 1) := by decide +kernel
theorem dX7_account_5 : decode cX7_account 5 = .ok (.bipush 7, 2) := by decide +kernel
theorem dX7_account_7 : decode cX7_account 7 = .ok (.if_icmp .lt 5, 3) := by decide +kernel
theorem dX7_account_10 : decode cX7_account 10 = .ok (.iconst (-1), 1) := by decide +kernel
theorem dX7_account_11 : decode cX7_account 11 = .ok (.ireturn, 1) := by decide +kernel
theorem dX7_account_12 : decode cX7_account 12 = .ok (.aload_n 0, 1) := by decide +kernel
theorem dX7_account_13 : decode cX7_account 13 = .ok (.getfield 10, 3) := by decide +kernel
theorem dX7_account_16 : decode cX7_account 16 = .ok (.getfield 180, 3) := by decide +kernel
theorem dX7_account_19 : decode cX7_account 19 = .ok (.iload_n 1, 1) := by decide +kernel
theorem dX7_account_20 : decode cX7_account 20 = .ok (.iaload, 1) := by decide +kernel
theorem dX7_account_21 : decode cX7_account 21 = .ok (.ireturn, 1) := by decide +kernel
theorem dX7_line_0 : decode cX7_line 0 = .ok (.iload_n 1, 1) := by decide +kernel
theorem dX7_line_1 : decode cX7_line 1 = .ok (.ifCond .lt 8, 3) := by decide +kernel
theorem dX7_line_4 : decode cX7_line 4 = .ok (.iload_n 1, 1) := by decide +kernel
theorem dX7_line_5 : decode cX7_line 5 = .ok (.iconst 4, 1) := by decide +kernel
theorem dX7_line_6 : decode cX7_line 6 = .ok (.if_icmp .lt 5, 3) := by decide +kernel
theorem dX7_line_9 : decode cX7_line 9 = .ok (.iconst (-1), 1) := by decide +kernel
theorem dX7_line_10 : decode cX7_line 10 = .ok (.ireturn, 1) := by decide +kernel
theorem dX7_line_11 : decode cX7_line 11 = .ok (.iload_n 2, 1) := by decide +kernel
theorem dX7_line_12 : decode cX7_line 12 = .ok (.tableswitch 101 0 4 #[36, 49, 62, 75, 88], 36) := by decide +kernel
theorem dX7_line_48 : decode cX7_line 48 = .ok (.aload_n 0, 1) := by decide +kernel
theorem dX7_line_49 : decode cX7_line 49 = .ok (.getfield 10, 3) := by decide +kernel
theorem dX7_line_52 : decode cX7_line 52 = .ok (.getfield 117, 3) := by decide +kernel
theorem dX7_line_55 : decode cX7_line 55 = .ok (.getfield 121, 3) := by decide +kernel
theorem dX7_line_58 : decode cX7_line 58 = .ok (.iload_n 1, 1) := by decide +kernel
theorem dX7_line_59 : decode cX7_line 59 = .ok (.iaload, 1) := by decide +kernel
theorem dX7_line_60 : decode cX7_line 60 = .ok (.ireturn, 1) := by decide +kernel
theorem dX7_line_61 : decode cX7_line 61 = .ok (.aload_n 0, 1) := by decide +kernel
theorem dX7_line_62 : decode cX7_line 62 = .ok (.getfield 10, 3) := by decide +kernel
theorem dX7_line_65 : decode cX7_line 65 = .ok (.getfield 117, 3) := by decide +kernel
theorem dX7_line_68 : decode cX7_line 68 = .ok (.getfield 124, 3) := by decide +kernel
theorem dX7_line_71 : decode cX7_line 71 = .ok (.iload_n 1, 1) := by decide +kernel
theorem dX7_line_72 : decode cX7_line 72 = .ok (.iaload, 1) := by decide +kernel
theorem dX7_line_73 : decode cX7_line 73 = .ok (.ireturn, 1) := by decide +kernel
theorem dX7_line_74 : decode cX7_line 74 = .ok (.aload_n 0, 1) := by decide +kernel
theorem dX7_line_75 : decode cX7_line 75 = .ok (.getfield 10, 3) := by decide +kernel
theorem dX7_line_78 : decode cX7_line 78 = .ok (.getfield 117, 3) := by decide +kernel
theorem dX7_line_81 : decode cX7_line 81 = .ok (.getfield 183, 3) := by decide +kernel
theorem dX7_line_84 : decode cX7_line 84 = .ok (.iload_n 1, 1) := by decide +kernel
theorem dX7_line_85 : decode cX7_line 85 = .ok (.iaload, 1) := by decide +kernel
theorem dX7_line_86 : decode cX7_line 86 = .ok (.ireturn, 1) := by decide +kernel
theorem dX7_line_87 : decode cX7_line 87 = .ok (.aload_n 0, 1) := by decide +kernel
theorem dX7_line_88 : decode cX7_line 88 = .ok (.getfield 10, 3) := by decide +kernel
theorem dX7_line_91 : decode cX7_line 91 = .ok (.getfield 117, 3) := by decide +kernel
theorem dX7_line_94 : decode cX7_line 94 = .ok (.getfield 186, 3) := by decide +kernel
theorem dX7_line_97 : decode cX7_line 97 = .ok (.iload_n 1, 1) := by decide +kernel
theorem dX7_line_98 : decode cX7_line 98 = .ok (.iaload, 1) := by decide +kernel
theorem dX7_line_99 : decode cX7_line 99 = .ok (.ireturn, 1) := by decide +kernel
theorem dX7_line_100 : decode cX7_line 100 = .ok (.aload_n 0, 1) := by decide +kernel
theorem dX7_line_101 : decode cX7_line 101 = .ok (.getfield 10, 3) := by decide +kernel
theorem dX7_line_104 : decode cX7_line 104 = .ok (.getfield 117, 3) := by decide +kernel
theorem dX7_line_107 : decode cX7_line 107 = .ok (.getfield 189, 3) := by decide +kernel
theorem dX7_line_110 : decode cX7_line 110 = .ok (.iload_n 1, 1) := by decide +kernel
theorem dX7_line_111 : decode cX7_line 111 = .ok (.iaload, 1) := by decide +kernel
theorem dX7_line_112 : decode cX7_line 112 = .ok (.ireturn, 1) := by decide +kernel
theorem dX7_line_113 : decode cX7_line 113 = .ok (.iconst (-1), 1) := by decide +kernel
theorem dX7_line_114 : decode cX7_line 114 = .ok (.ireturn, 1) := by decide +kernel
set_option maxRecDepth 20000 in
theorem ggX7_again_X3_drawn : GoodIn wsX7_again wsX3_drawn := goodIn_r _ [12, 13, 28, 29, 30, 31, 32, 33, 34, 35, 36, 37, 38, 39, 40, 41, 42] (by decide +kernel) (by decide +kernel)
set_option maxRecDepth 20000 in
theorem gX7_again_X3_drawn : GoodIn wsX7_again (wsV RX7 192 RX3 yX3_drawn wsX3_drawn) := goodIn_app (goodIn_of _ (by decide +kernel)) ggX7_again_X3_drawn
set_option maxRecDepth 20000 in
theorem ggX7_again_X0_depthOf : GoodIn wsX7_again wsX0_depthOf := goodIn_r _ [18, 19, 20, 21, 22, 5, 6, 7, 43, 44, 45, 46, 47, 48, 49] (by decide +kernel) (by decide +kernel)
set_option maxRecDepth 20000 in
theorem gX7_again_X0_depthOf : GoodIn wsX7_again (wsV RX7 194 RX0 yX0_depthOf wsX0_depthOf) := goodIn_app (goodIn_of _ (by decide +kernel)) ggX7_again_X0_depthOf
theorem dX7_again_0 : decode cX7_again 0 = .ok (.aload_n 0, 1) := by decide +kernel
theorem dX7_again_1 : decode cX7_again 1 = .ok (.getfield 10, 3) := by decide +kernel
theorem dX7_again_4 : decode cX7_again 4 = .ok (.getfield 46, 3) := by decide +kernel
theorem dX7_again_7 : decode cX7_again 7 = .ok (.aload_n 0, 1) := by decide +kernel
theorem dX7_again_8 : decode cX7_again 8 = .ok (.getfield 10, 3) := by decide +kernel
theorem dX7_again_11 : decode cX7_again 11 = .ok (.invokevirtual 192, 3) := by decide +kernel
theorem dX7_again_14 : decode cX7_again 14 = .ok (.invokevirtual 194, 3) := by decide +kernel
theorem dX7_again_17 : decode cX7_again 17 = .ok (.aload_n 0, 1) := by decide +kernel
theorem dX7_again_18 : decode cX7_again 18 = .ok (.getfield 10, 3) := by decide +kernel
theorem dX7_again_21 : decode cX7_again 21 = .ok (.getfield 82, 3) := by decide +kernel
theorem dX7_again_24 : decode cX7_again 24 = .ok (.invokestatic 197, 3) := by decide +kernel
theorem dX7_again_27 : decode cX7_again 27 = .ok (.ireturn, 1) := by decide +kernel
theorem dX7_vial_0 : decode cX7_vial 0 = .ok (.iload_n 1, 1) := by decide +kernel
theorem dX7_vial_1 : decode cX7_vial 1 = .ok (.ifCond .lt 17, 3) := by decide +kernel
theorem dX7_vial_4 : decode cX7_vial 4 = .ok (.iload_n 1, 1) := by decide +kernel
theorem dX7_vial_5 : decode cX7_vial 5 = .ok (.aload_n 0, 1) := by decide +kernel
theorem dX7_vial_6 : decode cX7_vial 6 = .ok (.getfield 10, 3) := by decide +kernel
theorem dX7_vial_9 : decode cX7_vial 9 = .ok (.getfield 153, 3) := by decide +kernel
theorem dX7_vial_12 : decode cX7_vial 12 = .ok (.getfield 157, 3) := by decide +kernel
theorem dX7_vial_15 : decode cX7_vial 15 = .ok (.if_icmp .lt 5, 3) := by decide +kernel
theorem dX7_vial_18 : decode cX7_vial 18 = .ok (.iconst (-1), 1) := by decide +kernel
theorem dX7_vial_19 : decode cX7_vial 19 = .ok (.ireturn, 1) := by decide +kernel
theorem dX7_vial_20 : decode cX7_vial 20 = .ok (.iload_n 2, 1) := by decide +kernel
theorem dX7_vial_21 : decode cX7_vial 21 = .ok (.tableswitch 93 0 3 #[31, 44, 57, 80], 31) := by decide +kernel
theorem dX7_vial_52 : decode cX7_vial 52 = .ok (.aload_n 0, 1) := by decide +kernel
theorem dX7_vial_53 : decode cX7_vial 53 = .ok (.getfield 10, 3) := by decide +kernel
theorem dX7_vial_56 : decode cX7_vial 56 = .ok (.getfield 153, 3) := by decide +kernel
theorem dX7_vial_59 : decode cX7_vial 59 = .ok (.getfield 202, 3) := by decide +kernel
theorem dX7_vial_62 : decode cX7_vial 62 = .ok (.iload_n 1, 1) := by decide +kernel
theorem dX7_vial_63 : decode cX7_vial 63 = .ok (.iaload, 1) := by decide +kernel
theorem dX7_vial_64 : decode cX7_vial 64 = .ok (.ireturn, 1) := by decide +kernel
theorem dX7_vial_65 : decode cX7_vial 65 = .ok (.aload_n 0, 1) := by decide +kernel
theorem dX7_vial_66 : decode cX7_vial 66 = .ok (.getfield 10, 3) := by decide +kernel
theorem dX7_vial_69 : decode cX7_vial 69 = .ok (.getfield 153, 3) := by decide +kernel
theorem dX7_vial_72 : decode cX7_vial 72 = .ok (.getfield 205, 3) := by decide +kernel
theorem dX7_vial_75 : decode cX7_vial 75 = .ok (.iload_n 1, 1) := by decide +kernel
theorem dX7_vial_76 : decode cX7_vial 76 = .ok (.iaload, 1) := by decide +kernel
theorem dX7_vial_77 : decode cX7_vial 77 = .ok (.ireturn, 1) := by decide +kernel
theorem dX7_vial_78 : decode cX7_vial 78 = .ok (.iload_n 1, 1) := by decide +kernel
theorem dX7_vial_79 : decode cX7_vial 79 = .ok (.ifCond .ne 7, 3) := by decide +kernel
theorem dX7_vial_82 : decode cX7_vial 82 = .ok (.iconst 0, 1) := by decide +kernel
theorem dX7_vial_83 : decode cX7_vial 83 = .ok (.goto 17, 3) := by decide +kernel
theorem dX7_vial_86 : decode cX7_vial 86 = .ok (.aload_n 0, 1) := by decide +kernel
theorem dX7_vial_87 : decode cX7_vial 87 = .ok (.getfield 10, 3) := by decide +kernel
theorem dX7_vial_90 : decode cX7_vial 90 = .ok (.getfield 153, 3) := by decide +kernel
theorem dX7_vial_93 : decode cX7_vial 93 = .ok (.getfield 205, 3) := by decide +kernel
theorem dX7_vial_96 : decode cX7_vial 96 = .ok (.iload_n 1, 1) := by decide +kernel
theorem dX7_vial_97 : decode cX7_vial 97 = .ok (.iconst 1, 1) := by decide +kernel
theorem dX7_vial_98 : decode cX7_vial 98 = .ok (.isub, 1) := by decide +kernel
theorem dX7_vial_99 : decode cX7_vial 99 = .ok (.iaload, 1) := by decide +kernel
theorem dX7_vial_100 : decode cX7_vial 100 = .ok (.ireturn, 1) := by decide +kernel
theorem dX7_vial_101 : decode cX7_vial 101 = .ok (.aload_n 0, 1) := by decide +kernel
theorem dX7_vial_102 : decode cX7_vial 102 = .ok (.getfield 10, 3) := by decide +kernel
theorem dX7_vial_105 : decode cX7_vial 105 = .ok (.getfield 153, 3) := by decide +kernel
theorem dX7_vial_108 : decode cX7_vial 108 = .ok (.getfield 208, 3) := by decide +kernel
theorem dX7_vial_111 : decode cX7_vial 111 = .ok (.iload_n 1, 1) := by decide +kernel
theorem dX7_vial_112 : decode cX7_vial 112 = .ok (.iaload, 1) := by decide +kernel
theorem dX7_vial_113 : decode cX7_vial 113 = .ok (.ireturn, 1) := by decide +kernel
theorem dX7_vial_114 : decode cX7_vial 114 = .ok (.iconst (-1), 1) := by decide +kernel
theorem dX7_vial_115 : decode cX7_vial 115 = .ok (.ireturn, 1) := by decide +kernel
set_option maxRecDepth 20000 in
theorem ggX7_vialAt_X6_firstBeyond : GoodIn wsX7_vialAt wsX6_firstBeyond := goodIn_r _ [8, 9, 10, 31, 32, 33, 34, 35] (by decide +kernel) (by decide +kernel)
set_option maxRecDepth 20000 in
theorem gX7_vialAt_X6_firstBeyond : GoodIn wsX7_vialAt (wsV RX7 210 RX6 yX6_firstBeyond wsX6_firstBeyond) := goodIn_app (goodIn_of _ (by decide +kernel)) ggX7_vialAt_X6_firstBeyond
theorem dX7_vialAt_0 : decode cX7_vialAt 0 = .ok (.iload_n 1, 1) := by decide +kernel
theorem dX7_vialAt_1 : decode cX7_vialAt 1 = .ok (.ifCond .ge 5, 3) := by decide +kernel
theorem dX7_vialAt_4 : decode cX7_vialAt 4 = .ok (.iconst (-1), 1) := by decide +kernel
theorem dX7_vialAt_5 : decode cX7_vialAt 5 = .ok (.ireturn, 1) := by decide +kernel
theorem dX7_vialAt_6 : decode cX7_vialAt 6 = .ok (.aload_n 0, 1) := by decide +kernel
theorem dX7_vialAt_7 : decode cX7_vialAt 7 = .ok (.getfield 10, 3) := by decide +kernel
theorem dX7_vialAt_10 : decode cX7_vialAt 10 = .ok (.getfield 153, 3) := by decide +kernel
theorem dX7_vialAt_13 : decode cX7_vialAt 13 = .ok (.iload_n 1, 1) := by decide +kernel
theorem dX7_vialAt_14 : decode cX7_vialAt 14 = .ok (.invokevirtual 210, 3) := by decide +kernel
theorem dX7_vialAt_17 : decode cX7_vialAt 17 = .ok (.istore_n 2, 1) := by decide +kernel
theorem dX7_vialAt_18 : decode cX7_vialAt 18 = .ok (.iload_n 2, 1) := by decide +kernel
theorem dX7_vialAt_19 : decode cX7_vialAt 19 = .ok (.aload_n 0, 1) := by decide +kernel
theorem dX7_vialAt_20 : decode cX7_vialAt 20 = .ok (.getfield 10, 3) := by decide +kernel
theorem dX7_vialAt_23 : decode cX7_vialAt 23 = .ok (.getfield 153, 3) := by decide +kernel
theorem dX7_vialAt_26 : decode cX7_vialAt 26 = .ok (.getfield 157, 3) := by decide +kernel
theorem dX7_vialAt_29 : decode cX7_vialAt 29 = .ok (.if_icmp .ge 7, 3) := by decide +kernel
theorem dX7_vialAt_32 : decode cX7_vialAt 32 = .ok (.iload_n 2, 1) := by decide +kernel
theorem dX7_vialAt_33 : decode cX7_vialAt 33 = .ok (.goto 5, 3) := by decide +kernel
theorem dX7_vialAt_36 : decode cX7_vialAt 36 = .ok (.bipush (-4), 2) := by decide +kernel
theorem dX7_vialAt_38 : decode cX7_vialAt 38 = .ok (.ireturn, 1) := by decide +kernel
set_option maxRecDepth 20000 in
theorem ggX7_ifRun_X3_ticksLeft : GoodIn wsX7_ifRun wsX3_ticksLeft := goodIn_r _ [14, 15, 156, 157, 158, 159, 160, 161, 162, 163, 164, 165, 166, 167, 168, 169, 170] (by decide +kernel) (by decide +kernel)
set_option maxRecDepth 20000 in
theorem gX7_ifRun_X3_ticksLeft : GoodIn wsX7_ifRun (wsV RX7 131 RX3 yX3_ticksLeft wsX3_ticksLeft) := goodIn_app (goodIn_of _ (by decide +kernel)) ggX7_ifRun_X3_ticksLeft
set_option maxRecDepth 20000 in
theorem ggX7_ifRun_X3_copyFrom : GoodIn wsX7_ifRun wsX3_copyFrom := goodIn_r _ [19, 20, 21, 22, 23, 24, 25, 26, 27, 28, 29, 30, 31, 32, 33, 34, 35, 15, 36, 37, 38, 39, 40, 41, 42, 43, 44, 45, 46, 47, 48, 49, 50, 51, 52, 53, 54, 55, 56, 57, 58, 59, 60, 61, 62, 63, 64, 65, 66, 67, 68, 69, 70, 71, 72, 156, 157, 158, 159, 160, 161, 162, 163, 164, 165, 166, 167, 168, 169, 170, 176, 177, 178, 179, 180, 181, 182, 183, 184, 185, 186, 187, 171, 172, 173, 174, 175] (by decide +kernel) (by decide +kernel)
set_option maxRecDepth 20000 in
theorem gX7_ifRun_X3_copyFrom : GoodIn wsX7_ifRun (wsV RX7 213 RX3 yX3_copyFrom wsX3_copyFrom) := goodIn_app (goodIn_of _ (by decide +kernel)) ggX7_ifRun_X3_copyFrom
set_option maxRecDepth 20000 in
theorem ggX7_ifRun_X3_pass : GoodIn wsX7_ifRun wsX3_pass := goodIn_r _ [76, 77, 78, 79, 13, 80, 15, 36, 37, 22, 23, 34, 81, 82, 83, 84, 29, 20, 85, 21, 31, 86, 87, 88, 54, 89, 56, 90, 91, 92, 93, 30, 94, 95, 96, 97, 98, 41, 99, 43, 100, 101, 102, 103, 50, 47, 104, 105, 106, 107, 108, 109, 32, 33, 28, 110, 111, 112, 113, 45, 48, 49, 114, 115, 116, 117, 118, 119, 120, 121, 122, 123, 124, 125, 126, 127, 128, 129, 130, 131, 132, 133, 59, 134, 135, 136, 137, 58, 138, 139, 140, 141, 35, 142, 143, 144, 145, 146, 147, 148, 65, 149, 68, 67, 69, 71, 72, 156, 157, 158, 159, 160, 161, 162, 163, 164, 165, 166, 167, 168, 169, 170, 176, 177, 178, 179, 180, 181, 182, 183, 184, 185, 186, 187, 171, 172, 173, 174, 175] (by decide +kernel) (by decide +kernel)
set_option maxRecDepth 20000 in
theorem gX7_ifRun_X3_pass : GoodIn wsX7_ifRun (wsV RX7 135 RX3 yX3_pass wsX3_pass) := goodIn_app (goodIn_of _ (by decide +kernel)) ggX7_ifRun_X3_pass
set_option maxRecDepth 20000 in
theorem ggX7_ifRun_X2_stuckOnes : GoodIn wsX7_ifRun wsX2_stuckOnes := goodIn_r _ [89, 56, 183, 184, 185, 186, 187] (by decide +kernel) (by decide +kernel)
set_option maxRecDepth 20000 in
theorem gX7_ifRun_X2_stuckOnes : GoodIn wsX7_ifRun (wsV RX7 174 RX2 yX2_stuckOnes wsX2_stuckOnes) := goodIn_app (goodIn_of _ (by decide +kernel)) ggX7_ifRun_X2_stuckOnes
theorem dX7_ifRun_0 : decode cX7_ifRun 0 = .ok (.iload_n 1, 1) := by decide +kernel
theorem dX7_ifRun_1 : decode cX7_ifRun 1 = .ok (.iconst 1, 1) := by decide +kernel
theorem dX7_ifRun_2 : decode cX7_ifRun 2 = .ok (.if_icmp .lt 20, 3) := by decide +kernel
theorem dX7_ifRun_5 : decode cX7_ifRun 5 = .ok (.iload_n 1, 1) := by decide +kernel
theorem dX7_ifRun_6 : decode cX7_ifRun 6 = .ok (.sipush 1000, 3) := by decide +kernel
theorem dX7_ifRun_9 : decode cX7_ifRun 9 = .ok (.if_icmp .gt 13, 3) := by decide +kernel
theorem dX7_ifRun_12 : decode cX7_ifRun 12 = .ok (.iload_n 2, 1) := by decide +kernel
theorem dX7_ifRun_13 : decode cX7_ifRun 13 = .ok (.ifCond .lt 9, 3) := by decide +kernel
theorem dX7_ifRun_16 : decode cX7_ifRun 16 = .ok (.iload_n 2, 1) := by decide +kernel
theorem dX7_ifRun_17 : decode cX7_ifRun 17 = .ok (.bipush 6, 2) := by decide +kernel
theorem dX7_ifRun_19 : decode cX7_ifRun 19 = .ok (.if_icmp .le 5, 3) := by decide +kernel
theorem dX7_ifRun_22 : decode cX7_ifRun 22 = .ok (.iconst (-1), 1) := by decide +kernel
theorem dX7_ifRun_23 : decode cX7_ifRun 23 = .ok (.ireturn, 1) := by decide +kernel
theorem dX7_ifRun_24 : decode cX7_ifRun 24 = .ok (.iload_n 1, 1) := by decide +kernel
theorem dX7_ifRun_25 : decode cX7_ifRun 25 = .ok (.aload_n 0, 1) := by decide +kernel
theorem dX7_ifRun_26 : decode cX7_ifRun 26 = .ok (.getfield 10, 3) := by decide +kernel
theorem dX7_ifRun_29 : decode cX7_ifRun 29 = .ok (.invokevirtual 131, 3) := by decide +kernel
theorem dX7_ifRun_32 : decode cX7_ifRun 32 = .ok (.if_icmp .le 6, 3) := by decide +kernel
theorem dX7_ifRun_35 : decode cX7_ifRun 35 = .ok (.bipush (-3), 2) := by decide +kernel
theorem dX7_ifRun_37 : decode cX7_ifRun 37 = .ok (.ireturn, 1) := by decide +kernel
theorem dX7_ifRun_38 : decode cX7_ifRun 38 = .ok (.aload_n 0, 1) := by decide +kernel
theorem dX7_ifRun_39 : decode cX7_ifRun 39 = .ok (.getfield 16, 3) := by decide +kernel
theorem dX7_ifRun_42 : decode cX7_ifRun 42 = .ok (.aload_n 0, 1) := by decide +kernel
theorem dX7_ifRun_43 : decode cX7_ifRun 43 = .ok (.getfield 10, 3) := by decide +kernel
theorem dX7_ifRun_46 : decode cX7_ifRun 46 = .ok (.invokevirtual 213, 3) := by decide +kernel
theorem dX7_ifRun_49 : decode cX7_ifRun 49 = .ok (.aload_n 0, 1) := by decide +kernel
theorem dX7_ifRun_50 : decode cX7_ifRun 50 = .ok (.getfield 16, 3) := by decide +kernel
theorem dX7_ifRun_53 : decode cX7_ifRun 53 = .ok (.iload_n 1, 1) := by decide +kernel
theorem dX7_ifRun_54 : decode cX7_ifRun 54 = .ok (.invokevirtual 135, 3) := by decide +kernel
theorem dX7_ifRun_57 : decode cX7_ifRun 57 = .ok (.iload_n 2, 1) := by decide +kernel
theorem dX7_ifRun_58 : decode cX7_ifRun 58 = .ok (.tableswitch 127 0 5 #[38, 46, 54, 74, 94, 116], 38) := by decide +kernel
theorem dX7_ifRun_96 : decode cX7_ifRun 96 = .ok (.aload_n 0, 1) := by decide +kernel
theorem dX7_ifRun_97 : decode cX7_ifRun 97 = .ok (.getfield 16, 3) := by decide +kernel
theorem dX7_ifRun_100 : decode cX7_ifRun 100 = .ok (.getfield 138, 3) := by decide +kernel
theorem dX7_ifRun_103 : decode cX7_ifRun 103 = .ok (.ireturn, 1) := by decide +kernel
theorem dX7_ifRun_104 : decode cX7_ifRun 104 = .ok (.aload_n 0, 1) := by decide +kernel
theorem dX7_ifRun_105 : decode cX7_ifRun 105 = .ok (.getfield 16, 3) := by decide +kernel
theorem dX7_ifRun_108 : decode cX7_ifRun 108 = .ok (.getfield 82, 3) := by decide +kernel
theorem dX7_ifRun_111 : decode cX7_ifRun 111 = .ok (.ireturn, 1) := by decide +kernel
theorem dX7_ifRun_112 : decode cX7_ifRun 112 = .ok (.aload_n 0, 1) := by decide +kernel
theorem dX7_ifRun_113 : decode cX7_ifRun 113 = .ok (.getfield 16, 3) := by decide +kernel
theorem dX7_ifRun_116 : decode cX7_ifRun 116 = .ok (.getfield 180, 3) := by decide +kernel
theorem dX7_ifRun_119 : decode cX7_ifRun 119 = .ok (.iconst 1, 1) := by decide +kernel
theorem dX7_ifRun_120 : decode cX7_ifRun 120 = .ok (.iaload, 1) := by decide +kernel
theorem dX7_ifRun_121 : decode cX7_ifRun 121 = .ok (.aload_n 0, 1) := by decide +kernel
theorem dX7_ifRun_122 : decode cX7_ifRun 122 = .ok (.getfield 10, 3) := by decide +kernel
theorem dX7_ifRun_125 : decode cX7_ifRun 125 = .ok (.getfield 180, 3) := by decide +kernel
theorem dX7_ifRun_128 : decode cX7_ifRun 128 = .ok (.iconst 1, 1) := by decide +kernel
theorem dX7_ifRun_129 : decode cX7_ifRun 129 = .ok (.iaload, 1) := by decide +kernel
theorem dX7_ifRun_130 : decode cX7_ifRun 130 = .ok (.isub, 1) := by decide +kernel
theorem dX7_ifRun_131 : decode cX7_ifRun 131 = .ok (.ireturn, 1) := by decide +kernel
theorem dX7_ifRun_132 : decode cX7_ifRun 132 = .ok (.aload_n 0, 1) := by decide +kernel
theorem dX7_ifRun_133 : decode cX7_ifRun 133 = .ok (.getfield 16, 3) := by decide +kernel
theorem dX7_ifRun_136 : decode cX7_ifRun 136 = .ok (.getfield 180, 3) := by decide +kernel
theorem dX7_ifRun_139 : decode cX7_ifRun 139 = .ok (.iconst 2, 1) := by decide +kernel
theorem dX7_ifRun_140 : decode cX7_ifRun 140 = .ok (.iaload, 1) := by decide +kernel
theorem dX7_ifRun_141 : decode cX7_ifRun 141 = .ok (.aload_n 0, 1) := by decide +kernel
theorem dX7_ifRun_142 : decode cX7_ifRun 142 = .ok (.getfield 10, 3) := by decide +kernel
theorem dX7_ifRun_145 : decode cX7_ifRun 145 = .ok (.getfield 180, 3) := by decide +kernel
theorem dX7_ifRun_148 : decode cX7_ifRun 148 = .ok (.iconst 2, 1) := by decide +kernel
theorem dX7_ifRun_149 : decode cX7_ifRun 149 = .ok (.iaload, 1) := by decide +kernel
theorem dX7_ifRun_150 : decode cX7_ifRun 150 = .ok (.isub, 1) := by decide +kernel
theorem dX7_ifRun_151 : decode cX7_ifRun 151 = .ok (.ireturn, 1) := by decide +kernel
theorem dX7_ifRun_152 : decode cX7_ifRun 152 = .ok (.aload_n 0, 1) := by decide +kernel
theorem dX7_ifRun_153 : decode cX7_ifRun 153 = .ok (.getfield 16, 3) := by decide +kernel
theorem dX7_ifRun_156 : decode cX7_ifRun 156 = .ok (.getfield 153, 3) := by decide +kernel
theorem dX7_ifRun_159 : decode cX7_ifRun 159 = .ok (.getfield 157, 3) := by decide +kernel
theorem dX7_ifRun_162 : decode cX7_ifRun 162 = .ok (.aload_n 0, 1) := by decide +kernel
theorem dX7_ifRun_163 : decode cX7_ifRun 163 = .ok (.getfield 10, 3) := by decide +kernel
theorem dX7_ifRun_166 : decode cX7_ifRun 166 = .ok (.getfield 153, 3) := by decide +kernel
theorem dX7_ifRun_169 : decode cX7_ifRun 169 = .ok (.getfield 157, 3) := by decide +kernel
theorem dX7_ifRun_172 : decode cX7_ifRun 172 = .ok (.isub, 1) := by decide +kernel
theorem dX7_ifRun_173 : decode cX7_ifRun 173 = .ok (.ireturn, 1) := by decide +kernel
theorem dX7_ifRun_174 : decode cX7_ifRun 174 = .ok (.aload_n 0, 1) := by decide +kernel
theorem dX7_ifRun_175 : decode cX7_ifRun 175 = .ok (.getfield 16, 3) := by decide +kernel
theorem dX7_ifRun_178 : decode cX7_ifRun 178 = .ok (.getfield 117, 3) := by decide +kernel
theorem dX7_ifRun_181 : decode cX7_ifRun 181 = .ok (.invokevirtual 174, 3) := by decide +kernel
theorem dX7_ifRun_184 : decode cX7_ifRun 184 = .ok (.ireturn, 1) := by decide +kernel
theorem dX7_ifRun_185 : decode cX7_ifRun 185 = .ok (.aload_n 0, 1) := by decide +kernel
theorem dX7_ifRun_186 : decode cX7_ifRun 186 = .ok (.getfield 16, 3) := by decide +kernel
theorem dX7_ifRun_189 : decode cX7_ifRun 189 = .ok (.getfield 171, 3) := by decide +kernel
theorem dX7_ifRun_192 : decode cX7_ifRun 192 = .ok (.aload_n 0, 1) := by decide +kernel
theorem dX7_ifRun_193 : decode cX7_ifRun 193 = .ok (.getfield 10, 3) := by decide +kernel
theorem dX7_ifRun_196 : decode cX7_ifRun 196 = .ok (.getfield 171, 3) := by decide +kernel
theorem dX7_ifRun_199 : decode cX7_ifRun 199 = .ok (.isub, 1) := by decide +kernel
theorem dX7_ifRun_200 : decode cX7_ifRun 200 = .ok (.ireturn, 1) := by decide +kernel
set_option maxRecDepth 20000 in
theorem ggX7_ticksTo_X3_ticksLeft : GoodIn wsX7_ticksTo wsX3_ticksLeft := goodIn_r _ [13, 14, 147, 148, 149, 150, 151, 152, 153, 154, 155, 156, 157, 158, 159, 160, 161] (by decide +kernel) (by decide +kernel)
set_option maxRecDepth 20000 in
theorem gX7_ticksTo_X3_ticksLeft : GoodIn wsX7_ticksTo (wsV RX7 131 RX3 yX3_ticksLeft wsX3_ticksLeft) := goodIn_app (goodIn_of _ (by decide +kernel)) ggX7_ticksTo_X3_ticksLeft
set_option maxRecDepth 20000 in
theorem ggX7_ticksTo_X3_copyFrom : GoodIn wsX7_ticksTo wsX3_copyFrom := goodIn_r _ [18, 19, 20, 21, 22, 23, 24, 25, 26, 27, 28, 29, 30, 31, 32, 33, 34, 14, 35, 36, 37, 38, 39, 40, 41, 42, 43, 44, 45, 46, 47, 48, 49, 50, 51, 52, 53, 54, 55, 56, 57, 58, 59, 60, 61, 62, 63, 64, 65, 66, 67, 68, 69, 70, 71, 147, 148, 149, 150, 151, 152, 153, 154, 155, 156, 157, 158, 159, 160, 161, 162, 163, 164, 165, 166, 167, 168, 169, 170, 171, 172, 173, 174, 175, 176, 177, 178] (by decide +kernel) (by decide +kernel)
set_option maxRecDepth 20000 in
theorem gX7_ticksTo_X3_copyFrom : GoodIn wsX7_ticksTo (wsV RX7 213 RX3 yX3_copyFrom wsX3_copyFrom) := goodIn_app (goodIn_of _ (by decide +kernel)) ggX7_ticksTo_X3_copyFrom
set_option maxRecDepth 20000 in
theorem ggX7_ticksTo_X3_tick : GoodIn wsX7_ticksTo wsX3_tick := goodIn_r _ [75, 14, 35, 36, 21, 22, 33, 76, 77, 78, 12, 79, 28, 19, 80, 20, 30, 81, 82, 83, 53, 84, 55, 85, 86, 87, 88, 29, 89, 90, 91, 92, 93, 40, 94, 42, 95, 96, 97, 98, 49, 46, 99, 100, 101, 102, 103, 104, 31, 32, 27, 105, 106, 107, 108, 44, 47, 48, 109, 110, 111, 112, 113, 114, 115, 116, 117, 3, 4, 5, 118, 119, 120, 121, 122, 123, 124, 125, 58, 126, 127, 128, 129, 57, 130, 131, 132, 133, 34, 134, 135, 136, 137, 138, 139, 140, 64, 141, 67, 66, 68, 70, 71, 147, 148, 149, 150, 151, 152, 153, 154, 155, 156, 157, 158, 159, 160, 161, 162, 163, 164, 165, 166, 167, 168, 169, 170, 171, 172, 173, 174, 175, 176, 177, 178] (by decide +kernel) (by decide +kernel)
set_option maxRecDepth 20000 in
theorem gX7_ticksTo_X3_tick : GoodIn wsX7_ticksTo (wsV RX7 216 RX3 yX3_tick wsX3_tick) := goodIn_app (goodIn_of _ (by decide +kernel)) ggX7_ticksTo_X3_tick
theorem dX7_ticksTo_0 : decode cX7_ticksTo 0 = .ok (.iload_n 1, 1) := by decide +kernel
theorem dX7_ticksTo_1 : decode cX7_ticksTo 1 = .ok (.ifCond .ge 5, 3) := by decide +kernel
theorem dX7_ticksTo_4 : decode cX7_ticksTo 4 = .ok (.iconst (-1), 1) := by decide +kernel
theorem dX7_ticksTo_5 : decode cX7_ticksTo 5 = .ok (.ireturn, 1) := by decide +kernel
theorem dX7_ticksTo_6 : decode cX7_ticksTo 6 = .ok (.sipush 2000, 3) := by decide +kernel
theorem dX7_ticksTo_9 : decode cX7_ticksTo 9 = .ok (.aload_n 0, 1) := by decide +kernel
theorem dX7_ticksTo_10 : decode cX7_ticksTo 10 = .ok (.getfield 10, 3) := by decide +kernel
theorem dX7_ticksTo_13 : decode cX7_ticksTo 13 = .ok (.invokevirtual 131, 3) := by decide +kernel
theorem dX7_ticksTo_16 : decode cX7_ticksTo 16 = .ok (.invokestatic 197, 3) := by decide +kernel
theorem dX7_ticksTo_19 : decode cX7_ticksTo 19 = .ok (.istore_n 2, 1) := by decide +kernel
theorem dX7_ticksTo_20 : decode cX7_ticksTo 20 = .ok (.aload_n 0, 1) := by decide +kernel
theorem dX7_ticksTo_21 : decode cX7_ticksTo 21 = .ok (.getfield 16, 3) := by decide +kernel
theorem dX7_ticksTo_24 : decode cX7_ticksTo 24 = .ok (.aload_n 0, 1) := by decide +kernel
theorem dX7_ticksTo_25 : decode cX7_ticksTo 25 = .ok (.getfield 10, 3) := by decide +kernel
theorem dX7_ticksTo_28 : decode cX7_ticksTo 28 = .ok (.invokevirtual 213, 3) := by decide +kernel
theorem dX7_ticksTo_31 : decode cX7_ticksTo 31 = .ok (.iconst 0, 1) := by decide +kernel
theorem dX7_ticksTo_32 : decode cX7_ticksTo 32 = .ok (.istore_n 3, 1) := by decide +kernel
theorem dX7_ticksTo_33 : decode cX7_ticksTo 33 = .ok (.iload_n 3, 1) := by decide +kernel
theorem dX7_ticksTo_34 : decode cX7_ticksTo 34 = .ok (.iload_n 2, 1) := by decide +kernel
theorem dX7_ticksTo_35 : decode cX7_ticksTo 35 = .ok (.if_icmp .ge 27, 3) := by decide +kernel
theorem dX7_ticksTo_38 : decode cX7_ticksTo 38 = .ok (.aload_n 0, 1) := by decide +kernel
theorem dX7_ticksTo_39 : decode cX7_ticksTo 39 = .ok (.getfield 16, 3) := by decide +kernel
theorem dX7_ticksTo_42 : decode cX7_ticksTo 42 = .ok (.getfield 138, 3) := by decide +kernel
theorem dX7_ticksTo_45 : decode cX7_ticksTo 45 = .ok (.iload_n 1, 1) := by decide +kernel
theorem dX7_ticksTo_46 : decode cX7_ticksTo 46 = .ok (.if_icmp .ge 16, 3) := by decide +kernel
theorem dX7_ticksTo_49 : decode cX7_ticksTo 49 = .ok (.aload_n 0, 1) := by decide +kernel
theorem dX7_ticksTo_50 : decode cX7_ticksTo 50 = .ok (.getfield 16, 3) := by decide +kernel
theorem dX7_ticksTo_53 : decode cX7_ticksTo 53 = .ok (.invokevirtual 216, 3) := by decide +kernel
theorem dX7_ticksTo_56 : decode cX7_ticksTo 56 = .ok (.iinc 3 1, 3) := by decide +kernel
theorem dX7_ticksTo_59 : decode cX7_ticksTo 59 = .ok (.goto (-26), 3) := by decide +kernel
theorem dX7_ticksTo_62 : decode cX7_ticksTo 62 = .ok (.aload_n 0, 1) := by decide +kernel
theorem dX7_ticksTo_63 : decode cX7_ticksTo 63 = .ok (.getfield 16, 3) := by decide +kernel
theorem dX7_ticksTo_66 : decode cX7_ticksTo 66 = .ok (.getfield 138, 3) := by decide +kernel
theorem dX7_ticksTo_69 : decode cX7_ticksTo 69 = .ok (.iload_n 1, 1) := by decide +kernel
theorem dX7_ticksTo_70 : decode cX7_ticksTo 70 = .ok (.if_icmp .ge 8, 3) := by decide +kernel
theorem dX7_ticksTo_73 : decode cX7_ticksTo 73 = .ok (.bipush (-4), 2) := by decide +kernel
theorem dX7_ticksTo_75 : decode cX7_ticksTo 75 = .ok (.goto 18, 3) := by decide +kernel
theorem dX7_ticksTo_78 : decode cX7_ticksTo 78 = .ok (.aload_n 0, 1) := by decide +kernel
theorem dX7_ticksTo_79 : decode cX7_ticksTo 79 = .ok (.getfield 16, 3) := by decide +kernel
theorem dX7_ticksTo_82 : decode cX7_ticksTo 82 = .ok (.getfield 165, 3) := by decide +kernel
theorem dX7_ticksTo_85 : decode cX7_ticksTo 85 = .ok (.aload_n 0, 1) := by decide +kernel
theorem dX7_ticksTo_86 : decode cX7_ticksTo 86 = .ok (.getfield 10, 3) := by decide +kernel
theorem dX7_ticksTo_89 : decode cX7_ticksTo 89 = .ok (.getfield 165, 3) := by decide +kernel
theorem dX7_ticksTo_92 : decode cX7_ticksTo 92 = .ok (.isub, 1) := by decide +kernel
theorem dX7_ticksTo_93 : decode cX7_ticksTo 93 = .ok (.ireturn, 1) := by decide +kernel
set_option maxRecDepth 20000 in
theorem ggX7_flowFor_X3_ticksLeft : GoodIn wsX7_flowFor wsX3_ticksLeft := goodIn_r _ [10, 11, 151, 152, 153, 154, 155, 156, 157, 158, 159, 160, 161, 162, 163, 164, 165] (by decide +kernel) (by decide +kernel)
set_option maxRecDepth 20000 in
theorem gX7_flowFor_X3_ticksLeft : GoodIn wsX7_flowFor (wsV RX7 131 RX3 yX3_ticksLeft wsX3_ticksLeft) := goodIn_app (goodIn_of _ (by decide +kernel)) ggX7_flowFor_X3_ticksLeft
set_option maxRecDepth 20000 in
theorem ggX7_flowFor_X3_copyFrom : GoodIn wsX7_flowFor wsX3_copyFrom := goodIn_r _ [15, 16, 17, 18, 19, 20, 21, 22, 23, 24, 25, 26, 27, 28, 29, 30, 31, 11, 32, 33, 34, 35, 36, 37, 38, 39, 40, 41, 42, 43, 44, 45, 46, 47, 48, 49, 50, 51, 52, 53, 54, 55, 56, 57, 58, 59, 60, 61, 62, 63, 64, 65, 66, 67, 68, 151, 152, 153, 154, 155, 156, 157, 158, 159, 160, 161, 162, 163, 164, 165, 166, 167, 168, 169, 170, 171, 172, 173, 174, 175, 176, 177, 178, 179, 180, 181, 182] (by decide +kernel) (by decide +kernel)
set_option maxRecDepth 20000 in
theorem gX7_flowFor_X3_copyFrom : GoodIn wsX7_flowFor (wsV RX7 213 RX3 yX3_copyFrom wsX3_copyFrom) := goodIn_app (goodIn_of _ (by decide +kernel)) ggX7_flowFor_X3_copyFrom
set_option maxRecDepth 20000 in
theorem ggX7_flowFor_X3_pass : GoodIn wsX7_flowFor wsX3_pass := goodIn_r _ [72, 73, 74, 75, 9, 76, 11, 32, 33, 18, 19, 30, 77, 78, 79, 80, 25, 16, 81, 17, 27, 82, 83, 84, 50, 85, 52, 86, 87, 88, 89, 26, 90, 91, 92, 93, 94, 37, 95, 39, 96, 97, 98, 99, 46, 43, 100, 101, 102, 103, 104, 105, 28, 29, 24, 106, 107, 108, 109, 41, 44, 45, 110, 111, 112, 113, 114, 115, 116, 117, 118, 119, 120, 121, 122, 123, 124, 125, 126, 127, 128, 129, 55, 130, 131, 132, 133, 54, 134, 135, 136, 137, 31, 138, 139, 140, 141, 142, 143, 144, 61, 145, 64, 63, 65, 67, 68, 151, 152, 153, 154, 155, 156, 157, 158, 159, 160, 161, 162, 163, 164, 165, 166, 167, 168, 169, 170, 171, 172, 173, 174, 175, 176, 177, 178, 179, 180, 181, 182] (by decide +kernel) (by decide +kernel)
set_option maxRecDepth 20000 in
theorem gX7_flowFor_X3_pass : GoodIn wsX7_flowFor (wsV RX7 135 RX3 yX3_pass wsX3_pass) := goodIn_app (goodIn_of _ (by decide +kernel)) ggX7_flowFor_X3_pass
theorem dX7_flowFor_0 : decode cX7_flowFor 0 = .ok (.iload_n 1, 1) := by decide +kernel
theorem dX7_flowFor_1 : decode cX7_flowFor 1 = .ok (.iconst 1, 1) := by decide +kernel
theorem dX7_flowFor_2 : decode cX7_flowFor 2 = .ok (.if_icmp .lt 10, 3) := by decide +kernel
theorem dX7_flowFor_5 : decode cX7_flowFor 5 = .ok (.iload_n 1, 1) := by decide +kernel
theorem dX7_flowFor_6 : decode cX7_flowFor 6 = .ok (.sipush 300, 3) := by decide +kernel
theorem dX7_flowFor_9 : decode cX7_flowFor 9 = .ok (.if_icmp .le 5, 3) := by decide +kernel
theorem dX7_flowFor_12 : decode cX7_flowFor 12 = .ok (.iconst (-1), 1) := by decide +kernel
theorem dX7_flowFor_13 : decode cX7_flowFor 13 = .ok (.ireturn, 1) := by decide +kernel
theorem dX7_flowFor_14 : decode cX7_flowFor 14 = .ok (.iload_n 1, 1) := by decide +kernel
theorem dX7_flowFor_15 : decode cX7_flowFor 15 = .ok (.aload_n 0, 1) := by decide +kernel
theorem dX7_flowFor_16 : decode cX7_flowFor 16 = .ok (.getfield 10, 3) := by decide +kernel
theorem dX7_flowFor_19 : decode cX7_flowFor 19 = .ok (.invokevirtual 131, 3) := by decide +kernel
theorem dX7_flowFor_22 : decode cX7_flowFor 22 = .ok (.if_icmp .le 6, 3) := by decide +kernel
theorem dX7_flowFor_25 : decode cX7_flowFor 25 = .ok (.bipush (-3), 2) := by decide +kernel
theorem dX7_flowFor_27 : decode cX7_flowFor 27 = .ok (.ireturn, 1) := by decide +kernel
theorem dX7_flowFor_28 : decode cX7_flowFor 28 = .ok (.bipush 10, 2) := by decide +kernel
theorem dX7_flowFor_30 : decode cX7_flowFor 30 = .ok (.istore_n 2, 1) := by decide +kernel
theorem dX7_flowFor_31 : decode cX7_flowFor 31 = .ok (.iconst (-1), 1) := by decide +kernel
theorem dX7_flowFor_32 : decode cX7_flowFor 32 = .ok (.istore_n 3, 1) := by decide +kernel
theorem dX7_flowFor_33 : decode cX7_flowFor 33 = .ok (.bipush 10, 2) := by decide +kernel
theorem dX7_flowFor_35 : decode cX7_flowFor 35 = .ok (.istore 4, 2) := by decide +kernel
theorem dX7_flowFor_37 : decode cX7_flowFor 37 = .ok (.iload 4, 2) := by decide +kernel
theorem dX7_flowFor_39 : decode cX7_flowFor 39 = .ok (.getstatic 109, 3) := by decide +kernel
theorem dX7_flowFor_42 : decode cX7_flowFor 42 = .ok (.iconst 3, 1) := by decide +kernel
theorem dX7_flowFor_43 : decode cX7_flowFor 43 = .ok (.iaload, 1) := by decide +kernel
theorem dX7_flowFor_44 : decode cX7_flowFor 44 = .ok (.if_icmp .gt 65, 3) := by decide +kernel
theorem dX7_flowFor_47 : decode cX7_flowFor 47 = .ok (.aload_n 0, 1) := by decide +kernel
theorem dX7_flowFor_48 : decode cX7_flowFor 48 = .ok (.getfield 16, 3) := by decide +kernel
theorem dX7_flowFor_51 : decode cX7_flowFor 51 = .ok (.aload_n 0, 1) := by decide +kernel
theorem dX7_flowFor_52 : decode cX7_flowFor 52 = .ok (.getfield 10, 3) := by decide +kernel
theorem dX7_flowFor_55 : decode cX7_flowFor 55 = .ok (.invokevirtual 213, 3) := by decide +kernel
theorem dX7_flowFor_58 : decode cX7_flowFor 58 = .ok (.aload_n 0, 1) := by decide +kernel
theorem dX7_flowFor_59 : decode cX7_flowFor 59 = .ok (.getfield 16, 3) := by decide +kernel
theorem dX7_flowFor_62 : decode cX7_flowFor 62 = .ok (.getfield 112, 3) := by decide +kernel
theorem dX7_flowFor_65 : decode cX7_flowFor 65 = .ok (.iconst 3, 1) := by decide +kernel
theorem dX7_flowFor_66 : decode cX7_flowFor 66 = .ok (.iload 4, 2) := by decide +kernel
theorem dX7_flowFor_68 : decode cX7_flowFor 68 = .ok (.iastore, 1) := by decide +kernel
theorem dX7_flowFor_69 : decode cX7_flowFor 69 = .ok (.aload_n 0, 1) := by decide +kernel
theorem dX7_flowFor_70 : decode cX7_flowFor 70 = .ok (.getfield 16, 3) := by decide +kernel
theorem dX7_flowFor_73 : decode cX7_flowFor 73 = .ok (.iload_n 1, 1) := by decide +kernel
theorem dX7_flowFor_74 : decode cX7_flowFor 74 = .ok (.invokevirtual 135, 3) := by decide +kernel
theorem dX7_flowFor_77 : decode cX7_flowFor 77 = .ok (.aload_n 0, 1) := by decide +kernel
theorem dX7_flowFor_78 : decode cX7_flowFor 78 = .ok (.getfield 16, 3) := by decide +kernel
theorem dX7_flowFor_81 : decode cX7_flowFor 81 = .ok (.getfield 180, 3) := by decide +kernel
theorem dX7_flowFor_84 : decode cX7_flowFor 84 = .ok (.iconst 1, 1) := by decide +kernel
theorem dX7_flowFor_85 : decode cX7_flowFor 85 = .ok (.iaload, 1) := by decide +kernel
theorem dX7_flowFor_86 : decode cX7_flowFor 86 = .ok (.iload_n 3, 1) := by decide +kernel
theorem dX7_flowFor_87 : decode cX7_flowFor 87 = .ok (.if_icmp .le 16, 3) := by decide +kernel
theorem dX7_flowFor_90 : decode cX7_flowFor 90 = .ok (.aload_n 0, 1) := by decide +kernel
theorem dX7_flowFor_91 : decode cX7_flowFor 91 = .ok (.getfield 16, 3) := by decide +kernel
theorem dX7_flowFor_94 : decode cX7_flowFor 94 = .ok (.getfield 180, 3) := by decide +kernel
theorem dX7_flowFor_97 : decode cX7_flowFor 97 = .ok (.iconst 1, 1) := by decide +kernel
theorem dX7_flowFor_98 : decode cX7_flowFor 98 = .ok (.iaload, 1) := by decide +kernel
theorem dX7_flowFor_99 : decode cX7_flowFor 99 = .ok (.istore_n 3, 1) := by decide +kernel
theorem dX7_flowFor_100 : decode cX7_flowFor 100 = .ok (.iload 4, 2) := by decide +kernel
theorem dX7_flowFor_102 : decode cX7_flowFor 102 = .ok (.istore_n 2, 1) := by decide +kernel
theorem dX7_flowFor_103 : decode cX7_flowFor 103 = .ok (.iinc 4 10, 3) := by decide +kernel
theorem dX7_flowFor_106 : decode cX7_flowFor 106 = .ok (.goto (-69), 3) := by decide +kernel
theorem dX7_flowFor_109 : decode cX7_flowFor 109 = .ok (.iload_n 2, 1) := by decide +kernel
theorem dX7_flowFor_110 : decode cX7_flowFor 110 = .ok (.ireturn, 1) := by decide +kernel
set_option maxRecDepth 20000 in
theorem ggX7_type_X5_isFull : GoodIn wsX7_type wsX5_isFull := goodIn_r _ [7, 8, 20, 21] (by decide +kernel) (by decide +kernel)
set_option maxRecDepth 20000 in
theorem gX7_type_X5_isFull : GoodIn wsX7_type (wsV RX7 219 RX5 yX5_isFull wsX5_isFull) := goodIn_app (goodIn_of _ (by decide +kernel)) ggX7_type_X5_isFull
set_option maxRecDepth 20000 in
theorem ggX7_type_X5_append : GoodIn wsX7_type wsX5_append := goodIn_r _ [12, 13, 8, 14, 4, 5, 6, 7, 20, 21] (by decide +kernel) (by decide +kernel)
set_option maxRecDepth 20000 in
theorem gX7_type_X5_append : GoodIn wsX7_type (wsV RX7 220 RX5 yX5_append wsX5_append) := goodIn_app (goodIn_of _ (by decide +kernel)) ggX7_type_X5_append
theorem dX7_type_0 : decode cX7_type 0 = .ok (.iload_n 1, 1) := by decide +kernel
theorem dX7_type_1 : decode cX7_type 1 = .ok (.bipush 32, 2) := by decide +kernel
theorem dX7_type_3 : decode cX7_type 3 = .ok (.if_icmp .lt 9, 3) := by decide +kernel
theorem dX7_type_6 : decode cX7_type 6 = .ok (.iload_n 1, 1) := by decide +kernel
theorem dX7_type_7 : decode cX7_type 7 = .ok (.bipush 126, 2) := by decide +kernel
theorem dX7_type_9 : decode cX7_type 9 = .ok (.if_icmp .le 5, 3) := by decide +kernel
theorem dX7_type_12 : decode cX7_type 12 = .ok (.iconst (-1), 1) := by decide +kernel
theorem dX7_type_13 : decode cX7_type 13 = .ok (.ireturn, 1) := by decide +kernel
theorem dX7_type_14 : decode cX7_type 14 = .ok (.aload_n 0, 1) := by decide +kernel
theorem dX7_type_15 : decode cX7_type 15 = .ok (.getfield 29, 3) := by decide +kernel
theorem dX7_type_18 : decode cX7_type 18 = .ok (.invokevirtual 219, 3) := by decide +kernel
theorem dX7_type_21 : decode cX7_type 21 = .ok (.ifCond .eq 6, 3) := by decide +kernel
theorem dX7_type_24 : decode cX7_type 24 = .ok (.bipush (-3), 2) := by decide +kernel
theorem dX7_type_26 : decode cX7_type 26 = .ok (.ireturn, 1) := by decide +kernel
theorem dX7_type_27 : decode cX7_type 27 = .ok (.aload_n 0, 1) := by decide +kernel
theorem dX7_type_28 : decode cX7_type 28 = .ok (.getfield 29, 3) := by decide +kernel
theorem dX7_type_31 : decode cX7_type 31 = .ok (.iload_n 1, 1) := by decide +kernel
theorem dX7_type_32 : decode cX7_type 32 = .ok (.i2c, 1) := by decide +kernel
theorem dX7_type_33 : decode cX7_type 33 = .ok (.invokevirtual 220, 3) := by decide +kernel
theorem dX7_type_36 : decode cX7_type 36 = .ok (.aload_n 0, 1) := by decide +kernel
theorem dX7_type_37 : decode cX7_type 37 = .ok (.getfield 29, 3) := by decide +kernel
theorem dX7_type_40 : decode cX7_type 40 = .ok (.getfield 177, 3) := by decide +kernel
theorem dX7_type_43 : decode cX7_type 43 = .ok (.ireturn, 1) := by decide +kernel
theorem dX7_clearText_0 : decode cX7_clearText 0 = .ok (.aload_n 0, 1) := by decide +kernel
theorem dX7_clearText_1 : decode cX7_clearText 1 = .ok (.getfield 29, 3) := by decide +kernel
theorem dX7_clearText_4 : decode cX7_clearText 4 = .ok (.getfield 177, 3) := by decide +kernel
theorem dX7_clearText_7 : decode cX7_clearText 7 = .ok (.istore_n 1, 1) := by decide +kernel
theorem dX7_clearText_8 : decode cX7_clearText 8 = .ok (.aload_n 0, 1) := by decide +kernel
theorem dX7_clearText_9 : decode cX7_clearText 9 = .ok (.getfield 29, 3) := by decide +kernel
theorem dX7_clearText_12 : decode cX7_clearText 12 = .ok (.iconst 0, 1) := by decide +kernel
theorem dX7_clearText_13 : decode cX7_clearText 13 = .ok (.putfield 177, 3) := by decide +kernel
theorem dX7_clearText_16 : decode cX7_clearText 16 = .ok (.iload_n 1, 1) := by decide +kernel
theorem dX7_clearText_17 : decode cX7_clearText 17 = .ok (.ireturn, 1) := by decide +kernel
set_option maxRecDepth 20000 in
theorem ggX7_fault_X4_read : GoodIn wsX7_fault wsX4_read := goodIn_r _ [12, 13, 14, 15, 16, 17, 18, 19, 20, 21, 22, 23, 24, 25, 26, 27, 28, 29, 30, 31, 32, 33, 34, 35, 36, 37, 11, 38, 39, 40, 41, 42, 43, 44, 45, 46, 47, 48, 49, 50, 51, 52, 53, 54, 55, 56, 57, 58, 59, 60, 61, 62, 63, 64, 65, 66, 67, 68, 69, 70, 71, 72, 73, 74, 75, 76, 77, 78, 79, 80, 81, 82, 83, 84, 85, 86, 87, 88, 89, 90, 91, 92, 93, 94, 95, 96, 97, 98, 99, 100, 101, 102, 103, 104, 105, 106, 107, 108, 109, 110, 111, 112, 113, 114, 115, 116, 117, 118, 119, 120, 121, 122, 123, 124, 125, 126, 127, 128, 129, 130, 131, 132, 133, 134, 135, 136, 137, 138, 139, 140, 141, 142, 143, 144, 145, 146, 147, 148, 169, 170, 171, 172, 173, 174, 175, 176, 177, 178, 179, 180, 181, 182, 183] (by decide +kernel) (by decide +kernel)
set_option maxRecDepth 20000 in
theorem gX7_fault_X4_read : GoodIn wsX7_fault (wsV RX7 224 RX4 yX4_read wsX4_read) := goodIn_app (goodIn_of _ (by decide +kernel)) ggX7_fault_X4_read
theorem dX7_fault_0 : decode cX7_fault 0 = .ok (.iload_n 1, 1) := by decide +kernel
theorem dX7_fault_1 : decode cX7_fault 1 = .ok (.ifCond .lt 8, 3) := by decide +kernel
theorem dX7_fault_4 : decode cX7_fault 4 = .ok (.iload_n 1, 1) := by decide +kernel
theorem dX7_fault_5 : decode cX7_fault 5 = .ok (.iconst 2, 1) := by decide +kernel
theorem dX7_fault_6 : decode cX7_fault 6 = .ok (.if_icmp .le 5, 3) := by decide +kernel
theorem dX7_fault_9 : decode cX7_fault 9 = .ok (.iconst (-1), 1) := by decide +kernel
theorem dX7_fault_10 : decode cX7_fault 10 = .ok (.ireturn, 1) := by decide +kernel
theorem dX7_fault_11 : decode cX7_fault 11 = .ok (.aload_n 0, 1) := by decide +kernel
theorem dX7_fault_12 : decode cX7_fault 12 = .ok (.getfield 36, 3) := by decide +kernel
theorem dX7_fault_15 : decode cX7_fault 15 = .ok (.aload_n 0, 1) := by decide +kernel
theorem dX7_fault_16 : decode cX7_fault 16 = .ok (.getfield 29, 3) := by decide +kernel
theorem dX7_fault_19 : decode cX7_fault 19 = .ok (.aload_n 0, 1) := by decide +kernel
theorem dX7_fault_20 : decode cX7_fault 20 = .ok (.getfield 10, 3) := by decide +kernel
theorem dX7_fault_23 : decode cX7_fault 23 = .ok (.getfield 46, 3) := by decide +kernel
theorem dX7_fault_26 : decode cX7_fault 26 = .ok (.invokevirtual 224, 3) := by decide +kernel
theorem dX7_fault_29 : decode cX7_fault 29 = .ok (.aload_n 0, 1) := by decide +kernel
theorem dX7_fault_30 : decode cX7_fault 30 = .ok (.getfield 36, 3) := by decide +kernel
theorem dX7_fault_33 : decode cX7_fault 33 = .ok (.getfield 228, 3) := by decide +kernel
theorem dX7_fault_36 : decode cX7_fault 36 = .ok (.ifCond .ne 6, 3) := by decide +kernel
theorem dX7_fault_39 : decode cX7_fault 39 = .ok (.bipush (-4), 2) := by decide +kernel
theorem dX7_fault_41 : decode cX7_fault 41 = .ok (.ireturn, 1) := by decide +kernel
theorem dX7_fault_42 : decode cX7_fault 42 = .ok (.iload_n 1, 1) := by decide +kernel
theorem dX7_fault_43 : decode cX7_fault 43 = .ok (.lookupswitch 41 #[(0, 25), (1, 33)], 25) := by decide +kernel
theorem dX7_fault_68 : decode cX7_fault 68 = .ok (.aload_n 0, 1) := by decide +kernel
theorem dX7_fault_69 : decode cX7_fault 69 = .ok (.getfield 36, 3) := by decide +kernel
theorem dX7_fault_72 : decode cX7_fault 72 = .ok (.getfield 229, 3) := by decide +kernel
theorem dX7_fault_75 : decode cX7_fault 75 = .ok (.ireturn, 1) := by decide +kernel
theorem dX7_fault_76 : decode cX7_fault 76 = .ok (.aload_n 0, 1) := by decide +kernel
theorem dX7_fault_77 : decode cX7_fault 77 = .ok (.getfield 36, 3) := by decide +kernel
theorem dX7_fault_80 : decode cX7_fault 80 = .ok (.getfield 228, 3) := by decide +kernel
theorem dX7_fault_83 : decode cX7_fault 83 = .ok (.ireturn, 1) := by decide +kernel
theorem dX7_fault_84 : decode cX7_fault 84 = .ok (.aload_n 0, 1) := by decide +kernel
theorem dX7_fault_85 : decode cX7_fault 85 = .ok (.getfield 36, 3) := by decide +kernel
theorem dX7_fault_88 : decode cX7_fault 88 = .ok (.getfield 232, 3) := by decide +kernel
theorem dX7_fault_91 : decode cX7_fault 91 = .ok (.ireturn, 1) := by decide +kernel
set_option maxRecDepth 20000 in
theorem ggX7_lay_X4_read : GoodIn wsX7_lay wsX4_read := goodIn_r _ [13, 14, 15, 16, 17, 18, 19, 20, 21, 22, 23, 24, 25, 26, 27, 28, 29, 30, 31, 32, 33, 34, 35, 36, 37, 38, 12, 39, 40, 41, 42, 43, 44, 45, 46, 47, 48, 49, 50, 51, 52, 53, 54, 55, 56, 57, 58, 59, 60, 61, 62, 63, 64, 65, 66, 67, 68, 69, 70, 71, 72, 73, 74, 75, 76, 77, 78, 79, 80, 81, 82, 83, 84, 85, 86, 87, 88, 89, 90, 91, 92, 93, 94, 95, 96, 97, 98, 99, 100, 101, 102, 103, 104, 105, 106, 107, 108, 109, 110, 111, 112, 113, 114, 115, 116, 117, 118, 119, 120, 121, 122, 123, 124, 125, 126, 127, 128, 129, 130, 131, 132, 133, 134, 135, 136, 137, 138, 139, 140, 141, 142, 143, 144, 145, 146, 147, 148, 149, 223, 224, 225, 226, 227, 228, 236, 237, 229, 230, 231, 232, 233, 234, 235] (by decide +kernel) (by decide +kernel)
set_option maxRecDepth 20000 in
theorem gX7_lay_X4_read : GoodIn wsX7_lay (wsV RX7 224 RX4 yX4_read wsX4_read) := goodIn_app (goodIn_of _ (by decide +kernel)) ggX7_lay_X4_read
set_option maxRecDepth 20000 in
theorem ggX7_lay_X1_keep : GoodIn wsX7_lay wsX1_keep := goodIn_r _ [154, 155, 156, 157, 158, 159, 160, 161, 162, 163, 164, 165, 166, 167, 29, 30, 31, 168, 169, 170, 171, 172, 173, 174, 175, 176, 177, 178, 179, 21, 22, 23, 24, 25, 26, 27, 28, 32, 33, 34, 35, 180, 181, 182, 183, 184, 185, 186, 187, 188, 189, 190, 191, 192, 193, 194, 195, 196, 197, 198, 199, 200, 201, 238, 239, 240, 208, 209, 210, 211, 212, 213, 214, 215, 216, 217, 218, 219, 220, 221, 222, 229, 230, 231, 232, 233, 234, 235, 241, 242, 243, 244, 245, 246, 247, 248, 249, 250] (by decide +kernel) (by decide +kernel)
set_option maxRecDepth 20000 in
theorem gX7_lay_X1_keep : GoodIn wsX7_lay (wsV RX7 54 RX1 yX1_keep wsX1_keep) := goodIn_app (goodIn_of _ (by decide +kernel)) ggX7_lay_X1_keep
set_option maxRecDepth 20000 in
theorem ggX7_lay_X0_copyFrom : GoodIn wsX7_lay wsX0_copyFrom := goodIn_r _ [24, 25, 26, 27, 28, 29, 30, 31, 32, 33, 34, 35, 229, 230, 231, 232, 233, 234, 235] (by decide +kernel) (by decide +kernel)
set_option maxRecDepth 20000 in
theorem gX7_lay_X0_copyFrom : GoodIn wsX7_lay (wsV RX7 236 RX0 yX0_copyFrom wsX0_copyFrom) := goodIn_app (goodIn_of _ (by decide +kernel)) ggX7_lay_X0_copyFrom
theorem dX7_lay_0 : decode cX7_lay 0 = .ok (.aload_n 0, 1) := by decide +kernel
theorem dX7_lay_1 : decode cX7_lay 1 = .ok (.getfield 36, 3) := by decide +kernel
theorem dX7_lay_4 : decode cX7_lay 4 = .ok (.aload_n 0, 1) := by decide +kernel
theorem dX7_lay_5 : decode cX7_lay 5 = .ok (.getfield 29, 3) := by decide +kernel
theorem dX7_lay_8 : decode cX7_lay 8 = .ok (.aload_n 0, 1) := by decide +kernel
theorem dX7_lay_9 : decode cX7_lay 9 = .ok (.getfield 10, 3) := by decide +kernel
theorem dX7_lay_12 : decode cX7_lay 12 = .ok (.getfield 46, 3) := by decide +kernel
theorem dX7_lay_15 : decode cX7_lay 15 = .ok (.invokevirtual 224, 3) := by decide +kernel
theorem dX7_lay_18 : decode cX7_lay 18 = .ok (.aload_n 0, 1) := by decide +kernel
theorem dX7_lay_19 : decode cX7_lay 19 = .ok (.getfield 36, 3) := by decide +kernel
theorem dX7_lay_22 : decode cX7_lay 22 = .ok (.getfield 228, 3) := by decide +kernel
theorem dX7_lay_25 : decode cX7_lay 25 = .ok (.ifCond .eq 6, 3) := by decide +kernel
theorem dX7_lay_28 : decode cX7_lay 28 = .ok (.bipush (-2), 2) := by decide +kernel
theorem dX7_lay_30 : decode cX7_lay 30 = .ok (.ireturn, 1) := by decide +kernel
theorem dX7_lay_31 : decode cX7_lay 31 = .ok (.aload_n 0, 1) := by decide +kernel
theorem dX7_lay_32 : decode cX7_lay 32 = .ok (.getfield 36, 3) := by decide +kernel
theorem dX7_lay_35 : decode cX7_lay 35 = .ok (.getfield 235, 3) := by decide +kernel
theorem dX7_lay_38 : decode cX7_lay 38 = .ok (.getfield 62, 3) := by decide +kernel
theorem dX7_lay_41 : decode cX7_lay 41 = .ok (.aload_n 0, 1) := by decide +kernel
theorem dX7_lay_42 : decode cX7_lay 42 = .ok (.getfield 10, 3) := by decide +kernel
theorem dX7_lay_45 : decode cX7_lay 45 = .ok (.getfield 46, 3) := by decide +kernel
theorem dX7_lay_48 : decode cX7_lay 48 = .ok (.getfield 62, 3) := by decide +kernel
theorem dX7_lay_51 : decode cX7_lay 51 = .ok (.isub, 1) := by decide +kernel
theorem dX7_lay_52 : decode cX7_lay 52 = .ok (.istore_n 1, 1) := by decide +kernel
theorem dX7_lay_53 : decode cX7_lay 53 = .ok (.aload_n 0, 1) := by decide +kernel
theorem dX7_lay_54 : decode cX7_lay 54 = .ok (.getfield 22, 3) := by decide +kernel
theorem dX7_lay_57 : decode cX7_lay 57 = .ok (.aload_n 0, 1) := by decide +kernel
theorem dX7_lay_58 : decode cX7_lay 58 = .ok (.getfield 10, 3) := by decide +kernel
theorem dX7_lay_61 : decode cX7_lay 61 = .ok (.invokevirtual 54, 3) := by decide +kernel
theorem dX7_lay_64 : decode cX7_lay 64 = .ok (.aload_n 0, 1) := by decide +kernel
theorem dX7_lay_65 : decode cX7_lay 65 = .ok (.getfield 10, 3) := by decide +kernel
theorem dX7_lay_68 : decode cX7_lay 68 = .ok (.getfield 46, 3) := by decide +kernel
theorem dX7_lay_71 : decode cX7_lay 71 = .ok (.aload_n 0, 1) := by decide +kernel
theorem dX7_lay_72 : decode cX7_lay 72 = .ok (.getfield 36, 3) := by decide +kernel
theorem dX7_lay_75 : decode cX7_lay 75 = .ok (.getfield 235, 3) := by decide +kernel
theorem dX7_lay_78 : decode cX7_lay 78 = .ok (.invokevirtual 236, 3) := by decide +kernel
theorem dX7_lay_81 : decode cX7_lay 81 = .ok (.iload_n 1, 1) := by decide +kernel
theorem dX7_lay_82 : decode cX7_lay 82 = .ok (.ireturn, 1) := by decide +kernel
theorem dX8_init_0 : decode cX8_init 0 = .ok (.aload_n 0, 1) := by decide +kernel
theorem dX8_init_1 : decode cX8_init 1 = .ok (.invokespecial 1, 3) := by decide +kernel
theorem dX8_init_4 : decode cX8_init 4 = .ok (.aload_n 0, 1) := by decide +kernel
theorem dX8_init_5 : decode cX8_init 5 = .ok (.sipush 246, 3) := by decide +kernel
theorem dX8_init_8 : decode cX8_init 8 = .ok (.newarray .int, 2) := by decide +kernel
theorem dX8_init_10 : decode cX8_init 10 = .ok (.putfield 7, 3) := by decide +kernel
theorem dX8_init_13 : decode cX8_init 13 = .ok (.aload_n 0, 1) := by decide +kernel
theorem dX8_init_14 : decode cX8_init 14 = .ok (.sipush 246, 3) := by decide +kernel
theorem dX8_init_17 : decode cX8_init 17 = .ok (.newarray .int, 2) := by decide +kernel
theorem dX8_init_19 : decode cX8_init 19 = .ok (.putfield 13, 3) := by decide +kernel
theorem dX8_init_22 : decode cX8_init 22 = .ok (.aload_n 0, 1) := by decide +kernel
theorem dX8_init_23 : decode cX8_init 23 = .ok (.sipush 1230, 3) := by decide +kernel
theorem dX8_init_26 : decode cX8_init 26 = .ok (.newarray .int, 2) := by decide +kernel
theorem dX8_init_28 : decode cX8_init 28 = .ok (.putfield 16, 3) := by decide +kernel
theorem dX8_init_31 : decode cX8_init 31 = .ok (.aload_n 0, 1) := by decide +kernel
theorem dX8_init_32 : decode cX8_init 32 = .ok (.bipush 100, 2) := by decide +kernel
theorem dX8_init_34 : decode cX8_init 34 = .ok (.newarray .int, 2) := by decide +kernel
theorem dX8_init_36 : decode cX8_init 36 = .ok (.putfield 19, 3) := by decide +kernel
theorem dX8_init_39 : decode cX8_init 39 = .ok (.aload_n 0, 1) := by decide +kernel
theorem dX8_init_40 : decode cX8_init 40 = .ok (.iconst 3, 1) := by decide +kernel
theorem dX8_init_41 : decode cX8_init 41 = .ok (.newarray .int, 2) := by decide +kernel
theorem dX8_init_43 : decode cX8_init 43 = .ok (.putfield 22, 3) := by decide +kernel
theorem dX8_init_46 : decode cX8_init 46 = .ok (.aload_n 0, 1) := by decide +kernel
theorem dX8_init_47 : decode cX8_init 47 = .ok (.getfield 7, 3) := by decide +kernel
theorem dX8_init_50 : decode cX8_init 50 = .ok (.iconst 0, 1) := by decide +kernel
theorem dX8_init_51 : decode cX8_init 51 = .ok (.bipush 100, 2) := by decide +kernel
theorem dX8_init_53 : decode cX8_init 53 = .ok (.iastore, 1) := by decide +kernel
theorem dX8_init_54 : decode cX8_init 54 = .ok (.aload_n 0, 1) := by decide +kernel
theorem dX8_init_55 : decode cX8_init 55 = .ok (.getfield 7, 3) := by decide +kernel
theorem dX8_init_58 : decode cX8_init 58 = .ok (.iconst 1, 1) := by decide +kernel
theorem dX8_init_59 : decode cX8_init 59 = .ok (.bipush 50, 2) := by decide +kernel
theorem dX8_init_61 : decode cX8_init 61 = .ok (.iastore, 1) := by decide +kernel
theorem dX8_init_62 : decode cX8_init 62 = .ok (.aload_n 0, 1) := by decide +kernel
theorem dX8_init_63 : decode cX8_init 63 = .ok (.getfield 7, 3) := by decide +kernel
theorem dX8_init_66 : decode cX8_init 66 = .ok (.iconst 2, 1) := by decide +kernel
theorem dX8_init_67 : decode cX8_init 67 = .ok (.sipush 2000, 3) := by decide +kernel
theorem dX8_init_70 : decode cX8_init 70 = .ok (.iastore, 1) := by decide +kernel
theorem dX8_init_71 : decode cX8_init 71 = .ok (.aload_n 0, 1) := by decide +kernel
theorem dX8_init_72 : decode cX8_init 72 = .ok (.getfield 7, 3) := by decide +kernel
theorem dX8_init_75 : decode cX8_init 75 = .ok (.iconst 3, 1) := by decide +kernel
theorem dX8_init_76 : decode cX8_init 76 = .ok (.bipush 60, 2) := by decide +kernel
theorem dX8_init_78 : decode cX8_init 78 = .ok (.iastore, 1) := by decide +kernel
theorem dX8_init_79 : decode cX8_init 79 = .ok (.aload_n 0, 1) := by decide +kernel
theorem dX8_init_80 : decode cX8_init 80 = .ok (.getfield 7, 3) := by decide +kernel
theorem dX8_init_83 : decode cX8_init 83 = .ok (.iconst 4, 1) := by decide +kernel
theorem dX8_init_84 : decode cX8_init 84 = .ok (.sipush 500, 3) := by decide +kernel
theorem dX8_init_87 : decode cX8_init 87 = .ok (.iastore, 1) := by decide +kernel
theorem dX8_init_88 : decode cX8_init 88 = .ok (.aload_n 0, 1) := by decide +kernel
theorem dX8_init_89 : decode cX8_init 89 = .ok (.getfield 7, 3) := by decide +kernel
theorem dX8_init_92 : decode cX8_init 92 = .ok (.iconst 5, 1) := by decide +kernel
theorem dX8_init_93 : decode cX8_init 93 = .ok (.bipush 40, 2) := by decide +kernel
theorem dX8_init_95 : decode cX8_init 95 = .ok (.iastore, 1) := by decide +kernel
theorem dX8_init_96 : decode cX8_init 96 = .ok (.aload_n 0, 1) := by decide +kernel
theorem dX8_init_97 : decode cX8_init 97 = .ok (.getfield 7, 3) := by decide +kernel
theorem dX8_init_100 : decode cX8_init 100 = .ok (.bipush 6, 2) := by decide +kernel
theorem dX8_init_102 : decode cX8_init 102 = .ok (.sipush 500, 3) := by decide +kernel
theorem dX8_init_105 : decode cX8_init 105 = .ok (.iastore, 1) := by decide +kernel
theorem dX8_init_106 : decode cX8_init 106 = .ok (.aload_n 0, 1) := by decide +kernel
theorem dX8_init_107 : decode cX8_init 107 = .ok (.getfield 7, 3) := by decide +kernel
theorem dX8_init_110 : decode cX8_init 110 = .ok (.bipush 7, 2) := by decide +kernel
theorem dX8_init_112 : decode cX8_init 112 = .ok (.iconst 5, 1) := by decide +kernel
theorem dX8_init_113 : decode cX8_init 113 = .ok (.iastore, 1) := by decide +kernel
theorem dX8_init_114 : decode cX8_init 114 = .ok (.return_, 1) := by decide +kernel
theorem dX8_in_0 : decode cX8_in 0 = .ok (.iload_n 0, 1) := by decide +kernel
theorem dX8_in_1 : decode cX8_in 1 = .ok (.iload_n 1, 1) := by decide +kernel
theorem dX8_in_2 : decode cX8_in 2 = .ok (.if_icmp .lt 12, 3) := by decide +kernel
theorem dX8_in_5 : decode cX8_in 5 = .ok (.iload_n 0, 1) := by decide +kernel
theorem dX8_in_6 : decode cX8_in 6 = .ok (.iload_n 2, 1) := by decide +kernel
theorem dX8_in_7 : decode cX8_in 7 = .ok (.if_icmp .gt 7, 3) := by decide +kernel
theorem dX8_in_10 : decode cX8_in 10 = .ok (.iconst 1, 1) := by decide +kernel
theorem dX8_in_11 : decode cX8_in 11 = .ok (.goto 4, 3) := by decide +kernel
theorem dX8_in_14 : decode cX8_in 14 = .ok (.iconst 0, 1) := by decide +kernel
theorem dX8_in_15 : decode cX8_in 15 = .ok (.ireturn, 1) := by decide +kernel
theorem dX8_lesser_0 : decode cX8_lesser 0 = .ok (.iload_n 0, 1) := by decide +kernel
theorem dX8_lesser_1 : decode cX8_lesser 1 = .ok (.iload_n 1, 1) := by decide +kernel
theorem dX8_lesser_2 : decode cX8_lesser 2 = .ok (.if_icmp .ge 7, 3) := by decide +kernel
theorem dX8_lesser_5 : decode cX8_lesser 5 = .ok (.iload_n 0, 1) := by decide +kernel
theorem dX8_lesser_6 : decode cX8_lesser 6 = .ok (.goto 4, 3) := by decide +kernel
theorem dX8_lesser_9 : decode cX8_lesser 9 = .ok (.iload_n 1, 1) := by decide +kernel
theorem dX8_lesser_10 : decode cX8_lesser 10 = .ok (.ireturn, 1) := by decide +kernel
theorem dX8_bring_0 : decode cX8_bring 0 = .ok (.iconst 0, 1) := by decide +kernel
theorem dX8_bring_1 : decode cX8_bring 1 = .ok (.istore 4, 2) := by decide +kernel
theorem dX8_bring_3 : decode cX8_bring 3 = .ok (.iload 4, 2) := by decide +kernel
theorem dX8_bring_5 : decode cX8_bring 5 = .ok (.sipush 246, 3) := by decide +kernel
theorem dX8_bring_8 : decode cX8_bring 8 = .ok (.if_icmp .ge 21, 3) := by decide +kernel
theorem dX8_bring_11 : decode cX8_bring 11 = .ok (.aload_n 2, 1) := by decide +kernel
theorem dX8_bring_12 : decode cX8_bring 12 = .ok (.iload_n 3, 1) := by decide +kernel
theorem dX8_bring_13 : decode cX8_bring 13 = .ok (.iload 4, 2) := by decide +kernel
theorem dX8_bring_15 : decode cX8_bring 15 = .ok (.iadd, 1) := by decide +kernel
theorem dX8_bring_16 : decode cX8_bring 16 = .ok (.aload_n 0, 1) := by decide +kernel
theorem dX8_bring_17 : decode cX8_bring 17 = .ok (.iload_n 1, 1) := by decide +kernel
theorem dX8_bring_18 : decode cX8_bring 18 = .ok (.iload 4, 2) := by decide +kernel
theorem dX8_bring_20 : decode cX8_bring 20 = .ok (.iadd, 1) := by decide +kernel
theorem dX8_bring_21 : decode cX8_bring 21 = .ok (.iaload, 1) := by decide +kernel
theorem dX8_bring_22 : decode cX8_bring 22 = .ok (.iastore, 1) := by decide +kernel
theorem dX8_bring_23 : decode cX8_bring 23 = .ok (.iinc 4 1, 3) := by decide +kernel
theorem dX8_bring_26 : decode cX8_bring 26 = .ok (.goto (-23), 3) := by decide +kernel
theorem dX8_bring_29 : decode cX8_bring 29 = .ok (.return_, 1) := by decide +kernel
set_option maxRecDepth 20000 in
theorem ggX8_record_X8_bring : GoodIn wsX8_record wsX8_bring := goodIn_r _ [7] (by decide +kernel) (by decide +kernel)
set_option maxRecDepth 20000 in
theorem gX8_record_X8_bring : GoodIn wsX8_record (va_wsS RX8 29 yX8_bring wsX8_bring) := goodIn_app (goodIn_of _ (by decide +kernel)) ggX8_record_X8_bring
theorem dX8_record_0 : decode cX8_record 0 = .ok (.aload_n 0, 1) := by decide +kernel
theorem dX8_record_1 : decode cX8_record 1 = .ok (.getfield 25, 3) := by decide +kernel
theorem dX8_record_4 : decode cX8_record 4 = .ok (.iconst 5, 1) := by decide +kernel
theorem dX8_record_5 : decode cX8_record 5 = .ok (.if_icmp .ne 44, 3) := by decide +kernel
theorem dX8_record_8 : decode cX8_record 8 = .ok (.iconst 0, 1) := by decide +kernel
theorem dX8_record_9 : decode cX8_record 9 = .ok (.istore_n 1, 1) := by decide +kernel
theorem dX8_record_10 : decode cX8_record 10 = .ok (.iload_n 1, 1) := by decide +kernel
theorem dX8_record_11 : decode cX8_record 11 = .ok (.sipush 984, 3) := by decide +kernel
theorem dX8_record_14 : decode cX8_record 14 = .ok (.if_icmp .ge 25, 3) := by decide +kernel
theorem dX8_record_17 : decode cX8_record 17 = .ok (.aload_n 0, 1) := by decide +kernel
theorem dX8_record_18 : decode cX8_record 18 = .ok (.getfield 16, 3) := by decide +kernel
theorem dX8_record_21 : decode cX8_record 21 = .ok (.iload_n 1, 1) := by decide +kernel
theorem dX8_record_22 : decode cX8_record 22 = .ok (.aload_n 0, 1) := by decide +kernel
theorem dX8_record_23 : decode cX8_record 23 = .ok (.getfield 16, 3) := by decide +kernel
theorem dX8_record_26 : decode cX8_record 26 = .ok (.iload_n 1, 1) := by decide +kernel
theorem dX8_record_27 : decode cX8_record 27 = .ok (.sipush 246, 3) := by decide +kernel
theorem dX8_record_30 : decode cX8_record 30 = .ok (.iadd, 1) := by decide +kernel
theorem dX8_record_31 : decode cX8_record 31 = .ok (.iaload, 1) := by decide +kernel
theorem dX8_record_32 : decode cX8_record 32 = .ok (.iastore, 1) := by decide +kernel
theorem dX8_record_33 : decode cX8_record 33 = .ok (.iinc 1 1, 3) := by decide +kernel
theorem dX8_record_36 : decode cX8_record 36 = .ok (.goto (-26), 3) := by decide +kernel
theorem dX8_record_39 : decode cX8_record 39 = .ok (.aload_n 0, 1) := by decide +kernel
theorem dX8_record_40 : decode cX8_record 40 = .ok (.dup, 1) := by decide +kernel
theorem dX8_record_41 : decode cX8_record 41 = .ok (.getfield 25, 3) := by decide +kernel
theorem dX8_record_44 : decode cX8_record 44 = .ok (.iconst 1, 1) := by decide +kernel
theorem dX8_record_45 : decode cX8_record 45 = .ok (.isub, 1) := by decide +kernel
theorem dX8_record_46 : decode cX8_record 46 = .ok (.putfield 25, 3) := by decide +kernel
theorem dX8_record_49 : decode cX8_record 49 = .ok (.aload_n 0, 1) := by decide +kernel
theorem dX8_record_50 : decode cX8_record 50 = .ok (.getfield 7, 3) := by decide +kernel
theorem dX8_record_53 : decode cX8_record 53 = .ok (.iconst 0, 1) := by decide +kernel
theorem dX8_record_54 : decode cX8_record 54 = .ok (.aload_n 0, 1) := by decide +kernel
theorem dX8_record_55 : decode cX8_record 55 = .ok (.getfield 16, 3) := by decide +kernel
theorem dX8_record_58 : decode cX8_record 58 = .ok (.sipush 246, 3) := by decide +kernel
theorem dX8_record_61 : decode cX8_record 61 = .ok (.aload_n 0, 1) := by decide +kernel
theorem dX8_record_62 : decode cX8_record 62 = .ok (.getfield 25, 3) := by decide +kernel
theorem dX8_record_65 : decode cX8_record 65 = .ok (.imul, 1) := by decide +kernel
theorem dX8_record_66 : decode cX8_record 66 = .ok (.invokestatic 29, 3) := by decide +kernel
theorem dX8_record_69 : decode cX8_record 69 = .ok (.aload_n 0, 1) := by decide +kernel
theorem dX8_record_70 : decode cX8_record 70 = .ok (.dup, 1) := by decide +kernel
theorem dX8_record_71 : decode cX8_record 71 = .ok (.getfield 25, 3) := by decide +kernel
theorem dX8_record_74 : decode cX8_record 74 = .ok (.iconst 1, 1) := by decide +kernel
theorem dX8_record_75 : decode cX8_record 75 = .ok (.iadd, 1) := by decide +kernel
theorem dX8_record_76 : decode cX8_record 76 = .ok (.putfield 25, 3) := by decide +kernel
theorem dX8_record_79 : decode cX8_record 79 = .ok (.return_, 1) := by decide +kernel
set_option maxRecDepth 20000 in
theorem ggX8_isSegment_X8_in : GoodIn wsX8_isSegment wsX8_in := goodIn_r _ [5] (by decide +kernel) (by decide +kernel)
set_option maxRecDepth 20000 in
theorem gX8_isSegment_X8_in : GoodIn wsX8_isSegment (va_wsS RX8 33 yX8_in wsX8_in) := goodIn_app (goodIn_of _ (by decide +kernel)) ggX8_isSegment_X8_in
theorem dX8_isSegment_0 : decode cX8_isSegment 0 = .ok (.iload_n 1, 1) := by decide +kernel
theorem dX8_isSegment_1 : decode cX8_isSegment 1 = .ok (.iconst 0, 1) := by decide +kernel
theorem dX8_isSegment_2 : decode cX8_isSegment 2 = .ok (.aload_n 0, 1) := by decide +kernel
theorem dX8_isSegment_3 : decode cX8_isSegment 3 = .ok (.getfield 7, 3) := by decide +kernel
theorem dX8_isSegment_6 : decode cX8_isSegment 6 = .ok (.bipush 8, 2) := by decide +kernel
theorem dX8_isSegment_8 : decode cX8_isSegment 8 = .ok (.iaload, 1) := by decide +kernel
theorem dX8_isSegment_9 : decode cX8_isSegment 9 = .ok (.iconst 1, 1) := by decide +kernel
theorem dX8_isSegment_10 : decode cX8_isSegment 10 = .ok (.isub, 1) := by decide +kernel
theorem dX8_isSegment_11 : decode cX8_isSegment 11 = .ok (.invokestatic 33, 3) := by decide +kernel
theorem dX8_isSegment_14 : decode cX8_isSegment 14 = .ok (.ireturn, 1) := by decide +kernel
theorem dX8_of_0 : decode cX8_of 0 = .ok (.aload_n 0, 1) := by decide +kernel
theorem dX8_of_1 : decode cX8_of 1 = .ok (.getfield 7, 3) := by decide +kernel
theorem dX8_of_4 : decode cX8_of 4 = .ok (.bipush 46, 2) := by decide +kernel
theorem dX8_of_6 : decode cX8_of 6 = .ok (.iconst 4, 1) := by decide +kernel
theorem dX8_of_7 : decode cX8_of 7 = .ok (.iload_n 1, 1) := by decide +kernel
theorem dX8_of_8 : decode cX8_of 8 = .ok (.imul, 1) := by decide +kernel
theorem dX8_of_9 : decode cX8_of 9 = .ok (.iadd, 1) := by decide +kernel
theorem dX8_of_10 : decode cX8_of 10 = .ok (.iload_n 2, 1) := by decide +kernel
theorem dX8_of_11 : decode cX8_of 11 = .ok (.iadd, 1) := by decide +kernel
theorem dX8_of_12 : decode cX8_of 12 = .ok (.iaload, 1) := by decide +kernel
theorem dX8_of_13 : decode cX8_of 13 = .ok (.ireturn, 1) := by decide +kernel
theorem dX8_ofLine_0 : decode cX8_ofLine 0 = .ok (.aload_n 0, 1) := by decide +kernel
theorem dX8_ofLine_1 : decode cX8_ofLine 1 = .ok (.getfield 7, 3) := by decide +kernel
theorem dX8_ofLine_4 : decode cX8_ofLine 4 = .ok (.bipush 26, 2) := by decide +kernel
theorem dX8_ofLine_6 : decode cX8_ofLine 6 = .ok (.iconst 5, 1) := by decide +kernel
theorem dX8_ofLine_7 : decode cX8_ofLine 7 = .ok (.iload_n 1, 1) := by decide +kernel
theorem dX8_ofLine_8 : decode cX8_ofLine 8 = .ok (.imul, 1) := by decide +kernel
theorem dX8_ofLine_9 : decode cX8_ofLine 9 = .ok (.iadd, 1) := by decide +kernel
theorem dX8_ofLine_10 : decode cX8_ofLine 10 = .ok (.iload_n 2, 1) := by decide +kernel
theorem dX8_ofLine_11 : decode cX8_ofLine 11 = .ok (.iadd, 1) := by decide +kernel
theorem dX8_ofLine_12 : decode cX8_ofLine 12 = .ok (.iaload, 1) := by decide +kernel
theorem dX8_ofLine_13 : decode cX8_ofLine 13 = .ok (.ireturn, 1) := by decide +kernel
set_option maxRecDepth 20000 in
theorem ggX8_lower_X8_of : GoodIn wsX8_lower wsX8_of := goodIn_r _ [5, 6, 7, 8, 9, 10, 11, 12, 13, 14, 15, 16, 17] (by decide +kernel) (by decide +kernel)
set_option maxRecDepth 20000 in
theorem gX8_lower_X8_of : GoodIn wsX8_lower (wsV RX8 37 RX8 yX8_of wsX8_of) := goodIn_app (goodIn_of _ (by decide +kernel)) ggX8_lower_X8_of
theorem dX8_lower_0 : decode cX8_lower 0 = .ok (.iconst 0, 1) := by decide +kernel
theorem dX8_lower_1 : decode cX8_lower 1 = .ok (.istore_n 2, 1) := by decide +kernel
theorem dX8_lower_2 : decode cX8_lower 2 = .ok (.iconst 0, 1) := by decide +kernel
theorem dX8_lower_3 : decode cX8_lower 3 = .ok (.istore_n 3, 1) := by decide +kernel
theorem dX8_lower_4 : decode cX8_lower 4 = .ok (.iload_n 3, 1) := by decide +kernel
theorem dX8_lower_5 : decode cX8_lower 5 = .ok (.iload_n 1, 1) := by decide +kernel
theorem dX8_lower_6 : decode cX8_lower 6 = .ok (.if_icmp .ge 18, 3) := by decide +kernel
theorem dX8_lower_9 : decode cX8_lower 9 = .ok (.iload_n 2, 1) := by decide +kernel
theorem dX8_lower_10 : decode cX8_lower 10 = .ok (.aload_n 0, 1) := by decide +kernel
theorem dX8_lower_11 : decode cX8_lower 11 = .ok (.iload_n 3, 1) := by decide +kernel
theorem dX8_lower_12 : decode cX8_lower 12 = .ok (.iconst 1, 1) := by decide +kernel
theorem dX8_lower_13 : decode cX8_lower 13 = .ok (.invokevirtual 37, 3) := by decide +kernel
theorem dX8_lower_16 : decode cX8_lower 16 = .ok (.iadd, 1) := by decide +kernel
theorem dX8_lower_17 : decode cX8_lower 17 = .ok (.istore_n 2, 1) := by decide +kernel
theorem dX8_lower_18 : decode cX8_lower 18 = .ok (.iinc 3 1, 3) := by decide +kernel
theorem dX8_lower_21 : decode cX8_lower 21 = .ok (.goto (-17), 3) := by decide +kernel
theorem dX8_lower_24 : decode cX8_lower 24 = .ok (.iload_n 2, 1) := by decide +kernel
theorem dX8_lower_25 : decode cX8_lower 25 = .ok (.ireturn, 1) := by decide +kernel
set_option maxRecDepth 20000 in
theorem ggX8_length_X8_lower : GoodIn wsX8_length wsX8_lower := goodIn_r _ [6, 7, 8, 9, 5, 10, 1, 11, 12, 13, 14, 15, 16, 17, 18, 19, 20, 21] (by decide +kernel) (by decide +kernel)
set_option maxRecDepth 20000 in
theorem gX8_length_X8_lower : GoodIn wsX8_length (wsV RX8 41 RX8 yX8_lower wsX8_lower) := goodIn_app (goodIn_of _ (by decide +kernel)) ggX8_length_X8_lower
theorem dX8_length_0 : decode cX8_length 0 = .ok (.aload_n 0, 1) := by decide +kernel
theorem dX8_length_1 : decode cX8_length 1 = .ok (.aload_n 0, 1) := by decide +kernel
theorem dX8_length_2 : decode cX8_length 2 = .ok (.getfield 7, 3) := by decide +kernel
theorem dX8_length_5 : decode cX8_length 5 = .ok (.bipush 8, 2) := by decide +kernel
theorem dX8_length_7 : decode cX8_length 7 = .ok (.iaload, 1) := by decide +kernel
theorem dX8_length_8 : decode cX8_length 8 = .ok (.invokevirtual 41, 3) := by decide +kernel
theorem dX8_length_11 : decode cX8_length 11 = .ok (.ireturn, 1) := by decide +kernel
set_option maxRecDepth 20000 in
theorem ggX8_segmentOf_X8_lower : GoodIn wsX8_segmentOf wsX8_lower := goodIn_r _ [6, 7, 8, 9, 5, 10, 1, 11, 12, 13, 14, 15, 16, 17, 18, 19, 20, 21] (by decide +kernel) (by decide +kernel)
set_option maxRecDepth 20000 in
theorem gX8_segmentOf_X8_lower : GoodIn wsX8_segmentOf (wsV RX8 41 RX8 yX8_lower wsX8_lower) := goodIn_app (goodIn_of _ (by decide +kernel)) ggX8_segmentOf_X8_lower
theorem dX8_segmentOf_0 : decode cX8_segmentOf 0 = .ok (.iconst 0, 1) := by decide +kernel
theorem dX8_segmentOf_1 : decode cX8_segmentOf 1 = .ok (.istore_n 2, 1) := by decide +kernel
theorem dX8_segmentOf_2 : decode cX8_segmentOf 2 = .ok (.iload_n 2, 1) := by decide +kernel
theorem dX8_segmentOf_3 : decode cX8_segmentOf 3 = .ok (.aload_n 0, 1) := by decide +kernel
theorem dX8_segmentOf_4 : decode cX8_segmentOf 4 = .ok (.getfield 7, 3) := by decide +kernel
theorem dX8_segmentOf_7 : decode cX8_segmentOf 7 = .ok (.bipush 8, 2) := by decide +kernel
theorem dX8_segmentOf_9 : decode cX8_segmentOf 9 = .ok (.iaload, 1) := by decide +kernel
theorem dX8_segmentOf_10 : decode cX8_segmentOf 10 = .ok (.if_icmp .ge 22, 3) := by decide +kernel
theorem dX8_segmentOf_13 : decode cX8_segmentOf 13 = .ok (.iload_n 1, 1) := by decide +kernel
theorem dX8_segmentOf_14 : decode cX8_segmentOf 14 = .ok (.aload_n 0, 1) := by decide +kernel
theorem dX8_segmentOf_15 : decode cX8_segmentOf 15 = .ok (.iload_n 2, 1) := by decide +kernel
theorem dX8_segmentOf_16 : decode cX8_segmentOf 16 = .ok (.iconst 1, 1) := by decide +kernel
theorem dX8_segmentOf_17 : decode cX8_segmentOf 17 = .ok (.iadd, 1) := by decide +kernel
theorem dX8_segmentOf_18 : decode cX8_segmentOf 18 = .ok (.invokevirtual 41, 3) := by decide +kernel
theorem dX8_segmentOf_21 : decode cX8_segmentOf 21 = .ok (.if_icmp .ge 5, 3) := by decide +kernel
theorem dX8_segmentOf_24 : decode cX8_segmentOf 24 = .ok (.iload_n 2, 1) := by decide +kernel
theorem dX8_segmentOf_25 : decode cX8_segmentOf 25 = .ok (.ireturn, 1) := by decide +kernel
theorem dX8_segmentOf_26 : decode cX8_segmentOf 26 = .ok (.iinc 2 1, 3) := by decide +kernel
theorem dX8_segmentOf_29 : decode cX8_segmentOf 29 = .ok (.goto (-27), 3) := by decide +kernel
theorem dX8_segmentOf_32 : decode cX8_segmentOf 32 = .ok (.bipush (-4), 2) := by decide +kernel
theorem dX8_segmentOf_34 : decode cX8_segmentOf 34 = .ok (.ireturn, 1) := by decide +kernel
set_option maxRecDepth 20000 in
theorem ggX8_isDensity_X8_in : GoodIn wsX8_isDensity wsX8_in := goodIn_r _ [4] (by decide +kernel) (by decide +kernel)
set_option maxRecDepth 20000 in
theorem gX8_isDensity_X8_in : GoodIn wsX8_isDensity (va_wsS RX8 33 yX8_in wsX8_in) := goodIn_app (goodIn_of _ (by decide +kernel)) ggX8_isDensity_X8_in
theorem dX8_isDensity_0 : decode cX8_isDensity 0 = .ok (.iload_n 0, 1) := by decide +kernel
theorem dX8_isDensity_1 : decode cX8_isDensity 1 = .ok (.bipush 60, 2) := by decide +kernel
theorem dX8_isDensity_3 : decode cX8_isDensity 3 = .ok (.bipush 92, 2) := by decide +kernel
theorem dX8_isDensity_5 : decode cX8_isDensity 5 = .ok (.invokestatic 33, 3) := by decide +kernel
theorem dX8_isDensity_8 : decode cX8_isDensity 8 = .ok (.ireturn, 1) := by decide +kernel
set_option maxRecDepth 20000 in
theorem ggX8_isKind_X8_isDensity : GoodIn wsX8_isKind wsX8_isDensity := goodIn_r _ [4, 5, 6, 3, 7] (by decide +kernel) (by decide +kernel)
set_option maxRecDepth 20000 in
theorem gX8_isKind_X8_isDensity : GoodIn wsX8_isKind (va_wsS RX8 45 yX8_isDensity wsX8_isDensity) := goodIn_app (goodIn_of _ (by decide +kernel)) ggX8_isKind_X8_isDensity
set_option maxRecDepth 20000 in
theorem ggX8_isKind_X8_in : GoodIn wsX8_isKind wsX8_in := goodIn_r _ [7] (by decide +kernel) (by decide +kernel)
set_option maxRecDepth 20000 in
theorem gX8_isKind_X8_in : GoodIn wsX8_isKind (va_wsS RX8 33 yX8_in wsX8_in) := goodIn_app (goodIn_of _ (by decide +kernel)) ggX8_isKind_X8_in
theorem dX8_isKind_0 : decode cX8_isKind 0 = .ok (.iload_n 0, 1) := by decide +kernel
theorem dX8_isKind_1 : decode cX8_isKind 1 = .ok (.tableswitch 87 0 2 #[27, 50, 64], 27) := by decide +kernel
theorem dX8_isKind_28 : decode cX8_isKind 28 = .ok (.iload_n 1, 1) := by decide +kernel
theorem dX8_isKind_29 : decode cX8_isKind 29 = .ok (.invokestatic 45, 3) := by decide +kernel
theorem dX8_isKind_32 : decode cX8_isKind 32 = .ok (.ifCond .eq 17, 3) := by decide +kernel
theorem dX8_isKind_35 : decode cX8_isKind 35 = .ok (.iload_n 2, 1) := by decide +kernel
theorem dX8_isKind_36 : decode cX8_isKind 36 = .ok (.iconst 0, 1) := by decide +kernel
theorem dX8_isKind_37 : decode cX8_isKind 37 = .ok (.bipush 50, 2) := by decide +kernel
theorem dX8_isKind_39 : decode cX8_isKind 39 = .ok (.invokestatic 33, 3) := by decide +kernel
theorem dX8_isKind_42 : decode cX8_isKind 42 = .ok (.ifCond .eq 7, 3) := by decide +kernel
theorem dX8_isKind_45 : decode cX8_isKind 45 = .ok (.iconst 1, 1) := by decide +kernel
theorem dX8_isKind_46 : decode cX8_isKind 46 = .ok (.goto 4, 3) := by decide +kernel
theorem dX8_isKind_49 : decode cX8_isKind 49 = .ok (.iconst 0, 1) := by decide +kernel
theorem dX8_isKind_50 : decode cX8_isKind 50 = .ok (.ireturn, 1) := by decide +kernel
theorem dX8_isKind_51 : decode cX8_isKind 51 = .ok (.iload_n 1, 1) := by decide +kernel
theorem dX8_isKind_52 : decode cX8_isKind 52 = .ok (.ifCond .ne 11, 3) := by decide +kernel
theorem dX8_isKind_55 : decode cX8_isKind 55 = .ok (.iload_n 2, 1) := by decide +kernel
theorem dX8_isKind_56 : decode cX8_isKind 56 = .ok (.ifCond .ne 7, 3) := by decide +kernel
theorem dX8_isKind_59 : decode cX8_isKind 59 = .ok (.iconst 1, 1) := by decide +kernel
theorem dX8_isKind_60 : decode cX8_isKind 60 = .ok (.goto 4, 3) := by decide +kernel
theorem dX8_isKind_63 : decode cX8_isKind 63 = .ok (.iconst 0, 1) := by decide +kernel
theorem dX8_isKind_64 : decode cX8_isKind 64 = .ok (.ireturn, 1) := by decide +kernel
theorem dX8_isKind_65 : decode cX8_isKind 65 = .ok (.iload_n 1, 1) := by decide +kernel
theorem dX8_isKind_66 : decode cX8_isKind 66 = .ok (.invokestatic 45, 3) := by decide +kernel
theorem dX8_isKind_69 : decode cX8_isKind 69 = .ok (.ifCond .eq 17, 3) := by decide +kernel
theorem dX8_isKind_72 : decode cX8_isKind 72 = .ok (.iload_n 2, 1) := by decide +kernel
theorem dX8_isKind_73 : decode cX8_isKind 73 = .ok (.iconst 1, 1) := by decide +kernel
theorem dX8_isKind_74 : decode cX8_isKind 74 = .ok (.bipush 100, 2) := by decide +kernel
theorem dX8_isKind_76 : decode cX8_isKind 76 = .ok (.invokestatic 33, 3) := by decide +kernel
theorem dX8_isKind_79 : decode cX8_isKind 79 = .ok (.ifCond .eq 7, 3) := by decide +kernel
theorem dX8_isKind_82 : decode cX8_isKind 82 = .ok (.iconst 1, 1) := by decide +kernel
theorem dX8_isKind_83 : decode cX8_isKind 83 = .ok (.goto 4, 3) := by decide +kernel
theorem dX8_isKind_86 : decode cX8_isKind 86 = .ok (.iconst 0, 1) := by decide +kernel
theorem dX8_isKind_87 : decode cX8_isKind 87 = .ok (.ireturn, 1) := by decide +kernel
theorem dX8_isKind_88 : decode cX8_isKind 88 = .ok (.iconst 0, 1) := by decide +kernel
theorem dX8_isKind_89 : decode cX8_isKind 89 = .ok (.ireturn, 1) := by decide +kernel
theorem dX8_puts_0 : decode cX8_puts 0 = .ok (.bipush 46, 2) := by decide +kernel
theorem dX8_puts_2 : decode cX8_puts 2 = .ok (.iconst 4, 1) := by decide +kernel
theorem dX8_puts_3 : decode cX8_puts 3 = .ok (.aload_n 0, 1) := by decide +kernel
theorem dX8_puts_4 : decode cX8_puts 4 = .ok (.getfield 7, 3) := by decide +kernel
theorem dX8_puts_7 : decode cX8_puts 7 = .ok (.bipush 8, 2) := by decide +kernel
theorem dX8_puts_9 : decode cX8_puts 9 = .ok (.iaload, 1) := by decide +kernel
theorem dX8_puts_10 : decode cX8_puts 10 = .ok (.imul, 1) := by decide +kernel
theorem dX8_puts_11 : decode cX8_puts 11 = .ok (.iadd, 1) := by decide +kernel
theorem dX8_puts_12 : decode cX8_puts 12 = .ok (.istore 5, 2) := by decide +kernel
theorem dX8_puts_14 : decode cX8_puts 14 = .ok (.aload_n 0, 1) := by decide +kernel
theorem dX8_puts_15 : decode cX8_puts 15 = .ok (.getfield 7, 3) := by decide +kernel
theorem dX8_puts_18 : decode cX8_puts 18 = .ok (.iload 5, 2) := by decide +kernel
theorem dX8_puts_20 : decode cX8_puts 20 = .ok (.iload_n 1, 1) := by decide +kernel
theorem dX8_puts_21 : decode cX8_puts 21 = .ok (.iastore, 1) := by decide +kernel
theorem dX8_puts_22 : decode cX8_puts 22 = .ok (.aload_n 0, 1) := by decide +kernel
theorem dX8_puts_23 : decode cX8_puts 23 = .ok (.getfield 7, 3) := by decide +kernel
theorem dX8_puts_26 : decode cX8_puts 26 = .ok (.iload 5, 2) := by decide +kernel
theorem dX8_puts_28 : decode cX8_puts 28 = .ok (.iconst 1, 1) := by decide +kernel
theorem dX8_puts_29 : decode cX8_puts 29 = .ok (.iadd, 1) := by decide +kernel
theorem dX8_puts_30 : decode cX8_puts 30 = .ok (.iload_n 2, 1) := by decide +kernel
theorem dX8_puts_31 : decode cX8_puts 31 = .ok (.iastore, 1) := by decide +kernel
theorem dX8_puts_32 : decode cX8_puts 32 = .ok (.aload_n 0, 1) := by decide +kernel
theorem dX8_puts_33 : decode cX8_puts 33 = .ok (.getfield 7, 3) := by decide +kernel
theorem dX8_puts_36 : decode cX8_puts 36 = .ok (.iload 5, 2) := by decide +kernel
theorem dX8_puts_38 : decode cX8_puts 38 = .ok (.iconst 2, 1) := by decide +kernel
theorem dX8_puts_39 : decode cX8_puts 39 = .ok (.iadd, 1) := by decide +kernel
theorem dX8_puts_40 : decode cX8_puts 40 = .ok (.iload_n 3, 1) := by decide +kernel
theorem dX8_puts_41 : decode cX8_puts 41 = .ok (.iastore, 1) := by decide +kernel
theorem dX8_puts_42 : decode cX8_puts 42 = .ok (.aload_n 0, 1) := by decide +kernel
theorem dX8_puts_43 : decode cX8_puts 43 = .ok (.getfield 7, 3) := by decide +kernel
theorem dX8_puts_46 : decode cX8_puts 46 = .ok (.iload 5, 2) := by decide +kernel
theorem dX8_puts_48 : decode cX8_puts 48 = .ok (.iconst 3, 1) := by decide +kernel
theorem dX8_puts_49 : decode cX8_puts 49 = .ok (.iadd, 1) := by decide +kernel
theorem dX8_puts_50 : decode cX8_puts 50 = .ok (.iload 4, 2) := by decide +kernel
theorem dX8_puts_52 : decode cX8_puts 52 = .ok (.iastore, 1) := by decide +kernel
theorem dX8_puts_53 : decode cX8_puts 53 = .ok (.aload_n 0, 1) := by decide +kernel
theorem dX8_puts_54 : decode cX8_puts 54 = .ok (.getfield 7, 3) := by decide +kernel
theorem dX8_puts_57 : decode cX8_puts 57 = .ok (.bipush 8, 2) := by decide +kernel
theorem dX8_puts_59 : decode cX8_puts 59 = .ok (.dup2, 1) := by decide +kernel
theorem dX8_puts_60 : decode cX8_puts 60 = .ok (.iaload, 1) := by decide +kernel
theorem dX8_puts_61 : decode cX8_puts 61 = .ok (.iconst 1, 1) := by decide +kernel
theorem dX8_puts_62 : decode cX8_puts 62 = .ok (.iadd, 1) := by decide +kernel
theorem dX8_puts_63 : decode cX8_puts 63 = .ok (.iastore, 1) := by decide +kernel
theorem dX8_puts_64 : decode cX8_puts 64 = .ok (.return_, 1) := by decide +kernel
set_option maxRecDepth 20000 in
theorem ggX8_addSegment_X8_in : GoodIn wsX8_addSegment wsX8_in := goodIn_r _ [5] (by decide +kernel) (by decide +kernel)
set_option maxRecDepth 20000 in
theorem gX8_addSegment_X8_in : GoodIn wsX8_addSegment (va_wsS RX8 33 yX8_in wsX8_in) := goodIn_app (goodIn_of _ (by decide +kernel)) ggX8_addSegment_X8_in
set_option maxRecDepth 20000 in
theorem ggX8_addSegment_X8_isKind : GoodIn wsX8_addSegment wsX8_isKind := goodIn_r _ [8, 9, 10, 4, 11, 2, 3, 5] (by decide +kernel) (by decide +kernel)
set_option maxRecDepth 20000 in
theorem gX8_addSegment_X8_isKind : GoodIn wsX8_addSegment (va_wsS RX8 49 yX8_isKind wsX8_isKind) := goodIn_app (goodIn_of _ (by decide +kernel)) ggX8_addSegment_X8_isKind
set_option maxRecDepth 20000 in
theorem ggX8_addSegment_X8_record : GoodIn wsX8_addSegment wsX8_record := goodIn_r _ [15, 16, 17, 1, 18, 19, 4, 20, 25, 26, 27, 28, 29, 30, 31, 32, 33, 34, 35] (by decide +kernel) (by decide +kernel)
set_option maxRecDepth 20000 in
theorem gX8_addSegment_X8_record : GoodIn wsX8_addSegment (wsV RX8 52 RX8 yX8_record wsX8_record) := goodIn_app (goodIn_of _ (by decide +kernel)) ggX8_addSegment_X8_record
set_option maxRecDepth 20000 in
theorem ggX8_addSegment_X8_puts : GoodIn wsX8_addSegment wsX8_puts := goodIn_r _ [24, 1, 25, 26, 27, 28, 29, 30, 31, 32, 33, 34, 35] (by decide +kernel) (by decide +kernel)
set_option maxRecDepth 20000 in
theorem gX8_addSegment_X8_puts : GoodIn wsX8_addSegment (wsV RX8 55 RX8 yX8_puts wsX8_puts) := goodIn_app (goodIn_of _ (by decide +kernel)) ggX8_addSegment_X8_puts
theorem dX8_addSegment_0 : decode cX8_addSegment 0 = .ok (.iload_n 2, 1) := by decide +kernel
theorem dX8_addSegment_1 : decode cX8_addSegment 1 = .ok (.iconst 1, 1) := by decide +kernel
theorem dX8_addSegment_2 : decode cX8_addSegment 2 = .ok (.sipush 300, 3) := by decide +kernel
theorem dX8_addSegment_5 : decode cX8_addSegment 5 = .ok (.invokestatic 33, 3) := by decide +kernel
theorem dX8_addSegment_8 : decode cX8_addSegment 8 = .ok (.ifCond .eq 13, 3) := by decide +kernel
theorem dX8_addSegment_11 : decode cX8_addSegment 11 = .ok (.iload_n 1, 1) := by decide +kernel
theorem dX8_addSegment_12 : decode cX8_addSegment 12 = .ok (.iload_n 3, 1) := by decide +kernel
theorem dX8_addSegment_13 : decode cX8_addSegment 13 = .ok (.iload 4, 2) := by decide +kernel
theorem dX8_addSegment_15 : decode cX8_addSegment 15 = .ok (.invokestatic 49, 3) := by decide +kernel
theorem dX8_addSegment_18 : decode cX8_addSegment 18 = .ok (.ifCond .ne 5, 3) := by decide +kernel
theorem dX8_addSegment_21 : decode cX8_addSegment 21 = .ok (.iconst (-1), 1) := by decide +kernel
theorem dX8_addSegment_22 : decode cX8_addSegment 22 = .ok (.ireturn, 1) := by decide +kernel
theorem dX8_addSegment_23 : decode cX8_addSegment 23 = .ok (.aload_n 0, 1) := by decide +kernel
theorem dX8_addSegment_24 : decode cX8_addSegment 24 = .ok (.getfield 7, 3) := by decide +kernel
theorem dX8_addSegment_27 : decode cX8_addSegment 27 = .ok (.bipush 8, 2) := by decide +kernel
theorem dX8_addSegment_29 : decode cX8_addSegment 29 = .ok (.iaload, 1) := by decide +kernel
theorem dX8_addSegment_30 : decode cX8_addSegment 30 = .ok (.bipush 20, 2) := by decide +kernel
theorem dX8_addSegment_32 : decode cX8_addSegment 32 = .ok (.if_icmp .ne 6, 3) := by decide +kernel
theorem dX8_addSegment_35 : decode cX8_addSegment 35 = .ok (.bipush (-3), 2) := by decide +kernel
theorem dX8_addSegment_37 : decode cX8_addSegment 37 = .ok (.ireturn, 1) := by decide +kernel
theorem dX8_addSegment_38 : decode cX8_addSegment 38 = .ok (.aload_n 0, 1) := by decide +kernel
theorem dX8_addSegment_39 : decode cX8_addSegment 39 = .ok (.invokevirtual 52, 3) := by decide +kernel
theorem dX8_addSegment_42 : decode cX8_addSegment 42 = .ok (.aload_n 0, 1) := by decide +kernel
theorem dX8_addSegment_43 : decode cX8_addSegment 43 = .ok (.iload_n 1, 1) := by decide +kernel
theorem dX8_addSegment_44 : decode cX8_addSegment 44 = .ok (.iload_n 2, 1) := by decide +kernel
theorem dX8_addSegment_45 : decode cX8_addSegment 45 = .ok (.iload_n 3, 1) := by decide +kernel
theorem dX8_addSegment_46 : decode cX8_addSegment 46 = .ok (.iload 4, 2) := by decide +kernel
theorem dX8_addSegment_48 : decode cX8_addSegment 48 = .ok (.invokevirtual 55, 3) := by decide +kernel
theorem dX8_addSegment_51 : decode cX8_addSegment 51 = .ok (.aload_n 0, 1) := by decide +kernel
theorem dX8_addSegment_52 : decode cX8_addSegment 52 = .ok (.getfield 7, 3) := by decide +kernel
theorem dX8_addSegment_55 : decode cX8_addSegment 55 = .ok (.bipush 8, 2) := by decide +kernel
theorem dX8_addSegment_57 : decode cX8_addSegment 57 = .ok (.iaload, 1) := by decide +kernel
theorem dX8_addSegment_58 : decode cX8_addSegment 58 = .ok (.iconst 1, 1) := by decide +kernel
theorem dX8_addSegment_59 : decode cX8_addSegment 59 = .ok (.isub, 1) := by decide +kernel
theorem dX8_addSegment_60 : decode cX8_addSegment 60 = .ok (.ireturn, 1) := by decide +kernel
set_option maxRecDepth 20000 in
theorem ggX8_melted_X8_lower : GoodIn wsX8_melted wsX8_lower := goodIn_r _ [6, 7, 8, 9, 5, 10, 1, 14, 15, 16, 17, 18, 19, 20, 21, 22, 23, 24] (by decide +kernel) (by decide +kernel)
set_option maxRecDepth 20000 in
theorem gX8_melted_X8_lower : GoodIn wsX8_melted (wsV RX8 41 RX8 yX8_lower wsX8_lower) := goodIn_app (goodIn_of _ (by decide +kernel)) ggX8_melted_X8_lower
set_option maxRecDepth 20000 in
theorem ggX8_melted_X8_of : GoodIn wsX8_melted wsX8_of := goodIn_r _ [10, 1, 14, 15, 16, 17, 18, 19, 20, 21, 22, 23, 24] (by decide +kernel) (by decide +kernel)
set_option maxRecDepth 20000 in
theorem gX8_melted_X8_of : GoodIn wsX8_melted (wsV RX8 37 RX8 yX8_of wsX8_of) := goodIn_app (goodIn_of _ (by decide +kernel)) ggX8_melted_X8_of
set_option maxRecDepth 20000 in
theorem ggX8_melted_X8_lesser : GoodIn wsX8_melted wsX8_lesser := goodIn_r _ [13] (by decide +kernel) (by decide +kernel)
set_option maxRecDepth 20000 in
theorem gX8_melted_X8_lesser : GoodIn wsX8_melted (va_wsS RX8 59 yX8_lesser wsX8_lesser) := goodIn_app (goodIn_of _ (by decide +kernel)) ggX8_melted_X8_lesser
theorem dX8_melted_0 : decode cX8_melted 0 = .ok (.aload_n 0, 1) := by decide +kernel
theorem dX8_melted_1 : decode cX8_melted 1 = .ok (.getfield 7, 3) := by decide +kernel
theorem dX8_melted_4 : decode cX8_melted 4 = .ok (.bipush 9, 2) := by decide +kernel
theorem dX8_melted_6 : decode cX8_melted 6 = .ok (.iaload, 1) := by decide +kernel
theorem dX8_melted_7 : decode cX8_melted 7 = .ok (.aload_n 0, 1) := by decide +kernel
theorem dX8_melted_8 : decode cX8_melted 8 = .ok (.iload_n 1, 1) := by decide +kernel
theorem dX8_melted_9 : decode cX8_melted 9 = .ok (.invokevirtual 41, 3) := by decide +kernel
theorem dX8_melted_12 : decode cX8_melted 12 = .ok (.isub, 1) := by decide +kernel
theorem dX8_melted_13 : decode cX8_melted 13 = .ok (.istore_n 2, 1) := by decide +kernel
theorem dX8_melted_14 : decode cX8_melted 14 = .ok (.iload_n 2, 1) := by decide +kernel
theorem dX8_melted_15 : decode cX8_melted 15 = .ok (.ifCond .ge 7, 3) := by decide +kernel
theorem dX8_melted_18 : decode cX8_melted 18 = .ok (.iconst 0, 1) := by decide +kernel
theorem dX8_melted_19 : decode cX8_melted 19 = .ok (.goto 13, 3) := by decide +kernel
theorem dX8_melted_22 : decode cX8_melted 22 = .ok (.iload_n 2, 1) := by decide +kernel
theorem dX8_melted_23 : decode cX8_melted 23 = .ok (.aload_n 0, 1) := by decide +kernel
theorem dX8_melted_24 : decode cX8_melted 24 = .ok (.iload_n 1, 1) := by decide +kernel
theorem dX8_melted_25 : decode cX8_melted 25 = .ok (.iconst 1, 1) := by decide +kernel
theorem dX8_melted_26 : decode cX8_melted 26 = .ok (.invokevirtual 37, 3) := by decide +kernel
theorem dX8_melted_29 : decode cX8_melted 29 = .ok (.invokestatic 59, 3) := by decide +kernel
theorem dX8_melted_32 : decode cX8_melted 32 = .ok (.ireturn, 1) := by decide +kernel
set_option maxRecDepth 20000 in
theorem ggX8_segment_X8_isSegment : GoodIn wsX8_segment wsX8_isSegment := goodIn_r _ [5, 6, 7, 8, 4, 9, 25, 26, 27, 28, 29, 30, 31, 32, 33, 34, 35] (by decide +kernel) (by decide +kernel)
set_option maxRecDepth 20000 in
theorem gX8_segment_X8_isSegment : GoodIn wsX8_segment (wsV RX8 62 RX8 yX8_isSegment wsX8_isSegment) := goodIn_app (goodIn_of _ (by decide +kernel)) ggX8_segment_X8_isSegment
set_option maxRecDepth 20000 in
theorem ggX8_segment_X8_in : GoodIn wsX8_segment wsX8_in := goodIn_r _ [9] (by decide +kernel) (by decide +kernel)
set_option maxRecDepth 20000 in
theorem gX8_segment_X8_in : GoodIn wsX8_segment (va_wsS RX8 33 yX8_in wsX8_in) := goodIn_app (goodIn_of _ (by decide +kernel)) ggX8_segment_X8_in
set_option maxRecDepth 20000 in
theorem ggX8_segment_X8_of : GoodIn wsX8_segment wsX8_of := goodIn_r _ [13, 6, 25, 26, 27, 28, 29, 30, 31, 32, 33, 34, 35] (by decide +kernel) (by decide +kernel)
set_option maxRecDepth 20000 in
theorem gX8_segment_X8_of : GoodIn wsX8_segment (wsV RX8 37 RX8 yX8_of wsX8_of) := goodIn_app (goodIn_of _ (by decide +kernel)) ggX8_segment_X8_of
set_option maxRecDepth 20000 in
theorem ggX8_segment_X8_lower : GoodIn wsX8_segment wsX8_lower := goodIn_r _ [17, 10, 11, 12, 4, 13, 6, 25, 26, 27, 28, 29, 30, 31, 32, 33, 34, 35] (by decide +kernel) (by decide +kernel)
set_option maxRecDepth 20000 in
theorem gX8_segment_X8_lower : GoodIn wsX8_segment (wsV RX8 41 RX8 yX8_lower wsX8_lower) := goodIn_app (goodIn_of _ (by decide +kernel)) ggX8_segment_X8_lower
set_option maxRecDepth 20000 in
theorem ggX8_segment_X8_melted : GoodIn wsX8_segment wsX8_melted := goodIn_r _ [21, 6, 14, 15, 16, 4, 17, 10, 11, 12, 13, 22, 23, 24, 25, 26, 27, 28, 29, 30, 31, 32, 33, 34, 35] (by decide +kernel) (by decide +kernel)
set_option maxRecDepth 20000 in
theorem gX8_segment_X8_melted : GoodIn wsX8_segment (wsV RX8 65 RX8 yX8_melted wsX8_melted) := goodIn_app (goodIn_of _ (by decide +kernel)) ggX8_segment_X8_melted
theorem dX8_segment_0 : decode cX8_segment 0 = .ok (.aload_n 0, 1) := by decide +kernel
theorem dX8_segment_1 : decode cX8_segment 1 = .ok (.iload_n 1, 1) := by decide +kernel
theorem dX8_segment_2 : decode cX8_segment 2 = .ok (.invokevirtual 62, 3) := by decide +kernel
theorem dX8_segment_5 : decode cX8_segment 5 = .ok (.ifCond .eq 12, 3) := by decide +kernel
theorem dX8_segment_8 : decode cX8_segment 8 = .ok (.iload_n 2, 1) := by decide +kernel
theorem dX8_segment_9 : decode cX8_segment 9 = .ok (.iconst 0, 1) := by decide +kernel
theorem dX8_segment_10 : decode cX8_segment 10 = .ok (.iconst 5, 1) := by decide +kernel
theorem dX8_segment_11 : decode cX8_segment 11 = .ok (.invokestatic 33, 3) := by decide +kernel
theorem dX8_segment_14 : decode cX8_segment 14 = .ok (.ifCond .ne 5, 3) := by decide +kernel
theorem dX8_segment_17 : decode cX8_segment 17 = .ok (.iconst (-1), 1) := by decide +kernel
theorem dX8_segment_18 : decode cX8_segment 18 = .ok (.ireturn, 1) := by decide +kernel
theorem dX8_segment_19 : decode cX8_segment 19 = .ok (.iload_n 2, 1) := by decide +kernel
theorem dX8_segment_20 : decode cX8_segment 20 = .ok (.iconst 4, 1) := by decide +kernel
theorem dX8_segment_21 : decode cX8_segment 21 = .ok (.if_icmp .ge 12, 3) := by decide +kernel
theorem dX8_segment_24 : decode cX8_segment 24 = .ok (.aload_n 0, 1) := by decide +kernel
theorem dX8_segment_25 : decode cX8_segment 25 = .ok (.iload_n 1, 1) := by decide +kernel
theorem dX8_segment_26 : decode cX8_segment 26 = .ok (.iload_n 2, 1) := by decide +kernel
theorem dX8_segment_27 : decode cX8_segment 27 = .ok (.invokevirtual 37, 3) := by decide +kernel
theorem dX8_segment_30 : decode cX8_segment 30 = .ok (.goto 21, 3) := by decide +kernel
theorem dX8_segment_33 : decode cX8_segment 33 = .ok (.iload_n 2, 1) := by decide +kernel
theorem dX8_segment_34 : decode cX8_segment 34 = .ok (.iconst 4, 1) := by decide +kernel
theorem dX8_segment_35 : decode cX8_segment 35 = .ok (.if_icmp .ne 11, 3) := by decide +kernel
theorem dX8_segment_38 : decode cX8_segment 38 = .ok (.aload_n 0, 1) := by decide +kernel
theorem dX8_segment_39 : decode cX8_segment 39 = .ok (.iload_n 1, 1) := by decide +kernel
theorem dX8_segment_40 : decode cX8_segment 40 = .ok (.invokevirtual 41, 3) := by decide +kernel
theorem dX8_segment_43 : decode cX8_segment 43 = .ok (.goto 8, 3) := by decide +kernel
theorem dX8_segment_46 : decode cX8_segment 46 = .ok (.aload_n 0, 1) := by decide +kernel
theorem dX8_segment_47 : decode cX8_segment 47 = .ok (.iload_n 1, 1) := by decide +kernel
theorem dX8_segment_48 : decode cX8_segment 48 = .ok (.invokevirtual 65, 3) := by decide +kernel
theorem dX8_segment_51 : decode cX8_segment 51 = .ok (.ireturn, 1) := by decide +kernel
set_option maxRecDepth 20000 in
theorem ggX8_segmentAt_X8_segmentOf : GoodIn wsX8_segmentAt wsX8_segmentOf := goodIn_r _ [5, 6, 7, 8, 9, 4, 10, 11, 12, 13, 14, 15, 16, 17, 18, 19, 20, 21, 22, 23, 24, 25] (by decide +kernel) (by decide +kernel)
set_option maxRecDepth 20000 in
theorem gX8_segmentAt_X8_segmentOf : GoodIn wsX8_segmentAt (wsV RX8 68 RX8 yX8_segmentOf wsX8_segmentOf) := goodIn_app (goodIn_of _ (by decide +kernel)) ggX8_segmentAt_X8_segmentOf
theorem dX8_segmentAt_0 : decode cX8_segmentAt 0 = .ok (.iload_n 1, 1) := by decide +kernel
theorem dX8_segmentAt_1 : decode cX8_segmentAt 1 = .ok (.ifCond .ge 7, 3) := by decide +kernel
theorem dX8_segmentAt_4 : decode cX8_segmentAt 4 = .ok (.iconst (-1), 1) := by decide +kernel
theorem dX8_segmentAt_5 : decode cX8_segmentAt 5 = .ok (.goto 8, 3) := by decide +kernel
theorem dX8_segmentAt_8 : decode cX8_segmentAt 8 = .ok (.aload_n 0, 1) := by decide +kernel
theorem dX8_segmentAt_9 : decode cX8_segmentAt 9 = .ok (.iload_n 1, 1) := by decide +kernel
theorem dX8_segmentAt_10 : decode cX8_segmentAt 10 = .ok (.invokevirtual 68, 3) := by decide +kernel
theorem dX8_segmentAt_13 : decode cX8_segmentAt 13 = .ok (.ireturn, 1) := by decide +kernel
set_option maxRecDepth 20000 in
theorem ggX8_water_X8_of : GoodIn wsX8_water wsX8_of := goodIn_r _ [6, 1, 10, 11, 12, 13, 14, 15, 16, 17, 18, 19, 20] (by decide +kernel) (by decide +kernel)
set_option maxRecDepth 20000 in
theorem gX8_water_X8_of : GoodIn wsX8_water (wsV RX8 37 RX8 yX8_of wsX8_of) := goodIn_app (goodIn_of _ (by decide +kernel)) ggX8_water_X8_of
set_option maxRecDepth 20000 in
theorem ggX8_water_X8_lesser : GoodIn wsX8_water wsX8_lesser := goodIn_r _ [9] (by decide +kernel) (by decide +kernel)
set_option maxRecDepth 20000 in
theorem gX8_water_X8_lesser : GoodIn wsX8_water (va_wsS RX8 59 yX8_lesser wsX8_lesser) := goodIn_app (goodIn_of _ (by decide +kernel)) ggX8_water_X8_lesser
theorem dX8_water_0 : decode cX8_water 0 = .ok (.iconst 0, 1) := by decide +kernel
theorem dX8_water_1 : decode cX8_water 1 = .ok (.istore_n 2, 1) := by decide +kernel
theorem dX8_water_2 : decode cX8_water 2 = .ok (.iconst 0, 1) := by decide +kernel
theorem dX8_water_3 : decode cX8_water 3 = .ok (.istore_n 3, 1) := by decide +kernel
theorem dX8_water_4 : decode cX8_water 4 = .ok (.iconst 0, 1) := by decide +kernel
theorem dX8_water_5 : decode cX8_water 5 = .ok (.istore 4, 2) := by decide +kernel
theorem dX8_water_7 : decode cX8_water 7 = .ok (.iload 4, 2) := by decide +kernel
theorem dX8_water_9 : decode cX8_water 9 = .ok (.aload_n 0, 1) := by decide +kernel
theorem dX8_water_10 : decode cX8_water 10 = .ok (.getfield 7, 3) := by decide +kernel
theorem dX8_water_13 : decode cX8_water 13 = .ok (.bipush 8, 2) := by decide +kernel
theorem dX8_water_15 : decode cX8_water 15 = .ok (.iaload, 1) := by decide +kernel
theorem dX8_water_16 : decode cX8_water 16 = .ok (.if_icmp .ge 48, 3) := by decide +kernel
theorem dX8_water_19 : decode cX8_water 19 = .ok (.iload_n 3, 1) := by decide +kernel
theorem dX8_water_20 : decode cX8_water 20 = .ok (.iload_n 1, 1) := by decide +kernel
theorem dX8_water_21 : decode cX8_water 21 = .ok (.if_icmp .ge 43, 3) := by decide +kernel
theorem dX8_water_24 : decode cX8_water 24 = .ok (.iload_n 2, 1) := by decide +kernel
theorem dX8_water_25 : decode cX8_water 25 = .ok (.aload_n 0, 1) := by decide +kernel
theorem dX8_water_26 : decode cX8_water 26 = .ok (.iload 4, 2) := by decide +kernel
theorem dX8_water_28 : decode cX8_water 28 = .ok (.iconst 1, 1) := by decide +kernel
theorem dX8_water_29 : decode cX8_water 29 = .ok (.invokevirtual 37, 3) := by decide +kernel
theorem dX8_water_32 : decode cX8_water 32 = .ok (.iload_n 1, 1) := by decide +kernel
theorem dX8_water_33 : decode cX8_water 33 = .ok (.iload_n 3, 1) := by decide +kernel
theorem dX8_water_34 : decode cX8_water 34 = .ok (.isub, 1) := by decide +kernel
theorem dX8_water_35 : decode cX8_water 35 = .ok (.invokestatic 59, 3) := by decide +kernel
theorem dX8_water_38 : decode cX8_water 38 = .ok (.aload_n 0, 1) := by decide +kernel
theorem dX8_water_39 : decode cX8_water 39 = .ok (.iload 4, 2) := by decide +kernel
theorem dX8_water_41 : decode cX8_water 41 = .ok (.iconst 2, 1) := by decide +kernel
theorem dX8_water_42 : decode cX8_water 42 = .ok (.invokevirtual 37, 3) := by decide +kernel
theorem dX8_water_45 : decode cX8_water 45 = .ok (.imul, 1) := by decide +kernel
theorem dX8_water_46 : decode cX8_water 46 = .ok (.iadd, 1) := by decide +kernel
theorem dX8_water_47 : decode cX8_water 47 = .ok (.istore_n 2, 1) := by decide +kernel
theorem dX8_water_48 : decode cX8_water 48 = .ok (.iload_n 3, 1) := by decide +kernel
theorem dX8_water_49 : decode cX8_water 49 = .ok (.aload_n 0, 1) := by decide +kernel
theorem dX8_water_50 : decode cX8_water 50 = .ok (.iload 4, 2) := by decide +kernel
theorem dX8_water_52 : decode cX8_water 52 = .ok (.iconst 1, 1) := by decide +kernel
theorem dX8_water_53 : decode cX8_water 53 = .ok (.invokevirtual 37, 3) := by decide +kernel
theorem dX8_water_56 : decode cX8_water 56 = .ok (.iadd, 1) := by decide +kernel
theorem dX8_water_57 : decode cX8_water 57 = .ok (.istore_n 3, 1) := by decide +kernel
theorem dX8_water_58 : decode cX8_water 58 = .ok (.iinc 4 1, 3) := by decide +kernel
theorem dX8_water_61 : decode cX8_water 61 = .ok (.goto (-54), 3) := by decide +kernel
theorem dX8_water_64 : decode cX8_water 64 = .ok (.iload_n 2, 1) := by decide +kernel
theorem dX8_water_65 : decode cX8_water 65 = .ok (.ireturn, 1) := by decide +kernel
set_option maxRecDepth 20000 in
theorem ggX8_waterBelow_X8_length : GoodIn wsX8_waterBelow wsX8_length := goodIn_r _ [5, 6, 7, 8, 9, 4, 10, 11, 12, 13, 14, 25, 26, 27, 28, 29, 30, 31, 32, 33, 34, 35] (by decide +kernel) (by decide +kernel)
set_option maxRecDepth 20000 in
theorem gX8_waterBelow_X8_length : GoodIn wsX8_waterBelow (wsV RX8 71 RX8 yX8_length wsX8_length) := goodIn_app (goodIn_of _ (by decide +kernel)) ggX8_waterBelow_X8_length
set_option maxRecDepth 20000 in
theorem ggX8_waterBelow_X8_in : GoodIn wsX8_waterBelow wsX8_in := goodIn_r _ [17] (by decide +kernel) (by decide +kernel)
set_option maxRecDepth 20000 in
theorem gX8_waterBelow_X8_in : GoodIn wsX8_waterBelow (va_wsS RX8 33 yX8_in wsX8_in) := goodIn_app (goodIn_of _ (by decide +kernel)) ggX8_waterBelow_X8_in
set_option maxRecDepth 20000 in
theorem ggX8_waterBelow_X8_water : GoodIn wsX8_waterBelow wsX8_water := goodIn_r _ [21, 6, 11, 12, 13, 4, 14, 22, 23, 24, 25, 26, 27, 28, 29, 30, 31, 32, 33, 34, 35] (by decide +kernel) (by decide +kernel)
set_option maxRecDepth 20000 in
theorem gX8_waterBelow_X8_water : GoodIn wsX8_waterBelow (wsV RX8 75 RX8 yX8_water wsX8_water) := goodIn_app (goodIn_of _ (by decide +kernel)) ggX8_waterBelow_X8_water
theorem dX8_waterBelow_0 : decode cX8_waterBelow 0 = .ok (.iload_n 1, 1) := by decide +kernel
theorem dX8_waterBelow_1 : decode cX8_waterBelow 1 = .ok (.iconst 0, 1) := by decide +kernel
theorem dX8_waterBelow_2 : decode cX8_waterBelow 2 = .ok (.aload_n 0, 1) := by decide +kernel
theorem dX8_waterBelow_3 : decode cX8_waterBelow 3 = .ok (.invokevirtual 71, 3) := by decide +kernel
theorem dX8_waterBelow_6 : decode cX8_waterBelow 6 = .ok (.invokestatic 33, 3) := by decide +kernel
theorem dX8_waterBelow_9 : decode cX8_waterBelow 9 = .ok (.ifCond .eq 11, 3) := by decide +kernel
theorem dX8_waterBelow_12 : decode cX8_waterBelow 12 = .ok (.aload_n 0, 1) := by decide +kernel
theorem dX8_waterBelow_13 : decode cX8_waterBelow 13 = .ok (.iload_n 1, 1) := by decide +kernel
theorem dX8_waterBelow_14 : decode cX8_waterBelow 14 = .ok (.invokevirtual 75, 3) := by decide +kernel
theorem dX8_waterBelow_17 : decode cX8_waterBelow 17 = .ok (.goto 4, 3) := by decide +kernel
theorem dX8_waterBelow_20 : decode cX8_waterBelow 20 = .ok (.iconst (-1), 1) := by decide +kernel
theorem dX8_waterBelow_21 : decode cX8_waterBelow 21 = .ok (.ireturn, 1) := by decide +kernel
set_option maxRecDepth 20000 in
theorem ggX8_renew_X8_record : GoodIn wsX8_renew wsX8_record := goodIn_r _ [6, 7, 8, 1, 9, 10, 5, 11, 12, 13, 14, 15, 16, 17, 18, 19, 20, 21, 22] (by decide +kernel) (by decide +kernel)
set_option maxRecDepth 20000 in
theorem gX8_renew_X8_record : GoodIn wsX8_renew (wsV RX8 52 RX8 yX8_record wsX8_record) := goodIn_app (goodIn_of _ (by decide +kernel)) ggX8_renew_X8_record
theorem dX8_renew_0 : decode cX8_renew 0 = .ok (.aload_n 0, 1) := by decide +kernel
theorem dX8_renew_1 : decode cX8_renew 1 = .ok (.invokevirtual 52, 3) := by decide +kernel
theorem dX8_renew_4 : decode cX8_renew 4 = .ok (.aload_n 0, 1) := by decide +kernel
theorem dX8_renew_5 : decode cX8_renew 5 = .ok (.getfield 7, 3) := by decide +kernel
theorem dX8_renew_8 : decode cX8_renew 8 = .ok (.bipush 9, 2) := by decide +kernel
theorem dX8_renew_10 : decode cX8_renew 10 = .ok (.iaload, 1) := by decide +kernel
theorem dX8_renew_11 : decode cX8_renew 11 = .ok (.istore_n 1, 1) := by decide +kernel
theorem dX8_renew_12 : decode cX8_renew 12 = .ok (.bipush 9, 2) := by decide +kernel
theorem dX8_renew_14 : decode cX8_renew 14 = .ok (.istore_n 2, 1) := by decide +kernel
theorem dX8_renew_15 : decode cX8_renew 15 = .ok (.iload_n 2, 1) := by decide +kernel
theorem dX8_renew_16 : decode cX8_renew 16 = .ok (.bipush 46, 2) := by decide +kernel
theorem dX8_renew_18 : decode cX8_renew 18 = .ok (.if_icmp .ge 16, 3) := by decide +kernel
theorem dX8_renew_21 : decode cX8_renew 21 = .ok (.aload_n 0, 1) := by decide +kernel
theorem dX8_renew_22 : decode cX8_renew 22 = .ok (.getfield 7, 3) := by decide +kernel
theorem dX8_renew_25 : decode cX8_renew 25 = .ok (.iload_n 2, 1) := by decide +kernel
theorem dX8_renew_26 : decode cX8_renew 26 = .ok (.iconst 0, 1) := by decide +kernel
theorem dX8_renew_27 : decode cX8_renew 27 = .ok (.iastore, 1) := by decide +kernel
theorem dX8_renew_28 : decode cX8_renew 28 = .ok (.iinc 2 1, 3) := by decide +kernel
theorem dX8_renew_31 : decode cX8_renew 31 = .ok (.goto (-16), 3) := by decide +kernel
theorem dX8_renew_34 : decode cX8_renew 34 = .ok (.iload_n 1, 1) := by decide +kernel
theorem dX8_renew_35 : decode cX8_renew 35 = .ok (.ireturn, 1) := by decide +kernel
set_option maxRecDepth 20000 in
theorem ggX8_undo_X8_bring : GoodIn wsX8_undo wsX8_bring := goodIn_r _ [7] (by decide +kernel) (by decide +kernel)
set_option maxRecDepth 20000 in
theorem gX8_undo_X8_bring : GoodIn wsX8_undo (va_wsS RX8 29 yX8_bring wsX8_bring) := goodIn_app (goodIn_of _ (by decide +kernel)) ggX8_undo_X8_bring
theorem dX8_undo_0 : decode cX8_undo 0 = .ok (.aload_n 0, 1) := by decide +kernel
theorem dX8_undo_1 : decode cX8_undo 1 = .ok (.getfield 25, 3) := by decide +kernel
theorem dX8_undo_4 : decode cX8_undo 4 = .ok (.ifCond .ne 6, 3) := by decide +kernel
theorem dX8_undo_7 : decode cX8_undo 7 = .ok (.bipush (-2), 2) := by decide +kernel
theorem dX8_undo_9 : decode cX8_undo 9 = .ok (.ireturn, 1) := by decide +kernel
theorem dX8_undo_10 : decode cX8_undo 10 = .ok (.aload_n 0, 1) := by decide +kernel
theorem dX8_undo_11 : decode cX8_undo 11 = .ok (.dup, 1) := by decide +kernel
theorem dX8_undo_12 : decode cX8_undo 12 = .ok (.getfield 25, 3) := by decide +kernel
theorem dX8_undo_15 : decode cX8_undo 15 = .ok (.iconst 1, 1) := by decide +kernel
theorem dX8_undo_16 : decode cX8_undo 16 = .ok (.isub, 1) := by decide +kernel
theorem dX8_undo_17 : decode cX8_undo 17 = .ok (.putfield 25, 3) := by decide +kernel
theorem dX8_undo_20 : decode cX8_undo 20 = .ok (.aload_n 0, 1) := by decide +kernel
theorem dX8_undo_21 : decode cX8_undo 21 = .ok (.getfield 16, 3) := by decide +kernel
theorem dX8_undo_24 : decode cX8_undo 24 = .ok (.sipush 246, 3) := by decide +kernel
theorem dX8_undo_27 : decode cX8_undo 27 = .ok (.aload_n 0, 1) := by decide +kernel
theorem dX8_undo_28 : decode cX8_undo 28 = .ok (.getfield 25, 3) := by decide +kernel
theorem dX8_undo_31 : decode cX8_undo 31 = .ok (.imul, 1) := by decide +kernel
theorem dX8_undo_32 : decode cX8_undo 32 = .ok (.aload_n 0, 1) := by decide +kernel
theorem dX8_undo_33 : decode cX8_undo 33 = .ok (.getfield 7, 3) := by decide +kernel
theorem dX8_undo_36 : decode cX8_undo 36 = .ok (.iconst 0, 1) := by decide +kernel
theorem dX8_undo_37 : decode cX8_undo 37 = .ok (.invokestatic 29, 3) := by decide +kernel
theorem dX8_undo_40 : decode cX8_undo 40 = .ok (.aload_n 0, 1) := by decide +kernel
theorem dX8_undo_41 : decode cX8_undo 41 = .ok (.getfield 25, 3) := by decide +kernel
theorem dX8_undo_44 : decode cX8_undo 44 = .ok (.ireturn, 1) := by decide +kernel
set_option maxRecDepth 20000 in
theorem ggX8_isSetting_X8_in : GoodIn wsX8_isSetting wsX8_in := goodIn_r _ [4] (by decide +kernel) (by decide +kernel)
set_option maxRecDepth 20000 in
theorem gX8_isSetting_X8_in : GoodIn wsX8_isSetting (va_wsS RX8 33 yX8_in wsX8_in) := goodIn_app (goodIn_of _ (by decide +kernel)) ggX8_isSetting_X8_in
theorem dX8_isSetting_0 : decode cX8_isSetting 0 = .ok (.iload_n 0, 1) := by decide +kernel
theorem dX8_isSetting_1 : decode cX8_isSetting 1 = .ok (.tableswitch 112 0 7 #[47, 56, 66, 76, 85, 95, 85, 104], 47) := by decide +kernel
theorem dX8_isSetting_48 : decode cX8_isSetting 48 = .ok (.iload_n 1, 1) := by decide +kernel
theorem dX8_isSetting_49 : decode cX8_isSetting 49 = .ok (.iconst 0, 1) := by decide +kernel
theorem dX8_isSetting_50 : decode cX8_isSetting 50 = .ok (.sipush 200, 3) := by decide +kernel
theorem dX8_isSetting_53 : decode cX8_isSetting 53 = .ok (.invokestatic 33, 3) := by decide +kernel
theorem dX8_isSetting_56 : decode cX8_isSetting 56 = .ok (.ireturn, 1) := by decide +kernel
theorem dX8_isSetting_57 : decode cX8_isSetting 57 = .ok (.iload_n 1, 1) := by decide +kernel
theorem dX8_isSetting_58 : decode cX8_isSetting 58 = .ok (.bipush 10, 2) := by decide +kernel
theorem dX8_isSetting_60 : decode cX8_isSetting 60 = .ok (.sipush 200, 3) := by decide +kernel
theorem dX8_isSetting_63 : decode cX8_isSetting 63 = .ok (.invokestatic 33, 3) := by decide +kernel
theorem dX8_isSetting_66 : decode cX8_isSetting 66 = .ok (.ireturn, 1) := by decide +kernel
theorem dX8_isSetting_67 : decode cX8_isSetting 67 = .ok (.iload_n 1, 1) := by decide +kernel
theorem dX8_isSetting_68 : decode cX8_isSetting 68 = .ok (.bipush 100, 2) := by decide +kernel
theorem dX8_isSetting_70 : decode cX8_isSetting 70 = .ok (.sipush 20000, 3) := by decide +kernel
theorem dX8_isSetting_73 : decode cX8_isSetting 73 = .ok (.invokestatic 33, 3) := by decide +kernel
theorem dX8_isSetting_76 : decode cX8_isSetting 76 = .ok (.ireturn, 1) := by decide +kernel
theorem dX8_isSetting_77 : decode cX8_isSetting 77 = .ok (.iload_n 1, 1) := by decide +kernel
theorem dX8_isSetting_78 : decode cX8_isSetting 78 = .ok (.iconst 1, 1) := by decide +kernel
theorem dX8_isSetting_79 : decode cX8_isSetting 79 = .ok (.sipush 500, 3) := by decide +kernel
theorem dX8_isSetting_82 : decode cX8_isSetting 82 = .ok (.invokestatic 33, 3) := by decide +kernel
theorem dX8_isSetting_85 : decode cX8_isSetting 85 = .ok (.ireturn, 1) := by decide +kernel
theorem dX8_isSetting_86 : decode cX8_isSetting 86 = .ok (.iload_n 1, 1) := by decide +kernel
theorem dX8_isSetting_87 : decode cX8_isSetting 87 = .ok (.bipush 50, 2) := by decide +kernel
theorem dX8_isSetting_89 : decode cX8_isSetting 89 = .ok (.sipush 5000, 3) := by decide +kernel
theorem dX8_isSetting_92 : decode cX8_isSetting 92 = .ok (.invokestatic 33, 3) := by decide +kernel
theorem dX8_isSetting_95 : decode cX8_isSetting 95 = .ok (.ireturn, 1) := by decide +kernel
theorem dX8_isSetting_96 : decode cX8_isSetting 96 = .ok (.iload_n 1, 1) := by decide +kernel
theorem dX8_isSetting_97 : decode cX8_isSetting 97 = .ok (.iconst 5, 1) := by decide +kernel
theorem dX8_isSetting_98 : decode cX8_isSetting 98 = .ok (.sipush 200, 3) := by decide +kernel
theorem dX8_isSetting_101 : decode cX8_isSetting 101 = .ok (.invokestatic 33, 3) := by decide +kernel
theorem dX8_isSetting_104 : decode cX8_isSetting 104 = .ok (.ireturn, 1) := by decide +kernel
theorem dX8_isSetting_105 : decode cX8_isSetting 105 = .ok (.iload_n 1, 1) := by decide +kernel
theorem dX8_isSetting_106 : decode cX8_isSetting 106 = .ok (.iconst 0, 1) := by decide +kernel
theorem dX8_isSetting_107 : decode cX8_isSetting 107 = .ok (.bipush 50, 2) := by decide +kernel
theorem dX8_isSetting_109 : decode cX8_isSetting 109 = .ok (.invokestatic 33, 3) := by decide +kernel
theorem dX8_isSetting_112 : decode cX8_isSetting 112 = .ok (.ireturn, 1) := by decide +kernel
theorem dX8_isSetting_113 : decode cX8_isSetting 113 = .ok (.iconst 0, 1) := by decide +kernel
theorem dX8_isSetting_114 : decode cX8_isSetting 114 = .ok (.ireturn, 1) := by decide +kernel
set_option maxRecDepth 20000 in
theorem ggX8_set_X8_isSetting : GoodIn wsX8_set wsX8_isSetting := goodIn_r _ [5, 6, 7, 4, 8] (by decide +kernel) (by decide +kernel)
set_option maxRecDepth 20000 in
theorem gX8_set_X8_isSetting : GoodIn wsX8_set (va_wsS RX8 78 yX8_isSetting wsX8_isSetting) := goodIn_app (goodIn_of _ (by decide +kernel)) ggX8_set_X8_isSetting
set_option maxRecDepth 20000 in
theorem ggX8_set_X8_record : GoodIn wsX8_set wsX8_record := goodIn_r _ [12, 13, 14, 1, 15, 16, 4, 17, 18, 19, 20, 21, 22, 23, 24, 25, 26, 27, 28] (by decide +kernel) (by decide +kernel)
set_option maxRecDepth 20000 in
theorem gX8_set_X8_record : GoodIn wsX8_set (wsV RX8 52 RX8 yX8_record wsX8_record) := goodIn_app (goodIn_of _ (by decide +kernel)) ggX8_set_X8_record
theorem dX8_set_0 : decode cX8_set 0 = .ok (.iload_n 1, 1) := by decide +kernel
theorem dX8_set_1 : decode cX8_set 1 = .ok (.iload_n 2, 1) := by decide +kernel
theorem dX8_set_2 : decode cX8_set 2 = .ok (.invokestatic 78, 3) := by decide +kernel
theorem dX8_set_5 : decode cX8_set 5 = .ok (.ifCond .ne 5, 3) := by decide +kernel
theorem dX8_set_8 : decode cX8_set 8 = .ok (.iconst (-1), 1) := by decide +kernel
theorem dX8_set_9 : decode cX8_set 9 = .ok (.ireturn, 1) := by decide +kernel
theorem dX8_set_10 : decode cX8_set 10 = .ok (.aload_n 0, 1) := by decide +kernel
theorem dX8_set_11 : decode cX8_set 11 = .ok (.invokevirtual 52, 3) := by decide +kernel
theorem dX8_set_14 : decode cX8_set 14 = .ok (.aload_n 0, 1) := by decide +kernel
theorem dX8_set_15 : decode cX8_set 15 = .ok (.getfield 7, 3) := by decide +kernel
theorem dX8_set_18 : decode cX8_set 18 = .ok (.iload_n 1, 1) := by decide +kernel
theorem dX8_set_19 : decode cX8_set 19 = .ok (.iaload, 1) := by decide +kernel
theorem dX8_set_20 : decode cX8_set 20 = .ok (.istore_n 3, 1) := by decide +kernel
theorem dX8_set_21 : decode cX8_set 21 = .ok (.aload_n 0, 1) := by decide +kernel
theorem dX8_set_22 : decode cX8_set 22 = .ok (.getfield 7, 3) := by decide +kernel
theorem dX8_set_25 : decode cX8_set 25 = .ok (.iload_n 1, 1) := by decide +kernel
theorem dX8_set_26 : decode cX8_set 26 = .ok (.iload_n 2, 1) := by decide +kernel
theorem dX8_set_27 : decode cX8_set 27 = .ok (.iastore, 1) := by decide +kernel
theorem dX8_set_28 : decode cX8_set 28 = .ok (.iload_n 3, 1) := by decide +kernel
theorem dX8_set_29 : decode cX8_set 29 = .ok (.ireturn, 1) := by decide +kernel
set_option maxRecDepth 20000 in
theorem ggX8_clean_X8_in : GoodIn wsX8_clean wsX8_in := goodIn_r _ [5] (by decide +kernel) (by decide +kernel)
set_option maxRecDepth 20000 in
theorem gX8_clean_X8_in : GoodIn wsX8_clean (va_wsS RX8 33 yX8_in wsX8_in) := goodIn_app (goodIn_of _ (by decide +kernel)) ggX8_clean_X8_in
set_option maxRecDepth 20000 in
theorem ggX8_clean_X8_ofLine : GoodIn wsX8_clean wsX8_ofLine := goodIn_r _ [9, 1, 19, 20, 21, 22, 23, 24, 25, 26, 27, 28, 29] (by decide +kernel) (by decide +kernel)
set_option maxRecDepth 20000 in
theorem gX8_clean_X8_ofLine : GoodIn wsX8_clean (wsV RX8 82 RX8 yX8_ofLine wsX8_ofLine) := goodIn_app (goodIn_of _ (by decide +kernel)) ggX8_clean_X8_ofLine
set_option maxRecDepth 20000 in
theorem ggX8_clean_X8_record : GoodIn wsX8_clean wsX8_record := goodIn_r _ [13, 14, 15, 1, 16, 17, 4, 18, 19, 20, 21, 22, 23, 24, 25, 26, 27, 28, 29] (by decide +kernel) (by decide +kernel)
set_option maxRecDepth 20000 in
theorem gX8_clean_X8_record : GoodIn wsX8_clean (wsV RX8 52 RX8 yX8_record wsX8_record) := goodIn_app (goodIn_of _ (by decide +kernel)) ggX8_clean_X8_record
theorem dX8_clean_0 : decode cX8_clean 0 = .ok (.iload_n 1, 1) := by decide +kernel
theorem dX8_clean_1 : decode cX8_clean 1 = .ok (.iconst 0, 1) := by decide +kernel
theorem dX8_clean_2 : decode cX8_clean 2 = .ok (.iconst 3, 1) := by decide +kernel
theorem dX8_clean_3 : decode cX8_clean 3 = .ok (.invokestatic 33, 3) := by decide +kernel
theorem dX8_clean_6 : decode cX8_clean 6 = .ok (.ifCond .ne 5, 3) := by decide +kernel
theorem dX8_clean_9 : decode cX8_clean 9 = .ok (.iconst (-1), 1) := by decide +kernel
theorem dX8_clean_10 : decode cX8_clean 10 = .ok (.ireturn, 1) := by decide +kernel
theorem dX8_clean_11 : decode cX8_clean 11 = .ok (.aload_n 0, 1) := by decide +kernel
theorem dX8_clean_12 : decode cX8_clean 12 = .ok (.iload_n 1, 1) := by decide +kernel
theorem dX8_clean_13 : decode cX8_clean 13 = .ok (.iconst 0, 1) := by decide +kernel
theorem dX8_clean_14 : decode cX8_clean 14 = .ok (.invokevirtual 82, 3) := by decide +kernel
theorem dX8_clean_17 : decode cX8_clean 17 = .ok (.ifCond .ne 6, 3) := by decide +kernel
theorem dX8_clean_20 : decode cX8_clean 20 = .ok (.bipush (-2), 2) := by decide +kernel
theorem dX8_clean_22 : decode cX8_clean 22 = .ok (.ireturn, 1) := by decide +kernel
theorem dX8_clean_23 : decode cX8_clean 23 = .ok (.aload_n 0, 1) := by decide +kernel
theorem dX8_clean_24 : decode cX8_clean 24 = .ok (.invokevirtual 52, 3) := by decide +kernel
theorem dX8_clean_27 : decode cX8_clean 27 = .ok (.aload_n 0, 1) := by decide +kernel
theorem dX8_clean_28 : decode cX8_clean 28 = .ok (.iload_n 1, 1) := by decide +kernel
theorem dX8_clean_29 : decode cX8_clean 29 = .ok (.iconst 1, 1) := by decide +kernel
theorem dX8_clean_30 : decode cX8_clean 30 = .ok (.invokevirtual 82, 3) := by decide +kernel
theorem dX8_clean_33 : decode cX8_clean 33 = .ok (.istore_n 2, 1) := by decide +kernel
theorem dX8_clean_34 : decode cX8_clean 34 = .ok (.iconst 0, 1) := by decide +kernel
theorem dX8_clean_35 : decode cX8_clean 35 = .ok (.istore_n 3, 1) := by decide +kernel
theorem dX8_clean_36 : decode cX8_clean 36 = .ok (.iload_n 3, 1) := by decide +kernel
theorem dX8_clean_37 : decode cX8_clean 37 = .ok (.iconst 3, 1) := by decide +kernel
theorem dX8_clean_38 : decode cX8_clean 38 = .ok (.if_icmp .ge 23, 3) := by decide +kernel
theorem dX8_clean_41 : decode cX8_clean 41 = .ok (.aload_n 0, 1) := by decide +kernel
theorem dX8_clean_42 : decode cX8_clean 42 = .ok (.getfield 7, 3) := by decide +kernel
theorem dX8_clean_45 : decode cX8_clean 45 = .ok (.bipush 26, 2) := by decide +kernel
theorem dX8_clean_47 : decode cX8_clean 47 = .ok (.iconst 5, 1) := by decide +kernel
theorem dX8_clean_48 : decode cX8_clean 48 = .ok (.iload_n 1, 1) := by decide +kernel
theorem dX8_clean_49 : decode cX8_clean 49 = .ok (.imul, 1) := by decide +kernel
theorem dX8_clean_50 : decode cX8_clean 50 = .ok (.iadd, 1) := by decide +kernel
theorem dX8_clean_51 : decode cX8_clean 51 = .ok (.iload_n 3, 1) := by decide +kernel
theorem dX8_clean_52 : decode cX8_clean 52 = .ok (.iadd, 1) := by decide +kernel
theorem dX8_clean_53 : decode cX8_clean 53 = .ok (.iconst 0, 1) := by decide +kernel
theorem dX8_clean_54 : decode cX8_clean 54 = .ok (.iastore, 1) := by decide +kernel
theorem dX8_clean_55 : decode cX8_clean 55 = .ok (.iinc 3 1, 3) := by decide +kernel
theorem dX8_clean_58 : decode cX8_clean 58 = .ok (.goto (-22), 3) := by decide +kernel
theorem dX8_clean_61 : decode cX8_clean 61 = .ok (.iload_n 2, 1) := by decide +kernel
theorem dX8_clean_62 : decode cX8_clean 62 = .ok (.ireturn, 1) := by decide +kernel
set_option maxRecDepth 20000 in
theorem ggX8_stuck_X8_ofLine : GoodIn wsX8_stuck wsX8_ofLine := goodIn_r _ [5, 6, 7, 8, 9, 10, 11, 12, 13, 14, 15, 16, 17] (by decide +kernel) (by decide +kernel)
set_option maxRecDepth 20000 in
theorem gX8_stuck_X8_ofLine : GoodIn wsX8_stuck (wsV RX8 82 RX8 yX8_ofLine wsX8_ofLine) := goodIn_app (goodIn_of _ (by decide +kernel)) ggX8_stuck_X8_ofLine
theorem dX8_stuck_0 : decode cX8_stuck 0 = .ok (.iconst 0, 1) := by decide +kernel
theorem dX8_stuck_1 : decode cX8_stuck 1 = .ok (.istore_n 1, 1) := by decide +kernel
theorem dX8_stuck_2 : decode cX8_stuck 2 = .ok (.iconst 0, 1) := by decide +kernel
theorem dX8_stuck_3 : decode cX8_stuck 3 = .ok (.istore_n 2, 1) := by decide +kernel
theorem dX8_stuck_4 : decode cX8_stuck 4 = .ok (.iload_n 2, 1) := by decide +kernel
theorem dX8_stuck_5 : decode cX8_stuck 5 = .ok (.iconst 4, 1) := by decide +kernel
theorem dX8_stuck_6 : decode cX8_stuck 6 = .ok (.if_icmp .ge 18, 3) := by decide +kernel
theorem dX8_stuck_9 : decode cX8_stuck 9 = .ok (.iload_n 1, 1) := by decide +kernel
theorem dX8_stuck_10 : decode cX8_stuck 10 = .ok (.aload_n 0, 1) := by decide +kernel
theorem dX8_stuck_11 : decode cX8_stuck 11 = .ok (.iload_n 2, 1) := by decide +kernel
theorem dX8_stuck_12 : decode cX8_stuck 12 = .ok (.iconst 0, 1) := by decide +kernel
theorem dX8_stuck_13 : decode cX8_stuck 13 = .ok (.invokevirtual 82, 3) := by decide +kernel
theorem dX8_stuck_16 : decode cX8_stuck 16 = .ok (.iadd, 1) := by decide +kernel
theorem dX8_stuck_17 : decode cX8_stuck 17 = .ok (.istore_n 1, 1) := by decide +kernel
theorem dX8_stuck_18 : decode cX8_stuck 18 = .ok (.iinc 2 1, 3) := by decide +kernel
theorem dX8_stuck_21 : decode cX8_stuck 21 = .ok (.goto (-17), 3) := by decide +kernel
theorem dX8_stuck_24 : decode cX8_stuck 24 = .ok (.iload_n 1, 1) := by decide +kernel
theorem dX8_stuck_25 : decode cX8_stuck 25 = .ok (.ireturn, 1) := by decide +kernel
set_option maxRecDepth 20000 in
theorem ggX8_reasonNow_X8_stuck : GoodIn wsX8_reasonNow wsX8_stuck := goodIn_r _ [6, 7, 8, 9, 5, 10, 1, 11, 12, 13, 14, 15, 16, 17, 18, 19, 20, 21] (by decide +kernel) (by decide +kernel)
set_option maxRecDepth 20000 in
theorem gX8_reasonNow_X8_stuck : GoodIn wsX8_reasonNow (wsV RX8 85 RX8 yX8_stuck wsX8_stuck) := goodIn_app (goodIn_of _ (by decide +kernel)) ggX8_reasonNow_X8_stuck
theorem dX8_reasonNow_0 : decode cX8_reasonNow 0 = .ok (.aload_n 0, 1) := by decide +kernel
theorem dX8_reasonNow_1 : decode cX8_reasonNow 1 = .ok (.getfield 7, 3) := by decide +kernel
theorem dX8_reasonNow_4 : decode cX8_reasonNow 4 = .ok (.bipush 9, 2) := by decide +kernel
theorem dX8_reasonNow_6 : decode cX8_reasonNow 6 = .ok (.iaload, 1) := by decide +kernel
theorem dX8_reasonNow_7 : decode cX8_reasonNow 7 = .ok (.iload_n 1, 1) := by decide +kernel
theorem dX8_reasonNow_8 : decode cX8_reasonNow 8 = .ok (.if_icmp .ne 7, 3) := by decide +kernel
theorem dX8_reasonNow_11 : decode cX8_reasonNow 11 = .ok (.iconst 1, 1) := by decide +kernel
theorem dX8_reasonNow_12 : decode cX8_reasonNow 12 = .ok (.goto 36, 3) := by decide +kernel
theorem dX8_reasonNow_15 : decode cX8_reasonNow 15 = .ok (.aload_n 0, 1) := by decide +kernel
theorem dX8_reasonNow_16 : decode cX8_reasonNow 16 = .ok (.invokevirtual 85, 3) := by decide +kernel
theorem dX8_reasonNow_19 : decode cX8_reasonNow 19 = .ok (.iconst 4, 1) := by decide +kernel
theorem dX8_reasonNow_20 : decode cX8_reasonNow 20 = .ok (.if_icmp .ne 7, 3) := by decide +kernel
theorem dX8_reasonNow_23 : decode cX8_reasonNow 23 = .ok (.iconst 2, 1) := by decide +kernel
theorem dX8_reasonNow_24 : decode cX8_reasonNow 24 = .ok (.goto 24, 3) := by decide +kernel
theorem dX8_reasonNow_27 : decode cX8_reasonNow 27 = .ok (.aload_n 0, 1) := by decide +kernel
theorem dX8_reasonNow_28 : decode cX8_reasonNow 28 = .ok (.getfield 7, 3) := by decide +kernel
theorem dX8_reasonNow_31 : decode cX8_reasonNow 31 = .ok (.bipush 11, 2) := by decide +kernel
theorem dX8_reasonNow_33 : decode cX8_reasonNow 33 = .ok (.iaload, 1) := by decide +kernel
theorem dX8_reasonNow_34 : decode cX8_reasonNow 34 = .ok (.aload_n 0, 1) := by decide +kernel
theorem dX8_reasonNow_35 : decode cX8_reasonNow 35 = .ok (.getfield 7, 3) := by decide +kernel
theorem dX8_reasonNow_38 : decode cX8_reasonNow 38 = .ok (.iconst 2, 1) := by decide +kernel
theorem dX8_reasonNow_39 : decode cX8_reasonNow 39 = .ok (.iaload, 1) := by decide +kernel
theorem dX8_reasonNow_40 : decode cX8_reasonNow 40 = .ok (.if_icmp .lt 7, 3) := by decide +kernel
theorem dX8_reasonNow_43 : decode cX8_reasonNow 43 = .ok (.iconst 3, 1) := by decide +kernel
theorem dX8_reasonNow_44 : decode cX8_reasonNow 44 = .ok (.goto 4, 3) := by decide +kernel
theorem dX8_reasonNow_47 : decode cX8_reasonNow 47 = .ok (.iconst 0, 1) := by decide +kernel
theorem dX8_reasonNow_48 : decode cX8_reasonNow 48 = .ok (.ireturn, 1) := by decide +kernel
set_option maxRecDepth 20000 in
theorem ggX8_unit_X8_of : GoodIn wsX8_unit wsX8_of := goodIn_r _ [6, 1, 7, 8, 9, 10, 11, 12, 13, 14, 15, 16, 17] (by decide +kernel) (by decide +kernel)
set_option maxRecDepth 20000 in
theorem gX8_unit_X8_of : GoodIn wsX8_unit (wsV RX8 37 RX8 yX8_of wsX8_of) := goodIn_app (goodIn_of _ (by decide +kernel)) ggX8_unit_X8_of
theorem dX8_unit_0 : decode cX8_unit 0 = .ok (.aload_n 0, 1) := by decide +kernel
theorem dX8_unit_1 : decode cX8_unit 1 = .ok (.iload_n 1, 1) := by decide +kernel
theorem dX8_unit_2 : decode cX8_unit 2 = .ok (.iconst 2, 1) := by decide +kernel
theorem dX8_unit_3 : decode cX8_unit 3 = .ok (.invokevirtual 37, 3) := by decide +kernel
theorem dX8_unit_6 : decode cX8_unit 6 = .ok (.istore_n 2, 1) := by decide +kernel
theorem dX8_unit_7 : decode cX8_unit 7 = .ok (.aload_n 0, 1) := by decide +kernel
theorem dX8_unit_8 : decode cX8_unit 8 = .ok (.iload_n 1, 1) := by decide +kernel
theorem dX8_unit_9 : decode cX8_unit 9 = .ok (.iconst 0, 1) := by decide +kernel
theorem dX8_unit_10 : decode cX8_unit 10 = .ok (.invokevirtual 37, 3) := by decide +kernel
theorem dX8_unit_13 : decode cX8_unit 13 = .ok (.ifCond .ne 17, 3) := by decide +kernel
theorem dX8_unit_16 : decode cX8_unit 16 = .ok (.iload_n 2, 1) := by decide +kernel
theorem dX8_unit_17 : decode cX8_unit 17 = .ok (.aload_n 0, 1) := by decide +kernel
theorem dX8_unit_18 : decode cX8_unit 18 = .ok (.iload_n 1, 1) := by decide +kernel
theorem dX8_unit_19 : decode cX8_unit 19 = .ok (.iconst 3, 1) := by decide +kernel
theorem dX8_unit_20 : decode cX8_unit 20 = .ok (.invokevirtual 37, 3) := by decide +kernel
theorem dX8_unit_23 : decode cX8_unit 23 = .ok (.imul, 1) := by decide +kernel
theorem dX8_unit_24 : decode cX8_unit 24 = .ok (.bipush 100, 2) := by decide +kernel
theorem dX8_unit_26 : decode cX8_unit 26 = .ok (.idiv, 1) := by decide +kernel
theorem dX8_unit_27 : decode cX8_unit 27 = .ok (.goto 4, 3) := by decide +kernel
theorem dX8_unit_30 : decode cX8_unit 30 = .ok (.iconst 0, 1) := by decide +kernel
theorem dX8_unit_31 : decode cX8_unit 31 = .ok (.istore_n 3, 1) := by decide +kernel
theorem dX8_unit_32 : decode cX8_unit 32 = .ok (.aload_n 0, 1) := by decide +kernel
theorem dX8_unit_33 : decode cX8_unit 33 = .ok (.iload_n 1, 1) := by decide +kernel
theorem dX8_unit_34 : decode cX8_unit 34 = .ok (.iconst 0, 1) := by decide +kernel
theorem dX8_unit_35 : decode cX8_unit 35 = .ok (.invokevirtual 37, 3) := by decide +kernel
theorem dX8_unit_38 : decode cX8_unit 38 = .ok (.iconst 2, 1) := by decide +kernel
theorem dX8_unit_39 : decode cX8_unit 39 = .ok (.if_icmp .ne 12, 3) := by decide +kernel
theorem dX8_unit_42 : decode cX8_unit 42 = .ok (.aload_n 0, 1) := by decide +kernel
theorem dX8_unit_43 : decode cX8_unit 43 = .ok (.iload_n 1, 1) := by decide +kernel
theorem dX8_unit_44 : decode cX8_unit 44 = .ok (.iconst 3, 1) := by decide +kernel
theorem dX8_unit_45 : decode cX8_unit 45 = .ok (.invokevirtual 37, 3) := by decide +kernel
theorem dX8_unit_48 : decode cX8_unit 48 = .ok (.goto 4, 3) := by decide +kernel
theorem dX8_unit_51 : decode cX8_unit 51 = .ok (.iconst 0, 1) := by decide +kernel
theorem dX8_unit_52 : decode cX8_unit 52 = .ok (.istore 4, 2) := by decide +kernel
theorem dX8_unit_54 : decode cX8_unit 54 = .ok (.aload_n 0, 1) := by decide +kernel
theorem dX8_unit_55 : decode cX8_unit 55 = .ok (.getfield 7, 3) := by decide +kernel
theorem dX8_unit_58 : decode cX8_unit 58 = .ok (.bipush 10, 2) := by decide +kernel
theorem dX8_unit_60 : decode cX8_unit 60 = .ok (.dup2, 1) := by decide +kernel
theorem dX8_unit_61 : decode cX8_unit 61 = .ok (.iaload, 1) := by decide +kernel
theorem dX8_unit_62 : decode cX8_unit 62 = .ok (.aload_n 0, 1) := by decide +kernel
theorem dX8_unit_63 : decode cX8_unit 63 = .ok (.getfield 7, 3) := by decide +kernel
theorem dX8_unit_66 : decode cX8_unit 66 = .ok (.iconst 1, 1) := by decide +kernel
theorem dX8_unit_67 : decode cX8_unit 67 = .ok (.iaload, 1) := by decide +kernel
theorem dX8_unit_68 : decode cX8_unit 68 = .ok (.iload_n 2, 1) := by decide +kernel
theorem dX8_unit_69 : decode cX8_unit 69 = .ok (.imul, 1) := by decide +kernel
theorem dX8_unit_70 : decode cX8_unit 70 = .ok (.bipush 100, 2) := by decide +kernel
theorem dX8_unit_72 : decode cX8_unit 72 = .ok (.idiv, 1) := by decide +kernel
theorem dX8_unit_73 : decode cX8_unit 73 = .ok (.isub, 1) := by decide +kernel
theorem dX8_unit_74 : decode cX8_unit 74 = .ok (.iastore, 1) := by decide +kernel
theorem dX8_unit_75 : decode cX8_unit 75 = .ok (.aload_n 0, 1) := by decide +kernel
theorem dX8_unit_76 : decode cX8_unit 76 = .ok (.getfield 7, 3) := by decide +kernel
theorem dX8_unit_79 : decode cX8_unit 79 = .ok (.bipush 9, 2) := by decide +kernel
theorem dX8_unit_81 : decode cX8_unit 81 = .ok (.dup2, 1) := by decide +kernel
theorem dX8_unit_82 : decode cX8_unit 82 = .ok (.iaload, 1) := by decide +kernel
theorem dX8_unit_83 : decode cX8_unit 83 = .ok (.iconst 1, 1) := by decide +kernel
theorem dX8_unit_84 : decode cX8_unit 84 = .ok (.iadd, 1) := by decide +kernel
theorem dX8_unit_85 : decode cX8_unit 85 = .ok (.iastore, 1) := by decide +kernel
theorem dX8_unit_86 : decode cX8_unit 86 = .ok (.aload_n 0, 1) := by decide +kernel
theorem dX8_unit_87 : decode cX8_unit 87 = .ok (.getfield 7, 3) := by decide +kernel
theorem dX8_unit_90 : decode cX8_unit 90 = .ok (.bipush 11, 2) := by decide +kernel
theorem dX8_unit_92 : decode cX8_unit 92 = .ok (.dup2, 1) := by decide +kernel
theorem dX8_unit_93 : decode cX8_unit 93 = .ok (.iaload, 1) := by decide +kernel
theorem dX8_unit_94 : decode cX8_unit 94 = .ok (.iload_n 2, 1) := by decide +kernel
theorem dX8_unit_95 : decode cX8_unit 95 = .ok (.iadd, 1) := by decide +kernel
theorem dX8_unit_96 : decode cX8_unit 96 = .ok (.iastore, 1) := by decide +kernel
theorem dX8_unit_97 : decode cX8_unit 97 = .ok (.aload_n 0, 1) := by decide +kernel
theorem dX8_unit_98 : decode cX8_unit 98 = .ok (.getfield 7, 3) := by decide +kernel
theorem dX8_unit_101 : decode cX8_unit 101 = .ok (.bipush 12, 2) := by decide +kernel
theorem dX8_unit_103 : decode cX8_unit 103 = .ok (.dup2, 1) := by decide +kernel
theorem dX8_unit_104 : decode cX8_unit 104 = .ok (.iaload, 1) := by decide +kernel
theorem dX8_unit_105 : decode cX8_unit 105 = .ok (.iload_n 3, 1) := by decide +kernel
theorem dX8_unit_106 : decode cX8_unit 106 = .ok (.iadd, 1) := by decide +kernel
theorem dX8_unit_107 : decode cX8_unit 107 = .ok (.iastore, 1) := by decide +kernel
theorem dX8_unit_108 : decode cX8_unit 108 = .ok (.aload_n 0, 1) := by decide +kernel
theorem dX8_unit_109 : decode cX8_unit 109 = .ok (.getfield 7, 3) := by decide +kernel
theorem dX8_unit_112 : decode cX8_unit 112 = .ok (.bipush 13, 2) := by decide +kernel
theorem dX8_unit_114 : decode cX8_unit 114 = .ok (.dup2, 1) := by decide +kernel
theorem dX8_unit_115 : decode cX8_unit 115 = .ok (.iaload, 1) := by decide +kernel
theorem dX8_unit_116 : decode cX8_unit 116 = .ok (.iload 4, 2) := by decide +kernel
theorem dX8_unit_118 : decode cX8_unit 118 = .ok (.iadd, 1) := by decide +kernel
theorem dX8_unit_119 : decode cX8_unit 119 = .ok (.iastore, 1) := by decide +kernel
theorem dX8_unit_120 : decode cX8_unit 120 = .ok (.aload_n 0, 1) := by decide +kernel
theorem dX8_unit_121 : decode cX8_unit 121 = .ok (.getfield 7, 3) := by decide +kernel
theorem dX8_unit_124 : decode cX8_unit 124 = .ok (.bipush 19, 2) := by decide +kernel
theorem dX8_unit_126 : decode cX8_unit 126 = .ok (.dup2, 1) := by decide +kernel
theorem dX8_unit_127 : decode cX8_unit 127 = .ok (.iaload, 1) := by decide +kernel
theorem dX8_unit_128 : decode cX8_unit 128 = .ok (.iload_n 2, 1) := by decide +kernel
theorem dX8_unit_129 : decode cX8_unit 129 = .ok (.iadd, 1) := by decide +kernel
theorem dX8_unit_130 : decode cX8_unit 130 = .ok (.iastore, 1) := by decide +kernel
theorem dX8_unit_131 : decode cX8_unit 131 = .ok (.aload_n 0, 1) := by decide +kernel
theorem dX8_unit_132 : decode cX8_unit 132 = .ok (.getfield 7, 3) := by decide +kernel
theorem dX8_unit_135 : decode cX8_unit 135 = .ok (.bipush 22, 2) := by decide +kernel
theorem dX8_unit_137 : decode cX8_unit 137 = .ok (.dup2, 1) := by decide +kernel
theorem dX8_unit_138 : decode cX8_unit 138 = .ok (.iaload, 1) := by decide +kernel
theorem dX8_unit_139 : decode cX8_unit 139 = .ok (.iload_n 3, 1) := by decide +kernel
theorem dX8_unit_140 : decode cX8_unit 140 = .ok (.iadd, 1) := by decide +kernel
theorem dX8_unit_141 : decode cX8_unit 141 = .ok (.iastore, 1) := by decide +kernel
theorem dX8_unit_142 : decode cX8_unit 142 = .ok (.aload_n 0, 1) := by decide +kernel
theorem dX8_unit_143 : decode cX8_unit 143 = .ok (.getfield 7, 3) := by decide +kernel
theorem dX8_unit_146 : decode cX8_unit 146 = .ok (.bipush 24, 2) := by decide +kernel
theorem dX8_unit_148 : decode cX8_unit 148 = .ok (.dup2, 1) := by decide +kernel
theorem dX8_unit_149 : decode cX8_unit 149 = .ok (.iaload, 1) := by decide +kernel
theorem dX8_unit_150 : decode cX8_unit 150 = .ok (.iload 4, 2) := by decide +kernel
theorem dX8_unit_152 : decode cX8_unit 152 = .ok (.iadd, 1) := by decide +kernel
theorem dX8_unit_153 : decode cX8_unit 153 = .ok (.iastore, 1) := by decide +kernel
theorem dX8_unit_154 : decode cX8_unit 154 = .ok (.return_, 1) := by decide +kernel
set_option maxRecDepth 20000 in
theorem ggX8_melts_X8_segmentOf : GoodIn wsX8_melts wsX8_segmentOf := goodIn_r _ [6, 1, 7, 8, 9, 5, 10, 11, 12, 13, 14, 19, 20, 21, 22, 23, 24, 25, 26, 27, 28, 29] (by decide +kernel) (by decide +kernel)
set_option maxRecDepth 20000 in
theorem gX8_melts_X8_segmentOf : GoodIn wsX8_melts (wsV RX8 68 RX8 yX8_segmentOf wsX8_segmentOf) := goodIn_app (goodIn_of _ (by decide +kernel)) ggX8_melts_X8_segmentOf
set_option maxRecDepth 20000 in
theorem ggX8_melts_X8_of : GoodIn wsX8_melts wsX8_of := goodIn_r _ [14, 1, 19, 20, 21, 22, 23, 24, 25, 26, 27, 28, 29] (by decide +kernel) (by decide +kernel)
set_option maxRecDepth 20000 in
theorem gX8_melts_X8_of : GoodIn wsX8_melts (wsV RX8 37 RX8 yX8_of wsX8_of) := goodIn_app (goodIn_of _ (by decide +kernel)) ggX8_melts_X8_of
set_option maxRecDepth 20000 in
theorem ggX8_melts_X8_lower : GoodIn wsX8_melts wsX8_lower := goodIn_r _ [10, 11, 12, 13, 5, 14, 1, 19, 20, 21, 22, 23, 24, 25, 26, 27, 28, 29] (by decide +kernel) (by decide +kernel)
set_option maxRecDepth 20000 in
theorem gX8_melts_X8_lower : GoodIn wsX8_melts (wsV RX8 41 RX8 yX8_lower wsX8_lower) := goodIn_app (goodIn_of _ (by decide +kernel)) ggX8_melts_X8_lower
set_option maxRecDepth 20000 in
theorem ggX8_melts_X8_unit : GoodIn wsX8_melts wsX8_unit := goodIn_r _ [18, 1, 11, 12, 13, 5, 14, 19, 20, 21, 22, 23, 24, 25, 26, 27, 28, 29] (by decide +kernel) (by decide +kernel)
set_option maxRecDepth 20000 in
theorem gX8_melts_X8_unit : GoodIn wsX8_melts (wsV RX8 88 RX8 yX8_unit wsX8_unit) := goodIn_app (goodIn_of _ (by decide +kernel)) ggX8_melts_X8_unit
theorem dX8_melts_0 : decode cX8_melts 0 = .ok (.aload_n 0, 1) := by decide +kernel
theorem dX8_melts_1 : decode cX8_melts 1 = .ok (.getfield 7, 3) := by decide +kernel
theorem dX8_melts_4 : decode cX8_melts 4 = .ok (.bipush 10, 2) := by decide +kernel
theorem dX8_melts_6 : decode cX8_melts 6 = .ok (.dup2, 1) := by decide +kernel
theorem dX8_melts_7 : decode cX8_melts 7 = .ok (.iaload, 1) := by decide +kernel
theorem dX8_melts_8 : decode cX8_melts 8 = .ok (.aload_n 0, 1) := by decide +kernel
theorem dX8_melts_9 : decode cX8_melts 9 = .ok (.getfield 7, 3) := by decide +kernel
theorem dX8_melts_12 : decode cX8_melts 12 = .ok (.iconst 0, 1) := by decide +kernel
theorem dX8_melts_13 : decode cX8_melts 13 = .ok (.iaload, 1) := by decide +kernel
theorem dX8_melts_14 : decode cX8_melts 14 = .ok (.iadd, 1) := by decide +kernel
theorem dX8_melts_15 : decode cX8_melts 15 = .ok (.iastore, 1) := by decide +kernel
theorem dX8_melts_16 : decode cX8_melts 16 = .ok (.iconst 1, 1) := by decide +kernel
theorem dX8_melts_17 : decode cX8_melts 17 = .ok (.istore_n 2, 1) := by decide +kernel
theorem dX8_melts_18 : decode cX8_melts 18 = .ok (.iload_n 2, 1) := by decide +kernel
theorem dX8_melts_19 : decode cX8_melts 19 = .ok (.ifCond .eq 108, 3) := by decide +kernel
theorem dX8_melts_22 : decode cX8_melts 22 = .ok (.aload_n 0, 1) := by decide +kernel
theorem dX8_melts_23 : decode cX8_melts 23 = .ok (.getfield 7, 3) := by decide +kernel
theorem dX8_melts_26 : decode cX8_melts 26 = .ok (.bipush 9, 2) := by decide +kernel
theorem dX8_melts_28 : decode cX8_melts 28 = .ok (.iaload, 1) := by decide +kernel
theorem dX8_melts_29 : decode cX8_melts 29 = .ok (.iload_n 1, 1) := by decide +kernel
theorem dX8_melts_30 : decode cX8_melts 30 = .ok (.if_icmp .ge 97, 3) := by decide +kernel
theorem dX8_melts_33 : decode cX8_melts 33 = .ok (.aload_n 0, 1) := by decide +kernel
theorem dX8_melts_34 : decode cX8_melts 34 = .ok (.getfield 7, 3) := by decide +kernel
theorem dX8_melts_37 : decode cX8_melts 37 = .ok (.bipush 11, 2) := by decide +kernel
theorem dX8_melts_39 : decode cX8_melts 39 = .ok (.iaload, 1) := by decide +kernel
theorem dX8_melts_40 : decode cX8_melts 40 = .ok (.aload_n 0, 1) := by decide +kernel
theorem dX8_melts_41 : decode cX8_melts 41 = .ok (.getfield 7, 3) := by decide +kernel
theorem dX8_melts_44 : decode cX8_melts 44 = .ok (.iconst 2, 1) := by decide +kernel
theorem dX8_melts_45 : decode cX8_melts 45 = .ok (.iaload, 1) := by decide +kernel
theorem dX8_melts_46 : decode cX8_melts 46 = .ok (.if_icmp .ge 81, 3) := by decide +kernel
theorem dX8_melts_49 : decode cX8_melts 49 = .ok (.aload_n 0, 1) := by decide +kernel
theorem dX8_melts_50 : decode cX8_melts 50 = .ok (.aload_n 0, 1) := by decide +kernel
theorem dX8_melts_51 : decode cX8_melts 51 = .ok (.getfield 7, 3) := by decide +kernel
theorem dX8_melts_54 : decode cX8_melts 54 = .ok (.bipush 9, 2) := by decide +kernel
theorem dX8_melts_56 : decode cX8_melts 56 = .ok (.iaload, 1) := by decide +kernel
theorem dX8_melts_57 : decode cX8_melts 57 = .ok (.invokevirtual 68, 3) := by decide +kernel
theorem dX8_melts_60 : decode cX8_melts 60 = .ok (.istore_n 3, 1) := by decide +kernel
theorem dX8_melts_61 : decode cX8_melts 61 = .ok (.aload_n 0, 1) := by decide +kernel
theorem dX8_melts_62 : decode cX8_melts 62 = .ok (.iload_n 3, 1) := by decide +kernel
theorem dX8_melts_63 : decode cX8_melts 63 = .ok (.iconst 0, 1) := by decide +kernel
theorem dX8_melts_64 : decode cX8_melts 64 = .ok (.invokevirtual 37, 3) := by decide +kernel
theorem dX8_melts_67 : decode cX8_melts 67 = .ok (.iconst 1, 1) := by decide +kernel
theorem dX8_melts_68 : decode cX8_melts 68 = .ok (.if_icmp .ne 20, 3) := by decide +kernel
theorem dX8_melts_71 : decode cX8_melts 71 = .ok (.aload_n 0, 1) := by decide +kernel
theorem dX8_melts_72 : decode cX8_melts 72 = .ok (.getfield 7, 3) := by decide +kernel
theorem dX8_melts_75 : decode cX8_melts 75 = .ok (.bipush 9, 2) := by decide +kernel
theorem dX8_melts_77 : decode cX8_melts 77 = .ok (.aload_n 0, 1) := by decide +kernel
theorem dX8_melts_78 : decode cX8_melts 78 = .ok (.iload_n 3, 1) := by decide +kernel
theorem dX8_melts_79 : decode cX8_melts 79 = .ok (.iconst 1, 1) := by decide +kernel
theorem dX8_melts_80 : decode cX8_melts 80 = .ok (.iadd, 1) := by decide +kernel
theorem dX8_melts_81 : decode cX8_melts 81 = .ok (.invokevirtual 41, 3) := by decide +kernel
theorem dX8_melts_84 : decode cX8_melts 84 = .ok (.iastore, 1) := by decide +kernel
theorem dX8_melts_85 : decode cX8_melts 85 = .ok (.goto 39, 3) := by decide +kernel
theorem dX8_melts_88 : decode cX8_melts 88 = .ok (.aload_n 0, 1) := by decide +kernel
theorem dX8_melts_89 : decode cX8_melts 89 = .ok (.getfield 7, 3) := by decide +kernel
theorem dX8_melts_92 : decode cX8_melts 92 = .ok (.bipush 10, 2) := by decide +kernel
theorem dX8_melts_94 : decode cX8_melts 94 = .ok (.iaload, 1) := by decide +kernel
theorem dX8_melts_95 : decode cX8_melts 95 = .ok (.aload_n 0, 1) := by decide +kernel
theorem dX8_melts_96 : decode cX8_melts 96 = .ok (.getfield 7, 3) := by decide +kernel
theorem dX8_melts_99 : decode cX8_melts 99 = .ok (.iconst 1, 1) := by decide +kernel
theorem dX8_melts_100 : decode cX8_melts 100 = .ok (.iaload, 1) := by decide +kernel
theorem dX8_melts_101 : decode cX8_melts 101 = .ok (.aload_n 0, 1) := by decide +kernel
theorem dX8_melts_102 : decode cX8_melts 102 = .ok (.iload_n 3, 1) := by decide +kernel
theorem dX8_melts_103 : decode cX8_melts 103 = .ok (.iconst 2, 1) := by decide +kernel
theorem dX8_melts_104 : decode cX8_melts 104 = .ok (.invokevirtual 37, 3) := by decide +kernel
theorem dX8_melts_107 : decode cX8_melts 107 = .ok (.imul, 1) := by decide +kernel
theorem dX8_melts_108 : decode cX8_melts 108 = .ok (.bipush 100, 2) := by decide +kernel
theorem dX8_melts_110 : decode cX8_melts 110 = .ok (.idiv, 1) := by decide +kernel
theorem dX8_melts_111 : decode cX8_melts 111 = .ok (.if_icmp .lt 11, 3) := by decide +kernel
theorem dX8_melts_114 : decode cX8_melts 114 = .ok (.aload_n 0, 1) := by decide +kernel
theorem dX8_melts_115 : decode cX8_melts 115 = .ok (.iload_n 3, 1) := by decide +kernel
theorem dX8_melts_116 : decode cX8_melts 116 = .ok (.invokevirtual 88, 3) := by decide +kernel
theorem dX8_melts_119 : decode cX8_melts 119 = .ok (.goto 5, 3) := by decide +kernel
theorem dX8_melts_122 : decode cX8_melts 122 = .ok (.iconst 0, 1) := by decide +kernel
theorem dX8_melts_123 : decode cX8_melts 123 = .ok (.istore_n 2, 1) := by decide +kernel
theorem dX8_melts_124 : decode cX8_melts 124 = .ok (.goto (-106), 3) := by decide +kernel
theorem dX8_melts_127 : decode cX8_melts 127 = .ok (.aload_n 0, 1) := by decide +kernel
theorem dX8_melts_128 : decode cX8_melts 128 = .ok (.getfield 7, 3) := by decide +kernel
theorem dX8_melts_131 : decode cX8_melts 131 = .ok (.bipush 10, 2) := by decide +kernel
theorem dX8_melts_133 : decode cX8_melts 133 = .ok (.aload_n 0, 1) := by decide +kernel
theorem dX8_melts_134 : decode cX8_melts 134 = .ok (.getfield 7, 3) := by decide +kernel
theorem dX8_melts_137 : decode cX8_melts 137 = .ok (.bipush 9, 2) := by decide +kernel
theorem dX8_melts_139 : decode cX8_melts 139 = .ok (.iaload, 1) := by decide +kernel
theorem dX8_melts_140 : decode cX8_melts 140 = .ok (.iload_n 1, 1) := by decide +kernel
theorem dX8_melts_141 : decode cX8_melts 141 = .ok (.if_icmp .ne 7, 3) := by decide +kernel
theorem dX8_melts_144 : decode cX8_melts 144 = .ok (.iconst 0, 1) := by decide +kernel
theorem dX8_melts_145 : decode cX8_melts 145 = .ok (.goto 10, 3) := by decide +kernel
theorem dX8_melts_148 : decode cX8_melts 148 = .ok (.aload_n 0, 1) := by decide +kernel
theorem dX8_melts_149 : decode cX8_melts 149 = .ok (.getfield 7, 3) := by decide +kernel
theorem dX8_melts_152 : decode cX8_melts 152 = .ok (.bipush 10, 2) := by decide +kernel
theorem dX8_melts_154 : decode cX8_melts 154 = .ok (.iaload, 1) := by decide +kernel
theorem dX8_melts_155 : decode cX8_melts 155 = .ok (.iastore, 1) := by decide +kernel
theorem dX8_melts_156 : decode cX8_melts 156 = .ok (.return_, 1) := by decide +kernel
set_option maxRecDepth 20000 in
theorem ggX8_draws_X8_lesser : GoodIn wsX8_draws wsX8_lesser := goodIn_r _ [5] (by decide +kernel) (by decide +kernel)
set_option maxRecDepth 20000 in
theorem gX8_draws_X8_lesser : GoodIn wsX8_draws (va_wsS RX8 59 yX8_lesser wsX8_lesser) := goodIn_app (goodIn_of _ (by decide +kernel)) ggX8_draws_X8_lesser
theorem dX8_draws_0 : decode cX8_draws 0 = .ok (.bipush 26, 2) := by decide +kernel
theorem dX8_draws_2 : decode cX8_draws 2 = .ok (.iconst 5, 1) := by decide +kernel
theorem dX8_draws_3 : decode cX8_draws 3 = .ok (.iload_n 1, 1) := by decide +kernel
theorem dX8_draws_4 : decode cX8_draws 4 = .ok (.imul, 1) := by decide +kernel
theorem dX8_draws_5 : decode cX8_draws 5 = .ok (.iadd, 1) := by decide +kernel
theorem dX8_draws_6 : decode cX8_draws 6 = .ok (.istore_n 2, 1) := by decide +kernel
theorem dX8_draws_7 : decode cX8_draws 7 = .ok (.aload_n 0, 1) := by decide +kernel
theorem dX8_draws_8 : decode cX8_draws 8 = .ok (.getfield 7, 3) := by decide +kernel
theorem dX8_draws_11 : decode cX8_draws 11 = .ok (.iconst 3, 1) := by decide +kernel
theorem dX8_draws_12 : decode cX8_draws 12 = .ok (.iaload, 1) := by decide +kernel
theorem dX8_draws_13 : decode cX8_draws 13 = .ok (.aload_n 0, 1) := by decide +kernel
theorem dX8_draws_14 : decode cX8_draws 14 = .ok (.getfield 7, 3) := by decide +kernel
theorem dX8_draws_17 : decode cX8_draws 17 = .ok (.bipush 11, 2) := by decide +kernel
theorem dX8_draws_19 : decode cX8_draws 19 = .ok (.iaload, 1) := by decide +kernel
theorem dX8_draws_20 : decode cX8_draws 20 = .ok (.invokestatic 59, 3) := by decide +kernel
theorem dX8_draws_23 : decode cX8_draws 23 = .ok (.istore_n 3, 1) := by decide +kernel
theorem dX8_draws_24 : decode cX8_draws 24 = .ok (.iload_n 3, 1) := by decide +kernel
theorem dX8_draws_25 : decode cX8_draws 25 = .ok (.ifCond .ne 4, 3) := by decide +kernel
theorem dX8_draws_28 : decode cX8_draws 28 = .ok (.return_, 1) := by decide +kernel
theorem dX8_draws_29 : decode cX8_draws 29 = .ok (.aload_n 0, 1) := by decide +kernel
theorem dX8_draws_30 : decode cX8_draws 30 = .ok (.getfield 7, 3) := by decide +kernel
theorem dX8_draws_33 : decode cX8_draws 33 = .ok (.bipush 12, 2) := by decide +kernel
theorem dX8_draws_35 : decode cX8_draws 35 = .ok (.iaload, 1) := by decide +kernel
theorem dX8_draws_36 : decode cX8_draws 36 = .ok (.iload_n 3, 1) := by decide +kernel
theorem dX8_draws_37 : decode cX8_draws 37 = .ok (.imul, 1) := by decide +kernel
theorem dX8_draws_38 : decode cX8_draws 38 = .ok (.aload_n 0, 1) := by decide +kernel
theorem dX8_draws_39 : decode cX8_draws 39 = .ok (.getfield 7, 3) := by decide +kernel
theorem dX8_draws_42 : decode cX8_draws 42 = .ok (.bipush 11, 2) := by decide +kernel
theorem dX8_draws_44 : decode cX8_draws 44 = .ok (.iaload, 1) := by decide +kernel
theorem dX8_draws_45 : decode cX8_draws 45 = .ok (.idiv, 1) := by decide +kernel
theorem dX8_draws_46 : decode cX8_draws 46 = .ok (.istore 4, 2) := by decide +kernel
theorem dX8_draws_48 : decode cX8_draws 48 = .ok (.aload_n 0, 1) := by decide +kernel
theorem dX8_draws_49 : decode cX8_draws 49 = .ok (.getfield 7, 3) := by decide +kernel
theorem dX8_draws_52 : decode cX8_draws 52 = .ok (.bipush 13, 2) := by decide +kernel
theorem dX8_draws_54 : decode cX8_draws 54 = .ok (.iaload, 1) := by decide +kernel
theorem dX8_draws_55 : decode cX8_draws 55 = .ok (.iload_n 3, 1) := by decide +kernel
theorem dX8_draws_56 : decode cX8_draws 56 = .ok (.imul, 1) := by decide +kernel
theorem dX8_draws_57 : decode cX8_draws 57 = .ok (.aload_n 0, 1) := by decide +kernel
theorem dX8_draws_58 : decode cX8_draws 58 = .ok (.getfield 7, 3) := by decide +kernel
theorem dX8_draws_61 : decode cX8_draws 61 = .ok (.bipush 11, 2) := by decide +kernel
theorem dX8_draws_63 : decode cX8_draws 63 = .ok (.iaload, 1) := by decide +kernel
theorem dX8_draws_64 : decode cX8_draws 64 = .ok (.idiv, 1) := by decide +kernel
theorem dX8_draws_65 : decode cX8_draws 65 = .ok (.istore 5, 2) := by decide +kernel
theorem dX8_draws_67 : decode cX8_draws 67 = .ok (.aload_n 0, 1) := by decide +kernel
theorem dX8_draws_68 : decode cX8_draws 68 = .ok (.getfield 7, 3) := by decide +kernel
theorem dX8_draws_71 : decode cX8_draws 71 = .ok (.bipush 11, 2) := by decide +kernel
theorem dX8_draws_73 : decode cX8_draws 73 = .ok (.dup2, 1) := by decide +kernel
theorem dX8_draws_74 : decode cX8_draws 74 = .ok (.iaload, 1) := by decide +kernel
theorem dX8_draws_75 : decode cX8_draws 75 = .ok (.iload_n 3, 1) := by decide +kernel
theorem dX8_draws_76 : decode cX8_draws 76 = .ok (.isub, 1) := by decide +kernel
theorem dX8_draws_77 : decode cX8_draws 77 = .ok (.iastore, 1) := by decide +kernel
theorem dX8_draws_78 : decode cX8_draws 78 = .ok (.aload_n 0, 1) := by decide +kernel
theorem dX8_draws_79 : decode cX8_draws 79 = .ok (.getfield 7, 3) := by decide +kernel
theorem dX8_draws_82 : decode cX8_draws 82 = .ok (.bipush 12, 2) := by decide +kernel
theorem dX8_draws_84 : decode cX8_draws 84 = .ok (.dup2, 1) := by decide +kernel
theorem dX8_draws_85 : decode cX8_draws 85 = .ok (.iaload, 1) := by decide +kernel
theorem dX8_draws_86 : decode cX8_draws 86 = .ok (.iload 4, 2) := by decide +kernel
theorem dX8_draws_88 : decode cX8_draws 88 = .ok (.isub, 1) := by decide +kernel
theorem dX8_draws_89 : decode cX8_draws 89 = .ok (.iastore, 1) := by decide +kernel
theorem dX8_draws_90 : decode cX8_draws 90 = .ok (.aload_n 0, 1) := by decide +kernel
theorem dX8_draws_91 : decode cX8_draws 91 = .ok (.getfield 7, 3) := by decide +kernel
theorem dX8_draws_94 : decode cX8_draws 94 = .ok (.bipush 13, 2) := by decide +kernel
theorem dX8_draws_96 : decode cX8_draws 96 = .ok (.dup2, 1) := by decide +kernel
theorem dX8_draws_97 : decode cX8_draws 97 = .ok (.iaload, 1) := by decide +kernel
theorem dX8_draws_98 : decode cX8_draws 98 = .ok (.iload 5, 2) := by decide +kernel
theorem dX8_draws_100 : decode cX8_draws 100 = .ok (.isub, 1) := by decide +kernel
theorem dX8_draws_101 : decode cX8_draws 101 = .ok (.iastore, 1) := by decide +kernel
theorem dX8_draws_102 : decode cX8_draws 102 = .ok (.aload_n 0, 1) := by decide +kernel
theorem dX8_draws_103 : decode cX8_draws 103 = .ok (.getfield 7, 3) := by decide +kernel
theorem dX8_draws_106 : decode cX8_draws 106 = .ok (.bipush 23, 2) := by decide +kernel
theorem dX8_draws_108 : decode cX8_draws 108 = .ok (.dup2, 1) := by decide +kernel
theorem dX8_draws_109 : decode cX8_draws 109 = .ok (.iaload, 1) := by decide +kernel
theorem dX8_draws_110 : decode cX8_draws 110 = .ok (.iload 4, 2) := by decide +kernel
theorem dX8_draws_112 : decode cX8_draws 112 = .ok (.iadd, 1) := by decide +kernel
theorem dX8_draws_113 : decode cX8_draws 113 = .ok (.iastore, 1) := by decide +kernel
theorem dX8_draws_114 : decode cX8_draws 114 = .ok (.aload_n 0, 1) := by decide +kernel
theorem dX8_draws_115 : decode cX8_draws 115 = .ok (.getfield 7, 3) := by decide +kernel
theorem dX8_draws_118 : decode cX8_draws 118 = .ok (.bipush 25, 2) := by decide +kernel
theorem dX8_draws_120 : decode cX8_draws 120 = .ok (.dup2, 1) := by decide +kernel
theorem dX8_draws_121 : decode cX8_draws 121 = .ok (.iaload, 1) := by decide +kernel
theorem dX8_draws_122 : decode cX8_draws 122 = .ok (.iload 5, 2) := by decide +kernel
theorem dX8_draws_124 : decode cX8_draws 124 = .ok (.iadd, 1) := by decide +kernel
theorem dX8_draws_125 : decode cX8_draws 125 = .ok (.iastore, 1) := by decide +kernel
theorem dX8_draws_126 : decode cX8_draws 126 = .ok (.bipush 100, 2) := by decide +kernel
theorem dX8_draws_128 : decode cX8_draws 128 = .ok (.iload 4, 2) := by decide +kernel
theorem dX8_draws_130 : decode cX8_draws 130 = .ok (.imul, 1) := by decide +kernel
theorem dX8_draws_131 : decode cX8_draws 131 = .ok (.iload_n 3, 1) := by decide +kernel
theorem dX8_draws_132 : decode cX8_draws 132 = .ok (.idiv, 1) := by decide +kernel
theorem dX8_draws_133 : decode cX8_draws 133 = .ok (.aload_n 0, 1) := by decide +kernel
theorem dX8_draws_134 : decode cX8_draws 134 = .ok (.getfield 7, 3) := by decide +kernel
theorem dX8_draws_137 : decode cX8_draws 137 = .ok (.iconst 5, 1) := by decide +kernel
theorem dX8_draws_138 : decode cX8_draws 138 = .ok (.iaload, 1) := by decide +kernel
theorem dX8_draws_139 : decode cX8_draws 139 = .ok (.if_icmp .le 7, 3) := by decide +kernel
theorem dX8_draws_142 : decode cX8_draws 142 = .ok (.iconst 1, 1) := by decide +kernel
theorem dX8_draws_143 : decode cX8_draws 143 = .ok (.goto 4, 3) := by decide +kernel
theorem dX8_draws_146 : decode cX8_draws 146 = .ok (.iconst 0, 1) := by decide +kernel
theorem dX8_draws_147 : decode cX8_draws 147 = .ok (.istore 6, 2) := by decide +kernel
theorem dX8_draws_149 : decode cX8_draws 149 = .ok (.iload 6, 2) := by decide +kernel
theorem dX8_draws_151 : decode cX8_draws 151 = .ok (.ifCond .ne 14, 3) := by decide +kernel
theorem dX8_draws_154 : decode cX8_draws 154 = .ok (.aload_n 0, 1) := by decide +kernel
theorem dX8_draws_155 : decode cX8_draws 155 = .ok (.getfield 7, 3) := by decide +kernel
theorem dX8_draws_158 : decode cX8_draws 158 = .ok (.iload_n 2, 1) := by decide +kernel
theorem dX8_draws_159 : decode cX8_draws 159 = .ok (.iconst 2, 1) := by decide +kernel
theorem dX8_draws_160 : decode cX8_draws 160 = .ok (.iadd, 1) := by decide +kernel
theorem dX8_draws_161 : decode cX8_draws 161 = .ok (.iaload, 1) := by decide +kernel
theorem dX8_draws_162 : decode cX8_draws 162 = .ok (.ifCond .le 7, 3) := by decide +kernel
theorem dX8_draws_165 : decode cX8_draws 165 = .ok (.iconst 1, 1) := by decide +kernel
theorem dX8_draws_166 : decode cX8_draws 166 = .ok (.goto 4, 3) := by decide +kernel
theorem dX8_draws_169 : decode cX8_draws 169 = .ok (.iconst 0, 1) := by decide +kernel
theorem dX8_draws_170 : decode cX8_draws 170 = .ok (.istore 7, 2) := by decide +kernel
theorem dX8_draws_172 : decode cX8_draws 172 = .ok (.iload 6, 2) := by decide +kernel
theorem dX8_draws_174 : decode cX8_draws 174 = .ok (.ifCond .eq 7, 3) := by decide +kernel
theorem dX8_draws_177 : decode cX8_draws 177 = .ok (.iconst 1, 1) := by decide +kernel
theorem dX8_draws_178 : decode cX8_draws 178 = .ok (.goto 28, 3) := by decide +kernel
theorem dX8_draws_181 : decode cX8_draws 181 = .ok (.aload_n 0, 1) := by decide +kernel
theorem dX8_draws_182 : decode cX8_draws 182 = .ok (.getfield 7, 3) := by decide +kernel
theorem dX8_draws_185 : decode cX8_draws 185 = .ok (.iload_n 2, 1) := by decide +kernel
theorem dX8_draws_186 : decode cX8_draws 186 = .ok (.iconst 2, 1) := by decide +kernel
theorem dX8_draws_187 : decode cX8_draws 187 = .ok (.iadd, 1) := by decide +kernel
theorem dX8_draws_188 : decode cX8_draws 188 = .ok (.iaload, 1) := by decide +kernel
theorem dX8_draws_189 : decode cX8_draws 189 = .ok (.ifCond .le 16, 3) := by decide +kernel
theorem dX8_draws_192 : decode cX8_draws 192 = .ok (.aload_n 0, 1) := by decide +kernel
theorem dX8_draws_193 : decode cX8_draws 193 = .ok (.getfield 7, 3) := by decide +kernel
theorem dX8_draws_196 : decode cX8_draws 196 = .ok (.iload_n 2, 1) := by decide +kernel
theorem dX8_draws_197 : decode cX8_draws 197 = .ok (.iconst 2, 1) := by decide +kernel
theorem dX8_draws_198 : decode cX8_draws 198 = .ok (.iadd, 1) := by decide +kernel
theorem dX8_draws_199 : decode cX8_draws 199 = .ok (.iaload, 1) := by decide +kernel
theorem dX8_draws_200 : decode cX8_draws 200 = .ok (.iconst 1, 1) := by decide +kernel
theorem dX8_draws_201 : decode cX8_draws 201 = .ok (.iadd, 1) := by decide +kernel
theorem dX8_draws_202 : decode cX8_draws 202 = .ok (.goto 4, 3) := by decide +kernel
theorem dX8_draws_205 : decode cX8_draws 205 = .ok (.iconst 0, 1) := by decide +kernel
theorem dX8_draws_206 : decode cX8_draws 206 = .ok (.istore 8, 2) := by decide +kernel
theorem dX8_draws_208 : decode cX8_draws 208 = .ok (.aload_n 0, 1) := by decide +kernel
theorem dX8_draws_209 : decode cX8_draws 209 = .ok (.getfield 7, 3) := by decide +kernel
theorem dX8_draws_212 : decode cX8_draws 212 = .ok (.iload_n 2, 1) := by decide +kernel
theorem dX8_draws_213 : decode cX8_draws 213 = .ok (.iconst 2, 1) := by decide +kernel
theorem dX8_draws_214 : decode cX8_draws 214 = .ok (.iadd, 1) := by decide +kernel
theorem dX8_draws_215 : decode cX8_draws 215 = .ok (.iload 6, 2) := by decide +kernel
theorem dX8_draws_217 : decode cX8_draws 217 = .ok (.ifCond .ne 19, 3) := by decide +kernel
theorem dX8_draws_220 : decode cX8_draws 220 = .ok (.iload 8, 2) := by decide +kernel
theorem dX8_draws_222 : decode cX8_draws 222 = .ok (.aload_n 0, 1) := by decide +kernel
theorem dX8_draws_223 : decode cX8_draws 223 = .ok (.getfield 7, 3) := by decide +kernel
theorem dX8_draws_226 : decode cX8_draws 226 = .ok (.bipush 7, 2) := by decide +kernel
theorem dX8_draws_228 : decode cX8_draws 228 = .ok (.iaload, 1) := by decide +kernel
theorem dX8_draws_229 : decode cX8_draws 229 = .ok (.if_icmp .le 7, 3) := by decide +kernel
theorem dX8_draws_232 : decode cX8_draws 232 = .ok (.iconst 0, 1) := by decide +kernel
theorem dX8_draws_233 : decode cX8_draws 233 = .ok (.goto 5, 3) := by decide +kernel
theorem dX8_draws_236 : decode cX8_draws 236 = .ok (.iload 8, 2) := by decide +kernel
theorem dX8_draws_238 : decode cX8_draws 238 = .ok (.iastore, 1) := by decide +kernel
theorem dX8_draws_239 : decode cX8_draws 239 = .ok (.aload_n 0, 1) := by decide +kernel
theorem dX8_draws_240 : decode cX8_draws 240 = .ok (.getfield 7, 3) := by decide +kernel
theorem dX8_draws_243 : decode cX8_draws 243 = .ok (.iload_n 2, 1) := by decide +kernel
theorem dX8_draws_244 : decode cX8_draws 244 = .ok (.iconst 3, 1) := by decide +kernel
theorem dX8_draws_245 : decode cX8_draws 245 = .ok (.iadd, 1) := by decide +kernel
theorem dX8_draws_246 : decode cX8_draws 246 = .ok (.dup2, 1) := by decide +kernel
theorem dX8_draws_247 : decode cX8_draws 247 = .ok (.iaload, 1) := by decide +kernel
theorem dX8_draws_248 : decode cX8_draws 248 = .ok (.iload_n 3, 1) := by decide +kernel
theorem dX8_draws_249 : decode cX8_draws 249 = .ok (.iadd, 1) := by decide +kernel
theorem dX8_draws_250 : decode cX8_draws 250 = .ok (.iastore, 1) := by decide +kernel
theorem dX8_draws_251 : decode cX8_draws 251 = .ok (.aload_n 0, 1) := by decide +kernel
theorem dX8_draws_252 : decode cX8_draws 252 = .ok (.getfield 7, 3) := by decide +kernel
theorem dX8_draws_255 : decode cX8_draws 255 = .ok (.iload_n 2, 1) := by decide +kernel
theorem dX8_draws_256 : decode cX8_draws 256 = .ok (.iconst 4, 1) := by decide +kernel
theorem dX8_draws_257 : decode cX8_draws 257 = .ok (.iadd, 1) := by decide +kernel
theorem dX8_draws_258 : decode cX8_draws 258 = .ok (.dup2, 1) := by decide +kernel
theorem dX8_draws_259 : decode cX8_draws 259 = .ok (.iaload, 1) := by decide +kernel
theorem dX8_draws_260 : decode cX8_draws 260 = .ok (.iload 7, 2) := by decide +kernel
theorem dX8_draws_262 : decode cX8_draws 262 = .ok (.ifCond .eq 7, 3) := by decide +kernel
theorem dX8_draws_265 : decode cX8_draws 265 = .ok (.iload_n 3, 1) := by decide +kernel
theorem dX8_draws_266 : decode cX8_draws 266 = .ok (.goto 4, 3) := by decide +kernel
theorem dX8_draws_269 : decode cX8_draws 269 = .ok (.iconst 0, 1) := by decide +kernel
theorem dX8_draws_270 : decode cX8_draws 270 = .ok (.iadd, 1) := by decide +kernel
theorem dX8_draws_271 : decode cX8_draws 271 = .ok (.iastore, 1) := by decide +kernel
theorem dX8_draws_272 : decode cX8_draws 272 = .ok (.aload_n 0, 1) := by decide +kernel
theorem dX8_draws_273 : decode cX8_draws 273 = .ok (.getfield 7, 3) := by decide +kernel
theorem dX8_draws_276 : decode cX8_draws 276 = .ok (.bipush 19, 2) := by decide +kernel
theorem dX8_draws_278 : decode cX8_draws 278 = .ok (.iload 7, 2) := by decide +kernel
theorem dX8_draws_280 : decode cX8_draws 280 = .ok (.ifCond .eq 7, 3) := by decide +kernel
theorem dX8_draws_283 : decode cX8_draws 283 = .ok (.iconst 2, 1) := by decide +kernel
theorem dX8_draws_284 : decode cX8_draws 284 = .ok (.goto 4, 3) := by decide +kernel
theorem dX8_draws_287 : decode cX8_draws 287 = .ok (.iconst 1, 1) := by decide +kernel
theorem dX8_draws_288 : decode cX8_draws 288 = .ok (.iadd, 1) := by decide +kernel
theorem dX8_draws_289 : decode cX8_draws 289 = .ok (.dup2, 1) := by decide +kernel
theorem dX8_draws_290 : decode cX8_draws 290 = .ok (.iaload, 1) := by decide +kernel
theorem dX8_draws_291 : decode cX8_draws 291 = .ok (.iload_n 3, 1) := by decide +kernel
theorem dX8_draws_292 : decode cX8_draws 292 = .ok (.iadd, 1) := by decide +kernel
theorem dX8_draws_293 : decode cX8_draws 293 = .ok (.iastore, 1) := by decide +kernel
theorem dX8_draws_294 : decode cX8_draws 294 = .ok (.aload_n 0, 1) := by decide +kernel
theorem dX8_draws_295 : decode cX8_draws 295 = .ok (.getfield 7, 3) := by decide +kernel
theorem dX8_draws_298 : decode cX8_draws 298 = .ok (.bipush 15, 2) := by decide +kernel
theorem dX8_draws_300 : decode cX8_draws 300 = .ok (.dup2, 1) := by decide +kernel
theorem dX8_draws_301 : decode cX8_draws 301 = .ok (.iaload, 1) := by decide +kernel
theorem dX8_draws_302 : decode cX8_draws 302 = .ok (.iload 7, 2) := by decide +kernel
theorem dX8_draws_304 : decode cX8_draws 304 = .ok (.ifCond .eq 7, 3) := by decide +kernel
theorem dX8_draws_307 : decode cX8_draws 307 = .ok (.iconst 0, 1) := by decide +kernel
theorem dX8_draws_308 : decode cX8_draws 308 = .ok (.goto 4, 3) := by decide +kernel
theorem dX8_draws_311 : decode cX8_draws 311 = .ok (.iload_n 3, 1) := by decide +kernel
theorem dX8_draws_312 : decode cX8_draws 312 = .ok (.iadd, 1) := by decide +kernel
theorem dX8_draws_313 : decode cX8_draws 313 = .ok (.iastore, 1) := by decide +kernel
theorem dX8_draws_314 : decode cX8_draws 314 = .ok (.aload_n 0, 1) := by decide +kernel
theorem dX8_draws_315 : decode cX8_draws 315 = .ok (.getfield 7, 3) := by decide +kernel
theorem dX8_draws_318 : decode cX8_draws 318 = .ok (.iload_n 2, 1) := by decide +kernel
theorem dX8_draws_319 : decode cX8_draws 319 = .ok (.iconst 1, 1) := by decide +kernel
theorem dX8_draws_320 : decode cX8_draws 320 = .ok (.iadd, 1) := by decide +kernel
theorem dX8_draws_321 : decode cX8_draws 321 = .ok (.dup2, 1) := by decide +kernel
theorem dX8_draws_322 : decode cX8_draws 322 = .ok (.iaload, 1) := by decide +kernel
theorem dX8_draws_323 : decode cX8_draws 323 = .ok (.iload 5, 2) := by decide +kernel
theorem dX8_draws_325 : decode cX8_draws 325 = .ok (.iadd, 1) := by decide +kernel
theorem dX8_draws_326 : decode cX8_draws 326 = .ok (.iastore, 1) := by decide +kernel
theorem dX8_draws_327 : decode cX8_draws 327 = .ok (.aload_n 0, 1) := by decide +kernel
theorem dX8_draws_328 : decode cX8_draws 328 = .ok (.getfield 7, 3) := by decide +kernel
theorem dX8_draws_331 : decode cX8_draws 331 = .ok (.iload_n 2, 1) := by decide +kernel
theorem dX8_draws_332 : decode cX8_draws 332 = .ok (.aload_n 0, 1) := by decide +kernel
theorem dX8_draws_333 : decode cX8_draws 333 = .ok (.getfield 7, 3) := by decide +kernel
theorem dX8_draws_336 : decode cX8_draws 336 = .ok (.iload_n 2, 1) := by decide +kernel
theorem dX8_draws_337 : decode cX8_draws 337 = .ok (.iconst 1, 1) := by decide +kernel
theorem dX8_draws_338 : decode cX8_draws 338 = .ok (.iadd, 1) := by decide +kernel
theorem dX8_draws_339 : decode cX8_draws 339 = .ok (.iaload, 1) := by decide +kernel
theorem dX8_draws_340 : decode cX8_draws 340 = .ok (.aload_n 0, 1) := by decide +kernel
theorem dX8_draws_341 : decode cX8_draws 341 = .ok (.getfield 7, 3) := by decide +kernel
theorem dX8_draws_344 : decode cX8_draws 344 = .ok (.iconst 4, 1) := by decide +kernel
theorem dX8_draws_345 : decode cX8_draws 345 = .ok (.iaload, 1) := by decide +kernel
theorem dX8_draws_346 : decode cX8_draws 346 = .ok (.if_icmp .lt 7, 3) := by decide +kernel
theorem dX8_draws_349 : decode cX8_draws 349 = .ok (.iconst 1, 1) := by decide +kernel
theorem dX8_draws_350 : decode cX8_draws 350 = .ok (.goto 4, 3) := by decide +kernel
theorem dX8_draws_353 : decode cX8_draws 353 = .ok (.iconst 0, 1) := by decide +kernel
theorem dX8_draws_354 : decode cX8_draws 354 = .ok (.iastore, 1) := by decide +kernel
theorem dX8_draws_355 : decode cX8_draws 355 = .ok (.return_, 1) := by decide +kernel
set_option maxRecDepth 20000 in
theorem ggX8_told_X8_of : GoodIn wsX8_told wsX8_of := goodIn_r _ [6, 1, 10, 11, 12, 13, 14, 15, 16, 17, 18, 19, 20] (by decide +kernel) (by decide +kernel)
set_option maxRecDepth 20000 in
theorem gX8_told_X8_of : GoodIn wsX8_told (wsV RX8 37 RX8 yX8_of wsX8_of) := goodIn_app (goodIn_of _ (by decide +kernel)) ggX8_told_X8_of
set_option maxRecDepth 20000 in
theorem ggX8_told_X8_lesser : GoodIn wsX8_told wsX8_lesser := goodIn_r _ [9] (by decide +kernel) (by decide +kernel)
set_option maxRecDepth 20000 in
theorem gX8_told_X8_lesser : GoodIn wsX8_told (va_wsS RX8 59 yX8_lesser wsX8_lesser) := goodIn_app (goodIn_of _ (by decide +kernel)) ggX8_told_X8_lesser
theorem dX8_told_0 : decode cX8_told 0 = .ok (.aload_n 0, 1) := by decide +kernel
theorem dX8_told_1 : decode cX8_told 1 = .ok (.getfield 7, 3) := by decide +kernel
theorem dX8_told_4 : decode cX8_told 4 = .ok (.bipush 20, 2) := by decide +kernel
theorem dX8_told_6 : decode cX8_told 6 = .ok (.iaload, 1) := by decide +kernel
theorem dX8_told_7 : decode cX8_told 7 = .ok (.aload_n 0, 1) := by decide +kernel
theorem dX8_told_8 : decode cX8_told 8 = .ok (.getfield 7, 3) := by decide +kernel
theorem dX8_told_11 : decode cX8_told 11 = .ok (.bipush 21, 2) := by decide +kernel
theorem dX8_told_13 : decode cX8_told 13 = .ok (.iaload, 1) := by decide +kernel
theorem dX8_told_14 : decode cX8_told 14 = .ok (.iadd, 1) := by decide +kernel
theorem dX8_told_15 : decode cX8_told 15 = .ok (.istore_n 1, 1) := by decide +kernel
theorem dX8_told_16 : decode cX8_told 16 = .ok (.iconst 0, 1) := by decide +kernel
theorem dX8_told_17 : decode cX8_told 17 = .ok (.istore_n 2, 1) := by decide +kernel
theorem dX8_told_18 : decode cX8_told 18 = .ok (.iconst 1, 1) := by decide +kernel
theorem dX8_told_19 : decode cX8_told 19 = .ok (.istore_n 3, 1) := by decide +kernel
theorem dX8_told_20 : decode cX8_told 20 = .ok (.iconst 0, 1) := by decide +kernel
theorem dX8_told_21 : decode cX8_told 21 = .ok (.istore 4, 2) := by decide +kernel
theorem dX8_told_23 : decode cX8_told 23 = .ok (.iload 4, 2) := by decide +kernel
theorem dX8_told_25 : decode cX8_told 25 = .ok (.aload_n 0, 1) := by decide +kernel
theorem dX8_told_26 : decode cX8_told 26 = .ok (.getfield 7, 3) := by decide +kernel
theorem dX8_told_29 : decode cX8_told 29 = .ok (.bipush 8, 2) := by decide +kernel
theorem dX8_told_31 : decode cX8_told 31 = .ok (.iaload, 1) := by decide +kernel
theorem dX8_told_32 : decode cX8_told 32 = .ok (.if_icmp .ge 91, 3) := by decide +kernel
theorem dX8_told_35 : decode cX8_told 35 = .ok (.iload_n 3, 1) := by decide +kernel
theorem dX8_told_36 : decode cX8_told 36 = .ok (.ifCond .eq 87, 3) := by decide +kernel
theorem dX8_told_39 : decode cX8_told 39 = .ok (.aload_n 0, 1) := by decide +kernel
theorem dX8_told_40 : decode cX8_told 40 = .ok (.iload 4, 2) := by decide +kernel
theorem dX8_told_42 : decode cX8_told 42 = .ok (.iconst 0, 1) := by decide +kernel
theorem dX8_told_43 : decode cX8_told 43 = .ok (.invokevirtual 37, 3) := by decide +kernel
theorem dX8_told_46 : decode cX8_told 46 = .ok (.iconst 1, 1) := by decide +kernel
theorem dX8_told_47 : decode cX8_told 47 = .ok (.if_icmp .ne 13, 3) := by decide +kernel
theorem dX8_told_50 : decode cX8_told 50 = .ok (.aload_n 0, 1) := by decide +kernel
theorem dX8_told_51 : decode cX8_told 51 = .ok (.iload 4, 2) := by decide +kernel
theorem dX8_told_53 : decode cX8_told 53 = .ok (.iconst 1, 1) := by decide +kernel
theorem dX8_told_54 : decode cX8_told 54 = .ok (.invokevirtual 37, 3) := by decide +kernel
theorem dX8_told_57 : decode cX8_told 57 = .ok (.goto 22, 3) := by decide +kernel
theorem dX8_told_60 : decode cX8_told 60 = .ok (.aload_n 0, 1) := by decide +kernel
theorem dX8_told_61 : decode cX8_told 61 = .ok (.iload 4, 2) := by decide +kernel
theorem dX8_told_63 : decode cX8_told 63 = .ok (.iconst 1, 1) := by decide +kernel
theorem dX8_told_64 : decode cX8_told 64 = .ok (.invokevirtual 37, 3) := by decide +kernel
theorem dX8_told_67 : decode cX8_told 67 = .ok (.iload_n 1, 1) := by decide +kernel
theorem dX8_told_68 : decode cX8_told 68 = .ok (.aload_n 0, 1) := by decide +kernel
theorem dX8_told_69 : decode cX8_told 69 = .ok (.iload 4, 2) := by decide +kernel
theorem dX8_told_71 : decode cX8_told 71 = .ok (.iconst 2, 1) := by decide +kernel
theorem dX8_told_72 : decode cX8_told 72 = .ok (.invokevirtual 37, 3) := by decide +kernel
theorem dX8_told_75 : decode cX8_told 75 = .ok (.idiv, 1) := by decide +kernel
theorem dX8_told_76 : decode cX8_told 76 = .ok (.invokestatic 59, 3) := by decide +kernel
theorem dX8_told_79 : decode cX8_told 79 = .ok (.istore 5, 2) := by decide +kernel
theorem dX8_told_81 : decode cX8_told 81 = .ok (.iload_n 1, 1) := by decide +kernel
theorem dX8_told_82 : decode cX8_told 82 = .ok (.iload 5, 2) := by decide +kernel
theorem dX8_told_84 : decode cX8_told 84 = .ok (.aload_n 0, 1) := by decide +kernel
theorem dX8_told_85 : decode cX8_told 85 = .ok (.iload 4, 2) := by decide +kernel
theorem dX8_told_87 : decode cX8_told 87 = .ok (.iconst 2, 1) := by decide +kernel
theorem dX8_told_88 : decode cX8_told 88 = .ok (.invokevirtual 37, 3) := by decide +kernel
theorem dX8_told_91 : decode cX8_told 91 = .ok (.imul, 1) := by decide +kernel
theorem dX8_told_92 : decode cX8_told 92 = .ok (.isub, 1) := by decide +kernel
theorem dX8_told_93 : decode cX8_told 93 = .ok (.istore_n 1, 1) := by decide +kernel
theorem dX8_told_94 : decode cX8_told 94 = .ok (.iload_n 2, 1) := by decide +kernel
end
section
theorem dX8_told_95 : decode cX8_told 95 = .ok (.iload 5, 2) := by decide +kernel
theorem dX8_told_97 : decode cX8_told 97 = .ok (.iadd, 1) := by decide +kernel
theorem dX8_told_98 : decode cX8_told 98 = .ok (.istore_n 2, 1) := by decide +kernel
theorem dX8_told_99 : decode cX8_told 99 = .ok (.iload 5, 2) := by decide +kernel
theorem dX8_told_101 : decode cX8_told 101 = .ok (.aload_n 0, 1) := by decide +kernel
theorem dX8_told_102 : decode cX8_told 102 = .ok (.iload 4, 2) := by decide +kernel
theorem dX8_told_104 : decode cX8_told 104 = .ok (.iconst 1, 1) := by decide +kernel
theorem dX8_told_105 : decode cX8_told 105 = .ok (.invokevirtual 37, 3) := by decide +kernel
theorem dX8_told_108 : decode cX8_told 108 = .ok (.if_icmp .ne 7, 3) := by decide +kernel
theorem dX8_told_111 : decode cX8_told 111 = .ok (.iconst 1, 1) := by decide +kernel
theorem dX8_told_112 : decode cX8_told 112 = .ok (.goto 4, 3) := by decide +kernel
theorem dX8_told_115 : decode cX8_told 115 = .ok (.iconst 0, 1) := by decide +kernel
theorem dX8_told_116 : decode cX8_told 116 = .ok (.istore_n 3, 1) := by decide +kernel
theorem dX8_told_117 : decode cX8_told 117 = .ok (.iinc 4 1, 3) := by decide +kernel
theorem dX8_told_120 : decode cX8_told 120 = .ok (.goto (-97), 3) := by decide +kernel
theorem dX8_told_123 : decode cX8_told 123 = .ok (.iload_n 2, 1) := by decide +kernel
theorem dX8_told_124 : decode cX8_told 124 = .ok (.aload_n 0, 1) := by decide +kernel
theorem dX8_told_125 : decode cX8_told 125 = .ok (.getfield 7, 3) := by decide +kernel
theorem dX8_told_128 : decode cX8_told 128 = .ok (.bipush 9, 2) := by decide +kernel
theorem dX8_told_130 : decode cX8_told 130 = .ok (.iaload, 1) := by decide +kernel
theorem dX8_told_131 : decode cX8_told 131 = .ok (.invokestatic 59, 3) := by decide +kernel
theorem dX8_told_134 : decode cX8_told 134 = .ok (.ireturn, 1) := by decide +kernel
set_option maxRecDepth 20000 in
theorem ggX8_seals_X8_told : GoodIn wsX8_seals wsX8_told := goodIn_r _ [6, 1, 7, 8, 9, 5, 10, 11, 12, 13, 14, 15, 16, 17, 18, 19, 20, 21, 22, 23, 24] (by decide +kernel) (by decide +kernel)
set_option maxRecDepth 20000 in
theorem gX8_seals_X8_told : GoodIn wsX8_seals (wsV RX8 92 RX8 yX8_told wsX8_told) := goodIn_app (goodIn_of _ (by decide +kernel)) ggX8_seals_X8_told
theorem dX8_seals_0 : decode cX8_seals 0 = .ok (.aload_n 0, 1) := by decide +kernel
theorem dX8_seals_1 : decode cX8_seals 1 = .ok (.getfield 7, 3) := by decide +kernel
theorem dX8_seals_4 : decode cX8_seals 4 = .ok (.bipush 15, 2) := by decide +kernel
theorem dX8_seals_6 : decode cX8_seals 6 = .ok (.iaload, 1) := by decide +kernel
theorem dX8_seals_7 : decode cX8_seals 7 = .ok (.aload_n 0, 1) := by decide +kernel
theorem dX8_seals_8 : decode cX8_seals 8 = .ok (.getfield 7, 3) := by decide +kernel
theorem dX8_seals_11 : decode cX8_seals 11 = .ok (.bipush 6, 2) := by decide +kernel
theorem dX8_seals_13 : decode cX8_seals 13 = .ok (.iaload, 1) := by decide +kernel
theorem dX8_seals_14 : decode cX8_seals 14 = .ok (.if_icmp .lt 15, 3) := by decide +kernel
theorem dX8_seals_17 : decode cX8_seals 17 = .ok (.aload_n 0, 1) := by decide +kernel
theorem dX8_seals_18 : decode cX8_seals 18 = .ok (.getfield 7, 3) := by decide +kernel
theorem dX8_seals_21 : decode cX8_seals 21 = .ok (.bipush 14, 2) := by decide +kernel
theorem dX8_seals_23 : decode cX8_seals 23 = .ok (.iaload, 1) := by decide +kernel
theorem dX8_seals_24 : decode cX8_seals 24 = .ok (.bipush 40, 2) := by decide +kernel
theorem dX8_seals_26 : decode cX8_seals 26 = .ok (.if_icmp .ne 4, 3) := by decide +kernel
theorem dX8_seals_29 : decode cX8_seals 29 = .ok (.return_, 1) := by decide +kernel
theorem dX8_seals_30 : decode cX8_seals 30 = .ok (.bipush 126, 2) := by decide +kernel
theorem dX8_seals_32 : decode cX8_seals 32 = .ok (.iconst 3, 1) := by decide +kernel
theorem dX8_seals_33 : decode cX8_seals 33 = .ok (.aload_n 0, 1) := by decide +kernel
theorem dX8_seals_34 : decode cX8_seals 34 = .ok (.getfield 7, 3) := by decide +kernel
theorem dX8_seals_37 : decode cX8_seals 37 = .ok (.bipush 14, 2) := by decide +kernel
theorem dX8_seals_39 : decode cX8_seals 39 = .ok (.iaload, 1) := by decide +kernel
theorem dX8_seals_40 : decode cX8_seals 40 = .ok (.imul, 1) := by decide +kernel
theorem dX8_seals_41 : decode cX8_seals 41 = .ok (.iadd, 1) := by decide +kernel
theorem dX8_seals_42 : decode cX8_seals 42 = .ok (.istore_n 1, 1) := by decide +kernel
theorem dX8_seals_43 : decode cX8_seals 43 = .ok (.aload_n 0, 1) := by decide +kernel
theorem dX8_seals_44 : decode cX8_seals 44 = .ok (.getfield 7, 3) := by decide +kernel
theorem dX8_seals_47 : decode cX8_seals 47 = .ok (.iload_n 1, 1) := by decide +kernel
theorem dX8_seals_48 : decode cX8_seals 48 = .ok (.aload_n 0, 1) := by decide +kernel
theorem dX8_seals_49 : decode cX8_seals 49 = .ok (.getfield 7, 3) := by decide +kernel
theorem dX8_seals_52 : decode cX8_seals 52 = .ok (.bipush 15, 2) := by decide +kernel
theorem dX8_seals_54 : decode cX8_seals 54 = .ok (.iaload, 1) := by decide +kernel
theorem dX8_seals_55 : decode cX8_seals 55 = .ok (.iastore, 1) := by decide +kernel
theorem dX8_seals_56 : decode cX8_seals 56 = .ok (.aload_n 0, 1) := by decide +kernel
theorem dX8_seals_57 : decode cX8_seals 57 = .ok (.getfield 7, 3) := by decide +kernel
theorem dX8_seals_60 : decode cX8_seals 60 = .ok (.iload_n 1, 1) := by decide +kernel
theorem dX8_seals_61 : decode cX8_seals 61 = .ok (.iconst 1, 1) := by decide +kernel
theorem dX8_seals_62 : decode cX8_seals 62 = .ok (.iadd, 1) := by decide +kernel
theorem dX8_seals_63 : decode cX8_seals 63 = .ok (.aload_n 0, 1) := by decide +kernel
theorem dX8_seals_64 : decode cX8_seals 64 = .ok (.invokevirtual 92, 3) := by decide +kernel
theorem dX8_seals_67 : decode cX8_seals 67 = .ok (.iastore, 1) := by decide +kernel
theorem dX8_seals_68 : decode cX8_seals 68 = .ok (.aload_n 0, 1) := by decide +kernel
theorem dX8_seals_69 : decode cX8_seals 69 = .ok (.getfield 7, 3) := by decide +kernel
theorem dX8_seals_72 : decode cX8_seals 72 = .ok (.iload_n 1, 1) := by decide +kernel
theorem dX8_seals_73 : decode cX8_seals 73 = .ok (.iconst 2, 1) := by decide +kernel
theorem dX8_seals_74 : decode cX8_seals 74 = .ok (.iadd, 1) := by decide +kernel
theorem dX8_seals_75 : decode cX8_seals 75 = .ok (.aload_n 0, 1) := by decide +kernel
theorem dX8_seals_76 : decode cX8_seals 76 = .ok (.getfield 7, 3) := by decide +kernel
theorem dX8_seals_79 : decode cX8_seals 79 = .ok (.bipush 16, 2) := by decide +kernel
theorem dX8_seals_81 : decode cX8_seals 81 = .ok (.iaload, 1) := by decide +kernel
theorem dX8_seals_82 : decode cX8_seals 82 = .ok (.iastore, 1) := by decide +kernel
theorem dX8_seals_83 : decode cX8_seals 83 = .ok (.aload_n 0, 1) := by decide +kernel
theorem dX8_seals_84 : decode cX8_seals 84 = .ok (.getfield 7, 3) := by decide +kernel
theorem dX8_seals_87 : decode cX8_seals 87 = .ok (.bipush 14, 2) := by decide +kernel
theorem dX8_seals_89 : decode cX8_seals 89 = .ok (.dup2, 1) := by decide +kernel
theorem dX8_seals_90 : decode cX8_seals 90 = .ok (.iaload, 1) := by decide +kernel
theorem dX8_seals_91 : decode cX8_seals 91 = .ok (.iconst 1, 1) := by decide +kernel
theorem dX8_seals_92 : decode cX8_seals 92 = .ok (.iadd, 1) := by decide +kernel
theorem dX8_seals_93 : decode cX8_seals 93 = .ok (.iastore, 1) := by decide +kernel
theorem dX8_seals_94 : decode cX8_seals 94 = .ok (.aload_n 0, 1) := by decide +kernel
theorem dX8_seals_95 : decode cX8_seals 95 = .ok (.getfield 7, 3) := by decide +kernel
theorem dX8_seals_98 : decode cX8_seals 98 = .ok (.bipush 15, 2) := by decide +kernel
theorem dX8_seals_100 : decode cX8_seals 100 = .ok (.iconst 0, 1) := by decide +kernel
theorem dX8_seals_101 : decode cX8_seals 101 = .ok (.iastore, 1) := by decide +kernel
theorem dX8_seals_102 : decode cX8_seals 102 = .ok (.return_, 1) := by decide +kernel
set_option maxRecDepth 20000 in
theorem ggX8_tick_X8_length : GoodIn wsX8_tick wsX8_length := goodIn_r _ [6, 1, 7, 8, 9, 5, 10, 11, 12, 13, 14, 54, 55, 56, 57, 58, 59, 60, 61, 62, 63, 64] (by decide +kernel) (by decide +kernel)
set_option maxRecDepth 20000 in
theorem gX8_tick_X8_length : GoodIn wsX8_tick (wsV RX8 71 RX8 yX8_length wsX8_length) := goodIn_app (goodIn_of _ (by decide +kernel)) ggX8_tick_X8_length
set_option maxRecDepth 20000 in
theorem ggX8_tick_X8_reasonNow : GoodIn wsX8_tick wsX8_reasonNow := goodIn_r _ [18, 1, 19, 20, 21, 5, 22, 23, 24, 25, 26, 54, 55, 56, 57, 58, 59, 60, 61, 62, 63, 64] (by decide +kernel) (by decide +kernel)
set_option maxRecDepth 20000 in
theorem gX8_tick_X8_reasonNow : GoodIn wsX8_tick (wsV RX8 95 RX8 yX8_reasonNow wsX8_reasonNow) := goodIn_app (goodIn_of _ (by decide +kernel)) ggX8_tick_X8_reasonNow
set_option maxRecDepth 20000 in
theorem ggX8_tick_X8_melts : GoodIn wsX8_tick wsX8_melts := goodIn_r _ [30, 1, 31, 32, 33, 5, 34, 7, 8, 9, 10, 11, 12, 13, 14, 35, 36, 37, 38, 54, 55, 56, 57, 58, 59, 60, 61, 62, 63, 64] (by decide +kernel) (by decide +kernel)
set_option maxRecDepth 20000 in
theorem gX8_tick_X8_melts : GoodIn wsX8_tick (wsV RX8 98 RX8 yX8_melts wsX8_melts) := goodIn_app (goodIn_of _ (by decide +kernel)) ggX8_tick_X8_melts
set_option maxRecDepth 20000 in
theorem ggX8_tick_X8_ofLine : GoodIn wsX8_tick wsX8_ofLine := goodIn_r _ [26, 1, 54, 55, 56, 57, 58, 59, 60, 61, 62, 63, 64] (by decide +kernel) (by decide +kernel)
set_option maxRecDepth 20000 in
theorem gX8_tick_X8_ofLine : GoodIn wsX8_tick (wsV RX8 82 RX8 yX8_ofLine wsX8_ofLine) := goodIn_app (goodIn_of _ (by decide +kernel)) ggX8_tick_X8_ofLine
set_option maxRecDepth 20000 in
theorem ggX8_tick_X8_draws : GoodIn wsX8_tick wsX8_draws := goodIn_r _ [42, 1, 43, 44, 5, 45, 54, 55, 56, 57, 58, 59, 60, 61, 62, 63, 64] (by decide +kernel) (by decide +kernel)
set_option maxRecDepth 20000 in
theorem gX8_tick_X8_draws : GoodIn wsX8_tick (wsV RX8 101 RX8 yX8_draws wsX8_draws) := goodIn_app (goodIn_of _ (by decide +kernel)) ggX8_tick_X8_draws
set_option maxRecDepth 20000 in
theorem ggX8_tick_X8_seals : GoodIn wsX8_tick wsX8_seals := goodIn_r _ [49, 1, 50, 51, 52, 5, 53, 11, 12, 13, 14, 43, 44, 45, 54, 55, 56, 57, 58, 59, 60, 61, 62, 63, 64] (by decide +kernel) (by decide +kernel)
set_option maxRecDepth 20000 in
theorem gX8_tick_X8_seals : GoodIn wsX8_tick (wsV RX8 104 RX8 yX8_seals wsX8_seals) := goodIn_app (goodIn_of _ (by decide +kernel)) ggX8_tick_X8_seals
theorem dX8_tick_0 : decode cX8_tick 0 = .ok (.aload_n 0, 1) := by decide +kernel
theorem dX8_tick_1 : decode cX8_tick 1 = .ok (.invokevirtual 71, 3) := by decide +kernel
theorem dX8_tick_4 : decode cX8_tick 4 = .ok (.istore_n 1, 1) := by decide +kernel
theorem dX8_tick_5 : decode cX8_tick 5 = .ok (.aload_n 0, 1) := by decide +kernel
theorem dX8_tick_6 : decode cX8_tick 6 = .ok (.getfield 7, 3) := by decide +kernel
theorem dX8_tick_9 : decode cX8_tick 9 = .ok (.bipush 17, 2) := by decide +kernel
theorem dX8_tick_11 : decode cX8_tick 11 = .ok (.aload_n 0, 1) := by decide +kernel
theorem dX8_tick_12 : decode cX8_tick 12 = .ok (.iload_n 1, 1) := by decide +kernel
theorem dX8_tick_13 : decode cX8_tick 13 = .ok (.invokevirtual 95, 3) := by decide +kernel
theorem dX8_tick_16 : decode cX8_tick 16 = .ok (.iastore, 1) := by decide +kernel
theorem dX8_tick_17 : decode cX8_tick 17 = .ok (.aload_n 0, 1) := by decide +kernel
theorem dX8_tick_18 : decode cX8_tick 18 = .ok (.getfield 7, 3) := by decide +kernel
theorem dX8_tick_21 : decode cX8_tick 21 = .ok (.bipush 18, 2) := by decide +kernel
theorem dX8_tick_23 : decode cX8_tick 23 = .ok (.dup2, 1) := by decide +kernel
theorem dX8_tick_24 : decode cX8_tick 24 = .ok (.iaload, 1) := by decide +kernel
theorem dX8_tick_25 : decode cX8_tick 25 = .ok (.aload_n 0, 1) := by decide +kernel
theorem dX8_tick_26 : decode cX8_tick 26 = .ok (.getfield 7, 3) := by decide +kernel
theorem dX8_tick_29 : decode cX8_tick 29 = .ok (.bipush 17, 2) := by decide +kernel
theorem dX8_tick_31 : decode cX8_tick 31 = .ok (.iaload, 1) := by decide +kernel
theorem dX8_tick_32 : decode cX8_tick 32 = .ok (.ifCond .le 7, 3) := by decide +kernel
theorem dX8_tick_35 : decode cX8_tick 35 = .ok (.iconst 1, 1) := by decide +kernel
theorem dX8_tick_36 : decode cX8_tick 36 = .ok (.goto 4, 3) := by decide +kernel
theorem dX8_tick_39 : decode cX8_tick 39 = .ok (.iconst 0, 1) := by decide +kernel
theorem dX8_tick_40 : decode cX8_tick 40 = .ok (.iadd, 1) := by decide +kernel
theorem dX8_tick_41 : decode cX8_tick 41 = .ok (.iastore, 1) := by decide +kernel
theorem dX8_tick_42 : decode cX8_tick 42 = .ok (.aload_n 0, 1) := by decide +kernel
theorem dX8_tick_43 : decode cX8_tick 43 = .ok (.getfield 7, 3) := by decide +kernel
theorem dX8_tick_46 : decode cX8_tick 46 = .ok (.bipush 17, 2) := by decide +kernel
theorem dX8_tick_48 : decode cX8_tick 48 = .ok (.iaload, 1) := by decide +kernel
theorem dX8_tick_49 : decode cX8_tick 49 = .ok (.ifCond .ne 8, 3) := by decide +kernel
theorem dX8_tick_52 : decode cX8_tick 52 = .ok (.aload_n 0, 1) := by decide +kernel
theorem dX8_tick_53 : decode cX8_tick 53 = .ok (.iload_n 1, 1) := by decide +kernel
theorem dX8_tick_54 : decode cX8_tick 54 = .ok (.invokevirtual 98, 3) := by decide +kernel
theorem dX8_tick_57 : decode cX8_tick 57 = .ok (.iconst 0, 1) := by decide +kernel
theorem dX8_tick_58 : decode cX8_tick 58 = .ok (.istore_n 2, 1) := by decide +kernel
theorem dX8_tick_59 : decode cX8_tick 59 = .ok (.iload_n 2, 1) := by decide +kernel
theorem dX8_tick_60 : decode cX8_tick 60 = .ok (.iconst 4, 1) := by decide +kernel
theorem dX8_tick_61 : decode cX8_tick 61 = .ok (.if_icmp .ge 23, 3) := by decide +kernel
theorem dX8_tick_64 : decode cX8_tick 64 = .ok (.aload_n 0, 1) := by decide +kernel
theorem dX8_tick_65 : decode cX8_tick 65 = .ok (.iload_n 2, 1) := by decide +kernel
theorem dX8_tick_66 : decode cX8_tick 66 = .ok (.iconst 0, 1) := by decide +kernel
theorem dX8_tick_67 : decode cX8_tick 67 = .ok (.invokevirtual 82, 3) := by decide +kernel
theorem dX8_tick_70 : decode cX8_tick 70 = .ok (.ifCond .ne 8, 3) := by decide +kernel
theorem dX8_tick_73 : decode cX8_tick 73 = .ok (.aload_n 0, 1) := by decide +kernel
theorem dX8_tick_74 : decode cX8_tick 74 = .ok (.iload_n 2, 1) := by decide +kernel
theorem dX8_tick_75 : decode cX8_tick 75 = .ok (.invokevirtual 101, 3) := by decide +kernel
theorem dX8_tick_78 : decode cX8_tick 78 = .ok (.iinc 2 1, 3) := by decide +kernel
theorem dX8_tick_81 : decode cX8_tick 81 = .ok (.goto (-22), 3) := by decide +kernel
theorem dX8_tick_84 : decode cX8_tick 84 = .ok (.aload_n 0, 1) := by decide +kernel
theorem dX8_tick_85 : decode cX8_tick 85 = .ok (.getfield 7, 3) := by decide +kernel
theorem dX8_tick_88 : decode cX8_tick 88 = .ok (.bipush 16, 2) := by decide +kernel
theorem dX8_tick_90 : decode cX8_tick 90 = .ok (.dup2, 1) := by decide +kernel
theorem dX8_tick_91 : decode cX8_tick 91 = .ok (.iaload, 1) := by decide +kernel
theorem dX8_tick_92 : decode cX8_tick 92 = .ok (.iconst 1, 1) := by decide +kernel
theorem dX8_tick_93 : decode cX8_tick 93 = .ok (.iadd, 1) := by decide +kernel
theorem dX8_tick_94 : decode cX8_tick 94 = .ok (.iastore, 1) := by decide +kernel
theorem dX8_tick_95 : decode cX8_tick 95 = .ok (.aload_n 0, 1) := by decide +kernel
theorem dX8_tick_96 : decode cX8_tick 96 = .ok (.invokevirtual 104, 3) := by decide +kernel
theorem dX8_tick_99 : decode cX8_tick 99 = .ok (.return_, 1) := by decide +kernel
set_option maxRecDepth 20000 in
theorem ggX8_goBy_X8_tick : GoodIn wsX8_goBy wsX8_tick := goodIn_r _ [5, 6, 7, 8, 9, 4, 10, 11, 12, 13, 14, 15, 16, 17, 18, 19, 20, 21, 22, 23, 24, 25, 26, 27, 28, 29, 30, 31, 32, 33, 34, 35, 36, 37, 38, 39, 40, 41, 42, 43, 44, 45, 46, 47, 48, 49, 50, 51, 52, 53, 54, 55, 56, 57, 58, 59, 60, 61, 62, 63, 64, 65, 66, 67, 68] (by decide +kernel) (by decide +kernel)
set_option maxRecDepth 20000 in
theorem gX8_goBy_X8_tick : GoodIn wsX8_goBy (wsV RX8 107 RX8 yX8_tick wsX8_tick) := goodIn_app (goodIn_of _ (by decide +kernel)) ggX8_goBy_X8_tick
theorem dX8_goBy_0 : decode cX8_goBy 0 = .ok (.iconst 0, 1) := by decide +kernel
theorem dX8_goBy_1 : decode cX8_goBy 1 = .ok (.istore_n 2, 1) := by decide +kernel
theorem dX8_goBy_2 : decode cX8_goBy 2 = .ok (.iload_n 2, 1) := by decide +kernel
theorem dX8_goBy_3 : decode cX8_goBy 3 = .ok (.iload_n 1, 1) := by decide +kernel
theorem dX8_goBy_4 : decode cX8_goBy 4 = .ok (.if_icmp .ge 13, 3) := by decide +kernel
theorem dX8_goBy_7 : decode cX8_goBy 7 = .ok (.aload_n 0, 1) := by decide +kernel
theorem dX8_goBy_8 : decode cX8_goBy 8 = .ok (.invokevirtual 107, 3) := by decide +kernel
theorem dX8_goBy_11 : decode cX8_goBy 11 = .ok (.iinc 2 1, 3) := by decide +kernel
theorem dX8_goBy_14 : decode cX8_goBy 14 = .ok (.goto (-12), 3) := by decide +kernel
theorem dX8_goBy_17 : decode cX8_goBy 17 = .ok (.return_, 1) := by decide +kernel
set_option maxRecDepth 20000 in
theorem ggX8_run_X8_in : GoodIn wsX8_run wsX8_in := goodIn_r _ [5] (by decide +kernel) (by decide +kernel)
set_option maxRecDepth 20000 in
theorem gX8_run_X8_in : GoodIn wsX8_run (va_wsS RX8 33 yX8_in wsX8_in) := goodIn_app (goodIn_of _ (by decide +kernel)) ggX8_run_X8_in
set_option maxRecDepth 20000 in
theorem ggX8_run_X8_record : GoodIn wsX8_run wsX8_record := goodIn_r _ [9, 10, 11, 1, 12, 13, 4, 14, 74, 75, 76, 77, 78, 79, 80, 81, 82, 83, 84] (by decide +kernel) (by decide +kernel)
set_option maxRecDepth 20000 in
theorem gX8_run_X8_record : GoodIn wsX8_run (wsV RX8 52 RX8 yX8_record wsX8_record) := goodIn_app (goodIn_of _ (by decide +kernel)) ggX8_run_X8_record
set_option maxRecDepth 20000 in
theorem ggX8_run_X8_goBy : GoodIn wsX8_run wsX8_goBy := goodIn_r _ [18, 19, 20, 21, 4, 22, 1, 23, 24, 25, 26, 27, 28, 29, 30, 31, 32, 33, 34, 35, 36, 37, 38, 39, 40, 41, 42, 43, 44, 45, 46, 47, 48, 49, 50, 51, 52, 53, 54, 55, 56, 57, 58, 59, 60, 61, 62, 63, 64, 65, 66, 67, 68, 69, 70, 71, 72, 73, 74, 75, 76, 77, 78, 79, 80, 81, 82, 83, 84] (by decide +kernel) (by decide +kernel)
set_option maxRecDepth 20000 in
theorem gX8_run_X8_goBy : GoodIn wsX8_run (wsV RX8 110 RX8 yX8_goBy wsX8_goBy) := goodIn_app (goodIn_of _ (by decide +kernel)) ggX8_run_X8_goBy
set_option maxRecDepth 20000 in
theorem ggX8_run_X8_told : GoodIn wsX8_run wsX8_told := goodIn_r _ [73, 1, 31, 32, 33, 4, 34, 63, 64, 65, 74, 75, 76, 77, 78, 79, 80, 81, 82, 83, 84] (by decide +kernel) (by decide +kernel)
set_option maxRecDepth 20000 in
theorem gX8_run_X8_told : GoodIn wsX8_run (wsV RX8 92 RX8 yX8_told wsX8_told) := goodIn_app (goodIn_of _ (by decide +kernel)) ggX8_run_X8_told
theorem dX8_run_0 : decode cX8_run 0 = .ok (.iload_n 1, 1) := by decide +kernel
theorem dX8_run_1 : decode cX8_run 1 = .ok (.iconst 1, 1) := by decide +kernel
theorem dX8_run_2 : decode cX8_run 2 = .ok (.sipush 1000, 3) := by decide +kernel
theorem dX8_run_5 : decode cX8_run 5 = .ok (.invokestatic 33, 3) := by decide +kernel
theorem dX8_run_8 : decode cX8_run 8 = .ok (.ifCond .ne 5, 3) := by decide +kernel
theorem dX8_run_11 : decode cX8_run 11 = .ok (.iconst (-1), 1) := by decide +kernel
theorem dX8_run_12 : decode cX8_run 12 = .ok (.ireturn, 1) := by decide +kernel
theorem dX8_run_13 : decode cX8_run 13 = .ok (.aload_n 0, 1) := by decide +kernel
theorem dX8_run_14 : decode cX8_run 14 = .ok (.getfield 7, 3) := by decide +kernel
theorem dX8_run_17 : decode cX8_run 17 = .ok (.bipush 16, 2) := by decide +kernel
theorem dX8_run_19 : decode cX8_run 19 = .ok (.iaload, 1) := by decide +kernel
theorem dX8_run_20 : decode cX8_run 20 = .ok (.iload_n 1, 1) := by decide +kernel
theorem dX8_run_21 : decode cX8_run 21 = .ok (.iadd, 1) := by decide +kernel
theorem dX8_run_22 : decode cX8_run 22 = .ok (.sipush 20000, 3) := by decide +kernel
theorem dX8_run_25 : decode cX8_run 25 = .ok (.if_icmp .le 6, 3) := by decide +kernel
theorem dX8_run_28 : decode cX8_run 28 = .ok (.bipush (-3), 2) := by decide +kernel
theorem dX8_run_30 : decode cX8_run 30 = .ok (.ireturn, 1) := by decide +kernel
theorem dX8_run_31 : decode cX8_run 31 = .ok (.aload_n 0, 1) := by decide +kernel
theorem dX8_run_32 : decode cX8_run 32 = .ok (.invokevirtual 52, 3) := by decide +kernel
theorem dX8_run_35 : decode cX8_run 35 = .ok (.aload_n 0, 1) := by decide +kernel
theorem dX8_run_36 : decode cX8_run 36 = .ok (.iload_n 1, 1) := by decide +kernel
theorem dX8_run_37 : decode cX8_run 37 = .ok (.invokevirtual 110, 3) := by decide +kernel
theorem dX8_run_40 : decode cX8_run 40 = .ok (.aload_n 0, 1) := by decide +kernel
theorem dX8_run_41 : decode cX8_run 41 = .ok (.invokevirtual 92, 3) := by decide +kernel
theorem dX8_run_44 : decode cX8_run 44 = .ok (.ireturn, 1) := by decide +kernel
set_option maxRecDepth 20000 in
theorem ggX8_count_X8_length : GoodIn wsX8_count wsX8_length := goodIn_r _ [8, 1, 9, 10, 11, 7, 12, 13, 14, 15, 16, 35, 36, 37, 38, 39, 40, 41, 42, 43, 44, 45] (by decide +kernel) (by decide +kernel)
set_option maxRecDepth 20000 in
theorem gX8_count_X8_length : GoodIn wsX8_count (wsV RX8 71 RX8 yX8_length wsX8_length) := goodIn_app (goodIn_of _ (by decide +kernel)) ggX8_count_X8_length
set_option maxRecDepth 20000 in
theorem ggX8_count_X8_told : GoodIn wsX8_count wsX8_told := goodIn_r _ [20, 1, 13, 14, 15, 7, 16, 21, 22, 23, 35, 36, 37, 38, 39, 40, 41, 42, 43, 44, 45] (by decide +kernel) (by decide +kernel)
set_option maxRecDepth 20000 in
theorem gX8_count_X8_told : GoodIn wsX8_count (wsV RX8 92 RX8 yX8_told wsX8_told) := goodIn_app (goodIn_of _ (by decide +kernel)) ggX8_count_X8_told
set_option maxRecDepth 20000 in
theorem ggX8_count_X8_stuck : GoodIn wsX8_count wsX8_stuck := goodIn_r _ [27, 28, 29, 30, 7, 31, 1, 35, 36, 37, 38, 39, 40, 41, 42, 43, 44, 45] (by decide +kernel) (by decide +kernel)
set_option maxRecDepth 20000 in
theorem gX8_count_X8_stuck : GoodIn wsX8_count (wsV RX8 85 RX8 yX8_stuck wsX8_stuck) := goodIn_app (goodIn_of _ (by decide +kernel)) ggX8_count_X8_stuck
set_option maxRecDepth 20000 in
theorem ggX8_count_X8_in : GoodIn wsX8_count wsX8_in := goodIn_r _ [34] (by decide +kernel) (by decide +kernel)
set_option maxRecDepth 20000 in
theorem gX8_count_X8_in : GoodIn wsX8_count (va_wsS RX8 33 yX8_in wsX8_in) := goodIn_app (goodIn_of _ (by decide +kernel)) ggX8_count_X8_in
theorem dX8_count_0 : decode cX8_count 0 = .ok (.iload_n 1, 1) := by decide +kernel
theorem dX8_count_1 : decode cX8_count 1 = .ok (.tableswitch 161 8 23 #[79, 87, 92, 92, 92, 92, 92, 101, 106, 114, 122, 130, 138, 146, 151, 156], 79) := by decide +kernel
theorem dX8_count_80 : decode cX8_count 80 = .ok (.aload_n 0, 1) := by decide +kernel
theorem dX8_count_81 : decode cX8_count 81 = .ok (.getfield 7, 3) := by decide +kernel
theorem dX8_count_84 : decode cX8_count 84 = .ok (.bipush 8, 2) := by decide +kernel
theorem dX8_count_86 : decode cX8_count 86 = .ok (.iaload, 1) := by decide +kernel
theorem dX8_count_87 : decode cX8_count 87 = .ok (.ireturn, 1) := by decide +kernel
theorem dX8_count_88 : decode cX8_count 88 = .ok (.aload_n 0, 1) := by decide +kernel
theorem dX8_count_89 : decode cX8_count 89 = .ok (.invokevirtual 71, 3) := by decide +kernel
theorem dX8_count_92 : decode cX8_count 92 = .ok (.ireturn, 1) := by decide +kernel
theorem dX8_count_93 : decode cX8_count 93 = .ok (.aload_n 0, 1) := by decide +kernel
theorem dX8_count_94 : decode cX8_count 94 = .ok (.getfield 7, 3) := by decide +kernel
theorem dX8_count_97 : decode cX8_count 97 = .ok (.iload_n 1, 1) := by decide +kernel
theorem dX8_count_98 : decode cX8_count 98 = .ok (.iconst 1, 1) := by decide +kernel
theorem dX8_count_99 : decode cX8_count 99 = .ok (.isub, 1) := by decide +kernel
theorem dX8_count_100 : decode cX8_count 100 = .ok (.iaload, 1) := by decide +kernel
theorem dX8_count_101 : decode cX8_count 101 = .ok (.ireturn, 1) := by decide +kernel
theorem dX8_count_102 : decode cX8_count 102 = .ok (.aload_n 0, 1) := by decide +kernel
theorem dX8_count_103 : decode cX8_count 103 = .ok (.invokevirtual 92, 3) := by decide +kernel
theorem dX8_count_106 : decode cX8_count 106 = .ok (.ireturn, 1) := by decide +kernel
theorem dX8_count_107 : decode cX8_count 107 = .ok (.aload_n 0, 1) := by decide +kernel
theorem dX8_count_108 : decode cX8_count 108 = .ok (.getfield 7, 3) := by decide +kernel
theorem dX8_count_111 : decode cX8_count 111 = .ok (.bipush 14, 2) := by decide +kernel
theorem dX8_count_113 : decode cX8_count 113 = .ok (.iaload, 1) := by decide +kernel
theorem dX8_count_114 : decode cX8_count 114 = .ok (.ireturn, 1) := by decide +kernel
theorem dX8_count_115 : decode cX8_count 115 = .ok (.aload_n 0, 1) := by decide +kernel
theorem dX8_count_116 : decode cX8_count 116 = .ok (.getfield 7, 3) := by decide +kernel
theorem dX8_count_119 : decode cX8_count 119 = .ok (.bipush 15, 2) := by decide +kernel
theorem dX8_count_121 : decode cX8_count 121 = .ok (.iaload, 1) := by decide +kernel
theorem dX8_count_122 : decode cX8_count 122 = .ok (.ireturn, 1) := by decide +kernel
theorem dX8_count_123 : decode cX8_count 123 = .ok (.aload_n 0, 1) := by decide +kernel
theorem dX8_count_124 : decode cX8_count 124 = .ok (.getfield 7, 3) := by decide +kernel
theorem dX8_count_127 : decode cX8_count 127 = .ok (.bipush 16, 2) := by decide +kernel
theorem dX8_count_129 : decode cX8_count 129 = .ok (.iaload, 1) := by decide +kernel
theorem dX8_count_130 : decode cX8_count 130 = .ok (.ireturn, 1) := by decide +kernel
theorem dX8_count_131 : decode cX8_count 131 = .ok (.aload_n 0, 1) := by decide +kernel
theorem dX8_count_132 : decode cX8_count 132 = .ok (.getfield 7, 3) := by decide +kernel
theorem dX8_count_135 : decode cX8_count 135 = .ok (.bipush 17, 2) := by decide +kernel
theorem dX8_count_137 : decode cX8_count 137 = .ok (.iaload, 1) := by decide +kernel
theorem dX8_count_138 : decode cX8_count 138 = .ok (.ireturn, 1) := by decide +kernel
theorem dX8_count_139 : decode cX8_count 139 = .ok (.aload_n 0, 1) := by decide +kernel
theorem dX8_count_140 : decode cX8_count 140 = .ok (.getfield 7, 3) := by decide +kernel
theorem dX8_count_143 : decode cX8_count 143 = .ok (.bipush 18, 2) := by decide +kernel
theorem dX8_count_145 : decode cX8_count 145 = .ok (.iaload, 1) := by decide +kernel
theorem dX8_count_146 : decode cX8_count 146 = .ok (.ireturn, 1) := by decide +kernel
theorem dX8_count_147 : decode cX8_count 147 = .ok (.aload_n 0, 1) := by decide +kernel
theorem dX8_count_148 : decode cX8_count 148 = .ok (.invokevirtual 85, 3) := by decide +kernel
theorem dX8_count_151 : decode cX8_count 151 = .ok (.ireturn, 1) := by decide +kernel
theorem dX8_count_152 : decode cX8_count 152 = .ok (.aload_n 0, 1) := by decide +kernel
theorem dX8_count_153 : decode cX8_count 153 = .ok (.getfield 25, 3) := by decide +kernel
theorem dX8_count_156 : decode cX8_count 156 = .ok (.ireturn, 1) := by decide +kernel
theorem dX8_count_157 : decode cX8_count 157 = .ok (.aload_n 0, 1) := by decide +kernel
theorem dX8_count_158 : decode cX8_count 158 = .ok (.getfield 113, 3) := by decide +kernel
theorem dX8_count_161 : decode cX8_count 161 = .ok (.ireturn, 1) := by decide +kernel
theorem dX8_count_162 : decode cX8_count 162 = .ok (.iload_n 1, 1) := by decide +kernel
theorem dX8_count_163 : decode cX8_count 163 = .ok (.iconst 0, 1) := by decide +kernel
theorem dX8_count_164 : decode cX8_count 164 = .ok (.bipush 7, 2) := by decide +kernel
theorem dX8_count_166 : decode cX8_count 166 = .ok (.invokestatic 33, 3) := by decide +kernel
theorem dX8_count_169 : decode cX8_count 169 = .ok (.ifCond .eq 12, 3) := by decide +kernel
theorem dX8_count_172 : decode cX8_count 172 = .ok (.aload_n 0, 1) := by decide +kernel
theorem dX8_count_173 : decode cX8_count 173 = .ok (.getfield 7, 3) := by decide +kernel
theorem dX8_count_176 : decode cX8_count 176 = .ok (.iload_n 1, 1) := by decide +kernel
theorem dX8_count_177 : decode cX8_count 177 = .ok (.iaload, 1) := by decide +kernel
theorem dX8_count_178 : decode cX8_count 178 = .ok (.goto 4, 3) := by decide +kernel
theorem dX8_count_181 : decode cX8_count 181 = .ok (.iconst (-1), 1) := by decide +kernel
theorem dX8_count_182 : decode cX8_count 182 = .ok (.ireturn, 1) := by decide +kernel
set_option maxRecDepth 20000 in
theorem ggX8_account_X8_in : GoodIn wsX8_account wsX8_in := goodIn_r _ [5] (by decide +kernel) (by decide +kernel)
set_option maxRecDepth 20000 in
theorem gX8_account_X8_in : GoodIn wsX8_account (va_wsS RX8 33 yX8_in wsX8_in) := goodIn_app (goodIn_of _ (by decide +kernel)) ggX8_account_X8_in
theorem dX8_account_0 : decode cX8_account 0 = .ok (.iload_n 1, 1) := by decide +kernel
theorem dX8_account_1 : decode cX8_account 1 = .ok (.iconst 0, 1) := by decide +kernel
theorem dX8_account_2 : decode cX8_account 2 = .ok (.bipush 6, 2) := by decide +kernel
theorem dX8_account_4 : decode cX8_account 4 = .ok (.invokestatic 33, 3) := by decide +kernel
theorem dX8_account_7 : decode cX8_account 7 = .ok (.ifCond .eq 15, 3) := by decide +kernel
theorem dX8_account_10 : decode cX8_account 10 = .ok (.aload_n 0, 1) := by decide +kernel
theorem dX8_account_11 : decode cX8_account 11 = .ok (.getfield 7, 3) := by decide +kernel
theorem dX8_account_14 : decode cX8_account 14 = .ok (.bipush 19, 2) := by decide +kernel
theorem dX8_account_16 : decode cX8_account 16 = .ok (.iload_n 1, 1) := by decide +kernel
theorem dX8_account_17 : decode cX8_account 17 = .ok (.iadd, 1) := by decide +kernel
theorem dX8_account_18 : decode cX8_account 18 = .ok (.iaload, 1) := by decide +kernel
theorem dX8_account_19 : decode cX8_account 19 = .ok (.goto 4, 3) := by decide +kernel
theorem dX8_account_22 : decode cX8_account 22 = .ok (.iconst (-1), 1) := by decide +kernel
theorem dX8_account_23 : decode cX8_account 23 = .ok (.ireturn, 1) := by decide +kernel
set_option maxRecDepth 20000 in
theorem ggX8_line_X8_in : GoodIn wsX8_line wsX8_in := goodIn_r _ [4] (by decide +kernel) (by decide +kernel)
set_option maxRecDepth 20000 in
theorem gX8_line_X8_in : GoodIn wsX8_line (va_wsS RX8 33 yX8_in wsX8_in) := goodIn_app (goodIn_of _ (by decide +kernel)) ggX8_line_X8_in
set_option maxRecDepth 20000 in
theorem ggX8_line_X8_ofLine : GoodIn wsX8_line wsX8_ofLine := goodIn_r _ [8, 9, 10, 11, 12, 13, 14, 15, 16, 17, 18, 19, 20] (by decide +kernel) (by decide +kernel)
set_option maxRecDepth 20000 in
theorem gX8_line_X8_ofLine : GoodIn wsX8_line (wsV RX8 82 RX8 yX8_ofLine wsX8_ofLine) := goodIn_app (goodIn_of _ (by decide +kernel)) ggX8_line_X8_ofLine
theorem dX8_line_0 : decode cX8_line 0 = .ok (.iload_n 1, 1) := by decide +kernel
theorem dX8_line_1 : decode cX8_line 1 = .ok (.iconst 0, 1) := by decide +kernel
theorem dX8_line_2 : decode cX8_line 2 = .ok (.iconst 3, 1) := by decide +kernel
theorem dX8_line_3 : decode cX8_line 3 = .ok (.invokestatic 33, 3) := by decide +kernel
theorem dX8_line_6 : decode cX8_line 6 = .ok (.ifCond .eq 21, 3) := by decide +kernel
theorem dX8_line_9 : decode cX8_line 9 = .ok (.iload_n 2, 1) := by decide +kernel
theorem dX8_line_10 : decode cX8_line 10 = .ok (.iconst 0, 1) := by decide +kernel
theorem dX8_line_11 : decode cX8_line 11 = .ok (.iconst 4, 1) := by decide +kernel
theorem dX8_line_12 : decode cX8_line 12 = .ok (.invokestatic 33, 3) := by decide +kernel
theorem dX8_line_15 : decode cX8_line 15 = .ok (.ifCond .eq 12, 3) := by decide +kernel
theorem dX8_line_18 : decode cX8_line 18 = .ok (.aload_n 0, 1) := by decide +kernel
theorem dX8_line_19 : decode cX8_line 19 = .ok (.iload_n 1, 1) := by decide +kernel
theorem dX8_line_20 : decode cX8_line 20 = .ok (.iload_n 2, 1) := by decide +kernel
theorem dX8_line_21 : decode cX8_line 21 = .ok (.invokevirtual 82, 3) := by decide +kernel
theorem dX8_line_24 : decode cX8_line 24 = .ok (.goto 4, 3) := by decide +kernel
theorem dX8_line_27 : decode cX8_line 27 = .ok (.iconst (-1), 1) := by decide +kernel
theorem dX8_line_28 : decode cX8_line 28 = .ok (.ireturn, 1) := by decide +kernel
set_option maxRecDepth 20000 in
theorem ggX8_again_X8_water : GoodIn wsX8_again wsX8_water := goodIn_r _ [6, 1, 7, 8, 9, 5, 10, 11, 12, 13, 14, 15, 16, 17, 18, 19, 20, 21, 22, 23, 24] (by decide +kernel) (by decide +kernel)
set_option maxRecDepth 20000 in
theorem gX8_again_X8_water : GoodIn wsX8_again (wsV RX8 75 RX8 yX8_water wsX8_water) := goodIn_app (goodIn_of _ (by decide +kernel)) ggX8_again_X8_water
theorem dX8_again_0 : decode cX8_again 0 = .ok (.aload_n 0, 1) := by decide +kernel
theorem dX8_again_1 : decode cX8_again 1 = .ok (.getfield 7, 3) := by decide +kernel
theorem dX8_again_4 : decode cX8_again 4 = .ok (.bipush 20, 2) := by decide +kernel
theorem dX8_again_6 : decode cX8_again 6 = .ok (.iaload, 1) := by decide +kernel
theorem dX8_again_7 : decode cX8_again 7 = .ok (.aload_n 0, 1) := by decide +kernel
theorem dX8_again_8 : decode cX8_again 8 = .ok (.getfield 7, 3) := by decide +kernel
theorem dX8_again_11 : decode cX8_again 11 = .ok (.bipush 21, 2) := by decide +kernel
theorem dX8_again_13 : decode cX8_again 13 = .ok (.iaload, 1) := by decide +kernel
theorem dX8_again_14 : decode cX8_again 14 = .ok (.iadd, 1) := by decide +kernel
theorem dX8_again_15 : decode cX8_again 15 = .ok (.istore_n 1, 1) := by decide +kernel
theorem dX8_again_16 : decode cX8_again 16 = .ok (.aload_n 0, 1) := by decide +kernel
theorem dX8_again_17 : decode cX8_again 17 = .ok (.getfield 7, 3) := by decide +kernel
theorem dX8_again_20 : decode cX8_again 20 = .ok (.bipush 9, 2) := by decide +kernel
theorem dX8_again_22 : decode cX8_again 22 = .ok (.iaload, 1) := by decide +kernel
theorem dX8_again_23 : decode cX8_again 23 = .ok (.istore_n 2, 1) := by decide +kernel
theorem dX8_again_24 : decode cX8_again 24 = .ok (.aload_n 0, 1) := by decide +kernel
theorem dX8_again_25 : decode cX8_again 25 = .ok (.iload_n 2, 1) := by decide +kernel
theorem dX8_again_26 : decode cX8_again 26 = .ok (.invokevirtual 75, 3) := by decide +kernel
theorem dX8_again_29 : decode cX8_again 29 = .ok (.iload_n 1, 1) := by decide +kernel
theorem dX8_again_30 : decode cX8_again 30 = .ok (.if_icmp .le 9, 3) := by decide +kernel
theorem dX8_again_33 : decode cX8_again 33 = .ok (.iinc 2 (-1), 3) := by decide +kernel
theorem dX8_again_36 : decode cX8_again 36 = .ok (.goto (-12), 3) := by decide +kernel
theorem dX8_again_39 : decode cX8_again 39 = .ok (.iload_n 2, 1) := by decide +kernel
theorem dX8_again_40 : decode cX8_again 40 = .ok (.ireturn, 1) := by decide +kernel
set_option maxRecDepth 20000 in
theorem ggX8_isVial_X8_in : GoodIn wsX8_isVial wsX8_in := goodIn_r _ [5] (by decide +kernel) (by decide +kernel)
set_option maxRecDepth 20000 in
theorem gX8_isVial_X8_in : GoodIn wsX8_isVial (va_wsS RX8 33 yX8_in wsX8_in) := goodIn_app (goodIn_of _ (by decide +kernel)) ggX8_isVial_X8_in
theorem dX8_isVial_0 : decode cX8_isVial 0 = .ok (.iload_n 1, 1) := by decide +kernel
theorem dX8_isVial_1 : decode cX8_isVial 1 = .ok (.iconst 0, 1) := by decide +kernel
theorem dX8_isVial_2 : decode cX8_isVial 2 = .ok (.aload_n 0, 1) := by decide +kernel
theorem dX8_isVial_3 : decode cX8_isVial 3 = .ok (.getfield 7, 3) := by decide +kernel
theorem dX8_isVial_6 : decode cX8_isVial 6 = .ok (.bipush 14, 2) := by decide +kernel
theorem dX8_isVial_8 : decode cX8_isVial 8 = .ok (.iaload, 1) := by decide +kernel
theorem dX8_isVial_9 : decode cX8_isVial 9 = .ok (.iconst 1, 1) := by decide +kernel
theorem dX8_isVial_10 : decode cX8_isVial 10 = .ok (.isub, 1) := by decide +kernel
theorem dX8_isVial_11 : decode cX8_isVial 11 = .ok (.invokestatic 33, 3) := by decide +kernel
theorem dX8_isVial_14 : decode cX8_isVial 14 = .ok (.ireturn, 1) := by decide +kernel
set_option maxRecDepth 20000 in
theorem ggX8_vial_X8_isVial : GoodIn wsX8_vial wsX8_isVial := goodIn_r _ [6, 1, 7, 8, 5, 9, 10, 11, 12, 13, 14, 15, 16, 17, 18, 19, 20] (by decide +kernel) (by decide +kernel)
set_option maxRecDepth 20000 in
theorem gX8_vial_X8_isVial : GoodIn wsX8_vial (wsV RX8 116 RX8 yX8_isVial wsX8_isVial) := goodIn_app (goodIn_of _ (by decide +kernel)) ggX8_vial_X8_isVial
set_option maxRecDepth 20000 in
theorem ggX8_vial_X8_in : GoodIn wsX8_vial wsX8_in := goodIn_r _ [9] (by decide +kernel) (by decide +kernel)
set_option maxRecDepth 20000 in
theorem gX8_vial_X8_in : GoodIn wsX8_vial (va_wsS RX8 33 yX8_in wsX8_in) := goodIn_app (goodIn_of _ (by decide +kernel)) ggX8_vial_X8_in
theorem dX8_vial_0 : decode cX8_vial 0 = .ok (.aload_n 0, 1) := by decide +kernel
theorem dX8_vial_1 : decode cX8_vial 1 = .ok (.iload_n 1, 1) := by decide +kernel
theorem dX8_vial_2 : decode cX8_vial 2 = .ok (.invokevirtual 116, 3) := by decide +kernel
theorem dX8_vial_5 : decode cX8_vial 5 = .ok (.ifCond .eq 12, 3) := by decide +kernel
theorem dX8_vial_8 : decode cX8_vial 8 = .ok (.iload_n 2, 1) := by decide +kernel
theorem dX8_vial_9 : decode cX8_vial 9 = .ok (.iconst 0, 1) := by decide +kernel
theorem dX8_vial_10 : decode cX8_vial 10 = .ok (.iconst 3, 1) := by decide +kernel
theorem dX8_vial_11 : decode cX8_vial 11 = .ok (.invokestatic 33, 3) := by decide +kernel
theorem dX8_vial_14 : decode cX8_vial 14 = .ok (.ifCond .ne 5, 3) := by decide +kernel
theorem dX8_vial_17 : decode cX8_vial 17 = .ok (.iconst (-1), 1) := by decide +kernel
theorem dX8_vial_18 : decode cX8_vial 18 = .ok (.ireturn, 1) := by decide +kernel
theorem dX8_vial_19 : decode cX8_vial 19 = .ok (.iload_n 2, 1) := by decide +kernel
theorem dX8_vial_20 : decode cX8_vial 20 = .ok (.iconst 2, 1) := by decide +kernel
theorem dX8_vial_21 : decode cX8_vial 21 = .ok (.if_icmp .ne 27, 3) := by decide +kernel
theorem dX8_vial_24 : decode cX8_vial 24 = .ok (.iload_n 1, 1) := by decide +kernel
theorem dX8_vial_25 : decode cX8_vial 25 = .ok (.ifCond .ne 7, 3) := by decide +kernel
theorem dX8_vial_28 : decode cX8_vial 28 = .ok (.iconst 0, 1) := by decide +kernel
theorem dX8_vial_29 : decode cX8_vial 29 = .ok (.goto 18, 3) := by decide +kernel
theorem dX8_vial_32 : decode cX8_vial 32 = .ok (.aload_n 0, 1) := by decide +kernel
theorem dX8_vial_33 : decode cX8_vial 33 = .ok (.getfield 7, 3) := by decide +kernel
theorem dX8_vial_36 : decode cX8_vial 36 = .ok (.bipush 126, 2) := by decide +kernel
theorem dX8_vial_38 : decode cX8_vial 38 = .ok (.iconst 3, 1) := by decide +kernel
theorem dX8_vial_39 : decode cX8_vial 39 = .ok (.iload_n 1, 1) := by decide +kernel
theorem dX8_vial_40 : decode cX8_vial 40 = .ok (.iconst 1, 1) := by decide +kernel
theorem dX8_vial_41 : decode cX8_vial 41 = .ok (.isub, 1) := by decide +kernel
theorem dX8_vial_42 : decode cX8_vial 42 = .ok (.imul, 1) := by decide +kernel
theorem dX8_vial_43 : decode cX8_vial 43 = .ok (.iadd, 1) := by decide +kernel
theorem dX8_vial_44 : decode cX8_vial 44 = .ok (.iconst 1, 1) := by decide +kernel
theorem dX8_vial_45 : decode cX8_vial 45 = .ok (.iadd, 1) := by decide +kernel
theorem dX8_vial_46 : decode cX8_vial 46 = .ok (.iaload, 1) := by decide +kernel
theorem dX8_vial_47 : decode cX8_vial 47 = .ok (.ireturn, 1) := by decide +kernel
theorem dX8_vial_48 : decode cX8_vial 48 = .ok (.aload_n 0, 1) := by decide +kernel
theorem dX8_vial_49 : decode cX8_vial 49 = .ok (.getfield 7, 3) := by decide +kernel
theorem dX8_vial_52 : decode cX8_vial 52 = .ok (.bipush 126, 2) := by decide +kernel
theorem dX8_vial_54 : decode cX8_vial 54 = .ok (.iconst 3, 1) := by decide +kernel
theorem dX8_vial_55 : decode cX8_vial 55 = .ok (.iload_n 1, 1) := by decide +kernel
theorem dX8_vial_56 : decode cX8_vial 56 = .ok (.imul, 1) := by decide +kernel
theorem dX8_vial_57 : decode cX8_vial 57 = .ok (.iadd, 1) := by decide +kernel
theorem dX8_vial_58 : decode cX8_vial 58 = .ok (.iload_n 2, 1) := by decide +kernel
theorem dX8_vial_59 : decode cX8_vial 59 = .ok (.iconst 3, 1) := by decide +kernel
theorem dX8_vial_60 : decode cX8_vial 60 = .ok (.if_icmp .ne 7, 3) := by decide +kernel
theorem dX8_vial_63 : decode cX8_vial 63 = .ok (.iconst 2, 1) := by decide +kernel
theorem dX8_vial_64 : decode cX8_vial 64 = .ok (.goto 4, 3) := by decide +kernel
theorem dX8_vial_67 : decode cX8_vial 67 = .ok (.iload_n 2, 1) := by decide +kernel
theorem dX8_vial_68 : decode cX8_vial 68 = .ok (.iadd, 1) := by decide +kernel
theorem dX8_vial_69 : decode cX8_vial 69 = .ok (.iaload, 1) := by decide +kernel
theorem dX8_vial_70 : decode cX8_vial 70 = .ok (.ireturn, 1) := by decide +kernel
theorem dX8_vialAt_0 : decode cX8_vialAt 0 = .ok (.iload_n 1, 1) := by decide +kernel
theorem dX8_vialAt_1 : decode cX8_vialAt 1 = .ok (.ifCond .ge 5, 3) := by decide +kernel
theorem dX8_vialAt_4 : decode cX8_vialAt 4 = .ok (.iconst (-1), 1) := by decide +kernel
theorem dX8_vialAt_5 : decode cX8_vialAt 5 = .ok (.ireturn, 1) := by decide +kernel
theorem dX8_vialAt_6 : decode cX8_vialAt 6 = .ok (.iconst 0, 1) := by decide +kernel
theorem dX8_vialAt_7 : decode cX8_vialAt 7 = .ok (.istore_n 2, 1) := by decide +kernel
theorem dX8_vialAt_8 : decode cX8_vialAt 8 = .ok (.iload_n 2, 1) := by decide +kernel
theorem dX8_vialAt_9 : decode cX8_vialAt 9 = .ok (.aload_n 0, 1) := by decide +kernel
theorem dX8_vialAt_10 : decode cX8_vialAt 10 = .ok (.getfield 7, 3) := by decide +kernel
theorem dX8_vialAt_13 : decode cX8_vialAt 13 = .ok (.bipush 14, 2) := by decide +kernel
theorem dX8_vialAt_15 : decode cX8_vialAt 15 = .ok (.iaload, 1) := by decide +kernel
theorem dX8_vialAt_16 : decode cX8_vialAt 16 = .ok (.if_icmp .ge 28, 3) := by decide +kernel
theorem dX8_vialAt_19 : decode cX8_vialAt 19 = .ok (.aload_n 0, 1) := by decide +kernel
theorem dX8_vialAt_20 : decode cX8_vialAt 20 = .ok (.getfield 7, 3) := by decide +kernel
theorem dX8_vialAt_23 : decode cX8_vialAt 23 = .ok (.bipush 126, 2) := by decide +kernel
theorem dX8_vialAt_25 : decode cX8_vialAt 25 = .ok (.iconst 3, 1) := by decide +kernel
theorem dX8_vialAt_26 : decode cX8_vialAt 26 = .ok (.iload_n 2, 1) := by decide +kernel
theorem dX8_vialAt_27 : decode cX8_vialAt 27 = .ok (.imul, 1) := by decide +kernel
theorem dX8_vialAt_28 : decode cX8_vialAt 28 = .ok (.iadd, 1) := by decide +kernel
theorem dX8_vialAt_29 : decode cX8_vialAt 29 = .ok (.iconst 1, 1) := by decide +kernel
theorem dX8_vialAt_30 : decode cX8_vialAt 30 = .ok (.iadd, 1) := by decide +kernel
theorem dX8_vialAt_31 : decode cX8_vialAt 31 = .ok (.iaload, 1) := by decide +kernel
theorem dX8_vialAt_32 : decode cX8_vialAt 32 = .ok (.iload_n 1, 1) := by decide +kernel
theorem dX8_vialAt_33 : decode cX8_vialAt 33 = .ok (.if_icmp .le 5, 3) := by decide +kernel
theorem dX8_vialAt_36 : decode cX8_vialAt 36 = .ok (.iload_n 2, 1) := by decide +kernel
theorem dX8_vialAt_37 : decode cX8_vialAt 37 = .ok (.ireturn, 1) := by decide +kernel
theorem dX8_vialAt_38 : decode cX8_vialAt 38 = .ok (.iinc 2 1, 3) := by decide +kernel
theorem dX8_vialAt_41 : decode cX8_vialAt 41 = .ok (.goto (-33), 3) := by decide +kernel
theorem dX8_vialAt_44 : decode cX8_vialAt 44 = .ok (.bipush (-4), 2) := by decide +kernel
theorem dX8_vialAt_46 : decode cX8_vialAt 46 = .ok (.ireturn, 1) := by decide +kernel
set_option maxRecDepth 20000 in
theorem ggX8_differs_X8_told : GoodIn wsX8_differs wsX8_told := goodIn_r _ [7, 1, 8, 9, 10, 6, 11, 12, 13, 14, 23, 24, 25, 26, 27, 28, 29, 30, 31, 32, 33] (by decide +kernel) (by decide +kernel)
set_option maxRecDepth 20000 in
theorem gX8_differs_X8_told : GoodIn wsX8_differs (wsV RX8 92 RX8 yX8_told wsX8_told) := goodIn_app (goodIn_of _ (by decide +kernel)) ggX8_differs_X8_told
set_option maxRecDepth 20000 in
theorem ggX8_differs_X8_stuck : GoodIn wsX8_differs wsX8_stuck := goodIn_r _ [18, 19, 20, 21, 6, 22, 1, 23, 24, 25, 26, 27, 28, 29, 30, 31, 32, 33] (by decide +kernel) (by decide +kernel)
set_option maxRecDepth 20000 in
theorem gX8_differs_X8_stuck : GoodIn wsX8_differs (wsV RX8 85 RX8 yX8_stuck wsX8_stuck) := goodIn_app (goodIn_of _ (by decide +kernel)) ggX8_differs_X8_stuck
theorem dX8_differs_0 : decode cX8_differs 0 = .ok (.iload_n 1, 1) := by decide +kernel
theorem dX8_differs_1 : decode cX8_differs 1 = .ok (.tableswitch 105 0 5 #[39, 44, 52, 68, 84, 100], 39) := by decide +kernel
theorem dX8_differs_40 : decode cX8_differs 40 = .ok (.aload_n 0, 1) := by decide +kernel
theorem dX8_differs_41 : decode cX8_differs 41 = .ok (.invokevirtual 92, 3) := by decide +kernel
theorem dX8_differs_44 : decode cX8_differs 44 = .ok (.ireturn, 1) := by decide +kernel
theorem dX8_differs_45 : decode cX8_differs 45 = .ok (.aload_n 0, 1) := by decide +kernel
theorem dX8_differs_46 : decode cX8_differs 46 = .ok (.getfield 7, 3) := by decide +kernel
theorem dX8_differs_49 : decode cX8_differs 49 = .ok (.bipush 9, 2) := by decide +kernel
theorem dX8_differs_51 : decode cX8_differs 51 = .ok (.iaload, 1) := by decide +kernel
theorem dX8_differs_52 : decode cX8_differs 52 = .ok (.ireturn, 1) := by decide +kernel
theorem dX8_differs_53 : decode cX8_differs 53 = .ok (.aload_n 0, 1) := by decide +kernel
theorem dX8_differs_54 : decode cX8_differs 54 = .ok (.getfield 7, 3) := by decide +kernel
theorem dX8_differs_57 : decode cX8_differs 57 = .ok (.bipush 20, 2) := by decide +kernel
theorem dX8_differs_59 : decode cX8_differs 59 = .ok (.iaload, 1) := by decide +kernel
theorem dX8_differs_60 : decode cX8_differs 60 = .ok (.aload_n 0, 1) := by decide +kernel
theorem dX8_differs_61 : decode cX8_differs 61 = .ok (.getfield 13, 3) := by decide +kernel
theorem dX8_differs_64 : decode cX8_differs 64 = .ok (.bipush 20, 2) := by decide +kernel
theorem dX8_differs_66 : decode cX8_differs 66 = .ok (.iaload, 1) := by decide +kernel
theorem dX8_differs_67 : decode cX8_differs 67 = .ok (.isub, 1) := by decide +kernel
theorem dX8_differs_68 : decode cX8_differs 68 = .ok (.ireturn, 1) := by decide +kernel
theorem dX8_differs_69 : decode cX8_differs 69 = .ok (.aload_n 0, 1) := by decide +kernel
theorem dX8_differs_70 : decode cX8_differs 70 = .ok (.getfield 7, 3) := by decide +kernel
theorem dX8_differs_73 : decode cX8_differs 73 = .ok (.bipush 21, 2) := by decide +kernel
theorem dX8_differs_75 : decode cX8_differs 75 = .ok (.iaload, 1) := by decide +kernel
theorem dX8_differs_76 : decode cX8_differs 76 = .ok (.aload_n 0, 1) := by decide +kernel
theorem dX8_differs_77 : decode cX8_differs 77 = .ok (.getfield 13, 3) := by decide +kernel
theorem dX8_differs_80 : decode cX8_differs 80 = .ok (.bipush 21, 2) := by decide +kernel
theorem dX8_differs_82 : decode cX8_differs 82 = .ok (.iaload, 1) := by decide +kernel
theorem dX8_differs_83 : decode cX8_differs 83 = .ok (.isub, 1) := by decide +kernel
theorem dX8_differs_84 : decode cX8_differs 84 = .ok (.ireturn, 1) := by decide +kernel
theorem dX8_differs_85 : decode cX8_differs 85 = .ok (.aload_n 0, 1) := by decide +kernel
theorem dX8_differs_86 : decode cX8_differs 86 = .ok (.getfield 7, 3) := by decide +kernel
theorem dX8_differs_89 : decode cX8_differs 89 = .ok (.bipush 14, 2) := by decide +kernel
theorem dX8_differs_91 : decode cX8_differs 91 = .ok (.iaload, 1) := by decide +kernel
theorem dX8_differs_92 : decode cX8_differs 92 = .ok (.aload_n 0, 1) := by decide +kernel
theorem dX8_differs_93 : decode cX8_differs 93 = .ok (.getfield 13, 3) := by decide +kernel
theorem dX8_differs_96 : decode cX8_differs 96 = .ok (.bipush 14, 2) := by decide +kernel
theorem dX8_differs_98 : decode cX8_differs 98 = .ok (.iaload, 1) := by decide +kernel
theorem dX8_differs_99 : decode cX8_differs 99 = .ok (.isub, 1) := by decide +kernel
theorem dX8_differs_100 : decode cX8_differs 100 = .ok (.ireturn, 1) := by decide +kernel
theorem dX8_differs_101 : decode cX8_differs 101 = .ok (.aload_n 0, 1) := by decide +kernel
theorem dX8_differs_102 : decode cX8_differs 102 = .ok (.invokevirtual 85, 3) := by decide +kernel
theorem dX8_differs_105 : decode cX8_differs 105 = .ok (.ireturn, 1) := by decide +kernel
theorem dX8_differs_106 : decode cX8_differs 106 = .ok (.aload_n 0, 1) := by decide +kernel
theorem dX8_differs_107 : decode cX8_differs 107 = .ok (.getfield 7, 3) := by decide +kernel
theorem dX8_differs_110 : decode cX8_differs 110 = .ok (.bipush 18, 2) := by decide +kernel
theorem dX8_differs_112 : decode cX8_differs 112 = .ok (.iaload, 1) := by decide +kernel
theorem dX8_differs_113 : decode cX8_differs 113 = .ok (.aload_n 0, 1) := by decide +kernel
theorem dX8_differs_114 : decode cX8_differs 114 = .ok (.getfield 13, 3) := by decide +kernel
theorem dX8_differs_117 : decode cX8_differs 117 = .ok (.bipush 18, 2) := by decide +kernel
theorem dX8_differs_119 : decode cX8_differs 119 = .ok (.iaload, 1) := by decide +kernel
theorem dX8_differs_120 : decode cX8_differs 120 = .ok (.isub, 1) := by decide +kernel
theorem dX8_differs_121 : decode cX8_differs 121 = .ok (.ireturn, 1) := by decide +kernel
set_option maxRecDepth 20000 in
theorem ggX8_ifRun_X8_in : GoodIn wsX8_ifRun wsX8_in := goodIn_r _ [6] (by decide +kernel) (by decide +kernel)
set_option maxRecDepth 20000 in
theorem gX8_ifRun_X8_in : GoodIn wsX8_ifRun (va_wsS RX8 33 yX8_in wsX8_in) := goodIn_app (goodIn_of _ (by decide +kernel)) ggX8_ifRun_X8_in
set_option maxRecDepth 20000 in
theorem ggX8_ifRun_X8_bring : GoodIn wsX8_ifRun wsX8_bring := goodIn_r _ [9] (by decide +kernel) (by decide +kernel)
set_option maxRecDepth 20000 in
theorem gX8_ifRun_X8_bring : GoodIn wsX8_ifRun (va_wsS RX8 29 yX8_bring wsX8_bring) := goodIn_app (goodIn_of _ (by decide +kernel)) ggX8_ifRun_X8_bring
set_option maxRecDepth 20000 in
theorem ggX8_ifRun_X8_goBy : GoodIn wsX8_ifRun wsX8_goBy := goodIn_r _ [13, 14, 15, 16, 5, 17, 1, 18, 19, 20, 21, 22, 23, 24, 25, 26, 27, 28, 29, 30, 31, 32, 33, 34, 35, 36, 37, 38, 39, 40, 41, 42, 43, 44, 45, 46, 47, 48, 49, 50, 51, 52, 53, 54, 55, 56, 57, 58, 59, 60, 61, 62, 63, 64, 65, 66, 67, 68, 73, 74, 75, 76, 77, 78, 79, 80, 81, 82, 83] (by decide +kernel) (by decide +kernel)
set_option maxRecDepth 20000 in
theorem gX8_ifRun_X8_goBy : GoodIn wsX8_ifRun (wsV RX8 110 RX8 yX8_goBy wsX8_goBy) := goodIn_app (goodIn_of _ (by decide +kernel)) ggX8_ifRun_X8_goBy
set_option maxRecDepth 20000 in
theorem ggX8_ifRun_X8_differs : GoodIn wsX8_ifRun wsX8_differs := goodIn_r _ [72, 1, 2, 65, 66, 67, 5, 68, 26, 27, 28, 29, 58, 59, 60, 34, 35, 36, 37, 38, 39, 40, 41, 73, 74, 75, 76, 77, 78, 79, 80, 81, 82, 83] (by decide +kernel) (by decide +kernel)
set_option maxRecDepth 20000 in
theorem gX8_ifRun_X8_differs : GoodIn wsX8_ifRun (wsV RX8 119 RX8 yX8_differs wsX8_differs) := goodIn_app (goodIn_of _ (by decide +kernel)) ggX8_ifRun_X8_differs
theorem dX8_ifRun_0 : decode cX8_ifRun 0 = .ok (.iload_n 1, 1) := by decide +kernel
theorem dX8_ifRun_1 : decode cX8_ifRun 1 = .ok (.iconst 1, 1) := by decide +kernel
theorem dX8_ifRun_2 : decode cX8_ifRun 2 = .ok (.sipush 1000, 3) := by decide +kernel
theorem dX8_ifRun_5 : decode cX8_ifRun 5 = .ok (.invokestatic 33, 3) := by decide +kernel
theorem dX8_ifRun_8 : decode cX8_ifRun 8 = .ok (.ifCond .eq 13, 3) := by decide +kernel
theorem dX8_ifRun_11 : decode cX8_ifRun 11 = .ok (.iload_n 2, 1) := by decide +kernel
theorem dX8_ifRun_12 : decode cX8_ifRun 12 = .ok (.iconst 0, 1) := by decide +kernel
theorem dX8_ifRun_13 : decode cX8_ifRun 13 = .ok (.bipush 6, 2) := by decide +kernel
theorem dX8_ifRun_15 : decode cX8_ifRun 15 = .ok (.invokestatic 33, 3) := by decide +kernel
theorem dX8_ifRun_18 : decode cX8_ifRun 18 = .ok (.ifCond .ne 5, 3) := by decide +kernel
theorem dX8_ifRun_21 : decode cX8_ifRun 21 = .ok (.iconst (-1), 1) := by decide +kernel
theorem dX8_ifRun_22 : decode cX8_ifRun 22 = .ok (.ireturn, 1) := by decide +kernel
theorem dX8_ifRun_23 : decode cX8_ifRun 23 = .ok (.aload_n 0, 1) := by decide +kernel
theorem dX8_ifRun_24 : decode cX8_ifRun 24 = .ok (.getfield 7, 3) := by decide +kernel
theorem dX8_ifRun_27 : decode cX8_ifRun 27 = .ok (.bipush 16, 2) := by decide +kernel
theorem dX8_ifRun_29 : decode cX8_ifRun 29 = .ok (.iaload, 1) := by decide +kernel
theorem dX8_ifRun_30 : decode cX8_ifRun 30 = .ok (.iload_n 1, 1) := by decide +kernel
theorem dX8_ifRun_31 : decode cX8_ifRun 31 = .ok (.iadd, 1) := by decide +kernel
theorem dX8_ifRun_32 : decode cX8_ifRun 32 = .ok (.sipush 20000, 3) := by decide +kernel
theorem dX8_ifRun_35 : decode cX8_ifRun 35 = .ok (.if_icmp .le 6, 3) := by decide +kernel
theorem dX8_ifRun_38 : decode cX8_ifRun 38 = .ok (.bipush (-3), 2) := by decide +kernel
theorem dX8_ifRun_40 : decode cX8_ifRun 40 = .ok (.ireturn, 1) := by decide +kernel
theorem dX8_ifRun_41 : decode cX8_ifRun 41 = .ok (.aload_n 0, 1) := by decide +kernel
theorem dX8_ifRun_42 : decode cX8_ifRun 42 = .ok (.getfield 7, 3) := by decide +kernel
theorem dX8_ifRun_45 : decode cX8_ifRun 45 = .ok (.iconst 0, 1) := by decide +kernel
theorem dX8_ifRun_46 : decode cX8_ifRun 46 = .ok (.aload_n 0, 1) := by decide +kernel
theorem dX8_ifRun_47 : decode cX8_ifRun 47 = .ok (.getfield 13, 3) := by decide +kernel
theorem dX8_ifRun_50 : decode cX8_ifRun 50 = .ok (.iconst 0, 1) := by decide +kernel
theorem dX8_ifRun_51 : decode cX8_ifRun 51 = .ok (.invokestatic 29, 3) := by decide +kernel
theorem dX8_ifRun_54 : decode cX8_ifRun 54 = .ok (.aload_n 0, 1) := by decide +kernel
theorem dX8_ifRun_55 : decode cX8_ifRun 55 = .ok (.iload_n 1, 1) := by decide +kernel
theorem dX8_ifRun_56 : decode cX8_ifRun 56 = .ok (.invokevirtual 110, 3) := by decide +kernel
theorem dX8_ifRun_59 : decode cX8_ifRun 59 = .ok (.aload_n 0, 1) := by decide +kernel
theorem dX8_ifRun_60 : decode cX8_ifRun 60 = .ok (.iload_n 2, 1) := by decide +kernel
theorem dX8_ifRun_61 : decode cX8_ifRun 61 = .ok (.invokevirtual 119, 3) := by decide +kernel
theorem dX8_ifRun_64 : decode cX8_ifRun 64 = .ok (.istore_n 3, 1) := by decide +kernel
theorem dX8_ifRun_65 : decode cX8_ifRun 65 = .ok (.aload_n 0, 1) := by decide +kernel
theorem dX8_ifRun_66 : decode cX8_ifRun 66 = .ok (.getfield 13, 3) := by decide +kernel
theorem dX8_ifRun_69 : decode cX8_ifRun 69 = .ok (.iconst 0, 1) := by decide +kernel
theorem dX8_ifRun_70 : decode cX8_ifRun 70 = .ok (.aload_n 0, 1) := by decide +kernel
theorem dX8_ifRun_71 : decode cX8_ifRun 71 = .ok (.getfield 7, 3) := by decide +kernel
theorem dX8_ifRun_74 : decode cX8_ifRun 74 = .ok (.iconst 0, 1) := by decide +kernel
theorem dX8_ifRun_75 : decode cX8_ifRun 75 = .ok (.invokestatic 29, 3) := by decide +kernel
theorem dX8_ifRun_78 : decode cX8_ifRun 78 = .ok (.iload_n 3, 1) := by decide +kernel
theorem dX8_ifRun_79 : decode cX8_ifRun 79 = .ok (.ireturn, 1) := by decide +kernel
set_option maxRecDepth 20000 in
theorem ggX8_ticksTo_X8_bring : GoodIn wsX8_ticksTo wsX8_bring := goodIn_r _ [6] (by decide +kernel) (by decide +kernel)
set_option maxRecDepth 20000 in
theorem gX8_ticksTo_X8_bring : GoodIn wsX8_ticksTo (va_wsS RX8 29 yX8_bring wsX8_bring) := goodIn_app (goodIn_of _ (by decide +kernel)) ggX8_ticksTo_X8_bring
set_option maxRecDepth 20000 in
theorem ggX8_ticksTo_X8_told : GoodIn wsX8_ticksTo wsX8_told := goodIn_r _ [10, 1, 11, 12, 13, 5, 14, 15, 16, 17, 62, 63, 64, 65, 66, 67, 68, 69, 70, 71, 72] (by decide +kernel) (by decide +kernel)
set_option maxRecDepth 20000 in
theorem gX8_ticksTo_X8_told : GoodIn wsX8_ticksTo (wsV RX8 92 RX8 yX8_told wsX8_told) := goodIn_app (goodIn_of _ (by decide +kernel)) ggX8_ticksTo_X8_told
set_option maxRecDepth 20000 in
theorem ggX8_ticksTo_X8_tick : GoodIn wsX8_ticksTo wsX8_tick := goodIn_r _ [21, 1, 22, 23, 24, 5, 25, 26, 27, 28, 29, 11, 12, 13, 14, 30, 31, 32, 33, 34, 35, 36, 37, 38, 39, 40, 41, 42, 43, 44, 45, 46, 47, 48, 49, 50, 51, 52, 53, 54, 55, 56, 57, 15, 16, 17, 58, 59, 60, 61, 7, 8, 9, 10, 62, 63, 64, 65, 66, 67, 68, 69, 70, 71, 72] (by decide +kernel) (by decide +kernel)
set_option maxRecDepth 20000 in
theorem gX8_ticksTo_X8_tick : GoodIn wsX8_ticksTo (wsV RX8 107 RX8 yX8_tick wsX8_tick) := goodIn_app (goodIn_of _ (by decide +kernel)) ggX8_ticksTo_X8_tick
theorem dX8_ticksTo_0 : decode cX8_ticksTo 0 = .ok (.iload_n 1, 1) := by decide +kernel
theorem dX8_ticksTo_1 : decode cX8_ticksTo 1 = .ok (.ifCond .ge 5, 3) := by decide +kernel
theorem dX8_ticksTo_4 : decode cX8_ticksTo 4 = .ok (.iconst (-1), 1) := by decide +kernel
theorem dX8_ticksTo_5 : decode cX8_ticksTo 5 = .ok (.ireturn, 1) := by decide +kernel
theorem dX8_ticksTo_6 : decode cX8_ticksTo 6 = .ok (.aload_n 0, 1) := by decide +kernel
theorem dX8_ticksTo_7 : decode cX8_ticksTo 7 = .ok (.getfield 7, 3) := by decide +kernel
theorem dX8_ticksTo_10 : decode cX8_ticksTo 10 = .ok (.iconst 0, 1) := by decide +kernel
theorem dX8_ticksTo_11 : decode cX8_ticksTo 11 = .ok (.aload_n 0, 1) := by decide +kernel
theorem dX8_ticksTo_12 : decode cX8_ticksTo 12 = .ok (.getfield 13, 3) := by decide +kernel
theorem dX8_ticksTo_15 : decode cX8_ticksTo 15 = .ok (.iconst 0, 1) := by decide +kernel
theorem dX8_ticksTo_16 : decode cX8_ticksTo 16 = .ok (.invokestatic 29, 3) := by decide +kernel
theorem dX8_ticksTo_19 : decode cX8_ticksTo 19 = .ok (.iconst 0, 1) := by decide +kernel
theorem dX8_ticksTo_20 : decode cX8_ticksTo 20 = .ok (.istore_n 2, 1) := by decide +kernel
theorem dX8_ticksTo_21 : decode cX8_ticksTo 21 = .ok (.aload_n 0, 1) := by decide +kernel
theorem dX8_ticksTo_22 : decode cX8_ticksTo 22 = .ok (.invokevirtual 92, 3) := by decide +kernel
theorem dX8_ticksTo_25 : decode cX8_ticksTo 25 = .ok (.iload_n 1, 1) := by decide +kernel
theorem dX8_ticksTo_26 : decode cX8_ticksTo 26 = .ok (.if_icmp .ge 33, 3) := by decide +kernel
theorem dX8_ticksTo_29 : decode cX8_ticksTo 29 = .ok (.iload_n 2, 1) := by decide +kernel
theorem dX8_ticksTo_30 : decode cX8_ticksTo 30 = .ok (.sipush 2000, 3) := by decide +kernel
theorem dX8_ticksTo_33 : decode cX8_ticksTo 33 = .ok (.if_icmp .ge 26, 3) := by decide +kernel
theorem dX8_ticksTo_36 : decode cX8_ticksTo 36 = .ok (.aload_n 0, 1) := by decide +kernel
theorem dX8_ticksTo_37 : decode cX8_ticksTo 37 = .ok (.getfield 7, 3) := by decide +kernel
theorem dX8_ticksTo_40 : decode cX8_ticksTo 40 = .ok (.bipush 16, 2) := by decide +kernel
theorem dX8_ticksTo_42 : decode cX8_ticksTo 42 = .ok (.iaload, 1) := by decide +kernel
theorem dX8_ticksTo_43 : decode cX8_ticksTo 43 = .ok (.sipush 20000, 3) := by decide +kernel
theorem dX8_ticksTo_46 : decode cX8_ticksTo 46 = .ok (.if_icmp .ge 13, 3) := by decide +kernel
theorem dX8_ticksTo_49 : decode cX8_ticksTo 49 = .ok (.aload_n 0, 1) := by decide +kernel
theorem dX8_ticksTo_50 : decode cX8_ticksTo 50 = .ok (.invokevirtual 107, 3) := by decide +kernel
theorem dX8_ticksTo_53 : decode cX8_ticksTo 53 = .ok (.iinc 2 1, 3) := by decide +kernel
theorem dX8_ticksTo_56 : decode cX8_ticksTo 56 = .ok (.goto (-35), 3) := by decide +kernel
theorem dX8_ticksTo_59 : decode cX8_ticksTo 59 = .ok (.aload_n 0, 1) := by decide +kernel
theorem dX8_ticksTo_60 : decode cX8_ticksTo 60 = .ok (.invokevirtual 92, 3) := by decide +kernel
theorem dX8_ticksTo_63 : decode cX8_ticksTo 63 = .ok (.iload_n 1, 1) := by decide +kernel
theorem dX8_ticksTo_64 : decode cX8_ticksTo 64 = .ok (.if_icmp .ge 8, 3) := by decide +kernel
theorem dX8_ticksTo_67 : decode cX8_ticksTo 67 = .ok (.bipush (-4), 2) := by decide +kernel
theorem dX8_ticksTo_69 : decode cX8_ticksTo 69 = .ok (.goto 4, 3) := by decide +kernel
theorem dX8_ticksTo_72 : decode cX8_ticksTo 72 = .ok (.iload_n 2, 1) := by decide +kernel
theorem dX8_ticksTo_73 : decode cX8_ticksTo 73 = .ok (.istore_n 3, 1) := by decide +kernel
theorem dX8_ticksTo_74 : decode cX8_ticksTo 74 = .ok (.aload_n 0, 1) := by decide +kernel
theorem dX8_ticksTo_75 : decode cX8_ticksTo 75 = .ok (.getfield 13, 3) := by decide +kernel
theorem dX8_ticksTo_78 : decode cX8_ticksTo 78 = .ok (.iconst 0, 1) := by decide +kernel
theorem dX8_ticksTo_79 : decode cX8_ticksTo 79 = .ok (.aload_n 0, 1) := by decide +kernel
theorem dX8_ticksTo_80 : decode cX8_ticksTo 80 = .ok (.getfield 7, 3) := by decide +kernel
theorem dX8_ticksTo_83 : decode cX8_ticksTo 83 = .ok (.iconst 0, 1) := by decide +kernel
theorem dX8_ticksTo_84 : decode cX8_ticksTo 84 = .ok (.invokestatic 29, 3) := by decide +kernel
theorem dX8_ticksTo_87 : decode cX8_ticksTo 87 = .ok (.iload_n 3, 1) := by decide +kernel
theorem dX8_ticksTo_88 : decode cX8_ticksTo 88 = .ok (.ireturn, 1) := by decide +kernel
set_option maxRecDepth 20000 in
theorem ggX8_flowFor_X8_in : GoodIn wsX8_flowFor wsX8_in := goodIn_r _ [6] (by decide +kernel) (by decide +kernel)
set_option maxRecDepth 20000 in
theorem gX8_flowFor_X8_in : GoodIn wsX8_flowFor (va_wsS RX8 33 yX8_in wsX8_in) := goodIn_app (goodIn_of _ (by decide +kernel)) ggX8_flowFor_X8_in
set_option maxRecDepth 20000 in
theorem ggX8_flowFor_X8_bring : GoodIn wsX8_flowFor wsX8_bring := goodIn_r _ [9] (by decide +kernel) (by decide +kernel)
set_option maxRecDepth 20000 in
theorem gX8_flowFor_X8_bring : GoodIn wsX8_flowFor (va_wsS RX8 29 yX8_bring wsX8_bring) := goodIn_app (goodIn_of _ (by decide +kernel)) ggX8_flowFor_X8_bring
set_option maxRecDepth 20000 in
theorem ggX8_flowFor_X8_goBy : GoodIn wsX8_flowFor wsX8_goBy := goodIn_r _ [13, 14, 15, 16, 5, 17, 1, 18, 19, 20, 21, 22, 23, 24, 25, 26, 27, 28, 29, 30, 31, 32, 33, 34, 35, 36, 37, 38, 39, 40, 41, 42, 43, 44, 45, 46, 47, 48, 49, 50, 51, 52, 53, 54, 55, 56, 57, 58, 59, 60, 61, 62, 63, 64, 65, 66, 67, 68, 69, 70, 71, 72, 73, 74, 75, 76, 77, 78, 79] (by decide +kernel) (by decide +kernel)
set_option maxRecDepth 20000 in
theorem gX8_flowFor_X8_goBy : GoodIn wsX8_flowFor (wsV RX8 110 RX8 yX8_goBy wsX8_goBy) := goodIn_app (goodIn_of _ (by decide +kernel)) ggX8_flowFor_X8_goBy
theorem dX8_flowFor_0 : decode cX8_flowFor 0 = .ok (.iload_n 1, 1) := by decide +kernel
theorem dX8_flowFor_1 : decode cX8_flowFor 1 = .ok (.iconst 1, 1) := by decide +kernel
theorem dX8_flowFor_2 : decode cX8_flowFor 2 = .ok (.sipush 300, 3) := by decide +kernel
theorem dX8_flowFor_5 : decode cX8_flowFor 5 = .ok (.invokestatic 33, 3) := by decide +kernel
theorem dX8_flowFor_8 : decode cX8_flowFor 8 = .ok (.ifCond .ne 5, 3) := by decide +kernel
theorem dX8_flowFor_11 : decode cX8_flowFor 11 = .ok (.iconst (-1), 1) := by decide +kernel
theorem dX8_flowFor_12 : decode cX8_flowFor 12 = .ok (.ireturn, 1) := by decide +kernel
theorem dX8_flowFor_13 : decode cX8_flowFor 13 = .ok (.aload_n 0, 1) := by decide +kernel
theorem dX8_flowFor_14 : decode cX8_flowFor 14 = .ok (.getfield 7, 3) := by decide +kernel
theorem dX8_flowFor_17 : decode cX8_flowFor 17 = .ok (.bipush 16, 2) := by decide +kernel
theorem dX8_flowFor_19 : decode cX8_flowFor 19 = .ok (.iaload, 1) := by decide +kernel
theorem dX8_flowFor_20 : decode cX8_flowFor 20 = .ok (.iload_n 1, 1) := by decide +kernel
theorem dX8_flowFor_21 : decode cX8_flowFor 21 = .ok (.iadd, 1) := by decide +kernel
theorem dX8_flowFor_22 : decode cX8_flowFor 22 = .ok (.sipush 20000, 3) := by decide +kernel
theorem dX8_flowFor_25 : decode cX8_flowFor 25 = .ok (.if_icmp .le 6, 3) := by decide +kernel
theorem dX8_flowFor_28 : decode cX8_flowFor 28 = .ok (.bipush (-3), 2) := by decide +kernel
theorem dX8_flowFor_30 : decode cX8_flowFor 30 = .ok (.ireturn, 1) := by decide +kernel
theorem dX8_flowFor_31 : decode cX8_flowFor 31 = .ok (.aload_n 0, 1) := by decide +kernel
theorem dX8_flowFor_32 : decode cX8_flowFor 32 = .ok (.getfield 7, 3) := by decide +kernel
theorem dX8_flowFor_35 : decode cX8_flowFor 35 = .ok (.iconst 0, 1) := by decide +kernel
theorem dX8_flowFor_36 : decode cX8_flowFor 36 = .ok (.aload_n 0, 1) := by decide +kernel
theorem dX8_flowFor_37 : decode cX8_flowFor 37 = .ok (.getfield 13, 3) := by decide +kernel
theorem dX8_flowFor_40 : decode cX8_flowFor 40 = .ok (.iconst 0, 1) := by decide +kernel
theorem dX8_flowFor_41 : decode cX8_flowFor 41 = .ok (.invokestatic 29, 3) := by decide +kernel
theorem dX8_flowFor_44 : decode cX8_flowFor 44 = .ok (.iconst 0, 1) := by decide +kernel
theorem dX8_flowFor_45 : decode cX8_flowFor 45 = .ok (.istore_n 2, 1) := by decide +kernel
theorem dX8_flowFor_46 : decode cX8_flowFor 46 = .ok (.iconst (-1), 1) := by decide +kernel
theorem dX8_flowFor_47 : decode cX8_flowFor 47 = .ok (.istore_n 3, 1) := by decide +kernel
theorem dX8_flowFor_48 : decode cX8_flowFor 48 = .ok (.bipush 10, 2) := by decide +kernel
theorem dX8_flowFor_50 : decode cX8_flowFor 50 = .ok (.istore 4, 2) := by decide +kernel
theorem dX8_flowFor_52 : decode cX8_flowFor 52 = .ok (.iload 4, 2) := by decide +kernel
theorem dX8_flowFor_54 : decode cX8_flowFor 54 = .ok (.sipush 500, 3) := by decide +kernel
theorem dX8_flowFor_57 : decode cX8_flowFor 57 = .ok (.if_icmp .gt 70, 3) := by decide +kernel
theorem dX8_flowFor_60 : decode cX8_flowFor 60 = .ok (.aload_n 0, 1) := by decide +kernel
theorem dX8_flowFor_61 : decode cX8_flowFor 61 = .ok (.getfield 7, 3) := by decide +kernel
theorem dX8_flowFor_64 : decode cX8_flowFor 64 = .ok (.iconst 3, 1) := by decide +kernel
theorem dX8_flowFor_65 : decode cX8_flowFor 65 = .ok (.iload 4, 2) := by decide +kernel
theorem dX8_flowFor_67 : decode cX8_flowFor 67 = .ok (.iastore, 1) := by decide +kernel
theorem dX8_flowFor_68 : decode cX8_flowFor 68 = .ok (.aload_n 0, 1) := by decide +kernel
theorem dX8_flowFor_69 : decode cX8_flowFor 69 = .ok (.iload_n 1, 1) := by decide +kernel
theorem dX8_flowFor_70 : decode cX8_flowFor 70 = .ok (.invokevirtual 110, 3) := by decide +kernel
theorem dX8_flowFor_73 : decode cX8_flowFor 73 = .ok (.aload_n 0, 1) := by decide +kernel
theorem dX8_flowFor_74 : decode cX8_flowFor 74 = .ok (.getfield 7, 3) := by decide +kernel
theorem dX8_flowFor_77 : decode cX8_flowFor 77 = .ok (.bipush 20, 2) := by decide +kernel
theorem dX8_flowFor_79 : decode cX8_flowFor 79 = .ok (.iaload, 1) := by decide +kernel
theorem dX8_flowFor_80 : decode cX8_flowFor 80 = .ok (.istore 5, 2) := by decide +kernel
theorem dX8_flowFor_82 : decode cX8_flowFor 82 = .ok (.iload 5, 2) := by decide +kernel
theorem dX8_flowFor_84 : decode cX8_flowFor 84 = .ok (.iload_n 3, 1) := by decide +kernel
theorem dX8_flowFor_85 : decode cX8_flowFor 85 = .ok (.if_icmp .le 8, 3) := by decide +kernel
theorem dX8_flowFor_88 : decode cX8_flowFor 88 = .ok (.iload 4, 2) := by decide +kernel
theorem dX8_flowFor_90 : decode cX8_flowFor 90 = .ok (.goto 4, 3) := by decide +kernel
theorem dX8_flowFor_93 : decode cX8_flowFor 93 = .ok (.iload_n 2, 1) := by decide +kernel
theorem dX8_flowFor_94 : decode cX8_flowFor 94 = .ok (.istore_n 2, 1) := by decide +kernel
theorem dX8_flowFor_95 : decode cX8_flowFor 95 = .ok (.iload 5, 2) := by decide +kernel
theorem dX8_flowFor_97 : decode cX8_flowFor 97 = .ok (.iload_n 3, 1) := by decide +kernel
theorem dX8_flowFor_98 : decode cX8_flowFor 98 = .ok (.if_icmp .le 8, 3) := by decide +kernel
theorem dX8_flowFor_101 : decode cX8_flowFor 101 = .ok (.iload 5, 2) := by decide +kernel
theorem dX8_flowFor_103 : decode cX8_flowFor 103 = .ok (.goto 4, 3) := by decide +kernel
theorem dX8_flowFor_106 : decode cX8_flowFor 106 = .ok (.iload_n 3, 1) := by decide +kernel
theorem dX8_flowFor_107 : decode cX8_flowFor 107 = .ok (.istore_n 3, 1) := by decide +kernel
theorem dX8_flowFor_108 : decode cX8_flowFor 108 = .ok (.aload_n 0, 1) := by decide +kernel
theorem dX8_flowFor_109 : decode cX8_flowFor 109 = .ok (.getfield 13, 3) := by decide +kernel
theorem dX8_flowFor_112 : decode cX8_flowFor 112 = .ok (.iconst 0, 1) := by decide +kernel
theorem dX8_flowFor_113 : decode cX8_flowFor 113 = .ok (.aload_n 0, 1) := by decide +kernel
theorem dX8_flowFor_114 : decode cX8_flowFor 114 = .ok (.getfield 7, 3) := by decide +kernel
theorem dX8_flowFor_117 : decode cX8_flowFor 117 = .ok (.iconst 0, 1) := by decide +kernel
theorem dX8_flowFor_118 : decode cX8_flowFor 118 = .ok (.invokestatic 29, 3) := by decide +kernel
theorem dX8_flowFor_121 : decode cX8_flowFor 121 = .ok (.iinc 4 10, 3) := by decide +kernel
theorem dX8_flowFor_124 : decode cX8_flowFor 124 = .ok (.goto (-72), 3) := by decide +kernel
theorem dX8_flowFor_127 : decode cX8_flowFor 127 = .ok (.iload_n 2, 1) := by decide +kernel
theorem dX8_flowFor_128 : decode cX8_flowFor 128 = .ok (.ireturn, 1) := by decide +kernel
set_option maxRecDepth 20000 in
theorem ggX8_type_X8_in : GoodIn wsX8_type wsX8_in := goodIn_r _ [6] (by decide +kernel) (by decide +kernel)
set_option maxRecDepth 20000 in
theorem gX8_type_X8_in : GoodIn wsX8_type (va_wsS RX8 33 yX8_in wsX8_in) := goodIn_app (goodIn_of _ (by decide +kernel)) ggX8_type_X8_in
theorem dX8_type_0 : decode cX8_type 0 = .ok (.iload_n 1, 1) := by decide +kernel
theorem dX8_type_1 : decode cX8_type 1 = .ok (.bipush 32, 2) := by decide +kernel
theorem dX8_type_3 : decode cX8_type 3 = .ok (.bipush 126, 2) := by decide +kernel
theorem dX8_type_5 : decode cX8_type 5 = .ok (.invokestatic 33, 3) := by decide +kernel
theorem dX8_type_8 : decode cX8_type 8 = .ok (.ifCond .ne 5, 3) := by decide +kernel
theorem dX8_type_11 : decode cX8_type 11 = .ok (.iconst (-1), 1) := by decide +kernel
theorem dX8_type_12 : decode cX8_type 12 = .ok (.ireturn, 1) := by decide +kernel
theorem dX8_type_13 : decode cX8_type 13 = .ok (.aload_n 0, 1) := by decide +kernel
theorem dX8_type_14 : decode cX8_type 14 = .ok (.getfield 113, 3) := by decide +kernel
theorem dX8_type_17 : decode cX8_type 17 = .ok (.bipush 100, 2) := by decide +kernel
theorem dX8_type_19 : decode cX8_type 19 = .ok (.if_icmp .ne 6, 3) := by decide +kernel
theorem dX8_type_22 : decode cX8_type 22 = .ok (.bipush (-3), 2) := by decide +kernel
theorem dX8_type_24 : decode cX8_type 24 = .ok (.ireturn, 1) := by decide +kernel
theorem dX8_type_25 : decode cX8_type 25 = .ok (.aload_n 0, 1) := by decide +kernel
theorem dX8_type_26 : decode cX8_type 26 = .ok (.getfield 19, 3) := by decide +kernel
theorem dX8_type_29 : decode cX8_type 29 = .ok (.aload_n 0, 1) := by decide +kernel
theorem dX8_type_30 : decode cX8_type 30 = .ok (.getfield 113, 3) := by decide +kernel
theorem dX8_type_33 : decode cX8_type 33 = .ok (.iload_n 1, 1) := by decide +kernel
theorem dX8_type_34 : decode cX8_type 34 = .ok (.iastore, 1) := by decide +kernel
theorem dX8_type_35 : decode cX8_type 35 = .ok (.aload_n 0, 1) := by decide +kernel
theorem dX8_type_36 : decode cX8_type 36 = .ok (.dup, 1) := by decide +kernel
theorem dX8_type_37 : decode cX8_type 37 = .ok (.getfield 113, 3) := by decide +kernel
theorem dX8_type_40 : decode cX8_type 40 = .ok (.iconst 1, 1) := by decide +kernel
theorem dX8_type_41 : decode cX8_type 41 = .ok (.iadd, 1) := by decide +kernel
theorem dX8_type_42 : decode cX8_type 42 = .ok (.putfield 113, 3) := by decide +kernel
theorem dX8_type_45 : decode cX8_type 45 = .ok (.aload_n 0, 1) := by decide +kernel
theorem dX8_type_46 : decode cX8_type 46 = .ok (.getfield 113, 3) := by decide +kernel
theorem dX8_type_49 : decode cX8_type 49 = .ok (.ireturn, 1) := by decide +kernel
theorem dX8_clearText_0 : decode cX8_clearText 0 = .ok (.aload_n 0, 1) := by decide +kernel
theorem dX8_clearText_1 : decode cX8_clearText 1 = .ok (.getfield 113, 3) := by decide +kernel
theorem dX8_clearText_4 : decode cX8_clearText 4 = .ok (.istore_n 1, 1) := by decide +kernel
theorem dX8_clearText_5 : decode cX8_clearText 5 = .ok (.aload_n 0, 1) := by decide +kernel
theorem dX8_clearText_6 : decode cX8_clearText 6 = .ok (.iconst 0, 1) := by decide +kernel
theorem dX8_clearText_7 : decode cX8_clearText 7 = .ok (.putfield 113, 3) := by decide +kernel
theorem dX8_clearText_10 : decode cX8_clearText 10 = .ok (.iload_n 1, 1) := by decide +kernel
theorem dX8_clearText_11 : decode cX8_clearText 11 = .ok (.ireturn, 1) := by decide +kernel
theorem dX8_here_0 : decode cX8_here 0 = .ok (.aload_n 0, 1) := by decide +kernel
theorem dX8_here_1 : decode cX8_here 1 = .ok (.getfield 122, 3) := by decide +kernel
theorem dX8_here_4 : decode cX8_here 4 = .ok (.aload_n 0, 1) := by decide +kernel
theorem dX8_here_5 : decode cX8_here 5 = .ok (.getfield 113, 3) := by decide +kernel
theorem dX8_here_8 : decode cX8_here 8 = .ok (.if_icmp .ge 15, 3) := by decide +kernel
theorem dX8_here_11 : decode cX8_here 11 = .ok (.aload_n 0, 1) := by decide +kernel
theorem dX8_here_12 : decode cX8_here 12 = .ok (.getfield 19, 3) := by decide +kernel
theorem dX8_here_15 : decode cX8_here 15 = .ok (.aload_n 0, 1) := by decide +kernel
theorem dX8_here_16 : decode cX8_here 16 = .ok (.getfield 122, 3) := by decide +kernel
theorem dX8_here_19 : decode cX8_here 19 = .ok (.iaload, 1) := by decide +kernel
theorem dX8_here_20 : decode cX8_here 20 = .ok (.goto 4, 3) := by decide +kernel
theorem dX8_here_23 : decode cX8_here 23 = .ok (.iconst 0, 1) := by decide +kernel
theorem dX8_here_24 : decode cX8_here 24 = .ok (.ireturn, 1) := by decide +kernel
set_option maxRecDepth 20000 in
theorem ggX8_readKind_X8_here : GoodIn wsX8_readKind wsX8_here := goodIn_r _ [12, 4, 13, 14, 18, 19, 20, 21, 22, 23, 24, 25, 26, 27, 28] (by decide +kernel) (by decide +kernel)
set_option maxRecDepth 20000 in
theorem gX8_readKind_X8_here : GoodIn wsX8_readKind (wsV RX8 125 RX8 yX8_here wsX8_here) := goodIn_app (goodIn_of _ (by decide +kernel)) ggX8_readKind_X8_here
set_option maxRecDepth 20000 in
theorem ggX8_readKind_X8_in : GoodIn wsX8_readKind wsX8_in := goodIn_r _ [17] (by decide +kernel) (by decide +kernel)
set_option maxRecDepth 20000 in
theorem gX8_readKind_X8_in : GoodIn wsX8_readKind (va_wsS RX8 33 yX8_in wsX8_in) := goodIn_app (goodIn_of _ (by decide +kernel)) ggX8_readKind_X8_in
theorem dX8_readKind_0 : decode cX8_readKind 0 = .ok (.lconst 0, 1) := by decide +kernel
theorem dX8_readKind_1 : decode cX8_readKind 1 = .ok (.lstore_n 1, 1) := by decide +kernel
theorem dX8_readKind_2 : decode cX8_readKind 2 = .ok (.aload_n 0, 1) := by decide +kernel
theorem dX8_readKind_3 : decode cX8_readKind 3 = .ok (.invokevirtual 125, 3) := by decide +kernel
theorem dX8_readKind_6 : decode cX8_readKind 6 = .ok (.bipush 97, 2) := by decide +kernel
theorem dX8_readKind_8 : decode cX8_readKind 8 = .ok (.bipush 122, 2) := by decide +kernel
theorem dX8_readKind_10 : decode cX8_readKind 10 = .ok (.invokestatic 33, 3) := by decide +kernel
theorem dX8_readKind_13 : decode cX8_readKind 13 = .ok (.ifCond .eq 44, 3) := by decide +kernel
theorem dX8_readKind_16 : decode cX8_readKind 16 = .ok (.lload_n 1, 1) := by decide +kernel
theorem dX8_readKind_17 : decode cX8_readKind 17 = .ok (.ldc2_w 128, 3) := by decide +kernel
theorem dX8_readKind_20 : decode cX8_readKind 20 = .ok (.lcmp, 1) := by decide +kernel
theorem dX8_readKind_21 : decode cX8_readKind 21 = .ok (.ifCond .le 7, 3) := by decide +kernel
theorem dX8_readKind_24 : decode cX8_readKind 24 = .ok (.lload_n 1, 1) := by decide +kernel
theorem dX8_readKind_25 : decode cX8_readKind 25 = .ok (.goto 18, 3) := by decide +kernel
theorem dX8_readKind_28 : decode cX8_readKind 28 = .ok (.lload_n 1, 1) := by decide +kernel
theorem dX8_readKind_29 : decode cX8_readKind 29 = .ok (.ldc2_w 130, 3) := by decide +kernel
theorem dX8_readKind_32 : decode cX8_readKind 32 = .ok (.lmul, 1) := by decide +kernel
theorem dX8_readKind_33 : decode cX8_readKind 33 = .ok (.aload_n 0, 1) := by decide +kernel
theorem dX8_readKind_34 : decode cX8_readKind 34 = .ok (.invokevirtual 125, 3) := by decide +kernel
theorem dX8_readKind_37 : decode cX8_readKind 37 = .ok (.i2l, 1) := by decide +kernel
theorem dX8_readKind_38 : decode cX8_readKind 38 = .ok (.ladd, 1) := by decide +kernel
theorem dX8_readKind_39 : decode cX8_readKind 39 = .ok (.ldc2_w 132, 3) := by decide +kernel
theorem dX8_readKind_42 : decode cX8_readKind 42 = .ok (.lsub, 1) := by decide +kernel
theorem dX8_readKind_43 : decode cX8_readKind 43 = .ok (.lstore_n 1, 1) := by decide +kernel
theorem dX8_readKind_44 : decode cX8_readKind 44 = .ok (.aload_n 0, 1) := by decide +kernel
theorem dX8_readKind_45 : decode cX8_readKind 45 = .ok (.dup, 1) := by decide +kernel
theorem dX8_readKind_46 : decode cX8_readKind 46 = .ok (.getfield 122, 3) := by decide +kernel
theorem dX8_readKind_49 : decode cX8_readKind 49 = .ok (.iconst 1, 1) := by decide +kernel
theorem dX8_readKind_50 : decode cX8_readKind 50 = .ok (.iadd, 1) := by decide +kernel
theorem dX8_readKind_51 : decode cX8_readKind 51 = .ok (.putfield 122, 3) := by decide +kernel
theorem dX8_readKind_54 : decode cX8_readKind 54 = .ok (.goto (-52), 3) := by decide +kernel
theorem dX8_readKind_57 : decode cX8_readKind 57 = .ok (.lload_n 1, 1) := by decide +kernel
theorem dX8_readKind_58 : decode cX8_readKind 58 = .ok (.ldc2_w 134, 3) := by decide +kernel
theorem dX8_readKind_61 : decode cX8_readKind 61 = .ok (.lcmp, 1) := by decide +kernel
theorem dX8_readKind_62 : decode cX8_readKind 62 = .ok (.ifCond .ne 7, 3) := by decide +kernel
theorem dX8_readKind_65 : decode cX8_readKind 65 = .ok (.iconst 0, 1) := by decide +kernel
theorem dX8_readKind_66 : decode cX8_readKind 66 = .ok (.goto 29, 3) := by decide +kernel
theorem dX8_readKind_69 : decode cX8_readKind 69 = .ok (.lload_n 1, 1) := by decide +kernel
theorem dX8_readKind_70 : decode cX8_readKind 70 = .ok (.ldc2_w 136, 3) := by decide +kernel
theorem dX8_readKind_73 : decode cX8_readKind 73 = .ok (.lcmp, 1) := by decide +kernel
theorem dX8_readKind_74 : decode cX8_readKind 74 = .ok (.ifCond .ne 7, 3) := by decide +kernel
theorem dX8_readKind_77 : decode cX8_readKind 77 = .ok (.iconst 1, 1) := by decide +kernel
theorem dX8_readKind_78 : decode cX8_readKind 78 = .ok (.goto 17, 3) := by decide +kernel
theorem dX8_readKind_81 : decode cX8_readKind 81 = .ok (.lload_n 1, 1) := by decide +kernel
theorem dX8_readKind_82 : decode cX8_readKind 82 = .ok (.ldc2_w 138, 3) := by decide +kernel
theorem dX8_readKind_85 : decode cX8_readKind 85 = .ok (.lcmp, 1) := by decide +kernel
theorem dX8_readKind_86 : decode cX8_readKind 86 = .ok (.ifCond .ne 7, 3) := by decide +kernel
theorem dX8_readKind_89 : decode cX8_readKind 89 = .ok (.iconst 2, 1) := by decide +kernel
theorem dX8_readKind_90 : decode cX8_readKind 90 = .ok (.goto 5, 3) := by decide +kernel
theorem dX8_readKind_93 : decode cX8_readKind 93 = .ok (.bipush (-4), 2) := by decide +kernel
theorem dX8_readKind_95 : decode cX8_readKind 95 = .ok (.ireturn, 1) := by decide +kernel
set_option maxRecDepth 20000 in
theorem ggX8_readNumber_X8_here : GoodIn wsX8_readNumber wsX8_here := goodIn_r _ [7, 1, 8, 9, 13, 14, 15, 16, 17, 18, 19, 20, 21, 22, 23] (by decide +kernel) (by decide +kernel)
set_option maxRecDepth 20000 in
theorem gX8_readNumber_X8_here : GoodIn wsX8_readNumber (wsV RX8 125 RX8 yX8_here wsX8_here) := goodIn_app (goodIn_of _ (by decide +kernel)) ggX8_readNumber_X8_here
set_option maxRecDepth 20000 in
theorem ggX8_readNumber_X8_in : GoodIn wsX8_readNumber wsX8_in := goodIn_r _ [12] (by decide +kernel) (by decide +kernel)
set_option maxRecDepth 20000 in
theorem gX8_readNumber_X8_in : GoodIn wsX8_readNumber (va_wsS RX8 33 yX8_in wsX8_in) := goodIn_app (goodIn_of _ (by decide +kernel)) ggX8_readNumber_X8_in
theorem dX8_readNumber_0 : decode cX8_readNumber 0 = .ok (.aload_n 0, 1) := by decide +kernel
theorem dX8_readNumber_1 : decode cX8_readNumber 1 = .ok (.invokevirtual 125, 3) := by decide +kernel
theorem dX8_readNumber_4 : decode cX8_readNumber 4 = .ok (.bipush 32, 2) := by decide +kernel
theorem dX8_readNumber_6 : decode cX8_readNumber 6 = .ok (.if_icmp .eq 5, 3) := by decide +kernel
theorem dX8_readNumber_9 : decode cX8_readNumber 9 = .ok (.iconst 0, 1) := by decide +kernel
theorem dX8_readNumber_10 : decode cX8_readNumber 10 = .ok (.ireturn, 1) := by decide +kernel
theorem dX8_readNumber_11 : decode cX8_readNumber 11 = .ok (.aload_n 0, 1) := by decide +kernel
theorem dX8_readNumber_12 : decode cX8_readNumber 12 = .ok (.dup, 1) := by decide +kernel
theorem dX8_readNumber_13 : decode cX8_readNumber 13 = .ok (.getfield 122, 3) := by decide +kernel
theorem dX8_readNumber_16 : decode cX8_readNumber 16 = .ok (.iconst 1, 1) := by decide +kernel
theorem dX8_readNumber_17 : decode cX8_readNumber 17 = .ok (.iadd, 1) := by decide +kernel
theorem dX8_readNumber_18 : decode cX8_readNumber 18 = .ok (.putfield 122, 3) := by decide +kernel
theorem dX8_readNumber_21 : decode cX8_readNumber 21 = .ok (.aload_n 0, 1) := by decide +kernel
theorem dX8_readNumber_22 : decode cX8_readNumber 22 = .ok (.getfield 122, 3) := by decide +kernel
theorem dX8_readNumber_25 : decode cX8_readNumber 25 = .ok (.istore_n 2, 1) := by decide +kernel
theorem dX8_readNumber_26 : decode cX8_readNumber 26 = .ok (.iconst 0, 1) := by decide +kernel
theorem dX8_readNumber_27 : decode cX8_readNumber 27 = .ok (.istore_n 3, 1) := by decide +kernel
theorem dX8_readNumber_28 : decode cX8_readNumber 28 = .ok (.aload_n 0, 1) := by decide +kernel
theorem dX8_readNumber_29 : decode cX8_readNumber 29 = .ok (.getfield 122, 3) := by decide +kernel
theorem dX8_readNumber_32 : decode cX8_readNumber 32 = .ok (.iload_n 2, 1) := by decide +kernel
theorem dX8_readNumber_33 : decode cX8_readNumber 33 = .ok (.iconst 3, 1) := by decide +kernel
theorem dX8_readNumber_34 : decode cX8_readNumber 34 = .ok (.iadd, 1) := by decide +kernel
theorem dX8_readNumber_35 : decode cX8_readNumber 35 = .ok (.if_icmp .ge 43, 3) := by decide +kernel
theorem dX8_readNumber_38 : decode cX8_readNumber 38 = .ok (.aload_n 0, 1) := by decide +kernel
theorem dX8_readNumber_39 : decode cX8_readNumber 39 = .ok (.invokevirtual 125, 3) := by decide +kernel
theorem dX8_readNumber_42 : decode cX8_readNumber 42 = .ok (.bipush 48, 2) := by decide +kernel
theorem dX8_readNumber_44 : decode cX8_readNumber 44 = .ok (.bipush 57, 2) := by decide +kernel
theorem dX8_readNumber_46 : decode cX8_readNumber 46 = .ok (.invokestatic 33, 3) := by decide +kernel
theorem dX8_readNumber_49 : decode cX8_readNumber 49 = .ok (.ifCond .eq 29, 3) := by decide +kernel
theorem dX8_readNumber_52 : decode cX8_readNumber 52 = .ok (.bipush 10, 2) := by decide +kernel
theorem dX8_readNumber_54 : decode cX8_readNumber 54 = .ok (.iload_n 3, 1) := by decide +kernel
theorem dX8_readNumber_55 : decode cX8_readNumber 55 = .ok (.imul, 1) := by decide +kernel
theorem dX8_readNumber_56 : decode cX8_readNumber 56 = .ok (.aload_n 0, 1) := by decide +kernel
theorem dX8_readNumber_57 : decode cX8_readNumber 57 = .ok (.invokevirtual 125, 3) := by decide +kernel
theorem dX8_readNumber_60 : decode cX8_readNumber 60 = .ok (.iadd, 1) := by decide +kernel
theorem dX8_readNumber_61 : decode cX8_readNumber 61 = .ok (.bipush 48, 2) := by decide +kernel
theorem dX8_readNumber_63 : decode cX8_readNumber 63 = .ok (.isub, 1) := by decide +kernel
theorem dX8_readNumber_64 : decode cX8_readNumber 64 = .ok (.istore_n 3, 1) := by decide +kernel
theorem dX8_readNumber_65 : decode cX8_readNumber 65 = .ok (.aload_n 0, 1) := by decide +kernel
theorem dX8_readNumber_66 : decode cX8_readNumber 66 = .ok (.dup, 1) := by decide +kernel
theorem dX8_readNumber_67 : decode cX8_readNumber 67 = .ok (.getfield 122, 3) := by decide +kernel
theorem dX8_readNumber_70 : decode cX8_readNumber 70 = .ok (.iconst 1, 1) := by decide +kernel
theorem dX8_readNumber_71 : decode cX8_readNumber 71 = .ok (.iadd, 1) := by decide +kernel
theorem dX8_readNumber_72 : decode cX8_readNumber 72 = .ok (.putfield 122, 3) := by decide +kernel
theorem dX8_readNumber_75 : decode cX8_readNumber 75 = .ok (.goto (-47), 3) := by decide +kernel
theorem dX8_readNumber_78 : decode cX8_readNumber 78 = .ok (.aload_n 0, 1) := by decide +kernel
theorem dX8_readNumber_79 : decode cX8_readNumber 79 = .ok (.getfield 22, 3) := by decide +kernel
theorem dX8_readNumber_82 : decode cX8_readNumber 82 = .ok (.iload_n 1, 1) := by decide +kernel
theorem dX8_readNumber_83 : decode cX8_readNumber 83 = .ok (.iload_n 3, 1) := by decide +kernel
theorem dX8_readNumber_84 : decode cX8_readNumber 84 = .ok (.iastore, 1) := by decide +kernel
theorem dX8_readNumber_85 : decode cX8_readNumber 85 = .ok (.aload_n 0, 1) := by decide +kernel
theorem dX8_readNumber_86 : decode cX8_readNumber 86 = .ok (.getfield 122, 3) := by decide +kernel
theorem dX8_readNumber_89 : decode cX8_readNumber 89 = .ok (.iload_n 2, 1) := by decide +kernel
theorem dX8_readNumber_90 : decode cX8_readNumber 90 = .ok (.if_icmp .le 7, 3) := by decide +kernel
theorem dX8_readNumber_93 : decode cX8_readNumber 93 = .ok (.iconst 1, 1) := by decide +kernel
theorem dX8_readNumber_94 : decode cX8_readNumber 94 = .ok (.goto 4, 3) := by decide +kernel
theorem dX8_readNumber_97 : decode cX8_readNumber 97 = .ok (.iconst 0, 1) := by decide +kernel
theorem dX8_readNumber_98 : decode cX8_readNumber 98 = .ok (.ireturn, 1) := by decide +kernel
set_option maxRecDepth 20000 in
theorem ggX8_isRanged_X8_in : GoodIn wsX8_isRanged wsX8_in := goodIn_r _ [4] (by decide +kernel) (by decide +kernel)
set_option maxRecDepth 20000 in
theorem gX8_isRanged_X8_in : GoodIn wsX8_isRanged (va_wsS RX8 33 yX8_in wsX8_in) := goodIn_app (goodIn_of _ (by decide +kernel)) ggX8_isRanged_X8_in
set_option maxRecDepth 20000 in
theorem ggX8_isRanged_X8_isDensity : GoodIn wsX8_isRanged wsX8_isDensity := goodIn_r _ [7, 1, 2, 3, 4] (by decide +kernel) (by decide +kernel)
set_option maxRecDepth 20000 in
theorem gX8_isRanged_X8_isDensity : GoodIn wsX8_isRanged (va_wsS RX8 45 yX8_isDensity wsX8_isDensity) := goodIn_app (goodIn_of _ (by decide +kernel)) ggX8_isRanged_X8_isDensity
theorem dX8_isRanged_0 : decode cX8_isRanged 0 = .ok (.iload_n 1, 1) := by decide +kernel
theorem dX8_isRanged_1 : decode cX8_isRanged 1 = .ok (.lookupswitch 41 #[(0, 27), (1, 36)], 27) := by decide +kernel
theorem dX8_isRanged_28 : decode cX8_isRanged 28 = .ok (.iload_n 2, 1) := by decide +kernel
theorem dX8_isRanged_29 : decode cX8_isRanged 29 = .ok (.iconst 1, 1) := by decide +kernel
theorem dX8_isRanged_30 : decode cX8_isRanged 30 = .ok (.sipush 300, 3) := by decide +kernel
theorem dX8_isRanged_33 : decode cX8_isRanged 33 = .ok (.invokestatic 33, 3) := by decide +kernel
theorem dX8_isRanged_36 : decode cX8_isRanged 36 = .ok (.ireturn, 1) := by decide +kernel
theorem dX8_isRanged_37 : decode cX8_isRanged 37 = .ok (.iload_n 2, 1) := by decide +kernel
theorem dX8_isRanged_38 : decode cX8_isRanged 38 = .ok (.invokestatic 45, 3) := by decide +kernel
theorem dX8_isRanged_41 : decode cX8_isRanged 41 = .ok (.ireturn, 1) := by decide +kernel
theorem dX8_isRanged_42 : decode cX8_isRanged 42 = .ok (.iload_n 2, 1) := by decide +kernel
theorem dX8_isRanged_43 : decode cX8_isRanged 43 = .ok (.iload_n 0, 1) := by decide +kernel
theorem dX8_isRanged_44 : decode cX8_isRanged 44 = .ok (.ifCond .ne 7, 3) := by decide +kernel
theorem dX8_isRanged_47 : decode cX8_isRanged 47 = .ok (.iconst 0, 1) := by decide +kernel
theorem dX8_isRanged_48 : decode cX8_isRanged 48 = .ok (.goto 4, 3) := by decide +kernel
theorem dX8_isRanged_51 : decode cX8_isRanged 51 = .ok (.iconst 1, 1) := by decide +kernel
theorem dX8_isRanged_52 : decode cX8_isRanged 52 = .ok (.iload_n 0, 1) := by decide +kernel
theorem dX8_isRanged_53 : decode cX8_isRanged 53 = .ok (.ifCond .ne 8, 3) := by decide +kernel
theorem dX8_isRanged_56 : decode cX8_isRanged 56 = .ok (.bipush 50, 2) := by decide +kernel
theorem dX8_isRanged_58 : decode cX8_isRanged 58 = .ok (.goto 5, 3) := by decide +kernel
theorem dX8_isRanged_61 : decode cX8_isRanged 61 = .ok (.bipush 100, 2) := by decide +kernel
theorem dX8_isRanged_63 : decode cX8_isRanged 63 = .ok (.invokestatic 33, 3) := by decide +kernel
theorem dX8_isRanged_66 : decode cX8_isRanged 66 = .ok (.ireturn, 1) := by decide +kernel
theorem dX8_fails_0 : decode cX8_fails 0 = .ok (.aload_n 0, 1) := by decide +kernel
theorem dX8_fails_1 : decode cX8_fails 1 = .ok (.iload_n 1, 1) := by decide +kernel
theorem dX8_fails_2 : decode cX8_fails 2 = .ok (.putfield 140, 3) := by decide +kernel
theorem dX8_fails_5 : decode cX8_fails 5 = .ok (.aload_n 0, 1) := by decide +kernel
theorem dX8_fails_6 : decode cX8_fails 6 = .ok (.iload_n 2, 1) := by decide +kernel
theorem dX8_fails_7 : decode cX8_fails 7 = .ok (.putfield 143, 3) := by decide +kernel
theorem dX8_fails_10 : decode cX8_fails 10 = .ok (.bipush (-4), 2) := by decide +kernel
theorem dX8_fails_12 : decode cX8_fails 12 = .ok (.ireturn, 1) := by decide +kernel
set_option maxRecDepth 20000 in
theorem ggX8_readSegment_X8_readKind : GoodIn wsX8_readSegment wsX8_readKind := goodIn_r _ [8, 9, 10, 11, 1, 12, 13, 14, 15, 16, 17, 7, 18, 19, 20, 21, 22, 23, 40, 41, 42, 43, 44, 45, 46, 47, 48, 49, 50] (by decide +kernel) (by decide +kernel)
set_option maxRecDepth 20000 in
theorem gX8_readSegment_X8_readKind : GoodIn wsX8_readSegment (wsV RX8 149 RX8 yX8_readKind wsX8_readKind) := goodIn_app (goodIn_of _ (by decide +kernel)) ggX8_readSegment_X8_readKind
set_option maxRecDepth 20000 in
theorem ggX8_readSegment_X8_fails : GoodIn wsX8_readSegment wsX8_fails := goodIn_r _ [27, 28, 29, 40, 41, 42, 43, 44, 45, 46, 47, 48, 49, 50] (by decide +kernel) (by decide +kernel)
set_option maxRecDepth 20000 in
theorem gX8_readSegment_X8_fails : GoodIn wsX8_readSegment (wsV RX8 152 RX8 yX8_fails wsX8_fails) := goodIn_app (goodIn_of _ (by decide +kernel)) ggX8_readSegment_X8_fails
set_option maxRecDepth 20000 in
theorem ggX8_readSegment_X8_readNumber : GoodIn wsX8_readSegment wsX8_readNumber := goodIn_r _ [33, 1, 3, 15, 16, 17, 7, 18, 19, 20, 21, 22, 23, 40, 41, 42, 43, 44, 45, 46, 47, 48, 49, 50] (by decide +kernel) (by decide +kernel)
set_option maxRecDepth 20000 in
theorem gX8_readSegment_X8_readNumber : GoodIn wsX8_readSegment (wsV RX8 155 RX8 yX8_readNumber wsX8_readNumber) := goodIn_app (goodIn_of _ (by decide +kernel)) ggX8_readSegment_X8_readNumber
set_option maxRecDepth 20000 in
theorem ggX8_readSegment_X8_isRanged : GoodIn wsX8_readSegment wsX8_isRanged := goodIn_r _ [36, 21, 22, 7, 23, 37, 38, 39] (by decide +kernel) (by decide +kernel)
set_option maxRecDepth 20000 in
theorem gX8_readSegment_X8_isRanged : GoodIn wsX8_readSegment (va_wsS RX8 158 yX8_isRanged wsX8_isRanged) := goodIn_app (goodIn_of _ (by decide +kernel)) ggX8_readSegment_X8_isRanged
set_option maxRecDepth 20000 in
theorem ggX8_readSegment_X8_here : GoodIn wsX8_readSegment wsX8_here := goodIn_r _ [18, 1, 19, 20, 40, 41, 42, 43, 44, 45, 46, 47, 48, 49, 50] (by decide +kernel) (by decide +kernel)
set_option maxRecDepth 20000 in
theorem gX8_readSegment_X8_here : GoodIn wsX8_readSegment (wsV RX8 125 RX8 yX8_here wsX8_here) := goodIn_app (goodIn_of _ (by decide +kernel)) ggX8_readSegment_X8_here
theorem dX8_readSegment_0 : decode cX8_readSegment 0 = .ok (.aload_n 0, 1) := by decide +kernel
theorem dX8_readSegment_1 : decode cX8_readSegment 1 = .ok (.aload_n 0, 1) := by decide +kernel
theorem dX8_readSegment_2 : decode cX8_readSegment 2 = .ok (.getfield 122, 3) := by decide +kernel
theorem dX8_readSegment_5 : decode cX8_readSegment 5 = .ok (.putfield 146, 3) := by decide +kernel
theorem dX8_readSegment_8 : decode cX8_readSegment 8 = .ok (.aload_n 0, 1) := by decide +kernel
theorem dX8_readSegment_9 : decode cX8_readSegment 9 = .ok (.invokevirtual 149, 3) := by decide +kernel
theorem dX8_readSegment_12 : decode cX8_readSegment 12 = .ok (.istore_n 2, 1) := by decide +kernel
theorem dX8_readSegment_13 : decode cX8_readSegment 13 = .ok (.iload_n 2, 1) := by decide +kernel
theorem dX8_readSegment_14 : decode cX8_readSegment 14 = .ok (.bipush (-4), 2) := by decide +kernel
theorem dX8_readSegment_16 : decode cX8_readSegment 16 = .ok (.if_icmp .ne 10, 3) := by decide +kernel
theorem dX8_readSegment_19 : decode cX8_readSegment 19 = .ok (.aload_n 0, 1) := by decide +kernel
theorem dX8_readSegment_20 : decode cX8_readSegment 20 = .ok (.iconst 1, 1) := by decide +kernel
theorem dX8_readSegment_21 : decode cX8_readSegment 21 = .ok (.iconst 0, 1) := by decide +kernel
theorem dX8_readSegment_22 : decode cX8_readSegment 22 = .ok (.invokevirtual 152, 3) := by decide +kernel
theorem dX8_readSegment_25 : decode cX8_readSegment 25 = .ok (.ireturn, 1) := by decide +kernel
theorem dX8_readSegment_26 : decode cX8_readSegment 26 = .ok (.iload_n 2, 1) := by decide +kernel
theorem dX8_readSegment_27 : decode cX8_readSegment 27 = .ok (.iconst 1, 1) := by decide +kernel
theorem dX8_readSegment_28 : decode cX8_readSegment 28 = .ok (.if_icmp .ne 7, 3) := by decide +kernel
theorem dX8_readSegment_31 : decode cX8_readSegment 31 = .ok (.iconst 1, 1) := by decide +kernel
theorem dX8_readSegment_32 : decode cX8_readSegment 32 = .ok (.goto 4, 3) := by decide +kernel
theorem dX8_readSegment_35 : decode cX8_readSegment 35 = .ok (.iconst 3, 1) := by decide +kernel
theorem dX8_readSegment_36 : decode cX8_readSegment 36 = .ok (.istore_n 3, 1) := by decide +kernel
theorem dX8_readSegment_37 : decode cX8_readSegment 37 = .ok (.aload_n 0, 1) := by decide +kernel
theorem dX8_readSegment_38 : decode cX8_readSegment 38 = .ok (.getfield 22, 3) := by decide +kernel
theorem dX8_readSegment_41 : decode cX8_readSegment 41 = .ok (.iconst 1, 1) := by decide +kernel
theorem dX8_readSegment_42 : decode cX8_readSegment 42 = .ok (.iconst 0, 1) := by decide +kernel
theorem dX8_readSegment_43 : decode cX8_readSegment 43 = .ok (.iastore, 1) := by decide +kernel
theorem dX8_readSegment_44 : decode cX8_readSegment 44 = .ok (.aload_n 0, 1) := by decide +kernel
theorem dX8_readSegment_45 : decode cX8_readSegment 45 = .ok (.getfield 22, 3) := by decide +kernel
theorem dX8_readSegment_48 : decode cX8_readSegment 48 = .ok (.iconst 2, 1) := by decide +kernel
theorem dX8_readSegment_49 : decode cX8_readSegment 49 = .ok (.iconst 0, 1) := by decide +kernel
theorem dX8_readSegment_50 : decode cX8_readSegment 50 = .ok (.iastore, 1) := by decide +kernel
theorem dX8_readSegment_51 : decode cX8_readSegment 51 = .ok (.iconst 0, 1) := by decide +kernel
theorem dX8_readSegment_52 : decode cX8_readSegment 52 = .ok (.istore 4, 2) := by decide +kernel
theorem dX8_readSegment_54 : decode cX8_readSegment 54 = .ok (.iload 4, 2) := by decide +kernel
theorem dX8_readSegment_56 : decode cX8_readSegment 56 = .ok (.iload_n 3, 1) := by decide +kernel
theorem dX8_readSegment_57 : decode cX8_readSegment 57 = .ok (.if_icmp .ge 28, 3) := by decide +kernel
theorem dX8_readSegment_60 : decode cX8_readSegment 60 = .ok (.aload_n 0, 1) := by decide +kernel
theorem dX8_readSegment_61 : decode cX8_readSegment 61 = .ok (.iload 4, 2) := by decide +kernel
theorem dX8_readSegment_63 : decode cX8_readSegment 63 = .ok (.invokevirtual 155, 3) := by decide +kernel
theorem dX8_readSegment_66 : decode cX8_readSegment 66 = .ok (.ifCond .ne 13, 3) := by decide +kernel
theorem dX8_readSegment_69 : decode cX8_readSegment 69 = .ok (.aload_n 0, 1) := by decide +kernel
theorem dX8_readSegment_70 : decode cX8_readSegment 70 = .ok (.iconst 2, 1) := by decide +kernel
theorem dX8_readSegment_71 : decode cX8_readSegment 71 = .ok (.iload 4, 2) := by decide +kernel
theorem dX8_readSegment_73 : decode cX8_readSegment 73 = .ok (.iconst 1, 1) := by decide +kernel
theorem dX8_readSegment_74 : decode cX8_readSegment 74 = .ok (.iadd, 1) := by decide +kernel
theorem dX8_readSegment_75 : decode cX8_readSegment 75 = .ok (.invokevirtual 152, 3) := by decide +kernel
theorem dX8_readSegment_78 : decode cX8_readSegment 78 = .ok (.ireturn, 1) := by decide +kernel
theorem dX8_readSegment_79 : decode cX8_readSegment 79 = .ok (.iinc 4 1, 3) := by decide +kernel
theorem dX8_readSegment_82 : decode cX8_readSegment 82 = .ok (.goto (-28), 3) := by decide +kernel
theorem dX8_readSegment_85 : decode cX8_readSegment 85 = .ok (.iconst 0, 1) := by decide +kernel
theorem dX8_readSegment_86 : decode cX8_readSegment 86 = .ok (.istore 4, 2) := by decide +kernel
theorem dX8_readSegment_88 : decode cX8_readSegment 88 = .ok (.iload 4, 2) := by decide +kernel
theorem dX8_readSegment_90 : decode cX8_readSegment 90 = .ok (.iload_n 3, 1) := by decide +kernel
theorem dX8_readSegment_91 : decode cX8_readSegment 91 = .ok (.if_icmp .ge 35, 3) := by decide +kernel
theorem dX8_readSegment_94 : decode cX8_readSegment 94 = .ok (.iload_n 2, 1) := by decide +kernel
theorem dX8_readSegment_95 : decode cX8_readSegment 95 = .ok (.iload 4, 2) := by decide +kernel
theorem dX8_readSegment_97 : decode cX8_readSegment 97 = .ok (.aload_n 0, 1) := by decide +kernel
theorem dX8_readSegment_98 : decode cX8_readSegment 98 = .ok (.getfield 22, 3) := by decide +kernel
theorem dX8_readSegment_101 : decode cX8_readSegment 101 = .ok (.iload 4, 2) := by decide +kernel
theorem dX8_readSegment_103 : decode cX8_readSegment 103 = .ok (.iaload, 1) := by decide +kernel
theorem dX8_readSegment_104 : decode cX8_readSegment 104 = .ok (.invokestatic 158, 3) := by decide +kernel
theorem dX8_readSegment_107 : decode cX8_readSegment 107 = .ok (.ifCond .ne 13, 3) := by decide +kernel
theorem dX8_readSegment_110 : decode cX8_readSegment 110 = .ok (.aload_n 0, 1) := by decide +kernel
theorem dX8_readSegment_111 : decode cX8_readSegment 111 = .ok (.iconst 3, 1) := by decide +kernel
theorem dX8_readSegment_112 : decode cX8_readSegment 112 = .ok (.iload 4, 2) := by decide +kernel
theorem dX8_readSegment_114 : decode cX8_readSegment 114 = .ok (.iconst 1, 1) := by decide +kernel
theorem dX8_readSegment_115 : decode cX8_readSegment 115 = .ok (.iadd, 1) := by decide +kernel
theorem dX8_readSegment_116 : decode cX8_readSegment 116 = .ok (.invokevirtual 152, 3) := by decide +kernel
theorem dX8_readSegment_119 : decode cX8_readSegment 119 = .ok (.ireturn, 1) := by decide +kernel
theorem dX8_readSegment_120 : decode cX8_readSegment 120 = .ok (.iinc 4 1, 3) := by decide +kernel
theorem dX8_readSegment_123 : decode cX8_readSegment 123 = .ok (.goto (-35), 3) := by decide +kernel
theorem dX8_readSegment_126 : decode cX8_readSegment 126 = .ok (.iload_n 1, 1) := by decide +kernel
theorem dX8_readSegment_127 : decode cX8_readSegment 127 = .ok (.bipush 20, 2) := by decide +kernel
theorem dX8_readSegment_129 : decode cX8_readSegment 129 = .ok (.if_icmp .lt 10, 3) := by decide +kernel
theorem dX8_readSegment_132 : decode cX8_readSegment 132 = .ok (.aload_n 0, 1) := by decide +kernel
theorem dX8_readSegment_133 : decode cX8_readSegment 133 = .ok (.iconst 4, 1) := by decide +kernel
theorem dX8_readSegment_134 : decode cX8_readSegment 134 = .ok (.iconst 0, 1) := by decide +kernel
theorem dX8_readSegment_135 : decode cX8_readSegment 135 = .ok (.invokevirtual 152, 3) := by decide +kernel
theorem dX8_readSegment_138 : decode cX8_readSegment 138 = .ok (.ireturn, 1) := by decide +kernel
theorem dX8_readSegment_139 : decode cX8_readSegment 139 = .ok (.aload_n 0, 1) := by decide +kernel
theorem dX8_readSegment_140 : decode cX8_readSegment 140 = .ok (.invokevirtual 125, 3) := by decide +kernel
theorem dX8_readSegment_143 : decode cX8_readSegment 143 = .ok (.bipush 59, 2) := by decide +kernel
theorem dX8_readSegment_145 : decode cX8_readSegment 145 = .ok (.if_icmp .eq 10, 3) := by decide +kernel
theorem dX8_readSegment_148 : decode cX8_readSegment 148 = .ok (.aload_n 0, 1) := by decide +kernel
theorem dX8_readSegment_149 : decode cX8_readSegment 149 = .ok (.iconst 5, 1) := by decide +kernel
theorem dX8_readSegment_150 : decode cX8_readSegment 150 = .ok (.iconst 0, 1) := by decide +kernel
theorem dX8_readSegment_151 : decode cX8_readSegment 151 = .ok (.invokevirtual 152, 3) := by decide +kernel
theorem dX8_readSegment_154 : decode cX8_readSegment 154 = .ok (.ireturn, 1) := by decide +kernel
theorem dX8_readSegment_155 : decode cX8_readSegment 155 = .ok (.aload_n 0, 1) := by decide +kernel
theorem dX8_readSegment_156 : decode cX8_readSegment 156 = .ok (.dup, 1) := by decide +kernel
theorem dX8_readSegment_157 : decode cX8_readSegment 157 = .ok (.getfield 122, 3) := by decide +kernel
theorem dX8_readSegment_160 : decode cX8_readSegment 160 = .ok (.iconst 1, 1) := by decide +kernel
theorem dX8_readSegment_161 : decode cX8_readSegment 161 = .ok (.iadd, 1) := by decide +kernel
theorem dX8_readSegment_162 : decode cX8_readSegment 162 = .ok (.putfield 122, 3) := by decide +kernel
theorem dX8_readSegment_165 : decode cX8_readSegment 165 = .ok (.iload_n 2, 1) := by decide +kernel
theorem dX8_readSegment_166 : decode cX8_readSegment 166 = .ok (.ireturn, 1) := by decide +kernel
set_option maxRecDepth 20000 in
theorem ggX8_reads_X8_readSegment : GoodIn wsX8_reads wsX8_readSegment := goodIn_r _ [8, 1, 9, 10, 11, 12, 13, 7, 14, 15, 16, 17, 18, 19, 20, 21, 22, 23, 24, 2, 25, 26, 27, 28, 29, 30, 31, 32, 33, 34, 35, 36, 37, 38, 39, 40, 41, 42, 43, 44, 45, 46, 47, 48, 49, 50, 51, 52, 53, 54, 55] (by decide +kernel) (by decide +kernel)
set_option maxRecDepth 20000 in
theorem gX8_reads_X8_readSegment : GoodIn wsX8_reads (wsV RX8 161 RX8 yX8_readSegment wsX8_readSegment) := goodIn_app (goodIn_of _ (by decide +kernel)) ggX8_reads_X8_readSegment
theorem dX8_reads_0 : decode cX8_reads 0 = .ok (.aload_n 0, 1) := by decide +kernel
theorem dX8_reads_1 : decode cX8_reads 1 = .ok (.iconst 0, 1) := by decide +kernel
theorem dX8_reads_2 : decode cX8_reads 2 = .ok (.putfield 122, 3) := by decide +kernel
theorem dX8_reads_5 : decode cX8_reads 5 = .ok (.iconst 0, 1) := by decide +kernel
theorem dX8_reads_6 : decode cX8_reads 6 = .ok (.istore_n 1, 1) := by decide +kernel
theorem dX8_reads_7 : decode cX8_reads 7 = .ok (.aload_n 0, 1) := by decide +kernel
theorem dX8_reads_8 : decode cX8_reads 8 = .ok (.getfield 122, 3) := by decide +kernel
theorem dX8_reads_11 : decode cX8_reads 11 = .ok (.aload_n 0, 1) := by decide +kernel
theorem dX8_reads_12 : decode cX8_reads 12 = .ok (.getfield 113, 3) := by decide +kernel
theorem dX8_reads_15 : decode cX8_reads 15 = .ok (.if_icmp .ge 32, 3) := by decide +kernel
theorem dX8_reads_18 : decode cX8_reads 18 = .ok (.aload_n 0, 1) := by decide +kernel
theorem dX8_reads_19 : decode cX8_reads 19 = .ok (.aload_n 0, 1) := by decide +kernel
theorem dX8_reads_20 : decode cX8_reads 20 = .ok (.getfield 7, 3) := by decide +kernel
theorem dX8_reads_23 : decode cX8_reads 23 = .ok (.bipush 8, 2) := by decide +kernel
theorem dX8_reads_25 : decode cX8_reads 25 = .ok (.iaload, 1) := by decide +kernel
theorem dX8_reads_26 : decode cX8_reads 26 = .ok (.iload_n 1, 1) := by decide +kernel
theorem dX8_reads_27 : decode cX8_reads 27 = .ok (.iadd, 1) := by decide +kernel
theorem dX8_reads_28 : decode cX8_reads 28 = .ok (.invokevirtual 161, 3) := by decide +kernel
theorem dX8_reads_31 : decode cX8_reads 31 = .ok (.istore_n 2, 1) := by decide +kernel
theorem dX8_reads_32 : decode cX8_reads 32 = .ok (.iload_n 2, 1) := by decide +kernel
theorem dX8_reads_33 : decode cX8_reads 33 = .ok (.bipush (-4), 2) := by decide +kernel
theorem dX8_reads_35 : decode cX8_reads 35 = .ok (.if_icmp .ne 6, 3) := by decide +kernel
theorem dX8_reads_38 : decode cX8_reads 38 = .ok (.bipush (-4), 2) := by decide +kernel
theorem dX8_reads_40 : decode cX8_reads 40 = .ok (.ireturn, 1) := by decide +kernel
theorem dX8_reads_41 : decode cX8_reads 41 = .ok (.iinc 1 1, 3) := by decide +kernel
theorem dX8_reads_44 : decode cX8_reads 44 = .ok (.goto (-37), 3) := by decide +kernel
theorem dX8_reads_47 : decode cX8_reads 47 = .ok (.iload_n 1, 1) := by decide +kernel
theorem dX8_reads_48 : decode cX8_reads 48 = .ok (.ireturn, 1) := by decide +kernel
set_option maxRecDepth 20000 in
theorem ggX8_fault_X8_in : GoodIn wsX8_fault wsX8_in := goodIn_r _ [7] (by decide +kernel) (by decide +kernel)
set_option maxRecDepth 20000 in
theorem gX8_fault_X8_in : GoodIn wsX8_fault (va_wsS RX8 33 yX8_in wsX8_in) := goodIn_app (goodIn_of _ (by decide +kernel)) ggX8_fault_X8_in
set_option maxRecDepth 20000 in
theorem ggX8_fault_X8_reads : GoodIn wsX8_fault wsX8_reads := goodIn_r _ [11, 12, 13, 14, 15, 16, 17, 6, 18, 1, 19, 20, 21, 22, 23, 24, 25, 26, 27, 28, 29, 30, 31, 32, 33, 34, 4, 5, 7, 35, 36, 37, 38, 2, 3, 39, 40, 41, 42, 43, 44, 45, 46, 47, 48, 49, 50, 51, 52, 53, 54, 55, 56, 57, 58, 59] (by decide +kernel) (by decide +kernel)
set_option maxRecDepth 20000 in
theorem gX8_fault_X8_reads : GoodIn wsX8_fault (wsV RX8 164 RX8 yX8_reads wsX8_reads) := goodIn_app (goodIn_of _ (by decide +kernel)) ggX8_fault_X8_reads
theorem dX8_fault_0 : decode cX8_fault 0 = .ok (.iload_n 1, 1) := by decide +kernel
theorem dX8_fault_1 : decode cX8_fault 1 = .ok (.iconst 0, 1) := by decide +kernel
theorem dX8_fault_2 : decode cX8_fault 2 = .ok (.iconst 2, 1) := by decide +kernel
theorem dX8_fault_3 : decode cX8_fault 3 = .ok (.invokestatic 33, 3) := by decide +kernel
theorem dX8_fault_6 : decode cX8_fault 6 = .ok (.ifCond .ne 5, 3) := by decide +kernel
theorem dX8_fault_9 : decode cX8_fault 9 = .ok (.iconst (-1), 1) := by decide +kernel
theorem dX8_fault_10 : decode cX8_fault 10 = .ok (.ireturn, 1) := by decide +kernel
theorem dX8_fault_11 : decode cX8_fault 11 = .ok (.aload_n 0, 1) := by decide +kernel
theorem dX8_fault_12 : decode cX8_fault 12 = .ok (.invokevirtual 164, 3) := by decide +kernel
theorem dX8_fault_15 : decode cX8_fault 15 = .ok (.bipush (-4), 2) := by decide +kernel
theorem dX8_fault_17 : decode cX8_fault 17 = .ok (.if_icmp .eq 6, 3) := by decide +kernel
theorem dX8_fault_20 : decode cX8_fault 20 = .ok (.bipush (-4), 2) := by decide +kernel
theorem dX8_fault_22 : decode cX8_fault 22 = .ok (.ireturn, 1) := by decide +kernel
theorem dX8_fault_23 : decode cX8_fault 23 = .ok (.iload_n 1, 1) := by decide +kernel
theorem dX8_fault_24 : decode cX8_fault 24 = .ok (.ifCond .ne 10, 3) := by decide +kernel
theorem dX8_fault_27 : decode cX8_fault 27 = .ok (.aload_n 0, 1) := by decide +kernel
theorem dX8_fault_28 : decode cX8_fault 28 = .ok (.getfield 146, 3) := by decide +kernel
theorem dX8_fault_31 : decode cX8_fault 31 = .ok (.goto 19, 3) := by decide +kernel
theorem dX8_fault_34 : decode cX8_fault 34 = .ok (.iload_n 1, 1) := by decide +kernel
theorem dX8_fault_35 : decode cX8_fault 35 = .ok (.iconst 1, 1) := by decide +kernel
theorem dX8_fault_36 : decode cX8_fault 36 = .ok (.if_icmp .ne 10, 3) := by decide +kernel
theorem dX8_fault_39 : decode cX8_fault 39 = .ok (.aload_n 0, 1) := by decide +kernel
theorem dX8_fault_40 : decode cX8_fault 40 = .ok (.getfield 140, 3) := by decide +kernel
theorem dX8_fault_43 : decode cX8_fault 43 = .ok (.goto 7, 3) := by decide +kernel
theorem dX8_fault_46 : decode cX8_fault 46 = .ok (.aload_n 0, 1) := by decide +kernel
theorem dX8_fault_47 : decode cX8_fault 47 = .ok (.getfield 143, 3) := by decide +kernel
theorem dX8_fault_50 : decode cX8_fault 50 = .ok (.ireturn, 1) := by decide +kernel
set_option maxRecDepth 20000 in
theorem ggX8_lay_X8_reads : GoodIn wsX8_lay wsX8_reads := goodIn_r _ [8, 1, 9, 2, 10, 11, 12, 7, 13, 14, 3, 15, 16, 17, 18, 19, 20, 21, 22, 23, 24, 25, 26, 27, 28, 29, 30, 31, 32, 33, 34, 35, 36, 37, 38, 39, 40, 41, 42, 43, 44, 45, 46, 47, 48, 62, 63, 64, 65, 66, 67, 68, 69, 70, 71, 72] (by decide +kernel) (by decide +kernel)
set_option maxRecDepth 20000 in
theorem gX8_lay_X8_reads : GoodIn wsX8_lay (wsV RX8 164 RX8 yX8_reads wsX8_reads) := goodIn_app (goodIn_of _ (by decide +kernel)) ggX8_lay_X8_reads
set_option maxRecDepth 20000 in
theorem ggX8_lay_X8_record : GoodIn wsX8_lay wsX8_record := goodIn_r _ [52, 53, 54, 2, 55, 56, 7, 57, 62, 63, 64, 65, 66, 67, 68, 69, 70, 71, 72] (by decide +kernel) (by decide +kernel)
set_option maxRecDepth 20000 in
theorem gX8_lay_X8_record : GoodIn wsX8_lay (wsV RX8 52 RX8 yX8_record wsX8_record) := goodIn_app (goodIn_of _ (by decide +kernel)) ggX8_lay_X8_record
set_option maxRecDepth 20000 in
theorem ggX8_lay_X8_readSegment : GoodIn wsX8_lay wsX8_readSegment := goodIn_r _ [13, 1, 14, 3, 15, 16, 17, 7, 18, 19, 20, 21, 22, 23, 24, 25, 26, 27, 28, 9, 29, 30, 31, 32, 33, 34, 35, 36, 37, 38, 39, 40, 41, 42, 43, 44, 45, 46, 47, 48, 62, 63, 64, 65, 66, 67, 68, 69, 70, 71, 72] (by decide +kernel) (by decide +kernel)
set_option maxRecDepth 20000 in
theorem gX8_lay_X8_readSegment : GoodIn wsX8_lay (wsV RX8 161 RX8 yX8_readSegment wsX8_readSegment) := goodIn_app (goodIn_of _ (by decide +kernel)) ggX8_lay_X8_readSegment
set_option maxRecDepth 20000 in
theorem ggX8_lay_X8_puts : GoodIn wsX8_lay wsX8_puts := goodIn_r _ [61, 2, 62, 63, 64, 65, 66, 67, 68, 69, 70, 71, 72] (by decide +kernel) (by decide +kernel)
set_option maxRecDepth 20000 in
theorem gX8_lay_X8_puts : GoodIn wsX8_lay (wsV RX8 55 RX8 yX8_puts wsX8_puts) := goodIn_app (goodIn_of _ (by decide +kernel)) ggX8_lay_X8_puts
theorem dX8_lay_0 : decode cX8_lay 0 = .ok (.aload_n 0, 1) := by decide +kernel
theorem dX8_lay_1 : decode cX8_lay 1 = .ok (.invokevirtual 164, 3) := by decide +kernel
theorem dX8_lay_4 : decode cX8_lay 4 = .ok (.istore_n 1, 1) := by decide +kernel
theorem dX8_lay_5 : decode cX8_lay 5 = .ok (.iload_n 1, 1) := by decide +kernel
theorem dX8_lay_6 : decode cX8_lay 6 = .ok (.bipush (-4), 2) := by decide +kernel
theorem dX8_lay_8 : decode cX8_lay 8 = .ok (.if_icmp .ne 6, 3) := by decide +kernel
theorem dX8_lay_11 : decode cX8_lay 11 = .ok (.bipush (-2), 2) := by decide +kernel
theorem dX8_lay_13 : decode cX8_lay 13 = .ok (.ireturn, 1) := by decide +kernel
theorem dX8_lay_14 : decode cX8_lay 14 = .ok (.aload_n 0, 1) := by decide +kernel
theorem dX8_lay_15 : decode cX8_lay 15 = .ok (.invokevirtual 52, 3) := by decide +kernel
theorem dX8_lay_18 : decode cX8_lay 18 = .ok (.aload_n 0, 1) := by decide +kernel
theorem dX8_lay_19 : decode cX8_lay 19 = .ok (.iconst 0, 1) := by decide +kernel
theorem dX8_lay_20 : decode cX8_lay 20 = .ok (.putfield 122, 3) := by decide +kernel
theorem dX8_lay_23 : decode cX8_lay 23 = .ok (.iconst 0, 1) := by decide +kernel
theorem dX8_lay_24 : decode cX8_lay 24 = .ok (.istore_n 2, 1) := by decide +kernel
theorem dX8_lay_25 : decode cX8_lay 25 = .ok (.iload_n 2, 1) := by decide +kernel
theorem dX8_lay_26 : decode cX8_lay 26 = .ok (.iload_n 1, 1) := by decide +kernel
theorem dX8_lay_27 : decode cX8_lay 27 = .ok (.if_icmp .ge 44, 3) := by decide +kernel
theorem dX8_lay_30 : decode cX8_lay 30 = .ok (.aload_n 0, 1) := by decide +kernel
theorem dX8_lay_31 : decode cX8_lay 31 = .ok (.aload_n 0, 1) := by decide +kernel
theorem dX8_lay_32 : decode cX8_lay 32 = .ok (.getfield 7, 3) := by decide +kernel
theorem dX8_lay_35 : decode cX8_lay 35 = .ok (.bipush 8, 2) := by decide +kernel
theorem dX8_lay_37 : decode cX8_lay 37 = .ok (.iaload, 1) := by decide +kernel
theorem dX8_lay_38 : decode cX8_lay 38 = .ok (.invokevirtual 161, 3) := by decide +kernel
theorem dX8_lay_41 : decode cX8_lay 41 = .ok (.istore_n 3, 1) := by decide +kernel
theorem dX8_lay_42 : decode cX8_lay 42 = .ok (.aload_n 0, 1) := by decide +kernel
theorem dX8_lay_43 : decode cX8_lay 43 = .ok (.iload_n 3, 1) := by decide +kernel
theorem dX8_lay_44 : decode cX8_lay 44 = .ok (.aload_n 0, 1) := by decide +kernel
theorem dX8_lay_45 : decode cX8_lay 45 = .ok (.getfield 22, 3) := by decide +kernel
theorem dX8_lay_48 : decode cX8_lay 48 = .ok (.iconst 0, 1) := by decide +kernel
theorem dX8_lay_49 : decode cX8_lay 49 = .ok (.iaload, 1) := by decide +kernel
theorem dX8_lay_50 : decode cX8_lay 50 = .ok (.aload_n 0, 1) := by decide +kernel
theorem dX8_lay_51 : decode cX8_lay 51 = .ok (.getfield 22, 3) := by decide +kernel
theorem dX8_lay_54 : decode cX8_lay 54 = .ok (.iconst 1, 1) := by decide +kernel
theorem dX8_lay_55 : decode cX8_lay 55 = .ok (.iaload, 1) := by decide +kernel
theorem dX8_lay_56 : decode cX8_lay 56 = .ok (.aload_n 0, 1) := by decide +kernel
theorem dX8_lay_57 : decode cX8_lay 57 = .ok (.getfield 22, 3) := by decide +kernel
theorem dX8_lay_60 : decode cX8_lay 60 = .ok (.iconst 2, 1) := by decide +kernel
theorem dX8_lay_61 : decode cX8_lay 61 = .ok (.iaload, 1) := by decide +kernel
theorem dX8_lay_62 : decode cX8_lay 62 = .ok (.invokevirtual 55, 3) := by decide +kernel
theorem dX8_lay_65 : decode cX8_lay 65 = .ok (.iinc 2 1, 3) := by decide +kernel
theorem dX8_lay_68 : decode cX8_lay 68 = .ok (.goto (-43), 3) := by decide +kernel
theorem dX8_lay_71 : decode cX8_lay 71 = .ok (.iload_n 1, 1) := by decide +kernel
theorem dX8_lay_72 : decode cX8_lay 72 = .ok (.ireturn, 1) := by decide +kernel
theorem dJ9_max_7cf53_0 : decode cJ9_max_7cf53 0 = .ok (.iload_n 0, 1) := by decide +kernel
theorem dJ9_max_7cf53_1 : decode cJ9_max_7cf53 1 = .ok (.iload_n 1, 1) := by decide +kernel
theorem dJ9_max_7cf53_2 : decode cJ9_max_7cf53 2 = .ok (.if_icmp .lt 7, 3) := by decide +kernel
theorem dJ9_max_7cf53_5 : decode cJ9_max_7cf53 5 = .ok (.iload_n 0, 1) := by decide +kernel
theorem dJ9_max_7cf53_6 : decode cJ9_max_7cf53 6 = .ok (.goto 4, 3) := by decide +kernel
theorem dJ9_max_7cf53_9 : decode cJ9_max_7cf53 9 = .ok (.iload_n 1, 1) := by decide +kernel
theorem dJ9_max_7cf53_10 : decode cJ9_max_7cf53 10 = .ok (.ireturn, 1) := by decide +kernel
theorem dJ9_min_7cf53_0 : decode cJ9_min_7cf53 0 = .ok (.iload_n 0, 1) := by decide +kernel
theorem dJ9_min_7cf53_1 : decode cJ9_min_7cf53 1 = .ok (.iload_n 1, 1) := by decide +kernel
theorem dJ9_min_7cf53_2 : decode cJ9_min_7cf53 2 = .ok (.if_icmp .gt 7, 3) := by decide +kernel
theorem dJ9_min_7cf53_5 : decode cJ9_min_7cf53 5 = .ok (.iload_n 0, 1) := by decide +kernel
theorem dJ9_min_7cf53_6 : decode cJ9_min_7cf53 6 = .ok (.goto 4, 3) := by decide +kernel
theorem dJ9_min_7cf53_9 : decode cJ9_min_7cf53 9 = .ok (.iload_n 1, 1) := by decide +kernel
theorem dJ9_min_7cf53_10 : decode cJ9_min_7cf53 10 = .ok (.ireturn, 1) := by decide +kernel
set_option maxRecDepth 20000 in
theorem ggJ0_length_8abf5_J0_coder_7d493 : GoodIn wsJ0_length_8abf5 wsJ0_coder_7d493 := goodIn_r _ [6, 7, 8] (by decide +kernel) (by decide +kernel)
set_option maxRecDepth 20000 in
theorem gJ0_length_8abf5_J0_coder_7d493 : GoodIn wsJ0_length_8abf5 (wsV RJ0 335 RJ0 yJ0_coder_7d493 wsJ0_coder_7d493) := goodIn_app (goodIn_of _ (by decide +kernel)) ggJ0_length_8abf5_J0_coder_7d493
theorem dJ0_length_8abf5_0 : decode cJ0_length_8abf5 0 = .ok (.aload_n 0, 1) := by decide +kernel
theorem dJ0_length_8abf5_1 : decode cJ0_length_8abf5 1 = .ok (.getfield 9, 3) := by decide +kernel
theorem dJ0_length_8abf5_4 : decode cJ0_length_8abf5 4 = .ok (.arraylength, 1) := by decide +kernel
theorem dJ0_length_8abf5_5 : decode cJ0_length_8abf5 5 = .ok (.aload_n 0, 1) := by decide +kernel
theorem dJ0_length_8abf5_6 : decode cJ0_length_8abf5 6 = .ok (.invokevirtual 335, 3) := by decide +kernel
theorem dJ0_length_8abf5_9 : decode cJ0_length_8abf5 9 = .ok (.ishr, 1) := by decide +kernel
theorem dJ0_length_8abf5_10 : decode cJ0_length_8abf5 10 = .ok (.ireturn, 1) := by decide +kernel
set_option maxRecDepth 20000 in
theorem ggJ0_charAt_5068e_J0_isLatin1_aae02 : GoodIn wsJ0_charAt_5068e wsJ0_isLatin1_aae02 := goodIn_r _ [6, 7, 8] (by decide +kernel) (by decide +kernel)
set_option maxRecDepth 20000 in
theorem gJ0_charAt_5068e_J0_isLatin1_aae02 : GoodIn wsJ0_charAt_5068e (wsV RJ0 492 RJ0 yJ0_isLatin1_aae02 wsJ0_isLatin1_aae02) := goodIn_app (goodIn_of _ (by decide +kernel)) ggJ0_charAt_5068e_J0_isLatin1_aae02
set_option maxRecDepth 20000 in
theorem ggJ0_charAt_5068e_J1_charAt_3b067 : GoodIn wsJ0_charAt_5068e wsJ1_charAt_3b067 := goodIn_r _ [12, 13, 14, 5, 15, 16, 17, 18, 19, 20] (by decide +kernel) (by decide +kernel)
set_option maxRecDepth 20000 in
theorem gJ0_charAt_5068e_J1_charAt_3b067 : GoodIn wsJ0_charAt_5068e (va_wsS RJ0 495 yJ1_charAt_3b067 wsJ1_charAt_3b067) := goodIn_app (goodIn_of _ (by decide +kernel)) ggJ0_charAt_5068e_J1_charAt_3b067
set_option maxRecDepth 20000 in
theorem ggJ0_charAt_5068e_J2_charAt_3b067 : GoodIn wsJ0_charAt_5068e wsJ2_charAt_3b067 := goodIn_r _ [24, 25, 26, 23, 27, 28, 29, 30, 31, 14, 5, 15, 16, 17, 18, 19, 20, 32, 33, 34, 35, 36, 37] (by decide +kernel) (by decide +kernel)
set_option maxRecDepth 20000 in
theorem gJ0_charAt_5068e_J2_charAt_3b067 : GoodIn wsJ0_charAt_5068e (va_wsS RJ0 498 yJ2_charAt_3b067 wsJ2_charAt_3b067) := goodIn_app (goodIn_of _ (by decide +kernel)) ggJ0_charAt_5068e_J2_charAt_3b067
theorem dJ0_charAt_5068e_0 : decode cJ0_charAt_5068e 0 = .ok (.aload_n 0, 1) := by decide +kernel
theorem dJ0_charAt_5068e_1 : decode cJ0_charAt_5068e 1 = .ok (.invokevirtual 492, 3) := by decide +kernel
theorem dJ0_charAt_5068e_4 : decode cJ0_charAt_5068e 4 = .ok (.ifCond .eq 12, 3) := by decide +kernel
theorem dJ0_charAt_5068e_7 : decode cJ0_charAt_5068e 7 = .ok (.aload_n 0, 1) := by decide +kernel
theorem dJ0_charAt_5068e_8 : decode cJ0_charAt_5068e 8 = .ok (.getfield 9, 3) := by decide +kernel
theorem dJ0_charAt_5068e_11 : decode cJ0_charAt_5068e 11 = .ok (.iload_n 1, 1) := by decide +kernel
theorem dJ0_charAt_5068e_12 : decode cJ0_charAt_5068e 12 = .ok (.invokestatic 495, 3) := by decide +kernel
theorem dJ0_charAt_5068e_15 : decode cJ0_charAt_5068e 15 = .ok (.ireturn, 1) := by decide +kernel
theorem dJ0_charAt_5068e_16 : decode cJ0_charAt_5068e 16 = .ok (.aload_n 0, 1) := by decide +kernel
theorem dJ0_charAt_5068e_17 : decode cJ0_charAt_5068e 17 = .ok (.getfield 9, 3) := by decide +kernel
theorem dJ0_charAt_5068e_20 : decode cJ0_charAt_5068e 20 = .ok (.iload_n 1, 1) := by decide +kernel
theorem dJ0_charAt_5068e_21 : decode cJ0_charAt_5068e 21 = .ok (.invokestatic 498, 3) := by decide +kernel
theorem dJ0_charAt_5068e_24 : decode cJ0_charAt_5068e 24 = .ok (.ireturn, 1) := by decide +kernel
theorem dJ0_coder_7d493_0 : decode cJ0_coder_7d493 0 = .ok (.getstatic 38, 3) := by decide +kernel
theorem dJ0_coder_7d493_3 : decode cJ0_coder_7d493 3 = .ok (.ifCond .eq 10, 3) := by decide +kernel
theorem dJ0_coder_7d493_6 : decode cJ0_coder_7d493 6 = .ok (.aload_n 0, 1) := by decide +kernel
theorem dJ0_coder_7d493_7 : decode cJ0_coder_7d493 7 = .ok (.getfield 15, 3) := by decide +kernel
theorem dJ0_coder_7d493_10 : decode cJ0_coder_7d493 10 = .ok (.goto 4, 3) := by decide +kernel
theorem dJ0_coder_7d493_13 : decode cJ0_coder_7d493 13 = .ok (.iconst 1, 1) := by decide +kernel
theorem dJ0_coder_7d493_14 : decode cJ0_coder_7d493 14 = .ok (.ireturn, 1) := by decide +kernel
theorem dJ0_isLatin1_aae02_0 : decode cJ0_isLatin1_aae02 0 = .ok (.getstatic 38, 3) := by decide +kernel
theorem dJ0_isLatin1_aae02_3 : decode cJ0_isLatin1_aae02 3 = .ok (.ifCond .eq 14, 3) := by decide +kernel
theorem dJ0_isLatin1_aae02_6 : decode cJ0_isLatin1_aae02 6 = .ok (.aload_n 0, 1) := by decide +kernel
theorem dJ0_isLatin1_aae02_7 : decode cJ0_isLatin1_aae02 7 = .ok (.getfield 15, 3) := by decide +kernel
theorem dJ0_isLatin1_aae02_10 : decode cJ0_isLatin1_aae02 10 = .ok (.ifCond .ne 7, 3) := by decide +kernel
theorem dJ0_isLatin1_aae02_13 : decode cJ0_isLatin1_aae02 13 = .ok (.iconst 1, 1) := by decide +kernel
theorem dJ0_isLatin1_aae02_14 : decode cJ0_isLatin1_aae02 14 = .ok (.goto 4, 3) := by decide +kernel
theorem dJ0_isLatin1_aae02_17 : decode cJ0_isLatin1_aae02 17 = .ok (.iconst 0, 1) := by decide +kernel
theorem dJ0_isLatin1_aae02_18 : decode cJ0_isLatin1_aae02 18 = .ok (.ireturn, 1) := by decide +kernel
set_option maxRecDepth 20000 in
theorem ggJ0_checkIndex_df160_J3_checkIndex_8e157 : GoodIn wsJ0_checkIndex_df160 wsJ3_checkIndex_8e157 := goodIn_r _ [5] (by decide +kernel) (by decide +kernel)
set_option maxRecDepth 20000 in
theorem gJ0_checkIndex_df160_J3_checkIndex_8e157 : GoodIn wsJ0_checkIndex_df160 (va_wsS RJ0 1059 yJ3_checkIndex_8e157 wsJ3_checkIndex_8e157) := goodIn_app (goodIn_of _ (by decide +kernel)) ggJ0_checkIndex_df160_J3_checkIndex_8e157
theorem dJ0_checkIndex_df160_0 : decode cJ0_checkIndex_df160 0 = .ok (.iload_n 0, 1) := by decide +kernel
theorem dJ0_checkIndex_df160_1 : decode cJ0_checkIndex_df160 1 = .ok (.iload_n 1, 1) := by decide +kernel
theorem dJ0_checkIndex_df160_2 : decode cJ0_checkIndex_df160 2 = .ok (.getstatic 1053, 3) := by decide +kernel
theorem dJ0_checkIndex_df160_5 : decode cJ0_checkIndex_df160 5 = .ok (.invokestatic 1059, 3) := by decide +kernel
theorem dJ0_checkIndex_df160_8 : decode cJ0_checkIndex_df160 8 = .ok (.pop, 1) := by decide +kernel
theorem dJ0_checkIndex_df160_9 : decode cJ0_checkIndex_df160 9 = .ok (.return_, 1) := by decide +kernel
set_option maxRecDepth 20000 in
theorem ggJ1_charAt_3b067_J0_checkIndex_df160 : GoodIn wsJ1_charAt_3b067 wsJ0_checkIndex_df160 := goodIn_r _ [4, 5, 6, 7, 8, 9] (by decide +kernel) (by decide +kernel)
set_option maxRecDepth 20000 in
theorem gJ1_charAt_3b067_J0_checkIndex_df160 : GoodIn wsJ1_charAt_3b067 (va_wsS RJ1 9 yJ0_checkIndex_df160 wsJ0_checkIndex_df160) := goodIn_app (goodIn_of _ (by decide +kernel)) ggJ1_charAt_3b067_J0_checkIndex_df160
theorem dJ1_charAt_3b067_0 : decode cJ1_charAt_3b067 0 = .ok (.iload_n 1, 1) := by decide +kernel
theorem dJ1_charAt_3b067_1 : decode cJ1_charAt_3b067 1 = .ok (.aload_n 0, 1) := by decide +kernel
theorem dJ1_charAt_3b067_2 : decode cJ1_charAt_3b067 2 = .ok (.arraylength, 1) := by decide +kernel
theorem dJ1_charAt_3b067_3 : decode cJ1_charAt_3b067 3 = .ok (.invokestatic 9, 3) := by decide +kernel
theorem dJ1_charAt_3b067_6 : decode cJ1_charAt_3b067 6 = .ok (.aload_n 0, 1) := by decide +kernel
theorem dJ1_charAt_3b067_7 : decode cJ1_charAt_3b067 7 = .ok (.iload_n 1, 1) := by decide +kernel
theorem dJ1_charAt_3b067_8 : decode cJ1_charAt_3b067 8 = .ok (.baload, 1) := by decide +kernel
theorem dJ1_charAt_3b067_9 : decode cJ1_charAt_3b067 9 = .ok (.sipush 255, 3) := by decide +kernel
theorem dJ1_charAt_3b067_12 : decode cJ1_charAt_3b067 12 = .ok (.iand, 1) := by decide +kernel
theorem dJ1_charAt_3b067_13 : decode cJ1_charAt_3b067 13 = .ok (.i2c, 1) := by decide +kernel
theorem dJ1_charAt_3b067_14 : decode cJ1_charAt_3b067 14 = .ok (.ireturn, 1) := by decide +kernel
set_option maxRecDepth 20000 in
theorem ggJ2_getChar_3b067_J2_length_9d52b : GoodIn wsJ2_getChar_3b067 wsJ2_length_9d52b := goodIn_r _ [7] (by decide +kernel) (by decide +kernel)
set_option maxRecDepth 20000 in
theorem gJ2_getChar_3b067_J2_length_9d52b : GoodIn wsJ2_getChar_3b067 (va_wsS RJ2 48 yJ2_length_9d52b wsJ2_length_9d52b) := goodIn_app (goodIn_of _ (by decide +kernel)) ggJ2_getChar_3b067_J2_length_9d52b
theorem dJ2_getChar_3b067_0 : decode cJ2_getChar_3b067 0 = .ok (.getstatic 44, 3) := by decide +kernel
theorem dJ2_getChar_3b067_3 : decode cJ2_getChar_3b067 3 = .ok (.ifCond .ne 25, 3) := by decide +kernel
theorem dJ2_getChar_3b067_6 : decode cJ2_getChar_3b067 6 = .ok (.iload_n 1, 1) := by decide +kernel
theorem dJ2_getChar_3b067_7 : decode cJ2_getChar_3b067 7 = .ok (.ifCond .lt 11, 3) := by decide +kernel
theorem dJ2_getChar_3b067_10 : decode cJ2_getChar_3b067 10 = .ok (.iload_n 1, 1) := by decide +kernel
theorem dJ2_getChar_3b067_11 : decode cJ2_getChar_3b067 11 = .ok (.aload_n 0, 1) := by decide +kernel
theorem dJ2_getChar_3b067_12 : decode cJ2_getChar_3b067 12 = .ok (.invokestatic 48, 3) := by decide +kernel
theorem dJ2_getChar_3b067_15 : decode cJ2_getChar_3b067 15 = .ok (.if_icmp .lt 13, 3) := by decide +kernel
theorem dJ2_getChar_3b067_18 : decode cJ2_getChar_3b067 18 = .ok (.new 52, 3) := by decide +kernel
theorem dJ2_getChar_3b067_21 : decode cJ2_getChar_3b067 21 = .ok (.dup, 1) := by decide +kernel
theorem dJ2_getChar_3b067_22 : decode cJ2_getChar_3b067 22 = .ok (.ldc 54, 2) := by decide +kernel
theorem dJ2_getChar_3b067_24 : decode cJ2_getChar_3b067 24 = .ok (.invokespecial 56, 3) := by decide +kernel
theorem dJ2_getChar_3b067_27 : decode cJ2_getChar_3b067 27 = .ok (.athrow, 1) := by decide +kernel
theorem dJ2_getChar_3b067_28 : decode cJ2_getChar_3b067 28 = .ok (.iload_n 1, 1) := by decide +kernel
theorem dJ2_getChar_3b067_29 : decode cJ2_getChar_3b067 29 = .ok (.iconst 1, 1) := by decide +kernel
theorem dJ2_getChar_3b067_30 : decode cJ2_getChar_3b067 30 = .ok (.ishl, 1) := by decide +kernel
theorem dJ2_getChar_3b067_31 : decode cJ2_getChar_3b067 31 = .ok (.istore_n 1, 1) := by decide +kernel
theorem dJ2_getChar_3b067_32 : decode cJ2_getChar_3b067 32 = .ok (.aload_n 0, 1) := by decide +kernel
theorem dJ2_getChar_3b067_33 : decode cJ2_getChar_3b067 33 = .ok (.iload_n 1, 1) := by decide +kernel
theorem dJ2_getChar_3b067_34 : decode cJ2_getChar_3b067 34 = .ok (.iinc 1 1, 3) := by decide +kernel
theorem dJ2_getChar_3b067_37 : decode cJ2_getChar_3b067 37 = .ok (.baload, 1) := by decide +kernel
theorem dJ2_getChar_3b067_38 : decode cJ2_getChar_3b067 38 = .ok (.sipush 255, 3) := by decide +kernel
theorem dJ2_getChar_3b067_41 : decode cJ2_getChar_3b067 41 = .ok (.iand, 1) := by decide +kernel
theorem dJ2_getChar_3b067_42 : decode cJ2_getChar_3b067 42 = .ok (.getstatic 59, 3) := by decide +kernel
theorem dJ2_getChar_3b067_45 : decode cJ2_getChar_3b067 45 = .ok (.ishl, 1) := by decide +kernel
theorem dJ2_getChar_3b067_46 : decode cJ2_getChar_3b067 46 = .ok (.aload_n 0, 1) := by decide +kernel
theorem dJ2_getChar_3b067_47 : decode cJ2_getChar_3b067 47 = .ok (.iload_n 1, 1) := by decide +kernel
theorem dJ2_getChar_3b067_48 : decode cJ2_getChar_3b067 48 = .ok (.baload, 1) := by decide +kernel
theorem dJ2_getChar_3b067_49 : decode cJ2_getChar_3b067 49 = .ok (.sipush 255, 3) := by decide +kernel
theorem dJ2_getChar_3b067_52 : decode cJ2_getChar_3b067 52 = .ok (.iand, 1) := by decide +kernel
theorem dJ2_getChar_3b067_53 : decode cJ2_getChar_3b067 53 = .ok (.getstatic 63, 3) := by decide +kernel
theorem dJ2_getChar_3b067_56 : decode cJ2_getChar_3b067 56 = .ok (.ishl, 1) := by decide +kernel
theorem dJ2_getChar_3b067_57 : decode cJ2_getChar_3b067 57 = .ok (.ior, 1) := by decide +kernel
theorem dJ2_getChar_3b067_58 : decode cJ2_getChar_3b067 58 = .ok (.i2c, 1) := by decide +kernel
theorem dJ2_getChar_3b067_59 : decode cJ2_getChar_3b067 59 = .ok (.ireturn, 1) := by decide +kernel
theorem dJ2_length_9d52b_0 : decode cJ2_length_9d52b 0 = .ok (.aload_n 0, 1) := by decide +kernel
theorem dJ2_length_9d52b_1 : decode cJ2_length_9d52b 1 = .ok (.arraylength, 1) := by decide +kernel
theorem dJ2_length_9d52b_2 : decode cJ2_length_9d52b 2 = .ok (.iconst 1, 1) := by decide +kernel
theorem dJ2_length_9d52b_3 : decode cJ2_length_9d52b 3 = .ok (.ishr, 1) := by decide +kernel
theorem dJ2_length_9d52b_4 : decode cJ2_length_9d52b 4 = .ok (.ireturn, 1) := by decide +kernel
set_option maxRecDepth 20000 in
theorem ggJ2_charAt_3b067_J2_checkIndex_2214a : GoodIn wsJ2_charAt_3b067 wsJ2_checkIndex_2214a := goodIn_r _ [4, 5, 6, 3, 7, 8, 9, 10, 11, 12, 13, 14, 15, 16] (by decide +kernel) (by decide +kernel)
set_option maxRecDepth 20000 in
theorem gJ2_charAt_3b067_J2_checkIndex_2214a : GoodIn wsJ2_charAt_3b067 (va_wsS RJ2 67 yJ2_checkIndex_2214a wsJ2_checkIndex_2214a) := goodIn_app (goodIn_of _ (by decide +kernel)) ggJ2_charAt_3b067_J2_checkIndex_2214a
set_option maxRecDepth 20000 in
theorem ggJ2_charAt_3b067_J2_getChar_3b067 : GoodIn wsJ2_charAt_3b067 wsJ2_getChar_3b067 := goodIn_r _ [19, 20, 21, 22, 5, 6, 3, 7] (by decide +kernel) (by decide +kernel)
set_option maxRecDepth 20000 in
theorem gJ2_charAt_3b067_J2_getChar_3b067 : GoodIn wsJ2_charAt_3b067 (va_wsS RJ2 71 yJ2_getChar_3b067 wsJ2_getChar_3b067) := goodIn_app (goodIn_of _ (by decide +kernel)) ggJ2_charAt_3b067_J2_getChar_3b067
theorem dJ2_charAt_3b067_0 : decode cJ2_charAt_3b067 0 = .ok (.iload_n 1, 1) := by decide +kernel
theorem dJ2_charAt_3b067_1 : decode cJ2_charAt_3b067 1 = .ok (.aload_n 0, 1) := by decide +kernel
theorem dJ2_charAt_3b067_2 : decode cJ2_charAt_3b067 2 = .ok (.invokestatic 67, 3) := by decide +kernel
theorem dJ2_charAt_3b067_5 : decode cJ2_charAt_3b067 5 = .ok (.aload_n 0, 1) := by decide +kernel
theorem dJ2_charAt_3b067_6 : decode cJ2_charAt_3b067 6 = .ok (.iload_n 1, 1) := by decide +kernel
theorem dJ2_charAt_3b067_7 : decode cJ2_charAt_3b067 7 = .ok (.invokestatic 71, 3) := by decide +kernel
theorem dJ2_charAt_3b067_10 : decode cJ2_charAt_3b067 10 = .ok (.ireturn, 1) := by decide +kernel
set_option maxRecDepth 20000 in
theorem ggJ2_checkIndex_2214a_J2_length_9d52b : GoodIn wsJ2_checkIndex_2214a wsJ2_length_9d52b := goodIn_r _ [4] (by decide +kernel) (by decide +kernel)
set_option maxRecDepth 20000 in
theorem gJ2_checkIndex_2214a_J2_length_9d52b : GoodIn wsJ2_checkIndex_2214a (va_wsS RJ2 48 yJ2_length_9d52b wsJ2_length_9d52b) := goodIn_app (goodIn_of _ (by decide +kernel)) ggJ2_checkIndex_2214a_J2_length_9d52b
set_option maxRecDepth 20000 in
theorem ggJ2_checkIndex_2214a_J0_checkIndex_df160 : GoodIn wsJ2_checkIndex_2214a wsJ0_checkIndex_df160 := goodIn_r _ [8, 9, 10, 11, 12, 13] (by decide +kernel) (by decide +kernel)
set_option maxRecDepth 20000 in
theorem gJ2_checkIndex_2214a_J0_checkIndex_df160 : GoodIn wsJ2_checkIndex_2214a (va_wsS RJ2 414 yJ0_checkIndex_df160 wsJ0_checkIndex_df160) := goodIn_app (goodIn_of _ (by decide +kernel)) ggJ2_checkIndex_2214a_J0_checkIndex_df160
theorem dJ2_checkIndex_2214a_0 : decode cJ2_checkIndex_2214a 0 = .ok (.iload_n 0, 1) := by decide +kernel
theorem dJ2_checkIndex_2214a_1 : decode cJ2_checkIndex_2214a 1 = .ok (.aload_n 1, 1) := by decide +kernel
theorem dJ2_checkIndex_2214a_2 : decode cJ2_checkIndex_2214a 2 = .ok (.invokestatic 48, 3) := by decide +kernel
theorem dJ2_checkIndex_2214a_5 : decode cJ2_checkIndex_2214a 5 = .ok (.invokestatic 414, 3) := by decide +kernel
theorem dJ2_checkIndex_2214a_8 : decode cJ2_checkIndex_2214a 8 = .ok (.return_, 1) := by decide +kernel
theorem dJ7_fill_53178_0 : decode cJ7_fill_53178 0 = .ok (.iconst 0, 1) := by decide +kernel
theorem dJ7_fill_53178_1 : decode cJ7_fill_53178 1 = .ok (.istore_n 2, 1) := by decide +kernel
theorem dJ7_fill_53178_2 : decode cJ7_fill_53178 2 = .ok (.aload_n 0, 1) := by decide +kernel
theorem dJ7_fill_53178_3 : decode cJ7_fill_53178 3 = .ok (.arraylength, 1) := by decide +kernel
theorem dJ7_fill_53178_4 : decode cJ7_fill_53178 4 = .ok (.istore_n 3, 1) := by decide +kernel
theorem dJ7_fill_53178_5 : decode cJ7_fill_53178 5 = .ok (.iload_n 2, 1) := by decide +kernel
theorem dJ7_fill_53178_6 : decode cJ7_fill_53178 6 = .ok (.iload_n 3, 1) := by decide +kernel
theorem dJ7_fill_53178_7 : decode cJ7_fill_53178 7 = .ok (.if_icmp .ge 13, 3) := by decide +kernel
theorem dJ7_fill_53178_10 : decode cJ7_fill_53178 10 = .ok (.aload_n 0, 1) := by decide +kernel
theorem dJ7_fill_53178_11 : decode cJ7_fill_53178 11 = .ok (.iload_n 2, 1) := by decide +kernel
theorem dJ7_fill_53178_12 : decode cJ7_fill_53178 12 = .ok (.iload_n 1, 1) := by decide +kernel
theorem dJ7_fill_53178_13 : decode cJ7_fill_53178 13 = .ok (.iastore, 1) := by decide +kernel
theorem dJ7_fill_53178_14 : decode cJ7_fill_53178 14 = .ok (.iinc 2 1, 3) := by decide +kernel
theorem dJ7_fill_53178_17 : decode cJ7_fill_53178 17 = .ok (.goto (-12), 3) := by decide +kernel
theorem dJ7_fill_53178_20 : decode cJ7_fill_53178 20 = .ok (.return_, 1) := by decide +kernel
theorem dJ3_checkIndex_8e157_0 : decode cJ3_checkIndex_8e157 0 = .ok (.iload_n 0, 1) := by decide +kernel
theorem dJ3_checkIndex_8e157_1 : decode cJ3_checkIndex_8e157 1 = .ok (.ifCond .lt 8, 3) := by decide +kernel
theorem dJ3_checkIndex_8e157_4 : decode cJ3_checkIndex_8e157 4 = .ok (.iload_n 0, 1) := by decide +kernel
theorem dJ3_checkIndex_8e157_5 : decode cJ3_checkIndex_8e157 5 = .ok (.iload_n 1, 1) := by decide +kernel
theorem dJ3_checkIndex_8e157_6 : decode cJ3_checkIndex_8e157 6 = .ok (.if_icmp .lt 10, 3) := by decide +kernel
theorem dJ3_checkIndex_8e157_9 : decode cJ3_checkIndex_8e157 9 = .ok (.aload_n 2, 1) := by decide +kernel
theorem dJ3_checkIndex_8e157_10 : decode cJ3_checkIndex_8e157 10 = .ok (.iload_n 0, 1) := by decide +kernel
theorem dJ3_checkIndex_8e157_11 : decode cJ3_checkIndex_8e157 11 = .ok (.iload_n 1, 1) := by decide +kernel
theorem dJ3_checkIndex_8e157_12 : decode cJ3_checkIndex_8e157 12 = .ok (.invokestatic 95, 3) := by decide +kernel
theorem dJ3_checkIndex_8e157_15 : decode cJ3_checkIndex_8e157 15 = .ok (.athrow, 1) := by decide +kernel
theorem dJ3_checkIndex_8e157_16 : decode cJ3_checkIndex_8e157 16 = .ok (.iload_n 0, 1) := by decide +kernel
theorem dJ3_checkIndex_8e157_17 : decode cJ3_checkIndex_8e157 17 = .ok (.ireturn, 1) := by decide +kernel
end
section
/-! ===== rows of this proof: what stands fixed in a body, a world of cells, and one row an instruction over natural numbers ===== -/
/-- the keys of a world: where the classes are, and the classes of int[], char[] and Plate[] -/
abbrev KG : Type := va_G × ClassId × ClassId × ClassId
def tysF (G : KG) : List (ClassId × FieldType) := [(G.2.1, .int), (G.2.2.1, .char), (G.2.2.2, .object RX3)]
def nA (f : Nat → Nat) : Nat → Int32 := fun k => nI (f k)
def up (f : Nat → Nat) (i x : Nat) : Nat → Nat := fun k => if k = i then x else f k
abbrev cO (a ci : Nat) (fs : List Value) : Nat × va_E := (a, .inr (ci, fs))
abbrev aI (G : KG) (a n : Nat) (f : Nat → Nat) : Nat × va_E := (a, .inl (G.2.1, n, .inl (nA f)))
abbrev aC (G : KG) (a n : Nat) (f : Nat → Nat) : Nat × va_E := (a, .inl (G.2.2.1, n, .inl (nA f)))
abbrev aP (G : KG) (a n : Nat) (f : Nat → Option Nat) : Nat × va_E := (a, .inl (G.2.2.2, n, .inr (.inr (.inr (.inr f)))))
theorem nA_up {f : Nat → Nat} {i x : Nat} (hi : i < 2 ^ 31) : upd (nA f) (nI i).toNatClampNeg (nI x) = nA (up f i x) := by
  rw [nI_clamp hi]
  funext k
  unfold upd nA up
  by_cases h : k = i
  · rw [if_pos h, if_pos h]
  · rw [if_neg h, if_neg h]
theorem up_s (f : Nat → Nat) (i x : Nat) : up f i x i = x := by simp [up]
theorem up_n (f : Nat → Nat) {i k : Nat} (x : Nat) (h : k ≠ i) : up f i x k = f k := by simp [up, h]
/-- what stands fixed while a body is walked -/
def Fx (p : Program) (s : State) (m : MethodId) (args : Array Value) (meth : Method) (c : Code) (cc : ByteArray) (nL : Nat) (own : String) (Ts : List Cond) (ret : Option FieldType) : Prop :=
  p.tables.exec = Jvm.exec ∧ c.code = cc ∧ c.maxLocals = nL ∧ s.vm.findClass own = some m.cls ∧ (∀ w ∈ Ts, w.before args s = true) ∧ meth.sig.returnType = ret ∧ meth.locks = false
theorem Fx.fix {p : Program} {s : State} {m : MethodId} {args : Array Value} {meth : Method} {c : Code} {cc : ByteArray} {nL : Nat} {own : String} {Ts : List Cond} {ret : Option FieldType} (F : Fx p s m args meth c cc nL own Ts ret) : CallFix p m c cc nL s args Ts own := ⟨F.1, F.2.1, F.2.2.1, F.2.2.2.1, F.2.2.2.2.1⟩
theorem Fx.ts {p : Program} {s : State} {m : MethodId} {args : Array Value} {meth : Method} {c : Code} {cc : ByteArray} {nL : Nat} {own : String} {Ts : List Cond} {ret : Option FieldType} (F : Fx p s m args meth c cc nL own Ts ret) : ∀ w ∈ Ts, w.before args s = true := F.2.2.2.2.1
/-- a world, as it stands in the heap H -/
def Wd (G : KG) (s : State) (A : Nat → Prop) (ws : va_W) (H : Heap) (locs : List Loc) : Prop :=
  va_P G.1 vwCl ws H ∧ va_D A ws ∧ va_S A s.heap H locs ∧ va_K G.1 vwCl (tysF G) s ∧ ∀ q : Nat, s.heap.size ≤ q → A q
theorem Wd.sub {G : KG} {s : State} {A : Nat → Prop} {ws ws' : va_W} {H : Heap} {locs : List Loc} (w : Wd G s A ws H locs) (is : List Nat) (hn : va_nd is = true) (hs : is.filterMap (fun i => ws[i]?) = ws') : Wd G s A ws' H locs := by
  refine ⟨w.1.sub is hs, ?_, w.2.2⟩
  subst hs
  have hfm : ∀ (l : List Nat), (∀ i ∈ l, i ∈ is) → va_nd l = true → va_D A (l.filterMap (fun i => ws[i]?)) ∧ ∀ (k : Nat) (q : Nat × va_E), (l.filterMap (fun i => ws[i]?))[k]? = some q → ∃ i ∈ l, ws[i]? = some q := by
    intro l
    induction l with
    | nil => intro _ _; exact ⟨⟨fun i j p q h => by simp at h, fun k q h => by simp at h⟩, fun k q h => by simp at h⟩
    | cons a l ih =>
      intro hl hnd
      simp only [va_nd, Bool.and_eq_true, decide_eq_true_eq] at hnd
      obtain ⟨ih1, ih2⟩ := ih (fun i hi => hl i (List.mem_cons_of_mem _ hi)) hnd.2
      cases ha : ws[a]? with
      | none =>
        rw [List.filterMap_cons_none ha]
        exact ⟨ih1, fun k q h => by obtain ⟨i, hi, h2⟩ := ih2 k q h; exact ⟨i, List.mem_cons_of_mem _ hi, h2⟩⟩
      | some x =>
        rw [List.filterMap_cons_some ha]
        refine ⟨⟨fun i j p q hp hq hpq => ?_, fun k q hk => ?_⟩, fun k q hk => ?_⟩
        · cases i with
          | zero =>
            cases j with
            | zero => rfl
            | succ j =>
              rw [List.getElem?_cons_zero] at hp
              rw [List.getElem?_cons_succ] at hq
              cases hp
              obtain ⟨b, hb, hb2⟩ := ih2 j q hq
              have := w.2.1.1 a b x q ha hb2 hpq
              subst this
              exact absurd hb hnd.1
          | succ i =>
            rw [List.getElem?_cons_succ] at hp
            cases j with
            | zero =>
              rw [List.getElem?_cons_zero] at hq
              cases hq
              obtain ⟨b, hb, hb2⟩ := ih2 i p hp
              have := w.2.1.1 b a p x hb2 ha hpq
              subst this
              exact absurd hb hnd.1
            | succ j =>
              rw [List.getElem?_cons_succ] at hq
              rw [ih1.1 i j p q hp hq hpq]
        · cases k with
          | zero => rw [List.getElem?_cons_zero] at hk; cases hk; exact w.2.1.2 a x ha
          | succ k => rw [List.getElem?_cons_succ] at hk; exact ih1.2 k q hk
        · cases k with
          | zero => rw [List.getElem?_cons_zero] at hk; cases hk; exact ⟨a, List.mem_cons_self, ha⟩
          | succ k =>
            rw [List.getElem?_cons_succ] at hk
            obtain ⟨i, hi, h2⟩ := ih2 k q hk
            exact ⟨i, List.mem_cons_of_mem _ hi, h2⟩
  exact (hfm is (fun _ h => h) hn).1
/-- cells that hold the same -/
def eqE : va_E → va_E → Prop
  | .inl (c, n, .inl f), .inl (c', n', .inl f') => c = c' ∧ n = n' ∧ ∀ k, k < n → f k = f' k
  | x, y => x = y
def eqW : va_W → va_W → Prop
  | [], [] => True
  | (a, x) :: l, (b, y) :: r => a = b ∧ eqE x y ∧ eqW l r
  | _, _ => False
theorem eqE.rf (x : va_E) : eqE x x := by
  rcases x with ⟨c, n, f | g⟩ | o
  · exact ⟨rfl, rfl, fun _ _ => rfl⟩
  · rfl
  · rfl
theorem arrV_congr {c : ClassId} {n : Nat} {f g : Nat → Value} (h : ∀ k, k < n → f k = g k) : arrV c n f = arrV c n g := by
  have hs : (arrV c n f).slots = (arrV c n g).slots := by
    apply Array.ext
    · rw [arrV_size, arrV_size]
    · intro i h1 h2
      have e1 := arrV_read c f (by rw [arrV_size] at h1; exact h1)
      have e2 := arrV_read c g (by rw [arrV_size] at h1; exact h1)
      rw [Array.getElem?_eq_getElem h1] at e1
      rw [Array.getElem?_eq_getElem h2] at e2
      rw [arrV_size] at h1
      rw [Option.some.inj e1, Option.some.inj e2, h i h1]
  exact congrArg (fun z => { arrV c n f with slots := z }) hs
theorem eqE.at {D : va_G} {a : Nat} {x y : va_E} {H : Heap} (h : eqE x y) (hx : va_at D vwCl (a, x) H) : va_at D vwCl (a, y) H := by
  rcases x with ⟨c, n, f | g⟩ | o
  · rcases y with ⟨c', n', f' | g'⟩ | o'
    · obtain ⟨rfl, rfl, h⟩ := h
      show H[a]? = some (vp_cell c (n, .inl f'))
      rw [vp_cell_i, ← arrV_congr (f := fun j => .int (f j)) (fun k hk => by rw [h k hk])]
      exact hx
    · exact absurd h (by simp [eqE])
    · exact absurd h (by simp [eqE])
  · have h : (Sum.inl (c, n, Sum.inr g) : va_E) = y := by
      rcases y with ⟨c', n', f' | g'⟩ | o' <;> exact h
    subst h
    exact hx
  · have h : (Sum.inr o : va_E) = y := by
      rcases y with ⟨c', n', f' | g'⟩ | o' <;> exact h
    subst h
    exact hx
theorem eqW.at : ∀ {ws ws' : va_W}, eqW ws ws' → ∀ (k : Nat) (q : Nat × va_E), ws'[k]? = some q → ∃ x, ws[k]? = some (q.1, x) ∧ eqE x q.2
  | [], [], _, k, q, h => by simp at h
  | (a, x) :: l, (b, y) :: r, h, k, q, hk => by
    obtain ⟨rfl, h2, h3⟩ := h
    cases k with
    | zero => rw [List.getElem?_cons_zero] at hk; cases hk; exact ⟨x, rfl, h2⟩
    | succ k =>
      rw [List.getElem?_cons_succ] at hk
      obtain ⟨z, hz, he⟩ := eqW.at h3 k q hk
      exact ⟨z, by rw [List.getElem?_cons_succ]; exact hz, he⟩
  | [], _ :: _, h, _, _, _ => h.elim
  | _ :: _, [], h, _, _, _ => h.elim
theorem Wd.eq {G : KG} {s : State} {A : Nat → Prop} {ws ws' : va_W} {H : Heap} {locs : List Loc} (w : Wd G s A ws H locs) (h : eqW ws ws') : Wd G s A ws' H locs := by
  refine ⟨fun k q hk => ?_, ⟨fun i j x y hx hy hxy => ?_, fun k q hk => ?_⟩, w.2.2⟩
  · obtain ⟨x, hx, he⟩ := h.at k q hk
    exact he.at (w.1 k _ hx)
  · obtain ⟨x', hx', -⟩ := h.at i x hx
    obtain ⟨y', hy', -⟩ := h.at j y hy
    exact w.2.1.1 i j _ _ hx' hy' hxy
  · obtain ⟨x, hx, -⟩ := h.at k q hk
    exact w.2.1.2 k (q.1, x) hx
theorem Wd.is {G : KG} {s : State} {A : Nat → Prop} {ws ws' : va_W} {H : Heap} {locs : List Loc} (w : Wd G s A ws H locs) (h : ws = ws') : Wd G s A ws' H locs := h ▸ w
/-- a contract's start and end: the world before, and what is said of the answer and of the world behind -/
def PreW (G : KG) (ws : va_W) (sz : Nat) (as : List Value) : Array Value → State → Prop :=
  va_Pc as (fun U => U.heap.size = sz ∧ va_P G.1 vwCl ws U.heap ∧ va_K G.1 vwCl (tysF G) U ∧ va_D (fun _ => True) ws)
def PostB (G : KG) (ws : va_W) (sz : Nat) (ws' : va_W) (t : State) : Prop := va_P G.1 vwCl ws' t.heap ∧ va_K G.1 vwCl (tysF G) t ∧ va_D (va_A ws sz) ws'
def QI (G : KG) (ws : va_W) (sz : Nat) (post : Int32 → va_W → Prop) : Array Value → State → Outcome → State → Prop := va_Qi (S := va_W) post (fun ws' t => PostB G ws sz ws' t) (va_A ws sz)
def QV (G : KG) (ws : va_W) (sz : Nat) (post : va_W → Prop) : Array Value → State → Outcome → State → Prop := va_Qv (S := va_W) post (fun ws' t => PostB G ws sz ws' t) (va_A ws sz)
/-- the room of a method at height k over the leaves, that makes mc cells of ms slots -/
def rmK (k mc ms : Nat) : Room := { frames := k, cells := mc, slots := ms, locals := 30 * k }
def MetI (l : Launch) (y : MethodName) (W : List Cond) (k : Nat) (G : KG) (ws : va_W) (as : List Value) (post : Int32 → va_W → Prop) : Prop :=
  ∀ sz : Nat, Met l y W (rmK k 0 0) (PreW G ws sz as) (QI G ws sz post) 0 0 (va_A ws sz)
def MetV (l : Launch) (y : MethodName) (W : List Cond) (k mc ms : Nat) (G : KG) (ws : va_W) (as : List Value) (post : va_W → Prop) : Prop :=
  ∀ sz : Nat, Met l y W (rmK k mc ms) (PreW G ws sz as) (QV G ws sz post) mc ms (va_A ws sz)
theorem MetI.by {l : Launch} {y : MethodName} {Ts W' : List Cond} {k : Nat} {G : KG} {ws : va_W} {as : List Value} {post : Int32 → va_W → Prop} {cc : ByteArray} {nL : Nat} {ret : Option FieldType} (hy : plainName y.cls = true) (hw : Ts = Cond.code y cc nL ret :: W') (hn : (lg_sl as).length ≤ nL)
    (body : ∀ (p : Program) (e : Env) (s : State) (m : MethodId) (args : Array Value) (below : List Frame) (meth : Method) (c : Code), Fx p s m args meth c cc nL y.cls Ts ret → Wd G s (va_A ws s.heap.size) ws s.heap [] → ∀ ls : Array Slot, lv_has ls nL (lv_args 0 as) →
      W p l e (rmK k 0 0) s m args below meth c s.heap [] 0 0 (MQ below (QI G ws s.heap.size post) args s 0 0 (va_A ws s.heap.size)) (F0 m 0 ls [])) : MetI l y Ts k G ws as post := by
  intro sz
  refine Met.ofW (cc := cc) (maxL := nL) (ret := ret) hy hw ?_
  intro p e s m args below meth c s₁ B hml hv
  obtain ⟨rfl, hsz, hP, hK, hD⟩ := hv
  subst hsz
  rw [lg_entry_eq]
  exact body p e s m _ below meth c ⟨B.exec, B.bytes, hml, findClass_of_methodNamed B.named, atoms_spec (ws := Ts) B.pre, B.returns, B.notSynchronized⟩ ⟨hP, hD.self, va_S.rf, hK, fun q h => Or.inr h⟩ _ (lv_entry as hn)
theorem MetV.by {l : Launch} {y : MethodName} {Ts W' : List Cond} {k mc ms : Nat} {G : KG} {ws : va_W} {as : List Value} {post : va_W → Prop} {cc : ByteArray} {nL : Nat} {ret : Option FieldType} (hy : plainName y.cls = true) (hw : Ts = Cond.code y cc nL ret :: W') (hn : (lg_sl as).length ≤ nL)
    (body : ∀ (p : Program) (e : Env) (s : State) (m : MethodId) (args : Array Value) (below : List Frame) (meth : Method) (c : Code), Fx p s m args meth c cc nL y.cls Ts ret → meth.name = y.name → Wd G s (va_A ws s.heap.size) ws s.heap [] → ∀ ls : Array Slot, lv_has ls nL (lv_args 0 as) →
      W p l e (rmK k mc ms) s m args below meth c s.heap [] 0 0 (MQ below (QV G ws s.heap.size post) args s mc ms (va_A ws s.heap.size)) (F0 m 0 ls [])) : MetV l y Ts k mc ms G ws as post := by
  intro sz
  refine Met.ofW (cc := cc) (maxL := nL) (ret := ret) hy hw ?_
  intro p e s m args below meth c s₁ B hml hv
  obtain ⟨rfl, hsz, hP, hK, hD⟩ := hv
  subst hsz
  rw [lg_entry_eq]
  exact body p e s m _ below meth c ⟨B.exec, B.bytes, hml, findClass_of_methodNamed B.named, atoms_spec (ws := Ts) B.pre, B.returns, B.notSynchronized⟩ (name_of_methodNamed B.named B.method).1 ⟨hP, hD.self, va_S.rf, hK, fun q h => Or.inr h⟩ _ (lv_entry as hn)
section RW
variable {p : Program} {l : Launch} {e : Env} {R : Room} {s : State} {m : MethodId} {args : Array Value} {below : List Frame} {meth : Method} {c : Code} {H : Heap} {locs : List Loc} {cells slots : Nat} {Q : State → Prop}
variable {cc : ByteArray} {nL : Nat} {own : String} {Ts : List Cond} {ret : Option FieldType} {G : KG} {A : Nat → Prop} {ws : va_W} {pc : Nat} {ls : Array Slot} {rest : List Value}
theorem r_ireturn {post : Int32 → va_W → Prop} {ws0 : va_W} {v : Int32} (F : Fx p s m args meth c cc nL own Ts (some .int)) (w : Wd G s (va_A ws0 s.heap.size) ws H locs) (hdg : decode cc pc = .ok (.ireturn, 1)) (hpost : post v ws) :
    W p l e R s m args below meth c H locs cells slots (MQ below (QI G ws0 s.heap.size post) args s cells slots (va_A ws0 s.heap.size)) (F0 m pc ls [.int v]) :=
  W.iret (v := v) F.1 F.2.1 F.2.2.2.2.2.1 (fun t ht hW => ⟨⟨v, ws, rfl, hpost, by rw [ht]; exact w.1, va_K.moved hW.alike w.2.2.2.1, w.2.1⟩, w.2.2.1.F ht⟩) w.2.2.1.2.2 hdg F.2.2.2.2.2.2
theorem r_zreturn {post : Int32 → va_W → Prop} {ws0 : va_W} {v : Int32} (F : Fx p s m args meth c cc nL own Ts (some .boolean)) (w : Wd G s (va_A ws0 s.heap.size) ws H locs) (hdg : decode cc pc = .ok (.ireturn, 1)) (hv : narrow .boolean (.int v) = .int v) (hpost : post v ws) :
    W p l e R s m args below meth c H locs cells slots (MQ below (QI G ws0 s.heap.size post) args s cells slots (va_A ws0 s.heap.size)) (F0 m pc ls [.int v]) :=
  W.zret (v := v) F.1 F.2.1 F.2.2.2.2.2.1 hv (fun t ht hW => ⟨⟨v, ws, rfl, hpost, by rw [ht]; exact w.1, va_K.moved hW.alike w.2.2.2.1, w.2.1⟩, w.2.2.1.F ht⟩) w.2.2.1.2.2 hdg F.2.2.2.2.2.2
theorem r_return {post : va_W → Prop} {ws0 : va_W} (F : Fx p s m args meth c cc nL own Ts none) (w : Wd G s (va_A ws0 s.heap.size) ws H locs) (hdg : decode cc pc = .ok (.return_, 1)) (hpost : post ws) :
    W p l e R s m args below meth c H locs cells slots (MQ below (QV G ws0 s.heap.size post) args s cells slots (va_A ws0 s.heap.size)) (F0 m pc ls []) :=
  W.vret F.1 F.2.1 F.2.2.2.2.2.1 (fun t ht hW => ⟨⟨ws, rfl, hpost, by rw [ht]; exact w.1, va_K.moved hW.alike w.2.2.2.1, w.2.1⟩, w.2.2.1.F ht⟩) w.2.2.1.2.2 hdg F.2.2.2.2.2.2
/-- a class's tables: its fields' types, their names apart -/
def ClsOk (T : u_T) (N : Nat) (ty0 : Nat → FieldType) : Prop := (∀ k, k < N → parseFieldDescriptor (T k).2.2.1 = some (ty0 k)) ∧ ∀ a, a < N → ∀ b, b < N → a ≠ b → (T a).2.1 ≠ (T b).2.1
theorem r_get (F : Fx p s m args meth c cc nL own Ts ret) (w : Wd G s A ws H locs) (q0 k : Nat) {a ci N index : Nat} {C ref nm d : String} {fin : Bool} {T : u_T} {fs : List Value} {v : Value} (hin : ∀ w ∈ u_ws C T N, w ∈ Ts) (hlink : (Cond.fieldLink own index ref nm d).before args s = true)
    (he : ws[q0]? = some (a, .inr (ci, fs))) (hc : vwCl[ci]? = some (C, T, N)) (hT : T k = (ref, nm, d, fin)) (hk : k < N) (hv : fs[k]? = some v) (hdg : decode cc pc = .ok (.getfield index, 3))
    (kk : W p l e R s m args below meth c H locs cells slots Q (F0 m (pc + 3) ls (v :: rest))) : W p l e R s m args below meth c H locs cells slots Q (F0 m pc ls (.ref a :: rest)) :=
  va_get F.1 F.2.1 F.ts hin F.2.2.2.1 w.2.2.2.1 w.1 q0 he hc k hk (ref := ref) (by rw [hT]; exact hlink) (fun x h => by rw [hT] at h ⊢; exact h) hv hdg kk
theorem r_put (F : Fx p s m args meth c cc nL own Ts ret) (w : Wd G s A ws H locs) (q0 k : Nat) {a ci N index : Nat} {C ref nm d : String} {T : u_T} {ty0 : Nat → FieldType} {fs : List Value} {x : Int32} {ws' : va_W} (hin : ∀ w ∈ u_ws C T N, w ∈ Ts) (hok : ClsOk T N ty0) (hlink : (Cond.fieldLink own index ref nm d).before args s = true)
    (he : ws[q0]? = some (a, .inr (ci, fs))) (hc : vwCl[ci]? = some (C, T, N)) (hT : T k = (ref, nm, d, false)) (hk : k < N) (hd : parseFieldDescriptor d = some .int) (hl : k < fs.length) (hdg : decode cc pc = .ok (.putfield index, 3)) (hw : ws.set q0 (a, .inr (ci, fs.set k (.int x))) = ws')
    (kk : ∀ (H1 : Heap) (locs1 : List Loc), Wd G s A ws' H1 locs1 → W p l e R s m args below meth c H1 locs1 cells slots Q (F0 m (pc + 3) ls rest)) : W p l e R s m args below meth c H locs cells slots Q (F0 m pc ls (.int x :: .ref a :: rest)) := by
  subst hw
  exact va_put F.1 F.2.1 F.ts hin ty0 hok.1 hok.2 F.2.2.2.1 w.2.2.2.1 w.1 w.2.1 w.2.2.1 q0 he hc k hk (ref := ref) (by rw [hT]; exact hlink) (fun x h => by rw [hT] at h ⊢; exact h) (by rw [hT]) (ty := .int) (by rw [hT]; exact hd) rfl rfl hl hdg (fun H1 locs1 h1 h2 h3 => kk H1 locs1 ⟨h1, h2, h3, w.2.2.2⟩)
theorem r_iald (F : Fx p s m args meth c cc nL own Ts ret) (w : Wd G s A ws H locs) (q0 : Nat) {a n i : Nat} {f : Nat → Nat} (ha : ws[q0]? = some (aI G a n f)) (hi : i < n) (hn : n < 2 ^ 31) (hdg : decode cc pc = .ok (.iaload, 1))
    (kk : W p l e R s m args below meth c H locs cells slots Q (F0 m (pc + 1) ls (.int (nI (f i)) :: rest))) : W p l e R s m args below meth c H locs cells slots Q (F0 m pc ls (.int (nI i) :: .ref a :: rest)) :=
  va_iald F.1 F.2.1 w.2.2.2.1 w.1 q0 0 ha rfl (vp_in_nI hi hn) hdg (by rw [nI_clamp (Nat.lt_trans hi hn)]; exact kk)
theorem r_cald (F : Fx p s m args meth c cc nL own Ts ret) (w : Wd G s A ws H locs) (q0 : Nat) {a n i : Nat} {f : Nat → Nat} (ha : ws[q0]? = some (aC G a n f)) (hi : i < n) (hn : n < 2 ^ 31) (hdg : decode cc pc = .ok (.caload, 1))
    (kk : W p l e R s m args below meth c H locs cells slots Q (F0 m (pc + 1) ls (.int (nI (f i)) :: rest))) : W p l e R s m args below meth c H locs cells slots Q (F0 m pc ls (.int (nI i) :: .ref a :: rest)) :=
  va_cald F.1 F.2.1 w.2.2.2.1 w.1 q0 1 ha rfl (vp_in_nI hi hn) hdg (by rw [nI_clamp (Nat.lt_trans hi hn)]; exact kk)
theorem r_iast (F : Fx p s m args meth c cc nL own Ts ret) (w : Wd G s A ws H locs) (q0 : Nat) {a n i x : Nat} {f : Nat → Nat} {ws' : va_W} (ha : ws[q0]? = some (aI G a n f)) (hi : i < n) (hn : n < 2 ^ 31) (hdg : decode cc pc = .ok (.iastore, 1)) (hw : ws.set q0 (aI G a n (up f i x)) = ws')
    (kk : ∀ (H1 : Heap) (locs1 : List Loc), Wd G s A ws' H1 locs1 → W p l e R s m args below meth c H1 locs1 cells slots Q (F0 m (pc + 1) ls rest)) : W p l e R s m args below meth c H locs cells slots Q (F0 m pc ls (.int (nI x) :: .int (nI i) :: .ref a :: rest)) := by
  subst hw
  refine va_iast F.1 F.2.1 w.2.2.2.1 w.1 w.2.1 w.2.2.1 q0 0 ha rfl (vp_in_nI hi hn) hdg (fun H1 locs1 h1 h2 h3 => kk H1 locs1 ⟨?_, ?_, h3, w.2.2.2⟩)
  · rw [nA_up (Nat.lt_trans hi hn)] at h1; exact h1
  · rw [nA_up (Nat.lt_trans hi hn)] at h2; exact h2
theorem r_iadd (F : Fx p s m args meth c cc nL own Ts ret) {a b : Nat} (hdg : decode cc pc = .ok (.iadd, 1)) (kk : W p l e R s m args below meth c H locs cells slots Q (F0 m (pc + 1) ls (.int (nI (a + b)) :: rest))) : W p l e R s m args below meth c H locs cells slots Q (F0 m pc ls (.int (nI b) :: .int (nI a) :: rest)) :=
  lv_iadd F.1 F.2.1 hdg (by rw [nI_add]; exact kk)
theorem r_isub (F : Fx p s m args meth c cc nL own Ts ret) {a b : Nat} (hdg : decode cc pc = .ok (.isub, 1)) (h : b ≤ a) (kk : W p l e R s m args below meth c H locs cells slots Q (F0 m (pc + 1) ls (.int (nI (a - b)) :: rest))) : W p l e R s m args below meth c H locs cells slots Q (F0 m pc ls (.int (nI b) :: .int (nI a) :: rest)) :=
  lv_isub F.1 F.2.1 hdg (by rw [pk_sub h]; exact kk)
theorem r_imul (F : Fx p s m args meth c cc nL own Ts ret) {a b : Nat} (hdg : decode cc pc = .ok (.imul, 1)) (kk : W p l e R s m args below meth c H locs cells slots Q (F0 m (pc + 1) ls (.int (nI (a * b)) :: rest))) : W p l e R s m args below meth c H locs cells slots Q (F0 m pc ls (.int (nI b) :: .int (nI a) :: rest)) :=
  lv_imul F.1 F.2.1 hdg (by rw [pk_mul]; exact kk)
theorem r_idiv (F : Fx p s m args meth c cc nL own Ts ret) {a b : Nat} (hdg : decode cc pc = .ok (.idiv, 1)) (ha : a < 2 ^ 31) (h0 : 0 < b) (hb : b < 2 ^ 31) (kk : W p l e R s m args below meth c H locs cells slots Q (F0 m (pc + 1) ls (.int (nI (a / b)) :: rest))) : W p l e R s m args below meth c H locs cells slots Q (F0 m pc ls (.int (nI b) :: .int (nI a) :: rest)) :=
  lv_idiv F.1 F.2.1 hdg (nI_ne0 h0 hb) (by rw [pk_div ha h0 hb]; exact kk)
theorem r_irem (F : Fx p s m args meth c cc nL own Ts ret) {a b : Nat} (hdg : decode cc pc = .ok (.irem, 1)) (ha : a < 2 ^ 31) (h0 : 0 < b) (hb : b < 2 ^ 31) (kk : W p l e R s m args below meth c H locs cells slots Q (F0 m (pc + 1) ls (.int (nI (a % b)) :: rest))) : W p l e R s m args below meth c H locs cells slots Q (F0 m pc ls (.int (nI b) :: .int (nI a) :: rest)) :=
  lv_irem F.1 F.2.1 hdg (nI_ne0 h0 hb) (by rw [pk_rem ha h0 hb]; exact kk)
/-- a number on the top gets a name -/
theorem r_top {x : Nat} (kk : ∀ y : Nat, y = x → W p l e R s m args below meth c H locs cells slots Q (F0 m pc ls (.int (nI y) :: rest))) : W p l e R s m args below meth c H locs cells slots Q (F0 m pc ls (.int (nI x) :: rest)) := kk x rfl
theorem r_to {x y : Int32} (h : x = y) (kk : W p l e R s m args below meth c H locs cells slots Q (F0 m pc ls (.int y :: rest))) : W p l e R s m args below meth c H locs cells slots Q (F0 m pc ls (.int x :: rest)) := h ▸ kk
theorem r_ceq (F : Fx p s m args meth c cc nL own Ts ret) {a b : Nat} {off : Int} {tgt : Nat} (hdg : decode cc pc = .ok (.if_icmp .eq off, 3)) (ht : (pc : Int) + off = (tgt : Int)) (ha : a < 2 ^ 31) (hb : b < 2 ^ 31)
    (kt : a = b → W p l e R s m args below meth c H locs cells slots Q (F0 m tgt ls rest)) (kf : ¬ a = b → W p l e R s m args below meth c H locs cells slots Q (F0 m (pc + 3) ls rest)) : W p l e R s m args below meth c H locs cells slots Q (F0 m pc ls (.int (nI b) :: .int (nI a) :: rest)) :=
  lv_icmp_eq F.1 F.2.1 hdg ht (fun h => kt ((nI_eq ha hb).mp h)) (fun h => kf (fun z => h ((nI_eq ha hb).mpr z)))
theorem r_cne (F : Fx p s m args meth c cc nL own Ts ret) {a b : Nat} {off : Int} {tgt : Nat} (hdg : decode cc pc = .ok (.if_icmp .ne off, 3)) (ht : (pc : Int) + off = (tgt : Int)) (ha : a < 2 ^ 31) (hb : b < 2 ^ 31)
    (kt : ¬ a = b → W p l e R s m args below meth c H locs cells slots Q (F0 m tgt ls rest)) (kf : a = b → W p l e R s m args below meth c H locs cells slots Q (F0 m (pc + 3) ls rest)) : W p l e R s m args below meth c H locs cells slots Q (F0 m pc ls (.int (nI b) :: .int (nI a) :: rest)) :=
  lv_icmp_ne F.1 F.2.1 hdg ht (fun h => kt (fun z => h ((nI_eq ha hb).mpr z))) (fun h => kf ((nI_eq ha hb).mp h))
theorem r_clt (F : Fx p s m args meth c cc nL own Ts ret) {a b : Nat} {off : Int} {tgt : Nat} (hdg : decode cc pc = .ok (.if_icmp .lt off, 3)) (ht : (pc : Int) + off = (tgt : Int)) (ha : a < 2 ^ 31) (hb : b < 2 ^ 31)
    (kt : a < b → W p l e R s m args below meth c H locs cells slots Q (F0 m tgt ls rest)) (kf : ¬ a < b → W p l e R s m args below meth c H locs cells slots Q (F0 m (pc + 3) ls rest)) : W p l e R s m args below meth c H locs cells slots Q (F0 m pc ls (.int (nI b) :: .int (nI a) :: rest)) :=
  lv_icmp_lt F.1 F.2.1 hdg ht (fun h => kt ((nI_ltI ha hb).mp h)) (fun h => kf (fun z => h ((nI_ltI ha hb).mpr z)))
theorem r_cge (F : Fx p s m args meth c cc nL own Ts ret) {a b : Nat} {off : Int} {tgt : Nat} (hdg : decode cc pc = .ok (.if_icmp .ge off, 3)) (ht : (pc : Int) + off = (tgt : Int)) (ha : a < 2 ^ 31) (hb : b < 2 ^ 31)
    (kt : ¬ a < b → W p l e R s m args below meth c H locs cells slots Q (F0 m tgt ls rest)) (kf : a < b → W p l e R s m args below meth c H locs cells slots Q (F0 m (pc + 3) ls rest)) : W p l e R s m args below meth c H locs cells slots Q (F0 m pc ls (.int (nI b) :: .int (nI a) :: rest)) :=
  lv_icmp_ge F.1 F.2.1 hdg ht (fun h => kt (Nat.not_lt.mpr ((nI_leI hb ha).mp h))) (fun h => kf (Nat.not_le.mp (fun z => h ((nI_leI hb ha).mpr z))))
theorem r_cgt (F : Fx p s m args meth c cc nL own Ts ret) {a b : Nat} {off : Int} {tgt : Nat} (hdg : decode cc pc = .ok (.if_icmp .gt off, 3)) (ht : (pc : Int) + off = (tgt : Int)) (ha : a < 2 ^ 31) (hb : b < 2 ^ 31)
    (kt : b < a → W p l e R s m args below meth c H locs cells slots Q (F0 m tgt ls rest)) (kf : ¬ b < a → W p l e R s m args below meth c H locs cells slots Q (F0 m (pc + 3) ls rest)) : W p l e R s m args below meth c H locs cells slots Q (F0 m pc ls (.int (nI b) :: .int (nI a) :: rest)) :=
  lv_icmp_gt F.1 F.2.1 hdg ht (fun h => kt ((nI_ltI hb ha).mp h)) (fun h => kf (fun z => h ((nI_ltI hb ha).mpr z)))
theorem r_cle (F : Fx p s m args meth c cc nL own Ts ret) {a b : Nat} {off : Int} {tgt : Nat} (hdg : decode cc pc = .ok (.if_icmp .le off, 3)) (ht : (pc : Int) + off = (tgt : Int)) (ha : a < 2 ^ 31) (hb : b < 2 ^ 31)
    (kt : ¬ b < a → W p l e R s m args below meth c H locs cells slots Q (F0 m tgt ls rest)) (kf : b < a → W p l e R s m args below meth c H locs cells slots Q (F0 m (pc + 3) ls rest)) : W p l e R s m args below meth c H locs cells slots Q (F0 m pc ls (.int (nI b) :: .int (nI a) :: rest)) :=
  lv_icmp_le F.1 F.2.1 hdg ht (fun h => kt (Nat.not_lt.mpr ((nI_leI ha hb).mp h))) (fun h => kf (Nat.not_le.mp (fun z => h ((nI_leI ha hb).mpr z))))
theorem r_zeq (F : Fx p s m args meth c cc nL own Ts ret) {a : Nat} {off : Int} {tgt : Nat} (hdg : decode cc pc = .ok (.ifCond .eq off, 3)) (ht : (pc : Int) + off = (tgt : Int)) (ha : a < 2 ^ 31)
    (kt : a = 0 → W p l e R s m args below meth c H locs cells slots Q (F0 m tgt ls rest)) (kf : ¬ a = 0 → W p l e R s m args below meth c H locs cells slots Q (F0 m (pc + 3) ls rest)) : W p l e R s m args below meth c H locs cells slots Q (F0 m pc ls (.int (nI a) :: rest)) :=
  lv_if_eq F.1 F.2.1 hdg ht (fun h => kt (Nat.eq_zero_of_not_pos (fun z => nI_ne0 z ha h))) (fun h => kf (fun z => h (by rw [z]; rfl)))
theorem r_zne (F : Fx p s m args meth c cc nL own Ts ret) {a : Nat} {off : Int} {tgt : Nat} (hdg : decode cc pc = .ok (.ifCond .ne off, 3)) (ht : (pc : Int) + off = (tgt : Int)) (ha : a < 2 ^ 31)
    (kt : ¬ a = 0 → W p l e R s m args below meth c H locs cells slots Q (F0 m tgt ls rest)) (kf : a = 0 → W p l e R s m args below meth c H locs cells slots Q (F0 m (pc + 3) ls rest)) : W p l e R s m args below meth c H locs cells slots Q (F0 m pc ls (.int (nI a) :: rest)) :=
  lv_if_ne F.1 F.2.1 hdg ht (fun h => kt (fun z => h (by rw [z]; rfl))) (fun h => kf (Nat.eq_zero_of_not_pos (fun z => nI_ne0 z ha h)))
theorem r_zle (F : Fx p s m args meth c cc nL own Ts ret) {a : Nat} {off : Int} {tgt : Nat} (hdg : decode cc pc = .ok (.ifCond .le off, 3)) (ht : (pc : Int) + off = (tgt : Int)) (ha : a < 2 ^ 31)
    (kt : a = 0 → W p l e R s m args below meth c H locs cells slots Q (F0 m tgt ls rest)) (kf : ¬ a = 0 → W p l e R s m args below meth c H locs cells slots Q (F0 m (pc + 3) ls rest)) : W p l e R s m args below meth c H locs cells slots Q (F0 m pc ls (.int (nI a) :: rest)) :=
  lv_if_le F.1 F.2.1 hdg ht (fun h => kt (Nat.eq_zero_of_not_pos (fun z => nI_nle z ha h))) (fun h => kf (fun z => h (by rw [z]; decide)))
theorem r_zgt (F : Fx p s m args meth c cc nL own Ts ret) {a : Nat} {off : Int} {tgt : Nat} (hdg : decode cc pc = .ok (.ifCond .gt off, 3)) (ht : (pc : Int) + off = (tgt : Int)) (ha : a < 2 ^ 31)
    (kt : ¬ a = 0 → W p l e R s m args below meth c H locs cells slots Q (F0 m tgt ls rest)) (kf : a = 0 → W p l e R s m args below meth c H locs cells slots Q (F0 m (pc + 3) ls rest)) : W p l e R s m args below meth c H locs cells slots Q (F0 m pc ls (.int (nI a) :: rest)) :=
  lv_if_gt F.1 F.2.1 hdg ht (fun h => kt (fun z => by rw [z] at h; exact absurd h (by decide))) (fun h => kf (Nat.eq_zero_of_not_pos (fun z => h (by rw [Int32.lt_iff_toInt_lt, nI_toInt ha, Int32.toInt_zero]; omega))))
/-- a yes-or-no on the top -/
def yn (q : Prop) [Decidable q] : Int32 := if q then 1 else 0
theorem r_yeq (F : Fx p s m args meth c cc nL own Ts ret) {q : Prop} [Decidable q] {off : Int} {tgt : Nat} (hdg : decode cc pc = .ok (.ifCond .eq off, 3)) (ht : (pc : Int) + off = (tgt : Int))
    (kt : ¬ q → W p l e R s m args below meth c H locs cells slots Q (F0 m tgt ls rest)) (kf : q → W p l e R s m args below meth c H locs cells slots Q (F0 m (pc + 3) ls rest)) : W p l e R s m args below meth c H locs cells slots Q (F0 m pc ls (.int (yn q) :: rest)) :=
  lv_if_eq F.1 F.2.1 hdg ht (fun h => kt (fun z => by rw [yn, if_pos z] at h; exact absurd h (by decide))) (fun h => kf (Classical.byContradiction (fun z => h (by rw [yn, if_neg z]))))
theorem r_yne (F : Fx p s m args meth c cc nL own Ts ret) {q : Prop} [Decidable q] {off : Int} {tgt : Nat} (hdg : decode cc pc = .ok (.ifCond .ne off, 3)) (ht : (pc : Int) + off = (tgt : Int))
    (kt : q → W p l e R s m args below meth c H locs cells slots Q (F0 m tgt ls rest)) (kf : ¬ q → W p l e R s m args below meth c H locs cells slots Q (F0 m (pc + 3) ls rest)) : W p l e R s m args below meth c H locs cells slots Q (F0 m pc ls (.int (yn q) :: rest)) :=
  lv_if_ne F.1 F.2.1 hdg ht (fun h => kt (Classical.byContradiction (fun z => h (by rw [yn, if_neg z])))) (fun h => kf (fun z => absurd h (by rw [yn, if_pos z]; decide)))
theorem yn_t {q : Prop} [Decidable q] (h : q) : (1 : Int32) = yn q := by rw [yn, if_pos h]
theorem yn_f {q : Prop} [Decidable q] (h : ¬ q) : (0 : Int32) = yn q := by rw [yn, if_neg h]
theorem yn_nar (q : Prop) [Decidable q] : narrow .boolean (.int (yn q)) = .int (yn q) := by
  by_cases h : q
  · rw [yn, if_pos h]; rfl
  · rw [yn, if_neg h]; rfl
end RW
end
section
/-! ===== calls over worlds: the callee's cells by their places, the rest stays ===== -/
theorem fm_all : ∀ (is : List Nat) (ws : va_W), is.all (fun i => decide (i < ws.length)) = true → is.map (fun i => ws[i]?) = (is.filterMap (fun i => ws[i]?)).map some
  | [], _, _ => rfl
  | i :: is, ws, h => by
    rw [List.all_cons, Bool.and_eq_true, decide_eq_true_eq] at h
    have hi : ws[i]? = some ws[i] := List.getElem?_eq_getElem h.1
    rw [List.filterMap_cons_some hi, List.map_cons, List.map_cons, fm_all is ws h.2, hi]
theorem PreW.blind {G : KG} {ws : va_W} {sz : Nat} {as : List Value} : FrameBlind (PreW G ws sz as) := fun a U g mk q => by
  obtain ⟨h1, h2, h3, h4, h5⟩ := q
  exact ⟨h1, h2, h3, va_K.moved (u := U) (U := U.calling g mk a) (Vm.Alike.refl U.vm) h4, h5⟩
section RC
variable {p : Program} {l : Launch} {e : Env} {R : Room} {s : State} {m : MethodId} {args : Array Value} {below : List Frame} {meth : Method} {c : Code} {H : Heap} {locs : List Loc} {cells slots : Nat} {Q : State → Prop}
variable {cc : ByteArray} {nL : Nat} {own : String} {Ts : List Cond} {ret : Option FieldType} {G : KG} {A : Nat → Prop} {ws : va_W} {pc : Nat} {ls : Array Slot} {rest st : List Value}
variable {wc : va_W} {a : Array Value} {mc ms : Nat}
theorem Wd.at (w : Wd G s A ws H locs) (isC : List Nat) (hn : va_nd isC = true) (hC : isC.map (fun i => ws[i]?) = wc.map some) : va_P G.1 vwCl wc H ∧ va_D (fun _ => True) wc := by
  have at' : ∀ (k : Nat) (q : Nat × va_E), wc[k]? = some q → ∃ i, isC[k]? = some i ∧ ws[i]? = some q := by
    intro k q hq
    have h1 : (isC.map (fun i => ws[i]?))[k]? = some (some q) := by rw [hC, List.getElem?_map, hq]; rfl
    rw [List.getElem?_map] at h1
    cases hi : isC[k]? with
    | none => rw [hi] at h1; cases h1
    | some i => rw [hi] at h1; exact ⟨i, rfl, Option.some.inj h1⟩
  refine ⟨fun k q hk => ?_, fun i j x y hx hy hxy => ?_, fun _ _ _ => trivial⟩
  · obtain ⟨i, -, h2⟩ := at' k q hk
    exact w.1 i q h2
  · obtain ⟨b, h3, h4⟩ := at' j y hy
    obtain ⟨a, h1, h2⟩ := at' i x hx
    have := w.2.1.1 a b x y h2 h4 hxy
    subst this
    exact va_nd_inj isC hn i j a h1 h3
theorem r_afterI {post : Int32 → va_W → Prop} (w : Wd G s A ws H locs) (isC isR : List Nat) (hC : isC.map (fun i => ws[i]?) = wc.map some) (hR : isR.all (fun i => decide (i < ws.length)) = true) (hn : va_nd isR = true) (hdis : isR.all (fun i => decide (i ∉ isC)) = true)
    (hr : va_Run p l e R s m args below meth c H locs cells slots mc ms (F0 m pc ls st) rest (QI G wc H.size post a) (va_A wc H.size))
    (kk : ∀ (r : Int32) (w1 : va_W) (H1 : Heap) (locs1 : List Loc), post r w1 → Wd G s A (isR.filterMap (fun i => ws[i]?) ++ w1) H1 locs1 → W p l e R s m args below meth c H1 locs1 (cells + mc) (slots + ms) Q (F0 m (pc + 3) ls (.int r :: rest))) : W p l e R s m args below meth c H locs cells slots Q (F0 m pc ls st) := by
  have hF := va_free w.2.1 w.2.2.1 w.2.2.2.2 isC hC
  refine va_calli hr w.2.2.1 (fun q _ h => hF q h) hF (fun r u t H1 locs1 ht hvm hpost hB hz hk hS => kk r u H1 locs1 hpost ?_)
  obtain ⟨hP1, -, hD1⟩ := hB
  rw [ht] at hP1
  obtain ⟨h1, h2⟩ := va_join w.1 w.2.1 isC isR hC (fm_all isR ws hR) hn (fun i hi => of_decide_eq_true (List.all_eq_true.mp hdis i hi)) hk hF hP1 hD1
  exact ⟨h1, h2, hS, w.2.2.2⟩
theorem r_afterV {post : va_W → Prop} (w : Wd G s A ws H locs) (isC isR : List Nat) (hC : isC.map (fun i => ws[i]?) = wc.map some) (hR : isR.all (fun i => decide (i < ws.length)) = true) (hn : va_nd isR = true) (hdis : isR.all (fun i => decide (i ∉ isC)) = true)
    (hr : va_Run p l e R s m args below meth c H locs cells slots mc ms (F0 m pc ls st) rest (QV G wc H.size post a) (va_A wc H.size))
    (kk : ∀ (w1 : va_W) (H1 : Heap) (locs1 : List Loc), post w1 → Wd G s A (isR.filterMap (fun i => ws[i]?) ++ w1) H1 locs1 → W p l e R s m args below meth c H1 locs1 (cells + mc) (slots + ms) Q (F0 m (pc + 3) ls rest)) : W p l e R s m args below meth c H locs cells slots Q (F0 m pc ls st) := by
  have hF := va_free w.2.1 w.2.2.1 w.2.2.2.2 isC hC
  refine va_callv hr w.2.2.1 (fun q _ h => hF q h) hF (fun u t H1 locs1 ht hvm hpost hB hz hk hS => kk u H1 locs1 hpost ?_)
  obtain ⟨hP1, -, hD1⟩ := hB
  rw [ht] at hP1
  obtain ⟨h1, h2⟩ := va_join w.1 w.2.1 isC isR hC (fm_all isR ws hR) hn (fun i hi => of_decide_eq_true (List.all_eq_true.mp hdis i hi)) hk hF hP1 hD1
  exact ⟨h1, h2, hS, w.2.2.2⟩
theorem PreW.at (w : Wd G s A ws H locs) (isC : List Nat) (hn : va_nd isC = true) (hC : isC.map (fun i => ws[i]?) = wc.map some) (as : List Value) : ∀ U : State, U.heap = H → s.WarmedH U.vm → PreW G wc H.size as as.toArray U := fun U hU hW =>
  ⟨rfl, by rw [hU], by rw [hU]; exact (w.at isC hn hC).1, va_K.moved hW.alike w.2.2.2.1, (w.at isC hn hC).2⟩
variable {nA0 : Nat} {y : MethodName} {Wy W' : List Cond} {bytes : ByteArray} {maxL index k j ci b N : Nat} {rt : Option FieldType} {As : List Value} {C : String} {T : u_T} {fs : List Value} {lv : List (Nat × Value)}
theorem r_callVI {post : Int32 → va_W → Prop} (F : Fx p s m args meth c cc nL own Ts ret) (w : Wd G s A ws H locs) (hM : MetI l y Wy k G wc (.ref b :: As) post) (hg : GoodIn Ts (wsV own index C y Wy)) (isC isR : List Nat) (hw : Wy = Cond.code y bytes maxL rt :: W')
    (hd : y.cls = C ∧ y.cls ≠ "java/lang/invoke/MethodHandle" ∧ y.cls ≠ "java/lang/invoke/VarHandle" ∧ (parseMethodDescriptor y.desc).map (fun d => d.parameters.length) = some nA0) (hAs : As.length = nA0) (hRm : k + 1 ≤ R.frames ∧ 8 + (maxL + 11) + 30 * k ≤ R.locals) (hcs : cells ≤ R.cells ∧ slots ≤ R.slots)
    (hC : isC.map (fun i => ws[i]?) = wc.map some) (hnC : va_nd isC = true) (hR : isR.all (fun i => decide (i < ws.length)) = true) (hn : va_nd isR = true) (hdis : isR.all (fun i => decide (i ∉ isC)) = true)
    (he : wc[0]? = some (b, .inr (ci, fs))) (hc : vwCl[ci]? = some (C, T, N)) (hl : lv_has ls nL lv) (hst : st = As.reverse ++ .ref b :: rest) (hroom : (rest.map fun v => v.category).sum ≤ 8) (hdg : decode cc pc = .ok (.invokevirtual index, 3))
    (kk : ∀ (r : Int32) (w1 : va_W) (H1 : Heap) (locs1 : List Loc), post r w1 → Wd G s A (isR.filterMap (fun i => ws[i]?) ++ w1) H1 locs1 → W p l e R s m args below meth c H1 locs1 cells slots Q (F0 m (pc + 3) ls (.int r :: rest))) : W p l e R s m args below meth c H locs cells slots Q (F0 m pc ls st) :=
  r_afterI w isC isR hC hR hn hdis (va_runV (As := As) (rest := rest) F.fix (hM H.size) (cwV nA0 F.ts hg hw rfl rfl hd hRm) ⟨PreW.blind, va_recv w.2.2.2.1 (w.at isC hnC hC).1 hc he, PreW.at w isC hnC hC _⟩ rfl hAs hl.1 hst (lv_room hroom) hdg hcs) kk
theorem r_callVV {post : va_W → Prop} (F : Fx p s m args meth c cc nL own Ts ret) (w : Wd G s A ws H locs) (hM : MetV l y Wy k mc ms G wc (.ref b :: As) post) (hg : GoodIn Ts (wsV own index C y Wy)) (isC isR : List Nat) (hw : Wy = Cond.code y bytes maxL rt :: W')
    (hd : y.cls = C ∧ y.cls ≠ "java/lang/invoke/MethodHandle" ∧ y.cls ≠ "java/lang/invoke/VarHandle" ∧ (parseMethodDescriptor y.desc).map (fun d => d.parameters.length) = some nA0) (hAs : As.length = nA0) (hRm : k + 1 ≤ R.frames ∧ 8 + (maxL + 11) + 30 * k ≤ R.locals) (hcs : cells + mc ≤ R.cells ∧ slots + ms ≤ R.slots)
    (hC : isC.map (fun i => ws[i]?) = wc.map some) (hnC : va_nd isC = true) (hR : isR.all (fun i => decide (i < ws.length)) = true) (hn : va_nd isR = true) (hdis : isR.all (fun i => decide (i ∉ isC)) = true)
    (he : wc[0]? = some (b, .inr (ci, fs))) (hc : vwCl[ci]? = some (C, T, N)) (hl : lv_has ls nL lv) (hst : st = As.reverse ++ .ref b :: rest) (hroom : (rest.map fun v => v.category).sum ≤ 8) (hdg : decode cc pc = .ok (.invokevirtual index, 3))
    (kk : ∀ (w1 : va_W) (H1 : Heap) (locs1 : List Loc), post w1 → Wd G s A (isR.filterMap (fun i => ws[i]?) ++ w1) H1 locs1 → W p l e R s m args below meth c H1 locs1 (cells + mc) (slots + ms) Q (F0 m (pc + 3) ls rest)) : W p l e R s m args below meth c H locs cells slots Q (F0 m pc ls st) :=
  r_afterV w isC isR hC hR hn hdis (va_runV (As := As) (rest := rest) F.fix (hM H.size) (cwV nA0 F.ts hg hw rfl rfl hd hRm) ⟨PreW.blind, va_recv w.2.2.2.1 (w.at isC hnC hC).1 hc he, PreW.at w isC hnC hC _⟩ rfl hAs hl.1 hst (lv_room hroom) hdg hcs) kk
/-- a static method that touches no cell -/
theorem r_callS0 {post : Int32 → va_W → Prop} (F : Fx p s m args meth c cc nL own Ts ret) (w : Wd G s A ws H locs) (hM : MetI l y Wy k G [] As post) (hg : GoodIn Ts (va_wsS own index y Wy)) (hw : Wy = Cond.code y bytes maxL rt :: W')
    (hd : y.cls ≠ "java/lang/invoke/MethodHandle" ∧ y.cls ≠ "java/lang/invoke/VarHandle" ∧ (parseMethodDescriptor y.desc).map (fun d => d.parameters.length) = some nA0) (hAs : As.length = nA0) (hRm : k + 1 ≤ R.frames ∧ 8 + (maxL + 11) + 30 * k ≤ R.locals) (hcs : cells ≤ R.cells ∧ slots ≤ R.slots)
    (hl : lv_has ls nL lv) (hst : st = As.reverse ++ rest) (hroom : (rest.map fun v => v.category).sum ≤ 8) (hdg : decode cc pc = .ok (.invokestatic index, 3))
    (kk : ∀ (r : Int32) (w1 : va_W) (H1 : Heap) (locs1 : List Loc), post r w1 → Wd G s A ws H1 locs1 → W p l e R s m args below meth c H1 locs1 cells slots Q (F0 m (pc + 3) ls (.int r :: rest))) : W p l e R s m args below meth c H locs cells slots Q (F0 m pc ls st) := by
  have hF : ∀ q, va_A [] H.size q → A q := va_free (wc := []) w.2.1 w.2.2.1 w.2.2.2.2 [] rfl
  refine va_calli (va_runS (As := As) (rest := rest) F.fix (hM H.size) (va_cwS nA0 F.ts hg hw rfl rfl hd hRm) ⟨PreW.blind, PreW.at w [] rfl rfl _⟩ rfl hAs hl.1 hst (lv_room hroom) hdg hcs) w.2.2.1 (fun q _ h => hF q h) hF (fun r u t H1 locs1 ht hvm hpost hB hz hk hS => kk r u H1 locs1 hpost ⟨?_, w.2.1, hS, w.2.2.2⟩)
  refine w.1.kept (fun k q hq => hk q.1 (w.1 k q hq).lt (fun h => ?_))
  rcases h with ⟨k, e, h⟩ | h
  · simp at h
  · exact Nat.lt_irrefl _ (Nat.lt_of_lt_of_le (w.1 k q hq).lt h)
theorem r_callSV {post : va_W → Prop} (F : Fx p s m args meth c cc nL own Ts ret) (w : Wd G s A ws H locs) (hM : MetV l y Wy k mc ms G wc As post) (hg : GoodIn Ts (va_wsS own index y Wy)) (isC isR : List Nat) (hw : Wy = Cond.code y bytes maxL rt :: W')
    (hd : y.cls ≠ "java/lang/invoke/MethodHandle" ∧ y.cls ≠ "java/lang/invoke/VarHandle" ∧ (parseMethodDescriptor y.desc).map (fun d => d.parameters.length) = some nA0) (hAs : As.length = nA0) (hRm : k + 1 ≤ R.frames ∧ 8 + (maxL + 11) + 30 * k ≤ R.locals) (hcs : cells + mc ≤ R.cells ∧ slots + ms ≤ R.slots)
    (hC : isC.map (fun i => ws[i]?) = wc.map some) (hnC : va_nd isC = true) (hR : isR.all (fun i => decide (i < ws.length)) = true) (hn : va_nd isR = true) (hdis : isR.all (fun i => decide (i ∉ isC)) = true)
    (hl : lv_has ls nL lv) (hst : st = As.reverse ++ rest) (hroom : (rest.map fun v => v.category).sum ≤ 8) (hdg : decode cc pc = .ok (.invokestatic index, 3))
    (kk : ∀ (w1 : va_W) (H1 : Heap) (locs1 : List Loc), post w1 → Wd G s A (isR.filterMap (fun i => ws[i]?) ++ w1) H1 locs1 → W p l e R s m args below meth c H1 locs1 (cells + mc) (slots + ms) Q (F0 m (pc + 3) ls rest)) : W p l e R s m args below meth c H locs cells slots Q (F0 m pc ls st) :=
  r_afterV w isC isR hC hR hn hdis (va_runS (As := As) (rest := rest) F.fix (hM H.size) (va_cwS nA0 F.ts hg hw rfl rfl hd hRm) ⟨PreW.blind, PreW.at w isC hnC hC _⟩ rfl hAs hl.1 hst (lv_room hroom) hdg hcs) kk
theorem r_min (F : Fx p s m args meth c cc nL own Ts ret) {x z : Nat} (hlink : (Cond.methodLink own index Lib.Math.min.name).before args s = true) (hstat : (Cond.static Lib.Math.min.name).before args s = true) (hini : (Cond.initialized "java/lang/Math").before args s = true) (hcode : (Cond.code Lib.Math.min.name Lib.Math.min.code 2 (some .int)).before args s = true)
    (hframes : 1 ≤ R.frames) (hlocals : (rest.map fun v => v.category).sum + 13 ≤ R.locals) (hcs : cells ≤ R.cells ∧ slots ≤ R.slots) (hx : x < 2 ^ 31) (hz : z < 2 ^ 31) (hl : lv_has ls nL lv) (hdg : decode cc pc = .ok (.invokestatic index, 3))
    (kk : W p l e R s m args below meth c H locs cells slots Q (F0 m (pc + 3) ls (.int (nI (min x z)) :: rest))) : W p l e R s m args below meth c H locs cells slots Q (F0 m pc ls (.int (nI z) :: .int (nI x) :: rest)) := by
  refine va_mmin F.1 F.2.1 (F.2.2.1.trans hl.1.symm) F.2.2.2.1 hlink hstat hini hcode hframes hlocals hcs.1 hcs.2 hdg ?_
  have : (if nI z < nI x then nI z else nI x) = nI (min x z) := by
    by_cases h : z < x
    · rw [if_pos ((nI_ltI hz hx).mpr h), Nat.min_eq_right (Nat.le_of_lt h)]
    · rw [if_neg (fun q => h ((nI_ltI hz hx).mp q)), Nat.min_eq_left (Nat.not_lt.mp h)]
  rw [this]
  exact kk
theorem eqW.rf : ∀ ws : va_W, eqW ws ws
  | [] => trivial
  | (_, x) :: l => ⟨rfl, eqE.rf x, eqW.rf l⟩
theorem eqW.set : ∀ (ws : va_W) (q : Nat) {b : Nat} {x z : va_E}, eqE x z → eqW (ws.set q (b, x)) (ws.set q (b, z))
  | [], _, _, _, _, _ => trivial
  | (_, v) :: l, 0, _, _, _, h => ⟨rfl, h, eqW.rf l⟩
  | (_, v) :: l, q + 1, _, _, _, h => ⟨rfl, eqE.rf v, eqW.set l q h⟩
theorem r_copy (F : Fx p s m args meth c cc nL own Ts ret) (w : Wd G s A ws H locs) (q1 q2 : Nat) {a1 a2 n : Nat} {f g : Nat → Nat} {ws' : va_W} (hlink : (Cond.methodLink own index arraycopyName).before args s = true) (hnat : (Cond.native arraycopyName).before args s = true) (hstat : (Cond.static arraycopyName).before args s = true) (hini : (Cond.initialized "java/lang/System").before args s = true)
    (h1 : ws[q1]? = some (aI G a1 n f)) (h2 : ws[q2]? = some (aI G a2 n g)) (hn : n < 2 ^ 31) (hframes : 1 ≤ R.frames) (hlocals : (rest.map fun v => v.category).sum + (nativeFrameWords "java/lang/System" "arraycopy" 5 + 11) ≤ R.locals) (hl : lv_has ls nL lv) (hdg : decode cc pc = .ok (.invokestatic index, 3)) (hw : ws.set q2 (aI G a2 n f) = ws')
    (kk : ∀ (H1 : Heap) (locs1 : List Loc), Wd G s A ws' H1 locs1 → W p l e R s m args below meth c H1 locs1 cells slots Q (F0 m (pc + 3) ls rest)) : W p l e R s m args below meth c H locs cells slots Q (F0 m pc ls (.int (nI n) :: .int (nI 0) :: .ref a2 :: .int (nI 0) :: .ref a1 :: rest)) := by
  subst hw
  have h0 : (nI 0).toNatClampNeg = 0 := nI_clamp (by decide)
  refine va_copyi F.1 F.2.1 (F.2.2.1.trans hl.1.symm) F.2.2.2.1 hlink hnat hstat hini w.2.2.2.1 w.1 w.2.1 w.2.2.1 q1 q2 0 0 h1 h2 rfl rfl rfl (nI_pos (by decide)) (nI_pos (by decide)) (nI_pos hn) (by rw [h0, nI_clamp hn, Nat.zero_add]; exact Nat.le_refl _) (by rw [h0, nI_clamp hn, Nat.zero_add]; exact Nat.le_refl _) (fun _ _ => rfl) hframes hlocals hdg (fun H1 locs1 g1 g2 g3 => kk H1 locs1 (Wd.eq (ws := ws.set q2 (a2, .inl (G.2.1, n, .inl (va_cpy (nA f) (nA g) 0 0 n)))) ⟨?_, ?_, g3, w.2.2.2⟩ (eqW.set ws q2 ⟨rfl, rfl, fun k hk => ?_⟩)))
  · rw [h0, nI_clamp hn] at g1; exact g1
  · rw [h0, nI_clamp hn] at g2; exact g2
  · rw [pk_cpy_in (Nat.zero_le k) (by omega)]
    simp
end RC
section RS
variable {p : Program} {l : Launch} {e : Env} {R : Room} {s : State} {m : MethodId} {args : Array Value} {below : List Frame} {meth : Method} {c : Code} {H : Heap} {locs : List Loc} {cells slots : Nat} {Q : State → Prop}
variable {cc : ByteArray} {nL : Nat} {own : String} {Ts : List Cond} {ret : Option FieldType} {pc : Nat} {ls : Array Slot} {rest : List Value}
theorem r_swIn (F : Fx p s m args meth c cc nL own Ts ret) {dflt lo hi : Int} {offs : Array Int} {len : Nat} {x k : Int32} {off : Int} {tgt : Nat} (hdg : decode cc pc = .ok (.tableswitch dflt lo hi offs, len)) (hx : x = k) (h1 : ¬ k.toInt < lo) (h2 : ¬ hi < k.toInt) (ho : offs[(k.toInt - lo).toNat]? = some off) (ht : (pc : Int) + off = (tgt : Int))
    (kk : W p l e R s m args below meth c H locs cells slots Q (F0 m tgt ls rest)) : W p l e R s m args below meth c H locs cells slots Q (F0 m pc ls (.int x :: rest)) := by
  subst hx
  exact lv_tableIn F.1 F.2.1 hdg h1 h2 ho ht kk
theorem r_swOut (F : Fx p s m args meth c cc nL own Ts ret) {dflt lo hi : Int} {offs : Array Int} {len : Nat} {x : Int32} {tgt : Nat} (hdg : decode cc pc = .ok (.tableswitch dflt lo hi offs, len)) (h : x.toInt < lo ∨ hi < x.toInt) (ht : (pc : Int) + dflt = (tgt : Int))
    (kk : W p l e R s m args below meth c H locs cells slots Q (F0 m tgt ls rest)) : W p l e R s m args below meth c H locs cells slots Q (F0 m pc ls (.int x :: rest)) := lv_tableOut F.1 F.2.1 hdg h ht kk
theorem r_swOutN (F : Fx p s m args meth c cc nL own Ts ret) {dflt lo hi : Int} {offs : Array Int} {len a : Nat} {tgt : Nat} (hdg : decode cc pc = .ok (.tableswitch dflt lo hi offs, len)) (ha : a < 2 ^ 31) (h : (a : Int) < lo ∨ hi < (a : Int)) (ht : (pc : Int) + dflt = (tgt : Int))
    (kk : W p l e R s m args below meth c H locs cells slots Q (F0 m tgt ls rest)) : W p l e R s m args below meth c H locs cells slots Q (F0 m pc ls (.int (nI a) :: rest)) := lv_tableOut F.1 F.2.1 hdg (by rw [nI_toInt ha]; exact h) ht kk
end RS
end
section
/-! ===== the mathematical words: a page of numbers, its segments ===== -/
def low (ln : Nat → Nat) : Nat → Nat
  | 0 => 0
  | k + 1 => low ln k + ln k
/-- the first of n segments above whose upper end a depth isn't; n if there is none -/
def sg (ln : Nat → Nat) (d : Nat) : Nat → Nat
  | 0 => 0
  | n + 1 => if sg ln d n < n then sg ln d n else if low ln (n + 1) ≤ d then n + 1 else n
theorem sg_le (ln : Nat → Nat) (d : Nat) : ∀ n, sg ln d n ≤ n
  | 0 => Nat.le_refl _
  | n + 1 => by
    have := sg_le ln d n
    unfold sg
    split
    · omega
    · split <;> omega
theorem sg_all {ln : Nat → Nat} {d : Nat} : ∀ {n : Nat}, (∀ j, j < n → low ln (j + 1) ≤ d) → sg ln d n = n
  | 0, _ => rfl
  | n + 1, h => by
    have h1 := sg_all (n := n) (fun j hj => h j (by omega))
    unfold sg
    rw [if_neg (by omega), if_pos (h n (by omega))]
theorem sg_at {ln : Nat → Nat} {d s : Nat} : ∀ {n : Nat}, s < n → (∀ j, j < s → low ln (j + 1) ≤ d) → d < low ln (s + 1) → sg ln d n = s
  | 0, hs, _, _ => absurd hs (Nat.not_lt_zero _)
  | n + 1, hs, h, hd => by
    unfold sg
    by_cases e : s = n
    · subst e
      rw [sg_all h, if_neg (Nat.lt_irrefl _), if_neg (by omega)]
    · have h1 := sg_at (n := n) (by omega) h hd
      rw [h1, if_pos (by omega)]
abbrev kdP (P : Nat → Nat) : Nat → Nat := fun k => P (46 + 4 * k)
abbrev lnP (P : Nat → Nat) : Nat → Nat := fun k => P (46 + 4 * k + 1)
abbrev dnP (P : Nat → Nat) : Nat → Nat := fun k => P (46 + 4 * k + 2)
abbrev moP (P : Nat → Nat) : Nat → Nat := fun k => P (46 + 4 * k + 3)
end
section
abbrev coreW (G : KG) (a : Nat → Nat) (sz : Nat) (hg : Nat) (kd : Nat → Nat) (ln : Nat → Nat) (dn : Nat → Nat) (mo : Nat → Nat) (lo : Nat → Nat) : va_W := [cO (a 0) 0 [.int (nI sz), .int (nI hg), .ref (a 1), .ref (a 2), .ref (a 3), .ref (a 4), .ref (a 5)], aI G (a 1) 20 kd, aI G (a 2) 20 ln, aI G (a 3) 20 dn, aI G (a 4) 20 mo, aI G (a 5) 20 lo]
abbrev linesW (G : KG) (a : Nat → Nat) (st : Nat → Nat) (di : Nat → Nat) (ga : Nat → Nat) (dr : Nat → Nat) (wa : Nat → Nat) : va_W := [cO (a 0) 2 [.ref (a 1), .ref (a 2), .ref (a 3), .ref (a 4), .ref (a 5)], aI G (a 1) 4 st, aI G (a 2) 4 di, aI G (a 3) 4 ga, aI G (a 4) 4 dr, aI G (a 5) 4 wa]
abbrev vialsW (G : KG) (a : Nat → Nat) (se : Nat) (pr : Nat) (wt : Nat → Nat) (dp : Nat → Nat) (tk : Nat → Nat) : va_W := [cO (a 0) 6 [.int (nI se), .int (nI pr), .ref (a 1), .ref (a 2), .ref (a 3)], aI G (a 1) 40 wt, aI G (a 2) 40 dp, aI G (a 3) 40 tk]
abbrev plH (G : KG) (a : Nat → Nat) (ca : Nat → Nat) (la : Nat → Nat) (va : Nat → Nat) (S : Nat → Nat) (Ac : Nat → Nat) (fr : Nat) (sto : Nat) (stk : Nat) (gas : Nat) (drt : Nat) (tol : Nat) (wbt : Nat) (tks : Nat) (rsn : Nat) (stp : Nat) : va_W := [cO (a 0) 3 [.ref (ca 0), .ref (la 0), .ref (va 0), .ref (a 1), .ref (a 2), .int (nI fr), .int (nI sto), .int (nI stk), .int (nI gas), .int (nI drt), .int (nI tol), .int (nI wbt), .int (nI tks), .int (nI rsn), .int (nI stp)], aI G (a 1) 8 S, aI G (a 2) 7 Ac]
abbrev textW (G : KG) (a : Nat → Nat) (tl : Nat) (T : Nat → Nat) : va_W := [cO (a 0) 5 [.int (nI tl), .ref (a 1)], aC G (a 1) 100 T]
abbrev readH (G : KG) (a : Nat → Nat) (ca : Nat → Nat) (fi : Nat) (re : Nat) (nu : Nat) (nx : Nat) (N : Nat → Nat) : va_W := [cO (a 0) 4 [.ref (ca 0), .int (nI fi), .int (nI re), .int (nI nu), .int (nI nx), .ref (a 1)], aI G (a 1) 3 N]
abbrev histH (G : KG) (a : Nat → Nat) (hs : Nat) (old : Nat) (f : Nat → Option Nat) : va_W := [cO (a 0) 1 [.int (nI hs), .int (nI old), .ref (a 1)], aP G (a 1) 5 f]
abbrev mainW (G : KG) (a : Nat → Nat) (n0 : Nat) (t0 : Nat) (h0 : Nat) (x0 : Nat) (r0 : Nat) : va_W := [cO (a 0) 7 [.ref n0, .ref t0, .ref h0, .ref x0, .ref r0]]
abbrev mW (G : KG) (a : Nat → Nat) (P : Nat → Nat) (Sp : Nat → Nat) (Hs : Nat → Nat) (sc : Nat) (T : Nat → Nat) (tl : Nat) (tp : Nat) (fa : Nat) (fr : Nat) (fn : Nat) (N : Nat → Nat) : va_W := [cO (a 0) 8 [.ref (a 1), .ref (a 2), .ref (a 3), .int (nI sc), .ref (a 4), .int (nI tl), .int (nI tp), .int (nI fa), .int (nI fr), .int (nI fn), .ref (a 5)], aI G (a 1) 246 P, aI G (a 2) 246 Sp, aI G (a 3) 1230 Hs, aI G (a 4) 100 T, aI G (a 5) 3 N]
abbrev iA (G : KG) (a : Nat) (n : Nat) (f : Nat → Nat) : va_W := [aI G a n f]
theorem okX0 : ClsOk TX0 7 tyX0 := ⟨tyX0_ok, nmX0⟩
theorem okX1 : ClsOk TX1 3 tyX1 := ⟨tyX1_ok, nmX1⟩
theorem okX2 : ClsOk TX2 5 tyX2 := ⟨tyX2_ok, nmX2⟩
theorem okX3 : ClsOk TX3 15 tyX3 := ⟨tyX3_ok, nmX3⟩
theorem okX4 : ClsOk TX4 6 tyX4 := ⟨tyX4_ok, nmX4⟩
theorem okX5 : ClsOk TX5 2 tyX5 := ⟨tyX5_ok, nmX5⟩
theorem okX6 : ClsOk TX6 5 tyX6 := ⟨tyX6_ok, nmX6⟩
theorem okX7 : ClsOk TX7 5 tyX7 := ⟨tyX7_ok, nmX7⟩
theorem okX8 : ClsOk TX8 11 tyX8 := ⟨tyX8_ok, nmX8⟩
end
section
set_option maxRecDepth 100000 in
set_option maxHeartbeats 4000000 in
theorem c_X8_in (l : Launch) (G : KG) (v least most : Int32) : MetI l yX8_in wsX8_in 0 G (([] : va_W)) [.int v, .int least, .int most] (fun r w => r = yn (least ≤ v ∧ v ≤ most) ∧ w = []) := by
  refine MetI.by (cc := cX8_in) (nL := 3) (ret := some .boolean) (by decide +kernel) rfl (Nat.le_of_ble_eq_true rfl) ?_
  intro p e s m args below meth c F w ls hl
  have hl : lv_has ls 3 [(0, .int v), (1, .int least), (2, .int most)] := hl
  have hts := F.ts
  refine lv_iload_n F.1 F.2.1 dX8_in_0 rfl (lv_at hl 0 rfl) ?_
  refine lv_iload_n F.1 F.2.1 dX8_in_1 rfl (lv_at hl 1 rfl) ?_
  refine lv_icmp_lt (tgt := 14) F.1 F.2.1 dX8_in_2 (by decide) (fun c2 => ?_) (fun c2 => ?_)
  · skip
    refine lv_iconst (v := nI 0) F.1 F.2.1 dX8_in_14 (by decide) ?_
    exact r_zreturn F w dX8_in_15 rfl (⟨by first | exact yn_t ⟨by simpa [Int32.not_lt] using c2, by simpa [Int32.not_lt] using c7⟩ | exact yn_f (fun q => absurd q.1 (by simpa [Int32.not_le] using c2)) | exact yn_f (fun q => absurd q.2 (by simpa [Int32.not_le] using c7)), rfl⟩)
  · skip
    refine lv_iload_n F.1 F.2.1 dX8_in_5 rfl (lv_at hl 0 rfl) ?_
    refine lv_iload_n F.1 F.2.1 dX8_in_6 rfl (lv_at hl 2 rfl) ?_
    refine lv_icmp_gt (tgt := 14) F.1 F.2.1 dX8_in_7 (by decide) (fun c7 => ?_) (fun c7 => ?_)
    · skip
      refine lv_iconst (v := nI 0) F.1 F.2.1 dX8_in_14 (by decide) ?_
      exact r_zreturn F w dX8_in_15 rfl (⟨by first | exact yn_t ⟨by simpa [Int32.not_lt] using c2, by simpa [Int32.not_lt] using c7⟩ | exact yn_f (fun q => absurd q.1 (by simpa [Int32.not_le] using c2)) | exact yn_f (fun q => absurd q.2 (by simpa [Int32.not_le] using c7)), rfl⟩)
    · skip
      refine lv_iconst (v := nI 1) F.1 F.2.1 dX8_in_10 (by decide) ?_
      refine lv_goto (tgt := 15) F.1 F.2.1 dX8_in_11 (by decide) ?_
      exact r_zreturn F w dX8_in_15 rfl (⟨by first | exact yn_t ⟨by simpa [Int32.not_lt] using c2, by simpa [Int32.not_lt] using c7⟩ | exact yn_f (fun q => absurd q.1 (by simpa [Int32.not_le] using c2)) | exact yn_f (fun q => absurd q.2 (by simpa [Int32.not_le] using c7)), rfl⟩)
theorem c_X8_inN (l : Launch) (G : KG) (v lo hi : Nat) (hv : v < 2 ^ 31) (h1 : lo < 2 ^ 31) (h2 : hi < 2 ^ 31) : MetI l yX8_in wsX8_in 0 G ([] : va_W) [.int (nI v), .int (nI lo), .int (nI hi)] (fun r w => r = yn (lo ≤ v ∧ v ≤ hi) ∧ w = []) := by
  have h := c_X8_in l G (nI v) (nI lo) (nI hi)
  have e : (nI lo ≤ nI v ∧ nI v ≤ nI hi) ↔ (lo ≤ v ∧ v ≤ hi) := by rw [nI_leI h1 hv, nI_leI hv h2]
  have e2 : yn (nI lo ≤ nI v ∧ nI v ≤ nI hi) = yn (lo ≤ v ∧ v ≤ hi) := by unfold yn; simp only [e]
  rw [e2] at h
  exact h
set_option maxRecDepth 100000 in
set_option maxHeartbeats 4000000 in
theorem c_X8_lesser (l : Launch) (G : KG) (x z : Nat) (hx : x < 2 ^ 31) (hz : z < 2 ^ 31) : MetI l yX8_lesser wsX8_lesser 0 G (([] : va_W)) [.int (nI x), .int (nI z)] (fun r w => r = nI (min x z) ∧ w = []) := by
  refine MetI.by (cc := cX8_lesser) (nL := 2) (ret := some .int) (by decide +kernel) rfl (Nat.le_of_ble_eq_true rfl) ?_
  intro p e s m args below meth c F w ls hl
  have hl : lv_has ls 2 [(0, .int (nI x)), (1, .int (nI z))] := hl
  have hts := F.ts
  refine lv_iload_n F.1 F.2.1 dX8_lesser_0 rfl (lv_at hl 0 rfl) ?_
  refine lv_iload_n F.1 F.2.1 dX8_lesser_1 rfl (lv_at hl 1 rfl) ?_
  refine r_cge (tgt := 9) F dX8_lesser_2 (by decide) (by omega) (by omega) (fun c2 => ?_) (fun c2 => ?_)
  · skip
    refine lv_iload_n F.1 F.2.1 dX8_lesser_9 rfl (lv_at hl 1 rfl) ?_
    exact r_ireturn F w dX8_lesser_10 (⟨congrArg nI (by omega), rfl⟩)
  · skip
    refine lv_iload_n F.1 F.2.1 dX8_lesser_5 rfl (lv_at hl 0 rfl) ?_
    refine lv_goto (tgt := 10) F.1 F.2.1 dX8_lesser_6 (by decide) ?_
    exact r_ireturn F w dX8_lesser_10 (⟨congrArg nI (by omega), rfl⟩)
set_option maxRecDepth 100000 in
set_option maxHeartbeats 4000000 in
theorem c_X8_of (l : Launch) (G : KG) (a P Sp Hs T N : Nat → Nat) (sc tl tp fa fr fn : Nat) (i j : Nat) (h : 46 + 4 * i + j < 246) : MetI l yX8_of wsX8_of 0 G (mW G a P Sp Hs sc T tl tp fa fr fn N) [.ref (a 0), .int (nI i), .int (nI j)] (fun r v => r = nI (P (46 + 4 * i + j)) ∧ v = mW G a P Sp Hs sc T tl tp fa fr fn N) := by
  refine MetI.by (cc := cX8_of) (nL := 3) (ret := some .int) (by decide +kernel) rfl (Nat.le_of_ble_eq_true rfl) ?_
  intro p e s m args below meth c F w ls hl
  have hl : lv_has ls 3 [(0, .ref (a 0)), (1, .int (nI i)), (2, .int (nI j))] := hl
  have hts := F.ts
  have iX8 : ∀ w ∈ wsX80, w ∈ wsX8_of := by decide +kernel
  have f7 := hts (.fieldLink RX8 7 "CoreMelterModel" "m" "[I") (by decide +kernel)
  refine lv_aload_n F.1 F.2.1 dX8_of_0 rfl (lv_at hl 0 rfl) ?_
  refine r_get F w 0 0 iX8 f7 rfl rfl rfl (by decide) rfl dX8_of_1 ?_
  refine lv_bipush (v := nI 46) F.1 F.2.1 dX8_of_4 (by decide) ?_
  refine lv_iconst (v := nI 4) F.1 F.2.1 dX8_of_6 (by decide) ?_
  refine lv_iload_n F.1 F.2.1 dX8_of_7 rfl (lv_at hl 1 rfl) ?_
  refine r_imul F dX8_of_8 ?_
  refine r_iadd F dX8_of_9 ?_
  refine lv_iload_n F.1 F.2.1 dX8_of_10 rfl (lv_at hl 2 rfl) ?_
  refine r_iadd F dX8_of_11 ?_
  refine r_iald F w 1 rfl (by omega) (by decide) dX8_of_12 ?_
  exact r_ireturn F w dX8_of_13 (⟨rfl, rfl⟩)
set_option maxRecDepth 100000 in
set_option maxHeartbeats 4000000 in
theorem c_X8_ofLine (l : Launch) (G : KG) (a P Sp Hs T N : Nat → Nat) (sc tl tp fa fr fn : Nat) (i j : Nat) (h : 26 + 5 * i + j < 246) : MetI l yX8_ofLine wsX8_ofLine 0 G (mW G a P Sp Hs sc T tl tp fa fr fn N) [.ref (a 0), .int (nI i), .int (nI j)] (fun r v => r = nI (P (26 + 5 * i + j)) ∧ v = mW G a P Sp Hs sc T tl tp fa fr fn N) := by
  refine MetI.by (cc := cX8_ofLine) (nL := 3) (ret := some .int) (by decide +kernel) rfl (Nat.le_of_ble_eq_true rfl) ?_
  intro p e s m args below meth c F w ls hl
  have hl : lv_has ls 3 [(0, .ref (a 0)), (1, .int (nI i)), (2, .int (nI j))] := hl
  have hts := F.ts
  have iX8 : ∀ w ∈ wsX80, w ∈ wsX8_ofLine := by decide +kernel
  have f7 := hts (.fieldLink RX8 7 "CoreMelterModel" "m" "[I") (by decide +kernel)
  refine lv_aload_n F.1 F.2.1 dX8_ofLine_0 rfl (lv_at hl 0 rfl) ?_
  refine r_get F w 0 0 iX8 f7 rfl rfl rfl (by decide) rfl dX8_ofLine_1 ?_
  refine lv_bipush (v := nI 26) F.1 F.2.1 dX8_ofLine_4 (by decide) ?_
  refine lv_iconst (v := nI 5) F.1 F.2.1 dX8_ofLine_6 (by decide) ?_
  refine lv_iload_n F.1 F.2.1 dX8_ofLine_7 rfl (lv_at hl 1 rfl) ?_
  refine r_imul F dX8_ofLine_8 ?_
  refine r_iadd F dX8_ofLine_9 ?_
  refine lv_iload_n F.1 F.2.1 dX8_ofLine_10 rfl (lv_at hl 2 rfl) ?_
  refine r_iadd F dX8_ofLine_11 ?_
  refine r_iald F w 1 rfl (by omega) (by decide) dX8_ofLine_12 ?_
  exact r_ireturn F w dX8_ofLine_13 (⟨rfl, rfl⟩)
set_option maxRecDepth 100000 in
set_option maxHeartbeats 4000000 in
theorem c_X8_lower (l : Launch) (G : KG) (a P Sp Hs T N : Nat → Nat) (sc tl tp fa fr fn : Nat) (i : Nat) (hs : i ≤ 20) : MetI l yX8_lower wsX8_lower 1 G (mW G a P Sp Hs sc T tl tp fa fr fn N) [.ref (a 0), .int (nI i)] (fun r v => r = nI (low (lnP P) i) ∧ v = mW G a P Sp Hs sc T tl tp fa fr fn N) := by
  refine MetI.by (cc := cX8_lower) (nL := 4) (ret := some .int) (by decide +kernel) rfl (Nat.le_of_ble_eq_true rfl) ?_
  intro p e s m args below meth c F w ls hl
  have hl : lv_has ls 4 [(0, .ref (a 0)), (1, .int (nI i))] := hl
  have hts := F.ts
  refine lv_iconst (v := nI 0) F.1 F.2.1 dX8_lower_0 (by decide) ?_
  refine lv_istore_n (lv' := [(2, .int (nI 0)), (0, .ref (a 0)), (1, .int (nI i))]) F.1 F.2.1 dX8_lower_1 rfl hl (by decide) rfl (fun ls hl => ?_)
  refine lv_iconst (v := nI 0) F.1 F.2.1 dX8_lower_2 (by decide) ?_
  refine lv_istore_n (lv' := [(3, .int (nI 0)), (2, .int (nI 0)), (0, .ref (a 0)), (1, .int (nI i))]) F.1 F.2.1 dX8_lower_3 rfl hl (by decide) rfl (fun ls hl => ?_)
  have L4 : ∀ n : Nat, ∀ (k : Nat), (k ≤ i) → i - k < n → ∀ (H : Heap) (locs : List Loc), Wd G s (va_A (mW G a P Sp Hs sc T tl tp fa fr fn N) s.heap.size) (mW G a P Sp Hs sc T tl tp fa fr fn N) H locs → ∀ ls : Array Slot, lv_has ls 4 [(0, .ref (a 0)), (1, .int (nI i)), (2, .int (nI (low (lnP P) k))), (3, .int (nI k))] → W p l e (rmK 1 0 0) s m args below meth c H locs 0 0 (MQ below (QI G (mW G a P Sp Hs sc T tl tp fa fr fn N) s.heap.size (fun r v => r = nI (low (lnP P) i) ∧ v = mW G a P Sp Hs sc T tl tp fa fr fn N)) args s 0 0 (va_A (mW G a P Sp Hs sc T tl tp fa fr fn N) s.heap.size)) (F0 m 4 ls []) := by
    intro n
    induction n with
    | zero => intro k h1 hm; exact absurd hm (Nat.not_lt_zero _)
    | succ n ih4 =>
      intro k h1 hm4 H locs w ls hl
      refine lv_iload_n F.1 F.2.1 dX8_lower_4 rfl (lv_at hl 3 rfl) ?_
      refine lv_iload_n F.1 F.2.1 dX8_lower_5 rfl (lv_at hl 1 rfl) ?_
      refine r_cge (tgt := 24) F dX8_lower_6 (by decide) (by omega) (by omega) (fun c6 => ?_) (fun c6 => ?_)
      · skip
        refine lv_iload_n F.1 F.2.1 dX8_lower_24 rfl (lv_at hl 2 rfl) ?_
        exact r_ireturn F w dX8_lower_25 (⟨congrArg (fun z => nI (low (lnP P) z)) (by omega), rfl⟩)
      · skip
        refine lv_iload_n F.1 F.2.1 dX8_lower_9 rfl (lv_at hl 2 rfl) ?_
        refine lv_aload_n F.1 F.2.1 dX8_lower_10 rfl (lv_at hl 0 rfl) ?_
        refine lv_iload_n F.1 F.2.1 dX8_lower_11 rfl (lv_at hl 3 rfl) ?_
        refine lv_iconst (v := nI 1) F.1 F.2.1 dX8_lower_12 (by decide) ?_
        refine r_callVI (rest := [.int (nI (low (lnP P) k))]) F w (c_X8_of l G a P Sp Hs T N sc tl tp fa fr fn k 1 (by omega)) gX8_lower_X8_of [0, 1, 2, 3, 4, 5] [] (nA0 := 2) rfl (by decide +kernel) rfl ⟨Nat.le_of_ble_eq_true rfl, Nat.le_of_ble_eq_true rfl⟩ ⟨Nat.le_of_ble_eq_true rfl, Nat.le_of_ble_eq_true rfl⟩ rfl rfl rfl rfl rfl rfl rfl hl rfl (Nat.le_of_ble_eq_true rfl) dX8_lower_13 (fun r_13 w1 H locs hp w => ?_)
        obtain ⟨rfl, rfl⟩ := hp
        have w := w.sub (ws' := mW G a P Sp Hs sc T tl tp fa fr fn N) [0, 1, 2, 3, 4, 5] (by decide) rfl
        refine r_iadd F dX8_lower_16 ?_
        refine lv_istore_n (lv' := [(2, .int (nI ((low (lnP P) k) + (P (46 + 4 * k + 1))))), (0, .ref (a 0)), (1, .int (nI i)), (3, .int (nI k))]) F.1 F.2.1 dX8_lower_17 rfl hl (by decide) rfl (fun ls hl => ?_)
        refine lv_iinc (v := nI (k + 1)) (lv' := [(3, .int (nI (k + 1))), (2, .int (nI ((low (lnP P) k) + (P (46 + 4 * k + 1))))), (0, .ref (a 0)), (1, .int (nI i))]) F.1 F.2.1 dX8_lower_18 hl (k := 3) rfl (nI_add _ _) (by decide) rfl (fun ls hl => ?_)
        refine lv_goto (tgt := 4) F.1 F.2.1 dX8_lower_21 (by decide) ?_
        exact ih4 (k + 1) (by omega) (by omega) _ _ w ls (lv_sub hl [2, 3, 1, 0] rfl)
  exact L4 _ 0 (Nat.zero_le _) (Nat.lt_succ_self _) _ _ w ls (lv_sub hl [2, 3, 1, 0] rfl)
set_option maxRecDepth 100000 in
set_option maxHeartbeats 4000000 in
theorem c_X8_length (l : Launch) (G : KG) (a P Sp Hs T N : Nat → Nat) (sc tl tp fa fr fn : Nat) (hP : P 8 ≤ 20) : MetI l yX8_length wsX8_length 2 G (mW G a P Sp Hs sc T tl tp fa fr fn N) [.ref (a 0)] (fun r v => r = nI (low (lnP P) (P 8)) ∧ v = mW G a P Sp Hs sc T tl tp fa fr fn N) := by
  refine MetI.by (cc := cX8_length) (nL := 1) (ret := some .int) (by decide +kernel) rfl (Nat.le_of_ble_eq_true rfl) ?_
  intro p e s m args below meth c F w ls hl
  have hl : lv_has ls 1 [(0, .ref (a 0))] := hl
  have hts := F.ts
  have iX8 : ∀ w ∈ wsX80, w ∈ wsX8_length := by decide +kernel
  have f7 := hts (.fieldLink RX8 7 "CoreMelterModel" "m" "[I") (by decide +kernel)
  refine lv_aload_n F.1 F.2.1 dX8_length_0 rfl (lv_at hl 0 rfl) ?_
  refine lv_aload_n F.1 F.2.1 dX8_length_1 rfl (lv_at hl 0 rfl) ?_
  refine r_get F w 0 0 iX8 f7 rfl rfl rfl (by decide) rfl dX8_length_2 ?_
  refine lv_bipush (v := nI 8) F.1 F.2.1 dX8_length_5 (by decide) ?_
  refine r_iald F w 1 rfl (by omega) (by decide) dX8_length_7 ?_
  refine r_callVI (rest := []) F w (c_X8_lower l G a P Sp Hs T N sc tl tp fa fr fn (P 8) (by omega)) gX8_length_X8_lower [0, 1, 2, 3, 4, 5] [] (nA0 := 1) rfl (by decide +kernel) rfl ⟨Nat.le_of_ble_eq_true rfl, Nat.le_of_ble_eq_true rfl⟩ ⟨Nat.le_of_ble_eq_true rfl, Nat.le_of_ble_eq_true rfl⟩ rfl rfl rfl rfl rfl rfl rfl hl rfl (Nat.le_of_ble_eq_true rfl) dX8_length_8 (fun r_8 w1 H locs hp w => ?_)
  obtain ⟨rfl, rfl⟩ := hp
  have w := w.sub (ws' := mW G a P Sp Hs sc T tl tp fa fr fn N) [0, 1, 2, 3, 4, 5] (by decide) rfl
  exact r_ireturn F w dX8_length_11 (⟨rfl, rfl⟩)
end
section
/-! ===== the mathematics of a page: bounds, melting, drawing, telling ===== -/
def SegK (kd ln dn mo : Nat) : Prop := 1 ≤ ln ∧ ln ≤ 300 ∧ ((kd = 0 ∧ 60 ≤ dn ∧ dn ≤ 92 ∧ mo ≤ 50) ∨ (kd = 1 ∧ dn = 0 ∧ mo = 0) ∨ (kd = 2 ∧ 60 ≤ dn ∧ dn ≤ 92 ∧ 1 ≤ mo ∧ mo ≤ 100))
def SegOk (P : Nat → Nat) : Prop := P 8 ≤ 20 ∧ ∀ k, k < P 8 → SegK (P (46 + 4 * k)) (P (46 + 4 * k + 1)) (P (46 + 4 * k + 2)) (P (46 + 4 * k + 3))
def SetOk (P : Nat → Nat) : Prop := P 0 ≤ 200 ∧ 10 ≤ P 1 ∧ P 1 ≤ 200 ∧ 100 ≤ P 2 ∧ P 2 ≤ 20000 ∧ 1 ≤ P 3 ∧ P 3 ≤ 500 ∧ 50 ≤ P 4 ∧ P 4 ≤ 5000 ∧ 5 ≤ P 5 ∧ P 5 ≤ 200 ∧ 50 ≤ P 6 ∧ P 6 ≤ 5000 ∧ P 7 ≤ 50
def top (P : Nat → Nat) : Nat := low (lnP P) (P 8)
theorem low_mono (ln : Nat → Nat) : ∀ {i j : Nat}, i ≤ j → low ln i ≤ low ln j := by
  intro i j h
  induction h with
  | refl => exact Nat.le_refl _
  | step h ih => exact Nat.le_trans ih (Nat.le_add_right _ _)
theorem low_bound {ln : Nat → Nat} : ∀ {n : Nat}, (∀ k, k < n → ln k ≤ 300) → low ln n ≤ 300 * n
  | 0, _ => Nat.le_refl _
  | n + 1, h => by
    have h1 := low_bound (n := n) (fun k hk => h k (by omega))
    have h2 := h n (Nat.lt_succ_self n)
    show low ln n + ln n ≤ 300 * (n + 1)
    omega
theorem low_congr {f g : Nat → Nat} : ∀ {n : Nat}, (∀ k, k < n → f k = g k) → low f n = low g n
  | 0, _ => rfl
  | n + 1, h => by
    show low f n + f n = low g n + g n
    rw [low_congr (fun k hk => h k (by omega)), h n (Nat.lt_succ_self n)]
theorem sg_lt {ln : Nat → Nat} {d : Nat} : ∀ {n : Nat}, d < low ln n → sg ln d n < n ∧ low ln (sg ln d n) ≤ d ∧ d < low ln (sg ln d n + 1)
  | 0, h => absurd h (Nat.not_lt_zero _)
  | n + 1, h => by
    by_cases hd : d < low ln n
    · obtain ⟨h1, h2, h3⟩ := sg_lt (n := n) hd
      have e : sg ln d (n + 1) = sg ln d n := by
        show (if sg ln d n < n then sg ln d n else _) = _
        rw [if_pos h1]
      rw [e]
      exact ⟨by omega, h2, h3⟩
    · have e0 : sg ln d n = n := sg_all (fun j hj => Nat.le_trans (low_mono ln (show j + 1 ≤ n by omega)) (by omega))
      have e : sg ln d (n + 1) = n := by
        show (if sg ln d n < n then sg ln d n else if low ln (n + 1) ≤ d then n + 1 else n) = n
        rw [if_neg (by omega), if_neg (by omega)]
      rw [e]
      exact ⟨Nat.lt_succ_self n, by omega, h⟩
/-- the water of all below a depth, of the whole segments, and the depth that so much water reaches -/
def wat (ln dn : Nat → Nat) (d : Nat) : Nat → Nat
  | 0 => 0
  | k + 1 => wat ln dn d k + min (ln k) (d - low ln k) * dn k
def wsm (ln dn : Nat → Nat) : Nat → Nat
  | 0 => 0
  | k + 1 => wsm ln dn k + ln k * dn k
def dep (ln dn : Nat → Nat) (w : Nat) : Nat → Nat
  | 0 => 0
  | k + 1 => if wsm ln dn k ≤ w then low ln k + (if dn k = 0 then ln k else min (ln k) ((w - wsm ln dn k) / dn k)) else dep ln dn w k
theorem wsm_mono (ln dn : Nat → Nat) : ∀ {i j : Nat}, i ≤ j → wsm ln dn i ≤ wsm ln dn j := by
  intro i j h
  induction h with
  | refl => exact Nat.le_refl _
  | step h ih => exact Nat.le_trans ih (Nat.le_add_right _ _)
theorem wat_full (ln dn : Nat → Nat) {d : Nat} : ∀ {n : Nat}, low ln n ≤ d → wat ln dn d n = wsm ln dn n
  | 0, _ => rfl
  | n + 1, h => by
    have h0 : low ln n + ln n ≤ d := h
    show wat ln dn d n + min (ln n) (d - low ln n) * dn n = wsm ln dn n + ln n * dn n
    rw [wat_full ln dn (n := n) (by omega), Nat.min_eq_left (by omega)]
theorem wat_le (ln dn : Nat → Nat) (d : Nat) : ∀ n, wat ln dn d n ≤ wsm ln dn n
  | 0 => Nat.le_refl _
  | n + 1 => Nat.add_le_add (wat_le ln dn d n) (Nat.mul_le_mul_right _ (Nat.min_le_left _ _))
theorem wat_more (ln dn : Nat → Nat) {d : Nat} : ∀ {n k : Nat}, d ≤ low ln n → n ≤ k → wat ln dn d k = wat ln dn d n := by
  intro n k hd h
  induction h with
  | refl => rfl
  | step h ih =>
    rename_i m
    show wat ln dn d m + min (ln m) (d - low ln m) * dn m = _
    rw [ih, Nat.sub_eq_zero_of_le (Nat.le_trans hd (low_mono ln h)), Nat.min_zero, Nat.zero_mul, Nat.add_zero]
theorem dep_le (ln dn : Nat → Nat) (w : Nat) : ∀ n, dep ln dn w n ≤ low ln n
  | 0 => Nat.le_refl _
  | n + 1 => by
    have h := dep_le ln dn w n
    show (if wsm ln dn n ≤ w then low ln n + (if dn n = 0 then ln n else min (ln n) ((w - wsm ln dn n) / dn n)) else dep ln dn w n) ≤ low ln n + ln n
    split
    · split
      · omega
      · have := Nat.min_le_left (ln n) ((w - wsm ln dn n) / dn n)
        omega
    · omega
theorem dep_iff (ln dn : Nat → Nat) (w d : Nat) : ∀ n, d ≤ low ln n → (wat ln dn d n ≤ w ↔ d ≤ dep ln dn w n)
  | 0, h => by
    have h : d ≤ 0 := h
    exact ⟨fun _ => h, fun _ => Nat.zero_le _⟩
  | n + 1, h => by
    have h : d ≤ low ln n + ln n := h
    have hl := dep_le ln dn w n
    show wat ln dn d n + min (ln n) (d - low ln n) * dn n ≤ w ↔ d ≤ (if wsm ln dn n ≤ w then low ln n + (if dn n = 0 then ln n else min (ln n) ((w - wsm ln dn n) / dn n)) else dep ln dn w n)
    by_cases hd : d ≤ low ln n
    · rw [Nat.sub_eq_zero_of_le hd, Nat.min_zero, Nat.zero_mul, Nat.add_zero]
      by_cases hw : wsm ln dn n ≤ w
      · rw [if_pos hw]
        have := wat_le ln dn d n
        exact ⟨fun _ => by omega, fun _ => by omega⟩
      · rw [if_neg hw]
        exact dep_iff ln dn w d n hd
    · rw [wat_full ln dn (n := n) (by omega), Nat.min_eq_right (by omega)]
      by_cases hw : wsm ln dn n ≤ w
      · rw [if_pos hw]
        by_cases h0 : dn n = 0
        · rw [if_pos h0, h0]
          exact ⟨fun _ => h, fun _ => by omega⟩
        · rw [if_neg h0]
          have h1 : d - low ln n ≤ (w - wsm ln dn n) / dn n ↔ (d - low ln n) * dn n ≤ w - wsm ln dn n := Nat.le_div_iff_mul_le (by omega)
          have h2 : min (ln n) ((w - wsm ln dn n) / dn n) = ln n ∨ min (ln n) ((w - wsm ln dn n) / dn n) = (w - wsm ln dn n) / dn n := by omega
          generalize (d - low ln n) * dn n = z at h1 ⊢
          generalize (w - wsm ln dn n) / dn n = y at h1 h2 ⊢
          constructor
          · intro hz
            have := h1.mpr (by omega)
            omega
          · intro hz
            have := h1.mp (by omega)
            omega
      · rw [if_neg hw]
        constructor
        · intro hz; omega
        · intro hz; omega
theorem dep_stop (ln dn : Nat → Nat) {w k : Nat} : ∀ {n : Nat}, k ≤ n → w < wsm ln dn k → dep ln dn w n = dep ln dn w k := by
  intro n h hw
  induction h with
  | refl => rfl
  | step h ih =>
    rename_i m
    show (if wsm ln dn m ≤ w then _ else dep ln dn w m) = _
    have := wsm_mono ln dn h
    rw [if_neg (by omega), ih]
/-- the depth that is told: the greatest one, at most the front, below which there is at most so much water -/
theorem told_is {ln dn : Nat → Nat} {w d fr n : Nat} (hf : fr ≤ low ln n) (hd : d ≤ fr) (h1 : wat ln dn d n ≤ w) (h2 : d = fr ∨ w < wat ln dn (d + 1) n) : min (dep ln dn w n) fr = d := by
  have h3 := (dep_iff ln dn w d n (by omega)).mp h1
  rcases h2 with h2 | h2
  · omega
  · by_cases e : d = fr
    · omega
    · have h4 := dep_iff ln dn w (d + 1) n (by omega)
      omega
theorem wat_bound {ln dn : Nat → Nat} {d : Nat} : ∀ {n : Nat}, (∀ k, k < n → dn k ≤ 92) → wat ln dn d n ≤ 92 * min d (low ln n)
  | 0, _ => by show 0 ≤ _; omega
  | n + 1, h => by
    have h1 := wat_bound (ln := ln) (d := d) (n := n) (fun k hk => h k (by omega))
    have h2 := h n (Nat.lt_succ_self n)
    show wat ln dn d n + min (ln n) (d - low ln n) * dn n ≤ 92 * min d (low ln n + ln n)
    have h3 : min (ln n) (d - low ln n) * dn n ≤ min (ln n) (d - low ln n) * 92 := Nat.mul_le_mul_left _ h2
    generalize min (ln n) (d - low ln n) * dn n = z at h3 ⊢
    omega
def toldF (P : Nat → Nat) : Nat := min (dep (lnP P) (dnP P) (P 20 + P 21) (P 8)) (P 9)
def stuckN (P : Nat → Nat) : Nat := P 26 + P 31 + P 36 + P 41
def reasonF (P : Nat → Nat) : Nat := if P 9 = top P then 1 else if stuckN P = 4 then 2 else if P 2 ≤ P 11 then 3 else 0
def gasU (P : Nat → Nat) (i : Nat) : Nat := if P (46 + 4 * i) = 0 then P (46 + 4 * i + 2) * P (46 + 4 * i + 3) / 100 else 0
def dirtU (P : Nat → Nat) (i : Nat) : Nat := if P (46 + 4 * i) = 2 then P (46 + 4 * i + 3) else 0
def unitG (P : Nat → Nat) (h d g t : Nat) : Nat → Nat := up (up (up (up (up (up (up (up P 10 (P 10 - h)) 9 (P 9 + 1)) 11 (P 11 + d)) 12 (P 12 + g)) 13 (P 13 + t)) 19 (P 19 + d)) 22 (P 22 + g)) 24 (P 24 + t)
def unitF (P : Nat → Nat) (i : Nat) : Nat → Nat := unitG P (P 1 * P (46 + 4 * i + 2) / 100) (P (46 + 4 * i + 2)) (gasU P i) (dirtU P i)
/-- the segment in which the front is -/
def sgF (P : Nat → Nat) : Nat := sg (lnP P) (P 9) (P 8)
def melL : Nat → (Nat → Nat) → (Nat → Nat)
  | 0, P => P
  | f + 1, P => if P 9 < top P ∧ P 11 < P 2 then
      if P (46 + 4 * sgF P) = 1 then melL f (up P 9 (low (lnP P) (sgF P + 1)))
      else if P 1 * P (46 + 4 * sgF P + 2) / 100 ≤ P 10 then melL f (unitF P (sgF P)) else P
    else P
def meltF (P : Nat → Nat) : Nat → Nat := up (melL 6001 (up P 10 (P 10 + P 0))) 10 (if melL 6001 (up P 10 (P 10 + P 0)) 9 = top P then 0 else melL 6001 (up P 10 (P 10 + P 0)) 10)
theorem melL_stop1 {P : Nat → Nat} (h : ¬ P 9 < top P) : ∀ f, melL f P = P
  | 0 => rfl
  | f + 1 => by rw [melL, if_neg (fun q => h q.1)]
theorem melL_stop2 {P : Nat → Nat} (h : ¬ P 11 < P 2) : ∀ f, melL f P = P
  | 0 => rfl
  | f + 1 => by rw [melL, if_neg (fun q => h q.2)]
theorem melL_stop3 {P : Nat → Nat} (hk : ¬ P (46 + 4 * sgF P) = 1) (h : ¬ P 1 * P (46 + 4 * sgF P + 2) / 100 ≤ P 10) : ∀ f, melL f P = P
  | 0 => rfl
  | f + 1 => by
    rw [melL, if_neg hk, if_neg h]
    split <;> rfl
theorem melL_crack {P : Nat → Nat} (h1 : P 9 < top P) (h2 : P 11 < P 2) (hk : P (46 + 4 * sgF P) = 1) (f : Nat) : melL (f + 1) P = melL f (up P 9 (low (lnP P) (sgF P + 1))) := by
  rw [melL, if_pos ⟨h1, h2⟩, if_pos hk]
theorem melL_unit {P : Nat → Nat} (h1 : P 9 < top P) (h2 : P 11 < P 2) (hk : ¬ P (46 + 4 * sgF P) = 1) (h : P 1 * P (46 + 4 * sgF P + 2) / 100 ≤ P 10) (f : Nat) : melL (f + 1) P = melL f (unitF P (sgF P)) := by
  rw [melL, if_pos ⟨h1, h2⟩, if_neg hk, if_pos h]
/-- where a unit or a leap changes a page -/
theorem unitG_o (P : Nat → Nat) (h d g t : Nat) {k : Nat} (h1 : k ≠ 9) (h2 : k ≠ 10) (h3 : k ≠ 11) (h4 : k ≠ 12) (h5 : k ≠ 13) (h6 : k ≠ 19) (h7 : k ≠ 22) (h8 : k ≠ 24) : unitG P h d g t k = P k := by
  simp [unitG, up, h1, h2, h3, h4, h5, h6, h7, h8]
theorem unitF_o (P : Nat → Nat) (i : Nat) {k : Nat} (h : k < 9 ∨ (13 < k ∧ k < 19) ∨ k = 20 ∨ k = 21 ∨ k = 23 ∨ 24 < k) : unitF P i k = P k := unitG_o _ _ _ _ _ (by omega) (by omega) (by omega) (by omega) (by omega) (by omega) (by omega) (by omega)
def MelOk (P : Nat → Nat) : Prop := P 9 ≤ top P ∧ P 19 = wat (lnP P) (dnP P) (P 9) (P 8) ∧ P 22 ≤ 46 * P 9 ∧ P 24 ≤ 100 * P 9
def DrOk (P : Nat → Nat) : Prop := P 19 = P 11 + P 20 + P 21 ∧ P 22 = P 12 + P 23 ∧ P 24 = P 13 + P 25 ∧ P 15 ≤ P 20
def LinOk (P : Nat → Nat) : Prop := ∀ i, i < 4 → P (26 + 5 * i) ≤ 1 ∧ P (26 + 5 * i + 1) ≤ P 25 ∧ P (26 + 5 * i + 2) ≤ 51
def VialOk (P : Nat → Nat) : Prop := P 14 ≤ 40 ∧ ∀ v, v < P 14 → P (126 + 3 * v + 1) ≤ 6000
def CntOk (P : Nat → Nat) : Prop := P 16 ≤ 20000 ∧ P 10 ≤ 200 * P 16 ∧ P 17 ≤ 3 ∧ P 18 ≤ P 16
def Inv (P : Nat → Nat) : Prop := SegOk P ∧ SetOk P ∧ MelOk P ∧ DrOk P ∧ LinOk P ∧ VialOk P ∧ CntOk P
theorem SegOk.top_le {P : Nat → Nat} (h : SegOk P) : top P ≤ 6000 := by
  have := low_bound (ln := lnP P) (n := P 8) (fun k hk => (h.2 k hk).2.1)
  have := h.1
  show low (lnP P) (P 8) ≤ 6000
  omega
theorem SegOk.dn_le {P : Nat → Nat} (h : SegOk P) : ∀ k, k < P 8 → dnP P k ≤ 92 := fun k hk => by
  have := (h.2 k hk).2.2
  show P (46 + 4 * k + 2) ≤ 92
  omega
end
section
/-! ===== melting keeps the bounds ===== -/
theorem wat_in {ln dn : Nat → Nat} {d i n : Nat} (hi : i < n) (h1 : low ln i ≤ d) (h2 : d ≤ low ln (i + 1)) : wat ln dn d n = wsm ln dn i + (d - low ln i) * dn i := by
  rw [wat_more ln dn h2 (show i + 1 ≤ n from hi)]
  have h2 : d ≤ low ln i + ln i := h2
  show wat ln dn d i + min (ln i) (d - low ln i) * dn i = _
  rw [wat_full ln dn h1, Nat.min_eq_right (by omega)]
theorem wat_step {ln dn : Nat → Nat} {d i n : Nat} (hi : i < n) (h1 : low ln i ≤ d) (h2 : d < low ln (i + 1)) : wat ln dn (d + 1) n = wat ln dn d n + dn i := by
  rw [wat_in hi h1 (Nat.le_of_lt h2), wat_in (d := d + 1) hi (by omega) h2, show d + 1 - low ln i = (d - low ln i) + 1 by omega, Nat.succ_mul]
  omega
theorem wat_leap {ln dn : Nat → Nat} {d i n : Nat} (hi : i < n) (h1 : low ln i ≤ d) (h2 : d ≤ low ln (i + 1)) (h0 : dn i = 0) : wat ln dn (low ln (i + 1)) n = wat ln dn d n := by
  rw [wat_in hi h1 h2, wat_in hi (low_mono ln (Nat.le_succ i)) (Nat.le_refl _), h0, Nat.mul_zero, Nat.mul_zero]
/-- pages that agree but where melting writes -/
def AgM (P Q : Nat → Nat) : Prop := ∀ k, (k < 9 ∨ (13 < k ∧ k < 19) ∨ k = 20 ∨ k = 21 ∨ k = 23 ∨ 24 < k) → Q k = P k
theorem AgM.rf (P : Nat → Nat) : AgM P P := fun _ _ => rfl
theorem AgM.tr {P Q R : Nat → Nat} (h : AgM P Q) (g : AgM Q R) : AgM P R := fun k hk => (g k hk).trans (h k hk)
theorem AgM.ln {P Q : Nat → Nat} (h : AgM P Q) : lnP Q = lnP P := funext fun k => h _ (by omega)
theorem AgM.dn {P Q : Nat → Nat} (h : AgM P Q) : dnP Q = dnP P := funext fun k => h _ (by omega)
theorem AgM.top {P Q : Nat → Nat} (h : AgM P Q) : top Q = top P := by
  show low (lnP Q) (Q 8) = low (lnP P) (P 8)
  rw [h.ln, h 8 (by omega)]
theorem AgM.seg {P Q : Nat → Nat} (h : AgM P Q) (hS : SegOk P) : SegOk Q := by
  refine ⟨by rw [h 8 (by omega)]; exact hS.1, fun k hk => ?_⟩
  rw [h 8 (by omega)] at hk
  rw [h _ (by omega), h (46 + 4 * k + 1) (by omega), h (46 + 4 * k + 2) (by omega), h (46 + 4 * k + 3) (by omega)]
  exact hS.2 k hk
theorem AgM.set {P Q : Nat → Nat} (h : AgM P Q) (hS : SetOk P) : SetOk Q := by
  unfold SetOk at hS ⊢
  rw [h 0 (by omega), h 1 (by omega), h 2 (by omega), h 3 (by omega), h 4 (by omega), h 5 (by omega), h 6 (by omega), h 7 (by omega)]
  exact hS
theorem AgM.unit (P : Nat → Nat) (i : Nat) : AgM P (unitF P i) := fun _ h => unitF_o P i h
theorem AgM.up9 (P : Nat → Nat) (x : Nat) : AgM P (up P 9 x) := fun _ h => up_n _ _ (by omega)
theorem AgM.up10 (P : Nat → Nat) (x : Nat) : AgM P (up P 10 x) := fun _ h => up_n _ _ (by omega)
theorem gasU_le {P : Nat → Nat} (hS : SegOk P) {i : Nat} (hi : i < P 8) : gasU P i ≤ 46 := by
  unfold gasU
  split
  · rename_i h0
    have h := (hS.2 i hi).2.2
    have h1 : P (46 + 4 * i + 2) ≤ 92 ∧ P (46 + 4 * i + 3) ≤ 50 := by omega
    have h2 := Nat.mul_le_mul h1.1 h1.2
    omega
  · exact Nat.zero_le _
theorem dirtU_le {P : Nat → Nat} (hS : SegOk P) {i : Nat} (hi : i < P 8) : dirtU P i ≤ 100 := by
  unfold dirtU
  split
  · have h := (hS.2 i hi).2.2
    omega
  · exact Nat.zero_le _
theorem sgF_lt {P : Nat → Nat} (h : P 9 < top P) : sgF P < P 8 ∧ low (lnP P) (sgF P) ≤ P 9 ∧ P 9 < low (lnP P) (sgF P + 1) := sg_lt h
theorem unitF_9 (P : Nat → Nat) (i : Nat) : unitF P i 9 = P 9 + 1 := by simp [unitF, unitG, up]
theorem unitF_10 (P : Nat → Nat) (i : Nat) : unitF P i 10 = P 10 - P 1 * P (46 + 4 * i + 2) / 100 := by simp [unitF, unitG, up]
theorem unitF_11 (P : Nat → Nat) (i : Nat) : unitF P i 11 = P 11 + P (46 + 4 * i + 2) := by simp [unitF, unitG, up]
theorem unitF_12 (P : Nat → Nat) (i : Nat) : unitF P i 12 = P 12 + gasU P i := by simp [unitF, unitG, up]
theorem unitF_13 (P : Nat → Nat) (i : Nat) : unitF P i 13 = P 13 + dirtU P i := by simp [unitF, unitG, up]
theorem unitF_19 (P : Nat → Nat) (i : Nat) : unitF P i 19 = P 19 + P (46 + 4 * i + 2) := by simp [unitF, unitG, up]
theorem unitF_22 (P : Nat → Nat) (i : Nat) : unitF P i 22 = P 22 + gasU P i := by simp [unitF, unitG, up]
theorem unitF_24 (P : Nat → Nat) (i : Nat) : unitF P i 24 = P 24 + dirtU P i := by simp [unitF, unitG, up]
theorem unit_mel {P : Nat → Nat} (hS : SegOk P) (hM : MelOk P) {i : Nat} (hi : i < P 8) (h1 : low (lnP P) i ≤ P 9) (h2 : P 9 < low (lnP P) (i + 1)) : MelOk (unitF P i) := by
  obtain ⟨m1, m2, m3, m4⟩ := hM
  have hA := AgM.unit P i
  have hg := gasU_le hS hi
  have hd := dirtU_le hS hi
  have hm := low_mono (lnP P) (show i + 1 ≤ P 8 from hi)
  refine ⟨?_, ?_, ?_, ?_⟩
  · rw [hA.top, unitF_9]
    show P 9 + 1 ≤ low (lnP P) (P 8)
    omega
  · rw [hA.ln, hA.dn, hA 8 (by omega), unitF_9, unitF_19, wat_step hi h1 h2, ← m2]
  · rw [unitF_22, unitF_9]; omega
  · rw [unitF_24, unitF_9]; omega
theorem unit_dr {P : Nat → Nat} (hD : DrOk P) (i : Nat) : DrOk (unitF P i) := by
  obtain ⟨d1, d2, d3, d4⟩ := hD
  have hA := AgM.unit P i
  refine ⟨?_, ?_, ?_, ?_⟩
  · rw [unitF_19, unitF_11, hA 20 (by omega), hA 21 (by omega)]; omega
  · rw [unitF_22, unitF_12, hA 23 (by omega)]; omega
  · rw [unitF_24, unitF_13, hA 25 (by omega)]; omega
  · rw [hA 15 (by omega), hA 20 (by omega)]; exact d4
theorem leap_mel {P : Nat → Nat} (hS : SegOk P) (hM : MelOk P) {i : Nat} (hi : i < P 8) (hk : P (46 + 4 * i) = 1) (h1 : low (lnP P) i ≤ P 9) (h2 : P 9 < low (lnP P) (i + 1)) : MelOk (up P 9 (low (lnP P) (i + 1))) := by
  obtain ⟨m1, m2, m3, m4⟩ := hM
  have hA := AgM.up9 P (low (lnP P) (i + 1))
  have hm := low_mono (lnP P) (show i + 1 ≤ P 8 from hi)
  have h0 : dnP P i = 0 := by
    have h := (hS.2 i hi).2.2
    show P (46 + 4 * i + 2) = 0
    omega
  refine ⟨?_, ?_, ?_, ?_⟩
  · rw [hA.top, up_s]; exact hm
  · rw [hA.ln, hA.dn, hA 8 (by omega), up_s, up_n _ _ (by decide), wat_leap hi h1 (Nat.le_of_lt h2) h0]; exact m2
  · rw [up_n _ _ (by decide), up_s]; omega
  · rw [up_n _ _ (by decide), up_s]; omega
theorem up9_dr {P : Nat → Nat} (hD : DrOk P) (x : Nat) : DrOk (up P 9 x) := hD
theorem up10_dr {P : Nat → Nat} (hD : DrOk P) (x : Nat) : DrOk (up P 10 x) := hD
theorem up10_mel {P : Nat → Nat} (hM : MelOk P) (x : Nat) : MelOk (up P 10 x) := by
  have hA := AgM.up10 P x
  unfold MelOk
  rw [hA.ln, hA.dn, hA.top, hA 8 (by omega)]
  exact hM
theorem melL_ok : ∀ (f : Nat) (P : Nat → Nat), SegOk P → MelOk P → DrOk P → AgM P (melL f P) ∧ MelOk (melL f P) ∧ DrOk (melL f P) ∧ melL f P 10 ≤ P 10
  | 0, P, _, hM, hD => ⟨AgM.rf P, hM, hD, Nat.le_refl _⟩
  | f + 1, P, hS, hM, hD => by
    rw [melL]
    split
    · rename_i h
      obtain ⟨g1, g2, g3⟩ := sgF_lt h.1
      split
      · rename_i hk
        obtain ⟨a, b, c, d⟩ := melL_ok f _ ((AgM.up9 P _).seg hS) (leap_mel hS hM g1 hk g2 g3) (up9_dr hD _)
        exact ⟨(AgM.up9 P _).tr a, b, c, by rw [up_n _ _ (by decide)] at d; exact d⟩
      · split
        · obtain ⟨a, b, c, d⟩ := melL_ok f _ ((AgM.unit P _).seg hS) (unit_mel hS hM g1 g2 g3) (unit_dr hD _)
          exact ⟨(AgM.unit P _).tr a, b, c, by rw [unitF_10] at d; omega⟩
        · exact ⟨AgM.rf P, hM, hD, Nat.le_refl _⟩
    · exact ⟨AgM.rf P, hM, hD, Nat.le_refl _⟩
theorem meltF_ok {P : Nat → Nat} (hS : SegOk P) (hM : MelOk P) (hD : DrOk P) : AgM P (meltF P) ∧ MelOk (meltF P) ∧ DrOk (meltF P) ∧ meltF P 10 ≤ P 10 + P 0 := by
  obtain ⟨a, b, c, d⟩ := melL_ok 6001 (up P 10 (P 10 + P 0)) ((AgM.up10 P _).seg hS) (up10_mel hM _) (up10_dr hD _)
  rw [up_s] at d
  refine ⟨((AgM.up10 P _).tr a).tr (AgM.up10 _ _), up10_mel b _, up10_dr c _, ?_⟩
  show up _ 10 _ 10 ≤ _
  rw [up_s]
  split <;> omega
end
section
/-! ===== the lines, the vials, a tick ===== -/
abbrev bubQ (P : Nat → Nat) (w g : Nat) : Prop := P 5 < 100 * g / w
abbrev wasQ (P : Nat → Nat) (i w g : Nat) : Prop := bubQ P w g ∨ 0 < P (26 + 5 * i + 2)
def gapN (P : Nat → Nat) (i w g : Nat) : Nat := if bubQ P w g then 1 else if 0 < P (26 + 5 * i + 2) then P (26 + 5 * i + 2) + 1 else 0
def gapG (P : Nat → Nat) (i w g : Nat) : Nat := if ¬ bubQ P w g ∧ P 7 < gapN P i w g then 0 else gapN P i w g
def drawG (P : Nat → Nat) (i w g t : Nat) : Nat → Nat :=
  up (up (up (up (up (up (up (up (up (up (up (up P 11 (P 11 - w)) 12 (P 12 - g)) 13 (P 13 - t)) 23 (P 23 + g)) 25 (P 25 + t))
    (26 + 5 * i + 2) (gapG P i w g)) (26 + 5 * i + 3) (P (26 + 5 * i + 3) + w)) (26 + 5 * i + 4) (P (26 + 5 * i + 4) + (if wasQ P i w g then w else 0)))
    (19 + (if wasQ P i w g then 2 else 1)) (P (19 + (if wasQ P i w g then 2 else 1)) + w)) 15 (P 15 + (if wasQ P i w g then 0 else w))) (26 + 5 * i + 1) (P (26 + 5 * i + 1) + t))
    (26 + 5 * i) (if P 4 ≤ P (26 + 5 * i + 1) + t then 1 else 0)
def drawF (P : Nat → Nat) (i : Nat) : Nat → Nat := if min (P 3) (P 11) = 0 then P else drawG P i (min (P 3) (P 11)) (P 12 * min (P 3) (P 11) / P 11) (P 13 * min (P 3) (P 11) / P 11)
theorem share_le {x w t : Nat} (h : w ≤ t) : x * w / t ≤ x := by
  by_cases h0 : t = 0
  · rw [h0, Nat.div_zero]; exact Nat.zero_le _
  · exact Nat.div_le_of_le_mul (by rw [Nat.mul_comm t x]; exact Nat.mul_le_mul_left _ h)
theorem gapN_le {P : Nat → Nat} {i w g : Nat} (h : P (26 + 5 * i + 2) ≤ 51) : gapN P i w g ≤ 52 := by
  unfold gapN
  split
  · omega
  · split <;> omega
theorem gapG_le {P : Nat → Nat} {i w g : Nat} (h7 : P 7 ≤ 50) : gapG P i w g ≤ 51 := by
  unfold gapG
  split
  · omega
  · rename_i h
    by_cases hb : bubQ P w g
    · unfold gapN
      rw [if_pos hb]
      omega
    · have : ¬ P 7 < gapN P i w g := fun q => h ⟨hb, q⟩
      omega
theorem told_u0 {u x d l : Nat} (_ : u = x) (h : d = 0) : u * d ≤ l := by rw [h, Nat.mul_zero]; exact Nat.zero_le _
theorem told_u1 {u x d l : Nat} (e : u = min x (l / d)) (h : 60 ≤ d) : u * d ≤ l := (Nat.le_div_iff_mul_le (by omega)).mp (by omega)
theorem told_more {ln dn : Nat → Nat} {w k u : Nat} (h1 : wsm ln dn k ≤ w) (hu : u * dn k ≤ w - wsm ln dn k) (e : u = ln k) : wsm ln dn (k + 1) ≤ w ∧ w - wsm ln dn k - u * dn k = w - wsm ln dn (k + 1) ∧ low ln k + u = low ln (k + 1) := by
  subst e
  have e1 : wsm ln dn (k + 1) = wsm ln dn k + ln k * dn k := rfl
  have e2 : low ln (k + 1) = low ln k + ln k := rfl
  rw [e1, e2]
  generalize ln k * dn k = z at hu ⊢
  omega
theorem told_less {ln dn : Nat → Nat} {w k u : Nat} (h1 : wsm ln dn k ≤ w) (hU : u = if dn k = 0 then ln k else min (ln k) ((w - wsm ln dn k) / dn k)) (e : ¬ u = ln k) : w < wsm ln dn (k + 1) ∧ low ln k + u = dep ln dn w (k + 1) := by
  have h0 : ¬ dn k = 0 := fun q => e (by rw [hU, if_pos q])
  refine ⟨?_, ?_⟩
  · rw [if_neg h0] at hU
    have h2 : (w - wsm ln dn k) / dn k < ln k := by omega
    have h3 := (Nat.div_lt_iff_lt_mul (by omega)).mp h2
    have e1 : wsm ln dn (k + 1) = wsm ln dn k + ln k * dn k := rfl
    rw [e1]
    generalize ln k * dn k = z at h3 ⊢
    omega
  · show low ln k + u = (if wsm ln dn k ≤ w then _ else _)
    rw [if_pos h1, ← hU]
theorem dep_full {ln dn : Nat → Nat} {w : Nat} : ∀ {n : Nat}, wsm ln dn n ≤ w → dep ln dn w n = low ln n
  | 0, _ => rfl
  | n + 1, h => by
    have e1 : wsm ln dn (n + 1) = wsm ln dn n + ln n * dn n := rfl
    show (if wsm ln dn n ≤ w then low ln n + (if dn n = 0 then ln n else min (ln n) ((w - wsm ln dn n) / dn n)) else _) = low ln n + ln n
    rw [if_pos (by omega)]
    split
    · rfl
    · rename_i h0
      have h2 : ln n ≤ (w - wsm ln dn n) / dn n := (Nat.le_div_iff_mul_le (by omega)).mpr (by omega)
      rw [Nat.min_eq_left h2]
theorem low_cg {f g : Nat → Nat} : ∀ {n : Nat}, (∀ k, k < n → f k = g k) → low f n = low g n := low_congr
theorem wsm_cg {f g f' g' : Nat → Nat} : ∀ {n : Nat}, (∀ k, k < n → f k = f' k ∧ g k = g' k) → wsm f g n = wsm f' g' n
  | 0, _ => rfl
  | n + 1, h => by
    show wsm f g n + f n * g n = wsm f' g' n + f' n * g' n
    rw [wsm_cg (fun k hk => h k (by omega)), (h n (Nat.lt_succ_self n)).1, (h n (Nat.lt_succ_self n)).2]
theorem dep_cg {f g f' g' : Nat → Nat} {w : Nat} : ∀ {n : Nat}, (∀ k, k < n → f k = f' k ∧ g k = g' k) → dep f g w n = dep f' g' w n
  | 0, _ => rfl
  | n + 1, h => by
    show (if wsm f g n ≤ w then low f n + (if g n = 0 then f n else min (f n) ((w - wsm f g n) / g n)) else dep f g w n) = (if wsm f' g' n ≤ w then low f' n + (if g' n = 0 then f' n else min (f' n) ((w - wsm f' g' n) / g' n)) else dep f' g' w n)
    rw [wsm_cg (f := f) (g := g) (f' := f') (g' := g') (n := n) (fun k hk => h k (by omega)), low_congr (f := f) (g := f') (n := n) (fun k hk => (h k (by omega)).1), dep_cg (f := f) (g := g) (f' := f') (g' := g') (n := n) (fun k hk => h k (by omega)), (h n (Nat.lt_succ_self n)).1, (h n (Nat.lt_succ_self n)).2]
theorem wat_cg {f g f' g' : Nat → Nat} {d : Nat} : ∀ {n : Nat}, (∀ k, k < n → f k = f' k ∧ g k = g' k) → wat f g d n = wat f' g' d n
  | 0, _ => rfl
  | n + 1, h => by
    show wat f g d n + min (f n) (d - low f n) * g n = wat f' g' d n + min (f' n) (d - low f' n) * g' n
    rw [wat_cg (f := f) (g := g) (f' := f') (g' := g') (n := n) (fun k hk => h k (by omega)), low_congr (f := f) (g := f') (n := n) (fun k hk => (h k (by omega)).1), (h n (Nat.lt_succ_self n)).1, (h n (Nat.lt_succ_self n)).2]
theorem toldF_cg {P Q : Nat → Nat} (h8 : P 8 ≤ 20) (h : ∀ k, (k = 8 ∨ k = 9 ∨ k = 20 ∨ k = 21 ∨ (46 ≤ k ∧ k < 126)) → Q k = P k) : toldF Q = toldF P := by
  unfold toldF
  rw [h 8 (by omega), h 9 (by omega), h 20 (by omega), h 21 (by omega)]
  rw [dep_cg (f := lnP Q) (g := dnP Q) (f' := lnP P) (g' := dnP P) (n := P 8) (fun k hk => ⟨h _ (by omega), h _ (by omega)⟩)]
def sealF (P : Nat → Nat) : Nat → Nat := if P 15 < P 6 ∨ P 14 = 40 then P else up (up (up (up (up P (126 + 3 * P 14) (P 15)) (126 + 3 * P 14 + 1) (toldF P)) (126 + 3 * P 14 + 2) (P 16)) 14 (P 14 + 1)) 15 0
def drO (P : Nat → Nat) (i : Nat) : Nat → Nat := if P (26 + 5 * i) = 0 then drawF P i else P
def drs (P : Nat → Nat) : Nat → (Nat → Nat)
  | 0 => P
  | k + 1 => drO (drs P k) k
def tk1 (P : Nat → Nat) : Nat → Nat := up (up P 17 (reasonF P)) 18 (P 18 + (if 0 < reasonF P then 1 else 0))
def tk2 (P : Nat → Nat) : Nat → Nat := if reasonF P = 0 then meltF (tk1 P) else tk1 P
def tk4 (P : Nat → Nat) : Nat → Nat := up (drs (tk2 P) 4) 16 (drs (tk2 P) 4 16 + 1)
def tickF (P : Nat → Nat) : Nat → Nat := sealF (tk4 P)
def itF (P : Nat → Nat) : Nat → (Nat → Nat)
  | 0 => P
  | k + 1 => tickF (itF P k)
/-- what drawing needs and keeps -/
def DInv (P : Nat → Nat) : Prop := SegOk P ∧ SetOk P ∧ MelOk P ∧ DrOk P ∧ LinOk P
/-- pages that agree but where a line's drawing writes -/
def AgD (P Q : Nat → Nat) : Prop := ∀ k, (k < 11 ∨ k = 14 ∨ (15 < k ∧ k < 20) ∨ k = 22 ∨ k = 24 ∨ 45 < k) → Q k = P k
theorem AgD.rf (P : Nat → Nat) : AgD P P := fun _ _ => rfl
theorem AgD.tr {P Q R : Nat → Nat} (h : AgD P Q) (g : AgD Q R) : AgD P R := fun k hk => (g k hk).trans (h k hk)
theorem AgD.seg {P Q : Nat → Nat} (h : AgD P Q) (hS : SegOk P) : SegOk Q := by
  refine ⟨by rw [h 8 (by omega)]; exact hS.1, fun k hk => ?_⟩
  rw [h 8 (by omega)] at hk
  rw [h _ (by omega), h (46 + 4 * k + 1) (by omega), h (46 + 4 * k + 2) (by omega), h (46 + 4 * k + 3) (by omega)]
  exact hS.2 k hk
theorem AgD.set {P Q : Nat → Nat} (h : AgD P Q) (hS : SetOk P) : SetOk Q := by
  unfold SetOk at hS ⊢
  rw [h 0 (by omega), h 1 (by omega), h 2 (by omega), h 3 (by omega), h 4 (by omega), h 5 (by omega), h 6 (by omega), h 7 (by omega)]
  exact hS
theorem AgD.ln {P Q : Nat → Nat} (h : AgD P Q) : lnP Q = lnP P := funext fun k => h _ (by omega)
theorem AgD.dn {P Q : Nat → Nat} (h : AgD P Q) : dnP Q = dnP P := funext fun k => h _ (by omega)
theorem AgD.mel {P Q : Nat → Nat} (h : AgD P Q) (hM : MelOk P) : MelOk Q := by
  unfold MelOk top at hM ⊢
  rw [h.ln, h.dn, h 8 (by omega), h 9 (by omega), h 19 (by omega), h 22 (by omega), h 24 (by omega)]
  exact hM
theorem drawG_ag (P : Nat → Nat) {i : Nat} (w g t : Nat) (hi : i < 4) : AgD P (drawG P i w g t) := by
  intro k hk
  have hx : k ≠ 19 + (if wasQ P i w g then 2 else 1) := by split <;> omega
  unfold drawG
  rw [up_n _ _ (by omega), up_n _ _ (by omega), up_n _ _ (by omega), up_n _ _ hx, up_n _ _ (by omega), up_n _ _ (by omega), up_n _ _ (by omega), up_n _ _ (by omega), up_n _ _ (by omega), up_n _ _ (by omega), up_n _ _ (by omega), up_n _ _ (by omega)]
theorem drawF_ag (P : Nat → Nat) {i : Nat} (hi : i < 4) : AgD P (drawF P i) := by
  unfold drawF
  split
  · exact AgD.rf P
  · exact drawG_ag P _ _ _ hi
theorem DInv.bnd {P : Nat → Nat} (h : DInv P) : P 9 ≤ 6000 ∧ P 11 ≤ 552000 ∧ P 20 + P 21 ≤ 552000 ∧ P 12 ≤ 276000 ∧ P 13 ≤ 600000 ∧ P 25 ≤ 600000 ∧ P 23 ≤ 276000 := by
  obtain ⟨hS, hT, ⟨m1, m2, m3, m4⟩, ⟨d1, d2, d3, d4⟩, hL⟩ := h
  have h1 := hS.top_le
  have h2 := wat_bound (ln := lnP P) (dn := dnP P) (d := P 9) (n := P 8) hS.dn_le
  have h3 : min (P 9) (low (lnP P) (P 8)) ≤ P 9 := Nat.min_le_left _ _
  omega
end
section
set_option maxRecDepth 100000 in
set_option maxHeartbeats 4000000 in
theorem c_X8_segmentOf (l : Launch) (G : KG) (a P Sp Hs T N : Nat → Nat) (sc tl tp fa fr fn : Nat) (d : Nat) (hd : d < 2 ^ 31) (hS : SegOk P) : MetI l yX8_segmentOf wsX8_segmentOf 2 G (mW G a P Sp Hs sc T tl tp fa fr fn N) [.ref (a 0), .int (nI d)] (fun r v => r = (if sg (lnP P) d (P 8) < P 8 then nI (sg (lnP P) d (P 8)) else -4) ∧ v = mW G a P Sp Hs sc T tl tp fa fr fn N) := by
  refine MetI.by (cc := cX8_segmentOf) (nL := 3) (ret := some .int) (by decide +kernel) rfl (Nat.le_of_ble_eq_true rfl) ?_
  intro p e s m args below meth c F w ls hl
  have hl : lv_has ls 3 [(0, .ref (a 0)), (1, .int (nI d))] := hl
  have hts := F.ts
  have iX8 : ∀ w ∈ wsX80, w ∈ wsX8_segmentOf := by decide +kernel
  have f7 := hts (.fieldLink RX8 7 "CoreMelterModel" "m" "[I") (by decide +kernel)
  have h8 := hS.1
  have hbl : ∀ j, j ≤ P 8 → low (lnP P) j ≤ 6000 := fun j hj => Nat.le_trans (low_mono _ hj) hS.top_le
  refine lv_iconst (v := nI 0) F.1 F.2.1 dX8_segmentOf_0 (by decide) ?_
  refine lv_istore_n (lv' := [(2, .int (nI 0)), (0, .ref (a 0)), (1, .int (nI d))]) F.1 F.2.1 dX8_segmentOf_1 rfl hl (by decide) rfl (fun ls hl => ?_)
  have L2 : ∀ n : Nat, ∀ (k : Nat), (k ≤ P 8) → (∀ j, j < k → low (lnP P) (j + 1) ≤ d) → P 8 - k < n → ∀ (H : Heap) (locs : List Loc), Wd G s (va_A (mW G a P Sp Hs sc T tl tp fa fr fn N) s.heap.size) (mW G a P Sp Hs sc T tl tp fa fr fn N) H locs → ∀ ls : Array Slot, lv_has ls 3 [(0, .ref (a 0)), (1, .int (nI d)), (2, .int (nI k))] → W p l e (rmK 2 0 0) s m args below meth c H locs 0 0 (MQ below (QI G (mW G a P Sp Hs sc T tl tp fa fr fn N) s.heap.size (fun r v => r = (if sg (lnP P) d (P 8) < P 8 then nI (sg (lnP P) d (P 8)) else -4) ∧ v = mW G a P Sp Hs sc T tl tp fa fr fn N)) args s 0 0 (va_A (mW G a P Sp Hs sc T tl tp fa fr fn N) s.heap.size)) (F0 m 2 ls []) := by
    intro n
    induction n with
    | zero => intro k h1 h2 hm; exact absurd hm (Nat.not_lt_zero _)
    | succ n ih2 =>
      intro k h1 h2 hm2 H locs w ls hl
      refine lv_iload_n F.1 F.2.1 dX8_segmentOf_2 rfl (lv_at hl 2 rfl) ?_
      refine lv_aload_n F.1 F.2.1 dX8_segmentOf_3 rfl (lv_at hl 0 rfl) ?_
      refine r_get F w 0 0 iX8 f7 rfl rfl rfl (by decide) rfl dX8_segmentOf_4 ?_
      refine lv_bipush (v := nI 8) F.1 F.2.1 dX8_segmentOf_7 (by decide) ?_
      refine r_iald F w 1 rfl (by omega) (by decide) dX8_segmentOf_9 ?_
      refine r_cge (tgt := 32) F dX8_segmentOf_10 (by decide) (by omega) (by omega) (fun c10 => ?_) (fun c10 => ?_)
      · skip
        refine lv_bipush (v := (-4)) F.1 F.2.1 dX8_segmentOf_32 (by decide) ?_
        exact r_ireturn F w dX8_segmentOf_34 (⟨by rw [sg_all (n := P 8) (fun j hj => h2 j (by omega)), if_neg (Nat.lt_irrefl _)], rfl⟩)
      · skip
        refine lv_iload_n F.1 F.2.1 dX8_segmentOf_13 rfl (lv_at hl 1 rfl) ?_
        refine lv_aload_n F.1 F.2.1 dX8_segmentOf_14 rfl (lv_at hl 0 rfl) ?_
        refine lv_iload_n F.1 F.2.1 dX8_segmentOf_15 rfl (lv_at hl 2 rfl) ?_
        refine lv_iconst (v := nI 1) F.1 F.2.1 dX8_segmentOf_16 (by decide) ?_
        refine r_iadd F dX8_segmentOf_17 ?_
        refine r_callVI (rest := [.int (nI d)]) F w (c_X8_lower l G a P Sp Hs T N sc tl tp fa fr fn (k + 1) (by omega)) gX8_segmentOf_X8_lower [0, 1, 2, 3, 4, 5] [] (nA0 := 1) rfl (by decide +kernel) rfl ⟨Nat.le_of_ble_eq_true rfl, Nat.le_of_ble_eq_true rfl⟩ ⟨Nat.le_of_ble_eq_true rfl, Nat.le_of_ble_eq_true rfl⟩ rfl rfl rfl rfl rfl rfl rfl hl rfl (Nat.le_of_ble_eq_true rfl) dX8_segmentOf_18 (fun r_18 w1 H locs hp w => ?_)
        obtain ⟨rfl, rfl⟩ := hp
        have w := w.sub (ws' := mW G a P Sp Hs sc T tl tp fa fr fn N) [0, 1, 2, 3, 4, 5] (by decide) rfl
        refine r_cge (tgt := 26) F dX8_segmentOf_21 (by decide) (by omega) (by have := hbl (k + 1) (by omega); omega) (fun c21 => ?_) (fun c21 => ?_)
        · skip
          refine lv_iinc (v := nI (k + 1)) (lv' := [(2, .int (nI (k + 1))), (0, .ref (a 0)), (1, .int (nI d))]) F.1 F.2.1 dX8_segmentOf_26 hl (k := 2) rfl (nI_add _ _) (by decide) rfl (fun ls hl => ?_)
          refine lv_goto (tgt := 2) F.1 F.2.1 dX8_segmentOf_29 (by decide) ?_
          exact ih2 (k + 1) (by omega) (fun j hj => by rcases Nat.lt_succ_iff_lt_or_eq.mp hj with q | q; exact h2 j q; rw [q]; omega) (by omega) _ _ w ls (lv_sub hl [1, 2, 0] rfl)
        · skip
          refine lv_iload_n F.1 F.2.1 dX8_segmentOf_24 rfl (lv_at hl 2 rfl) ?_
          exact r_ireturn F w dX8_segmentOf_25 (⟨by rw [sg_at c10 h2 (by omega), if_pos c10], rfl⟩)
  exact L2 _ 0 (Nat.zero_le _) (fun j hj => absurd hj (Nat.not_lt_zero _)) (Nat.lt_succ_self _) _ _ w ls (lv_sub hl [1, 2, 0] rfl)
theorem c_X8_segmentOfIn (l : Launch) (G : KG) (a P Sp Hs T N : Nat → Nat) (sc tl tp fa fr fn : Nat) (d : Nat) (hd : d < 2 ^ 31) (hS : SegOk P) (h : d < top P) : MetI l yX8_segmentOf wsX8_segmentOf 2 G (mW G a P Sp Hs sc T tl tp fa fr fn N) [.ref (a 0), .int (nI d)] (fun r v => r = nI (sg (lnP P) d (P 8)) ∧ v = mW G a P Sp Hs sc T tl tp fa fr fn N) := by
  have h1 := c_X8_segmentOf l G a P Sp Hs T N sc tl tp fa fr fn d hd hS
  rw [if_pos (sg_lt h).1] at h1
  exact h1
set_option maxRecDepth 100000 in
set_option maxHeartbeats 4000000 in
theorem c_X8_water (l : Launch) (G : KG) (a P Sp Hs T N : Nat → Nat) (sc tl tp fa fr fn : Nat) (d : Nat) (hd : d < 2 ^ 31) (hS : SegOk P) : MetI l yX8_water wsX8_water 1 G (mW G a P Sp Hs sc T tl tp fa fr fn N) [.ref (a 0), .int (nI d)] (fun r v => r = nI (wat (lnP P) (dnP P) d (P 8)) ∧ v = mW G a P Sp Hs sc T tl tp fa fr fn N) := by
  refine MetI.by (cc := cX8_water) (nL := 5) (ret := some .int) (by decide +kernel) rfl (Nat.le_of_ble_eq_true rfl) ?_
  intro p e s m args below meth c F w ls hl
  have hl : lv_has ls 5 [(0, .ref (a 0)), (1, .int (nI d))] := hl
  have hts := F.ts
  have iX8 : ∀ w ∈ wsX80, w ∈ wsX8_water := by decide +kernel
  have f7 := hts (.fieldLink RX8 7 "CoreMelterModel" "m" "[I") (by decide +kernel)
  have h8 := hS.1
  have hbl : ∀ j, j ≤ P 8 → low (lnP P) j ≤ 6000 := fun j hj => Nat.le_trans (low_mono _ hj) hS.top_le
  refine lv_iconst (v := nI 0) F.1 F.2.1 dX8_water_0 (by decide) ?_
  refine lv_istore_n (lv' := [(2, .int (nI 0)), (0, .ref (a 0)), (1, .int (nI d))]) F.1 F.2.1 dX8_water_1 rfl hl (by decide) rfl (fun ls hl => ?_)
  refine lv_iconst (v := nI 0) F.1 F.2.1 dX8_water_2 (by decide) ?_
  refine lv_istore_n (lv' := [(3, .int (nI 0)), (2, .int (nI 0)), (0, .ref (a 0)), (1, .int (nI d))]) F.1 F.2.1 dX8_water_3 rfl hl (by decide) rfl (fun ls hl => ?_)
  refine lv_iconst (v := nI 0) F.1 F.2.1 dX8_water_4 (by decide) ?_
  refine lv_istore (lv' := [(4, .int (nI 0)), (3, .int (nI 0)), (2, .int (nI 0)), (0, .ref (a 0)), (1, .int (nI d))]) F.1 F.2.1 dX8_water_5 hl (by decide) rfl (fun ls hl => ?_)
  have L7 : ∀ n : Nat, ∀ (k : Nat), (k ≤ P 8) → P 8 - k < n → ∀ (H : Heap) (locs : List Loc), Wd G s (va_A (mW G a P Sp Hs sc T tl tp fa fr fn N) s.heap.size) (mW G a P Sp Hs sc T tl tp fa fr fn N) H locs → ∀ ls : Array Slot, lv_has ls 5 [(0, .ref (a 0)), (1, .int (nI d)), (2, .int (nI (wat (lnP P) (dnP P) d k))), (3, .int (nI (low (lnP P) k))), (4, .int (nI k))] → W p l e (rmK 1 0 0) s m args below meth c H locs 0 0 (MQ below (QI G (mW G a P Sp Hs sc T tl tp fa fr fn N) s.heap.size (fun r v => r = nI (wat (lnP P) (dnP P) d (P 8)) ∧ v = mW G a P Sp Hs sc T tl tp fa fr fn N)) args s 0 0 (va_A (mW G a P Sp Hs sc T tl tp fa fr fn N) s.heap.size)) (F0 m 7 ls []) := by
    intro n
    induction n with
    | zero => intro k h1 hm; exact absurd hm (Nat.not_lt_zero _)
    | succ n ih7 =>
      intro k h1 hm7 H locs w ls hl
      refine lv_iload F.1 F.2.1 dX8_water_7 (lv_at hl 4 rfl) ?_
      refine lv_aload_n F.1 F.2.1 dX8_water_9 rfl (lv_at hl 0 rfl) ?_
      refine r_get F w 0 0 iX8 f7 rfl rfl rfl (by decide) rfl dX8_water_10 ?_
      refine lv_bipush (v := nI 8) F.1 F.2.1 dX8_water_13 (by decide) ?_
      refine r_iald F w 1 rfl (by omega) (by decide) dX8_water_15 ?_
      refine r_cge (tgt := 64) F dX8_water_16 (by decide) (by omega) (by omega) (fun c16 => ?_) (fun c16 => ?_)
      · skip
        refine lv_iload_n F.1 F.2.1 dX8_water_64 rfl (lv_at hl 2 rfl) ?_
        exact r_ireturn F w dX8_water_65 (⟨congrArg nI (by first | (rw [show k = P 8 by omega]) | (rw [wat_more (n := k) (k := P 8) (lnP P) (dnP P) (by omega) h1])), rfl⟩)
      · skip
        refine lv_iload_n F.1 F.2.1 dX8_water_19 rfl (lv_at hl 3 rfl) ?_
        refine lv_iload_n F.1 F.2.1 dX8_water_20 rfl (lv_at hl 1 rfl) ?_
        refine r_cge (tgt := 64) F dX8_water_21 (by decide) (by have := hbl k h1; omega) (by omega) (fun c21 => ?_) (fun c21 => ?_)
        · skip
          refine lv_iload_n F.1 F.2.1 dX8_water_64 rfl (lv_at hl 2 rfl) ?_
          exact r_ireturn F w dX8_water_65 (⟨congrArg nI (by first | (rw [show k = P 8 by omega]) | (rw [wat_more (n := k) (k := P 8) (lnP P) (dnP P) (by omega) h1])), rfl⟩)
        · skip
          refine lv_iload_n F.1 F.2.1 dX8_water_24 rfl (lv_at hl 2 rfl) ?_
          refine lv_aload_n F.1 F.2.1 dX8_water_25 rfl (lv_at hl 0 rfl) ?_
          refine lv_iload F.1 F.2.1 dX8_water_26 (lv_at hl 4 rfl) ?_
          refine lv_iconst (v := nI 1) F.1 F.2.1 dX8_water_28 (by decide) ?_
          refine r_callVI (rest := [.int (nI (wat (lnP P) (dnP P) d k))]) F w (c_X8_of l G a P Sp Hs T N sc tl tp fa fr fn k 1 (by omega)) gX8_water_X8_of [0, 1, 2, 3, 4, 5] [] (nA0 := 2) rfl (by decide +kernel) rfl ⟨Nat.le_of_ble_eq_true rfl, Nat.le_of_ble_eq_true rfl⟩ ⟨Nat.le_of_ble_eq_true rfl, Nat.le_of_ble_eq_true rfl⟩ rfl rfl rfl rfl rfl rfl rfl hl rfl (Nat.le_of_ble_eq_true rfl) dX8_water_29 (fun r_29 w1 H locs hp w => ?_)
          obtain ⟨rfl, rfl⟩ := hp
          have w := w.sub (ws' := mW G a P Sp Hs sc T tl tp fa fr fn N) [0, 1, 2, 3, 4, 5] (by decide) rfl
          refine lv_iload_n F.1 F.2.1 dX8_water_32 rfl (lv_at hl 1 rfl) ?_
          refine lv_iload_n F.1 F.2.1 dX8_water_33 rfl (lv_at hl 3 rfl) ?_
          refine r_isub F dX8_water_34 (by omega) ?_
          refine r_callS0 (rest := [.int (nI (wat (lnP P) (dnP P) d k))]) F w (c_X8_lesser l G (P (46 + 4 * k + 1)) (d - (low (lnP P) k)) (by have := (hS.2 k c16).2.1; omega) (by omega)) gX8_water_X8_lesser (nA0 := 2) rfl (by decide +kernel) rfl ⟨Nat.le_of_ble_eq_true rfl, Nat.le_of_ble_eq_true rfl⟩ ⟨Nat.le_of_ble_eq_true rfl, Nat.le_of_ble_eq_true rfl⟩ hl rfl (Nat.le_of_ble_eq_true rfl) dX8_water_35 (fun r_35 w1 H locs hp w => ?_)
          obtain ⟨rfl, rfl⟩ := hp
          refine lv_aload_n F.1 F.2.1 dX8_water_38 rfl (lv_at hl 0 rfl) ?_
          refine lv_iload F.1 F.2.1 dX8_water_39 (lv_at hl 4 rfl) ?_
          refine lv_iconst (v := nI 2) F.1 F.2.1 dX8_water_41 (by decide) ?_
          refine r_callVI (rest := [.int (nI (min (P (46 + 4 * k + 1)) (d - (low (lnP P) k)))), .int (nI (wat (lnP P) (dnP P) d k))]) F w (c_X8_of l G a P Sp Hs T N sc tl tp fa fr fn k 2 (by omega)) gX8_water_X8_of [0, 1, 2, 3, 4, 5] [] (nA0 := 2) rfl (by decide +kernel) rfl ⟨Nat.le_of_ble_eq_true rfl, Nat.le_of_ble_eq_true rfl⟩ ⟨Nat.le_of_ble_eq_true rfl, Nat.le_of_ble_eq_true rfl⟩ rfl rfl rfl rfl rfl rfl rfl hl rfl (Nat.le_of_ble_eq_true rfl) dX8_water_42 (fun r_42 w1 H locs hp w => ?_)
          obtain ⟨rfl, rfl⟩ := hp
          have w := w.sub (ws' := mW G a P Sp Hs sc T tl tp fa fr fn N) [0, 1, 2, 3, 4, 5] (by decide) rfl
          refine r_imul F dX8_water_45 ?_
          refine r_iadd F dX8_water_46 ?_
          refine lv_istore_n (lv' := [(2, .int (nI ((wat (lnP P) (dnP P) d k) + ((min (P (46 + 4 * k + 1)) (d - (low (lnP P) k))) * (P (46 + 4 * k + 2)))))), (0, .ref (a 0)), (1, .int (nI d)), (3, .int (nI (low (lnP P) k))), (4, .int (nI k))]) F.1 F.2.1 dX8_water_47 rfl hl (by decide) rfl (fun ls hl => ?_)
          refine lv_iload_n F.1 F.2.1 dX8_water_48 rfl (lv_at hl 3 rfl) ?_
          refine lv_aload_n F.1 F.2.1 dX8_water_49 rfl (lv_at hl 1 rfl) ?_
          refine lv_iload F.1 F.2.1 dX8_water_50 (lv_at hl 4 rfl) ?_
          refine lv_iconst (v := nI 1) F.1 F.2.1 dX8_water_52 (by decide) ?_
          refine r_callVI (rest := [.int (nI (low (lnP P) k))]) F w (c_X8_of l G a P Sp Hs T N sc tl tp fa fr fn k 1 (by omega)) gX8_water_X8_of [0, 1, 2, 3, 4, 5] [] (nA0 := 2) rfl (by decide +kernel) rfl ⟨Nat.le_of_ble_eq_true rfl, Nat.le_of_ble_eq_true rfl⟩ ⟨Nat.le_of_ble_eq_true rfl, Nat.le_of_ble_eq_true rfl⟩ rfl rfl rfl rfl rfl rfl rfl hl rfl (Nat.le_of_ble_eq_true rfl) dX8_water_53 (fun r_53 w1 H locs hp w => ?_)
          obtain ⟨rfl, rfl⟩ := hp
          have w := w.sub (ws' := mW G a P Sp Hs sc T tl tp fa fr fn N) [0, 1, 2, 3, 4, 5] (by decide) rfl
          refine r_iadd F dX8_water_56 ?_
          refine lv_istore_n (lv' := [(3, .int (nI ((low (lnP P) k) + (P (46 + 4 * k + 1))))), (2, .int (nI ((wat (lnP P) (dnP P) d k) + ((min (P (46 + 4 * k + 1)) (d - (low (lnP P) k))) * (P (46 + 4 * k + 2)))))), (0, .ref (a 0)), (1, .int (nI d)), (4, .int (nI k))]) F.1 F.2.1 dX8_water_57 rfl hl (by decide) rfl (fun ls hl => ?_)
          refine lv_iinc (v := nI (k + 1)) (lv' := [(4, .int (nI (k + 1))), (3, .int (nI ((low (lnP P) k) + (P (46 + 4 * k + 1))))), (2, .int (nI ((wat (lnP P) (dnP P) d k) + ((min (P (46 + 4 * k + 1)) (d - (low (lnP P) k))) * (P (46 + 4 * k + 2)))))), (0, .ref (a 0)), (1, .int (nI d))]) F.1 F.2.1 dX8_water_58 hl (k := 4) rfl (nI_add _ _) (by decide) rfl (fun ls hl => ?_)
          refine lv_goto (tgt := 7) F.1 F.2.1 dX8_water_61 (by decide) ?_
          exact ih7 (k + 1) (by omega) (by omega) _ _ w ls (lv_sub hl [3, 4, 2, 1, 0] rfl)
  exact L7 _ 0 (Nat.zero_le _) (Nat.lt_succ_self _) _ _ w ls (lv_sub hl [3, 4, 2, 1, 0] rfl)
set_option maxRecDepth 100000 in
set_option maxHeartbeats 4000000 in
theorem c_X8_unit (l : Launch) (G : KG) (a P Sp Hs T N : Nat → Nat) (sc tl tp fa fr fn : Nat) (i : Nat) (hi : i < P 8) (hS : SegOk P) (h1 : P 1 ≤ 200) (h10 : P 1 * P (46 + 4 * i + 2) / 100 ≤ P 10) : MetV l yX8_unit wsX8_unit 1 0 0 G (mW G a P Sp Hs sc T tl tp fa fr fn N) [.ref (a 0), .int (nI i)] (fun v => v = mW G a (unitF P i) Sp Hs sc T tl tp fa fr fn N) := by
  refine MetV.by (cc := cX8_unit) (nL := 5) (ret := none) (by decide +kernel) rfl (Nat.le_of_ble_eq_true rfl) ?_
  intro p e s m args below meth c F hname w ls hl
  have hl : lv_has ls 5 [(0, .ref (a 0)), (1, .int (nI i))] := hl
  have hts := F.ts
  have iX8 : ∀ w ∈ wsX80, w ∈ wsX8_unit := by decide +kernel
  have f7 := hts (.fieldLink RX8 7 "CoreMelterModel" "m" "[I") (by decide +kernel)
  have h8 := hS.1
  obtain ⟨q1, q2, q3⟩ := hS.2 i hi
  have hdn : P (46 + 4 * i + 2) ≤ 92 := by omega
  have hmo : P (46 + 4 * i + 3) ≤ 100 := by omega
  have hkd : P (46 + 4 * i) ≤ 2 := by omega
  have hm1 : P (46 + 4 * i + 2) * P (46 + 4 * i + 3) ≤ 92 * 100 := Nat.mul_le_mul hdn hmo
  have hm2 : P 1 * P (46 + 4 * i + 2) ≤ 200 * 92 := Nat.mul_le_mul h1 hdn
  refine lv_aload_n F.1 F.2.1 dX8_unit_0 rfl (lv_at hl 0 rfl) ?_
  refine lv_iload_n F.1 F.2.1 dX8_unit_1 rfl (lv_at hl 1 rfl) ?_
  refine lv_iconst (v := nI 2) F.1 F.2.1 dX8_unit_2 (by decide) ?_
  refine r_callVI (rest := []) F w (c_X8_of l G a P Sp Hs T N sc tl tp fa fr fn i 2 (by omega)) gX8_unit_X8_of [0, 1, 2, 3, 4, 5] [] (nA0 := 2) rfl (by decide +kernel) rfl ⟨Nat.le_of_ble_eq_true rfl, Nat.le_of_ble_eq_true rfl⟩ ⟨Nat.le_of_ble_eq_true rfl, Nat.le_of_ble_eq_true rfl⟩ rfl rfl rfl rfl rfl rfl rfl hl rfl (Nat.le_of_ble_eq_true rfl) dX8_unit_3 (fun r_3 w1 H locs hp w => ?_)
  obtain ⟨rfl, rfl⟩ := hp
  have w := w.sub (ws' := mW G a P Sp Hs sc T tl tp fa fr fn N) [0, 1, 2, 3, 4, 5] (by decide) rfl
  refine lv_istore_n (lv' := [(2, .int (nI (P (46 + 4 * i + 2)))), (0, .ref (a 0)), (1, .int (nI i))]) F.1 F.2.1 dX8_unit_6 rfl hl (by decide) rfl (fun ls hl => ?_)
  have L31 :  ∀ (H : Heap) (locs : List Loc), Wd G s (va_A (mW G a P Sp Hs sc T tl tp fa fr fn N) s.heap.size) (mW G a P Sp Hs sc T tl tp fa fr fn N) H locs → ∀ ls : Array Slot, lv_has ls 5 [(2, .int (nI (P (46 + 4 * i + 2)))), (0, .ref (a 0)), (1, .int (nI i))] → W p l e (rmK 1 0 0) s m args below meth c H locs 0 0 (MQ below (QV G (mW G a P Sp Hs sc T tl tp fa fr fn N) s.heap.size (fun v => v = mW G a (unitF P i) Sp Hs sc T tl tp fa fr fn N)) args s 0 0 (va_A (mW G a P Sp Hs sc T tl tp fa fr fn N) s.heap.size)) (F0 m 31 ls [.int (nI (gasU P i))]) := by
    intro  H locs w ls hl
    refine lv_istore_n (lv' := [(3, .int (nI (gasU P i))), (2, .int (nI (P (46 + 4 * i + 2)))), (0, .ref (a 0)), (1, .int (nI i))]) F.1 F.2.1 dX8_unit_31 rfl hl (by decide) rfl (fun ls hl => ?_)
    have L52 :  ∀ (H : Heap) (locs : List Loc), Wd G s (va_A (mW G a P Sp Hs sc T tl tp fa fr fn N) s.heap.size) (mW G a P Sp Hs sc T tl tp fa fr fn N) H locs → ∀ ls : Array Slot, lv_has ls 5 [(3, .int (nI (gasU P i))), (2, .int (nI (P (46 + 4 * i + 2)))), (0, .ref (a 0)), (1, .int (nI i))] → W p l e (rmK 1 0 0) s m args below meth c H locs 0 0 (MQ below (QV G (mW G a P Sp Hs sc T tl tp fa fr fn N) s.heap.size (fun v => v = mW G a (unitF P i) Sp Hs sc T tl tp fa fr fn N)) args s 0 0 (va_A (mW G a P Sp Hs sc T tl tp fa fr fn N) s.heap.size)) (F0 m 52 ls [.int (nI (dirtU P i))]) := by
      intro  H locs w ls hl
      refine lv_istore (lv' := [(4, .int (nI (dirtU P i))), (3, .int (nI (gasU P i))), (2, .int (nI (P (46 + 4 * i + 2)))), (0, .ref (a 0)), (1, .int (nI i))]) F.1 F.2.1 dX8_unit_52 hl (by decide) rfl (fun ls hl => ?_)
      refine lv_aload_n F.1 F.2.1 dX8_unit_54 rfl (lv_at hl 3 rfl) ?_
      refine r_get F w 0 0 iX8 f7 rfl rfl rfl (by decide) rfl dX8_unit_55 ?_
      refine lv_bipush (v := nI 10) F.1 F.2.1 dX8_unit_58 (by decide) ?_
      refine lv_dup2_11 F.1 F.2.1 dX8_unit_60 rfl rfl ?_
      refine r_iald F w 1 rfl (by omega) (by decide) dX8_unit_61 ?_
      refine lv_aload_n F.1 F.2.1 dX8_unit_62 rfl (lv_at hl 3 rfl) ?_
      refine r_get F w 0 0 iX8 f7 rfl rfl rfl (by decide) rfl dX8_unit_63 ?_
      refine lv_iconst (v := nI 1) F.1 F.2.1 dX8_unit_66 (by decide) ?_
      refine r_iald F w 1 rfl (by omega) (by decide) dX8_unit_67 ?_
      refine lv_iload_n F.1 F.2.1 dX8_unit_68 rfl (lv_at hl 2 rfl) ?_
      refine r_imul F dX8_unit_69 ?_
      refine lv_bipush (v := nI 100) F.1 F.2.1 dX8_unit_70 (by decide) ?_
      refine r_idiv F dX8_unit_72 (by omega) (by omega) (by omega) ?_
      refine r_isub F dX8_unit_73 (by omega) ?_
      refine r_iast (ws' := mW G a (up P 10 ((P 10) - (((P 1) * (P (46 + 4 * i + 2))) / 100))) Sp Hs sc T tl tp fa fr fn N) F w 1 rfl (by omega) (by decide) dX8_unit_74 rfl (fun H locs w => ?_)
      refine lv_aload_n F.1 F.2.1 dX8_unit_75 rfl (lv_at hl 3 rfl) ?_
      refine r_get F w 0 0 iX8 f7 rfl rfl rfl (by decide) rfl dX8_unit_76 ?_
      refine lv_bipush (v := nI 9) F.1 F.2.1 dX8_unit_79 (by decide) ?_
      refine lv_dup2_11 F.1 F.2.1 dX8_unit_81 rfl rfl ?_
      refine r_iald F w 1 rfl (by omega) (by decide) dX8_unit_82 ?_
      refine r_to (y := nI (P 9)) (congrArg nI (up_n _ _ (by decide))) ?_
      refine lv_iconst (v := nI 1) F.1 F.2.1 dX8_unit_83 (by decide) ?_
      refine r_iadd F dX8_unit_84 ?_
      refine r_iast (ws' := mW G a (up (up P 10 ((P 10) - (((P 1) * (P (46 + 4 * i + 2))) / 100))) 9 ((P 9) + 1)) Sp Hs sc T tl tp fa fr fn N) F w 1 rfl (by omega) (by decide) dX8_unit_85 rfl (fun H locs w => ?_)
      refine lv_aload_n F.1 F.2.1 dX8_unit_86 rfl (lv_at hl 3 rfl) ?_
      refine r_get F w 0 0 iX8 f7 rfl rfl rfl (by decide) rfl dX8_unit_87 ?_
      refine lv_bipush (v := nI 11) F.1 F.2.1 dX8_unit_90 (by decide) ?_
      refine lv_dup2_11 F.1 F.2.1 dX8_unit_92 rfl rfl ?_
      refine r_iald F w 1 rfl (by omega) (by decide) dX8_unit_93 ?_
      refine r_to (y := nI (P 11)) (congrArg nI ((up_n _ _ (by decide)).trans (up_n _ _ (by decide)))) ?_
      refine lv_iload_n F.1 F.2.1 dX8_unit_94 rfl (lv_at hl 2 rfl) ?_
      refine r_iadd F dX8_unit_95 ?_
      refine r_iast (ws' := mW G a (up (up (up P 10 ((P 10) - (((P 1) * (P (46 + 4 * i + 2))) / 100))) 9 ((P 9) + 1)) 11 ((P 11) + (P (46 + 4 * i + 2)))) Sp Hs sc T tl tp fa fr fn N) F w 1 rfl (by omega) (by decide) dX8_unit_96 rfl (fun H locs w => ?_)
      refine lv_aload_n F.1 F.2.1 dX8_unit_97 rfl (lv_at hl 3 rfl) ?_
      refine r_get F w 0 0 iX8 f7 rfl rfl rfl (by decide) rfl dX8_unit_98 ?_
      refine lv_bipush (v := nI 12) F.1 F.2.1 dX8_unit_101 (by decide) ?_
      refine lv_dup2_11 F.1 F.2.1 dX8_unit_103 rfl rfl ?_
      refine r_iald F w 1 rfl (by omega) (by decide) dX8_unit_104 ?_
      refine r_to (y := nI (P 12)) (congrArg nI ((up_n _ _ (by decide)).trans ((up_n _ _ (by decide)).trans (up_n _ _ (by decide))))) ?_
      refine lv_iload_n F.1 F.2.1 dX8_unit_105 rfl (lv_at hl 1 rfl) ?_
      refine r_iadd F dX8_unit_106 ?_
      refine r_iast (ws' := mW G a (up (up (up (up P 10 ((P 10) - (((P 1) * (P (46 + 4 * i + 2))) / 100))) 9 ((P 9) + 1)) 11 ((P 11) + (P (46 + 4 * i + 2)))) 12 ((P 12) + (gasU P i))) Sp Hs sc T tl tp fa fr fn N) F w 1 rfl (by omega) (by decide) dX8_unit_107 rfl (fun H locs w => ?_)
      refine lv_aload_n F.1 F.2.1 dX8_unit_108 rfl (lv_at hl 3 rfl) ?_
      refine r_get F w 0 0 iX8 f7 rfl rfl rfl (by decide) rfl dX8_unit_109 ?_
      refine lv_bipush (v := nI 13) F.1 F.2.1 dX8_unit_112 (by decide) ?_
      refine lv_dup2_11 F.1 F.2.1 dX8_unit_114 rfl rfl ?_
      refine r_iald F w 1 rfl (by omega) (by decide) dX8_unit_115 ?_
      refine r_to (y := nI (P 13)) (congrArg nI ((up_n _ _ (by decide)).trans ((up_n _ _ (by decide)).trans ((up_n _ _ (by decide)).trans (up_n _ _ (by decide)))))) ?_
      refine lv_iload F.1 F.2.1 dX8_unit_116 (lv_at hl 0 rfl) ?_
      refine r_iadd F dX8_unit_118 ?_
      refine r_iast (ws' := mW G a (up (up (up (up (up P 10 ((P 10) - (((P 1) * (P (46 + 4 * i + 2))) / 100))) 9 ((P 9) + 1)) 11 ((P 11) + (P (46 + 4 * i + 2)))) 12 ((P 12) + (gasU P i))) 13 ((P 13) + (dirtU P i))) Sp Hs sc T tl tp fa fr fn N) F w 1 rfl (by omega) (by decide) dX8_unit_119 rfl (fun H locs w => ?_)
      refine lv_aload_n F.1 F.2.1 dX8_unit_120 rfl (lv_at hl 3 rfl) ?_
      refine r_get F w 0 0 iX8 f7 rfl rfl rfl (by decide) rfl dX8_unit_121 ?_
      refine lv_bipush (v := nI 19) F.1 F.2.1 dX8_unit_124 (by decide) ?_
      refine lv_dup2_11 F.1 F.2.1 dX8_unit_126 rfl rfl ?_
      refine r_iald F w 1 rfl (by omega) (by decide) dX8_unit_127 ?_
      refine r_to (y := nI (P 19)) (congrArg nI ((up_n _ _ (by decide)).trans ((up_n _ _ (by decide)).trans ((up_n _ _ (by decide)).trans ((up_n _ _ (by decide)).trans (up_n _ _ (by decide))))))) ?_
      refine lv_iload_n F.1 F.2.1 dX8_unit_128 rfl (lv_at hl 2 rfl) ?_
      refine r_iadd F dX8_unit_129 ?_
      refine r_iast (ws' := mW G a (up (up (up (up (up (up P 10 ((P 10) - (((P 1) * (P (46 + 4 * i + 2))) / 100))) 9 ((P 9) + 1)) 11 ((P 11) + (P (46 + 4 * i + 2)))) 12 ((P 12) + (gasU P i))) 13 ((P 13) + (dirtU P i))) 19 ((P 19) + (P (46 + 4 * i + 2)))) Sp Hs sc T tl tp fa fr fn N) F w 1 rfl (by omega) (by decide) dX8_unit_130 rfl (fun H locs w => ?_)
      refine lv_aload_n F.1 F.2.1 dX8_unit_131 rfl (lv_at hl 3 rfl) ?_
      refine r_get F w 0 0 iX8 f7 rfl rfl rfl (by decide) rfl dX8_unit_132 ?_
      refine lv_bipush (v := nI 22) F.1 F.2.1 dX8_unit_135 (by decide) ?_
      refine lv_dup2_11 F.1 F.2.1 dX8_unit_137 rfl rfl ?_
      refine r_iald F w 1 rfl (by omega) (by decide) dX8_unit_138 ?_
      refine r_to (y := nI (P 22)) (congrArg nI ((up_n _ _ (by decide)).trans ((up_n _ _ (by decide)).trans ((up_n _ _ (by decide)).trans ((up_n _ _ (by decide)).trans ((up_n _ _ (by decide)).trans (up_n _ _ (by decide)))))))) ?_
      refine lv_iload_n F.1 F.2.1 dX8_unit_139 rfl (lv_at hl 1 rfl) ?_
      refine r_iadd F dX8_unit_140 ?_
      refine r_iast (ws' := mW G a (up (up (up (up (up (up (up P 10 ((P 10) - (((P 1) * (P (46 + 4 * i + 2))) / 100))) 9 ((P 9) + 1)) 11 ((P 11) + (P (46 + 4 * i + 2)))) 12 ((P 12) + (gasU P i))) 13 ((P 13) + (dirtU P i))) 19 ((P 19) + (P (46 + 4 * i + 2)))) 22 ((P 22) + (gasU P i))) Sp Hs sc T tl tp fa fr fn N) F w 1 rfl (by omega) (by decide) dX8_unit_141 rfl (fun H locs w => ?_)
      refine lv_aload_n F.1 F.2.1 dX8_unit_142 rfl (lv_at hl 3 rfl) ?_
      refine r_get F w 0 0 iX8 f7 rfl rfl rfl (by decide) rfl dX8_unit_143 ?_
      refine lv_bipush (v := nI 24) F.1 F.2.1 dX8_unit_146 (by decide) ?_
      refine lv_dup2_11 F.1 F.2.1 dX8_unit_148 rfl rfl ?_
      refine r_iald F w 1 rfl (by omega) (by decide) dX8_unit_149 ?_
      refine r_to (y := nI (P 24)) (congrArg nI ((up_n _ _ (by decide)).trans ((up_n _ _ (by decide)).trans ((up_n _ _ (by decide)).trans ((up_n _ _ (by decide)).trans ((up_n _ _ (by decide)).trans ((up_n _ _ (by decide)).trans (up_n _ _ (by decide))))))))) ?_
      refine lv_iload F.1 F.2.1 dX8_unit_150 (lv_at hl 0 rfl) ?_
      refine r_iadd F dX8_unit_152 ?_
      refine r_iast (ws' := mW G a (up (up (up (up (up (up (up (up P 10 ((P 10) - (((P 1) * (P (46 + 4 * i + 2))) / 100))) 9 ((P 9) + 1)) 11 ((P 11) + (P (46 + 4 * i + 2)))) 12 ((P 12) + (gasU P i))) 13 ((P 13) + (dirtU P i))) 19 ((P 19) + (P (46 + 4 * i + 2)))) 22 ((P 22) + (gasU P i))) 24 ((P 24) + (dirtU P i))) Sp Hs sc T tl tp fa fr fn N) F w 1 rfl (by omega) (by decide) dX8_unit_153 rfl (fun H locs w => ?_)
      exact r_return F w dX8_unit_154 (rfl)
    refine lv_aload_n F.1 F.2.1 dX8_unit_32 rfl (lv_at hl 2 rfl) ?_
    refine lv_iload_n F.1 F.2.1 dX8_unit_33 rfl (lv_at hl 3 rfl) ?_
    refine lv_iconst (v := nI 0) F.1 F.2.1 dX8_unit_34 (by decide) ?_
    refine r_callVI (rest := []) F w (c_X8_of l G a P Sp Hs T N sc tl tp fa fr fn i 0 (by omega)) gX8_unit_X8_of [0, 1, 2, 3, 4, 5] [] (nA0 := 2) rfl (by decide +kernel) rfl ⟨Nat.le_of_ble_eq_true rfl, Nat.le_of_ble_eq_true rfl⟩ ⟨Nat.le_of_ble_eq_true rfl, Nat.le_of_ble_eq_true rfl⟩ rfl rfl rfl rfl rfl rfl rfl hl rfl (Nat.le_of_ble_eq_true rfl) dX8_unit_35 (fun r_35 w1 H locs hp w => ?_)
    obtain ⟨rfl, rfl⟩ := hp
    have w := w.sub (ws' := mW G a P Sp Hs sc T tl tp fa fr fn N) [0, 1, 2, 3, 4, 5] (by decide) rfl
    refine r_to (y := (nI (P (46 + 4 * i)))) (rfl) ?_
    refine lv_iconst (v := nI 2) F.1 F.2.1 dX8_unit_38 (by decide) ?_
    refine r_cne (tgt := 51) F dX8_unit_39 (by decide) (by omega) (by omega) (fun c39 => ?_) (fun c39 => ?_)
    · skip
      refine lv_iconst (v := nI 0) F.1 F.2.1 dX8_unit_51 (by decide) ?_
      refine r_to (y := (nI (dirtU P i))) (congrArg nI (by unfold dirtU; first | rw [if_pos c39] | rw [if_neg c39])) ?_
      exact L52  _ _ w ls (lv_sub hl [0, 1, 2, 3] rfl)
    · skip
      refine lv_aload_n F.1 F.2.1 dX8_unit_42 rfl (lv_at hl 2 rfl) ?_
      refine lv_iload_n F.1 F.2.1 dX8_unit_43 rfl (lv_at hl 3 rfl) ?_
      refine lv_iconst (v := nI 3) F.1 F.2.1 dX8_unit_44 (by decide) ?_
      refine r_callVI (rest := []) F w (c_X8_of l G a P Sp Hs T N sc tl tp fa fr fn i 3 (by omega)) gX8_unit_X8_of [0, 1, 2, 3, 4, 5] [] (nA0 := 2) rfl (by decide +kernel) rfl ⟨Nat.le_of_ble_eq_true rfl, Nat.le_of_ble_eq_true rfl⟩ ⟨Nat.le_of_ble_eq_true rfl, Nat.le_of_ble_eq_true rfl⟩ rfl rfl rfl rfl rfl rfl rfl hl rfl (Nat.le_of_ble_eq_true rfl) dX8_unit_45 (fun r_45 w1 H locs hp w => ?_)
      obtain ⟨rfl, rfl⟩ := hp
      have w := w.sub (ws' := mW G a P Sp Hs sc T tl tp fa fr fn N) [0, 1, 2, 3, 4, 5] (by decide) rfl
      refine lv_goto (tgt := 52) F.1 F.2.1 dX8_unit_48 (by decide) ?_
      refine r_to (y := (nI (dirtU P i))) (congrArg nI (by unfold dirtU; first | rw [if_pos c39] | rw [if_neg c39])) ?_
      exact L52  _ _ w ls (lv_sub hl [0, 1, 2, 3] rfl)
  refine lv_aload_n F.1 F.2.1 dX8_unit_7 rfl (lv_at hl 1 rfl) ?_
  refine lv_iload_n F.1 F.2.1 dX8_unit_8 rfl (lv_at hl 2 rfl) ?_
  refine lv_iconst (v := nI 0) F.1 F.2.1 dX8_unit_9 (by decide) ?_
  refine r_callVI (rest := []) F w (c_X8_of l G a P Sp Hs T N sc tl tp fa fr fn i 0 (by omega)) gX8_unit_X8_of [0, 1, 2, 3, 4, 5] [] (nA0 := 2) rfl (by decide +kernel) rfl ⟨Nat.le_of_ble_eq_true rfl, Nat.le_of_ble_eq_true rfl⟩ ⟨Nat.le_of_ble_eq_true rfl, Nat.le_of_ble_eq_true rfl⟩ rfl rfl rfl rfl rfl rfl rfl hl rfl (Nat.le_of_ble_eq_true rfl) dX8_unit_10 (fun r_10 w1 H locs hp w => ?_)
  obtain ⟨rfl, rfl⟩ := hp
  have w := w.sub (ws' := mW G a P Sp Hs sc T tl tp fa fr fn N) [0, 1, 2, 3, 4, 5] (by decide) rfl
  refine r_to (y := (nI (P (46 + 4 * i)))) (rfl) ?_
  refine r_zne (tgt := 30) F dX8_unit_13 (by decide) (by omega) (fun c13 => ?_) (fun c13 => ?_)
  · skip
    refine lv_iconst (v := nI 0) F.1 F.2.1 dX8_unit_30 (by decide) ?_
    refine r_to (y := (nI (gasU P i))) (congrArg nI (by unfold gasU; first | rw [if_pos c13] | rw [if_neg c13])) ?_
    exact L31  _ _ w ls (lv_sub hl [0, 1, 2] rfl)
  · skip
    refine lv_iload_n F.1 F.2.1 dX8_unit_16 rfl (lv_at hl 0 rfl) ?_
    refine lv_aload_n F.1 F.2.1 dX8_unit_17 rfl (lv_at hl 1 rfl) ?_
    refine lv_iload_n F.1 F.2.1 dX8_unit_18 rfl (lv_at hl 2 rfl) ?_
    refine lv_iconst (v := nI 3) F.1 F.2.1 dX8_unit_19 (by decide) ?_
    refine r_callVI (rest := [.int (nI (P (46 + 4 * i + 2)))]) F w (c_X8_of l G a P Sp Hs T N sc tl tp fa fr fn i 3 (by omega)) gX8_unit_X8_of [0, 1, 2, 3, 4, 5] [] (nA0 := 2) rfl (by decide +kernel) rfl ⟨Nat.le_of_ble_eq_true rfl, Nat.le_of_ble_eq_true rfl⟩ ⟨Nat.le_of_ble_eq_true rfl, Nat.le_of_ble_eq_true rfl⟩ rfl rfl rfl rfl rfl rfl rfl hl rfl (Nat.le_of_ble_eq_true rfl) dX8_unit_20 (fun r_20 w1 H locs hp w => ?_)
    obtain ⟨rfl, rfl⟩ := hp
    have w := w.sub (ws' := mW G a P Sp Hs sc T tl tp fa fr fn N) [0, 1, 2, 3, 4, 5] (by decide) rfl
    refine r_imul F dX8_unit_23 ?_
    refine lv_bipush (v := nI 100) F.1 F.2.1 dX8_unit_24 (by decide) ?_
    refine r_idiv F dX8_unit_26 (by omega) (by omega) (by omega) ?_
    refine lv_goto (tgt := 31) F.1 F.2.1 dX8_unit_27 (by decide) ?_
    refine r_to (y := (nI (gasU P i))) (congrArg nI (by unfold gasU; first | rw [if_pos c13] | rw [if_neg c13])) ?_
    exact L31  _ _ w ls (lv_sub hl [0, 1, 2] rfl)
end
section
set_option maxRecDepth 100000 in
set_option maxHeartbeats 4000000 in
theorem c_X8_stuck (l : Launch) (G : KG) (a P Sp Hs T N : Nat → Nat) (sc tl tp fa fr fn : Nat) : MetI l yX8_stuck wsX8_stuck 1 G (mW G a P Sp Hs sc T tl tp fa fr fn N) [.ref (a 0)] (fun r v => r = nI (stuckN P) ∧ v = mW G a P Sp Hs sc T tl tp fa fr fn N) := by
  refine MetI.by (cc := cX8_stuck) (nL := 3) (ret := some .int) (by decide +kernel) rfl (Nat.le_of_ble_eq_true rfl) ?_
  intro p e s m args below meth c F w ls hl
  have hl : lv_has ls 3 [(0, .ref (a 0))] := hl
  have hts := F.ts
  refine lv_iconst (v := nI 0) F.1 F.2.1 dX8_stuck_0 (by decide) ?_
  refine lv_istore_n (lv' := [(1, .int (nI 0)), (0, .ref (a 0))]) F.1 F.2.1 dX8_stuck_1 rfl hl (by decide) rfl (fun ls hl => ?_)
  refine lv_iconst (v := nI 0) F.1 F.2.1 dX8_stuck_2 (by decide) ?_
  refine lv_istore_n (lv' := [(2, .int (nI 0)), (1, .int (nI 0)), (0, .ref (a 0))]) F.1 F.2.1 dX8_stuck_3 rfl hl (by decide) rfl (fun ls hl => ?_)
  have L4 : ∀ n : Nat, ∀ (k : Nat), (k ≤ 4) → 4 - k < n → ∀ (H : Heap) (locs : List Loc), Wd G s (va_A (mW G a P Sp Hs sc T tl tp fa fr fn N) s.heap.size) (mW G a P Sp Hs sc T tl tp fa fr fn N) H locs → ∀ ls : Array Slot, lv_has ls 3 [(0, .ref (a 0)), (1, .int (nI (low (fun j => P (26 + 5 * j)) k))), (2, .int (nI k))] → W p l e (rmK 1 0 0) s m args below meth c H locs 0 0 (MQ below (QI G (mW G a P Sp Hs sc T tl tp fa fr fn N) s.heap.size (fun r v => r = nI (stuckN P) ∧ v = mW G a P Sp Hs sc T tl tp fa fr fn N)) args s 0 0 (va_A (mW G a P Sp Hs sc T tl tp fa fr fn N) s.heap.size)) (F0 m 4 ls []) := by
    intro n
    induction n with
    | zero => intro k h1 hm; exact absurd hm (Nat.not_lt_zero _)
    | succ n ih4 =>
      intro k h1 hm4 H locs w ls hl
      refine lv_iload_n F.1 F.2.1 dX8_stuck_4 rfl (lv_at hl 2 rfl) ?_
      refine lv_iconst (v := nI 4) F.1 F.2.1 dX8_stuck_5 (by decide) ?_
      refine r_cge (tgt := 24) F dX8_stuck_6 (by decide) (by omega) (by omega) (fun c6 => ?_) (fun c6 => ?_)
      · skip
        refine lv_iload_n F.1 F.2.1 dX8_stuck_24 rfl (lv_at hl 1 rfl) ?_
        exact r_ireturn F w dX8_stuck_25 (⟨by rw [show k = 4 by omega]; exact congrArg nI (by simp [low, stuckN]), rfl⟩)
      · skip
        refine lv_iload_n F.1 F.2.1 dX8_stuck_9 rfl (lv_at hl 1 rfl) ?_
        refine lv_aload_n F.1 F.2.1 dX8_stuck_10 rfl (lv_at hl 0 rfl) ?_
        refine lv_iload_n F.1 F.2.1 dX8_stuck_11 rfl (lv_at hl 2 rfl) ?_
        refine lv_iconst (v := nI 0) F.1 F.2.1 dX8_stuck_12 (by decide) ?_
        refine r_callVI (rest := [.int (nI (low (fun j => P (26 + 5 * j)) k))]) F w (c_X8_ofLine l G a P Sp Hs T N sc tl tp fa fr fn k 0 (by omega)) gX8_stuck_X8_ofLine [0, 1, 2, 3, 4, 5] [] (nA0 := 2) rfl (by decide +kernel) rfl ⟨Nat.le_of_ble_eq_true rfl, Nat.le_of_ble_eq_true rfl⟩ ⟨Nat.le_of_ble_eq_true rfl, Nat.le_of_ble_eq_true rfl⟩ rfl rfl rfl rfl rfl rfl rfl hl rfl (Nat.le_of_ble_eq_true rfl) dX8_stuck_13 (fun r_13 w1 H locs hp w => ?_)
        obtain ⟨rfl, rfl⟩ := hp
        have w := w.sub (ws' := mW G a P Sp Hs sc T tl tp fa fr fn N) [0, 1, 2, 3, 4, 5] (by decide) rfl
        refine r_to (y := (nI (P (26 + 5 * k)))) (rfl) ?_
        refine r_iadd F dX8_stuck_16 ?_
        refine lv_istore_n (lv' := [(1, .int (nI ((low (fun j => P (26 + 5 * j)) k) + (P (26 + 5 * k))))), (0, .ref (a 0)), (2, .int (nI k))]) F.1 F.2.1 dX8_stuck_17 rfl hl (by decide) rfl (fun ls hl => ?_)
        refine lv_iinc (v := nI (k + 1)) (lv' := [(2, .int (nI (k + 1))), (1, .int (nI ((low (fun j => P (26 + 5 * j)) k) + (P (26 + 5 * k))))), (0, .ref (a 0))]) F.1 F.2.1 dX8_stuck_18 hl (k := 2) rfl (nI_add _ _) (by decide) rfl (fun ls hl => ?_)
        refine lv_goto (tgt := 4) F.1 F.2.1 dX8_stuck_21 (by decide) ?_
        exact ih4 (k + 1) (by omega) (by omega) _ _ w ls (lv_sub hl [2, 1, 0] rfl)
  exact L4 _ 0 (Nat.zero_le _) (Nat.lt_succ_self _) _ _ w ls (lv_sub hl [2, 1, 0] rfl)
set_option maxRecDepth 100000 in
set_option maxHeartbeats 4000000 in
theorem c_X8_reasonNow (l : Launch) (G : KG) (a P Sp Hs T N : Nat → Nat) (sc tl tp fa fr fn : Nat) (h9 : P 9 ≤ 6000) (ht : top P ≤ 6000) (h11 : P 11 ≤ 1000000) (h2 : P 2 ≤ 20000) (hL : LinOk P) : MetI l yX8_reasonNow wsX8_reasonNow 2 G (mW G a P Sp Hs sc T tl tp fa fr fn N) [.ref (a 0), .int (nI (top P))] (fun r v => r = nI (reasonF P) ∧ v = mW G a P Sp Hs sc T tl tp fa fr fn N) := by
  refine MetI.by (cc := cX8_reasonNow) (nL := 2) (ret := some .int) (by decide +kernel) rfl (Nat.le_of_ble_eq_true rfl) ?_
  intro p e s m args below meth c F w ls hl
  have hl : lv_has ls 2 [(0, .ref (a 0)), (1, .int (nI (top P)))] := hl
  have hts := F.ts
  have iX8 : ∀ w ∈ wsX80, w ∈ wsX8_reasonNow := by decide +kernel
  have f7 := hts (.fieldLink RX8 7 "CoreMelterModel" "m" "[I") (by decide +kernel)
  have e0 := (hL 0 (by decide)).1
  have e1 := (hL 1 (by decide)).1
  have e2 := (hL 2 (by decide)).1
  have e3 := (hL 3 (by decide)).1
  have hsn : stuckN P ≤ 4 := by show P 26 + P 31 + P 36 + P 41 ≤ 4; simp only [Nat.mul_zero, Nat.add_zero, Nat.reduceMul, Nat.reduceAdd] at e0 e1 e2 e3; omega
  refine lv_aload_n F.1 F.2.1 dX8_reasonNow_0 rfl (lv_at hl 0 rfl) ?_
  refine r_get F w 0 0 iX8 f7 rfl rfl rfl (by decide) rfl dX8_reasonNow_1 ?_
  refine lv_bipush (v := nI 9) F.1 F.2.1 dX8_reasonNow_4 (by decide) ?_
  refine r_iald F w 1 rfl (by omega) (by decide) dX8_reasonNow_6 ?_
  refine lv_iload_n F.1 F.2.1 dX8_reasonNow_7 rfl (lv_at hl 1 rfl) ?_
  refine r_cne (tgt := 15) F dX8_reasonNow_8 (by decide) (by omega) (by omega) (fun c8 => ?_) (fun c8 => ?_)
  · skip
    refine lv_aload_n F.1 F.2.1 dX8_reasonNow_15 rfl (lv_at hl 0 rfl) ?_
    refine r_callVI (rest := []) F w (c_X8_stuck l G a P Sp Hs T N sc tl tp fa fr fn  ) gX8_reasonNow_X8_stuck [0, 1, 2, 3, 4, 5] [] (nA0 := 0) rfl (by decide +kernel) rfl ⟨Nat.le_of_ble_eq_true rfl, Nat.le_of_ble_eq_true rfl⟩ ⟨Nat.le_of_ble_eq_true rfl, Nat.le_of_ble_eq_true rfl⟩ rfl rfl rfl rfl rfl rfl rfl hl rfl (Nat.le_of_ble_eq_true rfl) dX8_reasonNow_16 (fun r_16 w1 H locs hp w => ?_)
    obtain ⟨rfl, rfl⟩ := hp
    have w := w.sub (ws' := mW G a P Sp Hs sc T tl tp fa fr fn N) [0, 1, 2, 3, 4, 5] (by decide) rfl
    refine lv_iconst (v := nI 4) F.1 F.2.1 dX8_reasonNow_19 (by decide) ?_
    refine r_cne (tgt := 27) F dX8_reasonNow_20 (by decide) (by omega) (by omega) (fun c20 => ?_) (fun c20 => ?_)
    · skip
      refine lv_aload_n F.1 F.2.1 dX8_reasonNow_27 rfl (lv_at hl 0 rfl) ?_
      refine r_get F w 0 0 iX8 f7 rfl rfl rfl (by decide) rfl dX8_reasonNow_28 ?_
      refine lv_bipush (v := nI 11) F.1 F.2.1 dX8_reasonNow_31 (by decide) ?_
      refine r_iald F w 1 rfl (by omega) (by decide) dX8_reasonNow_33 ?_
      refine lv_aload_n F.1 F.2.1 dX8_reasonNow_34 rfl (lv_at hl 0 rfl) ?_
      refine r_get F w 0 0 iX8 f7 rfl rfl rfl (by decide) rfl dX8_reasonNow_35 ?_
      refine lv_iconst (v := nI 2) F.1 F.2.1 dX8_reasonNow_38 (by decide) ?_
      refine r_iald F w 1 rfl (by omega) (by decide) dX8_reasonNow_39 ?_
      refine r_clt (tgt := 47) F dX8_reasonNow_40 (by decide) (by omega) (by omega) (fun c40 => ?_) (fun c40 => ?_)
      · skip
        refine lv_iconst (v := nI 0) F.1 F.2.1 dX8_reasonNow_47 (by decide) ?_
        exact r_ireturn F w dX8_reasonNow_48 (⟨congrArg nI (by unfold reasonF; first | rw [if_pos c8] | rw [if_neg c8, if_pos c20] | rw [if_neg c8, if_neg c20, if_pos (by omega)] | rw [if_neg c8, if_neg c20, if_neg (by omega)]), rfl⟩)
      · skip
        refine lv_iconst (v := nI 3) F.1 F.2.1 dX8_reasonNow_43 (by decide) ?_
        refine lv_goto (tgt := 48) F.1 F.2.1 dX8_reasonNow_44 (by decide) ?_
        exact r_ireturn F w dX8_reasonNow_48 (⟨congrArg nI (by unfold reasonF; first | rw [if_pos c8] | rw [if_neg c8, if_pos c20] | rw [if_neg c8, if_neg c20, if_pos (by omega)] | rw [if_neg c8, if_neg c20, if_neg (by omega)]), rfl⟩)
    · skip
      refine lv_iconst (v := nI 2) F.1 F.2.1 dX8_reasonNow_23 (by decide) ?_
      refine lv_goto (tgt := 48) F.1 F.2.1 dX8_reasonNow_24 (by decide) ?_
      exact r_ireturn F w dX8_reasonNow_48 (⟨congrArg nI (by unfold reasonF; first | rw [if_pos c8] | rw [if_neg c8, if_pos c20] | rw [if_neg c8, if_neg c20, if_pos (by omega)] | rw [if_neg c8, if_neg c20, if_neg (by omega)]), rfl⟩)
  · skip
    refine lv_iconst (v := nI 1) F.1 F.2.1 dX8_reasonNow_11 (by decide) ?_
    refine lv_goto (tgt := 48) F.1 F.2.1 dX8_reasonNow_12 (by decide) ?_
    exact r_ireturn F w dX8_reasonNow_48 (⟨congrArg nI (by unfold reasonF; first | rw [if_pos c8] | rw [if_neg c8, if_pos c20] | rw [if_neg c8, if_neg c20, if_pos (by omega)] | rw [if_neg c8, if_neg c20, if_neg (by omega)]), rfl⟩)
set_option maxRecDepth 100000 in
set_option maxHeartbeats 4000000 in
theorem c_X8_melts (l : Launch) (G : KG) (a P Sp Hs T N : Nat → Nat) (sc tl tp fa fr fn : Nat) (hS : SegOk P) (hT : SetOk P) (hM0 : MelOk P) (hD0 : DrOk P) (hb : P 10 ≤ 5000000) : MetV l yX8_melts wsX8_melts 3 0 0 G (mW G a P Sp Hs sc T tl tp fa fr fn N) [.ref (a 0), .int (nI (top P))] (fun v => v = mW G a (meltF P) Sp Hs sc T tl tp fa fr fn N) := by
  refine MetV.by (cc := cX8_melts) (nL := 4) (ret := none) (by decide +kernel) rfl (Nat.le_of_ble_eq_true rfl) ?_
  intro p e s m args below meth c F hname w ls hl
  have hl : lv_has ls 4 [(0, .ref (a 0)), (1, .int (nI (top P)))] := hl
  have hts := F.ts
  have iX8 : ∀ w ∈ wsX80, w ∈ wsX8_melts := by decide +kernel
  have f7 := hts (.fieldLink RX8 7 "CoreMelterModel" "m" "[I") (by decide +kernel)
  have ht := hS.top_le
  have hP0 := hT.1
  refine lv_aload_n F.1 F.2.1 dX8_melts_0 rfl (lv_at hl 0 rfl) ?_
  refine r_get F w 0 0 iX8 f7 rfl rfl rfl (by decide) rfl dX8_melts_1 ?_
  refine lv_bipush (v := nI 10) F.1 F.2.1 dX8_melts_4 (by decide) ?_
  refine lv_dup2_11 F.1 F.2.1 dX8_melts_6 rfl rfl ?_
  refine r_iald F w 1 rfl (by omega) (by decide) dX8_melts_7 ?_
  refine lv_aload_n F.1 F.2.1 dX8_melts_8 rfl (lv_at hl 0 rfl) ?_
  refine r_get F w 0 0 iX8 f7 rfl rfl rfl (by decide) rfl dX8_melts_9 ?_
  refine lv_iconst (v := nI 0) F.1 F.2.1 dX8_melts_12 (by decide) ?_
  refine r_iald F w 1 rfl (by omega) (by decide) dX8_melts_13 ?_
  refine r_iadd F dX8_melts_14 ?_
  refine r_iast (ws' := mW G a (up P 10 ((P 10) + (P 0))) Sp Hs sc T tl tp fa fr fn N) F w 1 rfl (by omega) (by decide) dX8_melts_15 rfl (fun H locs w => ?_)
  refine lv_iconst (v := nI 1) F.1 F.2.1 dX8_melts_16 (by decide) ?_
  refine lv_istore_n (lv' := [(2, .int (nI 1)), (0, .ref (a 0)), (1, .int (nI (top P)))]) F.1 F.2.1 dX8_melts_17 rfl hl (by decide) rfl (fun ls hl => ?_)
  have L18 : ∀ n : Nat, ∀ (Z : Nat → Nat) (f : Nat), (AgM P Z) → (MelOk Z) → (DrOk Z) → (Z 10 ≤ P 10 + P 0) → (melL f Z = melL 6001 (up P 10 (P 10 + P 0))) → (top P - Z 9 < f) → top P - Z 9 < n → ∀ (H : Heap) (locs : List Loc), Wd G s (va_A (mW G a P Sp Hs sc T tl tp fa fr fn N) s.heap.size) (mW G a Z Sp Hs sc T tl tp fa fr fn N) H locs → ∀ ls : Array Slot, lv_has ls 4 [(0, .ref (a 0)), (1, .int (nI (top P))), (2, .int (nI 1))] → W p l e (rmK 3 0 0) s m args below meth c H locs 0 0 (MQ below (QV G (mW G a P Sp Hs sc T tl tp fa fr fn N) s.heap.size (fun v => v = mW G a (meltF P) Sp Hs sc T tl tp fa fr fn N)) args s 0 0 (va_A (mW G a P Sp Hs sc T tl tp fa fr fn N) s.heap.size)) (F0 m 18 ls []) := by
    intro n
    induction n with
    | zero => intro Z f hA hM hD h10 hR hf hm; exact absurd hm (Nat.not_lt_zero _)
    | succ n ih18 =>
      intro Z f hA hM hD h10 hR hf hm18 H locs w ls hl
      refine lv_iload_n F.1 F.2.1 dX8_melts_18 rfl (lv_at hl 2 rfl) ?_
      refine r_zeq (tgt := 127) F dX8_melts_19 (by decide) (by omega) (fun c19 => ?_) (fun c19 => ?_)
      · exact absurd c19 (by decide)
      · skip
        have hSZ := hA.seg hS
        have hTZ := hA.set hT
        have hbZ : DInv Z ∨ True := Or.inr trivial
        have h9 : Z 9 ≤ 6000 := by have := hM.1; rw [hA.top] at this; omega
        have h11 : Z 11 ≤ 552000 := by have := wat_bound (ln := lnP Z) (dn := dnP Z) (d := Z 9) (n := Z 8) hSZ.dn_le; have h3 : min (Z 9) (low (lnP Z) (Z 8)) ≤ Z 9 := Nat.min_le_left _ _; have := hM.2.1; have := hD.1; omega
        obtain ⟨t0, t1, t2, t3, t4, t5, t6, t7, t8, t9, t10, t11, t12, t13⟩ := hTZ
        refine lv_aload_n F.1 F.2.1 dX8_melts_22 rfl (lv_at hl 0 rfl) ?_
        refine r_get F w 0 0 iX8 f7 rfl rfl rfl (by decide) rfl dX8_melts_23 ?_
        refine lv_bipush (v := nI 9) F.1 F.2.1 dX8_melts_26 (by decide) ?_
        refine r_iald F w 1 rfl (by omega) (by decide) dX8_melts_28 ?_
        refine lv_iload_n F.1 F.2.1 dX8_melts_29 rfl (lv_at hl 1 rfl) ?_
        refine r_cge (tgt := 127) F dX8_melts_30 (by decide) (by omega) (by omega) (fun c30 => ?_) (fun c30 => ?_)
        · skip
          have hZR : Z = melL 6001 (up P 10 (P 10 + P 0)) := by rw [← hR]; exact (melL_stop1 (by rw [hA.top]; exact c30) f).symm
          refine lv_aload_n F.1 F.2.1 dX8_melts_127 rfl (lv_at hl 0 rfl) ?_
          refine r_get F w 0 0 iX8 f7 rfl rfl rfl (by decide) rfl dX8_melts_128 ?_
          refine lv_bipush (v := nI 10) F.1 F.2.1 dX8_melts_131 (by decide) ?_
          refine lv_aload_n F.1 F.2.1 dX8_melts_133 rfl (lv_at hl 0 rfl) ?_
          refine r_get F w 0 0 iX8 f7 rfl rfl rfl (by decide) rfl dX8_melts_134 ?_
          refine lv_bipush (v := nI 9) F.1 F.2.1 dX8_melts_137 (by decide) ?_
          refine r_iald F w 1 rfl (by omega) (by decide) dX8_melts_139 ?_
          refine lv_iload_n F.1 F.2.1 dX8_melts_140 rfl (lv_at hl 1 rfl) ?_
          refine r_cne (tgt := 148) F dX8_melts_141 (by decide) (by omega) (by omega) (fun c141 => ?_) (fun c141 => ?_)
          · skip
            refine lv_aload_n F.1 F.2.1 dX8_melts_148 rfl (lv_at hl 0 rfl) ?_
            refine r_get F w 0 0 iX8 f7 rfl rfl rfl (by decide) rfl dX8_melts_149 ?_
            refine lv_bipush (v := nI 10) F.1 F.2.1 dX8_melts_152 (by decide) ?_
            refine r_iald F w 1 rfl (by omega) (by decide) dX8_melts_154 ?_
            refine r_iast (ws' := mW G a (up Z 10 (Z 10)) Sp Hs sc T tl tp fa fr fn N) F w 1 rfl (by omega) (by decide) dX8_melts_155 rfl (fun H locs w => ?_)
            exact r_return F w dX8_melts_156 (by unfold meltF; rw [← hZR]; first | rw [if_pos c141] | rw [if_neg c141])
          · skip
            refine lv_iconst (v := nI 0) F.1 F.2.1 dX8_melts_144 (by decide) ?_
            refine lv_goto (tgt := 155) F.1 F.2.1 dX8_melts_145 (by decide) ?_
            refine r_iast (ws' := mW G a (up Z 10 0) Sp Hs sc T tl tp fa fr fn N) F w 1 rfl (by omega) (by decide) dX8_melts_155 rfl (fun H locs w => ?_)
            exact r_return F w dX8_melts_156 (by unfold meltF; rw [← hZR]; first | rw [if_pos c141] | rw [if_neg c141])
        · skip
          refine lv_aload_n F.1 F.2.1 dX8_melts_33 rfl (lv_at hl 0 rfl) ?_
          refine r_get F w 0 0 iX8 f7 rfl rfl rfl (by decide) rfl dX8_melts_34 ?_
          refine lv_bipush (v := nI 11) F.1 F.2.1 dX8_melts_37 (by decide) ?_
          refine r_iald F w 1 rfl (by omega) (by decide) dX8_melts_39 ?_
          refine lv_aload_n F.1 F.2.1 dX8_melts_40 rfl (lv_at hl 0 rfl) ?_
          refine r_get F w 0 0 iX8 f7 rfl rfl rfl (by decide) rfl dX8_melts_41 ?_
          refine lv_iconst (v := nI 2) F.1 F.2.1 dX8_melts_44 (by decide) ?_
          refine r_iald F w 1 rfl (by omega) (by decide) dX8_melts_45 ?_
          refine r_cge (tgt := 127) F dX8_melts_46 (by decide) (by omega) (by omega) (fun c46 => ?_) (fun c46 => ?_)
          · skip
            have hZR : Z = melL 6001 (up P 10 (P 10 + P 0)) := by rw [← hR]; exact (melL_stop2 c46 f).symm
            refine lv_aload_n F.1 F.2.1 dX8_melts_127 rfl (lv_at hl 0 rfl) ?_
            refine r_get F w 0 0 iX8 f7 rfl rfl rfl (by decide) rfl dX8_melts_128 ?_
            refine lv_bipush (v := nI 10) F.1 F.2.1 dX8_melts_131 (by decide) ?_
            refine lv_aload_n F.1 F.2.1 dX8_melts_133 rfl (lv_at hl 0 rfl) ?_
            refine r_get F w 0 0 iX8 f7 rfl rfl rfl (by decide) rfl dX8_melts_134 ?_
            refine lv_bipush (v := nI 9) F.1 F.2.1 dX8_melts_137 (by decide) ?_
            refine r_iald F w 1 rfl (by omega) (by decide) dX8_melts_139 ?_
            refine lv_iload_n F.1 F.2.1 dX8_melts_140 rfl (lv_at hl 1 rfl) ?_
            refine r_cne (tgt := 148) F dX8_melts_141 (by decide) (by omega) (by omega) (fun c141 => ?_) (fun c141 => ?_)
            · skip
              refine lv_aload_n F.1 F.2.1 dX8_melts_148 rfl (lv_at hl 0 rfl) ?_
              refine r_get F w 0 0 iX8 f7 rfl rfl rfl (by decide) rfl dX8_melts_149 ?_
              refine lv_bipush (v := nI 10) F.1 F.2.1 dX8_melts_152 (by decide) ?_
              refine r_iald F w 1 rfl (by omega) (by decide) dX8_melts_154 ?_
              refine r_iast (ws' := mW G a (up Z 10 (Z 10)) Sp Hs sc T tl tp fa fr fn N) F w 1 rfl (by omega) (by decide) dX8_melts_155 rfl (fun H locs w => ?_)
              exact r_return F w dX8_melts_156 (by unfold meltF; rw [← hZR]; first | rw [if_pos c141] | rw [if_neg c141])
            · skip
              refine lv_iconst (v := nI 0) F.1 F.2.1 dX8_melts_144 (by decide) ?_
              refine lv_goto (tgt := 155) F.1 F.2.1 dX8_melts_145 (by decide) ?_
              refine r_iast (ws' := mW G a (up Z 10 0) Sp Hs sc T tl tp fa fr fn N) F w 1 rfl (by omega) (by decide) dX8_melts_155 rfl (fun H locs w => ?_)
              exact r_return F w dX8_melts_156 (by unfold meltF; rw [← hZR]; first | rw [if_pos c141] | rw [if_neg c141])
          · skip
            have hlt : Z 9 < top Z := by rw [hA.top]; exact c30
            obtain ⟨g1, g2, g3⟩ := sgF_lt hlt
            have h8 := hSZ.1
            obtain ⟨q1, q2, q3⟩ := hSZ.2 (sgF Z) g1
            have hm2 : Z 1 * Z (46 + 4 * sgF Z + 2) ≤ 200 * 92 := Nat.mul_le_mul (by omega) (by omega)
            refine lv_aload_n F.1 F.2.1 dX8_melts_49 rfl (lv_at hl 0 rfl) ?_
            refine lv_aload_n F.1 F.2.1 dX8_melts_50 rfl (lv_at hl 0 rfl) ?_
            refine r_get F w 0 0 iX8 f7 rfl rfl rfl (by decide) rfl dX8_melts_51 ?_
            refine lv_bipush (v := nI 9) F.1 F.2.1 dX8_melts_54 (by decide) ?_
            refine r_iald F w 1 rfl (by omega) (by decide) dX8_melts_56 ?_
            refine r_callVI (rest := []) F w (c_X8_segmentOfIn l G a Z Sp Hs T N sc tl tp fa fr fn (Z 9) (by omega) hSZ hlt) gX8_melts_X8_segmentOf [0, 1, 2, 3, 4, 5] [] (nA0 := 1) rfl (by decide +kernel) rfl ⟨Nat.le_of_ble_eq_true rfl, Nat.le_of_ble_eq_true rfl⟩ ⟨Nat.le_of_ble_eq_true rfl, Nat.le_of_ble_eq_true rfl⟩ rfl rfl rfl rfl rfl rfl rfl hl rfl (Nat.le_of_ble_eq_true rfl) dX8_melts_57 (fun r_57 w1 H locs hp w => ?_)
            obtain ⟨rfl, rfl⟩ := hp
            have w := w.sub (ws' := mW G a Z Sp Hs sc T tl tp fa fr fn N) [0, 1, 2, 3, 4, 5] (by decide) rfl
            refine r_to (y := (nI (sgF Z))) (rfl) ?_
            refine lv_istore_n (lv' := [(3, .int (nI (sgF Z))), (0, .ref (a 0)), (1, .int (nI (top P))), (2, .int (nI 1))]) F.1 F.2.1 dX8_melts_60 rfl hl (by decide) rfl (fun ls hl => ?_)
            refine lv_aload_n F.1 F.2.1 dX8_melts_61 rfl (lv_at hl 1 rfl) ?_
            refine lv_iload_n F.1 F.2.1 dX8_melts_62 rfl (lv_at hl 0 rfl) ?_
            refine lv_iconst (v := nI 0) F.1 F.2.1 dX8_melts_63 (by decide) ?_
            refine r_callVI (rest := []) F w (c_X8_of l G a Z Sp Hs T N sc tl tp fa fr fn (sgF Z) 0 (by omega)) gX8_melts_X8_of [0, 1, 2, 3, 4, 5] [] (nA0 := 2) rfl (by decide +kernel) rfl ⟨Nat.le_of_ble_eq_true rfl, Nat.le_of_ble_eq_true rfl⟩ ⟨Nat.le_of_ble_eq_true rfl, Nat.le_of_ble_eq_true rfl⟩ rfl rfl rfl rfl rfl rfl rfl hl rfl (Nat.le_of_ble_eq_true rfl) dX8_melts_64 (fun r_64 w1 H locs hp w => ?_)
            obtain ⟨rfl, rfl⟩ := hp
            have w := w.sub (ws' := mW G a Z Sp Hs sc T tl tp fa fr fn N) [0, 1, 2, 3, 4, 5] (by decide) rfl
            refine r_to (y := (nI (Z (46 + 4 * (sgF Z))))) (rfl) ?_
            refine lv_iconst (v := nI 1) F.1 F.2.1 dX8_melts_67 (by decide) ?_
            refine r_cne (tgt := 88) F dX8_melts_68 (by decide) (by omega) (by omega) (fun c68 => ?_) (fun c68 => ?_)
            · skip
              refine lv_aload_n F.1 F.2.1 dX8_melts_88 rfl (lv_at hl 1 rfl) ?_
              refine r_get F w 0 0 iX8 f7 rfl rfl rfl (by decide) rfl dX8_melts_89 ?_
              refine lv_bipush (v := nI 10) F.1 F.2.1 dX8_melts_92 (by decide) ?_
              refine r_iald F w 1 rfl (by omega) (by decide) dX8_melts_94 ?_
              refine lv_aload_n F.1 F.2.1 dX8_melts_95 rfl (lv_at hl 1 rfl) ?_
              refine r_get F w 0 0 iX8 f7 rfl rfl rfl (by decide) rfl dX8_melts_96 ?_
              refine lv_iconst (v := nI 1) F.1 F.2.1 dX8_melts_99 (by decide) ?_
              refine r_iald F w 1 rfl (by omega) (by decide) dX8_melts_100 ?_
              refine lv_aload_n F.1 F.2.1 dX8_melts_101 rfl (lv_at hl 1 rfl) ?_
              refine lv_iload_n F.1 F.2.1 dX8_melts_102 rfl (lv_at hl 0 rfl) ?_
              refine lv_iconst (v := nI 2) F.1 F.2.1 dX8_melts_103 (by decide) ?_
              refine r_callVI (rest := [.int (nI (Z 1)), .int (nI (Z 10))]) F w (c_X8_of l G a Z Sp Hs T N sc tl tp fa fr fn (sgF Z) 2 (by omega)) gX8_melts_X8_of [0, 1, 2, 3, 4, 5] [] (nA0 := 2) rfl (by decide +kernel) rfl ⟨Nat.le_of_ble_eq_true rfl, Nat.le_of_ble_eq_true rfl⟩ ⟨Nat.le_of_ble_eq_true rfl, Nat.le_of_ble_eq_true rfl⟩ rfl rfl rfl rfl rfl rfl rfl hl rfl (Nat.le_of_ble_eq_true rfl) dX8_melts_104 (fun r_104 w1 H locs hp w => ?_)
              obtain ⟨rfl, rfl⟩ := hp
              have w := w.sub (ws' := mW G a Z Sp Hs sc T tl tp fa fr fn N) [0, 1, 2, 3, 4, 5] (by decide) rfl
              refine r_imul F dX8_melts_107 ?_
              refine lv_bipush (v := nI 100) F.1 F.2.1 dX8_melts_108 (by decide) ?_
              refine r_idiv F dX8_melts_110 (by omega) (by omega) (by omega) ?_
              refine r_clt (tgt := 122) F dX8_melts_111 (by decide) (by omega) (by omega) (fun c111 => ?_) (fun c111 => ?_)
              · skip
                have hZR : Z = melL 6001 (up P 10 (P 10 + P 0)) := by rw [← hR]; exact (melL_stop3 c68 (Nat.not_le.mpr c111) f).symm
                refine lv_iconst (v := nI 0) F.1 F.2.1 dX8_melts_122 (by decide) ?_
                refine lv_istore_n (lv' := [(2, .int (nI 0)), (3, .int (nI (sgF Z))), (0, .ref (a 0)), (1, .int (nI (top P)))]) F.1 F.2.1 dX8_melts_123 rfl hl (by decide) rfl (fun ls hl => ?_)
                refine lv_goto (tgt := 18) F.1 F.2.1 dX8_melts_124 (by decide) ?_
                refine lv_iload_n F.1 F.2.1 dX8_melts_18 rfl (lv_at hl 0 rfl) ?_
                refine r_zeq (tgt := 127) F dX8_melts_19 (by decide) (by omega) (fun c19 => ?_) (fun c19 => ?_)
                · skip
                  refine lv_aload_n F.1 F.2.1 dX8_melts_127 rfl (lv_at hl 2 rfl) ?_
                  refine r_get F w 0 0 iX8 f7 rfl rfl rfl (by decide) rfl dX8_melts_128 ?_
                  refine lv_bipush (v := nI 10) F.1 F.2.1 dX8_melts_131 (by decide) ?_
                  refine lv_aload_n F.1 F.2.1 dX8_melts_133 rfl (lv_at hl 2 rfl) ?_
                  refine r_get F w 0 0 iX8 f7 rfl rfl rfl (by decide) rfl dX8_melts_134 ?_
                  refine lv_bipush (v := nI 9) F.1 F.2.1 dX8_melts_137 (by decide) ?_
                  refine r_iald F w 1 rfl (by omega) (by decide) dX8_melts_139 ?_
                  refine lv_iload_n F.1 F.2.1 dX8_melts_140 rfl (lv_at hl 3 rfl) ?_
                  refine r_cne (tgt := 148) F dX8_melts_141 (by decide) (by omega) (by omega) (fun c141 => ?_) (fun c141 => ?_)
                  · skip
                    refine lv_aload_n F.1 F.2.1 dX8_melts_148 rfl (lv_at hl 2 rfl) ?_
                    refine r_get F w 0 0 iX8 f7 rfl rfl rfl (by decide) rfl dX8_melts_149 ?_
                    refine lv_bipush (v := nI 10) F.1 F.2.1 dX8_melts_152 (by decide) ?_
                    refine r_iald F w 1 rfl (by omega) (by decide) dX8_melts_154 ?_
                    refine r_iast (ws' := mW G a (up Z 10 (Z 10)) Sp Hs sc T tl tp fa fr fn N) F w 1 rfl (by omega) (by decide) dX8_melts_155 rfl (fun H locs w => ?_)
                    exact r_return F w dX8_melts_156 (by unfold meltF; rw [← hZR]; first | rw [if_pos c141] | rw [if_neg c141])
                  · skip
                    refine lv_iconst (v := nI 0) F.1 F.2.1 dX8_melts_144 (by decide) ?_
                    refine lv_goto (tgt := 155) F.1 F.2.1 dX8_melts_145 (by decide) ?_
                    refine r_iast (ws' := mW G a (up Z 10 0) Sp Hs sc T tl tp fa fr fn N) F w 1 rfl (by omega) (by decide) dX8_melts_155 rfl (fun H locs w => ?_)
                    exact r_return F w dX8_melts_156 (by unfold meltF; rw [← hZR]; first | rw [if_pos c141] | rw [if_neg c141])
                · exact absurd rfl c19
              · skip
                refine lv_aload_n F.1 F.2.1 dX8_melts_114 rfl (lv_at hl 1 rfl) ?_
                refine lv_iload_n F.1 F.2.1 dX8_melts_115 rfl (lv_at hl 0 rfl) ?_
                refine r_callVV (rest := []) F w (c_X8_unit l G a Z Sp Hs T N sc tl tp fa fr fn (sgF Z) g1 hSZ (by omega) (Nat.not_lt.mp c111)) gX8_melts_X8_unit [0, 1, 2, 3, 4, 5] [] (nA0 := 1) rfl (by decide +kernel) rfl ⟨Nat.le_of_ble_eq_true rfl, Nat.le_of_ble_eq_true rfl⟩ ⟨Nat.le_of_ble_eq_true rfl, Nat.le_of_ble_eq_true rfl⟩ rfl rfl rfl rfl rfl rfl rfl hl rfl (Nat.le_of_ble_eq_true rfl) dX8_melts_116 (fun w1 H locs hp w => ?_)
                obtain rfl := hp
                have w := w.sub (ws' := mW G a (unitF Z (sgF Z)) Sp Hs sc T tl tp fa fr fn N) [0, 1, 2, 3, 4, 5] (by decide) rfl
                refine lv_goto (tgt := 124) F.1 F.2.1 dX8_melts_119 (by decide) ?_
                refine lv_goto (tgt := 18) F.1 F.2.1 dX8_melts_124 (by decide) ?_
                exact ih18 (unitF Z (sgF Z)) (f - 1) (hA.tr (AgM.unit Z _)) (unit_mel hSZ hM g1 g2 g3) (unit_dr hD _) (by rw [unitF_10]; omega) ((melL_unit hlt c46 c68 (Nat.not_lt.mp c111) _).symm.trans (by rw [show f - 1 + 1 = f by omega]; exact hR)) (by rw [unitF_9]; omega) (by first | (rw [up_s]; omega) | (rw [unitF_9]; omega)) _ _ w ls (lv_sub hl [1, 2, 3] rfl)
            · skip
              refine lv_aload_n F.1 F.2.1 dX8_melts_71 rfl (lv_at hl 1 rfl) ?_
              refine r_get F w 0 0 iX8 f7 rfl rfl rfl (by decide) rfl dX8_melts_72 ?_
              refine lv_bipush (v := nI 9) F.1 F.2.1 dX8_melts_75 (by decide) ?_
              refine lv_aload_n F.1 F.2.1 dX8_melts_77 rfl (lv_at hl 1 rfl) ?_
              refine lv_iload_n F.1 F.2.1 dX8_melts_78 rfl (lv_at hl 0 rfl) ?_
              refine lv_iconst (v := nI 1) F.1 F.2.1 dX8_melts_79 (by decide) ?_
              refine r_iadd F dX8_melts_80 ?_
              refine r_callVI (rest := [.int (nI 9), .ref (a 1)]) F w (c_X8_lower l G a Z Sp Hs T N sc tl tp fa fr fn ((sgF Z) + 1) (by omega)) gX8_melts_X8_lower [0, 1, 2, 3, 4, 5] [] (nA0 := 1) rfl (by decide +kernel) rfl ⟨Nat.le_of_ble_eq_true rfl, Nat.le_of_ble_eq_true rfl⟩ ⟨Nat.le_of_ble_eq_true rfl, Nat.le_of_ble_eq_true rfl⟩ rfl rfl rfl rfl rfl rfl rfl hl rfl (Nat.le_of_ble_eq_true rfl) dX8_melts_81 (fun r_81 w1 H locs hp w => ?_)
              obtain ⟨rfl, rfl⟩ := hp
              have w := w.sub (ws' := mW G a Z Sp Hs sc T tl tp fa fr fn N) [0, 1, 2, 3, 4, 5] (by decide) rfl
              refine r_iast (ws' := mW G a (up Z 9 (low (lnP Z) ((sgF Z) + 1))) Sp Hs sc T tl tp fa fr fn N) F w 1 rfl (by omega) (by decide) dX8_melts_84 rfl (fun H locs w => ?_)
              refine lv_goto (tgt := 124) F.1 F.2.1 dX8_melts_85 (by decide) ?_
              refine lv_goto (tgt := 18) F.1 F.2.1 dX8_melts_124 (by decide) ?_
              exact ih18 (up Z 9 (low (lnP Z) ((sgF Z) + 1))) (f - 1) (hA.tr (AgM.up9 Z _)) (leap_mel hSZ hM g1 c68 g2 g3) (up9_dr hD _) (by rw [up_n _ _ (by decide)]; exact h10) ((melL_crack hlt c46 c68 _).symm.trans (by rw [show f - 1 + 1 = f by omega]; exact hR)) (by rw [up_s]; omega) (by first | (rw [up_s]; omega) | (rw [unitF_9]; omega)) _ _ w ls (lv_sub hl [1, 2, 3] rfl)
  exact L18 _ (up P 10 (P 10 + P 0)) 6001 (AgM.up10 P _) (up10_mel hM0 _) (up10_dr hD0 _) (by rw [up_s]; exact Nat.le_refl _) rfl (by omega) (Nat.lt_succ_self _) _ _ w ls (lv_sub hl [1, 2, 0] rfl)
end
