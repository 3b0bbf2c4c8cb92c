section
-- ===== PART A: goes FIRST, ahead of the names: the tables' words, and 'selects' of the private methods out of them =====
/-- a private method of a class that the tables say can be made, by its rows of tables_1 -/
def lw_okq (q : MethodName × Nat) : Prop := (q.1.cls ≠ "java/lang/invoke/MethodHandle" ∧ q.1.cls ≠ "java/lang/invoke/VarHandle") ∧ Cond.instantiable q.1.cls q.2 ∈ tables_1 ∧ Cond.privateMethod q.1 ∈ tables_1 ∧ Cond.instanceMethod q.1 ∈ tables_1
theorem lw_p0 : lw_okq (⟨"VotedLabels", "readTextFor", "(I)I"⟩, 7) := ⟨⟨by decide +kernel, by decide +kernel⟩, List.mem_of_getElem? (i := 15) (by decide +kernel), List.mem_of_getElem? (i := 338) (by decide +kernel), List.mem_of_getElem? (i := 339) (by decide +kernel)⟩
theorem lw_p1 : lw_okq (⟨"VotedLabels", "readText", "()I"⟩, 7) := ⟨⟨by decide +kernel, by decide +kernel⟩, List.mem_of_getElem? (i := 15) (by decide +kernel), List.mem_of_getElem? (i := 342) (by decide +kernel), List.mem_of_getElem? (i := 343) (by decide +kernel)⟩
theorem lw_p2 : lw_okq (⟨"VotedLabels$Rewrites", "indexBy", "(II)I"⟩, 3) := ⟨⟨by decide +kernel, by decide +kernel⟩, List.mem_of_getElem? (i := 76) (by decide +kernel), List.mem_of_getElem? (i := 391) (by decide +kernel), List.mem_of_getElem? (i := 392) (by decide +kernel)⟩
theorem lw_p3 : lw_okq (⟨"VotedLabels$Rewrites", "removeAt", "(I)V"⟩, 3) := ⟨⟨by decide +kernel, by decide +kernel⟩, List.mem_of_getElem? (i := 76) (by decide +kernel), List.mem_of_getElem? (i := 399) (by decide +kernel), List.mem_of_getElem? (i := 400) (by decide +kernel)⟩
theorem lw_p4 : lw_okq (⟨"VotedLabels$State", "accept", "(LVotedLabels$Rewrite;)V"⟩, 11) := ⟨⟨by decide +kernel, by decide +kernel⟩, List.mem_of_getElem? (i := 68) (by decide +kernel), List.mem_of_getElem? (i := 450) (by decide +kernel), List.mem_of_getElem? (i := 451) (by decide +kernel)⟩
theorem lw_p5 : lw_okq (⟨"VotedLabels$Words", "mostInCommon", "(LVotedLabels$Words;[I)I"⟩, 4) := ⟨⟨by decide +kernel, by decide +kernel⟩, List.mem_of_getElem? (i := 40) (by decide +kernel), List.mem_of_getElem? (i := 517) (by decide +kernel), List.mem_of_getElem? (i := 518) (by decide +kernel)⟩
theorem lw_p6 : lw_okq (⟨"VotedLabels$Rewrites", "aheadOf", "(LVotedLabels$Rewrite;)I"⟩, 3) := ⟨⟨by decide +kernel, by decide +kernel⟩, List.mem_of_getElem? (i := 76) (by decide +kernel), List.mem_of_getElem? (i := 538) (by decide +kernel), List.mem_of_getElem? (i := 539) (by decide +kernel)⟩
theorem lw_p7 : lw_okq (⟨"VotedLabelsModel", "records", "()V"⟩, 6) := ⟨⟨by decide +kernel, by decide +kernel⟩, List.mem_of_getElem? (i := 613) (by decide +kernel), List.mem_of_getElem? (i := 645) (by decide +kernel), List.mem_of_getElem? (i := 646) (by decide +kernel)⟩
theorem lw_p8 : lw_okq (⟨"VotedLabelsModel", "copies", "(II)V"⟩, 6) := ⟨⟨by decide +kernel, by decide +kernel⟩, List.mem_of_getElem? (i := 613) (by decide +kernel), List.mem_of_getElem? (i := 649) (by decide +kernel), List.mem_of_getElem? (i := 650) (by decide +kernel)⟩
theorem lw_p9 : lw_okq (⟨"VotedLabelsModel", "cutsAll", "(I)I"⟩, 6) := ⟨⟨by decide +kernel, by decide +kernel⟩, List.mem_of_getElem? (i := 613) (by decide +kernel), List.mem_of_getElem? (i := 653) (by decide +kernel), List.mem_of_getElem? (i := 654) (by decide +kernel)⟩
theorem lw_p10 : lw_okq (⟨"VotedLabelsModel", "cuts", "(II)Z"⟩, 6) := ⟨⟨by decide +kernel, by decide +kernel⟩, List.mem_of_getElem? (i := 613) (by decide +kernel), List.mem_of_getElem? (i := 657) (by decide +kernel), List.mem_of_getElem? (i := 658) (by decide +kernel)⟩
theorem lw_p11 : lw_okq (⟨"VotedLabelsModel", "wordsOf", "(II)I"⟩, 6) := ⟨⟨by decide +kernel, by decide +kernel⟩, List.mem_of_getElem? (i := 613) (by decide +kernel), List.mem_of_getElem? (i := 664) (by decide +kernel), List.mem_of_getElem? (i := 665) (by decide +kernel)⟩
theorem lw_p12 : lw_okq (⟨"VotedLabelsModel", "words", "(II)I"⟩, 6) := ⟨⟨by decide +kernel, by decide +kernel⟩, List.mem_of_getElem? (i := 613) (by decide +kernel), List.mem_of_getElem? (i := 668) (by decide +kernel), List.mem_of_getElem? (i := 669) (by decide +kernel)⟩
theorem lw_p13 : lw_okq (⟨"VotedLabelsModel", "begin", "(III)I"⟩, 6) := ⟨⟨by decide +kernel, by decide +kernel⟩, List.mem_of_getElem? (i := 613) (by decide +kernel), List.mem_of_getElem? (i := 672) (by decide +kernel), List.mem_of_getElem? (i := 673) (by decide +kernel)⟩
theorem lw_p14 : lw_okq (⟨"VotedLabelsModel", "isLabel", "(II)Z"⟩, 6) := ⟨⟨by decide +kernel, by decide +kernel⟩, List.mem_of_getElem? (i := 613) (by decide +kernel), List.mem_of_getElem? (i := 694) (by decide +kernel), List.mem_of_getElem? (i := 695) (by decide +kernel)⟩
theorem lw_p15 : lw_okq (⟨"VotedLabelsModel", "fault", "()I"⟩, 6) := ⟨⟨by decide +kernel, by decide +kernel⟩, List.mem_of_getElem? (i := 613) (by decide +kernel), List.mem_of_getElem? (i := 706) (by decide +kernel), List.mem_of_getElem? (i := 707) (by decide +kernel)⟩
def lw_privs_1 : List (MethodName × Nat) := [(⟨"VotedLabels", "readTextFor", "(I)I"⟩, 7), (⟨"VotedLabels", "readText", "()I"⟩, 7), (⟨"VotedLabels$Rewrites", "indexBy", "(II)I"⟩, 3), (⟨"VotedLabels$Rewrites", "removeAt", "(I)V"⟩, 3), (⟨"VotedLabels$State", "accept", "(LVotedLabels$Rewrite;)V"⟩, 11), (⟨"VotedLabels$Words", "mostInCommon", "(LVotedLabels$Words;[I)I"⟩, 4), (⟨"VotedLabels$Rewrites", "aheadOf", "(LVotedLabels$Rewrite;)I"⟩, 3), (⟨"VotedLabelsModel", "records", "()V"⟩, 6), (⟨"VotedLabelsModel", "copies", "(II)V"⟩, 6), (⟨"VotedLabelsModel", "cutsAll", "(I)I"⟩, 6), (⟨"VotedLabelsModel", "cuts", "(II)Z"⟩, 6), (⟨"VotedLabelsModel", "wordsOf", "(II)I"⟩, 6), (⟨"VotedLabelsModel", "words", "(II)I"⟩, 6), (⟨"VotedLabelsModel", "begin", "(III)I"⟩, 6), (⟨"VotedLabelsModel", "isLabel", "(II)Z"⟩, 6), (⟨"VotedLabelsModel", "fault", "()I"⟩, 6)]
theorem lw_r1 : ∀ q ∈ lw_privs_1, lw_okq q := List.forall_mem_cons.mpr ⟨lw_p0, List.forall_mem_cons.mpr ⟨lw_p1, List.forall_mem_cons.mpr ⟨lw_p2, List.forall_mem_cons.mpr ⟨lw_p3, List.forall_mem_cons.mpr ⟨lw_p4, List.forall_mem_cons.mpr ⟨lw_p5, List.forall_mem_cons.mpr ⟨lw_p6, List.forall_mem_cons.mpr ⟨lw_p7, List.forall_mem_cons.mpr ⟨lw_p8, List.forall_mem_cons.mpr ⟨lw_p9, List.forall_mem_cons.mpr ⟨lw_p10, List.forall_mem_cons.mpr ⟨lw_p11, List.forall_mem_cons.mpr ⟨lw_p12, List.forall_mem_cons.mpr ⟨lw_p13, List.forall_mem_cons.mpr ⟨lw_p14, List.forall_mem_cons.mpr ⟨lw_p15, fun _ h => absurd h List.not_mem_nil⟩⟩⟩⟩⟩⟩⟩⟩⟩⟩⟩⟩⟩⟩⟩⟩
theorem lw_p16 : lw_okq (⟨"VotedLabelsModel", "wordsTold", "()I"⟩, 6) := ⟨⟨by decide +kernel, by decide +kernel⟩, List.mem_of_getElem? (i := 613) (by decide +kernel), List.mem_of_getElem? (i := 710) (by decide +kernel), List.mem_of_getElem? (i := 711) (by decide +kernel)⟩
theorem lw_p17 : lw_okq (⟨"VotedLabelsModel", "isTold", "(II)Z"⟩, 6) := ⟨⟨by decide +kernel, by decide +kernel⟩, List.mem_of_getElem? (i := 613) (by decide +kernel), List.mem_of_getElem? (i := 714) (by decide +kernel), List.mem_of_getElem? (i := 715) (by decide +kernel)⟩
theorem lw_p18 : lw_okq (⟨"VotedLabelsModel", "lays", "(I)V"⟩, 6) := ⟨⟨by decide +kernel, by decide +kernel⟩, List.mem_of_getElem? (i := 613) (by decide +kernel), List.mem_of_getElem? (i := 718) (by decide +kernel), List.mem_of_getElem? (i := 719) (by decide +kernel)⟩
theorem lw_p19 : lw_okq (⟨"VotedLabelsModel", "own", "(II)I"⟩, 6) := ⟨⟨by decide +kernel, by decide +kernel⟩, List.mem_of_getElem? (i := 613) (by decide +kernel), List.mem_of_getElem? (i := 726) (by decide +kernel), List.mem_of_getElem? (i := 727) (by decide +kernel)⟩
theorem lw_p20 : lw_okq (⟨"VotedLabelsModel", "free", "()I"⟩, 6) := ⟨⟨by decide +kernel, by decide +kernel⟩, List.mem_of_getElem? (i := 613) (by decide +kernel), List.mem_of_getElem? (i := 733) (by decide +kernel), List.mem_of_getElem? (i := 734) (by decide +kernel)⟩
theorem lw_p21 : lw_okq (⟨"VotedLabelsModel", "goes", "(I)V"⟩, 6) := ⟨⟨by decide +kernel, by decide +kernel⟩, List.mem_of_getElem? (i := 613) (by decide +kernel), List.mem_of_getElem? (i := 737) (by decide +kernel), List.mem_of_getElem? (i := 738) (by decide +kernel)⟩
theorem lw_p22 : lw_okq (⟨"VotedLabelsModel", "placeOf", "(I)I"⟩, 6) := ⟨⟨by decide +kernel, by decide +kernel⟩, List.mem_of_getElem? (i := 613) (by decide +kernel), List.mem_of_getElem? (i := 745) (by decide +kernel), List.mem_of_getElem? (i := 746) (by decide +kernel)⟩
theorem lw_p23 : lw_okq (⟨"VotedLabelsModel", "votesFor", "(I)I"⟩, 6) := ⟨⟨by decide +kernel, by decide +kernel⟩, List.mem_of_getElem? (i := 613) (by decide +kernel), List.mem_of_getElem? (i := 749) (by decide +kernel), List.mem_of_getElem? (i := 750) (by decide +kernel)⟩
theorem lw_p24 : lw_okq (⟨"VotedLabelsModel", "best", "(II)I"⟩, 6) := ⟨⟨by decide +kernel, by decide +kernel⟩, List.mem_of_getElem? (i := 613) (by decide +kernel), List.mem_of_getElem? (i := 757) (by decide +kernel), List.mem_of_getElem? (i := 758) (by decide +kernel)⟩
theorem lw_p25 : lw_okq (⟨"VotedLabelsModel", "labels", "()I"⟩, 6) := ⟨⟨by decide +kernel, by decide +kernel⟩, List.mem_of_getElem? (i := 613) (by decide +kernel), List.mem_of_getElem? (i := 777) (by decide +kernel), List.mem_of_getElem? (i := 778) (by decide +kernel)⟩
theorem lw_p26 : lw_okq (⟨"VotedLabelsModel", "apart", "(IIII)I"⟩, 6) := ⟨⟨by decide +kernel, by decide +kernel⟩, List.mem_of_getElem? (i := 613) (by decide +kernel), List.mem_of_getElem? (i := 797) (by decide +kernel), List.mem_of_getElem? (i := 798) (by decide +kernel)⟩
theorem lw_p27 : lw_okq (⟨"VotedLabelsModel", "areAlike", "(IIIIII)Z"⟩, 6) := ⟨⟨by decide +kernel, by decide +kernel⟩, List.mem_of_getElem? (i := 613) (by decide +kernel), List.mem_of_getElem? (i := 801) (by decide +kernel), List.mem_of_getElem? (i := 802) (by decide +kernel)⟩
theorem lw_p28 : lw_okq (⟨"VotedLabelsModel", "end", "(III)I"⟩, 6) := ⟨⟨by decide +kernel, by decide +kernel⟩, List.mem_of_getElem? (i := 613) (by decide +kernel), List.mem_of_getElem? (i := 805) (by decide +kernel), List.mem_of_getElem? (i := 806) (by decide +kernel)⟩
theorem lw_p29 : lw_okq (⟨"VotedLabelsModel", "worksOf", "(I)I"⟩, 6) := ⟨⟨by decide +kernel, by decide +kernel⟩, List.mem_of_getElem? (i := 613) (by decide +kernel), List.mem_of_getElem? (i := 817) (by decide +kernel), List.mem_of_getElem? (i := 818) (by decide +kernel)⟩
theorem lw_p30 : lw_okq (⟨"VotedLabelsModel", "labelsOf", "(II)I"⟩, 6) := ⟨⟨by decide +kernel, by decide +kernel⟩, List.mem_of_getElem? (i := 613) (by decide +kernel), List.mem_of_getElem? (i := 821) (by decide +kernel), List.mem_of_getElem? (i := 822) (by decide +kernel)⟩
theorem lw_p31 : lw_okq (⟨"VotedLabelsModel", "rewritesOf", "(I)I"⟩, 6) := ⟨⟨by decide +kernel, by decide +kernel⟩, List.mem_of_getElem? (i := 613) (by decide +kernel), List.mem_of_getElem? (i := 829) (by decide +kernel), List.mem_of_getElem? (i := 830) (by decide +kernel)⟩
def lw_privs_2 : List (MethodName × Nat) := [(⟨"VotedLabelsModel", "wordsTold", "()I"⟩, 6), (⟨"VotedLabelsModel", "isTold", "(II)Z"⟩, 6), (⟨"VotedLabelsModel", "lays", "(I)V"⟩, 6), (⟨"VotedLabelsModel", "own", "(II)I"⟩, 6), (⟨"VotedLabelsModel", "free", "()I"⟩, 6), (⟨"VotedLabelsModel", "goes", "(I)V"⟩, 6), (⟨"VotedLabelsModel", "placeOf", "(I)I"⟩, 6), (⟨"VotedLabelsModel", "votesFor", "(I)I"⟩, 6), (⟨"VotedLabelsModel", "best", "(II)I"⟩, 6), (⟨"VotedLabelsModel", "labels", "()I"⟩, 6), (⟨"VotedLabelsModel", "apart", "(IIII)I"⟩, 6), (⟨"VotedLabelsModel", "areAlike", "(IIIIII)Z"⟩, 6), (⟨"VotedLabelsModel", "end", "(III)I"⟩, 6), (⟨"VotedLabelsModel", "worksOf", "(I)I"⟩, 6), (⟨"VotedLabelsModel", "labelsOf", "(II)I"⟩, 6), (⟨"VotedLabelsModel", "rewritesOf", "(I)I"⟩, 6)]
theorem lw_r2 : ∀ q ∈ lw_privs_2, lw_okq q := List.forall_mem_cons.mpr ⟨lw_p16, List.forall_mem_cons.mpr ⟨lw_p17, List.forall_mem_cons.mpr ⟨lw_p18, List.forall_mem_cons.mpr ⟨lw_p19, List.forall_mem_cons.mpr ⟨lw_p20, List.forall_mem_cons.mpr ⟨lw_p21, List.forall_mem_cons.mpr ⟨lw_p22, List.forall_mem_cons.mpr ⟨lw_p23, List.forall_mem_cons.mpr ⟨lw_p24, List.forall_mem_cons.mpr ⟨lw_p25, List.forall_mem_cons.mpr ⟨lw_p26, List.forall_mem_cons.mpr ⟨lw_p27, List.forall_mem_cons.mpr ⟨lw_p28, List.forall_mem_cons.mpr ⟨lw_p29, List.forall_mem_cons.mpr ⟨lw_p30, List.forall_mem_cons.mpr ⟨lw_p31, fun _ h => absurd h List.not_mem_nil⟩⟩⟩⟩⟩⟩⟩⟩⟩⟩⟩⟩⟩⟩⟩⟩
theorem lw_p32 : lw_okq (⟨"VotedLabelsModel", "votesOf", "(I)I"⟩, 6) := ⟨⟨by decide +kernel, by decide +kernel⟩, List.mem_of_getElem? (i := 613) (by decide +kernel), List.mem_of_getElem? (i := 833) (by decide +kernel), List.mem_of_getElem? (i := 834) (by decide +kernel)⟩
theorem lw_p33 : lw_okq (⟨"VotedLabelsModel", "standing", "(I)I"⟩, 6) := ⟨⟨by decide +kernel, by decide +kernel⟩, List.mem_of_getElem? (i := 613) (by decide +kernel), List.mem_of_getElem? (i := 837) (by decide +kernel), List.mem_of_getElem? (i := 838) (by decide +kernel)⟩
theorem lw_p34 : lw_okq (⟨"VotedLabelsModel", "hasTold", "(I)Z"⟩, 6) := ⟨⟨by decide +kernel, by decide +kernel⟩, List.mem_of_getElem? (i := 613) (by decide +kernel), List.mem_of_getElem? (i := 845) (by decide +kernel), List.mem_of_getElem? (i := 846) (by decide +kernel)⟩
theorem lw_p35 : lw_okq (⟨"VotedLabelsModel", "allVotes", "()I"⟩, 6) := ⟨⟨by decide +kernel, by decide +kernel⟩, List.mem_of_getElem? (i := 613) (by decide +kernel), List.mem_of_getElem? (i := 853) (by decide +kernel), List.mem_of_getElem? (i := 854) (by decide +kernel)⟩
def lw_privs_3 : List (MethodName × Nat) := [(⟨"VotedLabelsModel", "votesOf", "(I)I"⟩, 6), (⟨"VotedLabelsModel", "standing", "(I)I"⟩, 6), (⟨"VotedLabelsModel", "hasTold", "(I)Z"⟩, 6), (⟨"VotedLabelsModel", "allVotes", "()I"⟩, 6)]
theorem lw_r3 : ∀ q ∈ lw_privs_3, lw_okq q := List.forall_mem_cons.mpr ⟨lw_p32, List.forall_mem_cons.mpr ⟨lw_p33, List.forall_mem_cons.mpr ⟨lw_p34, List.forall_mem_cons.mpr ⟨lw_p35, fun _ h => absurd h List.not_mem_nil⟩⟩⟩⟩
def lw_privs : List (MethodName × Nat) := lw_privs_1 ++ (lw_privs_2 ++ (lw_privs_3))
def lw_tbl : List Cond := k2_sels lw_privs ++ tables_1
theorem lw_privs_ok : ∀ q ∈ lw_privs, lw_okq q := by
  show ∀ q ∈ lw_privs_1 ++ (lw_privs_2 ++ (lw_privs_3)), lw_okq q
  exact List.forall_mem_append.mpr ⟨lw_r1, List.forall_mem_append.mpr ⟨lw_r2, lw_r3⟩⟩
/-! ===== END ===== -/

/-! ===== BEGIN printed: names, fields, word lists, decode rows ===== -/
def RX0 : String := "VotedLabels$History"
def TX0 : u_T := fun k => match k with
  | 0 => ("VotedLabels$History", "states", "[LVotedLabels$State;", true)
  | 1 => ("VotedLabels$History", "size", "I", false)
  | _ => ("VotedLabels$History", "next", "I", false)
def tyX0 : Nat → FieldType := fun k => match k with
  | 0 => .array (.object "VotedLabels$State")
  | 1 => .int
  | _ => .int
abbrev wsX00 : List Cond := u_ws RX0 TX0 3
theorem nmX0 : ∀ a, a < 3 → ∀ b, b < 3 → a ≠ b → (TX0 a).2.1 ≠ (TX0 b).2.1 := by decide +kernel
theorem tyX0_ok : ∀ k, k < 3 → parseFieldDescriptor (TX0 k).2.2.1 = some (tyX0 k) := by decide +kernel
abbrev cX0_init : ByteArray := prog_2_method_1_code
def yX0_init : MethodName := ⟨RX0, "<init>", "()V"⟩
abbrev cX0_push : ByteArray := prog_2_method_2_code
def yX0_push : MethodName := ⟨RX0, "push", "(LVotedLabels$State;)V"⟩
abbrev cX0_popInto : ByteArray := prog_2_method_3_code
def yX0_popInto : MethodName := ⟨RX0, "popInto", "(LVotedLabels$State;)V"⟩
def RX1 : String := "VotedLabels$Label"
def TX1 : u_T := fun k => match k with
  | 0 => ("VotedLabels$Label", "words", "LVotedLabels$Words;", true)
  | 1 => ("VotedLabels$Label", "visitor", "I", false)
  | 2 => ("VotedLabels$Label", "week", "I", false)
  | _ => ("VotedLabels$Label", "cuts", "I", false)
def tyX1 : Nat → FieldType := fun k => match k with
  | 0 => .object "VotedLabels$Words"
  | 1 => .int
  | 2 => .int
  | _ => .int
abbrev wsX10 : List Cond := u_ws RX1 TX1 4
theorem nmX1 : ∀ a, a < 4 → ∀ b, b < 4 → a ≠ b → (TX1 a).2.1 ≠ (TX1 b).2.1 := by decide +kernel
theorem tyX1_ok : ∀ k, k < 4 → parseFieldDescriptor (TX1 k).2.2.1 = some (tyX1 k) := by decide +kernel
abbrev cX1_init : ByteArray := prog_3_method_1_code
def yX1_init : MethodName := ⟨RX1, "<init>", "()V"⟩
abbrev cX1_stands : ByteArray := prog_3_method_2_code
def yX1_stands : MethodName := ⟨RX1, "stands", "()Z"⟩
abbrev cX1_become : ByteArray := prog_3_method_3_code
def yX1_become : MethodName := ⟨RX1, "become", "(LVotedLabels$Words;II)V"⟩
abbrev cX1_copyFrom : ByteArray := prog_3_method_4_code
def yX1_copyFrom : MethodName := ⟨RX1, "copyFrom", "(LVotedLabels$Label;)V"⟩
abbrev cX1_cutTo : ByteArray := prog_3_method_5_code
def yX1_cutTo : MethodName := ⟨RX1, "cutTo", "(I)Z"⟩
abbrev cX1_told : ByteArray := prog_3_method_6_code
def yX1_told : MethodName := ⟨RX1, "told", "(I)I"⟩
def RX2 : String := "VotedLabels$Rewrite"
def TX2 : u_T := fun k => match k with
  | 0 => ("VotedLabels$Rewrite", "words", "LVotedLabels$Words;", true)
  | 1 => ("VotedLabels$Rewrite", "number", "I", false)
  | 2 => ("VotedLabels$Rewrite", "place", "I", false)
  | 3 => ("VotedLabels$Rewrite", "visitor", "I", false)
  | 4 => ("VotedLabels$Rewrite", "age", "I", false)
  | _ => ("VotedLabels$Rewrite", "voters", "I", false)
def tyX2 : Nat → FieldType := fun k => match k with
  | 0 => .object "VotedLabels$Words"
  | 1 => .int
  | 2 => .int
  | 3 => .int
  | 4 => .int
  | _ => .int
abbrev wsX20 : List Cond := u_ws RX2 TX2 6
theorem nmX2 : ∀ a, a < 6 → ∀ b, b < 6 → a ≠ b → (TX2 a).2.1 ≠ (TX2 b).2.1 := by decide +kernel
theorem tyX2_ok : ∀ k, k < 6 → parseFieldDescriptor (TX2 k).2.2.1 = some (tyX2 k) := by decide +kernel
abbrev cX2_init : ByteArray := prog_4_method_1_code
def yX2_init : MethodName := ⟨RX2, "<init>", "()V"⟩
abbrev cX2_become : ByteArray := prog_4_method_2_code
def yX2_become : MethodName := ⟨RX2, "become", "(IIILVotedLabels$Words;)V"⟩
abbrev cX2_copyFrom : ByteArray := prog_4_method_3_code
def yX2_copyFrom : MethodName := ⟨RX2, "copyFrom", "(LVotedLabels$Rewrite;)V"⟩
abbrev cX2_hasVoteOf : ByteArray := prog_4_method_4_code
def yX2_hasVoteOf : MethodName := ⟨RX2, "hasVoteOf", "(I)Z"⟩
abbrev cX2_votes : ByteArray := prog_4_method_5_code
def yX2_votes : MethodName := ⟨RX2, "votes", "()I"⟩
abbrev cX2_hasMoreVotesOrLowerNumber : ByteArray := prog_4_method_6_code
def yX2_hasMoreVotesOrLowerNumber : MethodName := ⟨RX2, "hasMoreVotesOrLowerNumber", "(LVotedLabels$Rewrite;)Z"⟩
abbrev cX2_hasMoreVotesOrFewerWords : ByteArray := prog_4_method_7_code
def yX2_hasMoreVotesOrFewerWords : MethodName := ⟨RX2, "hasMoreVotesOrFewerWords", "(LVotedLabels$Rewrite;)Z"⟩
def RX3 : String := "VotedLabels$Rewrites"
def TX3 : u_T := fun k => match k with
  | 0 => ("VotedLabels$Rewrites", "rows", "[LVotedLabels$Rewrite;", true)
  | 1 => ("VotedLabels$Rewrites", "size", "I", false)
  | _ => ("VotedLabels$Rewrites", "soFar", "I", false)
def tyX3 : Nat → FieldType := fun k => match k with
  | 0 => .array (.object "VotedLabels$Rewrite")
  | 1 => .int
  | _ => .int
abbrev wsX30 : List Cond := u_ws RX3 TX3 3
theorem nmX3 : ∀ a, a < 3 → ∀ b, b < 3 → a ≠ b → (TX3 a).2.1 ≠ (TX3 b).2.1 := by decide +kernel
theorem tyX3_ok : ∀ k, k < 3 → parseFieldDescriptor (TX3 k).2.2.1 = some (tyX3 k) := by decide +kernel
abbrev cX3_init : ByteArray := prog_5_method_1_code
def yX3_init : MethodName := ⟨RX3, "<init>", "()V"⟩
abbrev cX3_copyFrom : ByteArray := prog_5_method_2_code
def yX3_copyFrom : MethodName := ⟨RX3, "copyFrom", "(LVotedLabels$Rewrites;)V"⟩
abbrev cX3_withNumber : ByteArray := prog_5_method_3_code
def yX3_withNumber : MethodName := ⟨RX3, "withNumber", "(I)LVotedLabels$Rewrite;"⟩
abbrev cX3_hasRoomFor : ByteArray := prog_5_method_4_code
def yX3_hasRoomFor : MethodName := ⟨RX3, "hasRoomFor", "(II)Z"⟩
abbrev cX3_handIn : ByteArray := prog_5_method_5_code
def yX3_handIn : MethodName := ⟨RX3, "handIn", "(IILVotedLabels$Words;)I"⟩
abbrev cX3_indexBy : ByteArray := prog_5_method_6_code
def yX3_indexBy : MethodName := ⟨RX3, "indexBy", "(II)I"⟩
abbrev cX3_removeAt : ByteArray := prog_5_method_7_code
def yX3_removeAt : MethodName := ⟨RX3, "removeAt", "(I)V"⟩
abbrev cX3_remove : ByteArray := prog_5_method_8_code
def yX3_remove : MethodName := ⟨RX3, "remove", "(LVotedLabels$Rewrite;)V"⟩
abbrev cX3_takeVoteBack : ByteArray := prog_5_method_9_code
def yX3_takeVoteBack : MethodName := ⟨RX3, "takeVoteBack", "(II)V"⟩
abbrev cX3_bestFor : ByteArray := prog_5_method_10_code
def yX3_bestFor : MethodName := ⟨RX3, "bestFor", "(III)LVotedLabels$Rewrite;"⟩
abbrev cX3_atRank : ByteArray := prog_5_method_11_code
def yX3_atRank : MethodName := ⟨RX3, "atRank", "(II)LVotedLabels$Rewrite;"⟩
abbrev cX3_aheadOf : ByteArray := prog_5_method_12_code
def yX3_aheadOf : MethodName := ⟨RX3, "aheadOf", "(LVotedLabels$Rewrite;)I"⟩
abbrev cX3_growOlder : ByteArray := prog_5_method_13_code
def yX3_growOlder : MethodName := ⟨RX3, "growOlder", "()I"⟩
abbrev cX3_handedInBy : ByteArray := prog_5_method_14_code
def yX3_handedInBy : MethodName := ⟨RX3, "handedInBy", "(I)I"⟩
abbrev cX3_votesOf : ByteArray := prog_5_method_15_code
def yX3_votesOf : MethodName := ⟨RX3, "votesOf", "(I)I"⟩
abbrev cX3_allVotes : ByteArray := prog_5_method_16_code
def yX3_allVotes : MethodName := ⟨RX3, "allVotes", "()I"⟩
def RX4 : String := "VotedLabels$State"
def TX4 : u_T := fun k => match k with
  | 0 => ("VotedLabels$State", "limits", "[I", true)
  | 1 => ("VotedLabels$State", "asked", "[I", true)
  | 2 => ("VotedLabels$State", "roomOf", "[I", true)
  | 3 => ("VotedLabels$State", "accepted", "[I", true)
  | 4 => ("VotedLabels$State", "labels", "[LVotedLabels$Label;", true)
  | 5 => ("VotedLabels$State", "rewrites", "LVotedLabels$Rewrites;", true)
  | 6 => ("VotedLabels$State", "needed", "I", false)
  | 7 => ("VotedLabels$State", "weeks", "I", false)
  | 8 => ("VotedLabels$State", "rewritten", "I", false)
  | 9 => ("VotedLabels$State", "fallen", "I", false)
  | _ => ("VotedLabels$State", "cut", "I", false)
def tyX4 : Nat → FieldType := fun k => match k with
  | 0 => .array .int
  | 1 => .array .int
  | 2 => .array .int
  | 3 => .array .int
  | 4 => .array (.object "VotedLabels$Label")
  | 5 => .object "VotedLabels$Rewrites"
  | 6 => .int
  | 7 => .int
  | 8 => .int
  | 9 => .int
  | _ => .int
abbrev wsX40 : List Cond := u_ws RX4 TX4 11
theorem nmX4 : ∀ a, a < 11 → ∀ b, b < 11 → a ≠ b → (TX4 a).2.1 ≠ (TX4 b).2.1 := by decide +kernel
theorem tyX4_ok : ∀ k, k < 11 → parseFieldDescriptor (TX4 k).2.2.1 = some (tyX4 k) := by decide +kernel
abbrev cX4_init : ByteArray := prog_6_method_1_code
def yX4_init : MethodName := ⟨RX4, "<init>", "()V"⟩
abbrev cX4_copyFrom : ByteArray := prog_6_method_2_code
def yX4_copyFrom : MethodName := ⟨RX4, "copyFrom", "(LVotedLabels$State;)V"⟩
abbrev cX4_limitOf : ByteArray := prog_6_method_3_code
def yX4_limitOf : MethodName := ⟨RX4, "limitOf", "(I)I"⟩
abbrev cX4_asksFor : ByteArray := prog_6_method_4_code
def yX4_asksFor : MethodName := ⟨RX4, "asksFor", "(II)Z"⟩
abbrev cX4_changeLimit : ByteArray := prog_6_method_5_code
def yX4_changeLimit : MethodName := ⟨RX4, "changeLimit", "(II)I"⟩
abbrev cX4_cutLabelsOf : ByteArray := prog_6_method_6_code
def yX4_cutLabelsOf : MethodName := ⟨RX4, "cutLabelsOf", "(I)I"⟩
abbrev cX4_bestRewriteFor : ByteArray := prog_6_method_7_code
def yX4_bestRewriteFor : MethodName := ⟨RX4, "bestRewriteFor", "(I)LVotedLabels$Rewrite;"⟩
abbrev cX4_passWeek : ByteArray := prog_6_method_8_code
def yX4_passWeek : MethodName := ⟨RX4, "passWeek", "()I"⟩
abbrev cX4_accept : ByteArray := prog_6_method_9_code
def yX4_accept : MethodName := ⟨RX4, "accept", "(LVotedLabels$Rewrite;)V"⟩
abbrev cX4_allLabels : ByteArray := prog_6_method_10_code
def yX4_allLabels : MethodName := ⟨RX4, "allLabels", "()I"⟩
abbrev cX4_labelsBy : ByteArray := prog_6_method_11_code
def yX4_labelsBy : MethodName := ⟨RX4, "labelsBy", "(I)I"⟩
abbrev cX4_labelsSharing : ByteArray := prog_6_method_12_code
def yX4_labelsSharing : MethodName := ⟨RX4, "labelsSharing", "(ILVotedLabels$Words;)I"⟩
abbrev cX4_worksIn : ByteArray := prog_6_method_13_code
def yX4_worksIn : MethodName := ⟨RX4, "worksIn", "(I)I"⟩
abbrev cX4_labelsIn : ByteArray := prog_6_method_14_code
def yX4_labelsIn : MethodName := ⟨RX4, "labelsIn", "(IZ)I"⟩
abbrev cX4_missingIn : ByteArray := prog_6_method_15_code
def yX4_missingIn : MethodName := ⟨RX4, "missingIn", "(I)I"⟩
abbrev cX4_allMissing : ByteArray := prog_6_method_16_code
def yX4_allMissing : MethodName := ⟨RX4, "allMissing", "()I"⟩
abbrev cX4_longestIn : ByteArray := prog_6_method_17_code
def yX4_longestIn : MethodName := ⟨RX4, "longestIn", "(I)I"⟩
def RX5 : String := "VotedLabels$Text"
def TX5 : u_T := fun k => match k with
  | 0 => ("VotedLabels$Text", "characters", "[C", true)
  | _ => ("VotedLabels$Text", "length", "I", false)
def tyX5 : Nat → FieldType := fun k => match k with
  | 0 => .array .char
  | _ => .int
abbrev wsX50 : List Cond := u_ws RX5 TX5 2
theorem nmX5 : ∀ a, a < 2 → ∀ b, b < 2 → a ≠ b → (TX5 a).2.1 ≠ (TX5 b).2.1 := by decide +kernel
theorem tyX5_ok : ∀ k, k < 2 → parseFieldDescriptor (TX5 k).2.2.1 = some (tyX5 k) := by decide +kernel
abbrev cX5_init : ByteArray := prog_7_method_1_code
def yX5_init : MethodName := ⟨RX5, "<init>", "()V"⟩
abbrev cX5_add : ByteArray := prog_7_method_2_code
def yX5_add : MethodName := ⟨RX5, "add", "(C)Z"⟩
abbrev cX5_fault : ByteArray := prog_7_method_3_code
def yX5_fault : MethodName := ⟨RX5, "fault", "()I"⟩
def RX6 : String := "VotedLabels$Words"
def TX6 : u_T := fun k => match k with
  | 0 => ("VotedLabels$Words", "letters", "[C", true)
  | 1 => ("VotedLabels$Words", "length", "I", false)
  | 2 => ("VotedLabels$Words", "starts", "[I", true)
  | _ => ("VotedLabels$Words", "size", "I", false)
def tyX6 : Nat → FieldType := fun k => match k with
  | 0 => .array .char
  | 1 => .int
  | 2 => .array .int
  | _ => .int
abbrev wsX60 : List Cond := u_ws RX6 TX6 4
theorem nmX6 : ∀ a, a < 4 → ∀ b, b < 4 → a ≠ b → (TX6 a).2.1 ≠ (TX6 b).2.1 := by decide +kernel
theorem tyX6_ok : ∀ k, k < 4 → parseFieldDescriptor (TX6 k).2.2.1 = some (tyX6 k) := by decide +kernel
abbrev cX6_init : ByteArray := prog_8_method_1_code
def yX6_init : MethodName := ⟨RX6, "<init>", "()V"⟩
abbrev cX6_empty : ByteArray := prog_8_method_2_code
def yX6_empty : MethodName := ⟨RX6, "empty", "()V"⟩
abbrev cX6_readFrom : ByteArray := prog_8_method_3_code
def yX6_readFrom : MethodName := ⟨RX6, "readFrom", "(LVotedLabels$Text;)V"⟩
abbrev cX6_copyFrom : ByteArray := prog_8_method_4_code
def yX6_copyFrom : MethodName := ⟨RX6, "copyFrom", "(LVotedLabels$Words;)V"⟩
abbrev cX6_cutTo : ByteArray := prog_8_method_5_code
def yX6_cutTo : MethodName := ⟨RX6, "cutTo", "(I)V"⟩
abbrev cX6_isLike : ByteArray := prog_8_method_6_code
def yX6_isLike : MethodName := ⟨RX6, "isLike", "(LVotedLabels$Words;)Z"⟩
abbrev cX6_hasSameWord : ByteArray := prog_8_method_7_code
def yX6_hasSameWord : MethodName := ⟨RX6, "hasSameWord", "(ILVotedLabels$Words;I)Z"⟩
abbrev cX6_sharesWordWith : ByteArray := prog_8_method_8_code
def yX6_sharesWordWith : MethodName := ⟨RX6, "sharesWordWith", "(LVotedLabels$Words;)Z"⟩
abbrev cX6_distanceTo : ByteArray := prog_8_method_9_code
def yX6_distanceTo : MethodName := ⟨RX6, "distanceTo", "(LVotedLabels$Words;[I)I"⟩
abbrev cX6_mostInCommon : ByteArray := prog_8_method_10_code
def yX6_mostInCommon : MethodName := ⟨RX6, "mostInCommon", "(LVotedLabels$Words;[I)I"⟩
def RX7 : String := "VotedLabels"
def TX7 : u_T := fun k => match k with
  | 0 => ("VotedLabels", "text", "LVotedLabels$Text;", true)
  | 1 => ("VotedLabels", "typed", "LVotedLabels$Words;", true)
  | 2 => ("VotedLabels", "state", "LVotedLabels$State;", true)
  | 3 => ("VotedLabels", "history", "LVotedLabels$History;", true)
  | 4 => ("VotedLabels", "snapshot", "LVotedLabels$State;", true)
  | 5 => ("VotedLabels", "hasSnapshot", "Z", false)
  | _ => ("VotedLabels", "commonRow", "[I", true)
def tyX7 : Nat → FieldType := fun k => match k with
  | 0 => .object "VotedLabels$Text"
  | 1 => .object "VotedLabels$Words"
  | 2 => .object "VotedLabels$State"
  | 3 => .object "VotedLabels$History"
  | 4 => .object "VotedLabels$State"
  | 5 => .boolean
  | _ => .array .int
abbrev wsX70 : List Cond := u_ws RX7 TX7 7
theorem nmX7 : ∀ a, a < 7 → ∀ b, b < 7 → a ≠ b → (TX7 a).2.1 ≠ (TX7 b).2.1 := by decide +kernel
theorem tyX7_ok : ∀ k, k < 7 → parseFieldDescriptor (TX7 k).2.2.1 = some (tyX7 k) := by decide +kernel
abbrev cX7_init : ByteArray := prog_1_method_1_code
def yX7_init : MethodName := ⟨RX7, "<init>", "()V"⟩
abbrev cX7_setLimit : ByteArray := prog_1_method_2_code
def yX7_setLimit : MethodName := ⟨RX7, "setLimit", "(II)I"⟩
abbrev cX7_ask : ByteArray := prog_1_method_3_code
def yX7_ask : MethodName := ⟨RX7, "ask", "(IIZ)I"⟩
abbrev cX7_bring : ByteArray := prog_1_method_4_code
def yX7_bring : MethodName := ⟨RX7, "bring", "(II)I"⟩
abbrev cX7_label : ByteArray := prog_1_method_5_code
def yX7_label : MethodName := ⟨RX7, "label", "(II)I"⟩
abbrev cX7_takeDown : ByteArray := prog_1_method_6_code
def yX7_takeDown : MethodName := ⟨RX7, "takeDown", "(II)I"⟩
abbrev cX7_setNeeded : ByteArray := prog_1_method_7_code
def yX7_setNeeded : MethodName := ⟨RX7, "setNeeded", "(I)I"⟩
abbrev cX7_rewrite : ByteArray := prog_1_method_8_code
def yX7_rewrite : MethodName := ⟨RX7, "rewrite", "(III)I"⟩
abbrev cX7_vote : ByteArray := prog_1_method_9_code
def yX7_vote : MethodName := ⟨RX7, "vote", "(IIZ)I"⟩
abbrev cX7_endWeek : ByteArray := prog_1_method_10_code
def yX7_endWeek : MethodName := ⟨RX7, "endWeek", "()I"⟩
abbrev cX7_type : ByteArray := prog_1_method_11_code
def yX7_type : MethodName := ⟨RX7, "type", "(C)I"⟩
abbrev cX7_clearText : ByteArray := prog_1_method_12_code
def yX7_clearText : MethodName := ⟨RX7, "clearText", "()I"⟩
abbrev cX7_undo : ByteArray := prog_1_method_13_code
def yX7_undo : MethodName := ⟨RX7, "undo", "()I"⟩
abbrev cX7_keep : ByteArray := prog_1_method_14_code
def yX7_keep : MethodName := ⟨RX7, "keep", "()I"⟩
abbrev cX7_restore : ByteArray := prog_1_method_15_code
def yX7_restore : MethodName := ⟨RX7, "restore", "()I"⟩
abbrev cX7_labelOf : ByteArray := prog_1_method_16_code
def yX7_labelOf : MethodName := ⟨RX7, "labelOf", "(III)I"⟩
abbrev cX7_letter : ByteArray := prog_1_method_17_code
def yX7_letter : MethodName := ⟨RX7, "letter", "(III)I"⟩
abbrev cX7_rewriteOf : ByteArray := prog_1_method_18_code
def yX7_rewriteOf : MethodName := ⟨RX7, "rewriteOf", "(II)I"⟩
abbrev cX7_ranked : ByteArray := prog_1_method_19_code
def yX7_ranked : MethodName := ⟨RX7, "ranked", "(III)I"⟩
abbrev cX7_room : ByteArray := prog_1_method_20_code
def yX7_room : MethodName := ⟨RX7, "room", "(II)I"⟩
abbrev cX7_visitor : ByteArray := prog_1_method_21_code
def yX7_visitor : MethodName := ⟨RX7, "visitor", "(II)I"⟩
abbrev cX7_labelsWith : ByteArray := prog_1_method_22_code
def yX7_labelsWith : MethodName := ⟨RX7, "labelsWith", "(I)I"⟩
abbrev cX7_count : ByteArray := prog_1_method_23_code
def yX7_count : MethodName := ⟨RX7, "count", "(I)I"⟩
abbrev cX7_isWork : ByteArray := prog_1_method_24_code
def yX7_isWork : MethodName := ⟨RX7, "isWork", "(I)Z"⟩
abbrev cX7_isRoom : ByteArray := prog_1_method_25_code
def yX7_isRoom : MethodName := ⟨RX7, "isRoom", "(I)Z"⟩
abbrev cX7_isTongue : ByteArray := prog_1_method_26_code
def yX7_isTongue : MethodName := ⟨RX7, "isTongue", "(I)Z"⟩
abbrev cX7_isVisitor : ByteArray := prog_1_method_27_code
def yX7_isVisitor : MethodName := ⟨RX7, "isVisitor", "(I)Z"⟩
abbrev cX7_placeOf : ByteArray := prog_1_method_28_code
def yX7_placeOf : MethodName := ⟨RX7, "placeOf", "(II)I"⟩
abbrev cX7_readText : ByteArray := prog_1_method_29_code
def yX7_readText : MethodName := ⟨RX7, "readText", "()I"⟩
abbrev cX7_readTextFor : ByteArray := prog_1_method_30_code
def yX7_readTextFor : MethodName := ⟨RX7, "readTextFor", "(I)I"⟩
def RX8 : String := "VotedLabelsModel"
def TX8 : u_T := fun k => match k with
  | 0 => ("VotedLabelsModel", "s", "[I", true)
  | 1 => ("VotedLabelsModel", "states", "I", false)
  | 2 => ("VotedLabelsModel", "isKept", "Z", false)
  | 3 => ("VotedLabelsModel", "text", "[C", true)
  | 4 => ("VotedLabelsModel", "typed", "I", false)
  | _ => ("VotedLabelsModel", "common", "[I", true)
def tyX8 : Nat → FieldType := fun k => match k with
  | 0 => .array .int
  | 1 => .int
  | 2 => .boolean
  | 3 => .array .char
  | 4 => .int
  | _ => .array .int
abbrev wsX80 : List Cond := u_ws RX8 TX8 6
theorem nmX8 : ∀ a, a < 6 → ∀ b, b < 6 → a ≠ b → (TX8 a).2.1 ≠ (TX8 b).2.1 := by decide +kernel
theorem tyX8_ok : ∀ k, k < 6 → parseFieldDescriptor (TX8 k).2.2.1 = some (tyX8 k) := by decide +kernel
abbrev cX8_init : ByteArray := prog_10_method_1_code
def yX8_init : MethodName := ⟨RX8, "<init>", "()V"⟩
abbrev cX8_in : ByteArray := prog_10_method_2_code
def yX8_in : MethodName := ⟨RX8, "in", "(III)Z"⟩
abbrev cX8_copies : ByteArray := prog_10_method_3_code
def yX8_copies : MethodName := ⟨RX8, "copies", "(II)V"⟩
abbrev cX8_records : ByteArray := prog_10_method_4_code
def yX8_records : MethodName := ⟨RX8, "records", "()V"⟩
abbrev cX8_rowOf : ByteArray := prog_10_method_5_code
def yX8_rowOf : MethodName := ⟨RX8, "rowOf", "(II)I"⟩
abbrev cX8_paper : ByteArray := prog_10_method_6_code
def yX8_paper : MethodName := ⟨RX8, "paper", "(I)I"⟩
abbrev cX8_words : ByteArray := prog_10_method_7_code
def yX8_words : MethodName := ⟨RX8, "words", "(II)I"⟩
abbrev cX8_wordsOf : ByteArray := prog_10_method_8_code
def yX8_wordsOf : MethodName := ⟨RX8, "wordsOf", "(II)I"⟩
abbrev cX8_isLabel : ByteArray := prog_10_method_9_code
def yX8_isLabel : MethodName := ⟨RX8, "isLabel", "(II)Z"⟩
abbrev cX8_begin : ByteArray := prog_10_method_10_code
def yX8_begin : MethodName := ⟨RX8, "begin", "(III)I"⟩
abbrev cX8_end : ByteArray := prog_10_method_11_code
def yX8_end : MethodName := ⟨RX8, "end", "(III)I"⟩
abbrev cX8_areAlike : ByteArray := prog_10_method_12_code
def yX8_areAlike : MethodName := ⟨RX8, "areAlike", "(IIIIII)Z"⟩
abbrev cX8_cuts : ByteArray := prog_10_method_13_code
def yX8_cuts : MethodName := ⟨RX8, "cuts", "(II)Z"⟩
abbrev cX8_cutsAll : ByteArray := prog_10_method_14_code
def yX8_cutsAll : MethodName := ⟨RX8, "cutsAll", "(I)I"⟩
abbrev cX8_placeOf : ByteArray := prog_10_method_15_code
def yX8_placeOf : MethodName := ⟨RX8, "placeOf", "(I)I"⟩
abbrev cX8_votesFor : ByteArray := prog_10_method_16_code
def yX8_votesFor : MethodName := ⟨RX8, "votesFor", "(I)I"⟩
abbrev cX8_goes : ByteArray := prog_10_method_17_code
def yX8_goes : MethodName := ⟨RX8, "goes", "(I)V"⟩
abbrev cX8_best : ByteArray := prog_10_method_18_code
def yX8_best : MethodName := ⟨RX8, "best", "(II)I"⟩
abbrev cX8_fault : ByteArray := prog_10_method_19_code
def yX8_fault : MethodName := ⟨RX8, "fault", "()I"⟩
abbrev cX8_wordsTold : ByteArray := prog_10_method_20_code
def yX8_wordsTold : MethodName := ⟨RX8, "wordsTold", "()I"⟩
abbrev cX8_isTold : ByteArray := prog_10_method_21_code
def yX8_isTold : MethodName := ⟨RX8, "isTold", "(II)Z"⟩
abbrev cX8_lays : ByteArray := prog_10_method_22_code
def yX8_lays : MethodName := ⟨RX8, "lays", "(I)V"⟩
abbrev cX8_setLimit : ByteArray := prog_10_method_23_code
def yX8_setLimit : MethodName := ⟨RX8, "setLimit", "(II)I"⟩
abbrev cX8_bits : ByteArray := prog_10_method_24_code
def yX8_bits : MethodName := ⟨RX8, "bits", "(I)I"⟩
abbrev cX8_ask : ByteArray := prog_10_method_25_code
def yX8_ask : MethodName := ⟨RX8, "ask", "(IIZ)I"⟩
abbrev cX8_bring : ByteArray := prog_10_method_26_code
def yX8_bring : MethodName := ⟨RX8, "bring", "(II)I"⟩
abbrev cX8_isPair : ByteArray := prog_10_method_27_code
def yX8_isPair : MethodName := ⟨RX8, "isPair", "(II)Z"⟩
abbrev cX8_takeDown : ByteArray := prog_10_method_28_code
def yX8_takeDown : MethodName := ⟨RX8, "takeDown", "(II)I"⟩
abbrev cX8_setNeeded : ByteArray := prog_10_method_29_code
def yX8_setNeeded : MethodName := ⟨RX8, "setNeeded", "(I)I"⟩
abbrev cX8_label : ByteArray := prog_10_method_30_code
def yX8_label : MethodName := ⟨RX8, "label", "(II)I"⟩
abbrev cX8_own : ByteArray := prog_10_method_31_code
def yX8_own : MethodName := ⟨RX8, "own", "(II)I"⟩
abbrev cX8_free : ByteArray := prog_10_method_32_code
def yX8_free : MethodName := ⟨RX8, "free", "()I"⟩
abbrev cX8_rewrite : ByteArray := prog_10_method_33_code
def yX8_rewrite : MethodName := ⟨RX8, "rewrite", "(III)I"⟩
abbrev cX8_vote : ByteArray := prog_10_method_34_code
def yX8_vote : MethodName := ⟨RX8, "vote", "(IIZ)I"⟩
abbrev cX8_endWeek : ByteArray := prog_10_method_35_code
def yX8_endWeek : MethodName := ⟨RX8, "endWeek", "()I"⟩
abbrev cX8_type : ByteArray := prog_10_method_36_code
def yX8_type : MethodName := ⟨RX8, "type", "(C)I"⟩
abbrev cX8_clearText : ByteArray := prog_10_method_37_code
def yX8_clearText : MethodName := ⟨RX8, "clearText", "()I"⟩
abbrev cX8_labels : ByteArray := prog_10_method_38_code
def yX8_labels : MethodName := ⟨RX8, "labels", "()I"⟩
abbrev cX8_undo : ByteArray := prog_10_method_39_code
def yX8_undo : MethodName := ⟨RX8, "undo", "()I"⟩
abbrev cX8_keep : ByteArray := prog_10_method_40_code
def yX8_keep : MethodName := ⟨RX8, "keep", "()I"⟩
abbrev cX8_restore : ByteArray := prog_10_method_41_code
def yX8_restore : MethodName := ⟨RX8, "restore", "()I"⟩
abbrev cX8_labelOf : ByteArray := prog_10_method_42_code
def yX8_labelOf : MethodName := ⟨RX8, "labelOf", "(III)I"⟩
abbrev cX8_letter : ByteArray := prog_10_method_43_code
def yX8_letter : MethodName := ⟨RX8, "letter", "(III)I"⟩
abbrev cX8_apart : ByteArray := prog_10_method_44_code
def yX8_apart : MethodName := ⟨RX8, "apart", "(IIII)I"⟩
abbrev cX8_rewriteOf : ByteArray := prog_10_method_45_code
def yX8_rewriteOf : MethodName := ⟨RX8, "rewriteOf", "(II)I"⟩
abbrev cX8_ranked : ByteArray := prog_10_method_46_code
def yX8_ranked : MethodName := ⟨RX8, "ranked", "(III)I"⟩
abbrev cX8_labelsOf : ByteArray := prog_10_method_47_code
def yX8_labelsOf : MethodName := ⟨RX8, "labelsOf", "(II)I"⟩
abbrev cX8_worksOf : ByteArray := prog_10_method_48_code
def yX8_worksOf : MethodName := ⟨RX8, "worksOf", "(I)I"⟩
abbrev cX8_room : ByteArray := prog_10_method_49_code
def yX8_room : MethodName := ⟨RX8, "room", "(II)I"⟩
abbrev cX8_rewritesOf : ByteArray := prog_10_method_50_code
def yX8_rewritesOf : MethodName := ⟨RX8, "rewritesOf", "(I)I"⟩
abbrev cX8_votesOf : ByteArray := prog_10_method_51_code
def yX8_votesOf : MethodName := ⟨RX8, "votesOf", "(I)I"⟩
abbrev cX8_standing : ByteArray := prog_10_method_52_code
def yX8_standing : MethodName := ⟨RX8, "standing", "(I)I"⟩
abbrev cX8_visitor : ByteArray := prog_10_method_53_code
def yX8_visitor : MethodName := ⟨RX8, "visitor", "(II)I"⟩
abbrev cX8_hasTold : ByteArray := prog_10_method_54_code
def yX8_hasTold : MethodName := ⟨RX8, "hasTold", "(I)Z"⟩
abbrev cX8_labelsWith : ByteArray := prog_10_method_55_code
def yX8_labelsWith : MethodName := ⟨RX8, "labelsWith", "(I)I"⟩
abbrev cX8_count : ByteArray := prog_10_method_56_code
def yX8_count : MethodName := ⟨RX8, "count", "(I)I"⟩
abbrev cX8_allVotes : ByteArray := prog_10_method_57_code
def yX8_allVotes : MethodName := ⟨RX8, "allVotes", "()I"⟩
def RJ6 : String := "java/lang/Integer"
def TJ6 : u_T := fun k => match k with
  | _ => ("", "", "", false)
def tyJ6 : Nat → FieldType := fun k => match k with
  | _ => .int
abbrev wsJ60 : List Cond := u_ws RJ6 TJ6 0
theorem nmJ6 : ∀ a, a < 0 → ∀ b, b < 0 → a ≠ b → (TJ6 a).2.1 ≠ (TJ6 b).2.1 := by decide +kernel
theorem tyJ6_ok : ∀ k, k < 0 → parseFieldDescriptor (TJ6 k).2.2.1 = some (tyJ6 k) := by decide +kernel
abbrev cJ6_bitCount_0f7a4 : ByteArray := prog_11_method_49_code
def yJ6_bitCount_0f7a4 : MethodName := ⟨RJ6, "bitCount", "(I)I"⟩
def RJ9 : String := "java/lang/Math"
def TJ9 : u_T := fun k => match k with
  | _ => ("", "", "", false)
def tyJ9 : Nat → FieldType := fun k => match k with
  | _ => .int
abbrev wsJ90 : List Cond := u_ws RJ9 TJ9 0
theorem nmJ9 : ∀ a, a < 0 → ∀ b, b < 0 → a ≠ b → (TJ9 a).2.1 ≠ (TJ9 b).2.1 := by decide +kernel
theorem tyJ9_ok : ∀ k, k < 0 → parseFieldDescriptor (TJ9 k).2.2.1 = some (tyJ9 k) := by decide +kernel
abbrev cJ9_max_7cf53 : ByteArray := prog_12_method_65_code
def yJ9_max_7cf53 : MethodName := ⟨RJ9, "max", "(II)I"⟩
def RJ10 : String := "java/lang/System"
def TJ10 : u_T := fun k => match k with
  | _ => ("", "", "", false)
def tyJ10 : Nat → FieldType := fun k => match k with
  | _ => .int
abbrev wsJ100 : List Cond := u_ws RJ10 TJ10 0
theorem nmJ10 : ∀ a, a < 0 → ∀ b, b < 0 → a ≠ b → (TJ10 a).2.1 ≠ (TJ10 b).2.1 := by decide +kernel
theorem tyJ10_ok : ∀ k, k < 0 → parseFieldDescriptor (TJ10 k).2.2.1 = some (tyJ10 k) := by decide +kernel
def RJ7 : String := "java/util/Arrays"
def TJ7 : u_T := fun k => match k with
  | _ => ("", "", "", false)
def tyJ7 : Nat → FieldType := fun k => match k with
  | _ => .int
abbrev wsJ70 : List Cond := u_ws RJ7 TJ7 0
theorem nmJ7 : ∀ a, a < 0 → ∀ b, b < 0 → a ≠ b → (TJ7 a).2.1 ≠ (TJ7 b).2.1 := by decide +kernel
theorem tyJ7_ok : ∀ k, k < 0 → parseFieldDescriptor (TJ7 k).2.2.1 = some (tyJ7 k) := by decide +kernel
abbrev cJ7_fill_53178 : ByteArray := prog_14_method_103_code
def yJ7_fill_53178 : MethodName := ⟨RJ7, "fill", "([II)V"⟩
def RL : String := "VotedLabelsLaw"
abbrev cL_law : ByteArray := code
def yL_law : MethodName := ⟨RL, "law", "([I)Z"⟩
theorem inX0 : ∀ w ∈ wsX00, w ∈ lw_tbl := by decide +kernel
theorem inX1 : ∀ w ∈ wsX10, w ∈ lw_tbl := by decide +kernel
theorem inX2 : ∀ w ∈ wsX20, w ∈ lw_tbl := by decide +kernel
theorem inX3 : ∀ w ∈ wsX30, w ∈ lw_tbl := by decide +kernel
theorem inX4 : ∀ w ∈ wsX40, w ∈ lw_tbl := by decide +kernel
theorem inX5 : ∀ w ∈ wsX50, w ∈ lw_tbl := by decide +kernel
theorem inX6 : ∀ w ∈ wsX60, w ∈ lw_tbl := by decide +kernel
theorem inX7 : ∀ w ∈ wsX70, w ∈ lw_tbl := by decide +kernel
theorem inX8 : ∀ w ∈ wsX80, w ∈ lw_tbl := by decide +kernel
theorem inJ6 : ∀ w ∈ wsJ60, w ∈ lw_tbl := by decide +kernel
theorem inJ9 : ∀ w ∈ wsJ90, w ∈ lw_tbl := by decide +kernel
theorem inJ10 : ∀ w ∈ wsJ100, w ∈ lw_tbl := by decide +kernel
theorem inJ7 : ∀ w ∈ wsJ70, w ∈ lw_tbl := by decide +kernel
abbrev vwCl : List vw_C := [(RX0, TX0, 3), (RX1, TX1, 4), (RX2, TX2, 6), (RX3, TX3, 3), (RX4, TX4, 11), (RX5, TX5, 2), (RX6, TX6, 4), (RX7, TX7, 7), (RX8, TX8, 6)]
end
section
/-! ===== the words, all good ones ===== -/
def lw_tb : List Cond := lw_tbl.filter goodWord
theorem in_tb {w : Cond} (h : w ∈ lw_tbl) (g : goodWord w = true) : w ∈ lw_tb := List.mem_filter.mpr ⟨h, g⟩
theorem tb_in {w : Cond} (h : w ∈ lw_tb) : w ∈ lw_tbl ∧ goodWord w = true := List.mem_filter.mp h
/-! ===== worlds as functions from addresses to cells ===== -/
abbrev Cl : Type := (Nat × List Value) ⊕ ((Nat × Nat × (Nat → Int32)) ⊕ (Nat × Nat × (Nat → Option Nat)))
abbrev Wd : Type := Nat → Option Cl
abbrev ob (k : Nat) (fs : List Value) : Cl := .inl (k, fs)
abbrev ia (t n : Nat) (f : Nat → Int32) : Cl := .inr (.inl (t, n, f))
abbrev ra (t n : Nat) (f : Nat → Option Nat) : Cl := .inr (.inr (t, n, f))
def cE (cy : Nat → ClassId) (x : Cl) : va_E := match x with
  | .inl q => .inr q
  | .inr (.inl q) => .inl (cy q.1, q.2.1, .inl q.2.2)
  | .inr (.inr q) => .inl (cy q.1, q.2.1, .inr (.inr (.inr (.inr q.2.2))))
def tyA (t : Nat) : FieldType := match t with
  | 0 => .char
  | 1 => .int
  | 2 => .object "VotedLabels$Label"
  | 3 => .object "VotedLabels$Rewrite"
  | _ => .object "VotedLabels$State"
def tys5 (cy : Nat → ClassId) : List (ClassId × FieldType) := [(cy 0, tyA 0), (cy 1, tyA 1), (cy 2, tyA 2), (cy 3, tyA 3), (cy 4, tyA 4)]
def hW (D : va_G) (cy : Nat → ClassId) (lo : Nat) (w : Wd) (H : Heap) : Prop := ∀ (q : Nat) (x : Cl), w q = some x → lo ≤ q ∧ va_at D vwCl (q, cE cy x) H
def wu (w : Wd) (a : Nat) (x : Cl) : Wd := fun q => if q = a then some x else w q
theorem wu_eq (w : Wd) (a : Nat) (x : Cl) : wu w a x a = some x := by simp [wu]
theorem wu_ne (w : Wd) {a q : Nat} (x : Cl) (h : q ≠ a) : wu w a x q = w q := by simp [wu, h]
theorem hW.put {D : va_G} {cy : Nat → ClassId} {lo a : Nat} {w : Wd} {x : Cl} {H H1 : Heap} (h : hW D cy lo w H) (ha : lo ≤ a) (he : va_at D vwCl (a, cE cy x) H1) (oq : ∀ q, q ≠ a → H1[q]? = H[q]?) : hW D cy lo (wu w a x) H1 := by
  intro q x' hq
  by_cases e : q = a
  · subst e
    rw [wu_eq] at hq
    cases hq
    exact ⟨ha, he⟩
  · rw [wu_ne w x e] at hq
    exact ⟨(h q x' hq).1, (h q x' hq).2.kept (oq q e)⟩
theorem hW.lt {D : va_G} {cy : Nat → ClassId} {lo q : Nat} {w : Wd} {x : Cl} {H : Heap} (h : hW D cy lo w H) (hq : w q = some x) : q < H.size := (h q x hq).2.lt
theorem hW.pu {D : va_G} {cy : Nat → ClassId} {lo : Nat} {w : Wd} {x : Cl} {H H1 : Heap} (h : hW D cy lo w H) (ha : lo ≤ H.size) (he : va_at D vwCl (H.size, cE cy x) H1) (oq : ∀ q, q < H.size → H1[q]? = H[q]?) : hW D cy lo (wu w H.size x) H1 := by
  intro q x' hq
  by_cases e : q = H.size
  · subst e
    rw [wu_eq] at hq
    cases hq
    exact ⟨ha, he⟩
  · rw [wu_ne w x e] at hq
    exact ⟨(h q x' hq).1, (h q x' hq).2.kept (oq q (h.lt hq))⟩
theorem hW.P {D : va_G} {cy : Nat → ClassId} {lo q : Nat} {w : Wd} {x : Cl} {H : Heap} (h : hW D cy lo w H) (hq : w q = some x) : va_P D vwCl [(q, cE cy x)] H := by
  intro k z hz
  cases k with
  | zero => cases hz; exact (h q x hq).2
  | succ k => simp at hz
/-! ===== locals, by a list with a place for each ===== -/
def lk : List (Option Value) → Nat → Option Value
  | [], _ => none
  | a :: _, 0 => a
  | _ :: l, k + 1 => lk l k
def st : List (Option Value) → Nat → Value → List (Option Value)
  | [], _, _ => []
  | _ :: l, 0, v => some v :: l
  | a :: l, k + 1, v => a :: st l k v
def ent : Nat → List (Option Value) → List (Nat × Value)
  | _, [] => []
  | n, none :: l => ent (n + 1) l
  | n, some v :: l => (n, v) :: ent (n + 1) l
def cat1 : List (Option Value) → Bool
  | [] => true
  | none :: l => cat1 l
  | some v :: l => (v.category == 1) && cat1 l
theorem ent_mem : ∀ (L : List (Option Value)) (n k : Nat) (v : Value), (k, v) ∈ ent n L ↔ ∃ j, k = n + j ∧ lk L j = some v
  | [], n, k, v => by simp [ent, lk]
  | none :: l, n, k, v => by
    rw [ent, ent_mem l (n + 1) k v]
    constructor
    · rintro ⟨j, h1, h2⟩; exact ⟨j + 1, by omega, h2⟩
    · rintro ⟨j, h1, h2⟩
      cases j with
      | zero => simp [lk] at h2
      | succ j => exact ⟨j, by omega, h2⟩
  | some u :: l, n, k, v => by
    rw [ent, List.mem_cons, ent_mem l (n + 1) k v]
    constructor
    · rintro (h | ⟨j, h1, h2⟩)
      · cases h; exact ⟨0, rfl, rfl⟩
      · exact ⟨j + 1, by omega, h2⟩
    · rintro ⟨j, h1, h2⟩
      cases j with
      | zero => simp [lk] at h2; subst h2; exact Or.inl (by rw [h1]; rfl)
      | succ j => exact Or.inr ⟨j, by omega, h2⟩
theorem lk_st : ∀ (L : List (Option Value)) (i : Nat) (x : Value) (j : Nat) (u : Value), lk (st L i x) j = some u → (j = i ∧ u = x) ∨ (j ≠ i ∧ lk L j = some u)
  | [], i, x, j, u, h => by simp [st, lk] at h
  | a :: l, 0, x, j, u, h => by
    cases j with
    | zero => simp [st, lk] at h; exact Or.inl ⟨rfl, h.symm⟩
    | succ j => exact Or.inr ⟨by omega, h⟩
  | a :: l, i + 1, x, j, u, h => by
    cases j with
    | zero => exact Or.inr ⟨by omega, h⟩
    | succ j =>
      rcases lk_st l i x j u h with ⟨h1, h2⟩ | ⟨h1, h2⟩
      · exact Or.inl ⟨by omega, h2⟩
      · exact Or.inr ⟨by omega, h2⟩
theorem st_len : ∀ (L : List (Option Value)) (i : Nat) (x : Value), (st L i x).length = L.length
  | [], _, _ => rfl
  | _ :: _, 0, _ => rfl
  | _ :: l, i + 1, x => by simp [st, st_len l i x]
theorem cat1_lk : ∀ (L : List (Option Value)), cat1 L = true → ∀ k v, lk L k = some v → v.category = 1
  | [], _, k, v, h => by simp [lk] at h
  | none :: l, hc, k, v, h => by
    cases k with
    | zero => simp [lk] at h
    | succ k => exact cat1_lk l hc k v h
  | some u :: l, hc, k, v, h => by
    simp only [cat1, Bool.and_eq_true, beq_iff_eq] at hc
    cases k with
    | zero => simp [lk] at h; rw [← h]; exact hc.1
    | succ k => exact cat1_lk l hc.2 k v h
def lvs (ls : Array Slot) (nL : Nat) (L : List (Option Value)) : Prop := lv_has ls nL (ent 0 L) ∧ L.length = nL ∧ ∀ k v, lk L k = some v → v.category = 1
theorem lvs.at {ls : Array Slot} {nL k : Nat} {L : List (Option Value)} {v : Value} (h : lvs ls nL L) (hk : lk L k = some v) : ls[k]? = some (.val v) := h.1.2.2 (k, v) ((ent_mem L 0 k v).mpr ⟨k, by omega, hk⟩)
theorem lvs.mem {ls : Array Slot} {nL k : Nat} {L : List (Option Value)} {v : Value} (h : lvs ls nL L) (hk : lk L k = some v) : ∃ j : Nat, (ent 0 L)[j]? = some (k, v) := List.getElem?_of_mem ((ent_mem L 0 k v).mpr ⟨k, by omega, hk⟩)
theorem lvs.st {ls ls' : Array Slot} {nL i : Nat} {L : List (Option Value)} {x : Value} (h : lvs ls nL L) (hc : x.category = 1) (h' : lv_has ls' nL ((i, x) :: (ent 0 L).filter (fun q => !(q.1 == i) && !(q.1 + 1 == i && q.2.category == 2)))) : lvs ls' nL (st L i x) := by
  refine ⟨⟨h'.1, h'.2.1, fun q hq => h'.2.2 q ?_⟩, by rw [st_len]; exact h.2.1, fun k v hk => ?_⟩
  · obtain ⟨j, h1, h2⟩ := (ent_mem _ 0 q.1 q.2).mp hq
    rcases lk_st L i x j q.2 h2 with ⟨h3, h4⟩ | ⟨h3, h4⟩
    · exact List.mem_cons.mpr (Or.inl (Prod.ext (by rw [h1, h3]; omega) h4))
    · refine List.mem_cons.mpr (Or.inr (List.mem_filter.mpr ⟨(ent_mem L 0 q.1 q.2).mpr ⟨j, h1, h4⟩, ?_⟩))
      have h5 := h.2.2 j q.2 h4
      simp [h5]
      omega
  · rcases lk_st L i x k v hk with ⟨-, h4⟩ | ⟨-, h4⟩
    · rw [h4]; exact hc
    · exact h.2.2 k v h4

/-! ===== methods, contracts, the judgement ===== -/
abbrev MI : Type := MethodName × ByteArray × Nat × Option FieldType
def miW (mi : MI) : Cond := Cond.code mi.1 mi.2.1 mi.2.2.1 mi.2.2.2
def miWs (mi : MI) : List Cond := Cond.code mi.1 mi.2.1 mi.2.2.1 mi.2.2.2 :: lw_tb
def rmd (d mc ms : Nat) : Room := { frames := d, cells := mc, slots := ms, locals := 36 * d }
def nests : List (String × Nat × MethodName × String) := [("VotedLabels", 11, ⟨"VotedLabels$Text", "<init>", "()V"⟩, "VotedLabels"), ("VotedLabels", 18, ⟨"VotedLabels$Words", "<init>", "()V"⟩, "VotedLabels"), ("VotedLabels$Rewrites", 17, ⟨"VotedLabels$Rewrite", "<init>", "()V"⟩, "VotedLabels"), ("VotedLabels$Rewrite", 9, ⟨"VotedLabels$Words", "<init>", "()V"⟩, "VotedLabels"), ("VotedLabels$State", 47, ⟨"VotedLabels$Label", "<init>", "()V"⟩, "VotedLabels"), ("VotedLabels$Label", 11, ⟨"VotedLabels$Words", "<init>", "()V"⟩, "VotedLabels"), ("VotedLabels$State", 80, ⟨"VotedLabels", "placeOf", "(II)I"⟩, "VotedLabels")]
/-- what the tables say that is no good word, and the classes -/
def KK (D : va_G) (cy : Nat → ClassId) (U : State) : Prop := va_K D vwCl (tys5 cy) U ∧ (∀ q ∈ nests, va_Nw (.methodLinkNest q.1 q.2.1 q.2.2.1 q.2.2.2) U) ∧ va_AO "VotedLabels$Label" U ∧ va_AO "VotedLabels$Rewrite" U ∧ va_AO "VotedLabels$State" U
theorem KK.warm {D : va_G} {cy : Nat → ClassId} {s U : State} (h : KK D cy s) (hW : s.WarmedH U.vm) : KK D cy U := ⟨va_K.moved hW.alike h.1, fun q hq => va_Nw.warmM hW (h.2.1 q hq), va_AO.moved hW.alike h.2.2.1, va_AO.moved hW.alike h.2.2.2.1, va_AO.moved hW.alike h.2.2.2.2⟩
theorem KK.same {D : va_G} {cy : Nat → ClassId} {s U : State} (h : KK D cy s) (e : s.vm = U.vm) : KK D cy U := ⟨va_K.moved (by rw [e]; exact Vm.Alike.refl U.vm) h.1, fun q hq => va_Nw.same rfl e (h.2.1 q hq), va_AO.moved (by rw [e]; exact Vm.Alike.refl U.vm) h.2.2.1, va_AO.moved (by rw [e]; exact Vm.Alike.refl U.vm) h.2.2.2.1, va_AO.moved (by rw [e]; exact Vm.Alike.refl U.vm) h.2.2.2.2⟩
def Qd (Po : Option Value → Wd → Nat → Prop) (D : va_G) (cy : Nat → ClassId) (lo : Nat) : Array Value → State → Outcome → State → Prop := fun _ s oc t =>
  ∃ (r : Option Value) (w' : Wd), oc = .returned r ∧ hW D cy lo w' t.heap ∧ Po r w' t.heap.size ∧ va_F (fun q => lo ≤ q) s t
/-- METHOD mi, called with av in the world w (heap of sz cells): returns r in a world w' of sz' cells with Po r w' sz' -/
def Ev (mi : MI) (d : Nat) (av : List Value) (w : Wd) (sz mc ms : Nat) (Po : Option Value → Wd → Nat → Prop) : Prop :=
  ∀ (l : Launch) (lo : Nat) (D : va_G) (cy : Nat → ClassId), Met l mi.1 (miWs mi) (rmd d mc ms) (va_Pc av (fun U => U.heap.size = sz ∧ lo ≤ sz ∧ hW D cy lo w U.heap ∧ KK D cy U)) (Qd Po D cy lo) mc ms (fun q => lo ≤ q)
def Cx (p : Program) (s : State) (m : MethodId) (args : Array Value) (meth : Method) (c : Code) (mi : MI) (D : va_G) (cy : Nat → ClassId) (lo : Nat) : Prop :=
  p.tables.exec = Jvm.exec ∧ c.code = mi.2.1 ∧ meth.sig.returnType = mi.2.2.2 ∧ c.maxLocals = mi.2.2.1 ∧ s.vm.findClass mi.1.cls = some m.cls ∧ (∀ w ∈ miWs mi, w.before args s = true) ∧ meth.locks = false ∧ KK D cy s ∧ lo ≤ s.heap.size ∧ meth.name = mi.1.name
/-- from pc, with the locals L and the stack stk, in the world w, the method comes to its end with Po -/
def V (mi : MI) (d mc ms : Nat) (Po : Option Value → Wd → Nat → Prop) (w : Wd) (sz cells slots : Nat) (L : List (Option Value)) (stk : List Value) (pc : Nat) : Prop :=
  ∀ (p : Program) (l : Launch) (e : Env) (s : State) (m : MethodId) (args : Array Value) (below : List Frame) (meth : Method) (c : Code) (lo : Nat) (D : va_G) (cy : Nat → ClassId) (H : Heap) (locs : List Loc) (ls : Array Slot),
    Cx p s m args meth c mi D cy lo → hW D cy lo w H → H.size = sz → va_S (fun q => lo ≤ q) s.heap H locs → lvs ls mi.2.2.1 L →
    W p l e (rmd d mc ms) s m args below meth c H locs cells slots (MQ below (Qd Po D cy lo) args s mc ms (fun q => lo ≤ q)) (F0 m pc ls stk)
theorem Ev.mono {mi : MI} {d : Nat} {av : List Value} {w : Wd} {sz mc ms : Nat} {Po Po' : Option Value → Wd → Nat → Prop} (h : Ev mi d av w sz mc ms Po) (k : ∀ r w' z, Po r w' z → Po' r w' z) : Ev mi d av w sz mc ms Po' := by
  intro l lo D cy p e a1 a2 a3 s m args below a4 a5 a6 a7
  obtain ⟨t, o, b1, b2, b3, ⟨r, w', c1, c2, c3, c4⟩, b5⟩ := h l lo D cy p e a1 a2 a3 s m args below a4 a5 a6 a7
  exact ⟨t, o, b1, b2, b3, ⟨r, w', c1, c2, k _ _ _ c3, c4⟩, b5⟩
set_option maxHeartbeats 1000000 in
theorem Ev.ofV {mi : MI} {d : Nat} {av : List Value} {w : Wd} {sz mc ms : Nat} {Po : Option Value → Wd → Nat → Prop} (L : List (Option Value)) (hy : plainName mi.1.cls = true) (hn : (lg_sl av).length ≤ mi.2.2.1) (hL : ent 0 L = lv_args 0 av) (hlen : L.length = mi.2.2.1) (hcat : cat1 L = true) (h : V mi d mc ms Po w sz 0 0 L [] 0) : Ev mi d av w sz mc ms Po := by
  intro l lo D cy
  refine Met.ofW (cc := mi.2.1) (maxL := mi.2.2.1) (ret := mi.2.2.2) (ws' := lw_tb) hy rfl ?_
  intro p e s m args below meth c s₁ B hml hv
  obtain ⟨rfl, hsz, hlo, hw, hK⟩ := hv
  have hts := atoms_spec (ws := miWs mi) B.pre
  have hl := lv_entry av hn
  rw [lg_entry_eq]
  exact h p l e s m av.toArray below meth c lo D cy s.heap [] _ ⟨B.exec, B.bytes, B.returns, hml, findClass_of_methodNamed B.named, hts, B.notSynchronized, hK, by rw [hsz]; exact hlo, (name_of_methodNamed B.named B.method).1⟩ hw hsz va_S.rf ⟨by rw [hL]; exact hl, hlen, cat1_lk L hcat⟩
section VR
variable {mi : MI} {d mc ms : Nat} {Po : Option Value → Wd → Nat → Prop} {w : Wd} {sz cells slots : Nat} {L : List (Option Value)} {stk : List Value} {pc : Nat}
theorem v_eqs {stk' : List Value} (h : stk' = stk) (k : V mi d mc ms Po w sz cells slots L stk' pc) : V mi d mc ms Po w sz cells slots L stk pc := h ▸ k
theorem v_eqL {L' : List (Option Value)} (h : L' = L) (k : V mi d mc ms Po w sz cells slots L' stk pc) : V mi d mc ms Po w sz cells slots L stk pc := h ▸ k
theorem v_eqw {w' : Wd} (h : w' = w) (k : V mi d mc ms Po w' sz cells slots L stk pc) : V mi d mc ms Po w sz cells slots L stk pc := h ▸ k

theorem v_iload_n {i : Fin 4} {x : Int32} (hd : decode mi.2.1 pc = .ok (.iload_n i, 1)) (hl0 : lk L i = some (.int x)) (k : V mi d mc ms Po w sz cells slots L (.int x :: stk) (pc + 1)) : V mi d mc ms Po w sz cells slots L (stk) (pc) := by
  intro p l e s m args below meth c lo D cy H locs ls C hw hz hS hl
  exact lv_iload_n C.1 C.2.1 hd rfl (hl.at hl0) (k p l e s m args below meth c lo D cy H locs ls C hw hz hS hl)
theorem v_iload {i : Nat} {x : Int32} (hd : decode mi.2.1 pc = .ok (.iload i, 2)) (hl0 : lk L i = some (.int x)) (k : V mi d mc ms Po w sz cells slots L (.int x :: stk) (pc + 2)) : V mi d mc ms Po w sz cells slots L (stk) (pc) := by
  intro p l e s m args below meth c lo D cy H locs ls C hw hz hS hl
  exact lv_iload C.1 C.2.1 hd (hl.at hl0) (k p l e s m args below meth c lo D cy H locs ls C hw hz hS hl)
theorem v_aload_n {i : Fin 4} {x : Nat} (hd : decode mi.2.1 pc = .ok (.aload_n i, 1)) (hl0 : lk L i = some (.ref x)) (k : V mi d mc ms Po w sz cells slots L (.ref x :: stk) (pc + 1)) : V mi d mc ms Po w sz cells slots L (stk) (pc) := by
  intro p l e s m args below meth c lo D cy H locs ls C hw hz hS hl
  exact lv_aload_n C.1 C.2.1 hd rfl (hl.at hl0) (k p l e s m args below meth c lo D cy H locs ls C hw hz hS hl)
theorem v_aload {i : Nat} {x : Nat} (hd : decode mi.2.1 pc = .ok (.aload i, 2)) (hl0 : lk L i = some (.ref x)) (k : V mi d mc ms Po w sz cells slots L (.ref x :: stk) (pc + 2)) : V mi d mc ms Po w sz cells slots L (stk) (pc) := by
  intro p l e s m args below meth c lo D cy H locs ls C hw hz hS hl
  exact lv_aload C.1 C.2.1 hd (hl.at hl0) (k p l e s m args below meth c lo D cy H locs ls C hw hz hS hl)
theorem v_aload_nN {i : Fin 4} (hd : decode mi.2.1 pc = .ok (.aload_n i, 1)) (hl0 : lk L i = some .null) (k : V mi d mc ms Po w sz cells slots L (.null :: stk) (pc + 1)) : V mi d mc ms Po w sz cells slots L (stk) (pc) := by
  intro p l e s m args below meth c lo D cy H locs ls C hw hz hS hl
  exact lv_aload_nN C.1 C.2.1 hd rfl (hl.at hl0) (k p l e s m args below meth c lo D cy H locs ls C hw hz hS hl)
theorem v_aloadN {i : Nat} (hd : decode mi.2.1 pc = .ok (.aload i, 2)) (hl0 : lk L i = some .null) (k : V mi d mc ms Po w sz cells slots L (.null :: stk) (pc + 2)) : V mi d mc ms Po w sz cells slots L (stk) (pc) := by
  intro p l e s m args below meth c lo D cy H locs ls C hw hz hS hl
  exact lv_aloadN C.1 C.2.1 hd (hl.at hl0) (k p l e s m args below meth c lo D cy H locs ls C hw hz hS hl)
theorem v_istore_n {i : Fin 4} {x : Int32} {L' : List (Option Value)} (hd : decode mi.2.1 pc = .ok (.istore_n i, 1)) (hi : (i : Nat) < mi.2.2.1) (hL : st L i (.int x) = L') (k : V mi d mc ms Po w sz cells slots L' (stk) (pc + 1)) : V mi d mc ms Po w sz cells slots L (.int x :: stk) (pc) := by
  intro p l e s m args below meth c lo D cy H locs ls C hw hz hS hl
  refine lv_istore_n C.1 C.2.1 hd rfl hl.1 hi rfl (fun ls' h' => ?_)
  exact k p l e s m args below meth c lo D cy H locs ls' C hw hz hS (by rw [← hL]; exact hl.st rfl h')
theorem v_istore {i : Nat} {x : Int32} {L' : List (Option Value)} (hd : decode mi.2.1 pc = .ok (.istore i, 2)) (hi : (i : Nat) < mi.2.2.1) (hL : st L i (.int x) = L') (k : V mi d mc ms Po w sz cells slots L' (stk) (pc + 2)) : V mi d mc ms Po w sz cells slots L (.int x :: stk) (pc) := by
  intro p l e s m args below meth c lo D cy H locs ls C hw hz hS hl
  refine lv_istore C.1 C.2.1 hd hl.1 hi rfl (fun ls' h' => ?_)
  exact k p l e s m args below meth c lo D cy H locs ls' C hw hz hS (by rw [← hL]; exact hl.st rfl h')
theorem v_astore_n {i : Fin 4} {x : Nat} {L' : List (Option Value)} (hd : decode mi.2.1 pc = .ok (.astore_n i, 1)) (hi : (i : Nat) < mi.2.2.1) (hL : st L i (.ref x) = L') (k : V mi d mc ms Po w sz cells slots L' (stk) (pc + 1)) : V mi d mc ms Po w sz cells slots L (.ref x :: stk) (pc) := by
  intro p l e s m args below meth c lo D cy H locs ls C hw hz hS hl
  refine lv_astore_n C.1 C.2.1 hd rfl hl.1 hi rfl (fun ls' h' => ?_)
  exact k p l e s m args below meth c lo D cy H locs ls' C hw hz hS (by rw [← hL]; exact hl.st rfl h')
theorem v_astore {i : Nat} {x : Nat} {L' : List (Option Value)} (hd : decode mi.2.1 pc = .ok (.astore i, 2)) (hi : (i : Nat) < mi.2.2.1) (hL : st L i (.ref x) = L') (k : V mi d mc ms Po w sz cells slots L' (stk) (pc + 2)) : V mi d mc ms Po w sz cells slots L (.ref x :: stk) (pc) := by
  intro p l e s m args below meth c lo D cy H locs ls C hw hz hS hl
  refine lv_astore C.1 C.2.1 hd hl.1 hi rfl (fun ls' h' => ?_)
  exact k p l e s m args below meth c lo D cy H locs ls' C hw hz hS (by rw [← hL]; exact hl.st rfl h')
theorem v_astore_nN {i : Fin 4} {L' : List (Option Value)} (hd : decode mi.2.1 pc = .ok (.astore_n i, 1)) (hi : (i : Nat) < mi.2.2.1) (hL : st L i (.null) = L') (k : V mi d mc ms Po w sz cells slots L' (stk) (pc + 1)) : V mi d mc ms Po w sz cells slots L (.null :: stk) (pc) := by
  intro p l e s m args below meth c lo D cy H locs ls C hw hz hS hl
  refine lv_astore_nN C.1 C.2.1 hd rfl hl.1 hi rfl (fun ls' h' => ?_)
  exact k p l e s m args below meth c lo D cy H locs ls' C hw hz hS (by rw [← hL]; exact hl.st rfl h')
theorem v_astoreN {i : Nat} {L' : List (Option Value)} (hd : decode mi.2.1 pc = .ok (.astore i, 2)) (hi : (i : Nat) < mi.2.2.1) (hL : st L i (.null) = L') (k : V mi d mc ms Po w sz cells slots L' (stk) (pc + 2)) : V mi d mc ms Po w sz cells slots L (.null :: stk) (pc) := by
  intro p l e s m args below meth c lo D cy H locs ls C hw hz hS hl
  refine lv_astoreN C.1 C.2.1 hd hl.1 hi rfl (fun ls' h' => ?_)
  exact k p l e s m args below meth c lo D cy H locs ls' C hw hz hS (by rw [← hL]; exact hl.st rfl h')
theorem v_iinc {i : Nat} {n : Int} {x y : Int32} {L' : List (Option Value)} (hd : decode mi.2.1 pc = .ok (.iinc i n, 3)) (hi : i < mi.2.2.1) (hl0 : lk L i = some (.int x)) (hy : x + Int32.ofInt n = y) (hL : st L i (.int y) = L') (k : V mi d mc ms Po w sz cells slots L' (stk) (pc + 3)) : V mi d mc ms Po w sz cells slots L (stk) (pc) := by
  intro p l e s m args below meth c lo D cy H locs ls C hw hz hS hl
  obtain ⟨j, hj⟩ := hl.mem hl0
  refine lv_iinc C.1 C.2.1 hd hl.1 hj hy hi rfl (fun ls' h' => ?_)
  exact k p l e s m args below meth c lo D cy H locs ls' C hw hz hS (by rw [← hL]; exact hl.st rfl h')
theorem v_iconst {n : Int} {v : Int32} (hd : decode mi.2.1 pc = .ok (.iconst n, 1)) (hv : Int32.ofInt n = v) (k : V mi d mc ms Po w sz cells slots L (.int v :: stk) (pc + 1)) : V mi d mc ms Po w sz cells slots L (stk) (pc) := by
  intro p l e s m args below meth c lo D cy H locs ls C hw hz hS hl
  exact lv_iconst C.1 C.2.1 hd hv (k p l e s m args below meth c lo D cy H locs ls C hw hz hS hl)
theorem v_bipush {n : Int} {v : Int32} (hd : decode mi.2.1 pc = .ok (.bipush n, 2)) (hv : (Int8.ofInt n).toInt32 = v) (k : V mi d mc ms Po w sz cells slots L (.int v :: stk) (pc + 2)) : V mi d mc ms Po w sz cells slots L (stk) (pc) := by
  intro p l e s m args below meth c lo D cy H locs ls C hw hz hS hl
  exact lv_bipush C.1 C.2.1 hd hv (k p l e s m args below meth c lo D cy H locs ls C hw hz hS hl)
theorem v_sipush {n : Int} {v : Int32} (hd : decode mi.2.1 pc = .ok (.sipush n, 3)) (hv : (Int16.ofInt n).toInt32 = v) (k : V mi d mc ms Po w sz cells slots L (.int v :: stk) (pc + 3)) : V mi d mc ms Po w sz cells slots L (stk) (pc) := by
  intro p l e s m args below meth c lo D cy H locs ls C hw hz hS hl
  exact lv_sipush C.1 C.2.1 hd hv (k p l e s m args below meth c lo D cy H locs ls C hw hz hS hl)
theorem v_null  (hd : decode mi.2.1 pc = .ok (.aconst_null, 1))  (k : V mi d mc ms Po w sz cells slots L (.null :: stk) (pc + 1)) : V mi d mc ms Po w sz cells slots L (stk) (pc) := by
  intro p l e s m args below meth c lo D cy H locs ls C hw hz hS hl
  exact lv_null C.1 C.2.1 hd  (k p l e s m args below meth c lo D cy H locs ls C hw hz hS hl)
theorem v_ldc {idx : Nat} {v : Int32} (hd : decode mi.2.1 pc = .ok (.ldc idx, 2)) (hc : Cond.constant mi.1.cls idx v ∈ lw_tb) (k : V mi d mc ms Po w sz cells slots L (.int v :: stk) (pc + 2)) : V mi d mc ms Po w sz cells slots L (stk) (pc) := by
  intro p l e s m args below meth c lo D cy H locs ls C hw hz hS hl
  exact lv_ldc C.1 C.2.1 C.2.2.2.2.1 (C.2.2.2.2.2.1 _ (List.mem_cons_of_mem _ hc)) hd (k p l e s m args below meth c lo D cy H locs ls C hw hz hS hl)
theorem v_iadd {x y : Int32} (hd : decode mi.2.1 pc = .ok (.iadd, 1))  (k : V mi d mc ms Po w sz cells slots L (.int (x + y) :: stk) (pc + 1)) : V mi d mc ms Po w sz cells slots L (.int y :: .int x :: stk) (pc) := by
  intro p l e s m args below meth c lo D cy H locs ls C hw hz hS hl
  exact lv_iadd C.1 C.2.1 hd  (k p l e s m args below meth c lo D cy H locs ls C hw hz hS hl)
theorem v_isub {x y : Int32} (hd : decode mi.2.1 pc = .ok (.isub, 1))  (k : V mi d mc ms Po w sz cells slots L (.int (x - y) :: stk) (pc + 1)) : V mi d mc ms Po w sz cells slots L (.int y :: .int x :: stk) (pc) := by
  intro p l e s m args below meth c lo D cy H locs ls C hw hz hS hl
  exact lv_isub C.1 C.2.1 hd  (k p l e s m args below meth c lo D cy H locs ls C hw hz hS hl)
theorem v_imul {x y : Int32} (hd : decode mi.2.1 pc = .ok (.imul, 1))  (k : V mi d mc ms Po w sz cells slots L (.int (x * y) :: stk) (pc + 1)) : V mi d mc ms Po w sz cells slots L (.int y :: .int x :: stk) (pc) := by
  intro p l e s m args below meth c lo D cy H locs ls C hw hz hS hl
  exact lv_imul C.1 C.2.1 hd  (k p l e s m args below meth c lo D cy H locs ls C hw hz hS hl)
theorem v_iand {x y : Int32} (hd : decode mi.2.1 pc = .ok (.iand, 1))  (k : V mi d mc ms Po w sz cells slots L (.int (x &&& y) :: stk) (pc + 1)) : V mi d mc ms Po w sz cells slots L (.int y :: .int x :: stk) (pc) := by
  intro p l e s m args below meth c lo D cy H locs ls C hw hz hS hl
  exact lv_iand C.1 C.2.1 hd  (k p l e s m args below meth c lo D cy H locs ls C hw hz hS hl)
theorem v_ior {x y : Int32} (hd : decode mi.2.1 pc = .ok (.ior, 1))  (k : V mi d mc ms Po w sz cells slots L (.int (x ||| y) :: stk) (pc + 1)) : V mi d mc ms Po w sz cells slots L (.int y :: .int x :: stk) (pc) := by
  intro p l e s m args below meth c lo D cy H locs ls C hw hz hS hl
  exact lv_ior C.1 C.2.1 hd  (k p l e s m args below meth c lo D cy H locs ls C hw hz hS hl)
theorem v_ixor {x y : Int32} (hd : decode mi.2.1 pc = .ok (.ixor, 1))  (k : V mi d mc ms Po w sz cells slots L (.int (x ^^^ y) :: stk) (pc + 1)) : V mi d mc ms Po w sz cells slots L (.int y :: .int x :: stk) (pc) := by
  intro p l e s m args below meth c lo D cy H locs ls C hw hz hS hl
  exact lv_ixor C.1 C.2.1 hd  (k p l e s m args below meth c lo D cy H locs ls C hw hz hS hl)
theorem v_ishl {x y : Int32} (hd : decode mi.2.1 pc = .ok (.ishl, 1))  (k : V mi d mc ms Po w sz cells slots L (.int (x <<< (y &&& 31)) :: stk) (pc + 1)) : V mi d mc ms Po w sz cells slots L (.int y :: .int x :: stk) (pc) := by
  intro p l e s m args below meth c lo D cy H locs ls C hw hz hS hl
  exact lv_ishl C.1 C.2.1 hd  (k p l e s m args below meth c lo D cy H locs ls C hw hz hS hl)
theorem v_ishr {x y : Int32} (hd : decode mi.2.1 pc = .ok (.ishr, 1))  (k : V mi d mc ms Po w sz cells slots L (.int (x >>> (y &&& 31)) :: stk) (pc + 1)) : V mi d mc ms Po w sz cells slots L (.int y :: .int x :: stk) (pc) := by
  intro p l e s m args below meth c lo D cy H locs ls C hw hz hS hl
  exact lv_ishr C.1 C.2.1 hd  (k p l e s m args below meth c lo D cy H locs ls C hw hz hS hl)
theorem v_iushr {x y v : Int32} (hd : decode mi.2.1 pc = .ok (.iushr, 1)) (hv : (x.toUInt32 >>> (y.toUInt32 &&& Int32.toUInt32 31)).toInt32 = v) (k : V mi d mc ms Po w sz cells slots L (.int v :: stk) (pc + 1)) : V mi d mc ms Po w sz cells slots L (.int y :: .int x :: stk) (pc) := by
  intro p l e s m args below meth c lo D cy H locs ls C hw hz hS hl
  exact lv_iushr C.1 C.2.1 hd hv (k p l e s m args below meth c lo D cy H locs ls C hw hz hS hl)
theorem v_idiv {x y : Int32} (hd : decode mi.2.1 pc = .ok (.idiv, 1)) (hne : ¬ y = 0) (k : V mi d mc ms Po w sz cells slots L (.int (x / y) :: stk) (pc + 1)) : V mi d mc ms Po w sz cells slots L (.int y :: .int x :: stk) (pc) := by
  intro p l e s m args below meth c lo D cy H locs ls C hw hz hS hl
  exact lv_idiv C.1 C.2.1 hd hne (k p l e s m args below meth c lo D cy H locs ls C hw hz hS hl)
theorem v_irem {x y : Int32} (hd : decode mi.2.1 pc = .ok (.irem, 1)) (hne : ¬ y = 0) (k : V mi d mc ms Po w sz cells slots L (.int (x - x / y * y) :: stk) (pc + 1)) : V mi d mc ms Po w sz cells slots L (.int y :: .int x :: stk) (pc) := by
  intro p l e s m args below meth c lo D cy H locs ls C hw hz hS hl
  exact lv_irem C.1 C.2.1 hd hne (k p l e s m args below meth c lo D cy H locs ls C hw hz hS hl)
theorem v_i2c {x v : Int32} (hd : decode mi.2.1 pc = .ok (.i2c, 1)) (hv : (x.toUInt32 % 65536).toInt32 = v) (k : V mi d mc ms Po w sz cells slots L (.int v :: stk) (pc + 1)) : V mi d mc ms Po w sz cells slots L (.int x :: stk) (pc) := by
  intro p l e s m args below meth c lo D cy H locs ls C hw hz hS hl
  exact lv_i2c C.1 C.2.1 hd hv (k p l e s m args below meth c lo D cy H locs ls C hw hz hS hl)
theorem v_dup {va : Value} (hd : decode mi.2.1 pc = .ok (.dup, 1)) (hva : va.category = 1) (k : V mi d mc ms Po w sz cells slots L (va :: va :: stk) (pc + 1)) : V mi d mc ms Po w sz cells slots L (va :: stk) (pc) := by
  intro p l e s m args below meth c lo D cy H locs ls C hw hz hS hl
  exact lv_dup C.1 C.2.1 hd hva (k p l e s m args below meth c lo D cy H locs ls C hw hz hS hl)
theorem v_pop {va : Value} (hd : decode mi.2.1 pc = .ok (.pop, 1)) (hva : va.category = 1) (k : V mi d mc ms Po w sz cells slots L (stk) (pc + 1)) : V mi d mc ms Po w sz cells slots L (va :: stk) (pc) := by
  intro p l e s m args below meth c lo D cy H locs ls C hw hz hS hl
  exact lv_pop C.1 C.2.1 hd hva (k p l e s m args below meth c lo D cy H locs ls C hw hz hS hl)
theorem v_dup2 {va vb : Value} (hd : decode mi.2.1 pc = .ok (.dup2, 1)) (hva : va.category = 1) (hvb : vb.category = 1) (k : V mi d mc ms Po w sz cells slots L (va :: vb :: va :: vb :: stk) (pc + 1)) : V mi d mc ms Po w sz cells slots L (va :: vb :: stk) (pc) := by
  intro p l e s m args below meth c lo D cy H locs ls C hw hz hS hl
  exact lv_dup2_11 C.1 C.2.1 hd hva hvb (k p l e s m args below meth c lo D cy H locs ls C hw hz hS hl)
theorem v_dup_x1 {va vb : Value} (hd : decode mi.2.1 pc = .ok (.dup_x1, 1)) (hva : va.category = 1) (hvb : vb.category = 1) (k : V mi d mc ms Po w sz cells slots L (va :: vb :: va :: stk) (pc + 1)) : V mi d mc ms Po w sz cells slots L (va :: vb :: stk) (pc) := by
  intro p l e s m args below meth c lo D cy H locs ls C hw hz hS hl
  exact lv_dup_x1 C.1 C.2.1 hd hva hvb (k p l e s m args below meth c lo D cy H locs ls C hw hz hS hl)
theorem v_goto {off : Int} {tgt : Nat} (hd : decode mi.2.1 pc = .ok (.goto off, 3)) (ht : (pc : Int) + off = (tgt : Int)) (k : V mi d mc ms Po w sz cells slots L (stk) (tgt)) : V mi d mc ms Po w sz cells slots L (stk) (pc) := by
  intro p l e s m args below meth c lo D cy H locs ls C hw hz hS hl
  exact lv_goto C.1 C.2.1 hd ht (k p l e s m args below meth c lo D cy H locs ls C hw hz hS hl)
theorem v_icmp_eq {x y : Int32} {off : Int} {tgt : Nat} (hd : decode mi.2.1 pc = .ok (.if_icmp .eq off, 3)) (ht : (pc : Int) + off = (tgt : Int)) (kt : x = y → V mi d mc ms Po w sz cells slots L (stk) (tgt)) (kf : ¬ x = y → V mi d mc ms Po w sz cells slots L (stk) (pc + 3)) : V mi d mc ms Po w sz cells slots L (.int y :: .int x :: stk) (pc) := by
  intro p l e s m args below meth c lo D cy H locs ls C hw hz hS hl
  exact lv_icmp_eq C.1 C.2.1 hd ht (fun z => kt z p l e s m args below meth c lo D cy H locs ls C hw hz hS hl) (fun z => kf z p l e s m args below meth c lo D cy H locs ls C hw hz hS hl)
theorem v_icmp_ne {x y : Int32} {off : Int} {tgt : Nat} (hd : decode mi.2.1 pc = .ok (.if_icmp .ne off, 3)) (ht : (pc : Int) + off = (tgt : Int)) (kt : ¬ x = y → V mi d mc ms Po w sz cells slots L (stk) (tgt)) (kf : x = y → V mi d mc ms Po w sz cells slots L (stk) (pc + 3)) : V mi d mc ms Po w sz cells slots L (.int y :: .int x :: stk) (pc) := by
  intro p l e s m args below meth c lo D cy H locs ls C hw hz hS hl
  exact lv_icmp_ne C.1 C.2.1 hd ht (fun z => kt z p l e s m args below meth c lo D cy H locs ls C hw hz hS hl) (fun z => kf z p l e s m args below meth c lo D cy H locs ls C hw hz hS hl)
theorem v_icmp_lt {x y : Int32} {off : Int} {tgt : Nat} (hd : decode mi.2.1 pc = .ok (.if_icmp .lt off, 3)) (ht : (pc : Int) + off = (tgt : Int)) (kt : x < y → V mi d mc ms Po w sz cells slots L (stk) (tgt)) (kf : ¬ x < y → V mi d mc ms Po w sz cells slots L (stk) (pc + 3)) : V mi d mc ms Po w sz cells slots L (.int y :: .int x :: stk) (pc) := by
  intro p l e s m args below meth c lo D cy H locs ls C hw hz hS hl
  exact lv_icmp_lt C.1 C.2.1 hd ht (fun z => kt z p l e s m args below meth c lo D cy H locs ls C hw hz hS hl) (fun z => kf z p l e s m args below meth c lo D cy H locs ls C hw hz hS hl)
theorem v_icmp_ge {x y : Int32} {off : Int} {tgt : Nat} (hd : decode mi.2.1 pc = .ok (.if_icmp .ge off, 3)) (ht : (pc : Int) + off = (tgt : Int)) (kt : y ≤ x → V mi d mc ms Po w sz cells slots L (stk) (tgt)) (kf : ¬ y ≤ x → V mi d mc ms Po w sz cells slots L (stk) (pc + 3)) : V mi d mc ms Po w sz cells slots L (.int y :: .int x :: stk) (pc) := by
  intro p l e s m args below meth c lo D cy H locs ls C hw hz hS hl
  exact lv_icmp_ge C.1 C.2.1 hd ht (fun z => kt z p l e s m args below meth c lo D cy H locs ls C hw hz hS hl) (fun z => kf z p l e s m args below meth c lo D cy H locs ls C hw hz hS hl)
theorem v_icmp_gt {x y : Int32} {off : Int} {tgt : Nat} (hd : decode mi.2.1 pc = .ok (.if_icmp .gt off, 3)) (ht : (pc : Int) + off = (tgt : Int)) (kt : y < x → V mi d mc ms Po w sz cells slots L (stk) (tgt)) (kf : ¬ y < x → V mi d mc ms Po w sz cells slots L (stk) (pc + 3)) : V mi d mc ms Po w sz cells slots L (.int y :: .int x :: stk) (pc) := by
  intro p l e s m args below meth c lo D cy H locs ls C hw hz hS hl
  exact lv_icmp_gt C.1 C.2.1 hd ht (fun z => kt z p l e s m args below meth c lo D cy H locs ls C hw hz hS hl) (fun z => kf z p l e s m args below meth c lo D cy H locs ls C hw hz hS hl)
theorem v_icmp_le {x y : Int32} {off : Int} {tgt : Nat} (hd : decode mi.2.1 pc = .ok (.if_icmp .le off, 3)) (ht : (pc : Int) + off = (tgt : Int)) (kt : x ≤ y → V mi d mc ms Po w sz cells slots L (stk) (tgt)) (kf : ¬ x ≤ y → V mi d mc ms Po w sz cells slots L (stk) (pc + 3)) : V mi d mc ms Po w sz cells slots L (.int y :: .int x :: stk) (pc) := by
  intro p l e s m args below meth c lo D cy H locs ls C hw hz hS hl
  exact lv_icmp_le C.1 C.2.1 hd ht (fun z => kt z p l e s m args below meth c lo D cy H locs ls C hw hz hS hl) (fun z => kf z p l e s m args below meth c lo D cy H locs ls C hw hz hS hl)
theorem v_if_eq {x : Int32} {off : Int} {tgt : Nat} (hd : decode mi.2.1 pc = .ok (.ifCond .eq off, 3)) (ht : (pc : Int) + off = (tgt : Int)) (kt : x = 0 → V mi d mc ms Po w sz cells slots L (stk) (tgt)) (kf : ¬ x = 0 → V mi d mc ms Po w sz cells slots L (stk) (pc + 3)) : V mi d mc ms Po w sz cells slots L (.int x :: stk) (pc) := by
  intro p l e s m args below meth c lo D cy H locs ls C hw hz hS hl
  exact lv_if_eq C.1 C.2.1 hd ht (fun z => kt z p l e s m args below meth c lo D cy H locs ls C hw hz hS hl) (fun z => kf z p l e s m args below meth c lo D cy H locs ls C hw hz hS hl)
theorem v_if_ne {x : Int32} {off : Int} {tgt : Nat} (hd : decode mi.2.1 pc = .ok (.ifCond .ne off, 3)) (ht : (pc : Int) + off = (tgt : Int)) (kt : ¬ x = 0 → V mi d mc ms Po w sz cells slots L (stk) (tgt)) (kf : x = 0 → V mi d mc ms Po w sz cells slots L (stk) (pc + 3)) : V mi d mc ms Po w sz cells slots L (.int x :: stk) (pc) := by
  intro p l e s m args below meth c lo D cy H locs ls C hw hz hS hl
  exact lv_if_ne C.1 C.2.1 hd ht (fun z => kt z p l e s m args below meth c lo D cy H locs ls C hw hz hS hl) (fun z => kf z p l e s m args below meth c lo D cy H locs ls C hw hz hS hl)
theorem v_if_lt {x : Int32} {off : Int} {tgt : Nat} (hd : decode mi.2.1 pc = .ok (.ifCond .lt off, 3)) (ht : (pc : Int) + off = (tgt : Int)) (kt : x < 0 → V mi d mc ms Po w sz cells slots L (stk) (tgt)) (kf : ¬ x < 0 → V mi d mc ms Po w sz cells slots L (stk) (pc + 3)) : V mi d mc ms Po w sz cells slots L (.int x :: stk) (pc) := by
  intro p l e s m args below meth c lo D cy H locs ls C hw hz hS hl
  exact lv_if_lt C.1 C.2.1 hd ht (fun z => kt z p l e s m args below meth c lo D cy H locs ls C hw hz hS hl) (fun z => kf z p l e s m args below meth c lo D cy H locs ls C hw hz hS hl)
theorem v_if_ge {x : Int32} {off : Int} {tgt : Nat} (hd : decode mi.2.1 pc = .ok (.ifCond .ge off, 3)) (ht : (pc : Int) + off = (tgt : Int)) (kt : 0 ≤ x → V mi d mc ms Po w sz cells slots L (stk) (tgt)) (kf : ¬ 0 ≤ x → V mi d mc ms Po w sz cells slots L (stk) (pc + 3)) : V mi d mc ms Po w sz cells slots L (.int x :: stk) (pc) := by
  intro p l e s m args below meth c lo D cy H locs ls C hw hz hS hl
  exact lv_if_ge C.1 C.2.1 hd ht (fun z => kt z p l e s m args below meth c lo D cy H locs ls C hw hz hS hl) (fun z => kf z p l e s m args below meth c lo D cy H locs ls C hw hz hS hl)
theorem v_if_gt {x : Int32} {off : Int} {tgt : Nat} (hd : decode mi.2.1 pc = .ok (.ifCond .gt off, 3)) (ht : (pc : Int) + off = (tgt : Int)) (kt : 0 < x → V mi d mc ms Po w sz cells slots L (stk) (tgt)) (kf : ¬ 0 < x → V mi d mc ms Po w sz cells slots L (stk) (pc + 3)) : V mi d mc ms Po w sz cells slots L (.int x :: stk) (pc) := by
  intro p l e s m args below meth c lo D cy H locs ls C hw hz hS hl
  exact lv_if_gt C.1 C.2.1 hd ht (fun z => kt z p l e s m args below meth c lo D cy H locs ls C hw hz hS hl) (fun z => kf z p l e s m args below meth c lo D cy H locs ls C hw hz hS hl)
theorem v_if_le {x : Int32} {off : Int} {tgt : Nat} (hd : decode mi.2.1 pc = .ok (.ifCond .le off, 3)) (ht : (pc : Int) + off = (tgt : Int)) (kt : x ≤ 0 → V mi d mc ms Po w sz cells slots L (stk) (tgt)) (kf : ¬ x ≤ 0 → V mi d mc ms Po w sz cells slots L (stk) (pc + 3)) : V mi d mc ms Po w sz cells slots L (.int x :: stk) (pc) := by
  intro p l e s m args below meth c lo D cy H locs ls C hw hz hS hl
  exact lv_if_le C.1 C.2.1 hd ht (fun z => kt z p l e s m args below meth c lo D cy H locs ls C hw hz hS hl) (fun z => kf z p l e s m args below meth c lo D cy H locs ls C hw hz hS hl)
theorem v_ifnull {x : Nat} {off : Int} (hd : decode mi.2.1 pc = .ok (.ifnull off, 3)) (k : V mi d mc ms Po w sz cells slots L (stk) (pc + 3)) : V mi d mc ms Po w sz cells slots L (.ref x :: stk) (pc) := by
  intro p l e s m args below meth c lo D cy H locs ls C hw hz hS hl
  exact lv_ifnull C.1 C.2.1 hd (k p l e s m args below meth c lo D cy H locs ls C hw hz hS hl)
theorem v_ifnonnull {x : Nat} {off : Int} {tgt : Nat} (hd : decode mi.2.1 pc = .ok (.ifnonnull off, 3)) (ht : (pc : Int) + off = (tgt : Int)) (k : V mi d mc ms Po w sz cells slots L (stk) (tgt)) : V mi d mc ms Po w sz cells slots L (.ref x :: stk) (pc) := by
  intro p l e s m args below meth c lo D cy H locs ls C hw hz hS hl
  exact lv_ifnonnull C.1 C.2.1 hd ht (k p l e s m args below meth c lo D cy H locs ls C hw hz hS hl)
theorem v_ifnullN {off : Int} {tgt : Nat} (hd : decode mi.2.1 pc = .ok (.ifnull off, 3)) (ht : (pc : Int) + off = (tgt : Int)) (k : V mi d mc ms Po w sz cells slots L (stk) (tgt)) : V mi d mc ms Po w sz cells slots L (.null :: stk) (pc) := by
  intro p l e s m args below meth c lo D cy H locs ls C hw hz hS hl
  exact lv_ifnullN C.1 C.2.1 hd ht (k p l e s m args below meth c lo D cy H locs ls C hw hz hS hl)
theorem v_ifnonnullN {off : Int} (hd : decode mi.2.1 pc = .ok (.ifnonnull off, 3)) (k : V mi d mc ms Po w sz cells slots L (stk) (pc + 3)) : V mi d mc ms Po w sz cells slots L (.null :: stk) (pc) := by
  intro p l e s m args below meth c lo D cy H locs ls C hw hz hS hl
  exact lv_ifnonnullN C.1 C.2.1 hd (k p l e s m args below meth c lo D cy H locs ls C hw hz hS hl)
theorem v_acmp_eq {rx ry : Option Nat} {off : Int} {tgt : Nat} (hd : decode mi.2.1 pc = .ok (.if_acmp .eq off, 3)) (ht : (pc : Int) + off = (tgt : Int)) (kt : rx = ry → V mi d mc ms Po w sz cells slots L (stk) (tgt)) (kf : ¬ rx = ry → V mi d mc ms Po w sz cells slots L (stk) (pc + 3)) : V mi d mc ms Po w sz cells slots L (va_rf ry :: va_rf rx :: stk) (pc) := by
  intro p l e s m args below meth c lo D cy H locs ls C hw hz hS hl
  exact lv_acmp_eq C.1 C.2.1 hd ht (fun z => kt z p l e s m args below meth c lo D cy H locs ls C hw hz hS hl) (fun z => kf z p l e s m args below meth c lo D cy H locs ls C hw hz hS hl)
theorem v_acmp_ne {rx ry : Option Nat} {off : Int} {tgt : Nat} (hd : decode mi.2.1 pc = .ok (.if_acmp .ne off, 3)) (ht : (pc : Int) + off = (tgt : Int)) (kt : ¬ rx = ry → V mi d mc ms Po w sz cells slots L (stk) (tgt)) (kf : rx = ry → V mi d mc ms Po w sz cells slots L (stk) (pc + 3)) : V mi d mc ms Po w sz cells slots L (va_rf ry :: va_rf rx :: stk) (pc) := by
  intro p l e s m args below meth c lo D cy H locs ls C hw hz hS hl
  exact lv_acmp_ne C.1 C.2.1 hd ht (fun z => kt z p l e s m args below meth c lo D cy H locs ls C hw hz hS hl) (fun z => kf z p l e s m args below meth c lo D cy H locs ls C hw hz hS hl)
theorem v_tableIn {dflt lo hi : Int} {offs : Array Int} {len : Nat} {x : Int32} {off : Int} {tgt : Nat} (hd : decode mi.2.1 pc = .ok (.tableswitch dflt lo hi offs, len)) (h1 : ¬ x.toInt < lo) (h2 : ¬ hi < x.toInt) (ho : offs[(x.toInt - lo).toNat]? = some off) (ht : (pc : Int) + off = (tgt : Int)) (k : V mi d mc ms Po w sz cells slots L (stk) (tgt)) : V mi d mc ms Po w sz cells slots L (.int x :: stk) (pc) := by
  intro p l e s m args below meth c lo' D cy H locs ls C hw hz hS hl
  exact lv_tableIn C.1 C.2.1 hd h1 h2 ho ht (k p l e s m args below meth c lo' D cy H locs ls C hw hz hS hl)
theorem v_tableOut {dflt lo hi : Int} {offs : Array Int} {len : Nat} {x : Int32} {tgt : Nat} (hd : decode mi.2.1 pc = .ok (.tableswitch dflt lo hi offs, len)) (h : x.toInt < lo ∨ hi < x.toInt) (ht : (pc : Int) + dflt = (tgt : Int)) (k : V mi d mc ms Po w sz cells slots L (stk) (tgt)) : V mi d mc ms Po w sz cells slots L (.int x :: stk) (pc) := by
  intro p l e s m args below meth c lo' D cy H locs ls C hw hz hS hl
  exact lv_tableOut C.1 C.2.1 hd h ht (k p l e s m args below meth c lo' D cy H locs ls C hw hz hS hl)
theorem v_iret {x : Int32} (hd : decode mi.2.1 pc = .ok (.ireturn, 1)) (hr : mi.2.2.2 = some .int) (hc : cells ≤ mc) (hs : slots ≤ ms) (h : Po (some (.int x)) w sz) : V mi d mc ms Po w sz cells slots L ([.int x]) (pc) := by
  intro p l e s m args below meth c lo D cy H locs ls C hw hz hS hl
  refine W.widen hc hs ?_
  exact W.iret C.1 C.2.1 (C.2.2.1.trans hr) (fun t ht hW => ⟨_, w, rfl, by rw [ht]; exact hw, by rw [ht, hz]; exact h, hS.F ht⟩) hS.2.2 hd (hlocks := C.2.2.2.2.2.2.1)
theorem v_zret {x : Int32} (hd : decode mi.2.1 pc = .ok (.ireturn, 1)) (hr : mi.2.2.2 = some .boolean) (hn : narrow .boolean (.int x) = .int x) (hc : cells ≤ mc) (hs : slots ≤ ms) (h : Po (some (.int x)) w sz) : V mi d mc ms Po w sz cells slots L ([.int x]) (pc) := by
  intro p l e s m args below meth c lo D cy H locs ls C hw hz hS hl
  refine W.widen hc hs ?_
  exact W.zret C.1 C.2.1 (C.2.2.1.trans hr) hn (fun t ht hW => ⟨_, w, rfl, by rw [ht]; exact hw, by rw [ht, hz]; exact h, hS.F ht⟩) hS.2.2 hd (hlocks := C.2.2.2.2.2.2.1)
theorem v_ret (hd : decode mi.2.1 pc = .ok (.return_, 1)) (hr : mi.2.2.2 = none) (hc : cells ≤ mc) (hs : slots ≤ ms) (h : Po none w sz) : V mi d mc ms Po w sz cells slots L ([]) (pc) := by
  intro p l e s m args below meth c lo D cy H locs ls C hw hz hS hl
  refine W.widen hc hs ?_
  exact W.vret C.1 C.2.1 (C.2.2.1.trans hr) (fun t ht hW => ⟨_, w, rfl, by rw [ht]; exact hw, by rw [ht, hz]; exact h, hS.F ht⟩) hS.2.2 hd (hlocks := C.2.2.2.2.2.2.1)
theorem v_aret {v : Value} {n : String} (hd : decode mi.2.1 pc = .ok (.areturn, 1)) (hr : mi.2.2.2 = some (.object n)) (hv : v = .null ∨ ∃ a, v = .ref a) (hc : cells ≤ mc) (hs : slots ≤ ms) (h : Po (some v) w sz) : V mi d mc ms Po w sz cells slots L ([v]) (pc) := by
  intro p l e s m args below meth c lo D cy H locs ls C hw hz hS hl
  refine W.widen hc hs ?_
  exact W.aret C.1 C.2.1 (C.2.2.1.trans hr) (Or.inl ⟨n, rfl⟩) hv (fun t ht hW => ⟨_, w, rfl, by rw [ht]; exact hw, by rw [ht, hz]; exact h, hS.F ht⟩) hS.2.2 hd (hlocks := C.2.2.2.2.2.2.1)
end VR
end
section
section VC0
variable {p : Program} {l : Launch} {e : Env} {R : Room} {s : State} {m : MethodId} {args : Array Value} {below : List Frame} {meth : Method} {c : Code} {H : Heap} {locs : List Loc} {cells slots : Nat} {Q : State → Prop} {D : va_G} {cl : List vw_C} {tys : List (ClassId × FieldType)} {pc : Nat} {ls : Array Slot} {rest : List Value}
theorem v_copy0 {cc : ByteArray} {a : Nat} (hexec : p.tables.exec = Jvm.exec) (hb : c.code = cc) (hml : c.maxLocals = ls.size) {own : String} {index : Nat} (hown : s.vm.findClass own = some m.cls) (hlink : (Cond.methodLink own index arraycopyName).before args s = true) (hnat : (Cond.native arraycopyName).before args s = true) (hstat : (Cond.static arraycopyName).before args s = true) (hini : (Cond.initialized "java/lang/System").before args s = true)
    (hK : va_K D cl tys s) {a0 : Nat} {c0 : ClassId} {t0 : Nat} {n0 n1 : Nat} {f g : Nat → Int32} {ty : FieldType} (hP0 : va_P D cl [(a0, .inl (c0, n0, .inl f))] H) (hP1 : va_P D cl [(a, .inl (c0, n1, .inl g))] H) (ht0 : tys[t0]? = some (c0, ty)) (hprim : refKind ty = false)
    {sp dp n : Int32} (h1 : ¬ sp < 0) (h2 : ¬ dp < 0) (h3 : ¬ n < 0) (h4 : sp.toNatClampNeg + n.toNatClampNeg ≤ n0) (h5 : dp.toNatClampNeg + n.toNatClampNeg ≤ n1) (hfit : ∀ i, i < n.toNatClampNeg → fits ty (.int (f (sp.toNatClampNeg + i))) = true)
    (hframes : 1 ≤ R.frames) (hlocals : (rest.map fun v => v.category).sum + (nativeFrameWords "java/lang/System" "arraycopy" 5 + 11) ≤ R.locals) (hdg : decode cc pc = .ok (.invokestatic index, 3))
    (kk : ∀ (H1 : Heap) (L : List Loc), H1[a]? = some (vp_cell c0 (n1, .inl (va_cpy f g sp.toNatClampNeg dp.toNatClampNeg n.toNatClampNeg))) → H1.size = H.size → (∀ q : Nat, q ≠ a → H1[q]? = H[q]?) → (∀ x ∈ L, x.base = a) → W p l e R s m args below meth c H1 (locs ++ L) cells slots Q (F0 m (pc + 3) ls rest)) : W p l e R s m args below meth c H locs cells slots Q (F0 m pc ls (.int n :: .int dp :: .ref a :: .int sp :: .ref a0 :: rest)) := by
  have nn : ∀ z : Int32, ¬ z < 0 → z.toInt = (z.toNatClampNeg : Int) := by
    intro z hz
    have hz0 : (0 : Int) ≤ z.toInt := by
      have := Int32.not_lt.mp hz
      simpa using Int32.le_iff_toInt_le.mp this
    show z.toInt = ((z.toInt.toNat : Nat) : Int)
    omega
  intro T hT X
  have hc0 : H[a0]? = some (vp_cell c0 (n0, .inl f)) := hP0 0 _ rfl
  have hc1 : H[a]? = some (vp_cell c0 (n1, .inl g)) := hP1 0 _ rfl
  obtain ⟨-, k0, hk0, cm0, hkk0⟩ := (hK.2 t0 _ ht0).1 n0 (fun j => .int (f j))
  obtain ⟨-, k1, hk1, cm1, hkk1⟩ := (hK.2 t0 _ ht0).1 n1 (fun j => .int (g j))
  obtain ⟨vm', X', step⟩ := X.arraycopy hexec hown hlink hnat hstat hini (src := a0) (dst := a) (cs := vp_cell c0 (n0, .inl f)) (cd := vp_cell c0 (n1, .inl g)) (srcPos := sp) (destPos := dp) (n := n) (by rw [hT]; exact hc0) (by rw [hT]; exact hc1)
    (fun _ h => by cases h) (fun _ h => by cases h) (fun h => by cases h) (fun h => by cases h) hk0 hk1 hkk0 hkk1 (by simp [hprim]) h1 h2 h3
    (by rw [nn sp h1, nn n h3]; show ¬ _ > ((arrV c0 n0 (fun j => .int (f j))).slots.size : Int); rw [arrV_size]; omega)
    (by rw [nn dp h2, nn n h3]; show ¬ _ > ((arrV c0 n1 (fun j => .int (g j))).slots.size : Int); rw [arrV_size]; omega)
    (fun vm₁ _ i hi => by
      have e : (vp_cell c0 (n0, .inl f)).slots.getD (sp.toNatClampNeg + i) .null = .int (f (sp.toNatClampNeg + i)) := by
        show (arrV c0 n0 (fun j => .int (f j))).slots.getD _ _ = _
        rw [Array.getD_eq_getD_getElem?, arrV_read _ _ (by omega)]
        rfl
      refine ⟨?_, ?_⟩
      · rw [e]
        exact hfit i hi
      · rw [e]
        exact trivial)
    (g := F0 m pc ls (.int n :: .int dp :: .ref a :: .int sp :: .ref a0 :: rest)) rfl (by rw [hml]) (rest := rest) rfl (by rw [hb]; exact hdg) hframes (by show 2 * 0 + _ + _ ≤ _; omega)
  have e1 : copied (vp_cell c0 (n0, .inl f)) (vp_cell c0 (n1, .inl g)) sp dp n = vp_cell c0 (n1, .inl (va_cpy f g sp.toNatClampNeg dp.toNatClampNeg n.toNatClampNeg)) := va_copied (fun z => .int z) c0 c0 f g h4
  rw [e1] at X' step
  have hl : a < H.size := (Array.getElem?_eq_some_iff.mp hc1).1
  have hheap : ((T.setVm vm').setCell a (vp_cell c0 (n1, .inl (va_cpy f g sp.toNatClampNeg dp.toNatClampNeg n.toNatClampNeg)))).heap = H.setIfInBounds a (vp_cell c0 (n1, .inl (va_cpy f g sp.toNatClampNeg dp.toNatClampNeg n.toNatClampNeg))) := by rw [← hT]; rfl
  have oq : ∀ q : Nat, q ≠ a → (H.setIfInBounds a (vp_cell c0 (n1, .inl (va_cpy f g sp.toNatClampNeg dp.toNatClampNeg n.toNatClampNeg))))[q]? = H[q]? := fun q hq => by simp [Array.getElem?_setIfInBounds, Ne.symm hq]
  obtain ⟨t, a1, b1⟩ := kk _ _ (show (H.setIfInBounds a _)[a]? = some _ by simp [Array.getElem?_setIfInBounds, hl]) (by simp) oq (fun q hq => by
      obtain ⟨z, -, hz⟩ := List.mem_map.mp hq
      rw [← hz]) _ hheap X'
  exact ⟨t, step t a1, b1⟩
end VC0
/-- what the tables say of a class's fields: by the place of the class in vwCl -/
def FT (ci : Nat) (C : String) (T : u_T) (N : Nat) (ty : Nat → FieldType) : Prop := vwCl[ci]? = some (C, T, N) ∧ (∀ w ∈ u_ws C T N, w ∈ lw_tb) ∧ (∀ k, k < N → parseFieldDescriptor (T k).2.2.1 = some (ty k)) ∧ (∀ a, a < N → ∀ b, b < N → a ≠ b → (T a).2.1 ≠ (T b).2.1)
theorem FT.ts {ci : Nat} {C : String} {T : u_T} {N : Nat} {ty : Nat → FieldType} (h : FT ci C T N ty) (mi : MI) : ∀ w ∈ u_ws C T N, w ∈ miWs mi := fun w hw => List.mem_cons_of_mem _ (h.2.1 w hw)
theorem tys5_at (cy : Nat → ClassId) {t : Nat} (h : t < 5) : (tys5 cy)[t]? = some (cy t, tyA t) := by
  match t, h with
  | 0, _ => rfl
  | 1, _ => rfl
  | 2, _ => rfl
  | 3, _ => rfl
  | 4, _ => rfl
theorem hW.ob {D : va_G} {cy : Nat → ClassId} {lo q ci : Nat} {w : Wd} {fs : List Value} {H : Heap} (h : hW D cy lo w H) (hq : w q = some (ob ci fs)) : va_P D vwCl [(q, .inr (ci, fs))] H := h.P hq
theorem hW.ia {D : va_G} {cy : Nat → ClassId} {lo q t n : Nat} {w : Wd} {f : Nat → Int32} {H : Heap} (h : hW D cy lo w H) (hq : w q = some (ia t n f)) : va_P D vwCl [(q, .inl (cy t, n, .inl f))] H := h.P hq
theorem hW.ra {D : va_G} {cy : Nat → ClassId} {lo q t n : Nat} {w : Wd} {f : Nat → Option Nat} {H : Heap} (h : hW D cy lo w H) (hq : w q = some (ra t n f)) : va_P D vwCl [(q, .inl (cy t, n, .inr (.inr (.inr (.inr f)))))] H := h.P hq
theorem inR {k n : Nat} (h : k < n) (hn : n ≤ 2147483647) : vp_in (nI k) n := nI_in h (by omega)
theorem upS {lo a : Nat} {H0 H H1 : Heap} {locs L : List Loc} (hS : va_S (fun q => lo ≤ q) H0 H locs) (ha : lo ≤ a) (z : H1.size = H.size) (oq : ∀ q : Nat, q ≠ a → H1[q]? = H[q]?) (hL : ∀ x ∈ L, x.base = a) : va_S (fun q => lo ≤ q) H0 H1 (locs ++ L) :=
  ⟨by rw [z]; exact hS.1, fun q h1 h2 => by rw [oq q (fun e => h2 (by rw [e]; exact ha))]; exact hS.2.1 q h1 h2, fun x hx => by
    rcases List.mem_append.mp hx with h | h
    · exact hS.2.2 x h
    · rw [hL x h]; exact ha⟩
section VH
variable {mi : MI} {d mc ms : Nat} {Po : Option Value → Wd → Nat → Prop} {w : Wd} {sz cells slots : Nat} {L : List (Option Value)} {stk : List Value} {pc : Nat} {a : Nat}
variable {ci : Nat} {C0 : String} {T : u_T} {N : Nat} {ty : Nat → FieldType}

theorem v_get {idx : Nat} {fs : List Value} {v : Value} (k : Nat) (hd : decode mi.2.1 pc = .ok (.getfield idx, 3)) (hF : FT ci C0 T N ty) (hk : k < N) (ho : (T k).1 = C0) (hlink : Cond.fieldLink mi.1.cls idx C0 (T k).2.1 (T k).2.2.1 ∈ lw_tb) (ha : w a = some (ob ci fs)) (hv : fs[k]? = some v) (kk : V mi d mc ms Po (w) (sz) (cells) (slots) L (v :: stk) (pc + 3)) : V mi d mc ms Po (w) (sz) (cells) (slots) L (.ref a :: stk) (pc) := by
  intro p l e s m args below meth c lo D cy H locs ls C hw hz hS hl
  exact va_get C.1 C.2.1 C.2.2.2.2.2.1 (hF.ts mi) C.2.2.2.2.1 C.2.2.2.2.2.2.2.1.1 (hw.ob ha) 0 rfl hF.1 k hk (C.2.2.2.2.2.1 _ (List.mem_cons_of_mem _ hlink)) (fun x hx => by rw [← ho]; exact hx) hv hd (kk p l e s m args below meth c lo D cy H locs ls C hw hz hS hl)
theorem v_put {idx : Nat} {fs : List Value} {v : Value} (k : Nat) (hd : decode mi.2.1 pc = .ok (.putfield idx, 3)) (hF : FT ci C0 T N ty) (hk : k < N) (ho : (T k).1 = C0) (hlink : Cond.fieldLink mi.1.cls idx C0 (T k).2.1 (T k).2.2.1 ∈ lw_tb) (ha : w a = some (ob ci fs)) (hn : narrow (ty k) v = v) (hfit : fits (ty k) v = true) (hl0 : k < fs.length) (hfin : (T k).2.2.2 = false) (kk : V mi d mc ms Po (wu w a (ob ci (fs.set k v))) (sz) (cells) (slots) L (stk) (pc + 3)) : V mi d mc ms Po (w) (sz) (cells) (slots) L (v :: .ref a :: stk) (pc) := by
  intro p l e s m args below meth c lo D cy H locs ls C hw hz hS hl
  have hts := C.2.2.2.2.2.1
  have hown := C.2.2.2.2.1
  have hK := C.2.2.2.2.2.2.2.1.1
  have hap := va_apart (own := mi.1.cls) hts (hF.ts mi) ty hF.2.2.1 hF.2.2.2 hK hF.1
  obtain ⟨hlo, r, h1, cell, q1, q2, q3, q4⟩ := hw a _ ha
  have hr : r = (C0, T, N) := Option.some.inj (h1.symm.trans hF.1)
  subst hr
  obtain ⟨hSl, hfc, kC, hkC, hkind⟩ := hK.1 ci _ hF.1
  obtain ⟨cf, kf, fi, f, hi, hsl⟩ := hSl k hk
  have hlay := hts _ (hF.ts mi _ (u_in_lay hk))
  unfold u_lay at hlay
  rw [if_neg (by rw [hfin]; decide)] at hlay
  have hst := (u_facts hfc hkC (u_lays hts (hF.ts mi) hk) hi).1
  have h6 := u_store hfc hkC hkind hlay hi (hF.2.2.1 k hk) hn hfit
  refine W.putK C.1 C.2.1 (f := f) ⟨hown, hts _ (List.mem_cons_of_mem _ hlink), ⟨_, _, _, by rw [← ho]; exact hi⟩, hst⟩ (by rw [q2]; exact h6) q1 q3 (by rw [hsl]; exact k2_hasslot (q4 k hk)) rfl rfl hd fun H' e1 e2 e3 => ?_
  rw [hsl] at e1 ⊢
  exact kk p l e s m args below meth c lo D cy H' _ ls C (hw.put hlo ⟨_, hF.1, t_OB.to (V := updV (vp_V fs) k v) ⟨_, e1, q2, q3, t_set q4 hap hk v⟩ (fun j _ => vp_updV_set hl0 v j)⟩ e3) (by rw [e2]; exact hz) (upS hS hlo e2 e3 (fun x hx => by rw [List.mem_singleton] at hx; rw [hx])) hl
theorem v_putF {idx : Nat} {fs : List Value} {v : Value} (k : Nat) (hd : decode mi.2.1 pc = .ok (.putfield idx, 3)) (hF : FT ci C0 T N ty) (hk : k < N) (ho : (T k).1 = C0) (hlink : Cond.fieldLink mi.1.cls idx C0 (T k).2.1 (T k).2.2.1 ∈ lw_tb) (ha : w a = some (ob ci fs)) (hn : narrow (ty k) v = v) (hfit : fits (ty k) v = true) (hl0 : k < fs.length) (hfin : (T k).2.2.2 = true) (hin2 : mi.1.name = "<init>") (hdecl : (T k).1 = mi.1.cls) (kk : V mi d mc ms Po (wu w a (ob ci (fs.set k v))) (sz) (cells) (slots) L (stk) (pc + 3)) : V mi d mc ms Po (w) (sz) (cells) (slots) L (v :: .ref a :: stk) (pc) := by
  intro p l e s m args below meth c lo D cy H locs ls C hw hz hS hl
  have hts := C.2.2.2.2.2.1
  have hown := C.2.2.2.2.1
  have hK := C.2.2.2.2.2.2.2.1.1
  have hap := va_apart (own := mi.1.cls) hts (hF.ts mi) ty hF.2.2.1 hF.2.2.2 hK hF.1
  obtain ⟨hlo, r, h1, cell, q1, q2, q3, q4⟩ := hw a _ ha
  have hr : r = (C0, T, N) := Option.some.inj (h1.symm.trans hF.1)
  subst hr
  obtain ⟨hSl, hfc, kC, hkC, hkind⟩ := hK.1 ci _ hF.1
  obtain ⟨cf, kf, fi, f, hi, hsl⟩ := hSl k hk
  have hlay := hts _ (hF.ts mi _ (u_in_lay hk))
  unfold u_lay at hlay
  rw [if_pos hfin] at hlay
  have hst := (u_facts hfc hkC (u_lays hts (hF.ts mi) hk) hi).1
  have hcf : m.cls = cf := by
    obtain ⟨_, _, c', _, _, _, -, -, hf', -, -, -, hown2, -⟩ := Cond.laysFinal_spec hlay
    have e1 : c' = cf := by have := hi.symm.trans hf'; simp at this; exact this.1.symm
    rw [hdecl] at hown2
    rw [← e1]; exact Option.some.inj (hown.symm.trans hown2)
  have h6 := u_fits hfc hkC hkind (Or.inr hlay) hi (hF.2.2.1 k hk) hn hfit
  refine W.putFinK C.1 C.2.1 hown (hts _ (List.mem_cons_of_mem _ hlink)) (by rw [← ho]; exact hi) hst hcf (C.2.2.2.2.2.2.2.2.2.trans hin2) (by rw [q2]; exact h6) q1 q3 (by rw [hsl]; exact k2_hasslot (q4 k hk)) rfl rfl hd fun H' e1 e2 e3 => ?_
  rw [hsl] at e1 ⊢
  exact kk p l e s m args below meth c lo D cy H' _ ls C (hw.put hlo ⟨_, hF.1, t_OB.to (V := updV (vp_V fs) k v) ⟨_, e1, q2, q3, t_set q4 hap hk v⟩ (fun j _ => vp_updV_set hl0 v j)⟩ e3) (by rw [e2]; exact hz) (upS hS hlo e2 e3 (fun x hx => by rw [List.mem_singleton] at hx; rw [hx])) hl
theorem v_iald {n : Nat} {f : Nat → Int32} {i : Int32} (j : Nat) (hd : decode mi.2.1 pc = .ok (.iaload, 1)) (ha : w a = some (ia 1 n f)) (hj : i = nI j) (hjn : j < n) (hn : n ≤ 2147483647) (kk : V mi d mc ms Po (w) (sz) (cells) (slots) L (.int (f j) :: stk) (pc + 1)) : V mi d mc ms Po (w) (sz) (cells) (slots) L (.int i :: .ref a :: stk) (pc) := by
  intro p l e s m args below meth c lo D cy H locs ls C hw hz hS hl
  subst hj
  refine va_iald C.1 C.2.1 C.2.2.2.2.2.2.2.1.1 (hw.ia ha) 0 1 rfl (tys5_at cy (by decide)) (inR hjn hn) hd ?_
  rw [nI_clamp (by omega)]
  exact kk p l e s m args below meth c lo D cy H locs ls C hw hz hS hl
theorem v_cald {n : Nat} {f : Nat → Int32} {i : Int32} (j : Nat) (hd : decode mi.2.1 pc = .ok (.caload, 1)) (ha : w a = some (ia 0 n f)) (hj : i = nI j) (hjn : j < n) (hn : n ≤ 2147483647) (kk : V mi d mc ms Po (w) (sz) (cells) (slots) L (.int (f j) :: stk) (pc + 1)) : V mi d mc ms Po (w) (sz) (cells) (slots) L (.int i :: .ref a :: stk) (pc) := by
  intro p l e s m args below meth c lo D cy H locs ls C hw hz hS hl
  subst hj
  refine va_cald C.1 C.2.1 C.2.2.2.2.2.2.2.1.1 (hw.ia ha) 0 0 rfl (tys5_at cy (by decide)) (inR hjn hn) hd ?_
  rw [nI_clamp (by omega)]
  exact kk p l e s m args below meth c lo D cy H locs ls C hw hz hS hl
theorem v_aald {n t : Nat} {f : Nat → Option Nat} {i : Int32} {b : Nat} (j : Nat) (ht : t = 2 ∨ t = 3 ∨ t = 4) (hd : decode mi.2.1 pc = .ok (.aaload, 1)) (ha : w a = some (ra t n f)) (hj : i = nI j) (hjn : j < n) (hn : n ≤ 2147483647) (hf : f j = some b) (kk : V mi d mc ms Po (w) (sz) (cells) (slots) L (.ref b :: stk) (pc + 1)) : V mi d mc ms Po (w) (sz) (cells) (slots) L (.int i :: .ref a :: stk) (pc) := by
  intro p l e s m args below meth c lo D cy H locs ls C hw hz hS hl
  subst hj
  have key : W p l e (rmd d mc ms) s m args below meth c H locs cells slots (MQ below (Qd Po D cy lo) args s mc ms (fun q => lo ≤ q)) (F0 m (pc + 1) ls (va_rf (f (nI j).toNatClampNeg) :: stk)) := by
    rw [nI_clamp (by omega), hf]
    exact kk p l e s m args below meth c lo D cy H locs ls C hw hz hS hl
  rcases ht with rfl | rfl | rfl
  · exact va_aldq C.1 C.2.1 C.2.2.2.2.2.2.2.1.1 (hw.ra ha) 0 2 rfl (tys5_at cy (by decide)) (inR hjn hn) hd key
  · exact va_aldq C.1 C.2.1 C.2.2.2.2.2.2.2.1.1 (hw.ra ha) 0 3 rfl (tys5_at cy (by decide)) (inR hjn hn) hd key
  · exact va_aldq C.1 C.2.1 C.2.2.2.2.2.2.2.1.1 (hw.ra ha) 0 4 rfl (tys5_at cy (by decide)) (inR hjn hn) hd key
theorem v_iast {n : Nat} {f : Nat → Int32} {i x : Int32} (j : Nat) (hd : decode mi.2.1 pc = .ok (.iastore, 1)) (ha : w a = some (ia 1 n f)) (hj : i = nI j) (hjn : j < n) (hn : n ≤ 2147483647) (kk : V mi d mc ms Po (wu w a (ia 1 n (upd f j (x)))) (sz) (cells) (slots) L (stk) (pc + 1)) : V mi d mc ms Po (w) (sz) (cells) (slots) L (.int x :: .int i :: .ref a :: stk) (pc) := by
  intro p l e s m args below meth c lo D cy H locs ls C hw hz hS hl
  subst hj
  have hlo := (hw a _ ha).1
  have hat : H[a]? = some (vp_cell (cy 1) (n, .inl f)) := (hw a _ ha).2
  refine W.iast C.1 C.2.1 hat (((C.2.2.2.2.2.2.2.1.1).2 1 _ (tys5_at cy (by decide))).1 n (fun j => .int (f j))) (fun q => by cases q) (by show ¬ (_ < 0 ∨ (arrV _ _ _).slots.size ≤ _); rw [arrV_size]; exact inR hjn hn) rfl rfl hd fun H1 e1 z oq => ?_
  refine kk p l e s m args below meth c lo D cy H1 _ ls C (hw.put hlo ?_ oq) (by rw [z]; exact hz) (upS hS hlo z oq (fun x hx => by rw [List.mem_singleton] at hx; rw [hx])) hl
  show H1[a]? = some (vp_cell (cy 1) (n, .inl (upd f j (x))))
  rw [e1]
  rw [vp_cell_i, vp_cell_i, arrV_store, nI_clamp (by omega)]
  congr 2
  funext q
  by_cases hq : q = j
  · subst hq
    simp [updV, upd, vp_nar]
    try rfl
  · simp [updV, upd, hq]
theorem v_cast {n : Nat} {f : Nat → Int32} {i x : Int32} (j : Nat) (hd : decode mi.2.1 pc = .ok (.castore, 1)) (ha : w a = some (ia 0 n f)) (hj : i = nI j) (hjn : j < n) (hn : n ≤ 2147483647) (kk : V mi d mc ms Po (wu w a (ia 0 n (upd f j (vp_nar .char x)))) (sz) (cells) (slots) L (stk) (pc + 1)) : V mi d mc ms Po (w) (sz) (cells) (slots) L (.int x :: .int i :: .ref a :: stk) (pc) := by
  intro p l e s m args below meth c lo D cy H locs ls C hw hz hS hl
  subst hj
  have hlo := (hw a _ ha).1
  have hat : H[a]? = some (vp_cell (cy 0) (n, .inl f)) := (hw a _ ha).2
  refine W.cast C.1 C.2.1 hat (((C.2.2.2.2.2.2.2.1.1).2 0 _ (tys5_at cy (by decide))).1 n (fun j => .int (f j))) (fun q => by cases q) (by show ¬ (_ < 0 ∨ (arrV _ _ _).slots.size ≤ _); rw [arrV_size]; exact inR hjn hn) rfl rfl hd fun H1 e1 z oq => ?_
  refine kk p l e s m args below meth c lo D cy H1 _ ls C (hw.put hlo ?_ oq) (by rw [z]; exact hz) (upS hS hlo z oq (fun x hx => by rw [List.mem_singleton] at hx; rw [hx])) hl
  show H1[a]? = some (vp_cell (cy 0) (n, .inl (upd f j (vp_nar .char x))))
  rw [e1]
  rw [vp_cell_i, vp_cell_i, arrV_store, nI_clamp (by omega)]
  congr 2
  funext q
  by_cases hq : q = j
  · subst hq
    simp [updV, upd, vp_nar]
    try rfl
  · simp [updV, upd, hq]
theorem v_aast {n t : Nat} {f : Nat → Option Nat} {i : Int32} {b : Nat} {fs : List Value} (j : Nat) (ht : (t = 2 ∧ ci = 1) ∨ (t = 3 ∧ ci = 2) ∨ (t = 4 ∧ ci = 4)) (hd : decode mi.2.1 pc = .ok (.aastore, 1)) (ha : w a = some (ra t n f)) (hb : w b = some (ob ci fs)) (hj : i = nI j) (hjn : j < n) (hn : n ≤ 2147483647) (kk : V mi d mc ms Po (wu w a (ra t n (va_up f j (some b)))) (sz) (cells) (slots) L (stk) (pc + 1)) : V mi d mc ms Po (w) (sz) (cells) (slots) L (.ref b :: .int i :: .ref a :: stk) (pc) := by
  intro p l e s m args below meth c lo D cy H locs ls C hw hz hS hl
  subst hj
  have hlo := (hw a _ ha).1
  have hK := C.2.2.2.2.2.2.2.1.1
  have hat : H[a]? = some (vp_cell (cy t) (n, .inr (.inr (.inr (.inr f))))) := (hw a _ ha).2
  have h0 : ¬ nI j < 0 := nI_pos (by omega)
  obtain ⟨-, r', hr', cellV, g1, g2, g3, -⟩ := hw b _ hb
  have hty : ∃ r : vw_C, vwCl[ci]? = some r ∧ tyA t = .object r.1 ∧ t < 5 := by
    rcases ht with ⟨rfl, rfl⟩ | ⟨rfl, rfl⟩ | ⟨rfl, rfl⟩
    · exact ⟨_, rfl, rfl, by decide⟩
    · exact ⟨_, rfl, rfl, by decide⟩
    · exact ⟨_, rfl, rfl, by decide⟩
  obtain ⟨r, hc, htA, ht5⟩ := hty
  have hcls := (hK.1 ci r hc).2
  have hRA := (hK.2 t _ (tys5_at cy ht5)).2
  rw [htA] at hRA
  obtain ⟨kA, comp, k1, k2, k3, -⟩ := hRA
  have hcomp : comp = D.1 ci := Option.some.inj (k3.symm.trans hcls.1)
  subst hcomp
  obtain ⟨kC, hkC, -⟩ := hcls.2
  refine W.aast C.1 C.2.1 hat (fun q h => by cases h) (fun h => by cases h) k1 k2 rfl hkC ⟨h0, by show _ < (arrV _ _ _).slots.size; rw [arrV_size, nI_clamp (by omega)]; exact hjn⟩ g1 (fun q h => by rw [g3] at h; cases h) (by rw [g2]; exact hkC) (by rw [g2]; exact va_assign hcls) rfl rfl hd fun H1 e1 z oq => ?_
  refine kk p l e s m args below meth c lo D cy H1 _ ls C (hw.put hlo ?_ oq) (by rw [z]; exact hz) (upS hS hlo z oq (fun x hx => by rw [List.mem_singleton] at hx; rw [hx])) hl
  show H1[a]? = some (vp_cell _ (n, _))
  rw [e1]
  rw [vp_cell_q, vp_cell_q, arrV_store, nI_clamp (by omega)]
  congr 2
  funext q
  by_cases hq : q = j
  · subst hq
    simp [updV, va_up, va_rf]
  · simp [updV, va_up, hq]
theorem v_alenI {n t : Nat} {f : Nat → Int32} (ht : t < 5) (hd : decode mi.2.1 pc = .ok (.arraylength, 1)) (ha : w a = some (ia t n f)) (kk : V mi d mc ms Po (w) (sz) (cells) (slots) L (.int (nI n) :: stk) (pc + 1)) : V mi d mc ms Po (w) (sz) (cells) (slots) L (.ref a :: stk) (pc) := by
  intro p l e s m args below meth c lo D cy H locs ls C hw hz hS hl
  exact va_alen C.1 C.2.1 C.2.2.2.2.2.2.2.1.1 (hw.ia ha) 0 t rfl (tys5_at cy ht) rfl hd (kk p l e s m args below meth c lo D cy H locs ls C hw hz hS hl)
theorem v_alenR {n t : Nat} {f : Nat → Option Nat} (ht : t < 5) (hd : decode mi.2.1 pc = .ok (.arraylength, 1)) (ha : w a = some (ra t n f)) (kk : V mi d mc ms Po (w) (sz) (cells) (slots) L (.int (nI n) :: stk) (pc + 1)) : V mi d mc ms Po (w) (sz) (cells) (slots) L (.ref a :: stk) (pc) := by
  intro p l e s m args below meth c lo D cy H locs ls C hw hz hS hl
  exact va_alen C.1 C.2.1 C.2.2.2.2.2.2.2.1.1 (hw.ra ha) 0 t rfl (tys5_at cy ht) rfl hd (kk p l e s m args below meth c lo D cy H locs ls C hw hz hS hl)
theorem v_copy {n0 n1 t a0 idx n : Nat} {f g : Nat → Int32} (ht : t < 2) (hd : decode mi.2.1 pc = .ok (.invokestatic idx, 3)) (hlink : Cond.methodLink mi.1.cls idx arraycopyName ∈ lw_tb) (ha0 : w a0 = some (ia t n0 f)) (ha1 : w a = some (ia t n1 g)) (h4 : n ≤ n0) (h5 : n ≤ n1) (hn : n1 ≤ 2147483647) (hfit : ∀ i, i < n → fits (tyA t) (.int (f i)) = true) (hd1 : 1 ≤ d) (hst : (stk.map fun v => v.category).sum ≤ 4) (kk : V mi d mc ms Po (wu w a (ia t n1 (fun k => if k < n then f k else g k))) (sz) (cells) (slots) L (stk) (pc + 3)) : V mi d mc ms Po (w) (sz) (cells) (slots) L (.int (nI n) :: .int (nI 0) :: .ref a :: .int (nI 0) :: .ref a0 :: stk) (pc) := by
  intro p l e s m args below meth c lo D cy H locs ls C hw hz hS hl
  have hts := C.2.2.2.2.2.1
  have hK := C.2.2.2.2.2.2.2.1.1
  have hlo := (hw a _ ha1).1
  have hprim : refKind (tyA t) = false := by
    match t, ht with
    | 0, _ => rfl
    | 1, _ => rfl
  have e0 : (nI 0).toNatClampNeg = 0 := rfl
  have en : (nI n).toNatClampNeg = n := nI_clamp (by omega)
  refine v_copy0 C.1 C.2.1 (C.2.2.2.1.trans hl.1.1.symm) C.2.2.2.2.1 (hts _ (List.mem_cons_of_mem _ hlink)) (hts _ (List.mem_cons_of_mem _ (in_tb (by decide +kernel) rfl))) (hts _ (List.mem_cons_of_mem _ (in_tb (by decide +kernel) rfl))) (hts _ (List.mem_cons_of_mem _ (in_tb (by decide +kernel) rfl))) hK (hw.ia ha0) (hw.ia ha1) (tys5_at cy (Nat.lt_of_lt_of_le ht (by decide))) hprim (sp := nI 0) (dp := nI 0) (n := nI n) (by decide) (by decide) (nI_pos (by omega)) (by rw [e0, en]; omega) (by rw [e0, en]; omega) (by rw [e0, en]; intro i hi; rw [Nat.zero_add]; exact hfit i hi) hd1 ?_ hd fun H1 L1 e1 z oq hL1 => ?_
  · show _ ≤ 36 * d
    have : nativeFrameWords "java/lang/System" "arraycopy" 5 ≤ 20 := by decide +kernel
    omega
  · refine kk p l e s m args below meth c lo D cy H1 _ ls C (hw.put hlo ?_ oq) (by rw [z]; exact hz) (upS hS hlo z oq hL1) hl
    show H1[a]? = some (vp_cell (cy t) (n1, .inl (fun k => if k < n then f k else g k)))
    rw [e1, e0, en]
    congr 4
    funext k
    simp [va_cpy]
end VH
end
section
section VN
variable {mi : MI} {d mc ms : Nat} {Po : Option Value → Wd → Nat → Prop} {w : Wd} {sz cells slots : Nat} {L : List (Option Value)} {stk : List Value} {pc : Nat} {a : Nat}
variable {ci : Nat} {C0 : String} {T : u_T} {N : Nat} {ty : Nat → FieldType}
theorem newS {lo : Nat} {H0 H H1 : Heap} {locs : List Loc} (hS : va_S (fun q => lo ≤ q) H0 H locs) (z : H1.size = H.size + 1) (oq : ∀ q : Nat, q < H.size → H1[q]? = H[q]?) : va_S (fun q => lo ≤ q) H0 H1 locs :=
  ⟨by rw [z]; exact Nat.le_trans hS.1 (Nat.le_succ _), fun q h1 h2 => by rw [oq q (Nat.lt_of_lt_of_le h1 hS.1)]; exact hS.2.1 q h1 h2, hS.2.2⟩
theorem v_new {idx : Nat} {fs : List Value} (hd : decode mi.2.1 pc = .ok (.new idx, 3)) (hF : FT ci C0 T N ty) (hcl : Cond.classLink mi.1.cls idx C0 ∈ lw_tb) (hinst : Cond.instantiable C0 N ∈ lw_tb) (hini : Cond.initialized C0 ∈ lw_tb) (hfs : ∀ j, j < N → defaultValue (ty j) = vp_V fs j) (hc : cells + 1 ≤ mc) (hs : slots + N ≤ ms) (kk : V mi d mc ms Po (wu w sz (ob ci fs)) (sz + 1) (cells + 1) (slots + N) L (.ref sz :: stk) (pc + 3)) : V mi d mc ms Po (w) (sz) (cells) (slots) L (stk) (pc) := by
  intro p l e s m args below meth c lo D cy H locs ls C hw hz hS hl
  subst hz
  have hts := C.2.2.2.2.2.1
  have hK := C.2.2.2.2.2.2.2.1.1
  have hKn := hK.1 ci _ hF.1
  have hlo : lo ≤ H.size := Nat.le_trans C.2.2.2.2.2.2.2.2.1 hS.1
  refine W.newcK C.1 C.2.1 C.2.2.2.2.1 (hts _ (List.mem_cons_of_mem _ hcl)) (hts _ (List.mem_cons_of_mem _ hinst)) (hts _ (List.mem_cons_of_mem _ hini)) rfl hd hc hs hKn.2.1 rfl fun H1 kC hkC e1 z1 o1 => ?_
  exact kk p l e s m args below meth c lo D cy H1 locs ls C (hw.pu hlo ⟨_, hF.1, (u_born ty hts (hF.ts mi) hKn hkC e1 hF.2.2.1).to hfs⟩ o1) z1 (newS hS z1 o1) hl
theorem v_newarr {t : Nat} {atype : ArrayType} {n : Nat} (ht : t < 2) (hd : decode mi.2.1 pc = .ok (.newarray atype, 2)) (hty : newarray.typeOf atype = tyA t) (hn : n ≤ 100000) (hc : cells + 1 ≤ mc) (hs : slots + n ≤ ms) (kk : V mi d mc ms Po (wu w sz (ia t n (fun _ => 0))) (sz + 1) (cells + 1) (slots + n) L (.ref sz :: stk) (pc + 2)) : V mi d mc ms Po (w) (sz) (cells) (slots) L (.int (nI n) :: stk) (pc) := by
  intro p l e s m args below meth c lo D cy H locs ls C hw hz hS hl
  subst hz
  have hts := C.2.2.2.2.2.1
  have hK := C.2.2.2.2.2.2.2.1.1
  have hlo : lo ≤ H.size := Nat.le_trans C.2.2.2.2.2.2.2.2.1 hS.1
  have en : (nI n).toNatClampNeg = n := nI_clamp (by omega)
  have hcb : componentBytes (newarray.typeOf atype) ≤ 8 ∧ defaultValue (newarray.typeOf atype) = .int 0 ∧ Cond.arrayClass (newarray.typeOf atype) ∈ lw_tb ∧ (∀ (U : State) (cA : ClassId), va_RA U cA (newarray.typeOf atype) = (U.vm.findClass ("[" ++ (newarray.typeOf atype).toString) = some cA)) := by
    rw [hty]
    match t, ht with
    | 0, _ => exact ⟨by decide, rfl, in_tb (by decide +kernel) rfl, fun U cA => rfl⟩
    | 1, _ => exact ⟨by decide, rfl, in_tb (by decide +kernel) rfl, fun U cA => rfl⟩
  obtain ⟨hb8, hdf, har, hRA⟩ := hcb
  refine va_newaK C.1 C.2.1 (hts _ (List.mem_cons_of_mem _ har)) rfl hd rfl (N := n) (nI_pos (by omega)) en (by have := Nat.mul_le_mul_left n hb8; omega) hc hs rfl fun H1 cA e1 z1 o1 hAr hNm => ?_
  have hcA : cA = cy t := by
    have h1 := (hK.2 t _ (tys5_at cy (Nat.lt_of_lt_of_le ht (by decide)))).2
    rw [← hty, hRA] at h1
    exact Option.some.inj (hNm.symm.trans h1)
  subst hcA
  refine kk p l e s m args below meth c lo D cy H1 locs ls C (hw.pu hlo ?_ o1) z1 (newS hS z1 o1) hl
  show H1[H.size]? = some (vp_cell _ _)
  rw [e1, hdf, vp_cell_i]
theorem v_anew {t idx n : Nat} {C1 : String} (ht : (t = 2 ∧ C1 = "VotedLabels$Label") ∨ (t = 3 ∧ C1 = "VotedLabels$Rewrite") ∨ (t = 4 ∧ C1 = "VotedLabels$State")) (hd : decode mi.2.1 pc = .ok (.anewarray idx, 3)) (hcl : Cond.classLink mi.1.cls idx C1 ∈ lw_tb) (hn : n ≤ 100000) (hc : cells + 1 ≤ mc) (hs : slots + n ≤ ms) (kk : V mi d mc ms Po (wu w sz (ra t n (fun _ => none))) (sz + 1) (cells + 1) (slots + n) L (.ref sz :: stk) (pc + 3)) : V mi d mc ms Po (w) (sz) (cells) (slots) L (.int (nI n) :: stk) (pc) := by
  intro p l e s m args below meth c lo D cy H locs ls C hw hz hS hl
  subst hz
  have hts := C.2.2.2.2.2.1
  have hK := C.2.2.2.2.2.2.2.1.1
  have hlo : lo ≤ H.size := Nat.le_trans C.2.2.2.2.2.2.2.2.1 hS.1
  have en : (nI n).toNatClampNeg = n := nI_clamp (by omega)
  have hAO : va_AO C1 s := by
    rcases ht with ⟨-, rfl⟩ | ⟨-, rfl⟩ | ⟨-, rfl⟩
    · exact C.2.2.2.2.2.2.2.1.2.2.1
    · exact C.2.2.2.2.2.2.2.1.2.2.2.1
    · exact C.2.2.2.2.2.2.2.1.2.2.2.2
  have hty : tyA t = .object C1 ∧ t < 5 := by
    rcases ht with ⟨rfl, rfl⟩ | ⟨rfl, rfl⟩ | ⟨rfl, rfl⟩
    · exact ⟨rfl, by decide⟩
    · exact ⟨rfl, by decide⟩
    · exact ⟨rfl, by decide⟩
  refine W.anew C.1 C.2.1 C.2.2.2.2.1 (hts _ (List.mem_cons_of_mem _ hcl)) (va_AO.use hAO) rfl hd rfl (nI_pos (by omega)) (by rw [en]; omega) hc (by rw [en]; exact hs) fun cA kA comp f1 f2 f3 f4 => ?_
  have hcA : cA = cy t := by
    have h1 := (hK.2 t _ (tys5_at cy hty.2)).2
    rw [hty.1] at h1
    obtain ⟨kA', comp', -, -, -, h4⟩ := h1
    exact Option.some.inj (f1.symm.trans h4)
  subst hcA
  rw [en]
  generalize hH1 : H.push ({ cls := cy t, slots := Array.replicate n .null, vm := .none } : Cell) = H1
  have z1 : H1.size = H.size + 1 := by rw [← hH1, Array.size_push]
  have e1 : H1[H.size]? = some (arrV (cy t) n (fun _ => .null)) := by rw [← hH1, Array.getElem?_push_size, ← arrV_new]
  have o1 : ∀ q : Nat, q < H.size → H1[q]? = H[q]? := fun q hq => by rw [← hH1, Array.getElem?_push, if_neg (Nat.ne_of_lt hq)]
  refine kk p l e s m args below meth c lo D cy H1 locs ls C (hw.pu hlo ?_ o1) z1 (newS hS z1 o1) hl
  show H1[H.size]? = some (vp_cell _ _)
  rw [e1, vp_cell_q]
  rfl
theorem v_objInit {idx : Nat} (hd : decode mi.2.1 pc = .ok (.invokespecial idx, 3)) (hlink : Cond.methodLink mi.1.cls idx Lib.objectInit ∈ lw_tb) (hd1 : 1 ≤ d) (hst : (stk.map fun v => v.category).sum ≤ 8) (kk : V mi d mc ms Po (w) (sz) (cells) (slots) L (stk) (pc + 3)) : V mi d mc ms Po (w) (sz) (cells) (slots) L (.ref a :: stk) (pc) := by
  intro p l e s m args below meth c lo D cy H locs ls C hw hz hS hl
  have hts := C.2.2.2.2.2.1
  exact W.objInit C.1 C.2.1 C.2.2.2.2.1 (hts _ (List.mem_cons_of_mem _ hlink)) (hts _ (List.mem_cons_of_mem _ (in_tb (by decide +kernel) rfl))) (hts _ (List.mem_cons_of_mem _ (in_tb (by decide +kernel) rfl))) rfl (hl.1.1.trans C.2.2.2.1.symm) rfl hd hd1 (by show 2 * 0 + _ + 12 ≤ 36 * d; omega) (kk p l e s m args below meth c lo D cy H locs ls C hw hz hS hl)
theorem v_mmax {idx : Nat} {x y : Int32} (hd : decode mi.2.1 pc = .ok (.invokestatic idx, 3)) (hlink : Cond.methodLink mi.1.cls idx Lib.Math.max.name ∈ lw_tb) (hd1 : 1 ≤ d) (hst : (stk.map fun v => v.category).sum ≤ 8) (hc : cells ≤ mc) (hs : slots ≤ ms) (kk : V mi d mc ms Po (w) (sz) (cells) (slots) L (.int (if x < y then y else x) :: stk) (pc + 3)) : V mi d mc ms Po (w) (sz) (cells) (slots) L (.int y :: .int x :: stk) (pc) := by
  intro p l e s m args below meth c lo D cy H locs ls C hw hz hS hl
  have hts := C.2.2.2.2.2.1
  exact va_mmax C.1 C.2.1 (C.2.2.2.1.trans hl.1.1.symm) C.2.2.2.2.1 (hts _ (List.mem_cons_of_mem _ hlink)) (hts _ (List.mem_cons_of_mem _ (in_tb (by decide +kernel) rfl))) (hts _ (List.mem_cons_of_mem _ (in_tb (by decide +kernel) rfl))) (hts _ (List.mem_cons_of_mem _ (in_tb (by decide +kernel) rfl))) hd1 (by show _ + 13 ≤ 36 * d; omega) hc hs hd (kk p l e s m args below meth c lo D cy H locs ls C hw hz hS hl)
end VN
/-! ===== calls ===== -/
theorem goodTb {mi mi' : MI} (h : miW mi' ∈ lw_tb) : GoodIn (miWs mi) (miWs mi') := by
  intro w hw
  have h1 : w ∈ lw_tb := by
    rcases List.mem_cons.mp hw with e | e
    · rw [e]; exact h
    · exact e
  exact ⟨List.mem_cons_of_mem _ h1, good_of_word (tb_in h1).2⟩
/-- a method of the tables: its code word, that it is set up; n: its parameters -/
def MO (mi' : MI) (n : Nat) : Prop := miW mi' ∈ lw_tb ∧ Cond.initialized mi'.1.cls ∈ lw_tb ∧ (mi'.1.cls ≠ "java/lang/invoke/MethodHandle" ∧ mi'.1.cls ≠ "java/lang/invoke/VarHandle") ∧ (parseMethodDescriptor mi'.1.desc).map (fun q => q.parameters.length) = some n ∧ mi'.2.2.1 ≤ 17
def MV (mi' : MI) (n ci : Nat) : Prop := MO mi' n ∧ Cond.instanceMethod mi'.1 ∈ lw_tb ∧ Cond.selects mi'.1.cls mi'.1 mi'.1 ∈ lw_tb ∧ (vwCl[ci]?).map (fun q => q.1) = some mi'.1.cls
def MS (mi' : MI) (n : Nat) : Prop := MO mi' n ∧ Cond.static mi'.1 ∈ lw_tb
def MN (mi' : MI) (n : Nat) : Prop := MO mi' n ∧ Cond.instanceMethod mi'.1 ∈ lw_tb ∧ mi'.1.name = "<init>" ∧ mi'.2.2.2 = none
def Cl0 (Po : Option Value → Wd → Nat → Prop) (mi : MI) (d mc ms : Nat) (w : Wd) (sz cells slots : Nat) (L : List (Option Value)) (stk : List Value) (pc : Nat) : Prop := V mi d mc ms Po w sz cells slots L stk pc
section VCALL
variable {mi : MI} {d mc ms : Nat} {Po : Option Value → Wd → Nat → Prop} {w : Wd} {sz cells slots : Nat} {L : List (Option Value)} {stk : List Value} {pc : Nat}
variable {mi' : MI} {d' idx ci mc' ms' : Nat} {Po' : Option Value → Wd → Nat → Prop}
theorem v_ran {p : Program} {l : Launch} {e : Env} {s : State} {m : MethodId} {args : Array Value} {below : List Frame} {meth : Method} {c : Code} {lo : Nat} {D : va_G} {cy : Nat → ClassId} {H : Heap} {locs : List Loc} {ls : Array Slot} {st0 : List Value} {av : Array Value}
    (hr : va_Run p l e (rmd d mc ms) s m args below meth c H locs cells slots mc' ms' (F0 m pc ls st0) stk (Qd Po' D cy lo av) (fun q => lo ≤ q)) (C : Cx p s m args meth c mi D cy lo) (hS : va_S (fun q => lo ≤ q) s.heap H locs) (hl : lvs ls mi.2.2.1 L)
    (k : ∀ r w' z, Po' r w' z → V mi d mc ms Po w' z (cells + mc') (slots + ms') L (r.toList ++ stk) (pc + 3)) : W p l e (rmd d mc ms) s m args below meth c H locs cells slots (MQ below (Qd Po D cy lo) args s mc ms (fun q => lo ≤ q)) (F0 m pc ls st0) := by
  intro T hT X
  obtain ⟨v, st₀, t, T', L1, h0, X', hL, e1, e2, ⟨r, w', hv, hw', hp, hz, hk⟩, step⟩ := hr T hT X
  cases hv
  rw [h0] at hz hk
  obtain ⟨t2, a1, b1⟩ := k _ w' _ hp p l e s m args below meth c lo D cy T'.heap (locs ++ L1) ls C (by rw [e1]; exact hw') (by rw [e1]) ⟨Nat.le_trans hS.1 (by rw [e1]; exact hz), fun q h1 h2 => by rw [e1, hk q (Nat.lt_of_lt_of_le h1 hS.1) h2]; exact hS.2.1 q h1 h2, fun q hq => by
      rcases List.mem_append.mp hq with h | h
      · exact hS.2.2 q h
      · exact hL q h⟩ hl T' rfl X'
  exact ⟨t2, step t2 a1, b1⟩
theorem pcBlind {av : List Value} {lo : Nat} {D : va_G} {cy : Nat → ClassId} : FrameBlind (va_Pc av (fun U => U.heap.size = sz ∧ lo ≤ sz ∧ hW D cy lo w U.heap ∧ KK D cy U)) := fun a U g mk q => by
  obtain ⟨q0, q1, q2, q3, q4⟩ := q
  exact ⟨q0, q1, q2, q3, KK.same q4 rfl⟩
theorem pcS {av : List Value} {lo : Nat} {D : va_G} {cy : Nat → ClassId} {s : State} {H : Heap} {locs : List Loc} {p : Program} {m : MethodId} {args : Array Value} {meth : Method} {c : Code} (C : Cx p s m args meth c mi D cy lo) (hw : hW D cy lo w H) (hz : H.size = sz) (hS : va_S (fun q => lo ≤ q) s.heap H locs) : ∀ U : State, U.heap = H → s.WarmedH U.vm → va_Pc av (fun U => U.heap.size = sz ∧ lo ≤ sz ∧ hW D cy lo w U.heap ∧ KK D cy U) av.toArray U := fun U hU hW =>
  ⟨rfl, by rw [hU]; exact hz, by rw [← hz]; exact Nat.le_trans C.2.2.2.2.2.2.2.2.1 hS.1, by rw [hU]; exact hw, KK.warm C.2.2.2.2.2.2.2.1 hW⟩
theorem v_callVg {b : Nat} {As fs S : List Value} (hco : MV mi' As.length ci) (hd : decode mi.2.1 pc = .ok (.invokevirtual idx, 3)) (hlink : Cond.methodLink mi.1.cls idx mi'.1 ∈ lw_tb) (hE : Ev mi' d' (.ref b :: As) w sz mc' ms' Po') (hb : w b = some (ob ci fs)) (hstk : S = As.reverse ++ .ref b :: stk) (hdd : d' + 1 ≤ d) (hst : (stk.map fun v => v.category).sum ≤ 8) (hmc : cells + mc' ≤ mc) (hms : slots + ms' ≤ ms) (k : ∀ r w' z, Po' r w' z → V mi d mc ms Po w' z (cells + mc') (slots + ms') L (r.toList ++ stk) (pc + 3)) : V mi d mc ms Po (w) (sz) (cells) (slots) L (S) (pc) := by
  intro p l e s m args below meth c lo D cy H locs ls C hw hz hS hl
  have hts := C.2.2.2.2.2.1
  subst hstk
  have hI : ∀ q, q ∈ lw_tb → q.before args s = true := fun q h => hts _ (List.mem_cons_of_mem _ h)
  obtain ⟨r, hr, hrn⟩ : ∃ r, vwCl[ci]? = some r ∧ r.1 = mi'.1.cls := by
    have := hco.2.2.2
    cases h : vwCl[ci]? with
    | none => rw [h] at this; simp at this
    | some r => rw [h] at this; exact ⟨r, rfl, by simpa using this⟩
  have hrecv := va_recv C.2.2.2.2.2.2.2.1.1 (hw.ob hb) hr (q0 := 0) rfl
  rw [hrn] at hrecv
  refine v_ran (va_runV (As := As) (rest := stk) ⟨C.1, C.2.1, C.2.2.2.1, C.2.2.2.2.1, C.2.2.2.2.2.1⟩ (hE l lo D cy) (cw := ⟨callB_of As.length hts (goodTb hco.1.1) rfl rfl rfl (hI _ hco.1.2.1) (hI _ hlink) ⟨hco.1.2.2.1.1, hco.1.2.2.1.2, hco.1.2.2.2.1⟩ ⟨hdd, by show 8 + (mi'.2.2.1 + 11) + 36 * d' ≤ 36 * d; have := hco.1.2.2.2.2; omega⟩, hI _ hco.2.1, hI _ hco.2.2.1⟩) ⟨pcBlind, hrecv, pcS (av := .ref b :: As) C hw hz hS⟩ rfl rfl hl.1.1 rfl (lv_room hst) hd ⟨hmc, hms⟩) C hS hl k
theorem v_callSg {As S : List Value} (hco : MS mi' As.length) (hd : decode mi.2.1 pc = .ok (.invokestatic idx, 3)) (hlink : Cond.methodLink mi.1.cls idx mi'.1 ∈ lw_tb) (hE : Ev mi' d' As w sz mc' ms' Po') (hstk : S = As.reverse ++ stk) (hdd : d' + 1 ≤ d) (hst : (stk.map fun v => v.category).sum ≤ 8) (hmc : cells + mc' ≤ mc) (hms : slots + ms' ≤ ms) (k : ∀ r w' z, Po' r w' z → V mi d mc ms Po w' z (cells + mc') (slots + ms') L (r.toList ++ stk) (pc + 3)) : V mi d mc ms Po (w) (sz) (cells) (slots) L (S) (pc) := by
  intro p l e s m args below meth c lo D cy H locs ls C hw hz hS hl
  have hts := C.2.2.2.2.2.1
  subst hstk
  have hI : ∀ q, q ∈ lw_tb → q.before args s = true := fun q h => hts _ (List.mem_cons_of_mem _ h)
  refine v_ran (va_runS (As := As) (rest := stk) ⟨C.1, C.2.1, C.2.2.2.1, C.2.2.2.2.1, C.2.2.2.2.2.1⟩ (hE l lo D cy) (cw := ⟨callB_of As.length hts (goodTb hco.1.1) rfl rfl rfl (hI _ hco.1.2.1) (hI _ hlink) ⟨hco.1.2.2.1.1, hco.1.2.2.1.2, hco.1.2.2.2.1⟩ ⟨hdd, by show 8 + (mi'.2.2.1 + 11) + 36 * d' ≤ 36 * d; have := hco.1.2.2.2.2; omega⟩, hI _ hco.2⟩) ⟨pcBlind, pcS C hw hz hS⟩ rfl rfl hl.1.1 rfl (lv_room hst) hd ⟨hmc, hms⟩) C hS hl k
theorem v_callSN {As S : List Value} (hco : MS mi' As.length) (hd : decode mi.2.1 pc = .ok (.invokestatic idx, 3)) (hlink : (mi.1.cls, idx, mi'.1, "VotedLabels") ∈ nests) (hE : Ev mi' d' As w sz mc' ms' Po') (hstk : S = As.reverse ++ stk) (hdd : d' + 1 ≤ d) (hst : (stk.map fun v => v.category).sum ≤ 8) (hmc : cells + mc' ≤ mc) (hms : slots + ms' ≤ ms) (k : ∀ r w' z, Po' r w' z → V mi d mc ms Po w' z (cells + mc') (slots + ms') L (r.toList ++ stk) (pc + 3)) : V mi d mc ms Po (w) (sz) (cells) (slots) L (S) (pc) := by
  intro p l e s m args below meth c lo D cy H locs ls C hw hz hS hl
  have hts := C.2.2.2.2.2.1
  subst hstk
  have hI : ∀ q, q ∈ lw_tb → q.before args s = true := fun q h => hts _ (List.mem_cons_of_mem _ h)
  refine v_ran (va_runSN (As := As) (rest := stk) ⟨C.1, C.2.1, C.2.2.2.1, C.2.2.2.2.1, C.2.2.2.2.2.1⟩ (hE l lo D cy) (cw := ⟨va_cnB As.length hts (goodTb hco.1.1) rfl rfl rfl (C.2.2.2.2.2.2.2.1.2.1 _ hlink) (hI _ hco.1.2.1) ⟨hco.1.2.2.1.1, hco.1.2.2.1.2, hco.1.2.2.2.1⟩ ⟨hdd, by show 8 + (mi'.2.2.1 + 11) + 36 * d' ≤ 36 * d; have := hco.1.2.2.2.2; omega⟩, hI _ hco.2, trivial⟩) ⟨pcBlind, pcS C hw hz hS⟩ rfl rfl hl.1.1 rfl (lv_room hst) hd ⟨hmc, hms⟩) C hS hl k
theorem v_callI {y' : MethodName} {cc' : ByteArray} {n' : Nat} {b : Nat} {As S : List Value} (hco : MN (y', cc', n', none) As.length) (hd : decode mi.2.1 pc = .ok (.invokespecial idx, 3)) (hlink : Cond.methodLink mi.1.cls idx y' ∈ lw_tb) (hE : Ev (y', cc', n', none) d' (.ref b :: As) w sz mc' ms' Po') (hstk : S = As.reverse ++ .ref b :: stk) (hdd : d' + 1 ≤ d) (hst : (stk.map fun v => v.category).sum ≤ 8) (hmc : cells + mc' ≤ mc) (hms : slots + ms' ≤ ms) (k : ∀ r w' z, Po' r w' z → V mi d mc ms Po w' z (cells + mc') (slots + ms') L (r.toList ++ stk) (pc + 3)) : V mi d mc ms Po (w) (sz) (cells) (slots) L (S) (pc) := by
  intro p l e s m args below meth c lo D cy H locs ls C hw hz hS hl
  have hts := C.2.2.2.2.2.1
  subst hstk
  have hI : ∀ q, q ∈ lw_tb → q.before args s = true := fun q h => hts _ (List.mem_cons_of_mem _ h)
  refine v_ran (va_runI (As := As) (rest := stk) ⟨C.1, C.2.1, C.2.2.2.1, C.2.2.2.2.1, C.2.2.2.2.2.1⟩ (hE l lo D cy) (cw := ⟨callB_of As.length hts (goodTb hco.1.1) rfl rfl rfl (hI _ hco.1.2.1) (hI _ hlink) ⟨hco.1.2.2.1.1, hco.1.2.2.1.2, hco.1.2.2.2.1⟩ ⟨hdd, by show 8 + (n' + 11) + 36 * d' ≤ 36 * d; have : n' ≤ 17 := hco.1.2.2.2.2; omega⟩, hco.2.2.1, hI _ hco.2.1⟩) ⟨pcBlind, pcS (av := .ref b :: As) C hw hz hS⟩ rfl rfl hl.1.1 rfl (lv_room hst) hd ⟨hmc, hms⟩) C hS hl k
theorem v_callIN {y' : MethodName} {cc' : ByteArray} {n' : Nat} {b : Nat} {As S : List Value} (hco : MN (y', cc', n', none) As.length) (hd : decode mi.2.1 pc = .ok (.invokespecial idx, 3)) (hlink : (mi.1.cls, idx, y', "VotedLabels") ∈ nests) (hE : Ev (y', cc', n', none) d' (.ref b :: As) w sz mc' ms' Po') (hstk : S = As.reverse ++ .ref b :: stk) (hdd : d' + 1 ≤ d) (hst : (stk.map fun v => v.category).sum ≤ 8) (hmc : cells + mc' ≤ mc) (hms : slots + ms' ≤ ms) (k : ∀ r w' z, Po' r w' z → V mi d mc ms Po w' z (cells + mc') (slots + ms') L (r.toList ++ stk) (pc + 3)) : V mi d mc ms Po (w) (sz) (cells) (slots) L (S) (pc) := by
  intro p l e s m args below meth c lo D cy H locs ls C hw hz hS hl
  have hts := C.2.2.2.2.2.1
  subst hstk
  have hI : ∀ q, q ∈ lw_tb → q.before args s = true := fun q h => hts _ (List.mem_cons_of_mem _ h)
  refine v_ran (va_runIN (As := As) (rest := stk) ⟨C.1, C.2.1, C.2.2.2.1, C.2.2.2.2.1, C.2.2.2.2.2.1⟩ (hE l lo D cy) (cw := ⟨va_cnB As.length hts (goodTb hco.1.1) rfl rfl rfl (C.2.2.2.2.2.2.2.1.2.1 _ hlink) (hI _ hco.1.2.1) ⟨hco.1.2.2.1.1, hco.1.2.2.1.2, hco.1.2.2.2.1⟩ ⟨hdd, by show 8 + (n' + 11) + 36 * d' ≤ 36 * d; have : n' ≤ 17 := hco.1.2.2.2.2; omega⟩, hco.2.2.1, hI _ hco.2.1⟩) ⟨pcBlind, pcS (av := .ref b :: As) C hw hz hS⟩ rfl rfl hl.1.1 rfl (lv_room hst) hd ⟨hmc, hms⟩) C hS hl k
/-- a method that only reads: it answers r, and the world stays -/
def Rd (mi' : MI) (d' : Nat) (av : List Value) (w : Wd) (r : Option Value) : Prop := ∀ sz, Ev mi' d' av w sz 0 0 (fun r' w' z => r' = r ∧ w' = w ∧ z = sz)
/-- a method that makes no cell -/
def Wr (mi' : MI) (d' : Nat) (av : List Value) (w : Wd) (Q : Option Value → Wd → Prop) : Prop := ∀ sz, Ev mi' d' av w sz 0 0 (fun r' w' z => z = sz ∧ Q r' w')
theorem Rd.mk {av : List Value} {r : Option Value} (h : ∀ sz, Ev mi' d' av w sz 0 0 (fun r' w' z => r' = r ∧ w' = w ∧ z = sz)) : Rd mi' d' av w r := h

theorem v_rV0 {b : Nat} {fs : List Value} {r : Option Value} (hco : MV mi' 0 ci) (hd : decode mi.2.1 pc = .ok (.invokevirtual idx, 3)) (hlink : Cond.methodLink mi.1.cls idx mi'.1 ∈ lw_tb) (hE : Rd mi' d' (.ref b :: []) w r) (hb : w b = some (ob ci fs)) (hdd : d' + 1 ≤ d) (hst : (stk.map fun v => v.category).sum ≤ 8) (hmc : cells ≤ mc) (hms : slots ≤ ms) (k : V mi d mc ms Po (w) (sz) (cells) (slots) L (r.toList ++ stk) (pc + 3)) : V mi d mc ms Po (w) (sz) (cells) (slots) L (.ref b :: stk) (pc) :=
  v_callVg (As := []) hco hd hlink (hE sz) hb rfl hdd hst hmc hms (fun _ _ _ h => by obtain ⟨rfl, rfl, rfl⟩ := h; exact k)
theorem v_wV0 {b : Nat} {fs : List Value} {Q : Option Value → Wd → Prop} (hco : MV mi' 0 ci) (hd : decode mi.2.1 pc = .ok (.invokevirtual idx, 3)) (hlink : Cond.methodLink mi.1.cls idx mi'.1 ∈ lw_tb) (hE : Wr mi' d' (.ref b :: []) w Q) (hb : w b = some (ob ci fs)) (hdd : d' + 1 ≤ d) (hst : (stk.map fun v => v.category).sum ≤ 8) (hmc : cells ≤ mc) (hms : slots ≤ ms) (k : ∀ r w', Q r w' → V mi d mc ms Po w' sz cells slots L (r.toList ++ stk) (pc + 3)) : V mi d mc ms Po (w) (sz) (cells) (slots) L (.ref b :: stk) (pc) :=
  v_callVg (As := []) hco hd hlink (hE sz) hb rfl hdd hst hmc hms (fun r w' _ h => by obtain ⟨rfl, hq⟩ := h; exact k r w' hq)
theorem v_rV1 {b : Nat} {x0 : Value} {fs : List Value} {r : Option Value} (hco : MV mi' 1 ci) (hd : decode mi.2.1 pc = .ok (.invokevirtual idx, 3)) (hlink : Cond.methodLink mi.1.cls idx mi'.1 ∈ lw_tb) (hE : Rd mi' d' (.ref b :: [x0]) w r) (hb : w b = some (ob ci fs)) (hdd : d' + 1 ≤ d) (hst : (stk.map fun v => v.category).sum ≤ 8) (hmc : cells ≤ mc) (hms : slots ≤ ms) (k : V mi d mc ms Po (w) (sz) (cells) (slots) L (r.toList ++ stk) (pc + 3)) : V mi d mc ms Po (w) (sz) (cells) (slots) L (x0 :: .ref b :: stk) (pc) :=
  v_callVg (As := [x0]) hco hd hlink (hE sz) hb rfl hdd hst hmc hms (fun _ _ _ h => by obtain ⟨rfl, rfl, rfl⟩ := h; exact k)
theorem v_wV1 {b : Nat} {x0 : Value} {fs : List Value} {Q : Option Value → Wd → Prop} (hco : MV mi' 1 ci) (hd : decode mi.2.1 pc = .ok (.invokevirtual idx, 3)) (hlink : Cond.methodLink mi.1.cls idx mi'.1 ∈ lw_tb) (hE : Wr mi' d' (.ref b :: [x0]) w Q) (hb : w b = some (ob ci fs)) (hdd : d' + 1 ≤ d) (hst : (stk.map fun v => v.category).sum ≤ 8) (hmc : cells ≤ mc) (hms : slots ≤ ms) (k : ∀ r w', Q r w' → V mi d mc ms Po w' sz cells slots L (r.toList ++ stk) (pc + 3)) : V mi d mc ms Po (w) (sz) (cells) (slots) L (x0 :: .ref b :: stk) (pc) :=
  v_callVg (As := [x0]) hco hd hlink (hE sz) hb rfl hdd hst hmc hms (fun r w' _ h => by obtain ⟨rfl, hq⟩ := h; exact k r w' hq)
theorem v_rS1 {x0 : Value} {r : Option Value} (hco : MS mi' 1) (hd : decode mi.2.1 pc = .ok (.invokestatic idx, 3)) (hlink : Cond.methodLink mi.1.cls idx mi'.1 ∈ lw_tb) (hE : Rd mi' d' [x0] w r) (hdd : d' + 1 ≤ d) (hst : (stk.map fun v => v.category).sum ≤ 8) (hmc : cells ≤ mc) (hms : slots ≤ ms) (k : V mi d mc ms Po (w) (sz) (cells) (slots) L (r.toList ++ stk) (pc + 3)) : V mi d mc ms Po (w) (sz) (cells) (slots) L (x0 :: stk) (pc) :=
  v_callSg (As := [x0]) hco hd hlink (hE sz) rfl hdd hst hmc hms (fun _ _ _ h => by obtain ⟨rfl, rfl, rfl⟩ := h; exact k)
theorem v_wS1 {x0 : Value} {Q : Option Value → Wd → Prop} (hco : MS mi' 1) (hd : decode mi.2.1 pc = .ok (.invokestatic idx, 3)) (hlink : Cond.methodLink mi.1.cls idx mi'.1 ∈ lw_tb) (hE : Wr mi' d' [x0] w Q) (hdd : d' + 1 ≤ d) (hst : (stk.map fun v => v.category).sum ≤ 8) (hmc : cells ≤ mc) (hms : slots ≤ ms) (k : ∀ r w', Q r w' → V mi d mc ms Po w' sz cells slots L (r.toList ++ stk) (pc + 3)) : V mi d mc ms Po (w) (sz) (cells) (slots) L (x0 :: stk) (pc) :=
  v_callSg (As := [x0]) hco hd hlink (hE sz) rfl hdd hst hmc hms (fun r w' _ h => by obtain ⟨rfl, hq⟩ := h; exact k r w' hq)
theorem v_rSN1 {x0 : Value} {r : Option Value} (hco : MS mi' 1) (hd : decode mi.2.1 pc = .ok (.invokestatic idx, 3)) (hlink : (mi.1.cls, idx, mi'.1, "VotedLabels") ∈ nests) (hE : Rd mi' d' [x0] w r) (hdd : d' + 1 ≤ d) (hst : (stk.map fun v => v.category).sum ≤ 8) (hmc : cells ≤ mc) (hms : slots ≤ ms) (k : V mi d mc ms Po (w) (sz) (cells) (slots) L (r.toList ++ stk) (pc + 3)) : V mi d mc ms Po (w) (sz) (cells) (slots) L (x0 :: stk) (pc) :=
  v_callSN (As := [x0]) hco hd hlink (hE sz) rfl hdd hst hmc hms (fun _ _ _ h => by obtain ⟨rfl, rfl, rfl⟩ := h; exact k)
theorem v_rV2 {b : Nat} {x0 x1 : Value} {fs : List Value} {r : Option Value} (hco : MV mi' 2 ci) (hd : decode mi.2.1 pc = .ok (.invokevirtual idx, 3)) (hlink : Cond.methodLink mi.1.cls idx mi'.1 ∈ lw_tb) (hE : Rd mi' d' (.ref b :: [x0, x1]) w r) (hb : w b = some (ob ci fs)) (hdd : d' + 1 ≤ d) (hst : (stk.map fun v => v.category).sum ≤ 8) (hmc : cells ≤ mc) (hms : slots ≤ ms) (k : V mi d mc ms Po (w) (sz) (cells) (slots) L (r.toList ++ stk) (pc + 3)) : V mi d mc ms Po (w) (sz) (cells) (slots) L (x1 :: x0 :: .ref b :: stk) (pc) :=
  v_callVg (As := [x0, x1]) hco hd hlink (hE sz) hb rfl hdd hst hmc hms (fun _ _ _ h => by obtain ⟨rfl, rfl, rfl⟩ := h; exact k)
theorem v_wV2 {b : Nat} {x0 x1 : Value} {fs : List Value} {Q : Option Value → Wd → Prop} (hco : MV mi' 2 ci) (hd : decode mi.2.1 pc = .ok (.invokevirtual idx, 3)) (hlink : Cond.methodLink mi.1.cls idx mi'.1 ∈ lw_tb) (hE : Wr mi' d' (.ref b :: [x0, x1]) w Q) (hb : w b = some (ob ci fs)) (hdd : d' + 1 ≤ d) (hst : (stk.map fun v => v.category).sum ≤ 8) (hmc : cells ≤ mc) (hms : slots ≤ ms) (k : ∀ r w', Q r w' → V mi d mc ms Po w' sz cells slots L (r.toList ++ stk) (pc + 3)) : V mi d mc ms Po (w) (sz) (cells) (slots) L (x1 :: x0 :: .ref b :: stk) (pc) :=
  v_callVg (As := [x0, x1]) hco hd hlink (hE sz) hb rfl hdd hst hmc hms (fun r w' _ h => by obtain ⟨rfl, hq⟩ := h; exact k r w' hq)
theorem v_rS2 {x0 x1 : Value} {r : Option Value} (hco : MS mi' 2) (hd : decode mi.2.1 pc = .ok (.invokestatic idx, 3)) (hlink : Cond.methodLink mi.1.cls idx mi'.1 ∈ lw_tb) (hE : Rd mi' d' [x0, x1] w r) (hdd : d' + 1 ≤ d) (hst : (stk.map fun v => v.category).sum ≤ 8) (hmc : cells ≤ mc) (hms : slots ≤ ms) (k : V mi d mc ms Po (w) (sz) (cells) (slots) L (r.toList ++ stk) (pc + 3)) : V mi d mc ms Po (w) (sz) (cells) (slots) L (x1 :: x0 :: stk) (pc) :=
  v_callSg (As := [x0, x1]) hco hd hlink (hE sz) rfl hdd hst hmc hms (fun _ _ _ h => by obtain ⟨rfl, rfl, rfl⟩ := h; exact k)
theorem v_wS2 {x0 x1 : Value} {Q : Option Value → Wd → Prop} (hco : MS mi' 2) (hd : decode mi.2.1 pc = .ok (.invokestatic idx, 3)) (hlink : Cond.methodLink mi.1.cls idx mi'.1 ∈ lw_tb) (hE : Wr mi' d' [x0, x1] w Q) (hdd : d' + 1 ≤ d) (hst : (stk.map fun v => v.category).sum ≤ 8) (hmc : cells ≤ mc) (hms : slots ≤ ms) (k : ∀ r w', Q r w' → V mi d mc ms Po w' sz cells slots L (r.toList ++ stk) (pc + 3)) : V mi d mc ms Po (w) (sz) (cells) (slots) L (x1 :: x0 :: stk) (pc) :=
  v_callSg (As := [x0, x1]) hco hd hlink (hE sz) rfl hdd hst hmc hms (fun r w' _ h => by obtain ⟨rfl, hq⟩ := h; exact k r w' hq)
theorem v_rSN2 {x0 x1 : Value} {r : Option Value} (hco : MS mi' 2) (hd : decode mi.2.1 pc = .ok (.invokestatic idx, 3)) (hlink : (mi.1.cls, idx, mi'.1, "VotedLabels") ∈ nests) (hE : Rd mi' d' [x0, x1] w r) (hdd : d' + 1 ≤ d) (hst : (stk.map fun v => v.category).sum ≤ 8) (hmc : cells ≤ mc) (hms : slots ≤ ms) (k : V mi d mc ms Po (w) (sz) (cells) (slots) L (r.toList ++ stk) (pc + 3)) : V mi d mc ms Po (w) (sz) (cells) (slots) L (x1 :: x0 :: stk) (pc) :=
  v_callSN (As := [x0, x1]) hco hd hlink (hE sz) rfl hdd hst hmc hms (fun _ _ _ h => by obtain ⟨rfl, rfl, rfl⟩ := h; exact k)
theorem v_rV3 {b : Nat} {x0 x1 x2 : Value} {fs : List Value} {r : Option Value} (hco : MV mi' 3 ci) (hd : decode mi.2.1 pc = .ok (.invokevirtual idx, 3)) (hlink : Cond.methodLink mi.1.cls idx mi'.1 ∈ lw_tb) (hE : Rd mi' d' (.ref b :: [x0, x1, x2]) w r) (hb : w b = some (ob ci fs)) (hdd : d' + 1 ≤ d) (hst : (stk.map fun v => v.category).sum ≤ 8) (hmc : cells ≤ mc) (hms : slots ≤ ms) (k : V mi d mc ms Po (w) (sz) (cells) (slots) L (r.toList ++ stk) (pc + 3)) : V mi d mc ms Po (w) (sz) (cells) (slots) L (x2 :: x1 :: x0 :: .ref b :: stk) (pc) :=
  v_callVg (As := [x0, x1, x2]) hco hd hlink (hE sz) hb rfl hdd hst hmc hms (fun _ _ _ h => by obtain ⟨rfl, rfl, rfl⟩ := h; exact k)
theorem v_wV3 {b : Nat} {x0 x1 x2 : Value} {fs : List Value} {Q : Option Value → Wd → Prop} (hco : MV mi' 3 ci) (hd : decode mi.2.1 pc = .ok (.invokevirtual idx, 3)) (hlink : Cond.methodLink mi.1.cls idx mi'.1 ∈ lw_tb) (hE : Wr mi' d' (.ref b :: [x0, x1, x2]) w Q) (hb : w b = some (ob ci fs)) (hdd : d' + 1 ≤ d) (hst : (stk.map fun v => v.category).sum ≤ 8) (hmc : cells ≤ mc) (hms : slots ≤ ms) (k : ∀ r w', Q r w' → V mi d mc ms Po w' sz cells slots L (r.toList ++ stk) (pc + 3)) : V mi d mc ms Po (w) (sz) (cells) (slots) L (x2 :: x1 :: x0 :: .ref b :: stk) (pc) :=
  v_callVg (As := [x0, x1, x2]) hco hd hlink (hE sz) hb rfl hdd hst hmc hms (fun r w' _ h => by obtain ⟨rfl, hq⟩ := h; exact k r w' hq)
theorem v_rS3 {x0 x1 x2 : Value} {r : Option Value} (hco : MS mi' 3) (hd : decode mi.2.1 pc = .ok (.invokestatic idx, 3)) (hlink : Cond.methodLink mi.1.cls idx mi'.1 ∈ lw_tb) (hE : Rd mi' d' [x0, x1, x2] w r) (hdd : d' + 1 ≤ d) (hst : (stk.map fun v => v.category).sum ≤ 8) (hmc : cells ≤ mc) (hms : slots ≤ ms) (k : V mi d mc ms Po (w) (sz) (cells) (slots) L (r.toList ++ stk) (pc + 3)) : V mi d mc ms Po (w) (sz) (cells) (slots) L (x2 :: x1 :: x0 :: stk) (pc) :=
  v_callSg (As := [x0, x1, x2]) hco hd hlink (hE sz) rfl hdd hst hmc hms (fun _ _ _ h => by obtain ⟨rfl, rfl, rfl⟩ := h; exact k)
theorem v_wS3 {x0 x1 x2 : Value} {Q : Option Value → Wd → Prop} (hco : MS mi' 3) (hd : decode mi.2.1 pc = .ok (.invokestatic idx, 3)) (hlink : Cond.methodLink mi.1.cls idx mi'.1 ∈ lw_tb) (hE : Wr mi' d' [x0, x1, x2] w Q) (hdd : d' + 1 ≤ d) (hst : (stk.map fun v => v.category).sum ≤ 8) (hmc : cells ≤ mc) (hms : slots ≤ ms) (k : ∀ r w', Q r w' → V mi d mc ms Po w' sz cells slots L (r.toList ++ stk) (pc + 3)) : V mi d mc ms Po (w) (sz) (cells) (slots) L (x2 :: x1 :: x0 :: stk) (pc) :=
  v_callSg (As := [x0, x1, x2]) hco hd hlink (hE sz) rfl hdd hst hmc hms (fun r w' _ h => by obtain ⟨rfl, hq⟩ := h; exact k r w' hq)
theorem v_rSN3 {x0 x1 x2 : Value} {r : Option Value} (hco : MS mi' 3) (hd : decode mi.2.1 pc = .ok (.invokestatic idx, 3)) (hlink : (mi.1.cls, idx, mi'.1, "VotedLabels") ∈ nests) (hE : Rd mi' d' [x0, x1, x2] w r) (hdd : d' + 1 ≤ d) (hst : (stk.map fun v => v.category).sum ≤ 8) (hmc : cells ≤ mc) (hms : slots ≤ ms) (k : V mi d mc ms Po (w) (sz) (cells) (slots) L (r.toList ++ stk) (pc + 3)) : V mi d mc ms Po (w) (sz) (cells) (slots) L (x2 :: x1 :: x0 :: stk) (pc) :=
  v_callSN (As := [x0, x1, x2]) hco hd hlink (hE sz) rfl hdd hst hmc hms (fun _ _ _ h => by obtain ⟨rfl, rfl, rfl⟩ := h; exact k)
theorem v_rV4 {b : Nat} {x0 x1 x2 x3 : Value} {fs : List Value} {r : Option Value} (hco : MV mi' 4 ci) (hd : decode mi.2.1 pc = .ok (.invokevirtual idx, 3)) (hlink : Cond.methodLink mi.1.cls idx mi'.1 ∈ lw_tb) (hE : Rd mi' d' (.ref b :: [x0, x1, x2, x3]) w r) (hb : w b = some (ob ci fs)) (hdd : d' + 1 ≤ d) (hst : (stk.map fun v => v.category).sum ≤ 8) (hmc : cells ≤ mc) (hms : slots ≤ ms) (k : V mi d mc ms Po (w) (sz) (cells) (slots) L (r.toList ++ stk) (pc + 3)) : V mi d mc ms Po (w) (sz) (cells) (slots) L (x3 :: x2 :: x1 :: x0 :: .ref b :: stk) (pc) :=
  v_callVg (As := [x0, x1, x2, x3]) hco hd hlink (hE sz) hb rfl hdd hst hmc hms (fun _ _ _ h => by obtain ⟨rfl, rfl, rfl⟩ := h; exact k)
theorem v_wV4 {b : Nat} {x0 x1 x2 x3 : Value} {fs : List Value} {Q : Option Value → Wd → Prop} (hco : MV mi' 4 ci) (hd : decode mi.2.1 pc = .ok (.invokevirtual idx, 3)) (hlink : Cond.methodLink mi.1.cls idx mi'.1 ∈ lw_tb) (hE : Wr mi' d' (.ref b :: [x0, x1, x2, x3]) w Q) (hb : w b = some (ob ci fs)) (hdd : d' + 1 ≤ d) (hst : (stk.map fun v => v.category).sum ≤ 8) (hmc : cells ≤ mc) (hms : slots ≤ ms) (k : ∀ r w', Q r w' → V mi d mc ms Po w' sz cells slots L (r.toList ++ stk) (pc + 3)) : V mi d mc ms Po (w) (sz) (cells) (slots) L (x3 :: x2 :: x1 :: x0 :: .ref b :: stk) (pc) :=
  v_callVg (As := [x0, x1, x2, x3]) hco hd hlink (hE sz) hb rfl hdd hst hmc hms (fun r w' _ h => by obtain ⟨rfl, hq⟩ := h; exact k r w' hq)
theorem v_rV5 {b : Nat} {x0 x1 x2 x3 x4 : Value} {fs : List Value} {r : Option Value} (hco : MV mi' 5 ci) (hd : decode mi.2.1 pc = .ok (.invokevirtual idx, 3)) (hlink : Cond.methodLink mi.1.cls idx mi'.1 ∈ lw_tb) (hE : Rd mi' d' (.ref b :: [x0, x1, x2, x3, x4]) w r) (hb : w b = some (ob ci fs)) (hdd : d' + 1 ≤ d) (hst : (stk.map fun v => v.category).sum ≤ 8) (hmc : cells ≤ mc) (hms : slots ≤ ms) (k : V mi d mc ms Po (w) (sz) (cells) (slots) L (r.toList ++ stk) (pc + 3)) : V mi d mc ms Po (w) (sz) (cells) (slots) L (x4 :: x3 :: x2 :: x1 :: x0 :: .ref b :: stk) (pc) :=
  v_callVg (As := [x0, x1, x2, x3, x4]) hco hd hlink (hE sz) hb rfl hdd hst hmc hms (fun _ _ _ h => by obtain ⟨rfl, rfl, rfl⟩ := h; exact k)
theorem v_wV5 {b : Nat} {x0 x1 x2 x3 x4 : Value} {fs : List Value} {Q : Option Value → Wd → Prop} (hco : MV mi' 5 ci) (hd : decode mi.2.1 pc = .ok (.invokevirtual idx, 3)) (hlink : Cond.methodLink mi.1.cls idx mi'.1 ∈ lw_tb) (hE : Wr mi' d' (.ref b :: [x0, x1, x2, x3, x4]) w Q) (hb : w b = some (ob ci fs)) (hdd : d' + 1 ≤ d) (hst : (stk.map fun v => v.category).sum ≤ 8) (hmc : cells ≤ mc) (hms : slots ≤ ms) (k : ∀ r w', Q r w' → V mi d mc ms Po w' sz cells slots L (r.toList ++ stk) (pc + 3)) : V mi d mc ms Po (w) (sz) (cells) (slots) L (x4 :: x3 :: x2 :: x1 :: x0 :: .ref b :: stk) (pc) :=
  v_callVg (As := [x0, x1, x2, x3, x4]) hco hd hlink (hE sz) hb rfl hdd hst hmc hms (fun r w' _ h => by obtain ⟨rfl, hq⟩ := h; exact k r w' hq)
theorem v_rV6 {b : Nat} {x0 x1 x2 x3 x4 x5 : Value} {fs : List Value} {r : Option Value} (hco : MV mi' 6 ci) (hd : decode mi.2.1 pc = .ok (.invokevirtual idx, 3)) (hlink : Cond.methodLink mi.1.cls idx mi'.1 ∈ lw_tb) (hE : Rd mi' d' (.ref b :: [x0, x1, x2, x3, x4, x5]) w r) (hb : w b = some (ob ci fs)) (hdd : d' + 1 ≤ d) (hst : (stk.map fun v => v.category).sum ≤ 8) (hmc : cells ≤ mc) (hms : slots ≤ ms) (k : V mi d mc ms Po (w) (sz) (cells) (slots) L (r.toList ++ stk) (pc + 3)) : V mi d mc ms Po (w) (sz) (cells) (slots) L (x5 :: x4 :: x3 :: x2 :: x1 :: x0 :: .ref b :: stk) (pc) :=
  v_callVg (As := [x0, x1, x2, x3, x4, x5]) hco hd hlink (hE sz) hb rfl hdd hst hmc hms (fun _ _ _ h => by obtain ⟨rfl, rfl, rfl⟩ := h; exact k)
end VCALL
end
section
theorem FTX0 : FT 0 RX0 TX0 3 tyX0 := ⟨rfl, fun w h => in_tb (inX0 w h) (List.all_eq_true.mp (show (u_ws RX0 TX0 3).all goodWord = true by decide +kernel) w h), tyX0_ok, nmX0⟩
theorem FTX1 : FT 1 RX1 TX1 4 tyX1 := ⟨rfl, fun w h => in_tb (inX1 w h) (List.all_eq_true.mp (show (u_ws RX1 TX1 4).all goodWord = true by decide +kernel) w h), tyX1_ok, nmX1⟩
theorem FTX2 : FT 2 RX2 TX2 6 tyX2 := ⟨rfl, fun w h => in_tb (inX2 w h) (List.all_eq_true.mp (show (u_ws RX2 TX2 6).all goodWord = true by decide +kernel) w h), tyX2_ok, nmX2⟩
theorem FTX3 : FT 3 RX3 TX3 3 tyX3 := ⟨rfl, fun w h => in_tb (inX3 w h) (List.all_eq_true.mp (show (u_ws RX3 TX3 3).all goodWord = true by decide +kernel) w h), tyX3_ok, nmX3⟩
theorem FTX4 : FT 4 RX4 TX4 11 tyX4 := ⟨rfl, fun w h => in_tb (inX4 w h) (List.all_eq_true.mp (show (u_ws RX4 TX4 11).all goodWord = true by decide +kernel) w h), tyX4_ok, nmX4⟩
theorem FTX5 : FT 5 RX5 TX5 2 tyX5 := ⟨rfl, fun w h => in_tb (inX5 w h) (List.all_eq_true.mp (show (u_ws RX5 TX5 2).all goodWord = true by decide +kernel) w h), tyX5_ok, nmX5⟩
theorem FTX6 : FT 6 RX6 TX6 4 tyX6 := ⟨rfl, fun w h => in_tb (inX6 w h) (List.all_eq_true.mp (show (u_ws RX6 TX6 4).all goodWord = true by decide +kernel) w h), tyX6_ok, nmX6⟩
theorem FTX7 : FT 7 RX7 TX7 7 tyX7 := ⟨rfl, fun w h => in_tb (inX7 w h) (List.all_eq_true.mp (show (u_ws RX7 TX7 7).all goodWord = true by decide +kernel) w h), tyX7_ok, nmX7⟩
theorem FTX8 : FT 8 RX8 TX8 6 tyX8 := ⟨rfl, fun w h => in_tb (inX8 w h) (List.all_eq_true.mp (show (u_ws RX8 TX8 6).all goodWord = true by decide +kernel) w h), tyX8_ok, nmX8⟩
theorem cl_L_7 : Cond.classLink RL 7 RX7 ∈ lw_tb := in_tb (List.mem_of_getElem? (i := 50) (by decide +kernel)) rfl
theorem ml_L_9 : Cond.methodLink RL 9 yX7_init ∈ lw_tb := in_tb (List.mem_of_getElem? (i := 52) (by decide +kernel)) rfl
theorem cl_L_10 : Cond.classLink RL 10 RX8 ∈ lw_tb := in_tb (List.mem_of_getElem? (i := 648) (by decide +kernel)) rfl
theorem ml_L_12 : Cond.methodLink RL 12 yX8_init ∈ lw_tb := in_tb (List.mem_of_getElem? (i := 650) (by decide +kernel)) rfl
theorem ml_L_13 : Cond.methodLink RL 13 yX7_setLimit ∈ lw_tb := in_tb (List.mem_of_getElem? (i := 285) (by decide +kernel)) rfl
theorem ml_L_17 : Cond.methodLink RL 17 yX8_setLimit ∈ lw_tb := in_tb (List.mem_of_getElem? (i := 673) (by decide +kernel)) rfl
theorem ml_L_18 : Cond.methodLink RL 18 yX7_ask ∈ lw_tb := in_tb (List.mem_of_getElem? (i := 344) (by decide +kernel)) rfl
theorem ml_L_22 : Cond.methodLink RL 22 yX8_ask ∈ lw_tb := in_tb (List.mem_of_getElem? (i := 711) (by decide +kernel)) rfl
theorem ml_L_23 : Cond.methodLink RL 23 yX7_bring ∈ lw_tb := in_tb (List.mem_of_getElem? (i := 361) (by decide +kernel)) rfl
theorem ml_L_26 : Cond.methodLink RL 26 yX8_bring ∈ lw_tb := in_tb (List.mem_of_getElem? (i := 718) (by decide +kernel)) rfl
theorem ml_L_27 : Cond.methodLink RL 27 yX7_label ∈ lw_tb := in_tb (List.mem_of_getElem? (i := 369) (by decide +kernel)) rfl
theorem ml_L_30 : Cond.methodLink RL 30 yX8_label ∈ lw_tb := in_tb (List.mem_of_getElem? (i := 737) (by decide +kernel)) rfl
theorem ml_L_31 : Cond.methodLink RL 31 yX7_takeDown ∈ lw_tb := in_tb (List.mem_of_getElem? (i := 399) (by decide +kernel)) rfl
theorem ml_L_34 : Cond.methodLink RL 34 yX8_takeDown ∈ lw_tb := in_tb (List.mem_of_getElem? (i := 722) (by decide +kernel)) rfl
theorem ml_L_35 : Cond.methodLink RL 35 yX7_setNeeded ∈ lw_tb := in_tb (List.mem_of_getElem? (i := 411) (by decide +kernel)) rfl
theorem ml_L_39 : Cond.methodLink RL 39 yX8_setNeeded ∈ lw_tb := in_tb (List.mem_of_getElem? (i := 733) (by decide +kernel)) rfl
theorem ml_L_40 : Cond.methodLink RL 40 yX7_rewrite ∈ lw_tb := in_tb (List.mem_of_getElem? (i := 415) (by decide +kernel)) rfl
theorem ml_L_44 : Cond.methodLink RL 44 yX8_rewrite ∈ lw_tb := in_tb (List.mem_of_getElem? (i := 757) (by decide +kernel)) rfl
theorem ml_L_45 : Cond.methodLink RL 45 yX7_vote ∈ lw_tb := in_tb (List.mem_of_getElem? (i := 442) (by decide +kernel)) rfl
theorem ml_L_48 : Cond.methodLink RL 48 yX8_vote ∈ lw_tb := in_tb (List.mem_of_getElem? (i := 776) (by decide +kernel)) rfl
theorem ml_L_49 : Cond.methodLink RL 49 yX7_endWeek ∈ lw_tb := in_tb (List.mem_of_getElem? (i := 463) (by decide +kernel)) rfl
theorem ml_L_53 : Cond.methodLink RL 53 yX8_endWeek ∈ lw_tb := in_tb (List.mem_of_getElem? (i := 788) (by decide +kernel)) rfl
theorem ml_L_54 : Cond.methodLink RL 54 yX7_type ∈ lw_tb := in_tb (List.mem_of_getElem? (i := 498) (by decide +kernel)) rfl
theorem ml_L_58 : Cond.methodLink RL 58 yX8_type ∈ lw_tb := in_tb (List.mem_of_getElem? (i := 796) (by decide +kernel)) rfl
theorem ml_L_59 : Cond.methodLink RL 59 yX7_clearText ∈ lw_tb := in_tb (List.mem_of_getElem? (i := 506) (by decide +kernel)) rfl
theorem ml_L_62 : Cond.methodLink RL 62 yX8_clearText ∈ lw_tb := in_tb (List.mem_of_getElem? (i := 800) (by decide +kernel)) rfl
theorem ml_L_63 : Cond.methodLink RL 63 yX7_undo ∈ lw_tb := in_tb (List.mem_of_getElem? (i := 510) (by decide +kernel)) rfl
theorem ml_L_66 : Cond.methodLink RL 66 yX8_undo ∈ lw_tb := in_tb (List.mem_of_getElem? (i := 804) (by decide +kernel)) rfl
theorem ml_L_67 : Cond.methodLink RL 67 yX7_keep ∈ lw_tb := in_tb (List.mem_of_getElem? (i := 518) (by decide +kernel)) rfl
theorem ml_L_70 : Cond.methodLink RL 70 yX8_keep ∈ lw_tb := in_tb (List.mem_of_getElem? (i := 808) (by decide +kernel)) rfl
theorem ml_L_71 : Cond.methodLink RL 71 yX7_restore ∈ lw_tb := in_tb (List.mem_of_getElem? (i := 528) (by decide +kernel)) rfl
theorem ml_L_74 : Cond.methodLink RL 74 yX8_restore ∈ lw_tb := in_tb (List.mem_of_getElem? (i := 816) (by decide +kernel)) rfl
theorem ml_L_75 : Cond.methodLink RL 75 yX7_labelOf ∈ lw_tb := in_tb (List.mem_of_getElem? (i := 532) (by decide +kernel)) rfl
theorem ml_L_78 : Cond.methodLink RL 78 yX8_labelOf ∈ lw_tb := in_tb (List.mem_of_getElem? (i := 820) (by decide +kernel)) rfl
theorem ml_L_79 : Cond.methodLink RL 79 yX7_letter ∈ lw_tb := in_tb (List.mem_of_getElem? (i := 540) (by decide +kernel)) rfl
theorem ml_L_82 : Cond.methodLink RL 82 yX8_letter ∈ lw_tb := in_tb (List.mem_of_getElem? (i := 824) (by decide +kernel)) rfl
theorem ml_L_83 : Cond.methodLink RL 83 yX7_rewriteOf ∈ lw_tb := in_tb (List.mem_of_getElem? (i := 544) (by decide +kernel)) rfl
theorem ml_L_86 : Cond.methodLink RL 86 yX8_rewriteOf ∈ lw_tb := in_tb (List.mem_of_getElem? (i := 828) (by decide +kernel)) rfl
theorem ml_L_87 : Cond.methodLink RL 87 yX7_ranked ∈ lw_tb := in_tb (List.mem_of_getElem? (i := 565) (by decide +kernel)) rfl
theorem ml_L_90 : Cond.methodLink RL 90 yX8_ranked ∈ lw_tb := in_tb (List.mem_of_getElem? (i := 844) (by decide +kernel)) rfl
theorem ml_L_91 : Cond.methodLink RL 91 yX7_room ∈ lw_tb := in_tb (List.mem_of_getElem? (i := 581) (by decide +kernel)) rfl
theorem ml_L_94 : Cond.methodLink RL 94 yX8_room ∈ lw_tb := in_tb (List.mem_of_getElem? (i := 848) (by decide +kernel)) rfl
theorem ml_L_95 : Cond.methodLink RL 95 yX7_visitor ∈ lw_tb := in_tb (List.mem_of_getElem? (i := 606) (by decide +kernel)) rfl
theorem ml_L_98 : Cond.methodLink RL 98 yX8_visitor ∈ lw_tb := in_tb (List.mem_of_getElem? (i := 860) (by decide +kernel)) rfl
theorem ml_L_99 : Cond.methodLink RL 99 yX7_labelsWith ∈ lw_tb := in_tb (List.mem_of_getElem? (i := 623) (by decide +kernel)) rfl
theorem ml_L_102 : Cond.methodLink RL 102 yX8_labelsWith ∈ lw_tb := in_tb (List.mem_of_getElem? (i := 876) (by decide +kernel)) rfl
theorem ml_L_103 : Cond.methodLink RL 103 yX7_count ∈ lw_tb := in_tb (List.mem_of_getElem? (i := 635) (by decide +kernel)) rfl
theorem ml_L_106 : Cond.methodLink RL 106 yX8_count ∈ lw_tb := in_tb (List.mem_of_getElem? (i := 884) (by decide +kernel)) rfl
theorem ml_X0_3 : Cond.methodLink RX0 3 Lib.objectInit ∈ lw_tb := in_tb (List.mem_of_getElem? (i := 248) (by decide +kernel)) rfl
theorem cl_X0_9 : Cond.classLink RX0 9 RX4 ∈ lw_tb := in_tb (List.mem_of_getElem? (i := 249) (by decide +kernel)) rfl
theorem fl_X0_11 : Cond.fieldLink RX0 11 RX0 (TX0 0).2.1 (TX0 0).2.2.1 ∈ lw_tb := in_tb (List.mem_of_getElem? (i := 252) (by decide +kernel)) rfl
theorem ml_X0_17 : Cond.methodLink RX0 17 yX4_init ∈ lw_tb := in_tb (List.mem_of_getElem? (i := 251) (by decide +kernel)) rfl
theorem fl_X0_18 : Cond.fieldLink RX0 18 RX0 (TX0 2).2.1 (TX0 2).2.2.1 ∈ lw_tb := in_tb (List.mem_of_getElem? (i := 255) (by decide +kernel)) rfl
theorem ml_X0_22 : Cond.methodLink RX0 22 yX4_copyFrom ∈ lw_tb := in_tb (List.mem_of_getElem? (i := 296) (by decide +kernel)) rfl
theorem fl_X0_26 : Cond.fieldLink RX0 26 RX0 (TX0 1).2.1 (TX0 1).2.2.1 ∈ lw_tb := in_tb (List.mem_of_getElem? (i := 253) (by decide +kernel)) rfl
theorem ml_X1_3 : Cond.methodLink RX1 3 Lib.objectInit ∈ lw_tb := in_tb (List.mem_of_getElem? (i := 179) (by decide +kernel)) rfl
theorem cl_X1_9 : Cond.classLink RX1 9 RX6 ∈ lw_tb := in_tb (List.mem_of_getElem? (i := 180) (by decide +kernel)) rfl
theorem fl_X1_12 : Cond.fieldLink RX1 12 RX1 (TX1 0).2.1 (TX1 0).2.2.1 ∈ lw_tb := in_tb (List.mem_of_getElem? (i := 182) (by decide +kernel)) rfl
theorem fl_X1_18 : Cond.fieldLink RX1 18 RX1 (TX1 1).2.1 (TX1 1).2.2.1 ∈ lw_tb := in_tb (List.mem_of_getElem? (i := 185) (by decide +kernel)) rfl
theorem fl_X1_22 : Cond.fieldLink RX1 22 RX6 (TX6 3).2.1 (TX6 3).2.2.1 ∈ lw_tb := in_tb (List.mem_of_getElem? (i := 87) (by decide +kernel)) rfl
theorem ml_X1_25 : Cond.methodLink RX1 25 yX6_copyFrom ∈ lw_tb := in_tb (List.mem_of_getElem? (i := 307) (by decide +kernel)) rfl
theorem fl_X1_29 : Cond.fieldLink RX1 29 RX1 (TX1 2).2.1 (TX1 2).2.2.1 ∈ lw_tb := in_tb (List.mem_of_getElem? (i := 187) (by decide +kernel)) rfl
theorem fl_X1_32 : Cond.fieldLink RX1 32 RX1 (TX1 3).2.1 (TX1 3).2.2.1 ∈ lw_tb := in_tb (List.mem_of_getElem? (i := 188) (by decide +kernel)) rfl
theorem ml_X1_35 : Cond.methodLink RX1 35 yX6_cutTo ∈ lw_tb := in_tb (List.mem_of_getElem? (i := 340) (by decide +kernel)) rfl
theorem fl_X1_39 : Cond.fieldLink RX1 39 RX6 (TX6 1).2.1 (TX6 1).2.2.1 ∈ lw_tb := in_tb (List.mem_of_getElem? (i := 84) (by decide +kernel)) rfl
theorem ml_X2_1 : Cond.methodLink RX2 1 Lib.objectInit ∈ lw_tb := in_tb (List.mem_of_getElem? (i := 123) (by decide +kernel)) rfl
theorem cl_X2_7 : Cond.classLink RX2 7 RX6 ∈ lw_tb := in_tb (List.mem_of_getElem? (i := 124) (by decide +kernel)) rfl
theorem fl_X2_10 : Cond.fieldLink RX2 10 RX2 (TX2 0).2.1 (TX2 0).2.2.1 ∈ lw_tb := in_tb (List.mem_of_getElem? (i := 126) (by decide +kernel)) rfl
theorem ml_X2_16 : Cond.methodLink RX2 16 yX6_copyFrom ∈ lw_tb := in_tb (List.mem_of_getElem? (i := 320) (by decide +kernel)) rfl
theorem fl_X2_20 : Cond.fieldLink RX2 20 RX2 (TX2 1).2.1 (TX2 1).2.2.1 ∈ lw_tb := in_tb (List.mem_of_getElem? (i := 130) (by decide +kernel)) rfl
theorem fl_X2_24 : Cond.fieldLink RX2 24 RX2 (TX2 2).2.1 (TX2 2).2.2.1 ∈ lw_tb := in_tb (List.mem_of_getElem? (i := 133) (by decide +kernel)) rfl
theorem fl_X2_27 : Cond.fieldLink RX2 27 RX2 (TX2 3).2.1 (TX2 3).2.2.1 ∈ lw_tb := in_tb (List.mem_of_getElem? (i := 137) (by decide +kernel)) rfl
theorem fl_X2_30 : Cond.fieldLink RX2 30 RX2 (TX2 4).2.1 (TX2 4).2.2.1 ∈ lw_tb := in_tb (List.mem_of_getElem? (i := 141) (by decide +kernel)) rfl
theorem fl_X2_33 : Cond.fieldLink RX2 33 RX2 (TX2 5).2.1 (TX2 5).2.2.1 ∈ lw_tb := in_tb (List.mem_of_getElem? (i := 144) (by decide +kernel)) rfl
theorem ml_X2_36 : Cond.methodLink RX2 36 yJ6_bitCount_0f7a4 ∈ lw_tb := in_tb (List.mem_of_getElem? (i := 462) (by decide +kernel)) rfl
theorem ml_X2_42 : Cond.methodLink RX2 42 yX2_votes ∈ lw_tb := in_tb (List.mem_of_getElem? (i := 484) (by decide +kernel)) rfl
theorem fl_X2_46 : Cond.fieldLink RX2 46 RX6 (TX6 3).2.1 (TX6 3).2.2.1 ∈ lw_tb := in_tb (List.mem_of_getElem? (i := 90) (by decide +kernel)) rfl
theorem ml_X3_3 : Cond.methodLink RX3 3 Lib.objectInit ∈ lw_tb := in_tb (List.mem_of_getElem? (i := 116) (by decide +kernel)) rfl
theorem cl_X3_9 : Cond.classLink RX3 9 RX2 ∈ lw_tb := in_tb (List.mem_of_getElem? (i := 117) (by decide +kernel)) rfl
theorem fl_X3_11 : Cond.fieldLink RX3 11 RX3 (TX3 0).2.1 (TX3 0).2.2.1 ∈ lw_tb := in_tb (List.mem_of_getElem? (i := 160) (by decide +kernel)) rfl
theorem fl_X3_18 : Cond.fieldLink RX3 18 RX3 (TX3 1).2.1 (TX3 1).2.2.1 ∈ lw_tb := in_tb (List.mem_of_getElem? (i := 161) (by decide +kernel)) rfl
theorem fl_X3_22 : Cond.fieldLink RX3 22 RX3 (TX3 2).2.1 (TX3 2).2.2.1 ∈ lw_tb := in_tb (List.mem_of_getElem? (i := 163) (by decide +kernel)) rfl
theorem ml_X3_25 : Cond.methodLink RX3 25 yX2_copyFrom ∈ lw_tb := in_tb (List.mem_of_getElem? (i := 316) (by decide +kernel)) rfl
theorem fl_X3_29 : Cond.fieldLink RX3 29 RX2 (TX2 1).2.1 (TX2 1).2.2.1 ∈ lw_tb := in_tb (List.mem_of_getElem? (i := 131) (by decide +kernel)) rfl
theorem ml_X3_32 : Cond.methodLink RX3 32 yX3_indexBy ∈ lw_tb := in_tb (List.mem_of_getElem? (i := 426) (by decide +kernel)) rfl
theorem ml_X3_36 : Cond.methodLink RX3 36 yX3_removeAt ∈ lw_tb := in_tb (List.mem_of_getElem? (i := 434) (by decide +kernel)) rfl
theorem ml_X3_40 : Cond.methodLink RX3 40 yX2_become ∈ lw_tb := in_tb (List.mem_of_getElem? (i := 438) (by decide +kernel)) rfl
theorem fl_X3_44 : Cond.fieldLink RX3 44 RX2 (TX2 3).2.1 (TX2 3).2.2.1 ∈ lw_tb := in_tb (List.mem_of_getElem? (i := 138) (by decide +kernel)) rfl
theorem fl_X3_47 : Cond.fieldLink RX3 47 RX2 (TX2 2).2.1 (TX2 2).2.2.1 ∈ lw_tb := in_tb (List.mem_of_getElem? (i := 134) (by decide +kernel)) rfl
theorem fl_X3_50 : Cond.fieldLink RX3 50 RX2 (TX2 5).2.1 (TX2 5).2.2.1 ∈ lw_tb := in_tb (List.mem_of_getElem? (i := 145) (by decide +kernel)) rfl
theorem ml_X3_53 : Cond.methodLink RX3 53 yX2_votes ∈ lw_tb := in_tb (List.mem_of_getElem? (i := 479) (by decide +kernel)) rfl
theorem fl_X3_57 : Cond.fieldLink RX3 57 RX2 (TX2 0).2.1 (TX2 0).2.2.1 ∈ lw_tb := in_tb (List.mem_of_getElem? (i := 128) (by decide +kernel)) rfl
theorem fl_X3_61 : Cond.fieldLink RX3 61 RX6 (TX6 3).2.1 (TX6 3).2.2.1 ∈ lw_tb := in_tb (List.mem_of_getElem? (i := 91) (by decide +kernel)) rfl
theorem ml_X3_64 : Cond.methodLink RX3 64 yX2_hasMoreVotesOrFewerWords ∈ lw_tb := in_tb (List.mem_of_getElem? (i := 480) (by decide +kernel)) rfl
theorem ml_X3_68 : Cond.methodLink RX3 68 yX3_aheadOf ∈ lw_tb := in_tb (List.mem_of_getElem? (i := 573) (by decide +kernel)) rfl
theorem ml_X3_72 : Cond.methodLink RX3 72 yX2_hasMoreVotesOrLowerNumber ∈ lw_tb := in_tb (List.mem_of_getElem? (i := 577) (by decide +kernel)) rfl
theorem fl_X3_75 : Cond.fieldLink RX3 75 RX2 (TX2 4).2.1 (TX2 4).2.2.1 ∈ lw_tb := in_tb (List.mem_of_getElem? (i := 142) (by decide +kernel)) rfl
theorem ml_X3_78 : Cond.methodLink RX3 78 yX2_hasVoteOf ∈ lw_tb := in_tb (List.mem_of_getElem? (i := 618) (by decide +kernel)) rfl
theorem ml_X4_3 : Cond.methodLink RX4 3 Lib.objectInit ∈ lw_tb := in_tb (List.mem_of_getElem? (i := 108) (by decide +kernel)) rfl
theorem fl_X4_9 : Cond.fieldLink RX4 9 RX4 (TX4 0).2.1 (TX4 0).2.2.1 ∈ lw_tb := in_tb (List.mem_of_getElem? (i := 198) (by decide +kernel)) rfl
theorem fl_X4_15 : Cond.fieldLink RX4 15 RX4 (TX4 1).2.1 (TX4 1).2.2.1 ∈ lw_tb := in_tb (List.mem_of_getElem? (i := 200) (by decide +kernel)) rfl
theorem fl_X4_18 : Cond.fieldLink RX4 18 RX4 (TX4 2).2.1 (TX4 2).2.2.1 ∈ lw_tb := in_tb (List.mem_of_getElem? (i := 202) (by decide +kernel)) rfl
theorem fl_X4_21 : Cond.fieldLink RX4 21 RX4 (TX4 3).2.1 (TX4 3).2.2.1 ∈ lw_tb := in_tb (List.mem_of_getElem? (i := 204) (by decide +kernel)) rfl
theorem cl_X4_24 : Cond.classLink RX4 24 RX1 ∈ lw_tb := in_tb (List.mem_of_getElem? (i := 109) (by decide +kernel)) rfl
theorem fl_X4_26 : Cond.fieldLink RX4 26 RX4 (TX4 4).2.1 (TX4 4).2.2.1 ∈ lw_tb := in_tb (List.mem_of_getElem? (i := 206) (by decide +kernel)) rfl
theorem cl_X4_30 : Cond.classLink RX4 30 RX3 ∈ lw_tb := in_tb (List.mem_of_getElem? (i := 111) (by decide +kernel)) rfl
theorem ml_X4_32 : Cond.methodLink RX4 32 yX3_init ∈ lw_tb := in_tb (List.mem_of_getElem? (i := 113) (by decide +kernel)) rfl
theorem fl_X4_33 : Cond.fieldLink RX4 33 RX4 (TX4 5).2.1 (TX4 5).2.2.1 ∈ lw_tb := in_tb (List.mem_of_getElem? (i := 208) (by decide +kernel)) rfl
theorem fl_X4_37 : Cond.fieldLink RX4 37 RX4 (TX4 6).2.1 (TX4 6).2.2.1 ∈ lw_tb := in_tb (List.mem_of_getElem? (i := 210) (by decide +kernel)) rfl
theorem ml_X4_41 : Cond.methodLink RX4 41 yJ7_fill_53178 ∈ lw_tb := in_tb (List.mem_of_getElem? (i := 172) (by decide +kernel)) rfl
theorem ml_X4_48 : Cond.methodLink RX4 48 arraycopyName ∈ lw_tb := in_tb (List.mem_of_getElem? (i := 300) (by decide +kernel)) rfl
theorem ml_X4_54 : Cond.methodLink RX4 54 yX1_copyFrom ∈ lw_tb := in_tb (List.mem_of_getElem? (i := 303) (by decide +kernel)) rfl
theorem ml_X4_58 : Cond.methodLink RX4 58 yX3_copyFrom ∈ lw_tb := in_tb (List.mem_of_getElem? (i := 312) (by decide +kernel)) rfl
theorem fl_X4_61 : Cond.fieldLink RX4 61 RX4 (TX4 7).2.1 (TX4 7).2.2.1 ∈ lw_tb := in_tb (List.mem_of_getElem? (i := 212) (by decide +kernel)) rfl
theorem fl_X4_64 : Cond.fieldLink RX4 64 RX4 (TX4 8).2.1 (TX4 8).2.2.1 ∈ lw_tb := in_tb (List.mem_of_getElem? (i := 214) (by decide +kernel)) rfl
theorem fl_X4_67 : Cond.fieldLink RX4 67 RX4 (TX4 9).2.1 (TX4 9).2.2.1 ∈ lw_tb := in_tb (List.mem_of_getElem? (i := 216) (by decide +kernel)) rfl
theorem fl_X4_70 : Cond.fieldLink RX4 70 RX4 (TX4 10).2.1 (TX4 10).2.2.1 ∈ lw_tb := in_tb (List.mem_of_getElem? (i := 218) (by decide +kernel)) rfl
theorem ml_X4_73 : Cond.methodLink RX4 73 yX4_cutLabelsOf ∈ lw_tb := in_tb (List.mem_of_getElem? (i := 325) (by decide +kernel)) rfl
theorem ml_X4_77 : Cond.methodLink RX4 77 yX4_limitOf ∈ lw_tb := in_tb (List.mem_of_getElem? (i := 329) (by decide +kernel)) rfl
theorem ml_X4_84 : Cond.methodLink RX4 84 yX1_cutTo ∈ lw_tb := in_tb (List.mem_of_getElem? (i := 336) (by decide +kernel)) rfl
theorem ml_X4_88 : Cond.methodLink RX4 88 yX3_bestFor ∈ lw_tb := in_tb (List.mem_of_getElem? (i := 475) (by decide +kernel)) rfl
theorem ml_X4_92 : Cond.methodLink RX4 92 yX4_bestRewriteFor ∈ lw_tb := in_tb (List.mem_of_getElem? (i := 471) (by decide +kernel)) rfl
theorem ml_X4_96 : Cond.methodLink RX4 96 yX4_accept ∈ lw_tb := in_tb (List.mem_of_getElem? (i := 485) (by decide +kernel)) rfl
theorem ml_X4_100 : Cond.methodLink RX4 100 yX3_growOlder ∈ lw_tb := in_tb (List.mem_of_getElem? (i := 494) (by decide +kernel)) rfl
theorem fl_X4_104 : Cond.fieldLink RX4 104 RX2 (TX2 2).2.1 (TX2 2).2.2.1 ∈ lw_tb := in_tb (List.mem_of_getElem? (i := 135) (by decide +kernel)) rfl
theorem fl_X4_109 : Cond.fieldLink RX4 109 RX2 (TX2 0).2.1 (TX2 0).2.2.1 ∈ lw_tb := in_tb (List.mem_of_getElem? (i := 127) (by decide +kernel)) rfl
theorem fl_X4_113 : Cond.fieldLink RX4 113 RX2 (TX2 3).2.1 (TX2 3).2.2.1 ∈ lw_tb := in_tb (List.mem_of_getElem? (i := 139) (by decide +kernel)) rfl
theorem ml_X4_116 : Cond.methodLink RX4 116 yX1_become ∈ lw_tb := in_tb (List.mem_of_getElem? (i := 489) (by decide +kernel)) rfl
theorem ml_X4_120 : Cond.methodLink RX4 120 yX3_remove ∈ lw_tb := in_tb (List.mem_of_getElem? (i := 490) (by decide +kernel)) rfl
theorem ml_X4_123 : Cond.methodLink RX4 123 yX1_stands ∈ lw_tb := in_tb (List.mem_of_getElem? (i := 527) (by decide +kernel)) rfl
theorem fl_X4_127 : Cond.fieldLink RX4 127 RX1 (TX1 1).2.1 (TX1 1).2.2.1 ∈ lw_tb := in_tb (List.mem_of_getElem? (i := 186) (by decide +kernel)) rfl
theorem fl_X4_128 : Cond.fieldLink RX4 128 RX1 (TX1 0).2.1 (TX1 0).2.2.1 ∈ lw_tb := in_tb (List.mem_of_getElem? (i := 184) (by decide +kernel)) rfl
theorem ml_X4_129 : Cond.methodLink RX4 129 yX6_sharesWordWith ∈ lw_tb := in_tb (List.mem_of_getElem? (i := 631) (by decide +kernel)) rfl
theorem ml_X4_135 : Cond.methodLink RX4 135 yX4_asksFor ∈ lw_tb := in_tb (List.mem_of_getElem? (i := 593) (by decide +kernel)) rfl
theorem ml_X4_139 : Cond.methodLink RX4 139 yX4_worksIn ∈ lw_tb := in_tb (List.mem_of_getElem? (i := 598) (by decide +kernel)) rfl
theorem ml_X4_142 : Cond.methodLink RX4 142 yJ6_bitCount_0f7a4 ∈ lw_tb := in_tb (List.mem_of_getElem? (i := 599) (by decide +kernel)) rfl
theorem ml_X4_147 : Cond.methodLink RX4 147 yX4_labelsIn ∈ lw_tb := in_tb (List.mem_of_getElem? (i := 600) (by decide +kernel)) rfl
theorem ml_X4_151 : Cond.methodLink RX4 151 yX4_missingIn ∈ lw_tb := in_tb (List.mem_of_getElem? (i := 647) (by decide +kernel)) rfl
theorem fl_X4_154 : Cond.fieldLink RX4 154 RX6 (TX6 3).2.1 (TX6 3).2.2.1 ∈ lw_tb := in_tb (List.mem_of_getElem? (i := 92) (by decide +kernel)) rfl
theorem ml_X4_157 : Cond.methodLink RX4 157 Lib.Math.max.name ∈ lw_tb := in_tb (List.mem_of_getElem? (i := 605) (by decide +kernel)) rfl
theorem ml_X5_3 : Cond.methodLink RX5 3 Lib.objectInit ∈ lw_tb := in_tb (List.mem_of_getElem? (i := 63) (by decide +kernel)) rfl
theorem fl_X5_9 : Cond.fieldLink RX5 9 RX5 (TX5 0).2.1 (TX5 0).2.2.1 ∈ lw_tb := in_tb (List.mem_of_getElem? (i := 64) (by decide +kernel)) rfl
theorem fl_X5_15 : Cond.fieldLink RX5 15 RX5 (TX5 1).2.1 (TX5 1).2.2.1 ∈ lw_tb := in_tb (List.mem_of_getElem? (i := 66) (by decide +kernel)) rfl
theorem ml_X6_3 : Cond.methodLink RX6 3 Lib.objectInit ∈ lw_tb := in_tb (List.mem_of_getElem? (i := 80) (by decide +kernel)) rfl
theorem fl_X6_9 : Cond.fieldLink RX6 9 RX6 (TX6 0).2.1 (TX6 0).2.2.1 ∈ lw_tb := in_tb (List.mem_of_getElem? (i := 81) (by decide +kernel)) rfl
theorem fl_X6_15 : Cond.fieldLink RX6 15 RX6 (TX6 2).2.1 (TX6 2).2.2.1 ∈ lw_tb := in_tb (List.mem_of_getElem? (i := 86) (by decide +kernel)) rfl
theorem fl_X6_19 : Cond.fieldLink RX6 19 RX6 (TX6 1).2.1 (TX6 1).2.2.1 ∈ lw_tb := in_tb (List.mem_of_getElem? (i := 83) (by decide +kernel)) rfl
theorem fl_X6_23 : Cond.fieldLink RX6 23 RX6 (TX6 3).2.1 (TX6 3).2.2.1 ∈ lw_tb := in_tb (List.mem_of_getElem? (i := 88) (by decide +kernel)) rfl
theorem fl_X6_26 : Cond.fieldLink RX6 26 RX5 (TX5 1).2.1 (TX5 1).2.2.1 ∈ lw_tb := in_tb (List.mem_of_getElem? (i := 67) (by decide +kernel)) rfl
theorem fl_X6_29 : Cond.fieldLink RX6 29 RX5 (TX5 0).2.1 (TX5 0).2.2.1 ∈ lw_tb := in_tb (List.mem_of_getElem? (i := 65) (by decide +kernel)) rfl
theorem ml_X6_32 : Cond.methodLink RX6 32 arraycopyName ∈ lw_tb := in_tb (List.mem_of_getElem? (i := 311) (by decide +kernel)) rfl
theorem ml_X6_38 : Cond.methodLink RX6 38 yX6_hasSameWord ∈ lw_tb := in_tb (List.mem_of_getElem? (i := 557) (by decide +kernel)) rfl
theorem ml_X6_42 : Cond.methodLink RX6 42 yX6_mostInCommon ∈ lw_tb := in_tb (List.mem_of_getElem? (i := 552) (by decide +kernel)) rfl
theorem ml_X6_46 : Cond.methodLink RX6 46 yJ7_fill_53178 ∈ lw_tb := in_tb (List.mem_of_getElem? (i := 556) (by decide +kernel)) rfl
theorem ml_X6_52 : Cond.methodLink RX6 52 Lib.Math.max.name ∈ lw_tb := in_tb (List.mem_of_getElem? (i := 561) (by decide +kernel)) rfl
theorem ml_X7_3 : Cond.methodLink RX7 3 Lib.objectInit ∈ lw_tb := in_tb (List.mem_of_getElem? (i := 55) (by decide +kernel)) rfl
theorem cl_X7_9 : Cond.classLink RX7 9 RX5 ∈ lw_tb := in_tb (List.mem_of_getElem? (i := 58) (by decide +kernel)) rfl
theorem fl_X7_12 : Cond.fieldLink RX7 12 RX7 (TX7 0).2.1 (TX7 0).2.2.1 ∈ lw_tb := in_tb (List.mem_of_getElem? (i := 263) (by decide +kernel)) rfl
theorem cl_X7_16 : Cond.classLink RX7 16 RX6 ∈ lw_tb := in_tb (List.mem_of_getElem? (i := 75) (by decide +kernel)) rfl
theorem fl_X7_19 : Cond.fieldLink RX7 19 RX7 (TX7 1).2.1 (TX7 1).2.2.1 ∈ lw_tb := in_tb (List.mem_of_getElem? (i := 264) (by decide +kernel)) rfl
theorem cl_X7_23 : Cond.classLink RX7 23 RX4 ∈ lw_tb := in_tb (List.mem_of_getElem? (i := 103) (by decide +kernel)) rfl
theorem ml_X7_25 : Cond.methodLink RX7 25 yX4_init ∈ lw_tb := in_tb (List.mem_of_getElem? (i := 105) (by decide +kernel)) rfl
theorem fl_X7_26 : Cond.fieldLink RX7 26 RX7 (TX7 2).2.1 (TX7 2).2.2.1 ∈ lw_tb := in_tb (List.mem_of_getElem? (i := 265) (by decide +kernel)) rfl
theorem cl_X7_30 : Cond.classLink RX7 30 RX0 ∈ lw_tb := in_tb (List.mem_of_getElem? (i := 243) (by decide +kernel)) rfl
theorem ml_X7_32 : Cond.methodLink RX7 32 yX0_init ∈ lw_tb := in_tb (List.mem_of_getElem? (i := 245) (by decide +kernel)) rfl
theorem fl_X7_33 : Cond.fieldLink RX7 33 RX7 (TX7 3).2.1 (TX7 3).2.2.1 ∈ lw_tb := in_tb (List.mem_of_getElem? (i := 266) (by decide +kernel)) rfl
theorem fl_X7_37 : Cond.fieldLink RX7 37 RX7 (TX7 4).2.1 (TX7 4).2.2.1 ∈ lw_tb := in_tb (List.mem_of_getElem? (i := 267) (by decide +kernel)) rfl
theorem fl_X7_40 : Cond.fieldLink RX7 40 RX7 (TX7 5).2.1 (TX7 5).2.2.1 ∈ lw_tb := in_tb (List.mem_of_getElem? (i := 268) (by decide +kernel)) rfl
theorem fl_X7_44 : Cond.fieldLink RX7 44 RX7 (TX7 6).2.1 (TX7 6).2.2.1 ∈ lw_tb := in_tb (List.mem_of_getElem? (i := 269) (by decide +kernel)) rfl
theorem ml_X7_48 : Cond.methodLink RX7 48 yX7_isRoom ∈ lw_tb := in_tb (List.mem_of_getElem? (i := 289) (by decide +kernel)) rfl
theorem fl_X7_52 : Cond.fieldLink RX7 52 RX4 (TX4 0).2.1 (TX4 0).2.2.1 ∈ lw_tb := in_tb (List.mem_of_getElem? (i := 199) (by decide +kernel)) rfl
theorem ml_X7_55 : Cond.methodLink RX7 55 yX0_push ∈ lw_tb := in_tb (List.mem_of_getElem? (i := 292) (by decide +kernel)) rfl
theorem ml_X7_59 : Cond.methodLink RX7 59 yX4_changeLimit ∈ lw_tb := in_tb (List.mem_of_getElem? (i := 321) (by decide +kernel)) rfl
theorem ml_X7_63 : Cond.methodLink RX7 63 yX7_isTongue ∈ lw_tb := in_tb (List.mem_of_getElem? (i := 348) (by decide +kernel)) rfl
theorem ml_X7_66 : Cond.methodLink RX7 66 yX4_asksFor ∈ lw_tb := in_tb (List.mem_of_getElem? (i := 351) (by decide +kernel)) rfl
theorem fl_X7_70 : Cond.fieldLink RX7 70 RX4 (TX4 1).2.1 (TX4 1).2.2.1 ∈ lw_tb := in_tb (List.mem_of_getElem? (i := 201) (by decide +kernel)) rfl
theorem ml_X7_73 : Cond.methodLink RX7 73 yJ6_bitCount_0f7a4 ∈ lw_tb := in_tb (List.mem_of_getElem? (i := 355) (by decide +kernel)) rfl
theorem ml_X7_79 : Cond.methodLink RX7 79 yX7_isWork ∈ lw_tb := in_tb (List.mem_of_getElem? (i := 365) (by decide +kernel)) rfl
theorem fl_X7_82 : Cond.fieldLink RX7 82 RX4 (TX4 2).2.1 (TX4 2).2.2.1 ∈ lw_tb := in_tb (List.mem_of_getElem? (i := 203) (by decide +kernel)) rfl
theorem ml_X7_85 : Cond.methodLink RX7 85 yX4_cutLabelsOf ∈ lw_tb := in_tb (List.mem_of_getElem? (i := 368) (by decide +kernel)) rfl
theorem ml_X7_88 : Cond.methodLink RX7 88 yX7_readTextFor ∈ lw_tb := in_tb (List.mem_of_getElem? (i := 373) (by decide +kernel)) rfl
theorem fl_X7_91 : Cond.fieldLink RX7 91 RX4 (TX4 4).2.1 (TX4 4).2.2.1 ∈ lw_tb := in_tb (List.mem_of_getElem? (i := 207) (by decide +kernel)) rfl
theorem ml_X7_95 : Cond.methodLink RX7 95 yX7_placeOf ∈ lw_tb := in_tb (List.mem_of_getElem? (i := 390) (by decide +kernel)) rfl
theorem fl_X7_98 : Cond.fieldLink RX7 98 RX1 (TX1 0).2.1 (TX1 0).2.2.1 ∈ lw_tb := in_tb (List.mem_of_getElem? (i := 183) (by decide +kernel)) rfl
theorem ml_X7_103 : Cond.methodLink RX7 103 yX6_isLike ∈ lw_tb := in_tb (List.mem_of_getElem? (i := 391) (by decide +kernel)) rfl
theorem fl_X7_107 : Cond.fieldLink RX7 107 RX4 (TX4 7).2.1 (TX4 7).2.2.1 ∈ lw_tb := in_tb (List.mem_of_getElem? (i := 213) (by decide +kernel)) rfl
theorem ml_X7_111 : Cond.methodLink RX7 111 yX1_become ∈ lw_tb := in_tb (List.mem_of_getElem? (i := 395) (by decide +kernel)) rfl
theorem fl_X7_115 : Cond.fieldLink RX7 115 RX6 (TX6 3).2.1 (TX6 3).2.2.1 ∈ lw_tb := in_tb (List.mem_of_getElem? (i := 89) (by decide +kernel)) rfl
theorem ml_X7_118 : Cond.methodLink RX7 118 yX1_stands ∈ lw_tb := in_tb (List.mem_of_getElem? (i := 403) (by decide +kernel)) rfl
theorem ml_X7_122 : Cond.methodLink RX7 122 yX6_empty ∈ lw_tb := in_tb (List.mem_of_getElem? (i := 407) (by decide +kernel)) rfl
theorem fl_X7_125 : Cond.fieldLink RX7 125 RX4 (TX4 6).2.1 (TX4 6).2.2.1 ∈ lw_tb := in_tb (List.mem_of_getElem? (i := 211) (by decide +kernel)) rfl
theorem ml_X7_128 : Cond.methodLink RX7 128 yX7_isVisitor ∈ lw_tb := in_tb (List.mem_of_getElem? (i := 419) (by decide +kernel)) rfl
theorem fl_X7_131 : Cond.fieldLink RX7 131 RX4 (TX4 5).2.1 (TX4 5).2.2.1 ∈ lw_tb := in_tb (List.mem_of_getElem? (i := 209) (by decide +kernel)) rfl
theorem ml_X7_135 : Cond.methodLink RX7 135 yX3_hasRoomFor ∈ lw_tb := in_tb (List.mem_of_getElem? (i := 422) (by decide +kernel)) rfl
theorem ml_X7_140 : Cond.methodLink RX7 140 yX3_handIn ∈ lw_tb := in_tb (List.mem_of_getElem? (i := 430) (by decide +kernel)) rfl
theorem ml_X7_144 : Cond.methodLink RX7 144 yX3_withNumber ∈ lw_tb := in_tb (List.mem_of_getElem? (i := 446) (by decide +kernel)) rfl
theorem fl_X7_148 : Cond.fieldLink RX7 148 RX2 (TX2 3).2.1 (TX2 3).2.2.1 ∈ lw_tb := in_tb (List.mem_of_getElem? (i := 140) (by decide +kernel)) rfl
theorem ml_X7_153 : Cond.methodLink RX7 153 yX2_hasVoteOf ∈ lw_tb := in_tb (List.mem_of_getElem? (i := 450) (by decide +kernel)) rfl
theorem fl_X7_156 : Cond.fieldLink RX7 156 RX2 (TX2 2).2.1 (TX2 2).2.2.1 ∈ lw_tb := in_tb (List.mem_of_getElem? (i := 136) (by decide +kernel)) rfl
theorem ml_X7_159 : Cond.methodLink RX7 159 yX3_takeVoteBack ∈ lw_tb := in_tb (List.mem_of_getElem? (i := 454) (by decide +kernel)) rfl
theorem fl_X7_163 : Cond.fieldLink RX7 163 RX2 (TX2 5).2.1 (TX2 5).2.2.1 ∈ lw_tb := in_tb (List.mem_of_getElem? (i := 146) (by decide +kernel)) rfl
theorem ml_X7_166 : Cond.methodLink RX7 166 yX2_votes ∈ lw_tb := in_tb (List.mem_of_getElem? (i := 458) (by decide +kernel)) rfl
theorem ml_X7_170 : Cond.methodLink RX7 170 yX4_passWeek ∈ lw_tb := in_tb (List.mem_of_getElem? (i := 467) (by decide +kernel)) rfl
theorem ml_X7_173 : Cond.methodLink RX7 173 yX5_add ∈ lw_tb := in_tb (List.mem_of_getElem? (i := 502) (by decide +kernel)) rfl
theorem fl_X7_177 : Cond.fieldLink RX7 177 RX5 (TX5 1).2.1 (TX5 1).2.2.1 ∈ lw_tb := in_tb (List.mem_of_getElem? (i := 68) (by decide +kernel)) rfl
theorem fl_X7_180 : Cond.fieldLink RX7 180 RX0 (TX0 1).2.1 (TX0 1).2.2.1 ∈ lw_tb := in_tb (List.mem_of_getElem? (i := 254) (by decide +kernel)) rfl
theorem ml_X7_181 : Cond.methodLink RX7 181 yX0_popInto ∈ lw_tb := in_tb (List.mem_of_getElem? (i := 514) (by decide +kernel)) rfl
theorem ml_X7_184 : Cond.methodLink RX7 184 yX4_copyFrom ∈ lw_tb := in_tb (List.mem_of_getElem? (i := 522) (by decide +kernel)) rfl
theorem ml_X7_187 : Cond.methodLink RX7 187 yX4_allLabels ∈ lw_tb := in_tb (List.mem_of_getElem? (i := 523) (by decide +kernel)) rfl
theorem ml_X7_190 : Cond.methodLink RX7 190 yX1_told ∈ lw_tb := in_tb (List.mem_of_getElem? (i := 536) (by decide +kernel)) rfl
theorem fl_X7_193 : Cond.fieldLink RX7 193 RX6 (TX6 1).2.1 (TX6 1).2.2.1 ∈ lw_tb := in_tb (List.mem_of_getElem? (i := 85) (by decide +kernel)) rfl
theorem fl_X7_194 : Cond.fieldLink RX7 194 RX6 (TX6 0).2.1 (TX6 0).2.2.1 ∈ lw_tb := in_tb (List.mem_of_getElem? (i := 82) (by decide +kernel)) rfl
theorem fl_X7_198 : Cond.fieldLink RX7 198 RX2 (TX2 0).2.1 (TX2 0).2.2.1 ∈ lw_tb := in_tb (List.mem_of_getElem? (i := 129) (by decide +kernel)) rfl
theorem fl_X7_199 : Cond.fieldLink RX7 199 RX2 (TX2 4).2.1 (TX2 4).2.2.1 ∈ lw_tb := in_tb (List.mem_of_getElem? (i := 143) (by decide +kernel)) rfl
theorem ml_X7_202 : Cond.methodLink RX7 202 yX6_distanceTo ∈ lw_tb := in_tb (List.mem_of_getElem? (i := 548) (by decide +kernel)) rfl
theorem ml_X7_206 : Cond.methodLink RX7 206 yX4_bestRewriteFor ∈ lw_tb := in_tb (List.mem_of_getElem? (i := 564) (by decide +kernel)) rfl
theorem ml_X7_209 : Cond.methodLink RX7 209 yX3_atRank ∈ lw_tb := in_tb (List.mem_of_getElem? (i := 569) (by decide +kernel)) rfl
theorem fl_X7_213 : Cond.fieldLink RX7 213 RX2 (TX2 1).2.1 (TX2 1).2.2.1 ∈ lw_tb := in_tb (List.mem_of_getElem? (i := 132) (by decide +kernel)) rfl
theorem ml_X7_216 : Cond.methodLink RX7 216 yX4_worksIn ∈ lw_tb := in_tb (List.mem_of_getElem? (i := 585) (by decide +kernel)) rfl
theorem ml_X7_219 : Cond.methodLink RX7 219 yX4_labelsIn ∈ lw_tb := in_tb (List.mem_of_getElem? (i := 589) (by decide +kernel)) rfl
theorem ml_X7_223 : Cond.methodLink RX7 223 yX4_missingIn ∈ lw_tb := in_tb (List.mem_of_getElem? (i := 594) (by decide +kernel)) rfl
theorem ml_X7_226 : Cond.methodLink RX7 226 yX4_longestIn ∈ lw_tb := in_tb (List.mem_of_getElem? (i := 601) (by decide +kernel)) rfl
theorem ml_X7_229 : Cond.methodLink RX7 229 yX3_handedInBy ∈ lw_tb := in_tb (List.mem_of_getElem? (i := 610) (by decide +kernel)) rfl
theorem fl_X7_232 : Cond.fieldLink RX7 232 RX4 (TX4 3).2.1 (TX4 3).2.2.1 ∈ lw_tb := in_tb (List.mem_of_getElem? (i := 205) (by decide +kernel)) rfl
theorem ml_X7_235 : Cond.methodLink RX7 235 yX3_votesOf ∈ lw_tb := in_tb (List.mem_of_getElem? (i := 614) (by decide +kernel)) rfl
theorem ml_X7_238 : Cond.methodLink RX7 238 yX4_labelsBy ∈ lw_tb := in_tb (List.mem_of_getElem? (i := 619) (by decide +kernel)) rfl
theorem ml_X7_241 : Cond.methodLink RX7 241 yX7_readText ∈ lw_tb := in_tb (List.mem_of_getElem? (i := 377) (by decide +kernel)) rfl
theorem ml_X7_244 : Cond.methodLink RX7 244 yX4_labelsSharing ∈ lw_tb := in_tb (List.mem_of_getElem? (i := 627) (by decide +kernel)) rfl
theorem fl_X7_248 : Cond.fieldLink RX7 248 RX3 (TX3 1).2.1 (TX3 1).2.2.1 ∈ lw_tb := in_tb (List.mem_of_getElem? (i := 162) (by decide +kernel)) rfl
theorem fl_X7_249 : Cond.fieldLink RX7 249 RX3 (TX3 2).2.1 (TX3 2).2.2.1 ∈ lw_tb := in_tb (List.mem_of_getElem? (i := 164) (by decide +kernel)) rfl
theorem ml_X7_252 : Cond.methodLink RX7 252 yX3_allVotes ∈ lw_tb := in_tb (List.mem_of_getElem? (i := 639) (by decide +kernel)) rfl
theorem ml_X7_255 : Cond.methodLink RX7 255 yX4_allMissing ∈ lw_tb := in_tb (List.mem_of_getElem? (i := 643) (by decide +kernel)) rfl
theorem fl_X7_258 : Cond.fieldLink RX7 258 RX4 (TX4 8).2.1 (TX4 8).2.2.1 ∈ lw_tb := in_tb (List.mem_of_getElem? (i := 215) (by decide +kernel)) rfl
theorem fl_X7_261 : Cond.fieldLink RX7 261 RX4 (TX4 9).2.1 (TX4 9).2.2.1 ∈ lw_tb := in_tb (List.mem_of_getElem? (i := 217) (by decide +kernel)) rfl
theorem fl_X7_264 : Cond.fieldLink RX7 264 RX4 (TX4 10).2.1 (TX4 10).2.2.1 ∈ lw_tb := in_tb (List.mem_of_getElem? (i := 219) (by decide +kernel)) rfl
theorem ml_X7_267 : Cond.methodLink RX7 267 yX5_fault ∈ lw_tb := in_tb (List.mem_of_getElem? (i := 381) (by decide +kernel)) rfl
theorem ml_X7_270 : Cond.methodLink RX7 270 yX6_readFrom ∈ lw_tb := in_tb (List.mem_of_getElem? (i := 385) (by decide +kernel)) rfl
theorem ml_X7_274 : Cond.methodLink RX7 274 yX4_limitOf ∈ lw_tb := in_tb (List.mem_of_getElem? (i := 389) (by decide +kernel)) rfl
theorem ml_X8_1 : Cond.methodLink RX8 1 Lib.objectInit ∈ lw_tb := in_tb (List.mem_of_getElem? (i := 653) (by decide +kernel)) rfl
theorem fl_X8_7 : Cond.fieldLink RX8 7 RX8 (TX8 0).2.1 (TX8 0).2.2.1 ∈ lw_tb := in_tb (List.mem_of_getElem? (i := 654) (by decide +kernel)) rfl
theorem fl_X8_13 : Cond.fieldLink RX8 13 RX8 (TX8 3).2.1 (TX8 3).2.2.1 ∈ lw_tb := in_tb (List.mem_of_getElem? (i := 657) (by decide +kernel)) rfl
theorem fl_X8_17 : Cond.fieldLink RX8 17 RX8 (TX8 5).2.1 (TX8 5).2.2.1 ∈ lw_tb := in_tb (List.mem_of_getElem? (i := 659) (by decide +kernel)) rfl
theorem fl_X8_20 : Cond.fieldLink RX8 20 RX8 (TX8 1).2.1 (TX8 1).2.2.1 ∈ lw_tb := in_tb (List.mem_of_getElem? (i := 655) (by decide +kernel)) rfl
theorem ml_X8_24 : Cond.methodLink RX8 24 yX8_copies ∈ lw_tb := in_tb (List.mem_of_getElem? (i := 684) (by decide +kernel)) rfl
theorem ml_X8_28 : Cond.methodLink RX8 28 yX8_rowOf ∈ lw_tb := in_tb (List.mem_of_getElem? (i := 696) (by decide +kernel)) rfl
theorem ml_X8_32 : Cond.methodLink RX8 32 yX8_words ∈ lw_tb := in_tb (List.mem_of_getElem? (i := 703) (by decide +kernel)) rfl
theorem ml_X8_35 : Cond.methodLink RX8 35 yX8_begin ∈ lw_tb := in_tb (List.mem_of_getElem? (i := 707) (by decide +kernel)) rfl
theorem ml_X8_39 : Cond.methodLink RX8 39 yX8_end ∈ lw_tb := in_tb (List.mem_of_getElem? (i := 840) (by decide +kernel)) rfl
theorem ml_X8_42 : Cond.methodLink RX8 42 yX8_wordsOf ∈ lw_tb := in_tb (List.mem_of_getElem? (i := 699) (by decide +kernel)) rfl
theorem ml_X8_45 : Cond.methodLink RX8 45 yX8_cuts ∈ lw_tb := in_tb (List.mem_of_getElem? (i := 692) (by decide +kernel)) rfl
theorem ml_X8_49 : Cond.methodLink RX8 49 yX8_paper ∈ lw_tb := in_tb (List.mem_of_getElem? (i := 765) (by decide +kernel)) rfl
theorem ml_X8_53 : Cond.methodLink RX8 53 yX8_votesFor ∈ lw_tb := in_tb (List.mem_of_getElem? (i := 784) (by decide +kernel)) rfl
theorem fl_X8_56 : Cond.fieldLink RX8 56 RX8 (TX8 4).2.1 (TX8 4).2.2.1 ∈ lw_tb := in_tb (List.mem_of_getElem? (i := 658) (by decide +kernel)) rfl
theorem ml_X8_59 : Cond.methodLink RX8 59 yX8_in ∈ lw_tb := in_tb (List.mem_of_getElem? (i := 677) (by decide +kernel)) rfl
theorem ml_X8_63 : Cond.methodLink RX8 63 yX8_records ∈ lw_tb := in_tb (List.mem_of_getElem? (i := 680) (by decide +kernel)) rfl
theorem ml_X8_66 : Cond.methodLink RX8 66 yX8_cutsAll ∈ lw_tb := in_tb (List.mem_of_getElem? (i := 688) (by decide +kernel)) rfl
theorem ml_X8_69 : Cond.methodLink RX8 69 yX8_bits ∈ lw_tb := in_tb (List.mem_of_getElem? (i := 715) (by decide +kernel)) rfl
theorem ml_X8_72 : Cond.methodLink RX8 72 yX8_isPair ∈ lw_tb := in_tb (List.mem_of_getElem? (i := 726) (by decide +kernel)) rfl
theorem ml_X8_75 : Cond.methodLink RX8 75 yX8_isLabel ∈ lw_tb := in_tb (List.mem_of_getElem? (i := 729) (by decide +kernel)) rfl
theorem ml_X8_78 : Cond.methodLink RX8 78 yX8_fault ∈ lw_tb := in_tb (List.mem_of_getElem? (i := 741) (by decide +kernel)) rfl
theorem ml_X8_82 : Cond.methodLink RX8 82 yX8_wordsTold ∈ lw_tb := in_tb (List.mem_of_getElem? (i := 745) (by decide +kernel)) rfl
theorem ml_X8_85 : Cond.methodLink RX8 85 yX8_isTold ∈ lw_tb := in_tb (List.mem_of_getElem? (i := 749) (by decide +kernel)) rfl
theorem ml_X8_88 : Cond.methodLink RX8 88 yX8_lays ∈ lw_tb := in_tb (List.mem_of_getElem? (i := 753) (by decide +kernel)) rfl
theorem ml_X8_92 : Cond.methodLink RX8 92 yX8_own ∈ lw_tb := in_tb (List.mem_of_getElem? (i := 761) (by decide +kernel)) rfl
theorem ml_X8_95 : Cond.methodLink RX8 95 yX8_free ∈ lw_tb := in_tb (List.mem_of_getElem? (i := 768) (by decide +kernel)) rfl
theorem ml_X8_98 : Cond.methodLink RX8 98 yX8_goes ∈ lw_tb := in_tb (List.mem_of_getElem? (i := 772) (by decide +kernel)) rfl
theorem ml_X8_101 : Cond.methodLink RX8 101 yX8_placeOf ∈ lw_tb := in_tb (List.mem_of_getElem? (i := 780) (by decide +kernel)) rfl
theorem ml_X8_104 : Cond.methodLink RX8 104 yX8_best ∈ lw_tb := in_tb (List.mem_of_getElem? (i := 792) (by decide +kernel)) rfl
theorem fl_X8_107 : Cond.fieldLink RX8 107 RX8 (TX8 2).2.1 (TX8 2).2.2.1 ∈ lw_tb := in_tb (List.mem_of_getElem? (i := 656) (by decide +kernel)) rfl
theorem ml_X8_111 : Cond.methodLink RX8 111 yX8_labels ∈ lw_tb := in_tb (List.mem_of_getElem? (i := 812) (by decide +kernel)) rfl
theorem ml_X8_114 : Cond.methodLink RX8 114 yX8_areAlike ∈ lw_tb := in_tb (List.mem_of_getElem? (i := 836) (by decide +kernel)) rfl
theorem ml_X8_118 : Cond.methodLink RX8 118 yX8_apart ∈ lw_tb := in_tb (List.mem_of_getElem? (i := 832) (by decide +kernel)) rfl
theorem ml_X8_122 : Cond.methodLink RX8 122 yX8_worksOf ∈ lw_tb := in_tb (List.mem_of_getElem? (i := 852) (by decide +kernel)) rfl
theorem ml_X8_125 : Cond.methodLink RX8 125 yX8_labelsOf ∈ lw_tb := in_tb (List.mem_of_getElem? (i := 856) (by decide +kernel)) rfl
theorem ml_X8_128 : Cond.methodLink RX8 128 yX8_rewritesOf ∈ lw_tb := in_tb (List.mem_of_getElem? (i := 864) (by decide +kernel)) rfl
theorem ml_X8_131 : Cond.methodLink RX8 131 yX8_votesOf ∈ lw_tb := in_tb (List.mem_of_getElem? (i := 868) (by decide +kernel)) rfl
theorem ml_X8_134 : Cond.methodLink RX8 134 yX8_standing ∈ lw_tb := in_tb (List.mem_of_getElem? (i := 872) (by decide +kernel)) rfl
theorem ml_X8_137 : Cond.methodLink RX8 137 yX8_hasTold ∈ lw_tb := in_tb (List.mem_of_getElem? (i := 880) (by decide +kernel)) rfl
theorem ml_X8_141 : Cond.methodLink RX8 141 yX8_allVotes ∈ lw_tb := in_tb (List.mem_of_getElem? (i := 888) (by decide +kernel)) rfl
theorem iniL : Cond.initialized RL ∈ lw_tb := in_tb (List.mem_of_getElem? (i := 36) (by decide +kernel)) rfl
theorem iniX7 : Cond.initialized RX7 ∈ lw_tb := in_tb (List.mem_of_getElem? (i := 37) (by decide +kernel)) rfl
theorem iniX5 : Cond.initialized RX5 ∈ lw_tb := in_tb (List.mem_of_getElem? (i := 38) (by decide +kernel)) rfl
theorem iniX6 : Cond.initialized RX6 ∈ lw_tb := in_tb (List.mem_of_getElem? (i := 39) (by decide +kernel)) rfl
theorem iniX4 : Cond.initialized RX4 ∈ lw_tb := in_tb (List.mem_of_getElem? (i := 40) (by decide +kernel)) rfl
theorem iniX3 : Cond.initialized RX3 ∈ lw_tb := in_tb (List.mem_of_getElem? (i := 41) (by decide +kernel)) rfl
theorem iniX2 : Cond.initialized RX2 ∈ lw_tb := in_tb (List.mem_of_getElem? (i := 42) (by decide +kernel)) rfl
theorem iniJ7 : Cond.initialized RJ7 ∈ lw_tb := in_tb (List.mem_of_getElem? (i := 43) (by decide +kernel)) rfl
theorem iniX1 : Cond.initialized RX1 ∈ lw_tb := in_tb (List.mem_of_getElem? (i := 44) (by decide +kernel)) rfl
theorem iniX0 : Cond.initialized RX0 ∈ lw_tb := in_tb (List.mem_of_getElem? (i := 45) (by decide +kernel)) rfl
theorem iniX8 : Cond.initialized RX8 ∈ lw_tb := in_tb (List.mem_of_getElem? (i := 46) (by decide +kernel)) rfl
theorem iniJ6 : Cond.initialized RJ6 ∈ lw_tb := in_tb (List.mem_of_getElem? (i := 48) (by decide +kernel)) rfl
theorem iniJ9 : Cond.initialized RJ9 ∈ lw_tb := in_tb (List.mem_of_getElem? (i := 49) (by decide +kernel)) rfl
theorem insX7 : Cond.instantiable RX7 7 ∈ lw_tb := in_tb (List.mem_of_getElem? (i := 51) (by decide +kernel)) rfl
theorem insX5 : Cond.instantiable RX5 2 ∈ lw_tb := in_tb (List.mem_of_getElem? (i := 59) (by decide +kernel)) rfl
theorem insX6 : Cond.instantiable RX6 4 ∈ lw_tb := in_tb (List.mem_of_getElem? (i := 76) (by decide +kernel)) rfl
theorem insX4 : Cond.instantiable RX4 11 ∈ lw_tb := in_tb (List.mem_of_getElem? (i := 104) (by decide +kernel)) rfl
theorem insX3 : Cond.instantiable RX3 3 ∈ lw_tb := in_tb (List.mem_of_getElem? (i := 112) (by decide +kernel)) rfl
theorem insX2 : Cond.instantiable RX2 6 ∈ lw_tb := in_tb (List.mem_of_getElem? (i := 119) (by decide +kernel)) rfl
theorem insX1 : Cond.instantiable RX1 4 ∈ lw_tb := in_tb (List.mem_of_getElem? (i := 175) (by decide +kernel)) rfl
theorem insX0 : Cond.instantiable RX0 3 ∈ lw_tb := in_tb (List.mem_of_getElem? (i := 244) (by decide +kernel)) rfl
theorem ct_J6_265 : Cond.constant RJ6 265 (1431655765 : Int32) ∈ lw_tb := in_tb (List.mem_of_getElem? (i := 358) (by decide +kernel)) rfl
theorem ct_J6_266 : Cond.constant RJ6 266 (858993459 : Int32) ∈ lw_tb := in_tb (List.mem_of_getElem? (i := 359) (by decide +kernel)) rfl
theorem ct_J6_267 : Cond.constant RJ6 267 (252645135 : Int32) ∈ lw_tb := in_tb (List.mem_of_getElem? (i := 360) (by decide +kernel)) rfl
theorem insX8 : Cond.instantiable RX8 6 ∈ lw_tb := in_tb (List.mem_of_getElem? (i := 649) (by decide +kernel)) rfl
abbrev mX0_init : MI := (yX0_init, cX0_init, 2, none)
theorem ooX0_init : MO mX0_init 0 := ⟨in_tb (List.mem_of_getElem? (i := 247) (by decide +kernel)) rfl, iniX0, ⟨by decide +kernel, by decide +kernel⟩, by decide +kernel, by decide⟩
theorem oX0_init : MN mX0_init 0 := ⟨ooX0_init, in_tb (List.mem_of_getElem? (i := 246) (by decide +kernel)) rfl, rfl, rfl⟩
abbrev mX0_push : MI := (yX0_push, cX0_push, 2, none)
theorem ooX0_push : MO mX0_push 1 := ⟨in_tb (List.mem_of_getElem? (i := 295) (by decide +kernel)) rfl, iniX0, ⟨by decide +kernel, by decide +kernel⟩, by decide +kernel, by decide⟩
theorem oX0_push : MV mX0_push 1 0 := ⟨ooX0_push, in_tb (List.mem_of_getElem? (i := 293) (by decide +kernel)) rfl, in_tb (List.mem_of_getElem? (i := 294) (by decide +kernel)) rfl, by decide +kernel⟩
abbrev mX0_popInto : MI := (yX0_popInto, cX0_popInto, 2, none)
theorem ooX0_popInto : MO mX0_popInto 1 := ⟨in_tb (List.mem_of_getElem? (i := 517) (by decide +kernel)) rfl, iniX0, ⟨by decide +kernel, by decide +kernel⟩, by decide +kernel, by decide⟩
theorem oX0_popInto : MV mX0_popInto 1 0 := ⟨ooX0_popInto, in_tb (List.mem_of_getElem? (i := 515) (by decide +kernel)) rfl, in_tb (List.mem_of_getElem? (i := 516) (by decide +kernel)) rfl, by decide +kernel⟩
abbrev mX1_init : MI := (yX1_init, cX1_init, 1, none)
theorem ooX1_init : MO mX1_init 0 := ⟨in_tb (List.mem_of_getElem? (i := 178) (by decide +kernel)) rfl, iniX1, ⟨by decide +kernel, by decide +kernel⟩, by decide +kernel, by decide⟩
theorem oX1_init : MN mX1_init 0 := ⟨ooX1_init, in_tb (List.mem_of_getElem? (i := 177) (by decide +kernel)) rfl, rfl, rfl⟩
abbrev mX1_stands : MI := (yX1_stands, cX1_stands, 1, (some .boolean))
theorem ooX1_stands : MO mX1_stands 0 := ⟨in_tb (List.mem_of_getElem? (i := 406) (by decide +kernel)) rfl, iniX1, ⟨by decide +kernel, by decide +kernel⟩, by decide +kernel, by decide⟩
theorem oX1_stands : MV mX1_stands 0 1 := ⟨ooX1_stands, in_tb (List.mem_of_getElem? (i := 404) (by decide +kernel)) rfl, in_tb (List.mem_of_getElem? (i := 405) (by decide +kernel)) rfl, by decide +kernel⟩
abbrev mX1_become : MI := (yX1_become, cX1_become, 4, none)
theorem ooX1_become : MO mX1_become 3 := ⟨in_tb (List.mem_of_getElem? (i := 398) (by decide +kernel)) rfl, iniX1, ⟨by decide +kernel, by decide +kernel⟩, by decide +kernel, by decide⟩
theorem oX1_become : MV mX1_become 3 1 := ⟨ooX1_become, in_tb (List.mem_of_getElem? (i := 396) (by decide +kernel)) rfl, in_tb (List.mem_of_getElem? (i := 397) (by decide +kernel)) rfl, by decide +kernel⟩
abbrev mX1_copyFrom : MI := (yX1_copyFrom, cX1_copyFrom, 2, none)
theorem ooX1_copyFrom : MO mX1_copyFrom 1 := ⟨in_tb (List.mem_of_getElem? (i := 306) (by decide +kernel)) rfl, iniX1, ⟨by decide +kernel, by decide +kernel⟩, by decide +kernel, by decide⟩
theorem oX1_copyFrom : MV mX1_copyFrom 1 1 := ⟨ooX1_copyFrom, in_tb (List.mem_of_getElem? (i := 304) (by decide +kernel)) rfl, in_tb (List.mem_of_getElem? (i := 305) (by decide +kernel)) rfl, by decide +kernel⟩
abbrev mX1_cutTo : MI := (yX1_cutTo, cX1_cutTo, 2, (some .boolean))
theorem ooX1_cutTo : MO mX1_cutTo 1 := ⟨in_tb (List.mem_of_getElem? (i := 339) (by decide +kernel)) rfl, iniX1, ⟨by decide +kernel, by decide +kernel⟩, by decide +kernel, by decide⟩
theorem oX1_cutTo : MV mX1_cutTo 1 1 := ⟨ooX1_cutTo, in_tb (List.mem_of_getElem? (i := 337) (by decide +kernel)) rfl, in_tb (List.mem_of_getElem? (i := 338) (by decide +kernel)) rfl, by decide +kernel⟩
abbrev mX1_told : MI := (yX1_told, cX1_told, 2, (some .int))
theorem ooX1_told : MO mX1_told 1 := ⟨in_tb (List.mem_of_getElem? (i := 539) (by decide +kernel)) rfl, iniX1, ⟨by decide +kernel, by decide +kernel⟩, by decide +kernel, by decide⟩
theorem oX1_told : MV mX1_told 1 1 := ⟨ooX1_told, in_tb (List.mem_of_getElem? (i := 537) (by decide +kernel)) rfl, in_tb (List.mem_of_getElem? (i := 538) (by decide +kernel)) rfl, by decide +kernel⟩
abbrev mX2_init : MI := (yX2_init, cX2_init, 1, none)
theorem ooX2_init : MO mX2_init 0 := ⟨in_tb (List.mem_of_getElem? (i := 122) (by decide +kernel)) rfl, iniX2, ⟨by decide +kernel, by decide +kernel⟩, by decide +kernel, by decide⟩
theorem oX2_init : MN mX2_init 0 := ⟨ooX2_init, in_tb (List.mem_of_getElem? (i := 121) (by decide +kernel)) rfl, rfl, rfl⟩
abbrev mX2_become : MI := (yX2_become, cX2_become, 5, none)
theorem ooX2_become : MO mX2_become 4 := ⟨in_tb (List.mem_of_getElem? (i := 441) (by decide +kernel)) rfl, iniX2, ⟨by decide +kernel, by decide +kernel⟩, by decide +kernel, by decide⟩
theorem oX2_become : MV mX2_become 4 2 := ⟨ooX2_become, in_tb (List.mem_of_getElem? (i := 439) (by decide +kernel)) rfl, in_tb (List.mem_of_getElem? (i := 440) (by decide +kernel)) rfl, by decide +kernel⟩
abbrev mX2_copyFrom : MI := (yX2_copyFrom, cX2_copyFrom, 2, none)
theorem ooX2_copyFrom : MO mX2_copyFrom 1 := ⟨in_tb (List.mem_of_getElem? (i := 319) (by decide +kernel)) rfl, iniX2, ⟨by decide +kernel, by decide +kernel⟩, by decide +kernel, by decide⟩
theorem oX2_copyFrom : MV mX2_copyFrom 1 2 := ⟨ooX2_copyFrom, in_tb (List.mem_of_getElem? (i := 317) (by decide +kernel)) rfl, in_tb (List.mem_of_getElem? (i := 318) (by decide +kernel)) rfl, by decide +kernel⟩
abbrev mX2_hasVoteOf : MI := (yX2_hasVoteOf, cX2_hasVoteOf, 2, (some .boolean))
theorem ooX2_hasVoteOf : MO mX2_hasVoteOf 1 := ⟨in_tb (List.mem_of_getElem? (i := 453) (by decide +kernel)) rfl, iniX2, ⟨by decide +kernel, by decide +kernel⟩, by decide +kernel, by decide⟩
theorem oX2_hasVoteOf : MV mX2_hasVoteOf 1 2 := ⟨ooX2_hasVoteOf, in_tb (List.mem_of_getElem? (i := 451) (by decide +kernel)) rfl, in_tb (List.mem_of_getElem? (i := 452) (by decide +kernel)) rfl, by decide +kernel⟩
abbrev mX2_votes : MI := (yX2_votes, cX2_votes, 1, (some .int))
theorem ooX2_votes : MO mX2_votes 0 := ⟨in_tb (List.mem_of_getElem? (i := 461) (by decide +kernel)) rfl, iniX2, ⟨by decide +kernel, by decide +kernel⟩, by decide +kernel, by decide⟩
theorem oX2_votes : MV mX2_votes 0 2 := ⟨ooX2_votes, in_tb (List.mem_of_getElem? (i := 459) (by decide +kernel)) rfl, in_tb (List.mem_of_getElem? (i := 460) (by decide +kernel)) rfl, by decide +kernel⟩
abbrev mX2_hasMoreVotesOrLowerNumber : MI := (yX2_hasMoreVotesOrLowerNumber, cX2_hasMoreVotesOrLowerNumber, 4, (some .boolean))
theorem ooX2_hasMoreVotesOrLowerNumber : MO mX2_hasMoreVotesOrLowerNumber 1 := ⟨in_tb (List.mem_of_getElem? (i := 580) (by decide +kernel)) rfl, iniX2, ⟨by decide +kernel, by decide +kernel⟩, by decide +kernel, by decide⟩
theorem oX2_hasMoreVotesOrLowerNumber : MV mX2_hasMoreVotesOrLowerNumber 1 2 := ⟨ooX2_hasMoreVotesOrLowerNumber, in_tb (List.mem_of_getElem? (i := 578) (by decide +kernel)) rfl, in_tb (List.mem_of_getElem? (i := 579) (by decide +kernel)) rfl, by decide +kernel⟩
abbrev mX2_hasMoreVotesOrFewerWords : MI := (yX2_hasMoreVotesOrFewerWords, cX2_hasMoreVotesOrFewerWords, 4, (some .boolean))
theorem ooX2_hasMoreVotesOrFewerWords : MO mX2_hasMoreVotesOrFewerWords 1 := ⟨in_tb (List.mem_of_getElem? (i := 483) (by decide +kernel)) rfl, iniX2, ⟨by decide +kernel, by decide +kernel⟩, by decide +kernel, by decide⟩
theorem oX2_hasMoreVotesOrFewerWords : MV mX2_hasMoreVotesOrFewerWords 1 2 := ⟨ooX2_hasMoreVotesOrFewerWords, in_tb (List.mem_of_getElem? (i := 481) (by decide +kernel)) rfl, in_tb (List.mem_of_getElem? (i := 482) (by decide +kernel)) rfl, by decide +kernel⟩
abbrev mX3_init : MI := (yX3_init, cX3_init, 2, none)
theorem ooX3_init : MO mX3_init 0 := ⟨in_tb (List.mem_of_getElem? (i := 115) (by decide +kernel)) rfl, iniX3, ⟨by decide +kernel, by decide +kernel⟩, by decide +kernel, by decide⟩
theorem oX3_init : MN mX3_init 0 := ⟨ooX3_init, in_tb (List.mem_of_getElem? (i := 114) (by decide +kernel)) rfl, rfl, rfl⟩
abbrev mX3_copyFrom : MI := (yX3_copyFrom, cX3_copyFrom, 3, none)
theorem ooX3_copyFrom : MO mX3_copyFrom 1 := ⟨in_tb (List.mem_of_getElem? (i := 315) (by decide +kernel)) rfl, iniX3, ⟨by decide +kernel, by decide +kernel⟩, by decide +kernel, by decide⟩
theorem oX3_copyFrom : MV mX3_copyFrom 1 3 := ⟨ooX3_copyFrom, in_tb (List.mem_of_getElem? (i := 313) (by decide +kernel)) rfl, in_tb (List.mem_of_getElem? (i := 314) (by decide +kernel)) rfl, by decide +kernel⟩
abbrev mX3_withNumber : MI := (yX3_withNumber, cX3_withNumber, 3, (some (.object "VotedLabels$Rewrite")))
theorem ooX3_withNumber : MO mX3_withNumber 1 := ⟨in_tb (List.mem_of_getElem? (i := 449) (by decide +kernel)) rfl, iniX3, ⟨by decide +kernel, by decide +kernel⟩, by decide +kernel, by decide⟩
theorem oX3_withNumber : MV mX3_withNumber 1 3 := ⟨ooX3_withNumber, in_tb (List.mem_of_getElem? (i := 447) (by decide +kernel)) rfl, in_tb (List.mem_of_getElem? (i := 448) (by decide +kernel)) rfl, by decide +kernel⟩
abbrev mX3_hasRoomFor : MI := (yX3_hasRoomFor, cX3_hasRoomFor, 4, (some .boolean))
theorem ooX3_hasRoomFor : MO mX3_hasRoomFor 2 := ⟨in_tb (List.mem_of_getElem? (i := 425) (by decide +kernel)) rfl, iniX3, ⟨by decide +kernel, by decide +kernel⟩, by decide +kernel, by decide⟩
theorem oX3_hasRoomFor : MV mX3_hasRoomFor 2 3 := ⟨ooX3_hasRoomFor, in_tb (List.mem_of_getElem? (i := 423) (by decide +kernel)) rfl, in_tb (List.mem_of_getElem? (i := 424) (by decide +kernel)) rfl, by decide +kernel⟩
abbrev mX3_handIn : MI := (yX3_handIn, cX3_handIn, 6, (some .int))
theorem ooX3_handIn : MO mX3_handIn 3 := ⟨in_tb (List.mem_of_getElem? (i := 433) (by decide +kernel)) rfl, iniX3, ⟨by decide +kernel, by decide +kernel⟩, by decide +kernel, by decide⟩
theorem oX3_handIn : MV mX3_handIn 3 3 := ⟨ooX3_handIn, in_tb (List.mem_of_getElem? (i := 431) (by decide +kernel)) rfl, in_tb (List.mem_of_getElem? (i := 432) (by decide +kernel)) rfl, by decide +kernel⟩
abbrev mX3_indexBy : MI := (yX3_indexBy, cX3_indexBy, 4, (some .int))
theorem ooX3_indexBy : MO mX3_indexBy 2 := ⟨in_tb (List.mem_of_getElem? (i := 429) (by decide +kernel)) rfl, iniX3, ⟨by decide +kernel, by decide +kernel⟩, by decide +kernel, by decide⟩
theorem oX3_indexBy : MV mX3_indexBy 2 3 := ⟨ooX3_indexBy, in_tb (List.mem_of_getElem? (i := 428) (by decide +kernel)) rfl, in_tb (List.mem_of_getElem? (i := 2) (by decide +kernel)) rfl, by decide +kernel⟩
abbrev mX3_removeAt : MI := (yX3_removeAt, cX3_removeAt, 4, none)
theorem ooX3_removeAt : MO mX3_removeAt 1 := ⟨in_tb (List.mem_of_getElem? (i := 437) (by decide +kernel)) rfl, iniX3, ⟨by decide +kernel, by decide +kernel⟩, by decide +kernel, by decide⟩
theorem oX3_removeAt : MV mX3_removeAt 1 3 := ⟨ooX3_removeAt, in_tb (List.mem_of_getElem? (i := 436) (by decide +kernel)) rfl, in_tb (List.mem_of_getElem? (i := 3) (by decide +kernel)) rfl, by decide +kernel⟩
abbrev mX3_remove : MI := (yX3_remove, cX3_remove, 3, none)
theorem ooX3_remove : MO mX3_remove 1 := ⟨in_tb (List.mem_of_getElem? (i := 493) (by decide +kernel)) rfl, iniX3, ⟨by decide +kernel, by decide +kernel⟩, by decide +kernel, by decide⟩
theorem oX3_remove : MV mX3_remove 1 3 := ⟨ooX3_remove, in_tb (List.mem_of_getElem? (i := 491) (by decide +kernel)) rfl, in_tb (List.mem_of_getElem? (i := 492) (by decide +kernel)) rfl, by decide +kernel⟩
abbrev mX3_takeVoteBack : MI := (yX3_takeVoteBack, cX3_takeVoteBack, 4, none)
theorem ooX3_takeVoteBack : MO mX3_takeVoteBack 2 := ⟨in_tb (List.mem_of_getElem? (i := 457) (by decide +kernel)) rfl, iniX3, ⟨by decide +kernel, by decide +kernel⟩, by decide +kernel, by decide⟩
theorem oX3_takeVoteBack : MV mX3_takeVoteBack 2 3 := ⟨ooX3_takeVoteBack, in_tb (List.mem_of_getElem? (i := 455) (by decide +kernel)) rfl, in_tb (List.mem_of_getElem? (i := 456) (by decide +kernel)) rfl, by decide +kernel⟩
abbrev mX3_bestFor : MI := (yX3_bestFor, cX3_bestFor, 8, (some (.object "VotedLabels$Rewrite")))
theorem ooX3_bestFor : MO mX3_bestFor 3 := ⟨in_tb (List.mem_of_getElem? (i := 478) (by decide +kernel)) rfl, iniX3, ⟨by decide +kernel, by decide +kernel⟩, by decide +kernel, by decide⟩
theorem oX3_bestFor : MV mX3_bestFor 3 3 := ⟨ooX3_bestFor, in_tb (List.mem_of_getElem? (i := 476) (by decide +kernel)) rfl, in_tb (List.mem_of_getElem? (i := 477) (by decide +kernel)) rfl, by decide +kernel⟩
abbrev mX3_atRank : MI := (yX3_atRank, cX3_atRank, 4, (some (.object "VotedLabels$Rewrite")))
theorem ooX3_atRank : MO mX3_atRank 2 := ⟨in_tb (List.mem_of_getElem? (i := 572) (by decide +kernel)) rfl, iniX3, ⟨by decide +kernel, by decide +kernel⟩, by decide +kernel, by decide⟩
theorem oX3_atRank : MV mX3_atRank 2 3 := ⟨ooX3_atRank, in_tb (List.mem_of_getElem? (i := 570) (by decide +kernel)) rfl, in_tb (List.mem_of_getElem? (i := 571) (by decide +kernel)) rfl, by decide +kernel⟩
abbrev mX3_aheadOf : MI := (yX3_aheadOf, cX3_aheadOf, 4, (some .int))
theorem ooX3_aheadOf : MO mX3_aheadOf 1 := ⟨in_tb (List.mem_of_getElem? (i := 576) (by decide +kernel)) rfl, iniX3, ⟨by decide +kernel, by decide +kernel⟩, by decide +kernel, by decide⟩
theorem oX3_aheadOf : MV mX3_aheadOf 1 3 := ⟨ooX3_aheadOf, in_tb (List.mem_of_getElem? (i := 575) (by decide +kernel)) rfl, in_tb (List.mem_of_getElem? (i := 6) (by decide +kernel)) rfl, by decide +kernel⟩
abbrev mX3_growOlder : MI := (yX3_growOlder, cX3_growOlder, 3, (some .int))
theorem ooX3_growOlder : MO mX3_growOlder 0 := ⟨in_tb (List.mem_of_getElem? (i := 497) (by decide +kernel)) rfl, iniX3, ⟨by decide +kernel, by decide +kernel⟩, by decide +kernel, by decide⟩
theorem oX3_growOlder : MV mX3_growOlder 0 3 := ⟨ooX3_growOlder, in_tb (List.mem_of_getElem? (i := 495) (by decide +kernel)) rfl, in_tb (List.mem_of_getElem? (i := 496) (by decide +kernel)) rfl, by decide +kernel⟩
abbrev mX3_handedInBy : MI := (yX3_handedInBy, cX3_handedInBy, 4, (some .int))
theorem ooX3_handedInBy : MO mX3_handedInBy 1 := ⟨in_tb (List.mem_of_getElem? (i := 613) (by decide +kernel)) rfl, iniX3, ⟨by decide +kernel, by decide +kernel⟩, by decide +kernel, by decide⟩
theorem oX3_handedInBy : MV mX3_handedInBy 1 3 := ⟨ooX3_handedInBy, in_tb (List.mem_of_getElem? (i := 611) (by decide +kernel)) rfl, in_tb (List.mem_of_getElem? (i := 612) (by decide +kernel)) rfl, by decide +kernel⟩
abbrev mX3_votesOf : MI := (yX3_votesOf, cX3_votesOf, 4, (some .int))
theorem ooX3_votesOf : MO mX3_votesOf 1 := ⟨in_tb (List.mem_of_getElem? (i := 617) (by decide +kernel)) rfl, iniX3, ⟨by decide +kernel, by decide +kernel⟩, by decide +kernel, by decide⟩
theorem oX3_votesOf : MV mX3_votesOf 1 3 := ⟨ooX3_votesOf, in_tb (List.mem_of_getElem? (i := 615) (by decide +kernel)) rfl, in_tb (List.mem_of_getElem? (i := 616) (by decide +kernel)) rfl, by decide +kernel⟩
abbrev mX3_allVotes : MI := (yX3_allVotes, cX3_allVotes, 3, (some .int))
theorem ooX3_allVotes : MO mX3_allVotes 0 := ⟨in_tb (List.mem_of_getElem? (i := 642) (by decide +kernel)) rfl, iniX3, ⟨by decide +kernel, by decide +kernel⟩, by decide +kernel, by decide⟩
theorem oX3_allVotes : MV mX3_allVotes 0 3 := ⟨ooX3_allVotes, in_tb (List.mem_of_getElem? (i := 640) (by decide +kernel)) rfl, in_tb (List.mem_of_getElem? (i := 641) (by decide +kernel)) rfl, by decide +kernel⟩
abbrev mX4_init : MI := (yX4_init, cX4_init, 2, none)
theorem ooX4_init : MO mX4_init 0 := ⟨in_tb (List.mem_of_getElem? (i := 107) (by decide +kernel)) rfl, iniX4, ⟨by decide +kernel, by decide +kernel⟩, by decide +kernel, by decide⟩
theorem oX4_init : MN mX4_init 0 := ⟨ooX4_init, in_tb (List.mem_of_getElem? (i := 106) (by decide +kernel)) rfl, rfl, rfl⟩
abbrev mX4_copyFrom : MI := (yX4_copyFrom, cX4_copyFrom, 3, none)
theorem ooX4_copyFrom : MO mX4_copyFrom 1 := ⟨in_tb (List.mem_of_getElem? (i := 299) (by decide +kernel)) rfl, iniX4, ⟨by decide +kernel, by decide +kernel⟩, by decide +kernel, by decide⟩
theorem oX4_copyFrom : MV mX4_copyFrom 1 4 := ⟨ooX4_copyFrom, in_tb (List.mem_of_getElem? (i := 297) (by decide +kernel)) rfl, in_tb (List.mem_of_getElem? (i := 298) (by decide +kernel)) rfl, by decide +kernel⟩
abbrev mX4_limitOf : MI := (yX4_limitOf, cX4_limitOf, 2, (some .int))
theorem ooX4_limitOf : MO mX4_limitOf 1 := ⟨in_tb (List.mem_of_getElem? (i := 332) (by decide +kernel)) rfl, iniX4, ⟨by decide +kernel, by decide +kernel⟩, by decide +kernel, by decide⟩
theorem oX4_limitOf : MV mX4_limitOf 1 4 := ⟨ooX4_limitOf, in_tb (List.mem_of_getElem? (i := 330) (by decide +kernel)) rfl, in_tb (List.mem_of_getElem? (i := 331) (by decide +kernel)) rfl, by decide +kernel⟩
abbrev mX4_asksFor : MI := (yX4_asksFor, cX4_asksFor, 3, (some .boolean))
theorem ooX4_asksFor : MO mX4_asksFor 2 := ⟨in_tb (List.mem_of_getElem? (i := 354) (by decide +kernel)) rfl, iniX4, ⟨by decide +kernel, by decide +kernel⟩, by decide +kernel, by decide⟩
theorem oX4_asksFor : MV mX4_asksFor 2 4 := ⟨ooX4_asksFor, in_tb (List.mem_of_getElem? (i := 352) (by decide +kernel)) rfl, in_tb (List.mem_of_getElem? (i := 353) (by decide +kernel)) rfl, by decide +kernel⟩
abbrev mX4_changeLimit : MI := (yX4_changeLimit, cX4_changeLimit, 5, (some .int))
theorem ooX4_changeLimit : MO mX4_changeLimit 2 := ⟨in_tb (List.mem_of_getElem? (i := 324) (by decide +kernel)) rfl, iniX4, ⟨by decide +kernel, by decide +kernel⟩, by decide +kernel, by decide⟩
theorem oX4_changeLimit : MV mX4_changeLimit 2 4 := ⟨ooX4_changeLimit, in_tb (List.mem_of_getElem? (i := 322) (by decide +kernel)) rfl, in_tb (List.mem_of_getElem? (i := 323) (by decide +kernel)) rfl, by decide +kernel⟩
abbrev mX4_cutLabelsOf : MI := (yX4_cutLabelsOf, cX4_cutLabelsOf, 5, (some .int))
theorem ooX4_cutLabelsOf : MO mX4_cutLabelsOf 1 := ⟨in_tb (List.mem_of_getElem? (i := 328) (by decide +kernel)) rfl, iniX4, ⟨by decide +kernel, by decide +kernel⟩, by decide +kernel, by decide⟩
theorem oX4_cutLabelsOf : MV mX4_cutLabelsOf 1 4 := ⟨ooX4_cutLabelsOf, in_tb (List.mem_of_getElem? (i := 326) (by decide +kernel)) rfl, in_tb (List.mem_of_getElem? (i := 327) (by decide +kernel)) rfl, by decide +kernel⟩
abbrev mX4_bestRewriteFor : MI := (yX4_bestRewriteFor, cX4_bestRewriteFor, 2, (some (.object "VotedLabels$Rewrite")))
theorem ooX4_bestRewriteFor : MO mX4_bestRewriteFor 1 := ⟨in_tb (List.mem_of_getElem? (i := 474) (by decide +kernel)) rfl, iniX4, ⟨by decide +kernel, by decide +kernel⟩, by decide +kernel, by decide⟩
theorem oX4_bestRewriteFor : MV mX4_bestRewriteFor 1 4 := ⟨ooX4_bestRewriteFor, in_tb (List.mem_of_getElem? (i := 472) (by decide +kernel)) rfl, in_tb (List.mem_of_getElem? (i := 473) (by decide +kernel)) rfl, by decide +kernel⟩
abbrev mX4_passWeek : MI := (yX4_passWeek, cX4_passWeek, 4, (some .int))
theorem ooX4_passWeek : MO mX4_passWeek 0 := ⟨in_tb (List.mem_of_getElem? (i := 470) (by decide +kernel)) rfl, iniX4, ⟨by decide +kernel, by decide +kernel⟩, by decide +kernel, by decide⟩
theorem oX4_passWeek : MV mX4_passWeek 0 4 := ⟨ooX4_passWeek, in_tb (List.mem_of_getElem? (i := 468) (by decide +kernel)) rfl, in_tb (List.mem_of_getElem? (i := 469) (by decide +kernel)) rfl, by decide +kernel⟩
abbrev mX4_accept : MI := (yX4_accept, cX4_accept, 2, none)
theorem ooX4_accept : MO mX4_accept 1 := ⟨in_tb (List.mem_of_getElem? (i := 488) (by decide +kernel)) rfl, iniX4, ⟨by decide +kernel, by decide +kernel⟩, by decide +kernel, by decide⟩
theorem oX4_accept : MV mX4_accept 1 4 := ⟨ooX4_accept, in_tb (List.mem_of_getElem? (i := 487) (by decide +kernel)) rfl, in_tb (List.mem_of_getElem? (i := 4) (by decide +kernel)) rfl, by decide +kernel⟩
abbrev mX4_allLabels : MI := (yX4_allLabels, cX4_allLabels, 3, (some .int))
theorem ooX4_allLabels : MO mX4_allLabels 0 := ⟨in_tb (List.mem_of_getElem? (i := 526) (by decide +kernel)) rfl, iniX4, ⟨by decide +kernel, by decide +kernel⟩, by decide +kernel, by decide⟩
theorem oX4_allLabels : MV mX4_allLabels 0 4 := ⟨ooX4_allLabels, in_tb (List.mem_of_getElem? (i := 524) (by decide +kernel)) rfl, in_tb (List.mem_of_getElem? (i := 525) (by decide +kernel)) rfl, by decide +kernel⟩
abbrev mX4_labelsBy : MI := (yX4_labelsBy, cX4_labelsBy, 4, (some .int))
theorem ooX4_labelsBy : MO mX4_labelsBy 1 := ⟨in_tb (List.mem_of_getElem? (i := 622) (by decide +kernel)) rfl, iniX4, ⟨by decide +kernel, by decide +kernel⟩, by decide +kernel, by decide⟩
theorem oX4_labelsBy : MV mX4_labelsBy 1 4 := ⟨ooX4_labelsBy, in_tb (List.mem_of_getElem? (i := 620) (by decide +kernel)) rfl, in_tb (List.mem_of_getElem? (i := 621) (by decide +kernel)) rfl, by decide +kernel⟩
abbrev mX4_labelsSharing : MI := (yX4_labelsSharing, cX4_labelsSharing, 5, (some .int))
theorem ooX4_labelsSharing : MO mX4_labelsSharing 2 := ⟨in_tb (List.mem_of_getElem? (i := 630) (by decide +kernel)) rfl, iniX4, ⟨by decide +kernel, by decide +kernel⟩, by decide +kernel, by decide⟩
theorem oX4_labelsSharing : MV mX4_labelsSharing 2 4 := ⟨ooX4_labelsSharing, in_tb (List.mem_of_getElem? (i := 628) (by decide +kernel)) rfl, in_tb (List.mem_of_getElem? (i := 629) (by decide +kernel)) rfl, by decide +kernel⟩
abbrev mX4_worksIn : MI := (yX4_worksIn, cX4_worksIn, 4, (some .int))
theorem ooX4_worksIn : MO mX4_worksIn 1 := ⟨in_tb (List.mem_of_getElem? (i := 588) (by decide +kernel)) rfl, iniX4, ⟨by decide +kernel, by decide +kernel⟩, by decide +kernel, by decide⟩
theorem oX4_worksIn : MV mX4_worksIn 1 4 := ⟨ooX4_worksIn, in_tb (List.mem_of_getElem? (i := 586) (by decide +kernel)) rfl, in_tb (List.mem_of_getElem? (i := 587) (by decide +kernel)) rfl, by decide +kernel⟩
abbrev mX4_labelsIn : MI := (yX4_labelsIn, cX4_labelsIn, 7, (some .int))
theorem ooX4_labelsIn : MO mX4_labelsIn 2 := ⟨in_tb (List.mem_of_getElem? (i := 592) (by decide +kernel)) rfl, iniX4, ⟨by decide +kernel, by decide +kernel⟩, by decide +kernel, by decide⟩
theorem oX4_labelsIn : MV mX4_labelsIn 2 4 := ⟨ooX4_labelsIn, in_tb (List.mem_of_getElem? (i := 590) (by decide +kernel)) rfl, in_tb (List.mem_of_getElem? (i := 591) (by decide +kernel)) rfl, by decide +kernel⟩
abbrev mX4_missingIn : MI := (yX4_missingIn, cX4_missingIn, 2, (some .int))
theorem ooX4_missingIn : MO mX4_missingIn 1 := ⟨in_tb (List.mem_of_getElem? (i := 597) (by decide +kernel)) rfl, iniX4, ⟨by decide +kernel, by decide +kernel⟩, by decide +kernel, by decide⟩
theorem oX4_missingIn : MV mX4_missingIn 1 4 := ⟨ooX4_missingIn, in_tb (List.mem_of_getElem? (i := 595) (by decide +kernel)) rfl, in_tb (List.mem_of_getElem? (i := 596) (by decide +kernel)) rfl, by decide +kernel⟩
abbrev mX4_allMissing : MI := (yX4_allMissing, cX4_allMissing, 3, (some .int))
theorem ooX4_allMissing : MO mX4_allMissing 0 := ⟨in_tb (List.mem_of_getElem? (i := 646) (by decide +kernel)) rfl, iniX4, ⟨by decide +kernel, by decide +kernel⟩, by decide +kernel, by decide⟩
theorem oX4_allMissing : MV mX4_allMissing 0 4 := ⟨ooX4_allMissing, in_tb (List.mem_of_getElem? (i := 644) (by decide +kernel)) rfl, in_tb (List.mem_of_getElem? (i := 645) (by decide +kernel)) rfl, by decide +kernel⟩
abbrev mX4_longestIn : MI := (yX4_longestIn, cX4_longestIn, 4, (some .int))
theorem ooX4_longestIn : MO mX4_longestIn 1 := ⟨in_tb (List.mem_of_getElem? (i := 604) (by decide +kernel)) rfl, iniX4, ⟨by decide +kernel, by decide +kernel⟩, by decide +kernel, by decide⟩
theorem oX4_longestIn : MV mX4_longestIn 1 4 := ⟨ooX4_longestIn, in_tb (List.mem_of_getElem? (i := 602) (by decide +kernel)) rfl, in_tb (List.mem_of_getElem? (i := 603) (by decide +kernel)) rfl, by decide +kernel⟩
abbrev mX5_init : MI := (yX5_init, cX5_init, 1, none)
theorem ooX5_init : MO mX5_init 0 := ⟨in_tb (List.mem_of_getElem? (i := 62) (by decide +kernel)) rfl, iniX5, ⟨by decide +kernel, by decide +kernel⟩, by decide +kernel, by decide⟩
theorem oX5_init : MN mX5_init 0 := ⟨ooX5_init, in_tb (List.mem_of_getElem? (i := 61) (by decide +kernel)) rfl, rfl, rfl⟩
abbrev mX5_add : MI := (yX5_add, cX5_add, 2, (some .boolean))
theorem ooX5_add : MO mX5_add 1 := ⟨in_tb (List.mem_of_getElem? (i := 505) (by decide +kernel)) rfl, iniX5, ⟨by decide +kernel, by decide +kernel⟩, by decide +kernel, by decide⟩
theorem oX5_add : MV mX5_add 1 5 := ⟨ooX5_add, in_tb (List.mem_of_getElem? (i := 503) (by decide +kernel)) rfl, in_tb (List.mem_of_getElem? (i := 504) (by decide +kernel)) rfl, by decide +kernel⟩
abbrev mX5_fault : MI := (yX5_fault, cX5_fault, 6, (some .int))
theorem ooX5_fault : MO mX5_fault 0 := ⟨in_tb (List.mem_of_getElem? (i := 384) (by decide +kernel)) rfl, iniX5, ⟨by decide +kernel, by decide +kernel⟩, by decide +kernel, by decide⟩
theorem oX5_fault : MV mX5_fault 0 5 := ⟨ooX5_fault, in_tb (List.mem_of_getElem? (i := 382) (by decide +kernel)) rfl, in_tb (List.mem_of_getElem? (i := 383) (by decide +kernel)) rfl, by decide +kernel⟩
abbrev mX6_init : MI := (yX6_init, cX6_init, 1, none)
theorem ooX6_init : MO mX6_init 0 := ⟨in_tb (List.mem_of_getElem? (i := 79) (by decide +kernel)) rfl, iniX6, ⟨by decide +kernel, by decide +kernel⟩, by decide +kernel, by decide⟩
theorem oX6_init : MN mX6_init 0 := ⟨ooX6_init, in_tb (List.mem_of_getElem? (i := 78) (by decide +kernel)) rfl, rfl, rfl⟩
abbrev mX6_empty : MI := (yX6_empty, cX6_empty, 1, none)
theorem ooX6_empty : MO mX6_empty 0 := ⟨in_tb (List.mem_of_getElem? (i := 410) (by decide +kernel)) rfl, iniX6, ⟨by decide +kernel, by decide +kernel⟩, by decide +kernel, by decide⟩
theorem oX6_empty : MV mX6_empty 0 6 := ⟨ooX6_empty, in_tb (List.mem_of_getElem? (i := 408) (by decide +kernel)) rfl, in_tb (List.mem_of_getElem? (i := 409) (by decide +kernel)) rfl, by decide +kernel⟩
abbrev mX6_readFrom : MI := (yX6_readFrom, cX6_readFrom, 4, none)
theorem ooX6_readFrom : MO mX6_readFrom 1 := ⟨in_tb (List.mem_of_getElem? (i := 388) (by decide +kernel)) rfl, iniX6, ⟨by decide +kernel, by decide +kernel⟩, by decide +kernel, by decide⟩
theorem oX6_readFrom : MV mX6_readFrom 1 6 := ⟨ooX6_readFrom, in_tb (List.mem_of_getElem? (i := 386) (by decide +kernel)) rfl, in_tb (List.mem_of_getElem? (i := 387) (by decide +kernel)) rfl, by decide +kernel⟩
abbrev mX6_copyFrom : MI := (yX6_copyFrom, cX6_copyFrom, 2, none)
theorem ooX6_copyFrom : MO mX6_copyFrom 1 := ⟨in_tb (List.mem_of_getElem? (i := 310) (by decide +kernel)) rfl, iniX6, ⟨by decide +kernel, by decide +kernel⟩, by decide +kernel, by decide⟩
theorem oX6_copyFrom : MV mX6_copyFrom 1 6 := ⟨ooX6_copyFrom, in_tb (List.mem_of_getElem? (i := 308) (by decide +kernel)) rfl, in_tb (List.mem_of_getElem? (i := 309) (by decide +kernel)) rfl, by decide +kernel⟩
abbrev mX6_cutTo : MI := (yX6_cutTo, cX6_cutTo, 2, none)
theorem ooX6_cutTo : MO mX6_cutTo 1 := ⟨in_tb (List.mem_of_getElem? (i := 343) (by decide +kernel)) rfl, iniX6, ⟨by decide +kernel, by decide +kernel⟩, by decide +kernel, by decide⟩
theorem oX6_cutTo : MV mX6_cutTo 1 6 := ⟨ooX6_cutTo, in_tb (List.mem_of_getElem? (i := 341) (by decide +kernel)) rfl, in_tb (List.mem_of_getElem? (i := 342) (by decide +kernel)) rfl, by decide +kernel⟩
abbrev mX6_isLike : MI := (yX6_isLike, cX6_isLike, 3, (some .boolean))
theorem ooX6_isLike : MO mX6_isLike 1 := ⟨in_tb (List.mem_of_getElem? (i := 394) (by decide +kernel)) rfl, iniX6, ⟨by decide +kernel, by decide +kernel⟩, by decide +kernel, by decide⟩
theorem oX6_isLike : MV mX6_isLike 1 6 := ⟨ooX6_isLike, in_tb (List.mem_of_getElem? (i := 392) (by decide +kernel)) rfl, in_tb (List.mem_of_getElem? (i := 393) (by decide +kernel)) rfl, by decide +kernel⟩
abbrev mX6_hasSameWord : MI := (yX6_hasSameWord, cX6_hasSameWord, 8, (some .boolean))
theorem ooX6_hasSameWord : MO mX6_hasSameWord 3 := ⟨in_tb (List.mem_of_getElem? (i := 560) (by decide +kernel)) rfl, iniX6, ⟨by decide +kernel, by decide +kernel⟩, by decide +kernel, by decide⟩
theorem oX6_hasSameWord : MV mX6_hasSameWord 3 6 := ⟨ooX6_hasSameWord, in_tb (List.mem_of_getElem? (i := 558) (by decide +kernel)) rfl, in_tb (List.mem_of_getElem? (i := 559) (by decide +kernel)) rfl, by decide +kernel⟩
abbrev mX6_sharesWordWith : MI := (yX6_sharesWordWith, cX6_sharesWordWith, 4, (some .boolean))
theorem ooX6_sharesWordWith : MO mX6_sharesWordWith 1 := ⟨in_tb (List.mem_of_getElem? (i := 634) (by decide +kernel)) rfl, iniX6, ⟨by decide +kernel, by decide +kernel⟩, by decide +kernel, by decide⟩
theorem oX6_sharesWordWith : MV mX6_sharesWordWith 1 6 := ⟨ooX6_sharesWordWith, in_tb (List.mem_of_getElem? (i := 632) (by decide +kernel)) rfl, in_tb (List.mem_of_getElem? (i := 633) (by decide +kernel)) rfl, by decide +kernel⟩
abbrev mX6_distanceTo : MI := (yX6_distanceTo, cX6_distanceTo, 3, (some .int))
theorem ooX6_distanceTo : MO mX6_distanceTo 2 := ⟨in_tb (List.mem_of_getElem? (i := 551) (by decide +kernel)) rfl, iniX6, ⟨by decide +kernel, by decide +kernel⟩, by decide +kernel, by decide⟩
theorem oX6_distanceTo : MV mX6_distanceTo 2 6 := ⟨ooX6_distanceTo, in_tb (List.mem_of_getElem? (i := 549) (by decide +kernel)) rfl, in_tb (List.mem_of_getElem? (i := 550) (by decide +kernel)) rfl, by decide +kernel⟩
abbrev mX6_mostInCommon : MI := (yX6_mostInCommon, cX6_mostInCommon, 7, (some .int))
theorem ooX6_mostInCommon : MO mX6_mostInCommon 2 := ⟨in_tb (List.mem_of_getElem? (i := 555) (by decide +kernel)) rfl, iniX6, ⟨by decide +kernel, by decide +kernel⟩, by decide +kernel, by decide⟩
theorem oX6_mostInCommon : MV mX6_mostInCommon 2 6 := ⟨ooX6_mostInCommon, in_tb (List.mem_of_getElem? (i := 554) (by decide +kernel)) rfl, in_tb (List.mem_of_getElem? (i := 5) (by decide +kernel)) rfl, by decide +kernel⟩
abbrev mX7_init : MI := (yX7_init, cX7_init, 1, none)
theorem ooX7_init : MO mX7_init 0 := ⟨in_tb (List.mem_of_getElem? (i := 54) (by decide +kernel)) rfl, iniX7, ⟨by decide +kernel, by decide +kernel⟩, by decide +kernel, by decide⟩
theorem oX7_init : MN mX7_init 0 := ⟨ooX7_init, in_tb (List.mem_of_getElem? (i := 53) (by decide +kernel)) rfl, rfl, rfl⟩
abbrev mX7_setLimit : MI := (yX7_setLimit, cX7_setLimit, 3, (some .int))
theorem ooX7_setLimit : MO mX7_setLimit 2 := ⟨in_tb (List.mem_of_getElem? (i := 288) (by decide +kernel)) rfl, iniX7, ⟨by decide +kernel, by decide +kernel⟩, by decide +kernel, by decide⟩
theorem oX7_setLimit : MV mX7_setLimit 2 7 := ⟨ooX7_setLimit, in_tb (List.mem_of_getElem? (i := 286) (by decide +kernel)) rfl, in_tb (List.mem_of_getElem? (i := 287) (by decide +kernel)) rfl, by decide +kernel⟩
abbrev mX7_ask : MI := (yX7_ask, cX7_ask, 4, (some .int))
theorem ooX7_ask : MO mX7_ask 3 := ⟨in_tb (List.mem_of_getElem? (i := 347) (by decide +kernel)) rfl, iniX7, ⟨by decide +kernel, by decide +kernel⟩, by decide +kernel, by decide⟩
theorem oX7_ask : MV mX7_ask 3 7 := ⟨ooX7_ask, in_tb (List.mem_of_getElem? (i := 345) (by decide +kernel)) rfl, in_tb (List.mem_of_getElem? (i := 346) (by decide +kernel)) rfl, by decide +kernel⟩
abbrev mX7_bring : MI := (yX7_bring, cX7_bring, 3, (some .int))
theorem ooX7_bring : MO mX7_bring 2 := ⟨in_tb (List.mem_of_getElem? (i := 364) (by decide +kernel)) rfl, iniX7, ⟨by decide +kernel, by decide +kernel⟩, by decide +kernel, by decide⟩
theorem oX7_bring : MV mX7_bring 2 7 := ⟨ooX7_bring, in_tb (List.mem_of_getElem? (i := 362) (by decide +kernel)) rfl, in_tb (List.mem_of_getElem? (i := 363) (by decide +kernel)) rfl, by decide +kernel⟩
abbrev mX7_label : MI := (yX7_label, cX7_label, 5, (some .int))
theorem ooX7_label : MO mX7_label 2 := ⟨in_tb (List.mem_of_getElem? (i := 372) (by decide +kernel)) rfl, iniX7, ⟨by decide +kernel, by decide +kernel⟩, by decide +kernel, by decide⟩
theorem oX7_label : MV mX7_label 2 7 := ⟨ooX7_label, in_tb (List.mem_of_getElem? (i := 370) (by decide +kernel)) rfl, in_tb (List.mem_of_getElem? (i := 371) (by decide +kernel)) rfl, by decide +kernel⟩
abbrev mX7_takeDown : MI := (yX7_takeDown, cX7_takeDown, 5, (some .int))
theorem ooX7_takeDown : MO mX7_takeDown 2 := ⟨in_tb (List.mem_of_getElem? (i := 402) (by decide +kernel)) rfl, iniX7, ⟨by decide +kernel, by decide +kernel⟩, by decide +kernel, by decide⟩
theorem oX7_takeDown : MV mX7_takeDown 2 7 := ⟨ooX7_takeDown, in_tb (List.mem_of_getElem? (i := 400) (by decide +kernel)) rfl, in_tb (List.mem_of_getElem? (i := 401) (by decide +kernel)) rfl, by decide +kernel⟩
abbrev mX7_setNeeded : MI := (yX7_setNeeded, cX7_setNeeded, 3, (some .int))
theorem ooX7_setNeeded : MO mX7_setNeeded 1 := ⟨in_tb (List.mem_of_getElem? (i := 414) (by decide +kernel)) rfl, iniX7, ⟨by decide +kernel, by decide +kernel⟩, by decide +kernel, by decide⟩
theorem oX7_setNeeded : MV mX7_setNeeded 1 7 := ⟨ooX7_setNeeded, in_tb (List.mem_of_getElem? (i := 412) (by decide +kernel)) rfl, in_tb (List.mem_of_getElem? (i := 413) (by decide +kernel)) rfl, by decide +kernel⟩
abbrev mX7_rewrite : MI := (yX7_rewrite, cX7_rewrite, 6, (some .int))
theorem ooX7_rewrite : MO mX7_rewrite 3 := ⟨in_tb (List.mem_of_getElem? (i := 418) (by decide +kernel)) rfl, iniX7, ⟨by decide +kernel, by decide +kernel⟩, by decide +kernel, by decide⟩
theorem oX7_rewrite : MV mX7_rewrite 3 7 := ⟨ooX7_rewrite, in_tb (List.mem_of_getElem? (i := 416) (by decide +kernel)) rfl, in_tb (List.mem_of_getElem? (i := 417) (by decide +kernel)) rfl, by decide +kernel⟩
abbrev mX7_vote : MI := (yX7_vote, cX7_vote, 5, (some .int))
theorem ooX7_vote : MO mX7_vote 3 := ⟨in_tb (List.mem_of_getElem? (i := 445) (by decide +kernel)) rfl, iniX7, ⟨by decide +kernel, by decide +kernel⟩, by decide +kernel, by decide⟩
theorem oX7_vote : MV mX7_vote 3 7 := ⟨ooX7_vote, in_tb (List.mem_of_getElem? (i := 443) (by decide +kernel)) rfl, in_tb (List.mem_of_getElem? (i := 444) (by decide +kernel)) rfl, by decide +kernel⟩
abbrev mX7_endWeek : MI := (yX7_endWeek, cX7_endWeek, 1, (some .int))
theorem ooX7_endWeek : MO mX7_endWeek 0 := ⟨in_tb (List.mem_of_getElem? (i := 466) (by decide +kernel)) rfl, iniX7, ⟨by decide +kernel, by decide +kernel⟩, by decide +kernel, by decide⟩
theorem oX7_endWeek : MV mX7_endWeek 0 7 := ⟨ooX7_endWeek, in_tb (List.mem_of_getElem? (i := 464) (by decide +kernel)) rfl, in_tb (List.mem_of_getElem? (i := 465) (by decide +kernel)) rfl, by decide +kernel⟩
abbrev mX7_type : MI := (yX7_type, cX7_type, 2, (some .int))
theorem ooX7_type : MO mX7_type 1 := ⟨in_tb (List.mem_of_getElem? (i := 501) (by decide +kernel)) rfl, iniX7, ⟨by decide +kernel, by decide +kernel⟩, by decide +kernel, by decide⟩
theorem oX7_type : MV mX7_type 1 7 := ⟨ooX7_type, in_tb (List.mem_of_getElem? (i := 499) (by decide +kernel)) rfl, in_tb (List.mem_of_getElem? (i := 500) (by decide +kernel)) rfl, by decide +kernel⟩
abbrev mX7_clearText : MI := (yX7_clearText, cX7_clearText, 2, (some .int))
theorem ooX7_clearText : MO mX7_clearText 0 := ⟨in_tb (List.mem_of_getElem? (i := 509) (by decide +kernel)) rfl, iniX7, ⟨by decide +kernel, by decide +kernel⟩, by decide +kernel, by decide⟩
theorem oX7_clearText : MV mX7_clearText 0 7 := ⟨ooX7_clearText, in_tb (List.mem_of_getElem? (i := 507) (by decide +kernel)) rfl, in_tb (List.mem_of_getElem? (i := 508) (by decide +kernel)) rfl, by decide +kernel⟩
abbrev mX7_undo : MI := (yX7_undo, cX7_undo, 1, (some .int))
theorem ooX7_undo : MO mX7_undo 0 := ⟨in_tb (List.mem_of_getElem? (i := 513) (by decide +kernel)) rfl, iniX7, ⟨by decide +kernel, by decide +kernel⟩, by decide +kernel, by decide⟩
theorem oX7_undo : MV mX7_undo 0 7 := ⟨ooX7_undo, in_tb (List.mem_of_getElem? (i := 511) (by decide +kernel)) rfl, in_tb (List.mem_of_getElem? (i := 512) (by decide +kernel)) rfl, by decide +kernel⟩
abbrev mX7_keep : MI := (yX7_keep, cX7_keep, 1, (some .int))
theorem ooX7_keep : MO mX7_keep 0 := ⟨in_tb (List.mem_of_getElem? (i := 521) (by decide +kernel)) rfl, iniX7, ⟨by decide +kernel, by decide +kernel⟩, by decide +kernel, by decide⟩
theorem oX7_keep : MV mX7_keep 0 7 := ⟨ooX7_keep, in_tb (List.mem_of_getElem? (i := 519) (by decide +kernel)) rfl, in_tb (List.mem_of_getElem? (i := 520) (by decide +kernel)) rfl, by decide +kernel⟩
abbrev mX7_restore : MI := (yX7_restore, cX7_restore, 1, (some .int))
theorem ooX7_restore : MO mX7_restore 0 := ⟨in_tb (List.mem_of_getElem? (i := 531) (by decide +kernel)) rfl, iniX7, ⟨by decide +kernel, by decide +kernel⟩, by decide +kernel, by decide⟩
theorem oX7_restore : MV mX7_restore 0 7 := ⟨ooX7_restore, in_tb (List.mem_of_getElem? (i := 529) (by decide +kernel)) rfl, in_tb (List.mem_of_getElem? (i := 530) (by decide +kernel)) rfl, by decide +kernel⟩
abbrev mX7_labelOf : MI := (yX7_labelOf, cX7_labelOf, 5, (some .int))
theorem ooX7_labelOf : MO mX7_labelOf 3 := ⟨in_tb (List.mem_of_getElem? (i := 535) (by decide +kernel)) rfl, iniX7, ⟨by decide +kernel, by decide +kernel⟩, by decide +kernel, by decide⟩
theorem oX7_labelOf : MV mX7_labelOf 3 7 := ⟨ooX7_labelOf, in_tb (List.mem_of_getElem? (i := 533) (by decide +kernel)) rfl, in_tb (List.mem_of_getElem? (i := 534) (by decide +kernel)) rfl, by decide +kernel⟩
abbrev mX7_letter : MI := (yX7_letter, cX7_letter, 5, (some .int))
theorem ooX7_letter : MO mX7_letter 3 := ⟨in_tb (List.mem_of_getElem? (i := 543) (by decide +kernel)) rfl, iniX7, ⟨by decide +kernel, by decide +kernel⟩, by decide +kernel, by decide⟩
theorem oX7_letter : MV mX7_letter 3 7 := ⟨ooX7_letter, in_tb (List.mem_of_getElem? (i := 541) (by decide +kernel)) rfl, in_tb (List.mem_of_getElem? (i := 542) (by decide +kernel)) rfl, by decide +kernel⟩
abbrev mX7_rewriteOf : MI := (yX7_rewriteOf, cX7_rewriteOf, 4, (some .int))
theorem ooX7_rewriteOf : MO mX7_rewriteOf 2 := ⟨in_tb (List.mem_of_getElem? (i := 547) (by decide +kernel)) rfl, iniX7, ⟨by decide +kernel, by decide +kernel⟩, by decide +kernel, by decide⟩
theorem oX7_rewriteOf : MV mX7_rewriteOf 2 7 := ⟨ooX7_rewriteOf, in_tb (List.mem_of_getElem? (i := 545) (by decide +kernel)) rfl, in_tb (List.mem_of_getElem? (i := 546) (by decide +kernel)) rfl, by decide +kernel⟩
abbrev mX7_ranked : MI := (yX7_ranked, cX7_ranked, 5, (some .int))
theorem ooX7_ranked : MO mX7_ranked 3 := ⟨in_tb (List.mem_of_getElem? (i := 568) (by decide +kernel)) rfl, iniX7, ⟨by decide +kernel, by decide +kernel⟩, by decide +kernel, by decide⟩
theorem oX7_ranked : MV mX7_ranked 3 7 := ⟨ooX7_ranked, in_tb (List.mem_of_getElem? (i := 566) (by decide +kernel)) rfl, in_tb (List.mem_of_getElem? (i := 567) (by decide +kernel)) rfl, by decide +kernel⟩
abbrev mX7_room : MI := (yX7_room, cX7_room, 3, (some .int))
theorem ooX7_room : MO mX7_room 2 := ⟨in_tb (List.mem_of_getElem? (i := 584) (by decide +kernel)) rfl, iniX7, ⟨by decide +kernel, by decide +kernel⟩, by decide +kernel, by decide⟩
theorem oX7_room : MV mX7_room 2 7 := ⟨ooX7_room, in_tb (List.mem_of_getElem? (i := 582) (by decide +kernel)) rfl, in_tb (List.mem_of_getElem? (i := 583) (by decide +kernel)) rfl, by decide +kernel⟩
abbrev mX7_visitor : MI := (yX7_visitor, cX7_visitor, 3, (some .int))
theorem ooX7_visitor : MO mX7_visitor 2 := ⟨in_tb (List.mem_of_getElem? (i := 609) (by decide +kernel)) rfl, iniX7, ⟨by decide +kernel, by decide +kernel⟩, by decide +kernel, by decide⟩
theorem oX7_visitor : MV mX7_visitor 2 7 := ⟨ooX7_visitor, in_tb (List.mem_of_getElem? (i := 607) (by decide +kernel)) rfl, in_tb (List.mem_of_getElem? (i := 608) (by decide +kernel)) rfl, by decide +kernel⟩
abbrev mX7_labelsWith : MI := (yX7_labelsWith, cX7_labelsWith, 3, (some .int))
theorem ooX7_labelsWith : MO mX7_labelsWith 1 := ⟨in_tb (List.mem_of_getElem? (i := 626) (by decide +kernel)) rfl, iniX7, ⟨by decide +kernel, by decide +kernel⟩, by decide +kernel, by decide⟩
theorem oX7_labelsWith : MV mX7_labelsWith 1 7 := ⟨ooX7_labelsWith, in_tb (List.mem_of_getElem? (i := 624) (by decide +kernel)) rfl, in_tb (List.mem_of_getElem? (i := 625) (by decide +kernel)) rfl, by decide +kernel⟩
abbrev mX7_count : MI := (yX7_count, cX7_count, 2, (some .int))
theorem ooX7_count : MO mX7_count 1 := ⟨in_tb (List.mem_of_getElem? (i := 638) (by decide +kernel)) rfl, iniX7, ⟨by decide +kernel, by decide +kernel⟩, by decide +kernel, by decide⟩
theorem oX7_count : MV mX7_count 1 7 := ⟨ooX7_count, in_tb (List.mem_of_getElem? (i := 636) (by decide +kernel)) rfl, in_tb (List.mem_of_getElem? (i := 637) (by decide +kernel)) rfl, by decide +kernel⟩
abbrev mX7_isWork : MI := (yX7_isWork, cX7_isWork, 1, (some .boolean))
theorem ooX7_isWork : MO mX7_isWork 1 := ⟨in_tb (List.mem_of_getElem? (i := 367) (by decide +kernel)) rfl, iniX7, ⟨by decide +kernel, by decide +kernel⟩, by decide +kernel, by decide⟩
theorem oX7_isWork : MS mX7_isWork 1 := ⟨ooX7_isWork, in_tb (List.mem_of_getElem? (i := 366) (by decide +kernel)) rfl⟩
abbrev mX7_isRoom : MI := (yX7_isRoom, cX7_isRoom, 1, (some .boolean))
theorem ooX7_isRoom : MO mX7_isRoom 1 := ⟨in_tb (List.mem_of_getElem? (i := 291) (by decide +kernel)) rfl, iniX7, ⟨by decide +kernel, by decide +kernel⟩, by decide +kernel, by decide⟩
theorem oX7_isRoom : MS mX7_isRoom 1 := ⟨ooX7_isRoom, in_tb (List.mem_of_getElem? (i := 290) (by decide +kernel)) rfl⟩
abbrev mX7_isTongue : MI := (yX7_isTongue, cX7_isTongue, 1, (some .boolean))
theorem ooX7_isTongue : MO mX7_isTongue 1 := ⟨in_tb (List.mem_of_getElem? (i := 350) (by decide +kernel)) rfl, iniX7, ⟨by decide +kernel, by decide +kernel⟩, by decide +kernel, by decide⟩
theorem oX7_isTongue : MS mX7_isTongue 1 := ⟨ooX7_isTongue, in_tb (List.mem_of_getElem? (i := 349) (by decide +kernel)) rfl⟩
abbrev mX7_isVisitor : MI := (yX7_isVisitor, cX7_isVisitor, 1, (some .boolean))
theorem ooX7_isVisitor : MO mX7_isVisitor 1 := ⟨in_tb (List.mem_of_getElem? (i := 421) (by decide +kernel)) rfl, iniX7, ⟨by decide +kernel, by decide +kernel⟩, by decide +kernel, by decide⟩
theorem oX7_isVisitor : MS mX7_isVisitor 1 := ⟨ooX7_isVisitor, in_tb (List.mem_of_getElem? (i := 420) (by decide +kernel)) rfl⟩
abbrev mX7_placeOf : MI := (yX7_placeOf, cX7_placeOf, 2, (some .int))
theorem ooX7_placeOf : MO mX7_placeOf 2 := ⟨in_tb (List.mem_of_getElem? (i := 335) (by decide +kernel)) rfl, iniX7, ⟨by decide +kernel, by decide +kernel⟩, by decide +kernel, by decide⟩
theorem oX7_placeOf : MS mX7_placeOf 2 := ⟨ooX7_placeOf, in_tb (List.mem_of_getElem? (i := 334) (by decide +kernel)) rfl⟩
abbrev mX7_readText : MI := (yX7_readText, cX7_readText, 2, (some .int))
theorem ooX7_readText : MO mX7_readText 0 := ⟨in_tb (List.mem_of_getElem? (i := 380) (by decide +kernel)) rfl, iniX7, ⟨by decide +kernel, by decide +kernel⟩, by decide +kernel, by decide⟩
theorem oX7_readText : MV mX7_readText 0 7 := ⟨ooX7_readText, in_tb (List.mem_of_getElem? (i := 379) (by decide +kernel)) rfl, in_tb (List.mem_of_getElem? (i := 1) (by decide +kernel)) rfl, by decide +kernel⟩
abbrev mX7_readTextFor : MI := (yX7_readTextFor, cX7_readTextFor, 3, (some .int))
theorem ooX7_readTextFor : MO mX7_readTextFor 1 := ⟨in_tb (List.mem_of_getElem? (i := 376) (by decide +kernel)) rfl, iniX7, ⟨by decide +kernel, by decide +kernel⟩, by decide +kernel, by decide⟩
theorem oX7_readTextFor : MV mX7_readTextFor 1 7 := ⟨ooX7_readTextFor, in_tb (List.mem_of_getElem? (i := 375) (by decide +kernel)) rfl, in_tb (List.mem_of_getElem? (i := 0) (by decide +kernel)) rfl, by decide +kernel⟩
abbrev mX8_init : MI := (yX8_init, cX8_init, 2, none)
theorem ooX8_init : MO mX8_init 0 := ⟨in_tb (List.mem_of_getElem? (i := 652) (by decide +kernel)) rfl, iniX8, ⟨by decide +kernel, by decide +kernel⟩, by decide +kernel, by decide⟩
theorem oX8_init : MN mX8_init 0 := ⟨ooX8_init, in_tb (List.mem_of_getElem? (i := 651) (by decide +kernel)) rfl, rfl, rfl⟩
abbrev mX8_in : MI := (yX8_in, cX8_in, 3, (some .boolean))
theorem ooX8_in : MO mX8_in 3 := ⟨in_tb (List.mem_of_getElem? (i := 679) (by decide +kernel)) rfl, iniX8, ⟨by decide +kernel, by decide +kernel⟩, by decide +kernel, by decide⟩
theorem oX8_in : MS mX8_in 3 := ⟨ooX8_in, in_tb (List.mem_of_getElem? (i := 678) (by decide +kernel)) rfl⟩
abbrev mX8_copies : MI := (yX8_copies, cX8_copies, 4, none)
theorem ooX8_copies : MO mX8_copies 2 := ⟨in_tb (List.mem_of_getElem? (i := 687) (by decide +kernel)) rfl, iniX8, ⟨by decide +kernel, by decide +kernel⟩, by decide +kernel, by decide⟩
theorem oX8_copies : MV mX8_copies 2 8 := ⟨ooX8_copies, in_tb (List.mem_of_getElem? (i := 686) (by decide +kernel)) rfl, in_tb (List.mem_of_getElem? (i := 8) (by decide +kernel)) rfl, by decide +kernel⟩
abbrev mX8_records : MI := (yX8_records, cX8_records, 2, none)
theorem ooX8_records : MO mX8_records 0 := ⟨in_tb (List.mem_of_getElem? (i := 683) (by decide +kernel)) rfl, iniX8, ⟨by decide +kernel, by decide +kernel⟩, by decide +kernel, by decide⟩
theorem oX8_records : MV mX8_records 0 8 := ⟨ooX8_records, in_tb (List.mem_of_getElem? (i := 682) (by decide +kernel)) rfl, in_tb (List.mem_of_getElem? (i := 7) (by decide +kernel)) rfl, by decide +kernel⟩
abbrev mX8_rowOf : MI := (yX8_rowOf, cX8_rowOf, 2, (some .int))
theorem ooX8_rowOf : MO mX8_rowOf 2 := ⟨in_tb (List.mem_of_getElem? (i := 698) (by decide +kernel)) rfl, iniX8, ⟨by decide +kernel, by decide +kernel⟩, by decide +kernel, by decide⟩
theorem oX8_rowOf : MS mX8_rowOf 2 := ⟨ooX8_rowOf, in_tb (List.mem_of_getElem? (i := 697) (by decide +kernel)) rfl⟩
abbrev mX8_paper : MI := (yX8_paper, cX8_paper, 1, (some .int))
theorem ooX8_paper : MO mX8_paper 1 := ⟨in_tb (List.mem_of_getElem? (i := 767) (by decide +kernel)) rfl, iniX8, ⟨by decide +kernel, by decide +kernel⟩, by decide +kernel, by decide⟩
theorem oX8_paper : MS mX8_paper 1 := ⟨ooX8_paper, in_tb (List.mem_of_getElem? (i := 766) (by decide +kernel)) rfl⟩
abbrev mX8_words : MI := (yX8_words, cX8_words, 5, (some .int))
theorem ooX8_words : MO mX8_words 2 := ⟨in_tb (List.mem_of_getElem? (i := 706) (by decide +kernel)) rfl, iniX8, ⟨by decide +kernel, by decide +kernel⟩, by decide +kernel, by decide⟩
theorem oX8_words : MV mX8_words 2 8 := ⟨ooX8_words, in_tb (List.mem_of_getElem? (i := 705) (by decide +kernel)) rfl, in_tb (List.mem_of_getElem? (i := 12) (by decide +kernel)) rfl, by decide +kernel⟩
abbrev mX8_wordsOf : MI := (yX8_wordsOf, cX8_wordsOf, 4, (some .int))
theorem ooX8_wordsOf : MO mX8_wordsOf 2 := ⟨in_tb (List.mem_of_getElem? (i := 702) (by decide +kernel)) rfl, iniX8, ⟨by decide +kernel, by decide +kernel⟩, by decide +kernel, by decide⟩
theorem oX8_wordsOf : MV mX8_wordsOf 2 8 := ⟨ooX8_wordsOf, in_tb (List.mem_of_getElem? (i := 701) (by decide +kernel)) rfl, in_tb (List.mem_of_getElem? (i := 11) (by decide +kernel)) rfl, by decide +kernel⟩
abbrev mX8_isLabel : MI := (yX8_isLabel, cX8_isLabel, 3, (some .boolean))
theorem ooX8_isLabel : MO mX8_isLabel 2 := ⟨in_tb (List.mem_of_getElem? (i := 732) (by decide +kernel)) rfl, iniX8, ⟨by decide +kernel, by decide +kernel⟩, by decide +kernel, by decide⟩
theorem oX8_isLabel : MV mX8_isLabel 2 8 := ⟨ooX8_isLabel, in_tb (List.mem_of_getElem? (i := 731) (by decide +kernel)) rfl, in_tb (List.mem_of_getElem? (i := 14) (by decide +kernel)) rfl, by decide +kernel⟩
abbrev mX8_begin : MI := (yX8_begin, cX8_begin, 6, (some .int))
theorem ooX8_begin : MO mX8_begin 3 := ⟨in_tb (List.mem_of_getElem? (i := 710) (by decide +kernel)) rfl, iniX8, ⟨by decide +kernel, by decide +kernel⟩, by decide +kernel, by decide⟩
theorem oX8_begin : MV mX8_begin 3 8 := ⟨ooX8_begin, in_tb (List.mem_of_getElem? (i := 709) (by decide +kernel)) rfl, in_tb (List.mem_of_getElem? (i := 13) (by decide +kernel)) rfl, by decide +kernel⟩
abbrev mX8_end : MI := (yX8_end, cX8_end, 5, (some .int))
theorem ooX8_end : MO mX8_end 3 := ⟨in_tb (List.mem_of_getElem? (i := 843) (by decide +kernel)) rfl, iniX8, ⟨by decide +kernel, by decide +kernel⟩, by decide +kernel, by decide⟩
theorem oX8_end : MV mX8_end 3 8 := ⟨ooX8_end, in_tb (List.mem_of_getElem? (i := 842) (by decide +kernel)) rfl, in_tb (List.mem_of_getElem? (i := 28) (by decide +kernel)) rfl, by decide +kernel⟩
abbrev mX8_areAlike : MI := (yX8_areAlike, cX8_areAlike, 12, (some .boolean))
theorem ooX8_areAlike : MO mX8_areAlike 6 := ⟨in_tb (List.mem_of_getElem? (i := 839) (by decide +kernel)) rfl, iniX8, ⟨by decide +kernel, by decide +kernel⟩, by decide +kernel, by decide⟩
theorem oX8_areAlike : MV mX8_areAlike 6 8 := ⟨ooX8_areAlike, in_tb (List.mem_of_getElem? (i := 838) (by decide +kernel)) rfl, in_tb (List.mem_of_getElem? (i := 27) (by decide +kernel)) rfl, by decide +kernel⟩
abbrev mX8_cuts : MI := (yX8_cuts, cX8_cuts, 5, (some .boolean))
theorem ooX8_cuts : MO mX8_cuts 2 := ⟨in_tb (List.mem_of_getElem? (i := 695) (by decide +kernel)) rfl, iniX8, ⟨by decide +kernel, by decide +kernel⟩, by decide +kernel, by decide⟩
theorem oX8_cuts : MV mX8_cuts 2 8 := ⟨ooX8_cuts, in_tb (List.mem_of_getElem? (i := 694) (by decide +kernel)) rfl, in_tb (List.mem_of_getElem? (i := 10) (by decide +kernel)) rfl, by decide +kernel⟩
abbrev mX8_cutsAll : MI := (yX8_cutsAll, cX8_cutsAll, 4, (some .int))
theorem ooX8_cutsAll : MO mX8_cutsAll 1 := ⟨in_tb (List.mem_of_getElem? (i := 691) (by decide +kernel)) rfl, iniX8, ⟨by decide +kernel, by decide +kernel⟩, by decide +kernel, by decide⟩
theorem oX8_cutsAll : MV mX8_cutsAll 1 8 := ⟨ooX8_cutsAll, in_tb (List.mem_of_getElem? (i := 690) (by decide +kernel)) rfl, in_tb (List.mem_of_getElem? (i := 9) (by decide +kernel)) rfl, by decide +kernel⟩
abbrev mX8_placeOf : MI := (yX8_placeOf, cX8_placeOf, 4, (some .int))
theorem ooX8_placeOf : MO mX8_placeOf 1 := ⟨in_tb (List.mem_of_getElem? (i := 783) (by decide +kernel)) rfl, iniX8, ⟨by decide +kernel, by decide +kernel⟩, by decide +kernel, by decide⟩
theorem oX8_placeOf : MV mX8_placeOf 1 8 := ⟨ooX8_placeOf, in_tb (List.mem_of_getElem? (i := 782) (by decide +kernel)) rfl, in_tb (List.mem_of_getElem? (i := 22) (by decide +kernel)) rfl, by decide +kernel⟩
abbrev mX8_votesFor : MI := (yX8_votesFor, cX8_votesFor, 4, (some .int))
theorem ooX8_votesFor : MO mX8_votesFor 1 := ⟨in_tb (List.mem_of_getElem? (i := 787) (by decide +kernel)) rfl, iniX8, ⟨by decide +kernel, by decide +kernel⟩, by decide +kernel, by decide⟩
theorem oX8_votesFor : MV mX8_votesFor 1 8 := ⟨ooX8_votesFor, in_tb (List.mem_of_getElem? (i := 786) (by decide +kernel)) rfl, in_tb (List.mem_of_getElem? (i := 23) (by decide +kernel)) rfl, by decide +kernel⟩
abbrev mX8_goes : MI := (yX8_goes, cX8_goes, 3, none)
theorem ooX8_goes : MO mX8_goes 1 := ⟨in_tb (List.mem_of_getElem? (i := 775) (by decide +kernel)) rfl, iniX8, ⟨by decide +kernel, by decide +kernel⟩, by decide +kernel, by decide⟩
theorem oX8_goes : MV mX8_goes 1 8 := ⟨ooX8_goes, in_tb (List.mem_of_getElem? (i := 774) (by decide +kernel)) rfl, in_tb (List.mem_of_getElem? (i := 21) (by decide +kernel)) rfl, by decide +kernel⟩
abbrev mX8_best : MI := (yX8_best, cX8_best, 12, (some .int))
theorem ooX8_best : MO mX8_best 2 := ⟨in_tb (List.mem_of_getElem? (i := 795) (by decide +kernel)) rfl, iniX8, ⟨by decide +kernel, by decide +kernel⟩, by decide +kernel, by decide⟩
theorem oX8_best : MV mX8_best 2 8 := ⟨ooX8_best, in_tb (List.mem_of_getElem? (i := 794) (by decide +kernel)) rfl, in_tb (List.mem_of_getElem? (i := 24) (by decide +kernel)) rfl, by decide +kernel⟩
abbrev mX8_fault : MI := (yX8_fault, cX8_fault, 4, (some .int))
theorem ooX8_fault : MO mX8_fault 0 := ⟨in_tb (List.mem_of_getElem? (i := 744) (by decide +kernel)) rfl, iniX8, ⟨by decide +kernel, by decide +kernel⟩, by decide +kernel, by decide⟩
theorem oX8_fault : MV mX8_fault 0 8 := ⟨ooX8_fault, in_tb (List.mem_of_getElem? (i := 743) (by decide +kernel)) rfl, in_tb (List.mem_of_getElem? (i := 15) (by decide +kernel)) rfl, by decide +kernel⟩
abbrev mX8_wordsTold : MI := (yX8_wordsTold, cX8_wordsTold, 3, (some .int))
theorem ooX8_wordsTold : MO mX8_wordsTold 0 := ⟨in_tb (List.mem_of_getElem? (i := 748) (by decide +kernel)) rfl, iniX8, ⟨by decide +kernel, by decide +kernel⟩, by decide +kernel, by decide⟩
theorem oX8_wordsTold : MV mX8_wordsTold 0 8 := ⟨ooX8_wordsTold, in_tb (List.mem_of_getElem? (i := 747) (by decide +kernel)) rfl, in_tb (List.mem_of_getElem? (i := 16) (by decide +kernel)) rfl, by decide +kernel⟩
abbrev mX8_isTold : MI := (yX8_isTold, cX8_isTold, 5, (some .boolean))
theorem ooX8_isTold : MO mX8_isTold 2 := ⟨in_tb (List.mem_of_getElem? (i := 752) (by decide +kernel)) rfl, iniX8, ⟨by decide +kernel, by decide +kernel⟩, by decide +kernel, by decide⟩
theorem oX8_isTold : MV mX8_isTold 2 8 := ⟨ooX8_isTold, in_tb (List.mem_of_getElem? (i := 751) (by decide +kernel)) rfl, in_tb (List.mem_of_getElem? (i := 17) (by decide +kernel)) rfl, by decide +kernel⟩
abbrev mX8_lays : MI := (yX8_lays, cX8_lays, 3, none)
theorem ooX8_lays : MO mX8_lays 1 := ⟨in_tb (List.mem_of_getElem? (i := 756) (by decide +kernel)) rfl, iniX8, ⟨by decide +kernel, by decide +kernel⟩, by decide +kernel, by decide⟩
theorem oX8_lays : MV mX8_lays 1 8 := ⟨ooX8_lays, in_tb (List.mem_of_getElem? (i := 755) (by decide +kernel)) rfl, in_tb (List.mem_of_getElem? (i := 18) (by decide +kernel)) rfl, by decide +kernel⟩
abbrev mX8_setLimit : MI := (yX8_setLimit, cX8_setLimit, 5, (some .int))
theorem ooX8_setLimit : MO mX8_setLimit 2 := ⟨in_tb (List.mem_of_getElem? (i := 676) (by decide +kernel)) rfl, iniX8, ⟨by decide +kernel, by decide +kernel⟩, by decide +kernel, by decide⟩
theorem oX8_setLimit : MV mX8_setLimit 2 8 := ⟨ooX8_setLimit, in_tb (List.mem_of_getElem? (i := 674) (by decide +kernel)) rfl, in_tb (List.mem_of_getElem? (i := 675) (by decide +kernel)) rfl, by decide +kernel⟩
abbrev mX8_bits : MI := (yX8_bits, cX8_bits, 1, (some .int))
theorem ooX8_bits : MO mX8_bits 1 := ⟨in_tb (List.mem_of_getElem? (i := 717) (by decide +kernel)) rfl, iniX8, ⟨by decide +kernel, by decide +kernel⟩, by decide +kernel, by decide⟩
theorem oX8_bits : MS mX8_bits 1 := ⟨ooX8_bits, in_tb (List.mem_of_getElem? (i := 716) (by decide +kernel)) rfl⟩
abbrev mX8_ask : MI := (yX8_ask, cX8_ask, 4, (some .int))
theorem ooX8_ask : MO mX8_ask 3 := ⟨in_tb (List.mem_of_getElem? (i := 714) (by decide +kernel)) rfl, iniX8, ⟨by decide +kernel, by decide +kernel⟩, by decide +kernel, by decide⟩
theorem oX8_ask : MV mX8_ask 3 8 := ⟨ooX8_ask, in_tb (List.mem_of_getElem? (i := 712) (by decide +kernel)) rfl, in_tb (List.mem_of_getElem? (i := 713) (by decide +kernel)) rfl, by decide +kernel⟩
abbrev mX8_bring : MI := (yX8_bring, cX8_bring, 3, (some .int))
theorem ooX8_bring : MO mX8_bring 2 := ⟨in_tb (List.mem_of_getElem? (i := 721) (by decide +kernel)) rfl, iniX8, ⟨by decide +kernel, by decide +kernel⟩, by decide +kernel, by decide⟩
theorem oX8_bring : MV mX8_bring 2 8 := ⟨ooX8_bring, in_tb (List.mem_of_getElem? (i := 719) (by decide +kernel)) rfl, in_tb (List.mem_of_getElem? (i := 720) (by decide +kernel)) rfl, by decide +kernel⟩
abbrev mX8_isPair : MI := (yX8_isPair, cX8_isPair, 2, (some .boolean))
theorem ooX8_isPair : MO mX8_isPair 2 := ⟨in_tb (List.mem_of_getElem? (i := 728) (by decide +kernel)) rfl, iniX8, ⟨by decide +kernel, by decide +kernel⟩, by decide +kernel, by decide⟩
theorem oX8_isPair : MS mX8_isPair 2 := ⟨ooX8_isPair, in_tb (List.mem_of_getElem? (i := 727) (by decide +kernel)) rfl⟩
abbrev mX8_takeDown : MI := (yX8_takeDown, cX8_takeDown, 4, (some .int))
theorem ooX8_takeDown : MO mX8_takeDown 2 := ⟨in_tb (List.mem_of_getElem? (i := 725) (by decide +kernel)) rfl, iniX8, ⟨by decide +kernel, by decide +kernel⟩, by decide +kernel, by decide⟩
theorem oX8_takeDown : MV mX8_takeDown 2 8 := ⟨ooX8_takeDown, in_tb (List.mem_of_getElem? (i := 723) (by decide +kernel)) rfl, in_tb (List.mem_of_getElem? (i := 724) (by decide +kernel)) rfl, by decide +kernel⟩
abbrev mX8_setNeeded : MI := (yX8_setNeeded, cX8_setNeeded, 3, (some .int))
theorem ooX8_setNeeded : MO mX8_setNeeded 1 := ⟨in_tb (List.mem_of_getElem? (i := 736) (by decide +kernel)) rfl, iniX8, ⟨by decide +kernel, by decide +kernel⟩, by decide +kernel, by decide⟩
theorem oX8_setNeeded : MV mX8_setNeeded 1 8 := ⟨ooX8_setNeeded, in_tb (List.mem_of_getElem? (i := 734) (by decide +kernel)) rfl, in_tb (List.mem_of_getElem? (i := 735) (by decide +kernel)) rfl, by decide +kernel⟩
abbrev mX8_label : MI := (yX8_label, cX8_label, 4, (some .int))
theorem ooX8_label : MO mX8_label 2 := ⟨in_tb (List.mem_of_getElem? (i := 740) (by decide +kernel)) rfl, iniX8, ⟨by decide +kernel, by decide +kernel⟩, by decide +kernel, by decide⟩
theorem oX8_label : MV mX8_label 2 8 := ⟨ooX8_label, in_tb (List.mem_of_getElem? (i := 738) (by decide +kernel)) rfl, in_tb (List.mem_of_getElem? (i := 739) (by decide +kernel)) rfl, by decide +kernel⟩
abbrev mX8_own : MI := (yX8_own, cX8_own, 6, (some .int))
theorem ooX8_own : MO mX8_own 2 := ⟨in_tb (List.mem_of_getElem? (i := 764) (by decide +kernel)) rfl, iniX8, ⟨by decide +kernel, by decide +kernel⟩, by decide +kernel, by decide⟩
theorem oX8_own : MV mX8_own 2 8 := ⟨ooX8_own, in_tb (List.mem_of_getElem? (i := 763) (by decide +kernel)) rfl, in_tb (List.mem_of_getElem? (i := 19) (by decide +kernel)) rfl, by decide +kernel⟩
abbrev mX8_free : MI := (yX8_free, cX8_free, 3, (some .int))
theorem ooX8_free : MO mX8_free 0 := ⟨in_tb (List.mem_of_getElem? (i := 771) (by decide +kernel)) rfl, iniX8, ⟨by decide +kernel, by decide +kernel⟩, by decide +kernel, by decide⟩
theorem oX8_free : MV mX8_free 0 8 := ⟨ooX8_free, in_tb (List.mem_of_getElem? (i := 770) (by decide +kernel)) rfl, in_tb (List.mem_of_getElem? (i := 20) (by decide +kernel)) rfl, by decide +kernel⟩
abbrev mX8_rewrite : MI := (yX8_rewrite, cX8_rewrite, 8, (some .int))
theorem ooX8_rewrite : MO mX8_rewrite 3 := ⟨in_tb (List.mem_of_getElem? (i := 760) (by decide +kernel)) rfl, iniX8, ⟨by decide +kernel, by decide +kernel⟩, by decide +kernel, by decide⟩
theorem oX8_rewrite : MV mX8_rewrite 3 8 := ⟨ooX8_rewrite, in_tb (List.mem_of_getElem? (i := 758) (by decide +kernel)) rfl, in_tb (List.mem_of_getElem? (i := 759) (by decide +kernel)) rfl, by decide +kernel⟩
abbrev mX8_vote : MI := (yX8_vote, cX8_vote, 7, (some .int))
theorem ooX8_vote : MO mX8_vote 3 := ⟨in_tb (List.mem_of_getElem? (i := 779) (by decide +kernel)) rfl, iniX8, ⟨by decide +kernel, by decide +kernel⟩, by decide +kernel, by decide⟩
theorem oX8_vote : MV mX8_vote 3 8 := ⟨ooX8_vote, in_tb (List.mem_of_getElem? (i := 777) (by decide +kernel)) rfl, in_tb (List.mem_of_getElem? (i := 778) (by decide +kernel)) rfl, by decide +kernel⟩
abbrev mX8_endWeek : MI := (yX8_endWeek, cX8_endWeek, 8, (some .int))
theorem ooX8_endWeek : MO mX8_endWeek 0 := ⟨in_tb (List.mem_of_getElem? (i := 791) (by decide +kernel)) rfl, iniX8, ⟨by decide +kernel, by decide +kernel⟩, by decide +kernel, by decide⟩
theorem oX8_endWeek : MV mX8_endWeek 0 8 := ⟨ooX8_endWeek, in_tb (List.mem_of_getElem? (i := 789) (by decide +kernel)) rfl, in_tb (List.mem_of_getElem? (i := 790) (by decide +kernel)) rfl, by decide +kernel⟩
abbrev mX8_type : MI := (yX8_type, cX8_type, 2, (some .int))
theorem ooX8_type : MO mX8_type 1 := ⟨in_tb (List.mem_of_getElem? (i := 799) (by decide +kernel)) rfl, iniX8, ⟨by decide +kernel, by decide +kernel⟩, by decide +kernel, by decide⟩
theorem oX8_type : MV mX8_type 1 8 := ⟨ooX8_type, in_tb (List.mem_of_getElem? (i := 797) (by decide +kernel)) rfl, in_tb (List.mem_of_getElem? (i := 798) (by decide +kernel)) rfl, by decide +kernel⟩
abbrev mX8_clearText : MI := (yX8_clearText, cX8_clearText, 2, (some .int))
theorem ooX8_clearText : MO mX8_clearText 0 := ⟨in_tb (List.mem_of_getElem? (i := 803) (by decide +kernel)) rfl, iniX8, ⟨by decide +kernel, by decide +kernel⟩, by decide +kernel, by decide⟩
theorem oX8_clearText : MV mX8_clearText 0 8 := ⟨ooX8_clearText, in_tb (List.mem_of_getElem? (i := 801) (by decide +kernel)) rfl, in_tb (List.mem_of_getElem? (i := 802) (by decide +kernel)) rfl, by decide +kernel⟩
abbrev mX8_labels : MI := (yX8_labels, cX8_labels, 3, (some .int))
theorem ooX8_labels : MO mX8_labels 0 := ⟨in_tb (List.mem_of_getElem? (i := 815) (by decide +kernel)) rfl, iniX8, ⟨by decide +kernel, by decide +kernel⟩, by decide +kernel, by decide⟩
theorem oX8_labels : MV mX8_labels 0 8 := ⟨ooX8_labels, in_tb (List.mem_of_getElem? (i := 814) (by decide +kernel)) rfl, in_tb (List.mem_of_getElem? (i := 25) (by decide +kernel)) rfl, by decide +kernel⟩
abbrev mX8_undo : MI := (yX8_undo, cX8_undo, 1, (some .int))
theorem ooX8_undo : MO mX8_undo 0 := ⟨in_tb (List.mem_of_getElem? (i := 807) (by decide +kernel)) rfl, iniX8, ⟨by decide +kernel, by decide +kernel⟩, by decide +kernel, by decide⟩
theorem oX8_undo : MV mX8_undo 0 8 := ⟨ooX8_undo, in_tb (List.mem_of_getElem? (i := 805) (by decide +kernel)) rfl, in_tb (List.mem_of_getElem? (i := 806) (by decide +kernel)) rfl, by decide +kernel⟩
abbrev mX8_keep : MI := (yX8_keep, cX8_keep, 1, (some .int))
theorem ooX8_keep : MO mX8_keep 0 := ⟨in_tb (List.mem_of_getElem? (i := 811) (by decide +kernel)) rfl, iniX8, ⟨by decide +kernel, by decide +kernel⟩, by decide +kernel, by decide⟩
theorem oX8_keep : MV mX8_keep 0 8 := ⟨ooX8_keep, in_tb (List.mem_of_getElem? (i := 809) (by decide +kernel)) rfl, in_tb (List.mem_of_getElem? (i := 810) (by decide +kernel)) rfl, by decide +kernel⟩
abbrev mX8_restore : MI := (yX8_restore, cX8_restore, 1, (some .int))
theorem ooX8_restore : MO mX8_restore 0 := ⟨in_tb (List.mem_of_getElem? (i := 819) (by decide +kernel)) rfl, iniX8, ⟨by decide +kernel, by decide +kernel⟩, by decide +kernel, by decide⟩
theorem oX8_restore : MV mX8_restore 0 8 := ⟨ooX8_restore, in_tb (List.mem_of_getElem? (i := 817) (by decide +kernel)) rfl, in_tb (List.mem_of_getElem? (i := 818) (by decide +kernel)) rfl, by decide +kernel⟩
abbrev mX8_labelOf : MI := (yX8_labelOf, cX8_labelOf, 5, (some .int))
theorem ooX8_labelOf : MO mX8_labelOf 3 := ⟨in_tb (List.mem_of_getElem? (i := 823) (by decide +kernel)) rfl, iniX8, ⟨by decide +kernel, by decide +kernel⟩, by decide +kernel, by decide⟩
theorem oX8_labelOf : MV mX8_labelOf 3 8 := ⟨ooX8_labelOf, in_tb (List.mem_of_getElem? (i := 821) (by decide +kernel)) rfl, in_tb (List.mem_of_getElem? (i := 822) (by decide +kernel)) rfl, by decide +kernel⟩
abbrev mX8_letter : MI := (yX8_letter, cX8_letter, 5, (some .int))
theorem ooX8_letter : MO mX8_letter 3 := ⟨in_tb (List.mem_of_getElem? (i := 827) (by decide +kernel)) rfl, iniX8, ⟨by decide +kernel, by decide +kernel⟩, by decide +kernel, by decide⟩
theorem oX8_letter : MV mX8_letter 3 8 := ⟨ooX8_letter, in_tb (List.mem_of_getElem? (i := 825) (by decide +kernel)) rfl, in_tb (List.mem_of_getElem? (i := 826) (by decide +kernel)) rfl, by decide +kernel⟩
abbrev mX8_apart : MI := (yX8_apart, cX8_apart, 13, (some .int))
theorem ooX8_apart : MO mX8_apart 4 := ⟨in_tb (List.mem_of_getElem? (i := 835) (by decide +kernel)) rfl, iniX8, ⟨by decide +kernel, by decide +kernel⟩, by decide +kernel, by decide⟩
theorem oX8_apart : MV mX8_apart 4 8 := ⟨ooX8_apart, in_tb (List.mem_of_getElem? (i := 834) (by decide +kernel)) rfl, in_tb (List.mem_of_getElem? (i := 26) (by decide +kernel)) rfl, by decide +kernel⟩
abbrev mX8_rewriteOf : MI := (yX8_rewriteOf, cX8_rewriteOf, 6, (some .int))
theorem ooX8_rewriteOf : MO mX8_rewriteOf 2 := ⟨in_tb (List.mem_of_getElem? (i := 831) (by decide +kernel)) rfl, iniX8, ⟨by decide +kernel, by decide +kernel⟩, by decide +kernel, by decide⟩
theorem oX8_rewriteOf : MV mX8_rewriteOf 2 8 := ⟨ooX8_rewriteOf, in_tb (List.mem_of_getElem? (i := 829) (by decide +kernel)) rfl, in_tb (List.mem_of_getElem? (i := 830) (by decide +kernel)) rfl, by decide +kernel⟩
abbrev mX8_ranked : MI := (yX8_ranked, cX8_ranked, 10, (some .int))
theorem ooX8_ranked : MO mX8_ranked 3 := ⟨in_tb (List.mem_of_getElem? (i := 847) (by decide +kernel)) rfl, iniX8, ⟨by decide +kernel, by decide +kernel⟩, by decide +kernel, by decide⟩
theorem oX8_ranked : MV mX8_ranked 3 8 := ⟨ooX8_ranked, in_tb (List.mem_of_getElem? (i := 845) (by decide +kernel)) rfl, in_tb (List.mem_of_getElem? (i := 846) (by decide +kernel)) rfl, by decide +kernel⟩
abbrev mX8_labelsOf : MI := (yX8_labelsOf, cX8_labelsOf, 9, (some .int))
theorem ooX8_labelsOf : MO mX8_labelsOf 2 := ⟨in_tb (List.mem_of_getElem? (i := 859) (by decide +kernel)) rfl, iniX8, ⟨by decide +kernel, by decide +kernel⟩, by decide +kernel, by decide⟩
theorem oX8_labelsOf : MV mX8_labelsOf 2 8 := ⟨ooX8_labelsOf, in_tb (List.mem_of_getElem? (i := 858) (by decide +kernel)) rfl, in_tb (List.mem_of_getElem? (i := 30) (by decide +kernel)) rfl, by decide +kernel⟩
abbrev mX8_worksOf : MI := (yX8_worksOf, cX8_worksOf, 4, (some .int))
theorem ooX8_worksOf : MO mX8_worksOf 1 := ⟨in_tb (List.mem_of_getElem? (i := 855) (by decide +kernel)) rfl, iniX8, ⟨by decide +kernel, by decide +kernel⟩, by decide +kernel, by decide⟩
theorem oX8_worksOf : MV mX8_worksOf 1 8 := ⟨ooX8_worksOf, in_tb (List.mem_of_getElem? (i := 854) (by decide +kernel)) rfl, in_tb (List.mem_of_getElem? (i := 29) (by decide +kernel)) rfl, by decide +kernel⟩
abbrev mX8_room : MI := (yX8_room, cX8_room, 3, (some .int))
theorem ooX8_room : MO mX8_room 2 := ⟨in_tb (List.mem_of_getElem? (i := 851) (by decide +kernel)) rfl, iniX8, ⟨by decide +kernel, by decide +kernel⟩, by decide +kernel, by decide⟩
theorem oX8_room : MV mX8_room 2 8 := ⟨ooX8_room, in_tb (List.mem_of_getElem? (i := 849) (by decide +kernel)) rfl, in_tb (List.mem_of_getElem? (i := 850) (by decide +kernel)) rfl, by decide +kernel⟩
abbrev mX8_rewritesOf : MI := (yX8_rewritesOf, cX8_rewritesOf, 4, (some .int))
theorem ooX8_rewritesOf : MO mX8_rewritesOf 1 := ⟨in_tb (List.mem_of_getElem? (i := 867) (by decide +kernel)) rfl, iniX8, ⟨by decide +kernel, by decide +kernel⟩, by decide +kernel, by decide⟩
theorem oX8_rewritesOf : MV mX8_rewritesOf 1 8 := ⟨ooX8_rewritesOf, in_tb (List.mem_of_getElem? (i := 866) (by decide +kernel)) rfl, in_tb (List.mem_of_getElem? (i := 31) (by decide +kernel)) rfl, by decide +kernel⟩
abbrev mX8_votesOf : MI := (yX8_votesOf, cX8_votesOf, 4, (some .int))
theorem ooX8_votesOf : MO mX8_votesOf 1 := ⟨in_tb (List.mem_of_getElem? (i := 871) (by decide +kernel)) rfl, iniX8, ⟨by decide +kernel, by decide +kernel⟩, by decide +kernel, by decide⟩
theorem oX8_votesOf : MV mX8_votesOf 1 8 := ⟨ooX8_votesOf, in_tb (List.mem_of_getElem? (i := 870) (by decide +kernel)) rfl, in_tb (List.mem_of_getElem? (i := 32) (by decide +kernel)) rfl, by decide +kernel⟩
abbrev mX8_standing : MI := (yX8_standing, cX8_standing, 5, (some .int))
theorem ooX8_standing : MO mX8_standing 1 := ⟨in_tb (List.mem_of_getElem? (i := 875) (by decide +kernel)) rfl, iniX8, ⟨by decide +kernel, by decide +kernel⟩, by decide +kernel, by decide⟩
theorem oX8_standing : MV mX8_standing 1 8 := ⟨ooX8_standing, in_tb (List.mem_of_getElem? (i := 874) (by decide +kernel)) rfl, in_tb (List.mem_of_getElem? (i := 33) (by decide +kernel)) rfl, by decide +kernel⟩
abbrev mX8_visitor : MI := (yX8_visitor, cX8_visitor, 3, (some .int))
theorem ooX8_visitor : MO mX8_visitor 2 := ⟨in_tb (List.mem_of_getElem? (i := 863) (by decide +kernel)) rfl, iniX8, ⟨by decide +kernel, by decide +kernel⟩, by decide +kernel, by decide⟩
theorem oX8_visitor : MV mX8_visitor 2 8 := ⟨ooX8_visitor, in_tb (List.mem_of_getElem? (i := 861) (by decide +kernel)) rfl, in_tb (List.mem_of_getElem? (i := 862) (by decide +kernel)) rfl, by decide +kernel⟩
abbrev mX8_hasTold : MI := (yX8_hasTold, cX8_hasTold, 8, (some .boolean))
theorem ooX8_hasTold : MO mX8_hasTold 1 := ⟨in_tb (List.mem_of_getElem? (i := 883) (by decide +kernel)) rfl, iniX8, ⟨by decide +kernel, by decide +kernel⟩, by decide +kernel, by decide⟩
theorem oX8_hasTold : MV mX8_hasTold 1 8 := ⟨ooX8_hasTold, in_tb (List.mem_of_getElem? (i := 882) (by decide +kernel)) rfl, in_tb (List.mem_of_getElem? (i := 34) (by decide +kernel)) rfl, by decide +kernel⟩
abbrev mX8_labelsWith : MI := (yX8_labelsWith, cX8_labelsWith, 4, (some .int))
theorem ooX8_labelsWith : MO mX8_labelsWith 1 := ⟨in_tb (List.mem_of_getElem? (i := 879) (by decide +kernel)) rfl, iniX8, ⟨by decide +kernel, by decide +kernel⟩, by decide +kernel, by decide⟩
theorem oX8_labelsWith : MV mX8_labelsWith 1 8 := ⟨ooX8_labelsWith, in_tb (List.mem_of_getElem? (i := 877) (by decide +kernel)) rfl, in_tb (List.mem_of_getElem? (i := 878) (by decide +kernel)) rfl, by decide +kernel⟩
abbrev mX8_count : MI := (yX8_count, cX8_count, 2, (some .int))
theorem ooX8_count : MO mX8_count 1 := ⟨in_tb (List.mem_of_getElem? (i := 887) (by decide +kernel)) rfl, iniX8, ⟨by decide +kernel, by decide +kernel⟩, by decide +kernel, by decide⟩
theorem oX8_count : MV mX8_count 1 8 := ⟨ooX8_count, in_tb (List.mem_of_getElem? (i := 885) (by decide +kernel)) rfl, in_tb (List.mem_of_getElem? (i := 886) (by decide +kernel)) rfl, by decide +kernel⟩
abbrev mX8_allVotes : MI := (yX8_allVotes, cX8_allVotes, 3, (some .int))
theorem ooX8_allVotes : MO mX8_allVotes 0 := ⟨in_tb (List.mem_of_getElem? (i := 891) (by decide +kernel)) rfl, iniX8, ⟨by decide +kernel, by decide +kernel⟩, by decide +kernel, by decide⟩
theorem oX8_allVotes : MV mX8_allVotes 0 8 := ⟨ooX8_allVotes, in_tb (List.mem_of_getElem? (i := 890) (by decide +kernel)) rfl, in_tb (List.mem_of_getElem? (i := 35) (by decide +kernel)) rfl, by decide +kernel⟩
abbrev mJ6_bitCount_0f7a4 : MI := (yJ6_bitCount_0f7a4, cJ6_bitCount_0f7a4, 1, (some .int))
theorem ooJ6_bitCount_0f7a4 : MO mJ6_bitCount_0f7a4 1 := ⟨in_tb (List.mem_of_getElem? (i := 357) (by decide +kernel)) rfl, iniJ6, ⟨by decide +kernel, by decide +kernel⟩, by decide +kernel, by decide⟩
theorem oJ6_bitCount_0f7a4 : MS mJ6_bitCount_0f7a4 1 := ⟨ooJ6_bitCount_0f7a4, in_tb (List.mem_of_getElem? (i := 356) (by decide +kernel)) rfl⟩
abbrev mJ9_max_7cf53 : MI := (yJ9_max_7cf53, cJ9_max_7cf53, 2, (some .int))
theorem ooJ9_max_7cf53 : MO mJ9_max_7cf53 2 := ⟨in_tb (List.mem_of_getElem? (i := 563) (by decide +kernel)) rfl, iniJ9, ⟨by decide +kernel, by decide +kernel⟩, by decide +kernel, by decide⟩
theorem oJ9_max_7cf53 : MS mJ9_max_7cf53 2 := ⟨ooJ9_max_7cf53, in_tb (List.mem_of_getElem? (i := 562) (by decide +kernel)) rfl⟩
abbrev mJ7_fill_53178 : MI := (yJ7_fill_53178, cJ7_fill_53178, 4, none)
theorem ooJ7_fill_53178 : MO mJ7_fill_53178 2 := ⟨in_tb (List.mem_of_getElem? (i := 174) (by decide +kernel)) rfl, iniJ7, ⟨by decide +kernel, by decide +kernel⟩, by decide +kernel, by decide⟩
theorem oJ7_fill_53178 : MS mJ7_fill_53178 2 := ⟨ooJ7_fill_53178, in_tb (List.mem_of_getElem? (i := 173) (by decide +kernel)) rfl⟩
theorem nI_addN (a b : Nat) : nI a + nI b = nI (a + b) := (Int32.ofNat_add a b).symm
theorem nI_mulN (a b : Nat) : nI a * nI b = nI (a * b) := (Int32.ofNat_mul a b).symm
theorem nI_subN {a b : Nat} (h : b ≤ a) : nI a - nI b = nI (a - b) := by
  have h1 : nI a = nI (a - b) + nI b := by rw [nI_addN, Nat.sub_add_cancel h]
  rw [h1, Int32.add_sub_cancel]
theorem nI_leN {a b : Nat} (ha : a < 2147483648) (hb : b < 2147483648) : nI a ≤ nI b ↔ a ≤ b := by
  rw [Int32.le_iff_toInt_le, nI_toInt (by omega), nI_toInt (by omega)]; omega
theorem nI_ltN {a b : Nat} (ha : a < 2147483648) (hb : b < 2147483648) : nI a < nI b ↔ a < b := by
  rw [Int32.lt_iff_toInt_lt, nI_toInt (by omega), nI_toInt (by omega)]; omega
theorem nI_eqN {a b : Nat} (ha : a < 2147483648) (hb : b < 2147483648) : nI a = nI b ↔ a = b := by
  constructor
  · intro h
    have h1 : (nI a).toInt = (nI b).toInt := by rw [h]
    rw [nI_toInt (by omega), nI_toInt (by omega)] at h1; omega
  · intro h; rw [h]
section VN2
variable {mi : MI} {d mc ms : Nat} {Po : Option Value → Wd → Nat → Prop} {w : Wd} {sz cells slots : Nat} {L : List (Option Value)} {stk : List Value} {pc a : Nat}
theorem v_iaddN {x y : Nat} (hd : decode mi.2.1 pc = .ok (.iadd, 1)) (k : V mi d mc ms Po w sz cells slots L (.int (nI (x + y)) :: stk) (pc + 1)) : V mi d mc ms Po w sz cells slots L (.int (nI y) :: .int (nI x) :: stk) pc := v_iadd hd (by rw [nI_addN]; exact k)
theorem v_imulN {x y : Nat} (hd : decode mi.2.1 pc = .ok (.imul, 1)) (k : V mi d mc ms Po w sz cells slots L (.int (nI (x * y)) :: stk) (pc + 1)) : V mi d mc ms Po w sz cells slots L (.int (nI y) :: .int (nI x) :: stk) pc := v_imul hd (by rw [nI_mulN]; exact k)
theorem v_isubN {x y : Nat} (hd : decode mi.2.1 pc = .ok (.isub, 1)) (h : y ≤ x) (k : V mi d mc ms Po w sz cells slots L (.int (nI (x - y)) :: stk) (pc + 1)) : V mi d mc ms Po w sz cells slots L (.int (nI y) :: .int (nI x) :: stk) pc := v_isub hd (by rw [nI_subN h]; exact k)
theorem v_iincN {i x n : Nat} {z : Int} {L' : List (Option Value)} (hd : decode mi.2.1 pc = .ok (.iinc i z, 3)) (hi : i < mi.2.2.1) (hl0 : lk L i = some (.int (nI x))) (hz : Int32.ofInt z = nI n) (hL : st L i (.int (nI (x + n))) = L') (k : V mi d mc ms Po w sz cells slots L' stk (pc + 3)) : V mi d mc ms Po w sz cells slots L stk pc := v_iinc hd hi hl0 (by rw [hz, nI_addN]) hL k
theorem v_ialdN {n v : Nat} {f : Nat → Int32} {i : Int32} (j : Nat) (hd : decode mi.2.1 pc = .ok (.iaload, 1)) (ha : w a = some (ia 1 n f)) (hj : i = nI j) (hjn : j < n) (hn : n ≤ 2147483647) (hv : f j = nI v) (kk : V mi d mc ms Po w sz cells slots L (.int (nI v) :: stk) (pc + 1)) : V mi d mc ms Po w sz cells slots L (.int i :: .ref a :: stk) pc := v_iald j hd ha hj hjn hn (by rw [hv]; exact kk)
theorem v_caldN {n v : Nat} {f : Nat → Int32} {i : Int32} (j : Nat) (hd : decode mi.2.1 pc = .ok (.caload, 1)) (ha : w a = some (ia 0 n f)) (hj : i = nI j) (hjn : j < n) (hn : n ≤ 2147483647) (hv : f j = nI v) (kk : V mi d mc ms Po w sz cells slots L (.int (nI v) :: stk) (pc + 1)) : V mi d mc ms Po w sz cells slots L (.int i :: .ref a :: stk) pc := v_cald j hd ha hj hjn hn (by rw [hv]; exact kk)
theorem v_icmp_eqN {x y : Nat} {off : Int} {tgt : Nat} (hd : decode mi.2.1 pc = .ok (.if_icmp .eq off, 3)) (ht : (pc : Int) + off = (tgt : Int)) (hx : x < 2147483648) (hy : y < 2147483648) (kt : x = y → V mi d mc ms Po w sz cells slots L stk (tgt)) (kf : ¬ x = y → V mi d mc ms Po w sz cells slots L stk (pc + 3)) : V mi d mc ms Po w sz cells slots L (.int (nI y) :: .int (nI x) :: stk) pc := v_icmp_eq hd ht (fun z => kt ((nI_eqN hx hy).mp z)) (fun z => kf (fun u => z ((nI_eqN hx hy).mpr u)))
theorem v_icmp_neN {x y : Nat} {off : Int} {tgt : Nat} (hd : decode mi.2.1 pc = .ok (.if_icmp .ne off, 3)) (ht : (pc : Int) + off = (tgt : Int)) (hx : x < 2147483648) (hy : y < 2147483648) (kt : ¬ x = y → V mi d mc ms Po w sz cells slots L stk (tgt)) (kf : x = y → V mi d mc ms Po w sz cells slots L stk (pc + 3)) : V mi d mc ms Po w sz cells slots L (.int (nI y) :: .int (nI x) :: stk) pc := v_icmp_ne hd ht (fun z => kt (fun u => z ((nI_eqN hx hy).mpr u))) (fun z => kf ((nI_eqN hx hy).mp z))
theorem v_icmp_ltN {x y : Nat} {off : Int} {tgt : Nat} (hd : decode mi.2.1 pc = .ok (.if_icmp .lt off, 3)) (ht : (pc : Int) + off = (tgt : Int)) (hx : x < 2147483648) (hy : y < 2147483648) (kt : x < y → V mi d mc ms Po w sz cells slots L stk (tgt)) (kf : ¬ x < y → V mi d mc ms Po w sz cells slots L stk (pc + 3)) : V mi d mc ms Po w sz cells slots L (.int (nI y) :: .int (nI x) :: stk) pc := v_icmp_lt hd ht (fun z => kt ((nI_ltN hx hy).mp z)) (fun z => kf (fun u => z ((nI_ltN hx hy).mpr u)))
theorem v_icmp_geN {x y : Nat} {off : Int} {tgt : Nat} (hd : decode mi.2.1 pc = .ok (.if_icmp .ge off, 3)) (ht : (pc : Int) + off = (tgt : Int)) (hx : x < 2147483648) (hy : y < 2147483648) (kt : y ≤ x → V mi d mc ms Po w sz cells slots L stk (tgt)) (kf : ¬ y ≤ x → V mi d mc ms Po w sz cells slots L stk (pc + 3)) : V mi d mc ms Po w sz cells slots L (.int (nI y) :: .int (nI x) :: stk) pc := v_icmp_ge hd ht (fun z => kt ((nI_leN hy hx).mp z)) (fun z => kf (fun u => z ((nI_leN hy hx).mpr u)))
theorem v_icmp_gtN {x y : Nat} {off : Int} {tgt : Nat} (hd : decode mi.2.1 pc = .ok (.if_icmp .gt off, 3)) (ht : (pc : Int) + off = (tgt : Int)) (hx : x < 2147483648) (hy : y < 2147483648) (kt : y < x → V mi d mc ms Po w sz cells slots L stk (tgt)) (kf : ¬ y < x → V mi d mc ms Po w sz cells slots L stk (pc + 3)) : V mi d mc ms Po w sz cells slots L (.int (nI y) :: .int (nI x) :: stk) pc := v_icmp_gt hd ht (fun z => kt ((nI_ltN hy hx).mp z)) (fun z => kf (fun u => z ((nI_ltN hy hx).mpr u)))
theorem v_icmp_leN {x y : Nat} {off : Int} {tgt : Nat} (hd : decode mi.2.1 pc = .ok (.if_icmp .le off, 3)) (ht : (pc : Int) + off = (tgt : Int)) (hx : x < 2147483648) (hy : y < 2147483648) (kt : x ≤ y → V mi d mc ms Po w sz cells slots L stk (tgt)) (kf : ¬ x ≤ y → V mi d mc ms Po w sz cells slots L stk (pc + 3)) : V mi d mc ms Po w sz cells slots L (.int (nI y) :: .int (nI x) :: stk) pc := v_icmp_le hd ht (fun z => kt ((nI_leN hx hy).mp z)) (fun z => kf (fun u => z ((nI_leN hx hy).mpr u)))
end VN2
theorem dn {P : Nat → Prop} {N : Nat} (h : ∀ i, i ≤ N → (i < N → P (i + 1)) → P i) : ∀ i, i ≤ N → P i := by
  intro i hi
  obtain ⟨k, hk⟩ : ∃ k, i + k = N := ⟨N - i, by omega⟩
  induction k generalizing i with
  | zero => exact h i hi (fun h2 => by omega)
  | succ k ih => exact h i hi (fun h2 => ih (i + 1) (by omega) (by omega))
end
section
theorem dX8_init_0 : decode cX8_init 0 = .ok (.aload_n 0, 1) := by decide +kernel
theorem dX8_init_1 : decode cX8_init 1 = .ok (.invokespecial 1, 3) := by decide +kernel
theorem dX8_init_4 : decode cX8_init 4 = .ok (.aload_n 0, 1) := by decide +kernel
theorem dX8_init_5 : decode cX8_init 5 = .ok (.sipush 17088, 3) := by decide +kernel
theorem dX8_init_8 : decode cX8_init 8 = .ok (.newarray .int, 2) := by decide +kernel
theorem dX8_init_10 : decode cX8_init 10 = .ok (.putfield 7, 3) := by decide +kernel
theorem dX8_init_13 : decode cX8_init 13 = .ok (.aload_n 0, 1) := by decide +kernel
theorem dX8_init_14 : decode cX8_init 14 = .ok (.bipush 60, 2) := by decide +kernel
theorem dX8_init_16 : decode cX8_init 16 = .ok (.newarray .char, 2) := by decide +kernel
theorem dX8_init_18 : decode cX8_init 18 = .ok (.putfield 13, 3) := by decide +kernel
theorem dX8_init_21 : decode cX8_init 21 = .ok (.aload_n 0, 1) := by decide +kernel
theorem dX8_init_22 : decode cX8_init 22 = .ok (.sipush 961, 3) := by decide +kernel
theorem dX8_init_25 : decode cX8_init 25 = .ok (.newarray .int, 2) := by decide +kernel
theorem dX8_init_27 : decode cX8_init 27 = .ok (.putfield 17, 3) := by decide +kernel
theorem dX8_init_30 : decode cX8_init 30 = .ok (.iconst 0, 1) := by decide +kernel
theorem dX8_init_31 : decode cX8_init 31 = .ok (.istore_n 1, 1) := by decide +kernel
theorem dX8_init_32 : decode cX8_init 32 = .ok (.iload_n 1, 1) := by decide +kernel
theorem dX8_init_33 : decode cX8_init 33 = .ok (.bipush 8, 2) := by decide +kernel
theorem dX8_init_35 : decode cX8_init 35 = .ok (.if_icmp .ge 18, 3) := by decide +kernel
theorem dX8_init_38 : decode cX8_init 38 = .ok (.aload_n 0, 1) := by decide +kernel
theorem dX8_init_39 : decode cX8_init 39 = .ok (.getfield 7, 3) := by decide +kernel
theorem dX8_init_42 : decode cX8_init 42 = .ok (.iload_n 1, 1) := by decide +kernel
theorem dX8_init_43 : decode cX8_init 43 = .ok (.iload_n 1, 1) := by decide +kernel
theorem dX8_init_44 : decode cX8_init 44 = .ok (.iconst 4, 1) := by decide +kernel
theorem dX8_init_45 : decode cX8_init 45 = .ok (.irem, 1) := by decide +kernel
theorem dX8_init_46 : decode cX8_init 46 = .ok (.iastore, 1) := by decide +kernel
theorem dX8_init_47 : decode cX8_init 47 = .ok (.iinc 1 1, 3) := by decide +kernel
theorem dX8_init_50 : decode cX8_init 50 = .ok (.goto (-18), 3) := by decide +kernel
theorem dX8_init_53 : decode cX8_init 53 = .ok (.iconst 0, 1) := by decide +kernel
theorem dX8_init_54 : decode cX8_init 54 = .ok (.istore_n 1, 1) := by decide +kernel
theorem dX8_init_55 : decode cX8_init 55 = .ok (.iload_n 1, 1) := by decide +kernel
theorem dX8_init_56 : decode cX8_init 56 = .ok (.iconst 4, 1) := by decide +kernel
theorem dX8_init_57 : decode cX8_init 57 = .ok (.if_icmp .ge 30, 3) := by decide +kernel
theorem dX8_init_60 : decode cX8_init 60 = .ok (.aload_n 0, 1) := by decide +kernel
theorem dX8_init_61 : decode cX8_init 61 = .ok (.getfield 7, 3) := by decide +kernel
theorem dX8_init_64 : decode cX8_init 64 = .ok (.bipush 8, 2) := by decide +kernel
theorem dX8_init_66 : decode cX8_init 66 = .ok (.iload_n 1, 1) := by decide +kernel
theorem dX8_init_67 : decode cX8_init 67 = .ok (.iadd, 1) := by decide +kernel
theorem dX8_init_68 : decode cX8_init 68 = .ok (.iconst 1, 1) := by decide +kernel
theorem dX8_init_69 : decode cX8_init 69 = .ok (.iastore, 1) := by decide +kernel
theorem dX8_init_70 : decode cX8_init 70 = .ok (.aload_n 0, 1) := by decide +kernel
theorem dX8_init_71 : decode cX8_init 71 = .ok (.getfield 7, 3) := by decide +kernel
theorem dX8_init_74 : decode cX8_init 74 = .ok (.bipush 12, 2) := by decide +kernel
theorem dX8_init_76 : decode cX8_init 76 = .ok (.iload_n 1, 1) := by decide +kernel
theorem dX8_init_77 : decode cX8_init 77 = .ok (.iadd, 1) := by decide +kernel
theorem dX8_init_78 : decode cX8_init 78 = .ok (.bipush 10, 2) := by decide +kernel
theorem dX8_init_80 : decode cX8_init 80 = .ok (.iastore, 1) := by decide +kernel
theorem dX8_init_81 : decode cX8_init 81 = .ok (.iinc 1 1, 3) := by decide +kernel
theorem dX8_init_84 : decode cX8_init 84 = .ok (.goto (-29), 3) := by decide +kernel
theorem dX8_init_87 : decode cX8_init 87 = .ok (.aload_n 0, 1) := by decide +kernel
theorem dX8_init_88 : decode cX8_init 88 = .ok (.getfield 7, 3) := by decide +kernel
theorem dX8_init_91 : decode cX8_init 91 = .ok (.bipush 16, 2) := by decide +kernel
theorem dX8_init_93 : decode cX8_init 93 = .ok (.iconst 2, 1) := by decide +kernel
theorem dX8_init_94 : decode cX8_init 94 = .ok (.iastore, 1) := by decide +kernel
theorem dX8_init_95 : decode cX8_init 95 = .ok (.bipush 32, 2) := by decide +kernel
theorem dX8_init_97 : decode cX8_init 97 = .ok (.istore_n 1, 1) := by decide +kernel
theorem dX8_init_98 : decode cX8_init 98 = .ok (.iload_n 1, 1) := by decide +kernel
theorem dX8_init_99 : decode cX8_init 99 = .ok (.sipush 272, 3) := by decide +kernel
theorem dX8_init_102 : decode cX8_init 102 = .ok (.if_icmp .ge 16, 3) := by decide +kernel
theorem dX8_init_105 : decode cX8_init 105 = .ok (.aload_n 0, 1) := by decide +kernel
theorem dX8_init_106 : decode cX8_init 106 = .ok (.getfield 7, 3) := by decide +kernel
theorem dX8_init_109 : decode cX8_init 109 = .ok (.iload_n 1, 1) := by decide +kernel
theorem dX8_init_110 : decode cX8_init 110 = .ok (.iconst (-1), 1) := by decide +kernel
theorem dX8_init_111 : decode cX8_init 111 = .ok (.iastore, 1) := by decide +kernel
theorem dX8_init_112 : decode cX8_init 112 = .ok (.iinc 1 1, 3) := by decide +kernel
theorem dX8_init_115 : decode cX8_init 115 = .ok (.goto (-17), 3) := by decide +kernel
theorem dX8_init_118 : decode cX8_init 118 = .ok (.iconst 0, 1) := by decide +kernel
theorem dX8_init_119 : decode cX8_init 119 = .ok (.istore_n 1, 1) := by decide +kernel
theorem dX8_init_120 : decode cX8_init 120 = .ok (.iload_n 1, 1) := by decide +kernel
theorem dX8_init_121 : decode cX8_init 121 = .ok (.bipush 16, 2) := by decide +kernel
theorem dX8_init_123 : decode cX8_init 123 = .ok (.if_icmp .ge 23, 3) := by decide +kernel
theorem dX8_init_126 : decode cX8_init 126 = .ok (.aload_n 0, 1) := by decide +kernel
theorem dX8_init_127 : decode cX8_init 127 = .ok (.getfield 7, 3) := by decide +kernel
theorem dX8_init_130 : decode cX8_init 130 = .ok (.sipush 1808, 3) := by decide +kernel
theorem dX8_init_133 : decode cX8_init 133 = .ok (.bipush 65, 2) := by decide +kernel
theorem dX8_init_135 : decode cX8_init 135 = .ok (.iload_n 1, 1) := by decide +kernel
theorem dX8_init_136 : decode cX8_init 136 = .ok (.imul, 1) := by decide +kernel
theorem dX8_init_137 : decode cX8_init 137 = .ok (.iadd, 1) := by decide +kernel
theorem dX8_init_138 : decode cX8_init 138 = .ok (.iconst (-1), 1) := by decide +kernel
theorem dX8_init_139 : decode cX8_init 139 = .ok (.iastore, 1) := by decide +kernel
theorem dX8_init_140 : decode cX8_init 140 = .ok (.iinc 1 1, 3) := by decide +kernel
theorem dX8_init_143 : decode cX8_init 143 = .ok (.goto (-23), 3) := by decide +kernel
theorem dX8_init_146 : decode cX8_init 146 = .ok (.return_, 1) := by decide +kernel
theorem dX8_in_0 : decode cX8_in 0 = .ok (.iload_n 0, 1) := by decide +kernel
theorem dX8_in_1 : decode cX8_in 1 = .ok (.iload_n 1, 1) := by decide +kernel
theorem dX8_in_2 : decode cX8_in 2 = .ok (.if_icmp .lt 12, 3) := by decide +kernel
theorem dX8_in_5 : decode cX8_in 5 = .ok (.iload_n 0, 1) := by decide +kernel
theorem dX8_in_6 : decode cX8_in 6 = .ok (.iload_n 2, 1) := by decide +kernel
theorem dX8_in_7 : decode cX8_in 7 = .ok (.if_icmp .gt 7, 3) := by decide +kernel
theorem dX8_in_10 : decode cX8_in 10 = .ok (.iconst 1, 1) := by decide +kernel
theorem dX8_in_11 : decode cX8_in 11 = .ok (.goto 4, 3) := by decide +kernel
theorem dX8_in_14 : decode cX8_in 14 = .ok (.iconst 0, 1) := by decide +kernel
theorem dX8_in_15 : decode cX8_in 15 = .ok (.ireturn, 1) := by decide +kernel
theorem dX8_copies_0 : decode cX8_copies 0 = .ok (.iconst 0, 1) := by decide +kernel
theorem dX8_copies_1 : decode cX8_copies 1 = .ok (.istore_n 3, 1) := by decide +kernel
theorem dX8_copies_2 : decode cX8_copies 2 = .ok (.iload_n 3, 1) := by decide +kernel
theorem dX8_copies_3 : decode cX8_copies 3 = .ok (.sipush 2848, 3) := by decide +kernel
theorem dX8_copies_6 : decode cX8_copies 6 = .ok (.if_icmp .ge 33, 3) := by decide +kernel
theorem dX8_copies_9 : decode cX8_copies 9 = .ok (.aload_n 0, 1) := by decide +kernel
theorem dX8_copies_10 : decode cX8_copies 10 = .ok (.getfield 7, 3) := by decide +kernel
theorem dX8_copies_13 : decode cX8_copies 13 = .ok (.sipush 2848, 3) := by decide +kernel
theorem dX8_copies_16 : decode cX8_copies 16 = .ok (.iload_n 2, 1) := by decide +kernel
theorem dX8_copies_17 : decode cX8_copies 17 = .ok (.imul, 1) := by decide +kernel
theorem dX8_copies_18 : decode cX8_copies 18 = .ok (.iload_n 3, 1) := by decide +kernel
theorem dX8_copies_19 : decode cX8_copies 19 = .ok (.iadd, 1) := by decide +kernel
theorem dX8_copies_20 : decode cX8_copies 20 = .ok (.aload_n 0, 1) := by decide +kernel
theorem dX8_copies_21 : decode cX8_copies 21 = .ok (.getfield 7, 3) := by decide +kernel
theorem dX8_copies_24 : decode cX8_copies 24 = .ok (.sipush 2848, 3) := by decide +kernel
theorem dX8_copies_27 : decode cX8_copies 27 = .ok (.iload_n 1, 1) := by decide +kernel
theorem dX8_copies_28 : decode cX8_copies 28 = .ok (.imul, 1) := by decide +kernel
theorem dX8_copies_29 : decode cX8_copies 29 = .ok (.iload_n 3, 1) := by decide +kernel
theorem dX8_copies_30 : decode cX8_copies 30 = .ok (.iadd, 1) := by decide +kernel
theorem dX8_copies_31 : decode cX8_copies 31 = .ok (.iaload, 1) := by decide +kernel
theorem dX8_copies_32 : decode cX8_copies 32 = .ok (.iastore, 1) := by decide +kernel
theorem dX8_copies_33 : decode cX8_copies 33 = .ok (.iinc 3 1, 3) := by decide +kernel
theorem dX8_copies_36 : decode cX8_copies 36 = .ok (.goto (-34), 3) := by decide +kernel
theorem dX8_copies_39 : decode cX8_copies 39 = .ok (.return_, 1) := by decide +kernel
theorem dX8_records_0 : decode cX8_records 0 = .ok (.aload_n 0, 1) := by decide +kernel
theorem dX8_records_1 : decode cX8_records 1 = .ok (.getfield 20, 3) := by decide +kernel
theorem dX8_records_4 : decode cX8_records 4 = .ok (.iconst 4, 1) := by decide +kernel
theorem dX8_records_5 : decode cX8_records 5 = .ok (.if_icmp .ne 34, 3) := by decide +kernel
theorem dX8_records_8 : decode cX8_records 8 = .ok (.iconst 1, 1) := by decide +kernel
theorem dX8_records_9 : decode cX8_records 9 = .ok (.istore_n 1, 1) := by decide +kernel
theorem dX8_records_10 : decode cX8_records 10 = .ok (.iload_n 1, 1) := by decide +kernel
theorem dX8_records_11 : decode cX8_records 11 = .ok (.iconst 4, 1) := by decide +kernel
theorem dX8_records_12 : decode cX8_records 12 = .ok (.if_icmp .ge 17, 3) := by decide +kernel
theorem dX8_records_15 : decode cX8_records 15 = .ok (.aload_n 0, 1) := by decide +kernel
theorem dX8_records_16 : decode cX8_records 16 = .ok (.iload_n 1, 1) := by decide +kernel
theorem dX8_records_17 : decode cX8_records 17 = .ok (.iconst 1, 1) := by decide +kernel
theorem dX8_records_18 : decode cX8_records 18 = .ok (.iadd, 1) := by decide +kernel
theorem dX8_records_19 : decode cX8_records 19 = .ok (.iload_n 1, 1) := by decide +kernel
theorem dX8_records_20 : decode cX8_records 20 = .ok (.invokevirtual 24, 3) := by decide +kernel
theorem dX8_records_23 : decode cX8_records 23 = .ok (.iinc 1 1, 3) := by decide +kernel
theorem dX8_records_26 : decode cX8_records 26 = .ok (.goto (-16), 3) := by decide +kernel
theorem dX8_records_29 : decode cX8_records 29 = .ok (.aload_n 0, 1) := by decide +kernel
theorem dX8_records_30 : decode cX8_records 30 = .ok (.dup, 1) := by decide +kernel
theorem dX8_records_31 : decode cX8_records 31 = .ok (.getfield 20, 3) := by decide +kernel
theorem dX8_records_34 : decode cX8_records 34 = .ok (.iconst 1, 1) := by decide +kernel
theorem dX8_records_35 : decode cX8_records 35 = .ok (.isub, 1) := by decide +kernel
theorem dX8_records_36 : decode cX8_records 36 = .ok (.putfield 20, 3) := by decide +kernel
theorem dX8_records_39 : decode cX8_records 39 = .ok (.aload_n 0, 1) := by decide +kernel
theorem dX8_records_40 : decode cX8_records 40 = .ok (.dup, 1) := by decide +kernel
theorem dX8_records_41 : decode cX8_records 41 = .ok (.getfield 20, 3) := by decide +kernel
theorem dX8_records_44 : decode cX8_records 44 = .ok (.iconst 1, 1) := by decide +kernel
theorem dX8_records_45 : decode cX8_records 45 = .ok (.iadd, 1) := by decide +kernel
theorem dX8_records_46 : decode cX8_records 46 = .ok (.putfield 20, 3) := by decide +kernel
theorem dX8_records_49 : decode cX8_records 49 = .ok (.aload_n 0, 1) := by decide +kernel
theorem dX8_records_50 : decode cX8_records 50 = .ok (.iconst 0, 1) := by decide +kernel
theorem dX8_records_51 : decode cX8_records 51 = .ok (.aload_n 0, 1) := by decide +kernel
theorem dX8_records_52 : decode cX8_records 52 = .ok (.getfield 20, 3) := by decide +kernel
theorem dX8_records_55 : decode cX8_records 55 = .ok (.invokevirtual 24, 3) := by decide +kernel
theorem dX8_records_58 : decode cX8_records 58 = .ok (.return_, 1) := by decide +kernel
theorem dX8_rowOf_0 : decode cX8_rowOf 0 = .ok (.sipush 272, 3) := by decide +kernel
theorem dX8_rowOf_3 : decode cX8_rowOf 3 = .ok (.bipush 64, 2) := by decide +kernel
theorem dX8_rowOf_5 : decode cX8_rowOf 5 = .ok (.iconst 3, 1) := by decide +kernel
theorem dX8_rowOf_6 : decode cX8_rowOf 6 = .ok (.iload_n 0, 1) := by decide +kernel
theorem dX8_rowOf_7 : decode cX8_rowOf 7 = .ok (.imul, 1) := by decide +kernel
theorem dX8_rowOf_8 : decode cX8_rowOf 8 = .ok (.iload_n 1, 1) := by decide +kernel
theorem dX8_rowOf_9 : decode cX8_rowOf 9 = .ok (.iadd, 1) := by decide +kernel
theorem dX8_rowOf_10 : decode cX8_rowOf 10 = .ok (.imul, 1) := by decide +kernel
theorem dX8_rowOf_11 : decode cX8_rowOf 11 = .ok (.iadd, 1) := by decide +kernel
theorem dX8_rowOf_12 : decode cX8_rowOf 12 = .ok (.ireturn, 1) := by decide +kernel
theorem dX8_paper_0 : decode cX8_paper 0 = .ok (.sipush 1808, 3) := by decide +kernel
theorem dX8_paper_3 : decode cX8_paper 3 = .ok (.bipush 65, 2) := by decide +kernel
theorem dX8_paper_5 : decode cX8_paper 5 = .ok (.iload_n 0, 1) := by decide +kernel
theorem dX8_paper_6 : decode cX8_paper 6 = .ok (.imul, 1) := by decide +kernel
theorem dX8_paper_7 : decode cX8_paper 7 = .ok (.iadd, 1) := by decide +kernel
theorem dX8_paper_8 : decode cX8_paper 8 = .ok (.ireturn, 1) := by decide +kernel
theorem dX8_words_0 : decode cX8_words 0 = .ok (.iload_n 2, 1) := by decide +kernel
theorem dX8_words_1 : decode cX8_words 1 = .ok (.ifCond .le 7, 3) := by decide +kernel
theorem dX8_words_4 : decode cX8_words 4 = .ok (.iconst 1, 1) := by decide +kernel
theorem dX8_words_5 : decode cX8_words 5 = .ok (.goto 4, 3) := by decide +kernel
theorem dX8_words_8 : decode cX8_words 8 = .ok (.iconst 0, 1) := by decide +kernel
theorem dX8_words_9 : decode cX8_words 9 = .ok (.istore_n 3, 1) := by decide +kernel
theorem dX8_words_10 : decode cX8_words 10 = .ok (.iconst 0, 1) := by decide +kernel
theorem dX8_words_11 : decode cX8_words 11 = .ok (.istore 4, 2) := by decide +kernel
theorem dX8_words_13 : decode cX8_words 13 = .ok (.iload 4, 2) := by decide +kernel
theorem dX8_words_15 : decode cX8_words 15 = .ok (.iload_n 2, 1) := by decide +kernel
theorem dX8_words_16 : decode cX8_words 16 = .ok (.if_icmp .ge 31, 3) := by decide +kernel
theorem dX8_words_19 : decode cX8_words 19 = .ok (.iload_n 3, 1) := by decide +kernel
theorem dX8_words_20 : decode cX8_words 20 = .ok (.aload_n 0, 1) := by decide +kernel
theorem dX8_words_21 : decode cX8_words 21 = .ok (.getfield 7, 3) := by decide +kernel
theorem dX8_words_24 : decode cX8_words 24 = .ok (.iload_n 1, 1) := by decide +kernel
theorem dX8_words_25 : decode cX8_words 25 = .ok (.iload 4, 2) := by decide +kernel
theorem dX8_words_27 : decode cX8_words 27 = .ok (.iadd, 1) := by decide +kernel
theorem dX8_words_28 : decode cX8_words 28 = .ok (.iaload, 1) := by decide +kernel
theorem dX8_words_29 : decode cX8_words 29 = .ok (.bipush 32, 2) := by decide +kernel
theorem dX8_words_31 : decode cX8_words 31 = .ok (.if_icmp .ne 7, 3) := by decide +kernel
theorem dX8_words_34 : decode cX8_words 34 = .ok (.iconst 1, 1) := by decide +kernel
theorem dX8_words_35 : decode cX8_words 35 = .ok (.goto 4, 3) := by decide +kernel
theorem dX8_words_38 : decode cX8_words 38 = .ok (.iconst 0, 1) := by decide +kernel
theorem dX8_words_39 : decode cX8_words 39 = .ok (.iadd, 1) := by decide +kernel
theorem dX8_words_40 : decode cX8_words 40 = .ok (.istore_n 3, 1) := by decide +kernel
theorem dX8_words_41 : decode cX8_words 41 = .ok (.iinc 4 1, 3) := by decide +kernel
theorem dX8_words_44 : decode cX8_words 44 = .ok (.goto (-31), 3) := by decide +kernel
theorem dX8_words_47 : decode cX8_words 47 = .ok (.iload_n 3, 1) := by decide +kernel
theorem dX8_words_48 : decode cX8_words 48 = .ok (.ireturn, 1) := by decide +kernel
theorem dX8_wordsOf_0 : decode cX8_wordsOf 0 = .ok (.iload_n 1, 1) := by decide +kernel
theorem dX8_wordsOf_1 : decode cX8_wordsOf 1 = .ok (.iload_n 2, 1) := by decide +kernel
theorem dX8_wordsOf_2 : decode cX8_wordsOf 2 = .ok (.invokestatic 28, 3) := by decide +kernel
theorem dX8_wordsOf_5 : decode cX8_wordsOf 5 = .ok (.istore_n 3, 1) := by decide +kernel
theorem dX8_wordsOf_6 : decode cX8_wordsOf 6 = .ok (.aload_n 0, 1) := by decide +kernel
theorem dX8_wordsOf_7 : decode cX8_wordsOf 7 = .ok (.iload_n 3, 1) := by decide +kernel
theorem dX8_wordsOf_8 : decode cX8_wordsOf 8 = .ok (.iconst 4, 1) := by decide +kernel
theorem dX8_wordsOf_9 : decode cX8_wordsOf 9 = .ok (.iadd, 1) := by decide +kernel
theorem dX8_wordsOf_10 : decode cX8_wordsOf 10 = .ok (.aload_n 0, 1) := by decide +kernel
theorem dX8_wordsOf_11 : decode cX8_wordsOf 11 = .ok (.getfield 7, 3) := by decide +kernel
theorem dX8_wordsOf_14 : decode cX8_wordsOf 14 = .ok (.iload_n 3, 1) := by decide +kernel
theorem dX8_wordsOf_15 : decode cX8_wordsOf 15 = .ok (.iaload, 1) := by decide +kernel
theorem dX8_wordsOf_16 : decode cX8_wordsOf 16 = .ok (.invokevirtual 32, 3) := by decide +kernel
theorem dX8_wordsOf_19 : decode cX8_wordsOf 19 = .ok (.ireturn, 1) := by decide +kernel
theorem dX8_isLabel_0 : decode cX8_isLabel 0 = .ok (.aload_n 0, 1) := by decide +kernel
theorem dX8_isLabel_1 : decode cX8_isLabel 1 = .ok (.getfield 7, 3) := by decide +kernel
theorem dX8_isLabel_4 : decode cX8_isLabel 4 = .ok (.iload_n 1, 1) := by decide +kernel
theorem dX8_isLabel_5 : decode cX8_isLabel 5 = .ok (.iload_n 2, 1) := by decide +kernel
theorem dX8_isLabel_6 : decode cX8_isLabel 6 = .ok (.invokestatic 28, 3) := by decide +kernel
theorem dX8_isLabel_9 : decode cX8_isLabel 9 = .ok (.iaload, 1) := by decide +kernel
theorem dX8_isLabel_10 : decode cX8_isLabel 10 = .ok (.ifCond .le 7, 3) := by decide +kernel
theorem dX8_isLabel_13 : decode cX8_isLabel 13 = .ok (.iconst 1, 1) := by decide +kernel
theorem dX8_isLabel_14 : decode cX8_isLabel 14 = .ok (.goto 4, 3) := by decide +kernel
theorem dX8_isLabel_17 : decode cX8_isLabel 17 = .ok (.iconst 0, 1) := by decide +kernel
theorem dX8_isLabel_18 : decode cX8_isLabel 18 = .ok (.ireturn, 1) := by decide +kernel
theorem dX8_begin_0 : decode cX8_begin 0 = .ok (.iload_n 3, 1) := by decide +kernel
theorem dX8_begin_1 : decode cX8_begin 1 = .ok (.istore 4, 2) := by decide +kernel
theorem dX8_begin_3 : decode cX8_begin 3 = .ok (.iconst 0, 1) := by decide +kernel
theorem dX8_begin_4 : decode cX8_begin 4 = .ok (.istore 5, 2) := by decide +kernel
theorem dX8_begin_6 : decode cX8_begin 6 = .ok (.iload 4, 2) := by decide +kernel
theorem dX8_begin_8 : decode cX8_begin 8 = .ok (.ifCond .le 33, 3) := by decide +kernel
theorem dX8_begin_11 : decode cX8_begin 11 = .ok (.iload 4, 2) := by decide +kernel
theorem dX8_begin_13 : decode cX8_begin 13 = .ok (.aload_n 0, 1) := by decide +kernel
theorem dX8_begin_14 : decode cX8_begin 14 = .ok (.getfield 7, 3) := by decide +kernel
theorem dX8_begin_17 : decode cX8_begin 17 = .ok (.iload_n 1, 1) := by decide +kernel
theorem dX8_begin_18 : decode cX8_begin 18 = .ok (.iload 5, 2) := by decide +kernel
theorem dX8_begin_20 : decode cX8_begin 20 = .ok (.iadd, 1) := by decide +kernel
theorem dX8_begin_21 : decode cX8_begin 21 = .ok (.iaload, 1) := by decide +kernel
theorem dX8_begin_22 : decode cX8_begin 22 = .ok (.bipush 32, 2) := by decide +kernel
theorem dX8_begin_24 : decode cX8_begin 24 = .ok (.if_icmp .ne 7, 3) := by decide +kernel
theorem dX8_begin_27 : decode cX8_begin 27 = .ok (.iconst 1, 1) := by decide +kernel
theorem dX8_begin_28 : decode cX8_begin 28 = .ok (.goto 4, 3) := by decide +kernel
theorem dX8_begin_31 : decode cX8_begin 31 = .ok (.iconst 0, 1) := by decide +kernel
theorem dX8_begin_32 : decode cX8_begin 32 = .ok (.isub, 1) := by decide +kernel
theorem dX8_begin_33 : decode cX8_begin 33 = .ok (.istore 4, 2) := by decide +kernel
theorem dX8_begin_35 : decode cX8_begin 35 = .ok (.iinc 5 1, 3) := by decide +kernel
theorem dX8_begin_38 : decode cX8_begin 38 = .ok (.goto (-32), 3) := by decide +kernel
theorem dX8_begin_41 : decode cX8_begin 41 = .ok (.iload 5, 2) := by decide +kernel
theorem dX8_begin_43 : decode cX8_begin 43 = .ok (.ireturn, 1) := by decide +kernel
theorem dX8_end_0 : decode cX8_end 0 = .ok (.iload_n 3, 1) := by decide +kernel
theorem dX8_end_1 : decode cX8_end 1 = .ok (.istore 4, 2) := by decide +kernel
theorem dX8_end_3 : decode cX8_end 3 = .ok (.iload 4, 2) := by decide +kernel
theorem dX8_end_5 : decode cX8_end 5 = .ok (.iload_n 2, 1) := by decide +kernel
theorem dX8_end_6 : decode cX8_end 6 = .ok (.if_icmp .ge 23, 3) := by decide +kernel
theorem dX8_end_9 : decode cX8_end 9 = .ok (.aload_n 0, 1) := by decide +kernel
theorem dX8_end_10 : decode cX8_end 10 = .ok (.getfield 7, 3) := by decide +kernel
theorem dX8_end_13 : decode cX8_end 13 = .ok (.iload_n 1, 1) := by decide +kernel
theorem dX8_end_14 : decode cX8_end 14 = .ok (.iload 4, 2) := by decide +kernel
theorem dX8_end_16 : decode cX8_end 16 = .ok (.iadd, 1) := by decide +kernel
theorem dX8_end_17 : decode cX8_end 17 = .ok (.iaload, 1) := by decide +kernel
theorem dX8_end_18 : decode cX8_end 18 = .ok (.bipush 32, 2) := by decide +kernel
theorem dX8_end_20 : decode cX8_end 20 = .ok (.if_icmp .eq 9, 3) := by decide +kernel
theorem dX8_end_23 : decode cX8_end 23 = .ok (.iinc 4 1, 3) := by decide +kernel
theorem dX8_end_26 : decode cX8_end 26 = .ok (.goto (-23), 3) := by decide +kernel
theorem dX8_end_29 : decode cX8_end 29 = .ok (.iload 4, 2) := by decide +kernel
theorem dX8_end_31 : decode cX8_end 31 = .ok (.ireturn, 1) := by decide +kernel
theorem dX8_areAlike_0 : decode cX8_areAlike 0 = .ok (.aload_n 0, 1) := by decide +kernel
theorem dX8_areAlike_1 : decode cX8_areAlike 1 = .ok (.iload_n 1, 1) := by decide +kernel
theorem dX8_areAlike_2 : decode cX8_areAlike 2 = .ok (.iload_n 2, 1) := by decide +kernel
theorem dX8_areAlike_3 : decode cX8_areAlike 3 = .ok (.iload_n 3, 1) := by decide +kernel
theorem dX8_areAlike_4 : decode cX8_areAlike 4 = .ok (.invokevirtual 35, 3) := by decide +kernel
theorem dX8_areAlike_7 : decode cX8_areAlike 7 = .ok (.istore 7, 2) := by decide +kernel
theorem dX8_areAlike_9 : decode cX8_areAlike 9 = .ok (.aload_n 0, 1) := by decide +kernel
theorem dX8_areAlike_10 : decode cX8_areAlike 10 = .ok (.iload 4, 2) := by decide +kernel
theorem dX8_areAlike_12 : decode cX8_areAlike 12 = .ok (.iload 5, 2) := by decide +kernel
theorem dX8_areAlike_14 : decode cX8_areAlike 14 = .ok (.iload 6, 2) := by decide +kernel
theorem dX8_areAlike_16 : decode cX8_areAlike 16 = .ok (.invokevirtual 35, 3) := by decide +kernel
theorem dX8_areAlike_19 : decode cX8_areAlike 19 = .ok (.istore 8, 2) := by decide +kernel
theorem dX8_areAlike_21 : decode cX8_areAlike 21 = .ok (.aload_n 0, 1) := by decide +kernel
theorem dX8_areAlike_22 : decode cX8_areAlike 22 = .ok (.iload_n 1, 1) := by decide +kernel
theorem dX8_areAlike_23 : decode cX8_areAlike 23 = .ok (.iload_n 2, 1) := by decide +kernel
theorem dX8_areAlike_24 : decode cX8_areAlike 24 = .ok (.iload 7, 2) := by decide +kernel
theorem dX8_areAlike_26 : decode cX8_areAlike 26 = .ok (.invokevirtual 39, 3) := by decide +kernel
theorem dX8_areAlike_29 : decode cX8_areAlike 29 = .ok (.iload 7, 2) := by decide +kernel
theorem dX8_areAlike_31 : decode cX8_areAlike 31 = .ok (.isub, 1) := by decide +kernel
theorem dX8_areAlike_32 : decode cX8_areAlike 32 = .ok (.istore 9, 2) := by decide +kernel
theorem dX8_areAlike_34 : decode cX8_areAlike 34 = .ok (.aload_n 0, 1) := by decide +kernel
theorem dX8_areAlike_35 : decode cX8_areAlike 35 = .ok (.iload 4, 2) := by decide +kernel
theorem dX8_areAlike_37 : decode cX8_areAlike 37 = .ok (.iload 5, 2) := by decide +kernel
theorem dX8_areAlike_39 : decode cX8_areAlike 39 = .ok (.iload 8, 2) := by decide +kernel
theorem dX8_areAlike_41 : decode cX8_areAlike 41 = .ok (.invokevirtual 39, 3) := by decide +kernel
theorem dX8_areAlike_44 : decode cX8_areAlike 44 = .ok (.iload 8, 2) := by decide +kernel
theorem dX8_areAlike_46 : decode cX8_areAlike 46 = .ok (.isub, 1) := by decide +kernel
theorem dX8_areAlike_47 : decode cX8_areAlike 47 = .ok (.iload 9, 2) := by decide +kernel
theorem dX8_areAlike_49 : decode cX8_areAlike 49 = .ok (.if_icmp .ne 7, 3) := by decide +kernel
theorem dX8_areAlike_52 : decode cX8_areAlike 52 = .ok (.iconst 1, 1) := by decide +kernel
theorem dX8_areAlike_53 : decode cX8_areAlike 53 = .ok (.goto 4, 3) := by decide +kernel
theorem dX8_areAlike_56 : decode cX8_areAlike 56 = .ok (.iconst 0, 1) := by decide +kernel
theorem dX8_areAlike_57 : decode cX8_areAlike 57 = .ok (.istore 10, 2) := by decide +kernel
theorem dX8_areAlike_59 : decode cX8_areAlike 59 = .ok (.iconst 0, 1) := by decide +kernel
theorem dX8_areAlike_60 : decode cX8_areAlike 60 = .ok (.istore 11, 2) := by decide +kernel
theorem dX8_areAlike_62 : decode cX8_areAlike 62 = .ok (.iload 11, 2) := by decide +kernel
theorem dX8_areAlike_64 : decode cX8_areAlike 64 = .ok (.iload 9, 2) := by decide +kernel
theorem dX8_areAlike_66 : decode cX8_areAlike 66 = .ok (.if_icmp .ge 49, 3) := by decide +kernel
theorem dX8_areAlike_69 : decode cX8_areAlike 69 = .ok (.iload 10, 2) := by decide +kernel
theorem dX8_areAlike_71 : decode cX8_areAlike 71 = .ok (.ifCond .eq 44, 3) := by decide +kernel
theorem dX8_areAlike_74 : decode cX8_areAlike 74 = .ok (.aload_n 0, 1) := by decide +kernel
theorem dX8_areAlike_75 : decode cX8_areAlike 75 = .ok (.getfield 7, 3) := by decide +kernel
theorem dX8_areAlike_78 : decode cX8_areAlike 78 = .ok (.iload_n 1, 1) := by decide +kernel
theorem dX8_areAlike_79 : decode cX8_areAlike 79 = .ok (.iload 7, 2) := by decide +kernel
theorem dX8_areAlike_81 : decode cX8_areAlike 81 = .ok (.iadd, 1) := by decide +kernel
theorem dX8_areAlike_82 : decode cX8_areAlike 82 = .ok (.iload 11, 2) := by decide +kernel
theorem dX8_areAlike_84 : decode cX8_areAlike 84 = .ok (.iadd, 1) := by decide +kernel
theorem dX8_areAlike_85 : decode cX8_areAlike 85 = .ok (.iaload, 1) := by decide +kernel
theorem dX8_areAlike_86 : decode cX8_areAlike 86 = .ok (.aload_n 0, 1) := by decide +kernel
theorem dX8_areAlike_87 : decode cX8_areAlike 87 = .ok (.getfield 7, 3) := by decide +kernel
theorem dX8_areAlike_90 : decode cX8_areAlike 90 = .ok (.iload 4, 2) := by decide +kernel
theorem dX8_areAlike_92 : decode cX8_areAlike 92 = .ok (.iload 8, 2) := by decide +kernel
theorem dX8_areAlike_94 : decode cX8_areAlike 94 = .ok (.iadd, 1) := by decide +kernel
theorem dX8_areAlike_95 : decode cX8_areAlike 95 = .ok (.iload 11, 2) := by decide +kernel
theorem dX8_areAlike_97 : decode cX8_areAlike 97 = .ok (.iadd, 1) := by decide +kernel
theorem dX8_areAlike_98 : decode cX8_areAlike 98 = .ok (.iaload, 1) := by decide +kernel
theorem dX8_areAlike_99 : decode cX8_areAlike 99 = .ok (.if_icmp .ne 7, 3) := by decide +kernel
theorem dX8_areAlike_102 : decode cX8_areAlike 102 = .ok (.iconst 1, 1) := by decide +kernel
theorem dX8_areAlike_103 : decode cX8_areAlike 103 = .ok (.goto 4, 3) := by decide +kernel
theorem dX8_areAlike_106 : decode cX8_areAlike 106 = .ok (.iconst 0, 1) := by decide +kernel
theorem dX8_areAlike_107 : decode cX8_areAlike 107 = .ok (.istore 10, 2) := by decide +kernel
theorem dX8_areAlike_109 : decode cX8_areAlike 109 = .ok (.iinc 11 1, 3) := by decide +kernel
theorem dX8_areAlike_112 : decode cX8_areAlike 112 = .ok (.goto (-50), 3) := by decide +kernel
theorem dX8_areAlike_115 : decode cX8_areAlike 115 = .ok (.iload 10, 2) := by decide +kernel
theorem dX8_areAlike_117 : decode cX8_areAlike 117 = .ok (.ireturn, 1) := by decide +kernel
theorem dX8_cuts_0 : decode cX8_cuts 0 = .ok (.iload_n 1, 1) := by decide +kernel
theorem dX8_cuts_1 : decode cX8_cuts 1 = .ok (.iload_n 2, 1) := by decide +kernel
theorem dX8_cuts_2 : decode cX8_cuts 2 = .ok (.invokestatic 28, 3) := by decide +kernel
theorem dX8_cuts_5 : decode cX8_cuts 5 = .ok (.istore_n 3, 1) := by decide +kernel
theorem dX8_cuts_6 : decode cX8_cuts 6 = .ok (.aload_n 0, 1) := by decide +kernel
theorem dX8_cuts_7 : decode cX8_cuts 7 = .ok (.getfield 7, 3) := by decide +kernel
theorem dX8_cuts_10 : decode cX8_cuts 10 = .ok (.bipush 12, 2) := by decide +kernel
theorem dX8_cuts_12 : decode cX8_cuts 12 = .ok (.aload_n 0, 1) := by decide +kernel
theorem dX8_cuts_13 : decode cX8_cuts 13 = .ok (.getfield 7, 3) := by decide +kernel
theorem dX8_cuts_16 : decode cX8_cuts 16 = .ok (.iload_n 1, 1) := by decide +kernel
theorem dX8_cuts_17 : decode cX8_cuts 17 = .ok (.iaload, 1) := by decide +kernel
theorem dX8_cuts_18 : decode cX8_cuts 18 = .ok (.iadd, 1) := by decide +kernel
theorem dX8_cuts_19 : decode cX8_cuts 19 = .ok (.iaload, 1) := by decide +kernel
theorem dX8_cuts_20 : decode cX8_cuts 20 = .ok (.istore 4, 2) := by decide +kernel
theorem dX8_cuts_22 : decode cX8_cuts 22 = .ok (.aload_n 0, 1) := by decide +kernel
theorem dX8_cuts_23 : decode cX8_cuts 23 = .ok (.iload_n 1, 1) := by decide +kernel
theorem dX8_cuts_24 : decode cX8_cuts 24 = .ok (.iload_n 2, 1) := by decide +kernel
theorem dX8_cuts_25 : decode cX8_cuts 25 = .ok (.invokevirtual 42, 3) := by decide +kernel
theorem dX8_cuts_28 : decode cX8_cuts 28 = .ok (.iload 4, 2) := by decide +kernel
theorem dX8_cuts_30 : decode cX8_cuts 30 = .ok (.if_icmp .gt 5, 3) := by decide +kernel
theorem dX8_cuts_33 : decode cX8_cuts 33 = .ok (.iconst 0, 1) := by decide +kernel
theorem dX8_cuts_34 : decode cX8_cuts 34 = .ok (.ireturn, 1) := by decide +kernel
theorem dX8_cuts_35 : decode cX8_cuts 35 = .ok (.aload_n 0, 1) := by decide +kernel
theorem dX8_cuts_36 : decode cX8_cuts 36 = .ok (.getfield 7, 3) := by decide +kernel
theorem dX8_cuts_39 : decode cX8_cuts 39 = .ok (.iload_n 3, 1) := by decide +kernel
theorem dX8_cuts_40 : decode cX8_cuts 40 = .ok (.aload_n 0, 1) := by decide +kernel
theorem dX8_cuts_41 : decode cX8_cuts 41 = .ok (.iload_n 3, 1) := by decide +kernel
theorem dX8_cuts_42 : decode cX8_cuts 42 = .ok (.iconst 4, 1) := by decide +kernel
theorem dX8_cuts_43 : decode cX8_cuts 43 = .ok (.iadd, 1) := by decide +kernel
theorem dX8_cuts_44 : decode cX8_cuts 44 = .ok (.aload_n 0, 1) := by decide +kernel
theorem dX8_cuts_45 : decode cX8_cuts 45 = .ok (.getfield 7, 3) := by decide +kernel
theorem dX8_cuts_48 : decode cX8_cuts 48 = .ok (.iload_n 3, 1) := by decide +kernel
theorem dX8_cuts_49 : decode cX8_cuts 49 = .ok (.iaload, 1) := by decide +kernel
theorem dX8_cuts_50 : decode cX8_cuts 50 = .ok (.iload 4, 2) := by decide +kernel
theorem dX8_cuts_52 : decode cX8_cuts 52 = .ok (.invokevirtual 35, 3) := by decide +kernel
theorem dX8_cuts_55 : decode cX8_cuts 55 = .ok (.iconst 1, 1) := by decide +kernel
theorem dX8_cuts_56 : decode cX8_cuts 56 = .ok (.isub, 1) := by decide +kernel
theorem dX8_cuts_57 : decode cX8_cuts 57 = .ok (.iastore, 1) := by decide +kernel
theorem dX8_cuts_58 : decode cX8_cuts 58 = .ok (.aload_n 0, 1) := by decide +kernel
theorem dX8_cuts_59 : decode cX8_cuts 59 = .ok (.getfield 7, 3) := by decide +kernel
theorem dX8_cuts_62 : decode cX8_cuts 62 = .ok (.iload_n 3, 1) := by decide +kernel
theorem dX8_cuts_63 : decode cX8_cuts 63 = .ok (.iconst 3, 1) := by decide +kernel
theorem dX8_cuts_64 : decode cX8_cuts 64 = .ok (.iadd, 1) := by decide +kernel
theorem dX8_cuts_65 : decode cX8_cuts 65 = .ok (.dup2, 1) := by decide +kernel
theorem dX8_cuts_66 : decode cX8_cuts 66 = .ok (.iaload, 1) := by decide +kernel
theorem dX8_cuts_67 : decode cX8_cuts 67 = .ok (.iconst 1, 1) := by decide +kernel
theorem dX8_cuts_68 : decode cX8_cuts 68 = .ok (.iadd, 1) := by decide +kernel
theorem dX8_cuts_69 : decode cX8_cuts 69 = .ok (.iastore, 1) := by decide +kernel
theorem dX8_cuts_70 : decode cX8_cuts 70 = .ok (.aload_n 0, 1) := by decide +kernel
theorem dX8_cuts_71 : decode cX8_cuts 71 = .ok (.getfield 7, 3) := by decide +kernel
theorem dX8_cuts_74 : decode cX8_cuts 74 = .ok (.bipush 21, 2) := by decide +kernel
theorem dX8_cuts_76 : decode cX8_cuts 76 = .ok (.dup2, 1) := by decide +kernel
theorem dX8_cuts_77 : decode cX8_cuts 77 = .ok (.iaload, 1) := by decide +kernel
theorem dX8_cuts_78 : decode cX8_cuts 78 = .ok (.iconst 1, 1) := by decide +kernel
theorem dX8_cuts_79 : decode cX8_cuts 79 = .ok (.iadd, 1) := by decide +kernel
theorem dX8_cuts_80 : decode cX8_cuts 80 = .ok (.iastore, 1) := by decide +kernel
theorem dX8_cuts_81 : decode cX8_cuts 81 = .ok (.iconst 1, 1) := by decide +kernel
theorem dX8_cuts_82 : decode cX8_cuts 82 = .ok (.ireturn, 1) := by decide +kernel
theorem dX8_cutsAll_0 : decode cX8_cutsAll 0 = .ok (.iconst 0, 1) := by decide +kernel
theorem dX8_cutsAll_1 : decode cX8_cutsAll 1 = .ok (.istore_n 2, 1) := by decide +kernel
theorem dX8_cutsAll_2 : decode cX8_cutsAll 2 = .ok (.iconst 0, 1) := by decide +kernel
theorem dX8_cutsAll_3 : decode cX8_cutsAll 3 = .ok (.istore_n 3, 1) := by decide +kernel
theorem dX8_cutsAll_4 : decode cX8_cutsAll 4 = .ok (.iload_n 3, 1) := by decide +kernel
theorem dX8_cutsAll_5 : decode cX8_cutsAll 5 = .ok (.iconst 3, 1) := by decide +kernel
theorem dX8_cutsAll_6 : decode cX8_cutsAll 6 = .ok (.if_icmp .ge 26, 3) := by decide +kernel
theorem dX8_cutsAll_9 : decode cX8_cutsAll 9 = .ok (.iload_n 2, 1) := by decide +kernel
theorem dX8_cutsAll_10 : decode cX8_cutsAll 10 = .ok (.aload_n 0, 1) := by decide +kernel
theorem dX8_cutsAll_11 : decode cX8_cutsAll 11 = .ok (.iload_n 1, 1) := by decide +kernel
theorem dX8_cutsAll_12 : decode cX8_cutsAll 12 = .ok (.iload_n 3, 1) := by decide +kernel
theorem dX8_cutsAll_13 : decode cX8_cutsAll 13 = .ok (.invokevirtual 45, 3) := by decide +kernel
theorem dX8_cutsAll_16 : decode cX8_cutsAll 16 = .ok (.ifCond .eq 7, 3) := by decide +kernel
theorem dX8_cutsAll_19 : decode cX8_cutsAll 19 = .ok (.iconst 1, 1) := by decide +kernel
theorem dX8_cutsAll_20 : decode cX8_cutsAll 20 = .ok (.goto 4, 3) := by decide +kernel
theorem dX8_cutsAll_23 : decode cX8_cutsAll 23 = .ok (.iconst 0, 1) := by decide +kernel
theorem dX8_cutsAll_24 : decode cX8_cutsAll 24 = .ok (.iadd, 1) := by decide +kernel
theorem dX8_cutsAll_25 : decode cX8_cutsAll 25 = .ok (.istore_n 2, 1) := by decide +kernel
theorem dX8_cutsAll_26 : decode cX8_cutsAll 26 = .ok (.iinc 3 1, 3) := by decide +kernel
theorem dX8_cutsAll_29 : decode cX8_cutsAll 29 = .ok (.goto (-25), 3) := by decide +kernel
theorem dX8_cutsAll_32 : decode cX8_cutsAll 32 = .ok (.iload_n 2, 1) := by decide +kernel
theorem dX8_cutsAll_33 : decode cX8_cutsAll 33 = .ok (.ireturn, 1) := by decide +kernel
theorem dX8_placeOf_0 : decode cX8_placeOf 0 = .ok (.iconst (-1), 1) := by decide +kernel
theorem dX8_placeOf_1 : decode cX8_placeOf 1 = .ok (.istore_n 2, 1) := by decide +kernel
theorem dX8_placeOf_2 : decode cX8_placeOf 2 = .ok (.iconst 0, 1) := by decide +kernel
theorem dX8_placeOf_3 : decode cX8_placeOf 3 = .ok (.istore_n 3, 1) := by decide +kernel
theorem dX8_placeOf_4 : decode cX8_placeOf 4 = .ok (.iload_n 3, 1) := by decide +kernel
theorem dX8_placeOf_5 : decode cX8_placeOf 5 = .ok (.bipush 16, 2) := by decide +kernel
theorem dX8_placeOf_7 : decode cX8_placeOf 7 = .ok (.if_icmp .ge 32, 3) := by decide +kernel
theorem dX8_placeOf_10 : decode cX8_placeOf 10 = .ok (.iload_n 1, 1) := by decide +kernel
theorem dX8_placeOf_11 : decode cX8_placeOf 11 = .ok (.ifCond .lt 20, 3) := by decide +kernel
theorem dX8_placeOf_14 : decode cX8_placeOf 14 = .ok (.aload_n 0, 1) := by decide +kernel
theorem dX8_placeOf_15 : decode cX8_placeOf 15 = .ok (.getfield 7, 3) := by decide +kernel
theorem dX8_placeOf_18 : decode cX8_placeOf 18 = .ok (.iload_n 3, 1) := by decide +kernel
theorem dX8_placeOf_19 : decode cX8_placeOf 19 = .ok (.invokestatic 49, 3) := by decide +kernel
theorem dX8_placeOf_22 : decode cX8_placeOf 22 = .ok (.iaload, 1) := by decide +kernel
theorem dX8_placeOf_23 : decode cX8_placeOf 23 = .ok (.iload_n 1, 1) := by decide +kernel
theorem dX8_placeOf_24 : decode cX8_placeOf 24 = .ok (.if_icmp .ne 7, 3) := by decide +kernel
theorem dX8_placeOf_27 : decode cX8_placeOf 27 = .ok (.iload_n 3, 1) := by decide +kernel
theorem dX8_placeOf_28 : decode cX8_placeOf 28 = .ok (.goto 4, 3) := by decide +kernel
theorem dX8_placeOf_31 : decode cX8_placeOf 31 = .ok (.iload_n 2, 1) := by decide +kernel
theorem dX8_placeOf_32 : decode cX8_placeOf 32 = .ok (.istore_n 2, 1) := by decide +kernel
theorem dX8_placeOf_33 : decode cX8_placeOf 33 = .ok (.iinc 3 1, 3) := by decide +kernel
theorem dX8_placeOf_36 : decode cX8_placeOf 36 = .ok (.goto (-32), 3) := by decide +kernel
theorem dX8_placeOf_39 : decode cX8_placeOf 39 = .ok (.iload_n 2, 1) := by decide +kernel
theorem dX8_placeOf_40 : decode cX8_placeOf 40 = .ok (.ireturn, 1) := by decide +kernel
theorem dX8_votesFor_0 : decode cX8_votesFor 0 = .ok (.iconst 0, 1) := by decide +kernel
theorem dX8_votesFor_1 : decode cX8_votesFor 1 = .ok (.istore_n 2, 1) := by decide +kernel
theorem dX8_votesFor_2 : decode cX8_votesFor 2 = .ok (.bipush 32, 2) := by decide +kernel
theorem dX8_votesFor_4 : decode cX8_votesFor 4 = .ok (.istore_n 3, 1) := by decide +kernel
theorem dX8_votesFor_5 : decode cX8_votesFor 5 = .ok (.iload_n 3, 1) := by decide +kernel
theorem dX8_votesFor_6 : decode cX8_votesFor 6 = .ok (.sipush 272, 3) := by decide +kernel
theorem dX8_votesFor_9 : decode cX8_votesFor 9 = .ok (.if_icmp .ge 27, 3) := by decide +kernel
theorem dX8_votesFor_12 : decode cX8_votesFor 12 = .ok (.iload_n 2, 1) := by decide +kernel
theorem dX8_votesFor_13 : decode cX8_votesFor 13 = .ok (.aload_n 0, 1) := by decide +kernel
theorem dX8_votesFor_14 : decode cX8_votesFor 14 = .ok (.getfield 7, 3) := by decide +kernel
theorem dX8_votesFor_17 : decode cX8_votesFor 17 = .ok (.iload_n 3, 1) := by decide +kernel
theorem dX8_votesFor_18 : decode cX8_votesFor 18 = .ok (.iaload, 1) := by decide +kernel
theorem dX8_votesFor_19 : decode cX8_votesFor 19 = .ok (.iload_n 1, 1) := by decide +kernel
theorem dX8_votesFor_20 : decode cX8_votesFor 20 = .ok (.if_icmp .ne 7, 3) := by decide +kernel
theorem dX8_votesFor_23 : decode cX8_votesFor 23 = .ok (.iconst 1, 1) := by decide +kernel
theorem dX8_votesFor_24 : decode cX8_votesFor 24 = .ok (.goto 4, 3) := by decide +kernel
theorem dX8_votesFor_27 : decode cX8_votesFor 27 = .ok (.iconst 0, 1) := by decide +kernel
theorem dX8_votesFor_28 : decode cX8_votesFor 28 = .ok (.iadd, 1) := by decide +kernel
theorem dX8_votesFor_29 : decode cX8_votesFor 29 = .ok (.istore_n 2, 1) := by decide +kernel
theorem dX8_votesFor_30 : decode cX8_votesFor 30 = .ok (.iinc 3 1, 3) := by decide +kernel
theorem dX8_votesFor_33 : decode cX8_votesFor 33 = .ok (.goto (-28), 3) := by decide +kernel
theorem dX8_votesFor_36 : decode cX8_votesFor 36 = .ok (.iload_n 2, 1) := by decide +kernel
theorem dX8_votesFor_37 : decode cX8_votesFor 37 = .ok (.ireturn, 1) := by decide +kernel
theorem dX8_goes_0 : decode cX8_goes 0 = .ok (.bipush 32, 2) := by decide +kernel
theorem dX8_goes_2 : decode cX8_goes 2 = .ok (.istore_n 2, 1) := by decide +kernel
theorem dX8_goes_3 : decode cX8_goes 3 = .ok (.iload_n 2, 1) := by decide +kernel
theorem dX8_goes_4 : decode cX8_goes 4 = .ok (.sipush 272, 3) := by decide +kernel
theorem dX8_goes_7 : decode cX8_goes 7 = .ok (.if_icmp .ge 43, 3) := by decide +kernel
theorem dX8_goes_10 : decode cX8_goes 10 = .ok (.aload_n 0, 1) := by decide +kernel
theorem dX8_goes_11 : decode cX8_goes 11 = .ok (.getfield 7, 3) := by decide +kernel
theorem dX8_goes_14 : decode cX8_goes 14 = .ok (.iload_n 2, 1) := by decide +kernel
theorem dX8_goes_15 : decode cX8_goes 15 = .ok (.aload_n 0, 1) := by decide +kernel
theorem dX8_goes_16 : decode cX8_goes 16 = .ok (.getfield 7, 3) := by decide +kernel
theorem dX8_goes_19 : decode cX8_goes 19 = .ok (.iload_n 2, 1) := by decide +kernel
theorem dX8_goes_20 : decode cX8_goes 20 = .ok (.iaload, 1) := by decide +kernel
theorem dX8_goes_21 : decode cX8_goes 21 = .ok (.aload_n 0, 1) := by decide +kernel
theorem dX8_goes_22 : decode cX8_goes 22 = .ok (.getfield 7, 3) := by decide +kernel
theorem dX8_goes_25 : decode cX8_goes 25 = .ok (.iload_n 1, 1) := by decide +kernel
theorem dX8_goes_26 : decode cX8_goes 26 = .ok (.invokestatic 49, 3) := by decide +kernel
theorem dX8_goes_29 : decode cX8_goes 29 = .ok (.iaload, 1) := by decide +kernel
theorem dX8_goes_30 : decode cX8_goes 30 = .ok (.if_icmp .ne 7, 3) := by decide +kernel
theorem dX8_goes_33 : decode cX8_goes 33 = .ok (.iconst (-1), 1) := by decide +kernel
theorem dX8_goes_34 : decode cX8_goes 34 = .ok (.goto 9, 3) := by decide +kernel
theorem dX8_goes_37 : decode cX8_goes 37 = .ok (.aload_n 0, 1) := by decide +kernel
theorem dX8_goes_38 : decode cX8_goes 38 = .ok (.getfield 7, 3) := by decide +kernel
theorem dX8_goes_41 : decode cX8_goes 41 = .ok (.iload_n 2, 1) := by decide +kernel
theorem dX8_goes_42 : decode cX8_goes 42 = .ok (.iaload, 1) := by decide +kernel
theorem dX8_goes_43 : decode cX8_goes 43 = .ok (.iastore, 1) := by decide +kernel
theorem dX8_goes_44 : decode cX8_goes 44 = .ok (.iinc 2 1, 3) := by decide +kernel
theorem dX8_goes_47 : decode cX8_goes 47 = .ok (.goto (-44), 3) := by decide +kernel
theorem dX8_goes_50 : decode cX8_goes 50 = .ok (.aload_n 0, 1) := by decide +kernel
theorem dX8_goes_51 : decode cX8_goes 51 = .ok (.getfield 7, 3) := by decide +kernel
theorem dX8_goes_54 : decode cX8_goes 54 = .ok (.iload_n 1, 1) := by decide +kernel
theorem dX8_goes_55 : decode cX8_goes 55 = .ok (.invokestatic 49, 3) := by decide +kernel
theorem dX8_goes_58 : decode cX8_goes 58 = .ok (.iconst (-1), 1) := by decide +kernel
theorem dX8_goes_59 : decode cX8_goes 59 = .ok (.iastore, 1) := by decide +kernel
theorem dX8_goes_60 : decode cX8_goes 60 = .ok (.return_, 1) := by decide +kernel
theorem dX8_best_0 : decode cX8_best 0 = .ok (.iconst (-1), 1) := by decide +kernel
theorem dX8_best_1 : decode cX8_best 1 = .ok (.istore_n 3, 1) := by decide +kernel
theorem dX8_best_2 : decode cX8_best 2 = .ok (.iconst 0, 1) := by decide +kernel
theorem dX8_best_3 : decode cX8_best 3 = .ok (.istore 4, 2) := by decide +kernel
theorem dX8_best_5 : decode cX8_best 5 = .ok (.iload 4, 2) := by decide +kernel
theorem dX8_best_7 : decode cX8_best 7 = .ok (.bipush 16, 2) := by decide +kernel
theorem dX8_best_9 : decode cX8_best 9 = .ok (.if_icmp .ge 222, 3) := by decide +kernel
theorem dX8_best_12 : decode cX8_best 12 = .ok (.iload 4, 2) := by decide +kernel
theorem dX8_best_14 : decode cX8_best 14 = .ok (.invokestatic 49, 3) := by decide +kernel
theorem dX8_best_17 : decode cX8_best 17 = .ok (.istore 5, 2) := by decide +kernel
theorem dX8_best_19 : decode cX8_best 19 = .ok (.aload_n 0, 1) := by decide +kernel
theorem dX8_best_20 : decode cX8_best 20 = .ok (.getfield 7, 3) := by decide +kernel
theorem dX8_best_23 : decode cX8_best 23 = .ok (.iload 5, 2) := by decide +kernel
theorem dX8_best_25 : decode cX8_best 25 = .ok (.iaload, 1) := by decide +kernel
theorem dX8_best_26 : decode cX8_best 26 = .ok (.ifCond .lt 199, 3) := by decide +kernel
theorem dX8_best_29 : decode cX8_best 29 = .ok (.aload_n 0, 1) := by decide +kernel
theorem dX8_best_30 : decode cX8_best 30 = .ok (.getfield 7, 3) := by decide +kernel
theorem dX8_best_33 : decode cX8_best 33 = .ok (.iload 5, 2) := by decide +kernel
theorem dX8_best_35 : decode cX8_best 35 = .ok (.iconst 1, 1) := by decide +kernel
theorem dX8_best_36 : decode cX8_best 36 = .ok (.iadd, 1) := by decide +kernel
theorem dX8_best_37 : decode cX8_best 37 = .ok (.iaload, 1) := by decide +kernel
theorem dX8_best_38 : decode cX8_best 38 = .ok (.iconst 3, 1) := by decide +kernel
theorem dX8_best_39 : decode cX8_best 39 = .ok (.iload_n 1, 1) := by decide +kernel
theorem dX8_best_40 : decode cX8_best 40 = .ok (.imul, 1) := by decide +kernel
theorem dX8_best_41 : decode cX8_best 41 = .ok (.iload_n 2, 1) := by decide +kernel
theorem dX8_best_42 : decode cX8_best 42 = .ok (.iadd, 1) := by decide +kernel
theorem dX8_best_43 : decode cX8_best 43 = .ok (.if_icmp .ne 182, 3) := by decide +kernel
theorem dX8_best_46 : decode cX8_best 46 = .ok (.aload_n 0, 1) := by decide +kernel
theorem dX8_best_47 : decode cX8_best 47 = .ok (.aload_n 0, 1) := by decide +kernel
theorem dX8_best_48 : decode cX8_best 48 = .ok (.getfield 7, 3) := by decide +kernel
theorem dX8_best_51 : decode cX8_best 51 = .ok (.iload 5, 2) := by decide +kernel
theorem dX8_best_53 : decode cX8_best 53 = .ok (.iaload, 1) := by decide +kernel
theorem dX8_best_54 : decode cX8_best 54 = .ok (.invokevirtual 53, 3) := by decide +kernel
theorem dX8_best_57 : decode cX8_best 57 = .ok (.istore 6, 2) := by decide +kernel
theorem dX8_best_59 : decode cX8_best 59 = .ok (.aload_n 0, 1) := by decide +kernel
theorem dX8_best_60 : decode cX8_best 60 = .ok (.iload 5, 2) := by decide +kernel
theorem dX8_best_62 : decode cX8_best 62 = .ok (.iconst 5, 1) := by decide +kernel
theorem dX8_best_63 : decode cX8_best 63 = .ok (.iadd, 1) := by decide +kernel
theorem dX8_best_64 : decode cX8_best 64 = .ok (.aload_n 0, 1) := by decide +kernel
theorem dX8_best_65 : decode cX8_best 65 = .ok (.getfield 7, 3) := by decide +kernel
theorem dX8_best_68 : decode cX8_best 68 = .ok (.iload 5, 2) := by decide +kernel
theorem dX8_best_70 : decode cX8_best 70 = .ok (.iconst 4, 1) := by decide +kernel
theorem dX8_best_71 : decode cX8_best 71 = .ok (.iadd, 1) := by decide +kernel
theorem dX8_best_72 : decode cX8_best 72 = .ok (.iaload, 1) := by decide +kernel
theorem dX8_best_73 : decode cX8_best 73 = .ok (.invokevirtual 32, 3) := by decide +kernel
theorem dX8_best_76 : decode cX8_best 76 = .ok (.istore 7, 2) := by decide +kernel
theorem dX8_best_78 : decode cX8_best 78 = .ok (.iload 6, 2) := by decide +kernel
theorem dX8_best_80 : decode cX8_best 80 = .ok (.aload_n 0, 1) := by decide +kernel
theorem dX8_best_81 : decode cX8_best 81 = .ok (.getfield 7, 3) := by decide +kernel
theorem dX8_best_84 : decode cX8_best 84 = .ok (.bipush 16, 2) := by decide +kernel
theorem dX8_best_86 : decode cX8_best 86 = .ok (.iaload, 1) := by decide +kernel
theorem dX8_best_87 : decode cX8_best 87 = .ok (.if_icmp .lt 26, 3) := by decide +kernel
theorem dX8_best_90 : decode cX8_best 90 = .ok (.iload 7, 2) := by decide +kernel
theorem dX8_best_92 : decode cX8_best 92 = .ok (.aload_n 0, 1) := by decide +kernel
theorem dX8_best_93 : decode cX8_best 93 = .ok (.getfield 7, 3) := by decide +kernel
theorem dX8_best_96 : decode cX8_best 96 = .ok (.bipush 12, 2) := by decide +kernel
theorem dX8_best_98 : decode cX8_best 98 = .ok (.aload_n 0, 1) := by decide +kernel
theorem dX8_best_99 : decode cX8_best 99 = .ok (.getfield 7, 3) := by decide +kernel
theorem dX8_best_102 : decode cX8_best 102 = .ok (.iload_n 1, 1) := by decide +kernel
theorem dX8_best_103 : decode cX8_best 103 = .ok (.iaload, 1) := by decide +kernel
theorem dX8_best_104 : decode cX8_best 104 = .ok (.iadd, 1) := by decide +kernel
theorem dX8_best_105 : decode cX8_best 105 = .ok (.iaload, 1) := by decide +kernel
theorem dX8_best_106 : decode cX8_best 106 = .ok (.if_icmp .gt 7, 3) := by decide +kernel
theorem dX8_best_109 : decode cX8_best 109 = .ok (.iconst 1, 1) := by decide +kernel
theorem dX8_best_110 : decode cX8_best 110 = .ok (.goto 4, 3) := by decide +kernel
theorem dX8_best_113 : decode cX8_best 113 = .ok (.iconst 0, 1) := by decide +kernel
theorem dX8_best_114 : decode cX8_best 114 = .ok (.istore 8, 2) := by decide +kernel
theorem dX8_best_116 : decode cX8_best 116 = .ok (.iload 8, 2) := by decide +kernel
theorem dX8_best_118 : decode cX8_best 118 = .ok (.ifCond .eq 95, 3) := by decide +kernel
theorem dX8_best_121 : decode cX8_best 121 = .ok (.iload_n 3, 1) := by decide +kernel
theorem dX8_best_122 : decode cX8_best 122 = .ok (.ifCond .lt 91, 3) := by decide +kernel
theorem dX8_best_125 : decode cX8_best 125 = .ok (.iload_n 3, 1) := by decide +kernel
theorem dX8_best_126 : decode cX8_best 126 = .ok (.invokestatic 49, 3) := by decide +kernel
theorem dX8_best_129 : decode cX8_best 129 = .ok (.istore 9, 2) := by decide +kernel
theorem dX8_best_131 : decode cX8_best 131 = .ok (.iload 6, 2) := by decide +kernel
theorem dX8_best_133 : decode cX8_best 133 = .ok (.aload_n 0, 1) := by decide +kernel
theorem dX8_best_134 : decode cX8_best 134 = .ok (.aload_n 0, 1) := by decide +kernel
theorem dX8_best_135 : decode cX8_best 135 = .ok (.getfield 7, 3) := by decide +kernel
theorem dX8_best_138 : decode cX8_best 138 = .ok (.iload 9, 2) := by decide +kernel
theorem dX8_best_140 : decode cX8_best 140 = .ok (.iaload, 1) := by decide +kernel
theorem dX8_best_141 : decode cX8_best 141 = .ok (.invokevirtual 53, 3) := by decide +kernel
theorem dX8_best_144 : decode cX8_best 144 = .ok (.isub, 1) := by decide +kernel
theorem dX8_best_145 : decode cX8_best 145 = .ok (.istore 10, 2) := by decide +kernel
theorem dX8_best_147 : decode cX8_best 147 = .ok (.iload 7, 2) := by decide +kernel
theorem dX8_best_149 : decode cX8_best 149 = .ok (.aload_n 0, 1) := by decide +kernel
theorem dX8_best_150 : decode cX8_best 150 = .ok (.iload 9, 2) := by decide +kernel
theorem dX8_best_152 : decode cX8_best 152 = .ok (.iconst 5, 1) := by decide +kernel
theorem dX8_best_153 : decode cX8_best 153 = .ok (.iadd, 1) := by decide +kernel
theorem dX8_best_154 : decode cX8_best 154 = .ok (.aload_n 0, 1) := by decide +kernel
theorem dX8_best_155 : decode cX8_best 155 = .ok (.getfield 7, 3) := by decide +kernel
theorem dX8_best_158 : decode cX8_best 158 = .ok (.iload 9, 2) := by decide +kernel
theorem dX8_best_160 : decode cX8_best 160 = .ok (.iconst 4, 1) := by decide +kernel
theorem dX8_best_161 : decode cX8_best 161 = .ok (.iadd, 1) := by decide +kernel
theorem dX8_best_162 : decode cX8_best 162 = .ok (.iaload, 1) := by decide +kernel
theorem dX8_best_163 : decode cX8_best 163 = .ok (.invokevirtual 32, 3) := by decide +kernel
theorem dX8_best_166 : decode cX8_best 166 = .ok (.isub, 1) := by decide +kernel
theorem dX8_best_167 : decode cX8_best 167 = .ok (.istore 11, 2) := by decide +kernel
theorem dX8_best_169 : decode cX8_best 169 = .ok (.iload 10, 2) := by decide +kernel
theorem dX8_best_171 : decode cX8_best 171 = .ok (.ifCond .gt 35, 3) := by decide +kernel
theorem dX8_best_174 : decode cX8_best 174 = .ok (.iload 10, 2) := by decide +kernel
theorem dX8_best_176 : decode cX8_best 176 = .ok (.ifCond .ne 34, 3) := by decide +kernel
theorem dX8_best_179 : decode cX8_best 179 = .ok (.iload 11, 2) := by decide +kernel
theorem dX8_best_181 : decode cX8_best 181 = .ok (.ifCond .lt 25, 3) := by decide +kernel
theorem dX8_best_184 : decode cX8_best 184 = .ok (.iload 11, 2) := by decide +kernel
theorem dX8_best_186 : decode cX8_best 186 = .ok (.ifCond .ne 24, 3) := by decide +kernel
theorem dX8_best_189 : decode cX8_best 189 = .ok (.aload_n 0, 1) := by decide +kernel
theorem dX8_best_190 : decode cX8_best 190 = .ok (.getfield 7, 3) := by decide +kernel
theorem dX8_best_193 : decode cX8_best 193 = .ok (.iload 5, 2) := by decide +kernel
theorem dX8_best_195 : decode cX8_best 195 = .ok (.iaload, 1) := by decide +kernel
theorem dX8_best_196 : decode cX8_best 196 = .ok (.aload_n 0, 1) := by decide +kernel
theorem dX8_best_197 : decode cX8_best 197 = .ok (.getfield 7, 3) := by decide +kernel
theorem dX8_best_200 : decode cX8_best 200 = .ok (.iload 9, 2) := by decide +kernel
theorem dX8_best_202 : decode cX8_best 202 = .ok (.iaload, 1) := by decide +kernel
theorem dX8_best_203 : decode cX8_best 203 = .ok (.if_icmp .ge 7, 3) := by decide +kernel
theorem dX8_best_206 : decode cX8_best 206 = .ok (.iconst 1, 1) := by decide +kernel
theorem dX8_best_207 : decode cX8_best 207 = .ok (.goto 4, 3) := by decide +kernel
theorem dX8_best_210 : decode cX8_best 210 = .ok (.iconst 0, 1) := by decide +kernel
theorem dX8_best_211 : decode cX8_best 211 = .ok (.istore 8, 2) := by decide +kernel
theorem dX8_best_213 : decode cX8_best 213 = .ok (.iload 8, 2) := by decide +kernel
theorem dX8_best_215 : decode cX8_best 215 = .ok (.ifCond .eq 8, 3) := by decide +kernel
theorem dX8_best_218 : decode cX8_best 218 = .ok (.iload 4, 2) := by decide +kernel
theorem dX8_best_220 : decode cX8_best 220 = .ok (.goto 4, 3) := by decide +kernel
theorem dX8_best_223 : decode cX8_best 223 = .ok (.iload_n 3, 1) := by decide +kernel
theorem dX8_best_224 : decode cX8_best 224 = .ok (.istore_n 3, 1) := by decide +kernel
theorem dX8_best_225 : decode cX8_best 225 = .ok (.iinc 4 1, 3) := by decide +kernel
theorem dX8_best_228 : decode cX8_best 228 = .ok (.goto (-223), 3) := by decide +kernel
theorem dX8_best_231 : decode cX8_best 231 = .ok (.iload_n 3, 1) := by decide +kernel
theorem dX8_best_232 : decode cX8_best 232 = .ok (.ireturn, 1) := by decide +kernel
theorem dX8_fault_0 : decode cX8_fault 0 = .ok (.iconst 0, 1) := by decide +kernel
theorem dX8_fault_1 : decode cX8_fault 1 = .ok (.istore_n 1, 1) := by decide +kernel
theorem dX8_fault_2 : decode cX8_fault 2 = .ok (.iconst 0, 1) := by decide +kernel
theorem dX8_fault_3 : decode cX8_fault 3 = .ok (.istore_n 2, 1) := by decide +kernel
theorem dX8_fault_4 : decode cX8_fault 4 = .ok (.iload_n 2, 1) := by decide +kernel
theorem dX8_fault_5 : decode cX8_fault 5 = .ok (.aload_n 0, 1) := by decide +kernel
theorem dX8_fault_6 : decode cX8_fault 6 = .ok (.getfield 56, 3) := by decide +kernel
theorem dX8_fault_9 : decode cX8_fault 9 = .ok (.if_icmp .ge 46, 3) := by decide +kernel
theorem dX8_fault_12 : decode cX8_fault 12 = .ok (.aload_n 0, 1) := by decide +kernel
theorem dX8_fault_13 : decode cX8_fault 13 = .ok (.getfield 13, 3) := by decide +kernel
theorem dX8_fault_16 : decode cX8_fault 16 = .ok (.iload_n 2, 1) := by decide +kernel
theorem dX8_fault_17 : decode cX8_fault 17 = .ok (.caload, 1) := by decide +kernel
theorem dX8_fault_18 : decode cX8_fault 18 = .ok (.bipush 97, 2) := by decide +kernel
theorem dX8_fault_20 : decode cX8_fault 20 = .ok (.bipush 122, 2) := by decide +kernel
theorem dX8_fault_22 : decode cX8_fault 22 = .ok (.invokestatic 59, 3) := by decide +kernel
theorem dX8_fault_25 : decode cX8_fault 25 = .ok (.istore_n 3, 1) := by decide +kernel
theorem dX8_fault_26 : decode cX8_fault 26 = .ok (.iload_n 3, 1) := by decide +kernel
theorem dX8_fault_27 : decode cX8_fault 27 = .ok (.ifCond .ne 20, 3) := by decide +kernel
theorem dX8_fault_30 : decode cX8_fault 30 = .ok (.aload_n 0, 1) := by decide +kernel
theorem dX8_fault_31 : decode cX8_fault 31 = .ok (.getfield 13, 3) := by decide +kernel
theorem dX8_fault_34 : decode cX8_fault 34 = .ok (.iload_n 2, 1) := by decide +kernel
theorem dX8_fault_35 : decode cX8_fault 35 = .ok (.caload, 1) := by decide +kernel
theorem dX8_fault_36 : decode cX8_fault 36 = .ok (.bipush 32, 2) := by decide +kernel
theorem dX8_fault_38 : decode cX8_fault 38 = .ok (.if_icmp .ne 7, 3) := by decide +kernel
theorem dX8_fault_41 : decode cX8_fault 41 = .ok (.iload_n 1, 1) := by decide +kernel
theorem dX8_fault_42 : decode cX8_fault 42 = .ok (.ifCond .ne 5, 3) := by decide +kernel
theorem dX8_fault_45 : decode cX8_fault 45 = .ok (.iload_n 2, 1) := by decide +kernel
theorem dX8_fault_46 : decode cX8_fault 46 = .ok (.ireturn, 1) := by decide +kernel
theorem dX8_fault_47 : decode cX8_fault 47 = .ok (.iload_n 3, 1) := by decide +kernel
theorem dX8_fault_48 : decode cX8_fault 48 = .ok (.istore_n 1, 1) := by decide +kernel
theorem dX8_fault_49 : decode cX8_fault 49 = .ok (.iinc 2 1, 3) := by decide +kernel
theorem dX8_fault_52 : decode cX8_fault 52 = .ok (.goto (-48), 3) := by decide +kernel
theorem dX8_fault_55 : decode cX8_fault 55 = .ok (.iload_n 1, 1) := by decide +kernel
theorem dX8_fault_56 : decode cX8_fault 56 = .ok (.ifCond .eq 7, 3) := by decide +kernel
theorem dX8_fault_59 : decode cX8_fault 59 = .ok (.iconst (-1), 1) := by decide +kernel
theorem dX8_fault_60 : decode cX8_fault 60 = .ok (.goto 7, 3) := by decide +kernel
theorem dX8_fault_63 : decode cX8_fault 63 = .ok (.aload_n 0, 1) := by decide +kernel
theorem dX8_fault_64 : decode cX8_fault 64 = .ok (.getfield 56, 3) := by decide +kernel
theorem dX8_fault_67 : decode cX8_fault 67 = .ok (.ireturn, 1) := by decide +kernel
theorem dX8_wordsTold_0 : decode cX8_wordsTold 0 = .ok (.iconst 1, 1) := by decide +kernel
theorem dX8_wordsTold_1 : decode cX8_wordsTold 1 = .ok (.istore_n 1, 1) := by decide +kernel
theorem dX8_wordsTold_2 : decode cX8_wordsTold 2 = .ok (.iconst 0, 1) := by decide +kernel
theorem dX8_wordsTold_3 : decode cX8_wordsTold 3 = .ok (.istore_n 2, 1) := by decide +kernel
theorem dX8_wordsTold_4 : decode cX8_wordsTold 4 = .ok (.iload_n 2, 1) := by decide +kernel
theorem dX8_wordsTold_5 : decode cX8_wordsTold 5 = .ok (.aload_n 0, 1) := by decide +kernel
theorem dX8_wordsTold_6 : decode cX8_wordsTold 6 = .ok (.getfield 56, 3) := by decide +kernel
theorem dX8_wordsTold_9 : decode cX8_wordsTold 9 = .ok (.if_icmp .ge 28, 3) := by decide +kernel
theorem dX8_wordsTold_12 : decode cX8_wordsTold 12 = .ok (.iload_n 1, 1) := by decide +kernel
theorem dX8_wordsTold_13 : decode cX8_wordsTold 13 = .ok (.aload_n 0, 1) := by decide +kernel
theorem dX8_wordsTold_14 : decode cX8_wordsTold 14 = .ok (.getfield 13, 3) := by decide +kernel
theorem dX8_wordsTold_17 : decode cX8_wordsTold 17 = .ok (.iload_n 2, 1) := by decide +kernel
theorem dX8_wordsTold_18 : decode cX8_wordsTold 18 = .ok (.caload, 1) := by decide +kernel
theorem dX8_wordsTold_19 : decode cX8_wordsTold 19 = .ok (.bipush 32, 2) := by decide +kernel
theorem dX8_wordsTold_21 : decode cX8_wordsTold 21 = .ok (.if_icmp .ne 7, 3) := by decide +kernel
theorem dX8_wordsTold_24 : decode cX8_wordsTold 24 = .ok (.iconst 1, 1) := by decide +kernel
theorem dX8_wordsTold_25 : decode cX8_wordsTold 25 = .ok (.goto 4, 3) := by decide +kernel
theorem dX8_wordsTold_28 : decode cX8_wordsTold 28 = .ok (.iconst 0, 1) := by decide +kernel
theorem dX8_wordsTold_29 : decode cX8_wordsTold 29 = .ok (.iadd, 1) := by decide +kernel
theorem dX8_wordsTold_30 : decode cX8_wordsTold 30 = .ok (.istore_n 1, 1) := by decide +kernel
theorem dX8_wordsTold_31 : decode cX8_wordsTold 31 = .ok (.iinc 2 1, 3) := by decide +kernel
theorem dX8_wordsTold_34 : decode cX8_wordsTold 34 = .ok (.goto (-30), 3) := by decide +kernel
theorem dX8_wordsTold_37 : decode cX8_wordsTold 37 = .ok (.iload_n 1, 1) := by decide +kernel
theorem dX8_wordsTold_38 : decode cX8_wordsTold 38 = .ok (.ireturn, 1) := by decide +kernel
theorem dX8_isTold_0 : decode cX8_isTold 0 = .ok (.iload_n 2, 1) := by decide +kernel
theorem dX8_isTold_1 : decode cX8_isTold 1 = .ok (.aload_n 0, 1) := by decide +kernel
theorem dX8_isTold_2 : decode cX8_isTold 2 = .ok (.getfield 56, 3) := by decide +kernel
theorem dX8_isTold_5 : decode cX8_isTold 5 = .ok (.if_icmp .ne 7, 3) := by decide +kernel
theorem dX8_isTold_8 : decode cX8_isTold 8 = .ok (.iconst 1, 1) := by decide +kernel
theorem dX8_isTold_9 : decode cX8_isTold 9 = .ok (.goto 4, 3) := by decide +kernel
theorem dX8_isTold_12 : decode cX8_isTold 12 = .ok (.iconst 0, 1) := by decide +kernel
theorem dX8_isTold_13 : decode cX8_isTold 13 = .ok (.istore_n 3, 1) := by decide +kernel
theorem dX8_isTold_14 : decode cX8_isTold 14 = .ok (.iconst 0, 1) := by decide +kernel
theorem dX8_isTold_15 : decode cX8_isTold 15 = .ok (.istore 4, 2) := by decide +kernel
theorem dX8_isTold_17 : decode cX8_isTold 17 = .ok (.iload 4, 2) := by decide +kernel
theorem dX8_isTold_19 : decode cX8_isTold 19 = .ok (.aload_n 0, 1) := by decide +kernel
theorem dX8_isTold_20 : decode cX8_isTold 20 = .ok (.getfield 56, 3) := by decide +kernel
theorem dX8_isTold_23 : decode cX8_isTold 23 = .ok (.if_icmp .ge 38, 3) := by decide +kernel
theorem dX8_isTold_26 : decode cX8_isTold 26 = .ok (.iload_n 3, 1) := by decide +kernel
theorem dX8_isTold_27 : decode cX8_isTold 27 = .ok (.ifCond .eq 34, 3) := by decide +kernel
theorem dX8_isTold_30 : decode cX8_isTold 30 = .ok (.aload_n 0, 1) := by decide +kernel
theorem dX8_isTold_31 : decode cX8_isTold 31 = .ok (.getfield 7, 3) := by decide +kernel
theorem dX8_isTold_34 : decode cX8_isTold 34 = .ok (.iload_n 1, 1) := by decide +kernel
theorem dX8_isTold_35 : decode cX8_isTold 35 = .ok (.iload 4, 2) := by decide +kernel
theorem dX8_isTold_37 : decode cX8_isTold 37 = .ok (.iadd, 1) := by decide +kernel
theorem dX8_isTold_38 : decode cX8_isTold 38 = .ok (.iaload, 1) := by decide +kernel
theorem dX8_isTold_39 : decode cX8_isTold 39 = .ok (.aload_n 0, 1) := by decide +kernel
theorem dX8_isTold_40 : decode cX8_isTold 40 = .ok (.getfield 13, 3) := by decide +kernel
theorem dX8_isTold_43 : decode cX8_isTold 43 = .ok (.iload 4, 2) := by decide +kernel
theorem dX8_isTold_45 : decode cX8_isTold 45 = .ok (.caload, 1) := by decide +kernel
theorem dX8_isTold_46 : decode cX8_isTold 46 = .ok (.if_icmp .ne 7, 3) := by decide +kernel
theorem dX8_isTold_49 : decode cX8_isTold 49 = .ok (.iconst 1, 1) := by decide +kernel
theorem dX8_isTold_50 : decode cX8_isTold 50 = .ok (.goto 4, 3) := by decide +kernel
theorem dX8_isTold_53 : decode cX8_isTold 53 = .ok (.iconst 0, 1) := by decide +kernel
theorem dX8_isTold_54 : decode cX8_isTold 54 = .ok (.istore_n 3, 1) := by decide +kernel
theorem dX8_isTold_55 : decode cX8_isTold 55 = .ok (.iinc 4 1, 3) := by decide +kernel
theorem dX8_isTold_58 : decode cX8_isTold 58 = .ok (.goto (-41), 3) := by decide +kernel
theorem dX8_isTold_61 : decode cX8_isTold 61 = .ok (.iload_n 3, 1) := by decide +kernel
theorem dX8_isTold_62 : decode cX8_isTold 62 = .ok (.ireturn, 1) := by decide +kernel
theorem dX8_lays_0 : decode cX8_lays 0 = .ok (.iconst 0, 1) := by decide +kernel
theorem dX8_lays_1 : decode cX8_lays 1 = .ok (.istore_n 2, 1) := by decide +kernel
theorem dX8_lays_2 : decode cX8_lays 2 = .ok (.iload_n 2, 1) := by decide +kernel
theorem dX8_lays_3 : decode cX8_lays 3 = .ok (.aload_n 0, 1) := by decide +kernel
theorem dX8_lays_4 : decode cX8_lays 4 = .ok (.getfield 56, 3) := by decide +kernel
theorem dX8_lays_7 : decode cX8_lays 7 = .ok (.if_icmp .ge 23, 3) := by decide +kernel
theorem dX8_lays_10 : decode cX8_lays 10 = .ok (.aload_n 0, 1) := by decide +kernel
theorem dX8_lays_11 : decode cX8_lays 11 = .ok (.getfield 7, 3) := by decide +kernel
theorem dX8_lays_14 : decode cX8_lays 14 = .ok (.iload_n 1, 1) := by decide +kernel
theorem dX8_lays_15 : decode cX8_lays 15 = .ok (.iload_n 2, 1) := by decide +kernel
theorem dX8_lays_16 : decode cX8_lays 16 = .ok (.iadd, 1) := by decide +kernel
theorem dX8_lays_17 : decode cX8_lays 17 = .ok (.aload_n 0, 1) := by decide +kernel
theorem dX8_lays_18 : decode cX8_lays 18 = .ok (.getfield 13, 3) := by decide +kernel
theorem dX8_lays_21 : decode cX8_lays 21 = .ok (.iload_n 2, 1) := by decide +kernel
theorem dX8_lays_22 : decode cX8_lays 22 = .ok (.caload, 1) := by decide +kernel
theorem dX8_lays_23 : decode cX8_lays 23 = .ok (.iastore, 1) := by decide +kernel
theorem dX8_lays_24 : decode cX8_lays 24 = .ok (.iinc 2 1, 3) := by decide +kernel
theorem dX8_lays_27 : decode cX8_lays 27 = .ok (.goto (-25), 3) := by decide +kernel
theorem dX8_lays_30 : decode cX8_lays 30 = .ok (.return_, 1) := by decide +kernel
theorem dX8_setLimit_0 : decode cX8_setLimit 0 = .ok (.iload_n 1, 1) := by decide +kernel
theorem dX8_setLimit_1 : decode cX8_setLimit 1 = .ok (.iconst 0, 1) := by decide +kernel
theorem dX8_setLimit_2 : decode cX8_setLimit 2 = .ok (.iconst 3, 1) := by decide +kernel
theorem dX8_setLimit_3 : decode cX8_setLimit 3 = .ok (.invokestatic 59, 3) := by decide +kernel
theorem dX8_setLimit_6 : decode cX8_setLimit 6 = .ok (.ifCond .ne 5, 3) := by decide +kernel
theorem dX8_setLimit_9 : decode cX8_setLimit 9 = .ok (.iconst (-1), 1) := by decide +kernel
theorem dX8_setLimit_10 : decode cX8_setLimit 10 = .ok (.ireturn, 1) := by decide +kernel
theorem dX8_setLimit_11 : decode cX8_setLimit 11 = .ok (.iload_n 2, 1) := by decide +kernel
theorem dX8_setLimit_12 : decode cX8_setLimit 12 = .ok (.iconst 1, 1) := by decide +kernel
theorem dX8_setLimit_13 : decode cX8_setLimit 13 = .ok (.bipush 15, 2) := by decide +kernel
theorem dX8_setLimit_15 : decode cX8_setLimit 15 = .ok (.invokestatic 59, 3) := by decide +kernel
theorem dX8_setLimit_18 : decode cX8_setLimit 18 = .ok (.ifCond .ne 6, 3) := by decide +kernel
theorem dX8_setLimit_21 : decode cX8_setLimit 21 = .ok (.bipush (-2), 2) := by decide +kernel
theorem dX8_setLimit_23 : decode cX8_setLimit 23 = .ok (.ireturn, 1) := by decide +kernel
theorem dX8_setLimit_24 : decode cX8_setLimit 24 = .ok (.aload_n 0, 1) := by decide +kernel
theorem dX8_setLimit_25 : decode cX8_setLimit 25 = .ok (.getfield 7, 3) := by decide +kernel
theorem dX8_setLimit_28 : decode cX8_setLimit 28 = .ok (.bipush 12, 2) := by decide +kernel
theorem dX8_setLimit_30 : decode cX8_setLimit 30 = .ok (.iload_n 1, 1) := by decide +kernel
theorem dX8_setLimit_31 : decode cX8_setLimit 31 = .ok (.iadd, 1) := by decide +kernel
theorem dX8_setLimit_32 : decode cX8_setLimit 32 = .ok (.iaload, 1) := by decide +kernel
theorem dX8_setLimit_33 : decode cX8_setLimit 33 = .ok (.iload_n 2, 1) := by decide +kernel
theorem dX8_setLimit_34 : decode cX8_setLimit 34 = .ok (.if_icmp .ne 6, 3) := by decide +kernel
theorem dX8_setLimit_37 : decode cX8_setLimit 37 = .ok (.bipush (-5), 2) := by decide +kernel
theorem dX8_setLimit_39 : decode cX8_setLimit 39 = .ok (.ireturn, 1) := by decide +kernel
theorem dX8_setLimit_40 : decode cX8_setLimit 40 = .ok (.aload_n 0, 1) := by decide +kernel
theorem dX8_setLimit_41 : decode cX8_setLimit 41 = .ok (.invokevirtual 63, 3) := by decide +kernel
theorem dX8_setLimit_44 : decode cX8_setLimit 44 = .ok (.aload_n 0, 1) := by decide +kernel
theorem dX8_setLimit_45 : decode cX8_setLimit 45 = .ok (.getfield 7, 3) := by decide +kernel
theorem dX8_setLimit_48 : decode cX8_setLimit 48 = .ok (.bipush 12, 2) := by decide +kernel
theorem dX8_setLimit_50 : decode cX8_setLimit 50 = .ok (.iload_n 1, 1) := by decide +kernel
theorem dX8_setLimit_51 : decode cX8_setLimit 51 = .ok (.iadd, 1) := by decide +kernel
theorem dX8_setLimit_52 : decode cX8_setLimit 52 = .ok (.iload_n 2, 1) := by decide +kernel
theorem dX8_setLimit_53 : decode cX8_setLimit 53 = .ok (.iastore, 1) := by decide +kernel
theorem dX8_setLimit_54 : decode cX8_setLimit 54 = .ok (.iconst 0, 1) := by decide +kernel
theorem dX8_setLimit_55 : decode cX8_setLimit 55 = .ok (.istore_n 3, 1) := by decide +kernel
theorem dX8_setLimit_56 : decode cX8_setLimit 56 = .ok (.iconst 0, 1) := by decide +kernel
theorem dX8_setLimit_57 : decode cX8_setLimit 57 = .ok (.istore 4, 2) := by decide +kernel
theorem dX8_setLimit_59 : decode cX8_setLimit 59 = .ok (.iload 4, 2) := by decide +kernel
theorem dX8_setLimit_61 : decode cX8_setLimit 61 = .ok (.bipush 8, 2) := by decide +kernel
theorem dX8_setLimit_63 : decode cX8_setLimit 63 = .ok (.if_icmp .ge 33, 3) := by decide +kernel
theorem dX8_setLimit_66 : decode cX8_setLimit 66 = .ok (.iload_n 3, 1) := by decide +kernel
theorem dX8_setLimit_67 : decode cX8_setLimit 67 = .ok (.aload_n 0, 1) := by decide +kernel
theorem dX8_setLimit_68 : decode cX8_setLimit 68 = .ok (.getfield 7, 3) := by decide +kernel
theorem dX8_setLimit_71 : decode cX8_setLimit 71 = .ok (.iload 4, 2) := by decide +kernel
theorem dX8_setLimit_73 : decode cX8_setLimit 73 = .ok (.iaload, 1) := by decide +kernel
theorem dX8_setLimit_74 : decode cX8_setLimit 74 = .ok (.iload_n 1, 1) := by decide +kernel
theorem dX8_setLimit_75 : decode cX8_setLimit 75 = .ok (.if_icmp .ne 12, 3) := by decide +kernel
theorem dX8_setLimit_78 : decode cX8_setLimit 78 = .ok (.aload_n 0, 1) := by decide +kernel
theorem dX8_setLimit_79 : decode cX8_setLimit 79 = .ok (.iload 4, 2) := by decide +kernel
theorem dX8_setLimit_81 : decode cX8_setLimit 81 = .ok (.invokevirtual 66, 3) := by decide +kernel
theorem dX8_setLimit_84 : decode cX8_setLimit 84 = .ok (.goto 4, 3) := by decide +kernel
theorem dX8_setLimit_87 : decode cX8_setLimit 87 = .ok (.iconst 0, 1) := by decide +kernel
theorem dX8_setLimit_88 : decode cX8_setLimit 88 = .ok (.iadd, 1) := by decide +kernel
theorem dX8_setLimit_89 : decode cX8_setLimit 89 = .ok (.istore_n 3, 1) := by decide +kernel
theorem dX8_setLimit_90 : decode cX8_setLimit 90 = .ok (.iinc 4 1, 3) := by decide +kernel
theorem dX8_setLimit_93 : decode cX8_setLimit 93 = .ok (.goto (-34), 3) := by decide +kernel
theorem dX8_setLimit_96 : decode cX8_setLimit 96 = .ok (.iload_n 3, 1) := by decide +kernel
theorem dX8_setLimit_97 : decode cX8_setLimit 97 = .ok (.ireturn, 1) := by decide +kernel
theorem dX8_bits_0 : decode cX8_bits 0 = .ok (.iload_n 0, 1) := by decide +kernel
theorem dX8_bits_1 : decode cX8_bits 1 = .ok (.iconst 1, 1) := by decide +kernel
theorem dX8_bits_2 : decode cX8_bits 2 = .ok (.iand, 1) := by decide +kernel
theorem dX8_bits_3 : decode cX8_bits 3 = .ok (.iload_n 0, 1) := by decide +kernel
theorem dX8_bits_4 : decode cX8_bits 4 = .ok (.iconst 1, 1) := by decide +kernel
theorem dX8_bits_5 : decode cX8_bits 5 = .ok (.ishr, 1) := by decide +kernel
theorem dX8_bits_6 : decode cX8_bits 6 = .ok (.iconst 1, 1) := by decide +kernel
theorem dX8_bits_7 : decode cX8_bits 7 = .ok (.iand, 1) := by decide +kernel
theorem dX8_bits_8 : decode cX8_bits 8 = .ok (.iadd, 1) := by decide +kernel
theorem dX8_bits_9 : decode cX8_bits 9 = .ok (.iload_n 0, 1) := by decide +kernel
theorem dX8_bits_10 : decode cX8_bits 10 = .ok (.iconst 2, 1) := by decide +kernel
theorem dX8_bits_11 : decode cX8_bits 11 = .ok (.ishr, 1) := by decide +kernel
theorem dX8_bits_12 : decode cX8_bits 12 = .ok (.iconst 1, 1) := by decide +kernel
theorem dX8_bits_13 : decode cX8_bits 13 = .ok (.iand, 1) := by decide +kernel
theorem dX8_bits_14 : decode cX8_bits 14 = .ok (.iadd, 1) := by decide +kernel
theorem dX8_bits_15 : decode cX8_bits 15 = .ok (.ireturn, 1) := by decide +kernel
theorem dX8_ask_0 : decode cX8_ask 0 = .ok (.iload_n 1, 1) := by decide +kernel
theorem dX8_ask_1 : decode cX8_ask 1 = .ok (.iconst 0, 1) := by decide +kernel
theorem dX8_ask_2 : decode cX8_ask 2 = .ok (.iconst 3, 1) := by decide +kernel
theorem dX8_ask_3 : decode cX8_ask 3 = .ok (.invokestatic 59, 3) := by decide +kernel
theorem dX8_ask_6 : decode cX8_ask 6 = .ok (.ifCond .eq 12, 3) := by decide +kernel
theorem dX8_ask_9 : decode cX8_ask 9 = .ok (.iload_n 2, 1) := by decide +kernel
theorem dX8_ask_10 : decode cX8_ask 10 = .ok (.iconst 0, 1) := by decide +kernel
theorem dX8_ask_11 : decode cX8_ask 11 = .ok (.iconst 2, 1) := by decide +kernel
theorem dX8_ask_12 : decode cX8_ask 12 = .ok (.invokestatic 59, 3) := by decide +kernel
theorem dX8_ask_15 : decode cX8_ask 15 = .ok (.ifCond .ne 5, 3) := by decide +kernel
theorem dX8_ask_18 : decode cX8_ask 18 = .ok (.iconst (-1), 1) := by decide +kernel
theorem dX8_ask_19 : decode cX8_ask 19 = .ok (.ireturn, 1) := by decide +kernel
theorem dX8_ask_20 : decode cX8_ask 20 = .ok (.aload_n 0, 1) := by decide +kernel
theorem dX8_ask_21 : decode cX8_ask 21 = .ok (.getfield 7, 3) := by decide +kernel
theorem dX8_ask_24 : decode cX8_ask 24 = .ok (.bipush 8, 2) := by decide +kernel
theorem dX8_ask_26 : decode cX8_ask 26 = .ok (.iload_n 1, 1) := by decide +kernel
theorem dX8_ask_27 : decode cX8_ask 27 = .ok (.iadd, 1) := by decide +kernel
theorem dX8_ask_28 : decode cX8_ask 28 = .ok (.iaload, 1) := by decide +kernel
theorem dX8_ask_29 : decode cX8_ask 29 = .ok (.iload_n 2, 1) := by decide +kernel
theorem dX8_ask_30 : decode cX8_ask 30 = .ok (.ishr, 1) := by decide +kernel
theorem dX8_ask_31 : decode cX8_ask 31 = .ok (.iconst 1, 1) := by decide +kernel
theorem dX8_ask_32 : decode cX8_ask 32 = .ok (.iand, 1) := by decide +kernel
theorem dX8_ask_33 : decode cX8_ask 33 = .ok (.iload_n 3, 1) := by decide +kernel
theorem dX8_ask_34 : decode cX8_ask 34 = .ok (.ifCond .eq 7, 3) := by decide +kernel
theorem dX8_ask_37 : decode cX8_ask 37 = .ok (.iconst 1, 1) := by decide +kernel
theorem dX8_ask_38 : decode cX8_ask 38 = .ok (.goto 4, 3) := by decide +kernel
theorem dX8_ask_41 : decode cX8_ask 41 = .ok (.iconst 0, 1) := by decide +kernel
theorem dX8_ask_42 : decode cX8_ask 42 = .ok (.if_icmp .ne 6, 3) := by decide +kernel
theorem dX8_ask_45 : decode cX8_ask 45 = .ok (.bipush (-5), 2) := by decide +kernel
theorem dX8_ask_47 : decode cX8_ask 47 = .ok (.ireturn, 1) := by decide +kernel
theorem dX8_ask_48 : decode cX8_ask 48 = .ok (.aload_n 0, 1) := by decide +kernel
theorem dX8_ask_49 : decode cX8_ask 49 = .ok (.invokevirtual 63, 3) := by decide +kernel
theorem dX8_ask_52 : decode cX8_ask 52 = .ok (.aload_n 0, 1) := by decide +kernel
theorem dX8_ask_53 : decode cX8_ask 53 = .ok (.getfield 7, 3) := by decide +kernel
theorem dX8_ask_56 : decode cX8_ask 56 = .ok (.bipush 8, 2) := by decide +kernel
theorem dX8_ask_58 : decode cX8_ask 58 = .ok (.iload_n 1, 1) := by decide +kernel
theorem dX8_ask_59 : decode cX8_ask 59 = .ok (.iadd, 1) := by decide +kernel
theorem dX8_ask_60 : decode cX8_ask 60 = .ok (.dup2, 1) := by decide +kernel
theorem dX8_ask_61 : decode cX8_ask 61 = .ok (.iaload, 1) := by decide +kernel
theorem dX8_ask_62 : decode cX8_ask 62 = .ok (.iconst 1, 1) := by decide +kernel
theorem dX8_ask_63 : decode cX8_ask 63 = .ok (.iload_n 2, 1) := by decide +kernel
theorem dX8_ask_64 : decode cX8_ask 64 = .ok (.ishl, 1) := by decide +kernel
theorem dX8_ask_65 : decode cX8_ask 65 = .ok (.ixor, 1) := by decide +kernel
theorem dX8_ask_66 : decode cX8_ask 66 = .ok (.iastore, 1) := by decide +kernel
theorem dX8_ask_67 : decode cX8_ask 67 = .ok (.aload_n 0, 1) := by decide +kernel
theorem dX8_ask_68 : decode cX8_ask 68 = .ok (.getfield 7, 3) := by decide +kernel
theorem dX8_ask_71 : decode cX8_ask 71 = .ok (.bipush 8, 2) := by decide +kernel
theorem dX8_ask_73 : decode cX8_ask 73 = .ok (.iload_n 1, 1) := by decide +kernel
theorem dX8_ask_74 : decode cX8_ask 74 = .ok (.iadd, 1) := by decide +kernel
theorem dX8_ask_75 : decode cX8_ask 75 = .ok (.iaload, 1) := by decide +kernel
theorem dX8_ask_76 : decode cX8_ask 76 = .ok (.invokestatic 69, 3) := by decide +kernel
theorem dX8_ask_79 : decode cX8_ask 79 = .ok (.ireturn, 1) := by decide +kernel
theorem dX8_bring_0 : decode cX8_bring 0 = .ok (.iload_n 1, 1) := by decide +kernel
theorem dX8_bring_1 : decode cX8_bring 1 = .ok (.iconst 0, 1) := by decide +kernel
theorem dX8_bring_2 : decode cX8_bring 2 = .ok (.bipush 7, 2) := by decide +kernel
theorem dX8_bring_4 : decode cX8_bring 4 = .ok (.invokestatic 59, 3) := by decide +kernel
theorem dX8_bring_7 : decode cX8_bring 7 = .ok (.ifCond .eq 12, 3) := by decide +kernel
theorem dX8_bring_10 : decode cX8_bring 10 = .ok (.iload_n 2, 1) := by decide +kernel
theorem dX8_bring_11 : decode cX8_bring 11 = .ok (.iconst 0, 1) := by decide +kernel
theorem dX8_bring_12 : decode cX8_bring 12 = .ok (.iconst 3, 1) := by decide +kernel
theorem dX8_bring_13 : decode cX8_bring 13 = .ok (.invokestatic 59, 3) := by decide +kernel
theorem dX8_bring_16 : decode cX8_bring 16 = .ok (.ifCond .ne 5, 3) := by decide +kernel
theorem dX8_bring_19 : decode cX8_bring 19 = .ok (.iconst (-1), 1) := by decide +kernel
theorem dX8_bring_20 : decode cX8_bring 20 = .ok (.ireturn, 1) := by decide +kernel
theorem dX8_bring_21 : decode cX8_bring 21 = .ok (.aload_n 0, 1) := by decide +kernel
theorem dX8_bring_22 : decode cX8_bring 22 = .ok (.getfield 7, 3) := by decide +kernel
theorem dX8_bring_25 : decode cX8_bring 25 = .ok (.iload_n 1, 1) := by decide +kernel
theorem dX8_bring_26 : decode cX8_bring 26 = .ok (.iaload, 1) := by decide +kernel
theorem dX8_bring_27 : decode cX8_bring 27 = .ok (.iload_n 2, 1) := by decide +kernel
theorem dX8_bring_28 : decode cX8_bring 28 = .ok (.if_icmp .ne 6, 3) := by decide +kernel
theorem dX8_bring_31 : decode cX8_bring 31 = .ok (.bipush (-5), 2) := by decide +kernel
theorem dX8_bring_33 : decode cX8_bring 33 = .ok (.ireturn, 1) := by decide +kernel
theorem dX8_bring_34 : decode cX8_bring 34 = .ok (.aload_n 0, 1) := by decide +kernel
theorem dX8_bring_35 : decode cX8_bring 35 = .ok (.invokevirtual 63, 3) := by decide +kernel
theorem dX8_bring_38 : decode cX8_bring 38 = .ok (.aload_n 0, 1) := by decide +kernel
theorem dX8_bring_39 : decode cX8_bring 39 = .ok (.getfield 7, 3) := by decide +kernel
theorem dX8_bring_42 : decode cX8_bring 42 = .ok (.iload_n 1, 1) := by decide +kernel
theorem dX8_bring_43 : decode cX8_bring 43 = .ok (.iload_n 2, 1) := by decide +kernel
theorem dX8_bring_44 : decode cX8_bring 44 = .ok (.iastore, 1) := by decide +kernel
theorem dX8_bring_45 : decode cX8_bring 45 = .ok (.aload_n 0, 1) := by decide +kernel
theorem dX8_bring_46 : decode cX8_bring 46 = .ok (.iload_n 1, 1) := by decide +kernel
theorem dX8_bring_47 : decode cX8_bring 47 = .ok (.invokevirtual 66, 3) := by decide +kernel
theorem dX8_bring_50 : decode cX8_bring 50 = .ok (.ireturn, 1) := by decide +kernel
theorem dX8_isPair_0 : decode cX8_isPair 0 = .ok (.iload_n 0, 1) := by decide +kernel
theorem dX8_isPair_1 : decode cX8_isPair 1 = .ok (.iconst 0, 1) := by decide +kernel
theorem dX8_isPair_2 : decode cX8_isPair 2 = .ok (.bipush 7, 2) := by decide +kernel
theorem dX8_isPair_4 : decode cX8_isPair 4 = .ok (.invokestatic 59, 3) := by decide +kernel
theorem dX8_isPair_7 : decode cX8_isPair 7 = .ok (.ifCond .eq 16, 3) := by decide +kernel
theorem dX8_isPair_10 : decode cX8_isPair 10 = .ok (.iload_n 1, 1) := by decide +kernel
theorem dX8_isPair_11 : decode cX8_isPair 11 = .ok (.iconst 0, 1) := by decide +kernel
theorem dX8_isPair_12 : decode cX8_isPair 12 = .ok (.iconst 2, 1) := by decide +kernel
theorem dX8_isPair_13 : decode cX8_isPair 13 = .ok (.invokestatic 59, 3) := by decide +kernel
theorem dX8_isPair_16 : decode cX8_isPair 16 = .ok (.ifCond .eq 7, 3) := by decide +kernel
theorem dX8_isPair_19 : decode cX8_isPair 19 = .ok (.iconst 1, 1) := by decide +kernel
theorem dX8_isPair_20 : decode cX8_isPair 20 = .ok (.goto 4, 3) := by decide +kernel
theorem dX8_isPair_23 : decode cX8_isPair 23 = .ok (.iconst 0, 1) := by decide +kernel
theorem dX8_isPair_24 : decode cX8_isPair 24 = .ok (.ireturn, 1) := by decide +kernel
theorem dX8_takeDown_0 : decode cX8_takeDown 0 = .ok (.iload_n 1, 1) := by decide +kernel
theorem dX8_takeDown_1 : decode cX8_takeDown 1 = .ok (.iload_n 2, 1) := by decide +kernel
theorem dX8_takeDown_2 : decode cX8_takeDown 2 = .ok (.invokestatic 72, 3) := by decide +kernel
theorem dX8_takeDown_5 : decode cX8_takeDown 5 = .ok (.ifCond .ne 5, 3) := by decide +kernel
theorem dX8_takeDown_8 : decode cX8_takeDown 8 = .ok (.iconst (-1), 1) := by decide +kernel
theorem dX8_takeDown_9 : decode cX8_takeDown 9 = .ok (.ireturn, 1) := by decide +kernel
theorem dX8_takeDown_10 : decode cX8_takeDown 10 = .ok (.aload_n 0, 1) := by decide +kernel
theorem dX8_takeDown_11 : decode cX8_takeDown 11 = .ok (.iload_n 1, 1) := by decide +kernel
theorem dX8_takeDown_12 : decode cX8_takeDown 12 = .ok (.iload_n 2, 1) := by decide +kernel
theorem dX8_takeDown_13 : decode cX8_takeDown 13 = .ok (.invokevirtual 75, 3) := by decide +kernel
theorem dX8_takeDown_16 : decode cX8_takeDown 16 = .ok (.ifCond .ne 6, 3) := by decide +kernel
theorem dX8_takeDown_19 : decode cX8_takeDown 19 = .ok (.bipush (-5), 2) := by decide +kernel
theorem dX8_takeDown_21 : decode cX8_takeDown 21 = .ok (.ireturn, 1) := by decide +kernel
theorem dX8_takeDown_22 : decode cX8_takeDown 22 = .ok (.aload_n 0, 1) := by decide +kernel
theorem dX8_takeDown_23 : decode cX8_takeDown 23 = .ok (.invokevirtual 63, 3) := by decide +kernel
theorem dX8_takeDown_26 : decode cX8_takeDown 26 = .ok (.aload_n 0, 1) := by decide +kernel
theorem dX8_takeDown_27 : decode cX8_takeDown 27 = .ok (.iload_n 1, 1) := by decide +kernel
theorem dX8_takeDown_28 : decode cX8_takeDown 28 = .ok (.iload_n 2, 1) := by decide +kernel
theorem dX8_takeDown_29 : decode cX8_takeDown 29 = .ok (.invokevirtual 42, 3) := by decide +kernel
theorem dX8_takeDown_32 : decode cX8_takeDown 32 = .ok (.istore_n 3, 1) := by decide +kernel
theorem dX8_takeDown_33 : decode cX8_takeDown 33 = .ok (.aload_n 0, 1) := by decide +kernel
theorem dX8_takeDown_34 : decode cX8_takeDown 34 = .ok (.getfield 7, 3) := by decide +kernel
theorem dX8_takeDown_37 : decode cX8_takeDown 37 = .ok (.iload_n 1, 1) := by decide +kernel
theorem dX8_takeDown_38 : decode cX8_takeDown 38 = .ok (.iload_n 2, 1) := by decide +kernel
theorem dX8_takeDown_39 : decode cX8_takeDown 39 = .ok (.invokestatic 28, 3) := by decide +kernel
theorem dX8_takeDown_42 : decode cX8_takeDown 42 = .ok (.iconst 0, 1) := by decide +kernel
theorem dX8_takeDown_43 : decode cX8_takeDown 43 = .ok (.iastore, 1) := by decide +kernel
theorem dX8_takeDown_44 : decode cX8_takeDown 44 = .ok (.iload_n 3, 1) := by decide +kernel
theorem dX8_takeDown_45 : decode cX8_takeDown 45 = .ok (.ireturn, 1) := by decide +kernel
theorem dX8_setNeeded_0 : decode cX8_setNeeded 0 = .ok (.iload_n 1, 1) := by decide +kernel
theorem dX8_setNeeded_1 : decode cX8_setNeeded 1 = .ok (.iconst 1, 1) := by decide +kernel
theorem dX8_setNeeded_2 : decode cX8_setNeeded 2 = .ok (.bipush 9, 2) := by decide +kernel
theorem dX8_setNeeded_4 : decode cX8_setNeeded 4 = .ok (.invokestatic 59, 3) := by decide +kernel
theorem dX8_setNeeded_7 : decode cX8_setNeeded 7 = .ok (.ifCond .ne 6, 3) := by decide +kernel
theorem dX8_setNeeded_10 : decode cX8_setNeeded 10 = .ok (.bipush (-2), 2) := by decide +kernel
theorem dX8_setNeeded_12 : decode cX8_setNeeded 12 = .ok (.ireturn, 1) := by decide +kernel
theorem dX8_setNeeded_13 : decode cX8_setNeeded 13 = .ok (.aload_n 0, 1) := by decide +kernel
theorem dX8_setNeeded_14 : decode cX8_setNeeded 14 = .ok (.getfield 7, 3) := by decide +kernel
theorem dX8_setNeeded_17 : decode cX8_setNeeded 17 = .ok (.bipush 16, 2) := by decide +kernel
theorem dX8_setNeeded_19 : decode cX8_setNeeded 19 = .ok (.iaload, 1) := by decide +kernel
theorem dX8_setNeeded_20 : decode cX8_setNeeded 20 = .ok (.iload_n 1, 1) := by decide +kernel
theorem dX8_setNeeded_21 : decode cX8_setNeeded 21 = .ok (.if_icmp .ne 6, 3) := by decide +kernel
theorem dX8_setNeeded_24 : decode cX8_setNeeded 24 = .ok (.bipush (-5), 2) := by decide +kernel
theorem dX8_setNeeded_26 : decode cX8_setNeeded 26 = .ok (.ireturn, 1) := by decide +kernel
theorem dX8_setNeeded_27 : decode cX8_setNeeded 27 = .ok (.aload_n 0, 1) := by decide +kernel
theorem dX8_setNeeded_28 : decode cX8_setNeeded 28 = .ok (.invokevirtual 63, 3) := by decide +kernel
theorem dX8_setNeeded_31 : decode cX8_setNeeded 31 = .ok (.aload_n 0, 1) := by decide +kernel
theorem dX8_setNeeded_32 : decode cX8_setNeeded 32 = .ok (.getfield 7, 3) := by decide +kernel
theorem dX8_setNeeded_35 : decode cX8_setNeeded 35 = .ok (.bipush 16, 2) := by decide +kernel
theorem dX8_setNeeded_37 : decode cX8_setNeeded 37 = .ok (.iaload, 1) := by decide +kernel
theorem dX8_setNeeded_38 : decode cX8_setNeeded 38 = .ok (.istore_n 2, 1) := by decide +kernel
theorem dX8_setNeeded_39 : decode cX8_setNeeded 39 = .ok (.aload_n 0, 1) := by decide +kernel
theorem dX8_setNeeded_40 : decode cX8_setNeeded 40 = .ok (.getfield 7, 3) := by decide +kernel
theorem dX8_setNeeded_43 : decode cX8_setNeeded 43 = .ok (.bipush 16, 2) := by decide +kernel
theorem dX8_setNeeded_45 : decode cX8_setNeeded 45 = .ok (.iload_n 1, 1) := by decide +kernel
theorem dX8_setNeeded_46 : decode cX8_setNeeded 46 = .ok (.iastore, 1) := by decide +kernel
theorem dX8_setNeeded_47 : decode cX8_setNeeded 47 = .ok (.iload_n 2, 1) := by decide +kernel
theorem dX8_setNeeded_48 : decode cX8_setNeeded 48 = .ok (.ireturn, 1) := by decide +kernel
theorem dX8_label_0 : decode cX8_label 0 = .ok (.iload_n 1, 1) := by decide +kernel
theorem dX8_label_1 : decode cX8_label 1 = .ok (.iload_n 2, 1) := by decide +kernel
theorem dX8_label_2 : decode cX8_label 2 = .ok (.invokestatic 72, 3) := by decide +kernel
theorem dX8_label_5 : decode cX8_label 5 = .ok (.ifCond .ne 5, 3) := by decide +kernel
theorem dX8_label_8 : decode cX8_label 8 = .ok (.iconst (-1), 1) := by decide +kernel
theorem dX8_label_9 : decode cX8_label 9 = .ok (.ireturn, 1) := by decide +kernel
theorem dX8_label_10 : decode cX8_label 10 = .ok (.aload_n 0, 1) := by decide +kernel
theorem dX8_label_11 : decode cX8_label 11 = .ok (.invokevirtual 78, 3) := by decide +kernel
theorem dX8_label_14 : decode cX8_label 14 = .ok (.ifCond .lt 11, 3) := by decide +kernel
theorem dX8_label_17 : decode cX8_label 17 = .ok (.bipush (-100), 2) := by decide +kernel
theorem dX8_label_19 : decode cX8_label 19 = .ok (.aload_n 0, 1) := by decide +kernel
theorem dX8_label_20 : decode cX8_label 20 = .ok (.invokevirtual 78, 3) := by decide +kernel
theorem dX8_label_23 : decode cX8_label 23 = .ok (.isub, 1) := by decide +kernel
theorem dX8_label_24 : decode cX8_label 24 = .ok (.ireturn, 1) := by decide +kernel
theorem dX8_label_25 : decode cX8_label 25 = .ok (.aload_n 0, 1) := by decide +kernel
theorem dX8_label_26 : decode cX8_label 26 = .ok (.invokevirtual 82, 3) := by decide +kernel
theorem dX8_label_29 : decode cX8_label 29 = .ok (.aload_n 0, 1) := by decide +kernel
theorem dX8_label_30 : decode cX8_label 30 = .ok (.getfield 7, 3) := by decide +kernel
theorem dX8_label_33 : decode cX8_label 33 = .ok (.bipush 12, 2) := by decide +kernel
theorem dX8_label_35 : decode cX8_label 35 = .ok (.aload_n 0, 1) := by decide +kernel
theorem dX8_label_36 : decode cX8_label 36 = .ok (.getfield 7, 3) := by decide +kernel
theorem dX8_label_39 : decode cX8_label 39 = .ok (.iload_n 1, 1) := by decide +kernel
theorem dX8_label_40 : decode cX8_label 40 = .ok (.iaload, 1) := by decide +kernel
theorem dX8_label_41 : decode cX8_label 41 = .ok (.iadd, 1) := by decide +kernel
theorem dX8_label_42 : decode cX8_label 42 = .ok (.iaload, 1) := by decide +kernel
theorem dX8_label_43 : decode cX8_label 43 = .ok (.if_icmp .le 6, 3) := by decide +kernel
theorem dX8_label_46 : decode cX8_label 46 = .ok (.bipush (-6), 2) := by decide +kernel
theorem dX8_label_48 : decode cX8_label 48 = .ok (.ireturn, 1) := by decide +kernel
theorem dX8_label_49 : decode cX8_label 49 = .ok (.iload_n 1, 1) := by decide +kernel
theorem dX8_label_50 : decode cX8_label 50 = .ok (.iload_n 2, 1) := by decide +kernel
theorem dX8_label_51 : decode cX8_label 51 = .ok (.invokestatic 28, 3) := by decide +kernel
theorem dX8_label_54 : decode cX8_label 54 = .ok (.istore_n 3, 1) := by decide +kernel
theorem dX8_label_55 : decode cX8_label 55 = .ok (.aload_n 0, 1) := by decide +kernel
theorem dX8_label_56 : decode cX8_label 56 = .ok (.iload_n 3, 1) := by decide +kernel
theorem dX8_label_57 : decode cX8_label 57 = .ok (.iconst 4, 1) := by decide +kernel
theorem dX8_label_58 : decode cX8_label 58 = .ok (.iadd, 1) := by decide +kernel
theorem dX8_label_59 : decode cX8_label 59 = .ok (.aload_n 0, 1) := by decide +kernel
theorem dX8_label_60 : decode cX8_label 60 = .ok (.getfield 7, 3) := by decide +kernel
theorem dX8_label_63 : decode cX8_label 63 = .ok (.iload_n 3, 1) := by decide +kernel
theorem dX8_label_64 : decode cX8_label 64 = .ok (.iaload, 1) := by decide +kernel
theorem dX8_label_65 : decode cX8_label 65 = .ok (.invokevirtual 85, 3) := by decide +kernel
theorem dX8_label_68 : decode cX8_label 68 = .ok (.ifCond .eq 6, 3) := by decide +kernel
theorem dX8_label_71 : decode cX8_label 71 = .ok (.bipush (-5), 2) := by decide +kernel
theorem dX8_label_73 : decode cX8_label 73 = .ok (.ireturn, 1) := by decide +kernel
theorem dX8_label_74 : decode cX8_label 74 = .ok (.aload_n 0, 1) := by decide +kernel
theorem dX8_label_75 : decode cX8_label 75 = .ok (.invokevirtual 63, 3) := by decide +kernel
theorem dX8_label_78 : decode cX8_label 78 = .ok (.aload_n 0, 1) := by decide +kernel
theorem dX8_label_79 : decode cX8_label 79 = .ok (.getfield 7, 3) := by decide +kernel
theorem dX8_label_82 : decode cX8_label 82 = .ok (.iload_n 3, 1) := by decide +kernel
theorem dX8_label_83 : decode cX8_label 83 = .ok (.aload_n 0, 1) := by decide +kernel
theorem dX8_label_84 : decode cX8_label 84 = .ok (.getfield 56, 3) := by decide +kernel
theorem dX8_label_87 : decode cX8_label 87 = .ok (.iastore, 1) := by decide +kernel
theorem dX8_label_88 : decode cX8_label 88 = .ok (.aload_n 0, 1) := by decide +kernel
theorem dX8_label_89 : decode cX8_label 89 = .ok (.getfield 7, 3) := by decide +kernel
theorem dX8_label_92 : decode cX8_label 92 = .ok (.iload_n 3, 1) := by decide +kernel
theorem dX8_label_93 : decode cX8_label 93 = .ok (.iconst 1, 1) := by decide +kernel
theorem dX8_label_94 : decode cX8_label 94 = .ok (.iadd, 1) := by decide +kernel
theorem dX8_label_95 : decode cX8_label 95 = .ok (.iconst (-1), 1) := by decide +kernel
theorem dX8_label_96 : decode cX8_label 96 = .ok (.iastore, 1) := by decide +kernel
theorem dX8_label_97 : decode cX8_label 97 = .ok (.aload_n 0, 1) := by decide +kernel
theorem dX8_label_98 : decode cX8_label 98 = .ok (.getfield 7, 3) := by decide +kernel
theorem dX8_label_101 : decode cX8_label 101 = .ok (.iload_n 3, 1) := by decide +kernel
theorem dX8_label_102 : decode cX8_label 102 = .ok (.iconst 2, 1) := by decide +kernel
theorem dX8_label_103 : decode cX8_label 103 = .ok (.iadd, 1) := by decide +kernel
theorem dX8_label_104 : decode cX8_label 104 = .ok (.aload_n 0, 1) := by decide +kernel
theorem dX8_label_105 : decode cX8_label 105 = .ok (.getfield 7, 3) := by decide +kernel
theorem dX8_label_108 : decode cX8_label 108 = .ok (.bipush 17, 2) := by decide +kernel
theorem dX8_label_110 : decode cX8_label 110 = .ok (.iaload, 1) := by decide +kernel
theorem dX8_label_111 : decode cX8_label 111 = .ok (.iastore, 1) := by decide +kernel
theorem dX8_label_112 : decode cX8_label 112 = .ok (.aload_n 0, 1) := by decide +kernel
theorem dX8_label_113 : decode cX8_label 113 = .ok (.getfield 7, 3) := by decide +kernel
theorem dX8_label_116 : decode cX8_label 116 = .ok (.iload_n 3, 1) := by decide +kernel
theorem dX8_label_117 : decode cX8_label 117 = .ok (.iconst 3, 1) := by decide +kernel
theorem dX8_label_118 : decode cX8_label 118 = .ok (.iadd, 1) := by decide +kernel
theorem dX8_label_119 : decode cX8_label 119 = .ok (.iconst 0, 1) := by decide +kernel
theorem dX8_label_120 : decode cX8_label 120 = .ok (.iastore, 1) := by decide +kernel
theorem dX8_label_121 : decode cX8_label 121 = .ok (.aload_n 0, 1) := by decide +kernel
theorem dX8_label_122 : decode cX8_label 122 = .ok (.iload_n 3, 1) := by decide +kernel
theorem dX8_label_123 : decode cX8_label 123 = .ok (.iconst 4, 1) := by decide +kernel
theorem dX8_label_124 : decode cX8_label 124 = .ok (.iadd, 1) := by decide +kernel
theorem dX8_label_125 : decode cX8_label 125 = .ok (.invokevirtual 88, 3) := by decide +kernel
theorem dX8_label_128 : decode cX8_label 128 = .ok (.aload_n 0, 1) := by decide +kernel
theorem dX8_label_129 : decode cX8_label 129 = .ok (.invokevirtual 82, 3) := by decide +kernel
theorem dX8_label_132 : decode cX8_label 132 = .ok (.ireturn, 1) := by decide +kernel
theorem dX8_own_0 : decode cX8_own 0 = .ok (.iconst (-1), 1) := by decide +kernel
theorem dX8_own_1 : decode cX8_own 1 = .ok (.istore_n 3, 1) := by decide +kernel
theorem dX8_own_2 : decode cX8_own 2 = .ok (.iconst 0, 1) := by decide +kernel
theorem dX8_own_3 : decode cX8_own 3 = .ok (.istore 4, 2) := by decide +kernel
theorem dX8_own_5 : decode cX8_own 5 = .ok (.iload 4, 2) := by decide +kernel
theorem dX8_own_7 : decode cX8_own 7 = .ok (.bipush 16, 2) := by decide +kernel
theorem dX8_own_9 : decode cX8_own 9 = .ok (.if_icmp .ge 59, 3) := by decide +kernel
theorem dX8_own_12 : decode cX8_own 12 = .ok (.iload 4, 2) := by decide +kernel
theorem dX8_own_14 : decode cX8_own 14 = .ok (.invokestatic 49, 3) := by decide +kernel
theorem dX8_own_17 : decode cX8_own 17 = .ok (.istore 5, 2) := by decide +kernel
theorem dX8_own_19 : decode cX8_own 19 = .ok (.aload_n 0, 1) := by decide +kernel
theorem dX8_own_20 : decode cX8_own 20 = .ok (.getfield 7, 3) := by decide +kernel
theorem dX8_own_23 : decode cX8_own 23 = .ok (.iload 5, 2) := by decide +kernel
theorem dX8_own_25 : decode cX8_own 25 = .ok (.iaload, 1) := by decide +kernel
theorem dX8_own_26 : decode cX8_own 26 = .ok (.ifCond .lt 34, 3) := by decide +kernel
theorem dX8_own_29 : decode cX8_own 29 = .ok (.aload_n 0, 1) := by decide +kernel
theorem dX8_own_30 : decode cX8_own 30 = .ok (.getfield 7, 3) := by decide +kernel
theorem dX8_own_33 : decode cX8_own 33 = .ok (.iload 5, 2) := by decide +kernel
theorem dX8_own_35 : decode cX8_own 35 = .ok (.iconst 1, 1) := by decide +kernel
theorem dX8_own_36 : decode cX8_own 36 = .ok (.iadd, 1) := by decide +kernel
theorem dX8_own_37 : decode cX8_own 37 = .ok (.iaload, 1) := by decide +kernel
theorem dX8_own_38 : decode cX8_own 38 = .ok (.iload_n 2, 1) := by decide +kernel
theorem dX8_own_39 : decode cX8_own 39 = .ok (.if_icmp .ne 21, 3) := by decide +kernel
theorem dX8_own_42 : decode cX8_own 42 = .ok (.aload_n 0, 1) := by decide +kernel
theorem dX8_own_43 : decode cX8_own 43 = .ok (.getfield 7, 3) := by decide +kernel
theorem dX8_own_46 : decode cX8_own 46 = .ok (.iload 5, 2) := by decide +kernel
theorem dX8_own_48 : decode cX8_own 48 = .ok (.iconst 2, 1) := by decide +kernel
theorem dX8_own_49 : decode cX8_own 49 = .ok (.iadd, 1) := by decide +kernel
theorem dX8_own_50 : decode cX8_own 50 = .ok (.iaload, 1) := by decide +kernel
theorem dX8_own_51 : decode cX8_own 51 = .ok (.iload_n 1, 1) := by decide +kernel
theorem dX8_own_52 : decode cX8_own 52 = .ok (.if_icmp .ne 8, 3) := by decide +kernel
theorem dX8_own_55 : decode cX8_own 55 = .ok (.iload 4, 2) := by decide +kernel
theorem dX8_own_57 : decode cX8_own 57 = .ok (.goto 4, 3) := by decide +kernel
theorem dX8_own_60 : decode cX8_own 60 = .ok (.iload_n 3, 1) := by decide +kernel
theorem dX8_own_61 : decode cX8_own 61 = .ok (.istore_n 3, 1) := by decide +kernel
theorem dX8_own_62 : decode cX8_own 62 = .ok (.iinc 4 1, 3) := by decide +kernel
theorem dX8_own_65 : decode cX8_own 65 = .ok (.goto (-60), 3) := by decide +kernel
theorem dX8_own_68 : decode cX8_own 68 = .ok (.iload_n 3, 1) := by decide +kernel
theorem dX8_own_69 : decode cX8_own 69 = .ok (.ireturn, 1) := by decide +kernel
theorem dX8_free_0 : decode cX8_free 0 = .ok (.iconst (-1), 1) := by decide +kernel
theorem dX8_free_1 : decode cX8_free 1 = .ok (.istore_n 1, 1) := by decide +kernel
theorem dX8_free_2 : decode cX8_free 2 = .ok (.bipush 15, 2) := by decide +kernel
theorem dX8_free_4 : decode cX8_free 4 = .ok (.istore_n 2, 1) := by decide +kernel
theorem dX8_free_5 : decode cX8_free 5 = .ok (.iload_n 2, 1) := by decide +kernel
theorem dX8_free_6 : decode cX8_free 6 = .ok (.ifCond .lt 27, 3) := by decide +kernel
theorem dX8_free_9 : decode cX8_free 9 = .ok (.aload_n 0, 1) := by decide +kernel
theorem dX8_free_10 : decode cX8_free 10 = .ok (.getfield 7, 3) := by decide +kernel
theorem dX8_free_13 : decode cX8_free 13 = .ok (.iload_n 2, 1) := by decide +kernel
theorem dX8_free_14 : decode cX8_free 14 = .ok (.invokestatic 49, 3) := by decide +kernel
theorem dX8_free_17 : decode cX8_free 17 = .ok (.iaload, 1) := by decide +kernel
theorem dX8_free_18 : decode cX8_free 18 = .ok (.ifCond .ge 7, 3) := by decide +kernel
theorem dX8_free_21 : decode cX8_free 21 = .ok (.iload_n 2, 1) := by decide +kernel
theorem dX8_free_22 : decode cX8_free 22 = .ok (.goto 4, 3) := by decide +kernel
theorem dX8_free_25 : decode cX8_free 25 = .ok (.iload_n 1, 1) := by decide +kernel
theorem dX8_free_26 : decode cX8_free 26 = .ok (.istore_n 1, 1) := by decide +kernel
theorem dX8_free_27 : decode cX8_free 27 = .ok (.iinc 2 (-1), 3) := by decide +kernel
theorem dX8_free_30 : decode cX8_free 30 = .ok (.goto (-25), 3) := by decide +kernel
theorem dX8_free_33 : decode cX8_free 33 = .ok (.iload_n 1, 1) := by decide +kernel
theorem dX8_free_34 : decode cX8_free 34 = .ok (.ireturn, 1) := by decide +kernel
theorem dX8_rewrite_0 : decode cX8_rewrite 0 = .ok (.iload_n 1, 1) := by decide +kernel
theorem dX8_rewrite_1 : decode cX8_rewrite 1 = .ok (.iconst 0, 1) := by decide +kernel
theorem dX8_rewrite_2 : decode cX8_rewrite 2 = .ok (.bipush 9, 2) := by decide +kernel
theorem dX8_rewrite_4 : decode cX8_rewrite 4 = .ok (.invokestatic 59, 3) := by decide +kernel
theorem dX8_rewrite_7 : decode cX8_rewrite 7 = .ok (.ifCond .eq 11, 3) := by decide +kernel
theorem dX8_rewrite_10 : decode cX8_rewrite 10 = .ok (.iload_n 2, 1) := by decide +kernel
theorem dX8_rewrite_11 : decode cX8_rewrite 11 = .ok (.iload_n 3, 1) := by decide +kernel
theorem dX8_rewrite_12 : decode cX8_rewrite 12 = .ok (.invokestatic 72, 3) := by decide +kernel
theorem dX8_rewrite_15 : decode cX8_rewrite 15 = .ok (.ifCond .ne 5, 3) := by decide +kernel
theorem dX8_rewrite_18 : decode cX8_rewrite 18 = .ok (.iconst (-1), 1) := by decide +kernel
theorem dX8_rewrite_19 : decode cX8_rewrite 19 = .ok (.ireturn, 1) := by decide +kernel
theorem dX8_rewrite_20 : decode cX8_rewrite 20 = .ok (.aload_n 0, 1) := by decide +kernel
theorem dX8_rewrite_21 : decode cX8_rewrite 21 = .ok (.invokevirtual 78, 3) := by decide +kernel
theorem dX8_rewrite_24 : decode cX8_rewrite 24 = .ok (.ifCond .lt 11, 3) := by decide +kernel
theorem dX8_rewrite_27 : decode cX8_rewrite 27 = .ok (.bipush (-100), 2) := by decide +kernel
theorem dX8_rewrite_29 : decode cX8_rewrite 29 = .ok (.aload_n 0, 1) := by decide +kernel
theorem dX8_rewrite_30 : decode cX8_rewrite 30 = .ok (.invokevirtual 78, 3) := by decide +kernel
theorem dX8_rewrite_33 : decode cX8_rewrite 33 = .ok (.isub, 1) := by decide +kernel
theorem dX8_rewrite_34 : decode cX8_rewrite 34 = .ok (.ireturn, 1) := by decide +kernel
theorem dX8_rewrite_35 : decode cX8_rewrite 35 = .ok (.aload_n 0, 1) := by decide +kernel
theorem dX8_rewrite_36 : decode cX8_rewrite 36 = .ok (.invokevirtual 82, 3) := by decide +kernel
theorem dX8_rewrite_39 : decode cX8_rewrite 39 = .ok (.aload_n 0, 1) := by decide +kernel
theorem dX8_rewrite_40 : decode cX8_rewrite 40 = .ok (.getfield 7, 3) := by decide +kernel
theorem dX8_rewrite_43 : decode cX8_rewrite 43 = .ok (.bipush 12, 2) := by decide +kernel
theorem dX8_rewrite_45 : decode cX8_rewrite 45 = .ok (.aload_n 0, 1) := by decide +kernel
theorem dX8_rewrite_46 : decode cX8_rewrite 46 = .ok (.getfield 7, 3) := by decide +kernel
theorem dX8_rewrite_49 : decode cX8_rewrite 49 = .ok (.iload_n 2, 1) := by decide +kernel
theorem dX8_rewrite_50 : decode cX8_rewrite 50 = .ok (.iaload, 1) := by decide +kernel
theorem dX8_rewrite_51 : decode cX8_rewrite 51 = .ok (.iadd, 1) := by decide +kernel
theorem dX8_rewrite_52 : decode cX8_rewrite 52 = .ok (.iaload, 1) := by decide +kernel
theorem dX8_rewrite_53 : decode cX8_rewrite 53 = .ok (.if_icmp .le 6, 3) := by decide +kernel
theorem dX8_rewrite_56 : decode cX8_rewrite 56 = .ok (.bipush (-6), 2) := by decide +kernel
theorem dX8_rewrite_58 : decode cX8_rewrite 58 = .ok (.ireturn, 1) := by decide +kernel
theorem dX8_rewrite_59 : decode cX8_rewrite 59 = .ok (.iload_n 2, 1) := by decide +kernel
theorem dX8_rewrite_60 : decode cX8_rewrite 60 = .ok (.iload_n 3, 1) := by decide +kernel
theorem dX8_rewrite_61 : decode cX8_rewrite 61 = .ok (.invokestatic 28, 3) := by decide +kernel
theorem dX8_rewrite_64 : decode cX8_rewrite 64 = .ok (.istore 4, 2) := by decide +kernel
theorem dX8_rewrite_66 : decode cX8_rewrite 66 = .ok (.aload_n 0, 1) := by decide +kernel
theorem dX8_rewrite_67 : decode cX8_rewrite 67 = .ok (.iload 4, 2) := by decide +kernel
theorem dX8_rewrite_69 : decode cX8_rewrite 69 = .ok (.iconst 4, 1) := by decide +kernel
theorem dX8_rewrite_70 : decode cX8_rewrite 70 = .ok (.iadd, 1) := by decide +kernel
theorem dX8_rewrite_71 : decode cX8_rewrite 71 = .ok (.aload_n 0, 1) := by decide +kernel
theorem dX8_rewrite_72 : decode cX8_rewrite 72 = .ok (.getfield 7, 3) := by decide +kernel
theorem dX8_rewrite_75 : decode cX8_rewrite 75 = .ok (.iload 4, 2) := by decide +kernel
theorem dX8_rewrite_77 : decode cX8_rewrite 77 = .ok (.iaload, 1) := by decide +kernel
theorem dX8_rewrite_78 : decode cX8_rewrite 78 = .ok (.invokevirtual 85, 3) := by decide +kernel
theorem dX8_rewrite_81 : decode cX8_rewrite 81 = .ok (.ifCond .eq 6, 3) := by decide +kernel
theorem dX8_rewrite_84 : decode cX8_rewrite 84 = .ok (.bipush (-4), 2) := by decide +kernel
theorem dX8_rewrite_86 : decode cX8_rewrite 86 = .ok (.ireturn, 1) := by decide +kernel
theorem dX8_rewrite_87 : decode cX8_rewrite 87 = .ok (.aload_n 0, 1) := by decide +kernel
theorem dX8_rewrite_88 : decode cX8_rewrite 88 = .ok (.iload_n 1, 1) := by decide +kernel
theorem dX8_rewrite_89 : decode cX8_rewrite 89 = .ok (.iconst 3, 1) := by decide +kernel
theorem dX8_rewrite_90 : decode cX8_rewrite 90 = .ok (.iload_n 2, 1) := by decide +kernel
theorem dX8_rewrite_91 : decode cX8_rewrite 91 = .ok (.imul, 1) := by decide +kernel
theorem dX8_rewrite_92 : decode cX8_rewrite 92 = .ok (.iload_n 3, 1) := by decide +kernel
theorem dX8_rewrite_93 : decode cX8_rewrite 93 = .ok (.iadd, 1) := by decide +kernel
theorem dX8_rewrite_94 : decode cX8_rewrite 94 = .ok (.invokevirtual 92, 3) := by decide +kernel
theorem dX8_rewrite_97 : decode cX8_rewrite 97 = .ok (.istore 5, 2) := by decide +kernel
theorem dX8_rewrite_99 : decode cX8_rewrite 99 = .ok (.iload 5, 2) := by decide +kernel
theorem dX8_rewrite_101 : decode cX8_rewrite 101 = .ok (.ifCond .lt 8, 3) := by decide +kernel
theorem dX8_rewrite_104 : decode cX8_rewrite 104 = .ok (.iload 5, 2) := by decide +kernel
theorem dX8_rewrite_106 : decode cX8_rewrite 106 = .ok (.goto 7, 3) := by decide +kernel
theorem dX8_rewrite_109 : decode cX8_rewrite 109 = .ok (.aload_n 0, 1) := by decide +kernel
theorem dX8_rewrite_110 : decode cX8_rewrite 110 = .ok (.invokevirtual 95, 3) := by decide +kernel
theorem dX8_rewrite_113 : decode cX8_rewrite 113 = .ok (.istore 6, 2) := by decide +kernel
theorem dX8_rewrite_115 : decode cX8_rewrite 115 = .ok (.iload 6, 2) := by decide +kernel
theorem dX8_rewrite_117 : decode cX8_rewrite 117 = .ok (.ifCond .lt 16, 3) := by decide +kernel
theorem dX8_rewrite_120 : decode cX8_rewrite 120 = .ok (.aload_n 0, 1) := by decide +kernel
theorem dX8_rewrite_121 : decode cX8_rewrite 121 = .ok (.getfield 7, 3) := by decide +kernel
theorem dX8_rewrite_124 : decode cX8_rewrite 124 = .ok (.bipush 18, 2) := by decide +kernel
theorem dX8_rewrite_126 : decode cX8_rewrite 126 = .ok (.iaload, 1) := by decide +kernel
theorem dX8_rewrite_127 : decode cX8_rewrite 127 = .ok (.sipush 200, 3) := by decide +kernel
theorem dX8_rewrite_130 : decode cX8_rewrite 130 = .ok (.if_icmp .ne 6, 3) := by decide +kernel
theorem dX8_rewrite_133 : decode cX8_rewrite 133 = .ok (.bipush (-3), 2) := by decide +kernel
theorem dX8_rewrite_135 : decode cX8_rewrite 135 = .ok (.ireturn, 1) := by decide +kernel
theorem dX8_rewrite_136 : decode cX8_rewrite 136 = .ok (.aload_n 0, 1) := by decide +kernel
theorem dX8_rewrite_137 : decode cX8_rewrite 137 = .ok (.invokevirtual 63, 3) := by decide +kernel
theorem dX8_rewrite_140 : decode cX8_rewrite 140 = .ok (.iload 5, 2) := by decide +kernel
theorem dX8_rewrite_142 : decode cX8_rewrite 142 = .ok (.ifCond .lt 9, 3) := by decide +kernel
theorem dX8_rewrite_145 : decode cX8_rewrite 145 = .ok (.aload_n 0, 1) := by decide +kernel
theorem dX8_rewrite_146 : decode cX8_rewrite 146 = .ok (.iload 5, 2) := by decide +kernel
theorem dX8_rewrite_148 : decode cX8_rewrite 148 = .ok (.invokevirtual 98, 3) := by decide +kernel
theorem dX8_rewrite_151 : decode cX8_rewrite 151 = .ok (.iload 6, 2) := by decide +kernel
theorem dX8_rewrite_153 : decode cX8_rewrite 153 = .ok (.invokestatic 49, 3) := by decide +kernel
theorem dX8_rewrite_156 : decode cX8_rewrite 156 = .ok (.istore 7, 2) := by decide +kernel
theorem dX8_rewrite_158 : decode cX8_rewrite 158 = .ok (.aload_n 0, 1) := by decide +kernel
theorem dX8_rewrite_159 : decode cX8_rewrite 159 = .ok (.getfield 7, 3) := by decide +kernel
theorem dX8_rewrite_162 : decode cX8_rewrite 162 = .ok (.iload 7, 2) := by decide +kernel
theorem dX8_rewrite_164 : decode cX8_rewrite 164 = .ok (.aload_n 0, 1) := by decide +kernel
theorem dX8_rewrite_165 : decode cX8_rewrite 165 = .ok (.getfield 7, 3) := by decide +kernel
theorem dX8_rewrite_168 : decode cX8_rewrite 168 = .ok (.bipush 18, 2) := by decide +kernel
theorem dX8_rewrite_170 : decode cX8_rewrite 170 = .ok (.iaload, 1) := by decide +kernel
theorem dX8_rewrite_171 : decode cX8_rewrite 171 = .ok (.iastore, 1) := by decide +kernel
theorem dX8_rewrite_172 : decode cX8_rewrite 172 = .ok (.aload_n 0, 1) := by decide +kernel
theorem dX8_rewrite_173 : decode cX8_rewrite 173 = .ok (.getfield 7, 3) := by decide +kernel
theorem dX8_rewrite_176 : decode cX8_rewrite 176 = .ok (.iload 7, 2) := by decide +kernel
theorem dX8_rewrite_178 : decode cX8_rewrite 178 = .ok (.iconst 1, 1) := by decide +kernel
theorem dX8_rewrite_179 : decode cX8_rewrite 179 = .ok (.iadd, 1) := by decide +kernel
theorem dX8_rewrite_180 : decode cX8_rewrite 180 = .ok (.iconst 3, 1) := by decide +kernel
theorem dX8_rewrite_181 : decode cX8_rewrite 181 = .ok (.iload_n 2, 1) := by decide +kernel
theorem dX8_rewrite_182 : decode cX8_rewrite 182 = .ok (.imul, 1) := by decide +kernel
theorem dX8_rewrite_183 : decode cX8_rewrite 183 = .ok (.iload_n 3, 1) := by decide +kernel
theorem dX8_rewrite_184 : decode cX8_rewrite 184 = .ok (.iadd, 1) := by decide +kernel
theorem dX8_rewrite_185 : decode cX8_rewrite 185 = .ok (.iastore, 1) := by decide +kernel
theorem dX8_rewrite_186 : decode cX8_rewrite 186 = .ok (.aload_n 0, 1) := by decide +kernel
theorem dX8_rewrite_187 : decode cX8_rewrite 187 = .ok (.getfield 7, 3) := by decide +kernel
theorem dX8_rewrite_190 : decode cX8_rewrite 190 = .ok (.iload 7, 2) := by decide +kernel
theorem dX8_rewrite_192 : decode cX8_rewrite 192 = .ok (.iconst 2, 1) := by decide +kernel
theorem dX8_rewrite_193 : decode cX8_rewrite 193 = .ok (.iadd, 1) := by decide +kernel
theorem dX8_rewrite_194 : decode cX8_rewrite 194 = .ok (.iload_n 1, 1) := by decide +kernel
theorem dX8_rewrite_195 : decode cX8_rewrite 195 = .ok (.iastore, 1) := by decide +kernel
theorem dX8_rewrite_196 : decode cX8_rewrite 196 = .ok (.aload_n 0, 1) := by decide +kernel
theorem dX8_rewrite_197 : decode cX8_rewrite 197 = .ok (.getfield 7, 3) := by decide +kernel
theorem dX8_rewrite_200 : decode cX8_rewrite 200 = .ok (.iload 7, 2) := by decide +kernel
theorem dX8_rewrite_202 : decode cX8_rewrite 202 = .ok (.iconst 3, 1) := by decide +kernel
theorem dX8_rewrite_203 : decode cX8_rewrite 203 = .ok (.iadd, 1) := by decide +kernel
theorem dX8_rewrite_204 : decode cX8_rewrite 204 = .ok (.iconst 0, 1) := by decide +kernel
theorem dX8_rewrite_205 : decode cX8_rewrite 205 = .ok (.iastore, 1) := by decide +kernel
theorem dX8_rewrite_206 : decode cX8_rewrite 206 = .ok (.aload_n 0, 1) := by decide +kernel
theorem dX8_rewrite_207 : decode cX8_rewrite 207 = .ok (.getfield 7, 3) := by decide +kernel
theorem dX8_rewrite_210 : decode cX8_rewrite 210 = .ok (.iload 7, 2) := by decide +kernel
theorem dX8_rewrite_212 : decode cX8_rewrite 212 = .ok (.iconst 4, 1) := by decide +kernel
theorem dX8_rewrite_213 : decode cX8_rewrite 213 = .ok (.iadd, 1) := by decide +kernel
theorem dX8_rewrite_214 : decode cX8_rewrite 214 = .ok (.aload_n 0, 1) := by decide +kernel
theorem dX8_rewrite_215 : decode cX8_rewrite 215 = .ok (.getfield 56, 3) := by decide +kernel
theorem dX8_rewrite_218 : decode cX8_rewrite 218 = .ok (.iastore, 1) := by decide +kernel
theorem dX8_rewrite_219 : decode cX8_rewrite 219 = .ok (.aload_n 0, 1) := by decide +kernel
theorem dX8_rewrite_220 : decode cX8_rewrite 220 = .ok (.iload 7, 2) := by decide +kernel
theorem dX8_rewrite_222 : decode cX8_rewrite 222 = .ok (.iconst 5, 1) := by decide +kernel
theorem dX8_rewrite_223 : decode cX8_rewrite 223 = .ok (.iadd, 1) := by decide +kernel
theorem dX8_rewrite_224 : decode cX8_rewrite 224 = .ok (.invokevirtual 88, 3) := by decide +kernel
theorem dX8_rewrite_227 : decode cX8_rewrite 227 = .ok (.aload_n 0, 1) := by decide +kernel
theorem dX8_rewrite_228 : decode cX8_rewrite 228 = .ok (.getfield 7, 3) := by decide +kernel
theorem dX8_rewrite_231 : decode cX8_rewrite 231 = .ok (.bipush 18, 2) := by decide +kernel
theorem dX8_rewrite_233 : decode cX8_rewrite 233 = .ok (.dup2, 1) := by decide +kernel
theorem dX8_rewrite_234 : decode cX8_rewrite 234 = .ok (.iaload, 1) := by decide +kernel
theorem dX8_rewrite_235 : decode cX8_rewrite 235 = .ok (.iconst 1, 1) := by decide +kernel
theorem dX8_rewrite_236 : decode cX8_rewrite 236 = .ok (.iadd, 1) := by decide +kernel
theorem dX8_rewrite_237 : decode cX8_rewrite 237 = .ok (.iastore, 1) := by decide +kernel
theorem dX8_rewrite_238 : decode cX8_rewrite 238 = .ok (.aload_n 0, 1) := by decide +kernel
theorem dX8_rewrite_239 : decode cX8_rewrite 239 = .ok (.getfield 7, 3) := by decide +kernel
theorem dX8_rewrite_242 : decode cX8_rewrite 242 = .ok (.iload 7, 2) := by decide +kernel
theorem dX8_rewrite_244 : decode cX8_rewrite 244 = .ok (.iaload, 1) := by decide +kernel
theorem dX8_rewrite_245 : decode cX8_rewrite 245 = .ok (.ireturn, 1) := by decide +kernel
theorem dX8_vote_0 : decode cX8_vote 0 = .ok (.aload_n 0, 1) := by decide +kernel
theorem dX8_vote_1 : decode cX8_vote 1 = .ok (.iload_n 2, 1) := by decide +kernel
theorem dX8_vote_2 : decode cX8_vote 2 = .ok (.invokevirtual 101, 3) := by decide +kernel
theorem dX8_vote_5 : decode cX8_vote 5 = .ok (.istore 4, 2) := by decide +kernel
theorem dX8_vote_7 : decode cX8_vote 7 = .ok (.iload_n 1, 1) := by decide +kernel
theorem dX8_vote_8 : decode cX8_vote 8 = .ok (.iconst 0, 1) := by decide +kernel
theorem dX8_vote_9 : decode cX8_vote 9 = .ok (.bipush 9, 2) := by decide +kernel
theorem dX8_vote_11 : decode cX8_vote 11 = .ok (.invokestatic 59, 3) := by decide +kernel
theorem dX8_vote_14 : decode cX8_vote 14 = .ok (.ifCond .eq 8, 3) := by decide +kernel
theorem dX8_vote_17 : decode cX8_vote 17 = .ok (.iload 4, 2) := by decide +kernel
theorem dX8_vote_19 : decode cX8_vote 19 = .ok (.ifCond .ge 5, 3) := by decide +kernel
theorem dX8_vote_22 : decode cX8_vote 22 = .ok (.iconst (-1), 1) := by decide +kernel
theorem dX8_vote_23 : decode cX8_vote 23 = .ok (.ireturn, 1) := by decide +kernel
theorem dX8_vote_24 : decode cX8_vote 24 = .ok (.iload 4, 2) := by decide +kernel
theorem dX8_vote_26 : decode cX8_vote 26 = .ok (.invokestatic 49, 3) := by decide +kernel
theorem dX8_vote_29 : decode cX8_vote 29 = .ok (.istore 5, 2) := by decide +kernel
theorem dX8_vote_31 : decode cX8_vote 31 = .ok (.aload_n 0, 1) := by decide +kernel
theorem dX8_vote_32 : decode cX8_vote 32 = .ok (.getfield 7, 3) := by decide +kernel
theorem dX8_vote_35 : decode cX8_vote 35 = .ok (.iload 5, 2) := by decide +kernel
theorem dX8_vote_37 : decode cX8_vote 37 = .ok (.iconst 2, 1) := by decide +kernel
theorem dX8_vote_38 : decode cX8_vote 38 = .ok (.iadd, 1) := by decide +kernel
theorem dX8_vote_39 : decode cX8_vote 39 = .ok (.iaload, 1) := by decide +kernel
theorem dX8_vote_40 : decode cX8_vote 40 = .ok (.iload_n 1, 1) := by decide +kernel
theorem dX8_vote_41 : decode cX8_vote 41 = .ok (.if_icmp .ne 6, 3) := by decide +kernel
theorem dX8_vote_44 : decode cX8_vote 44 = .ok (.bipush (-4), 2) := by decide +kernel
theorem dX8_vote_46 : decode cX8_vote 46 = .ok (.ireturn, 1) := by decide +kernel
theorem dX8_vote_47 : decode cX8_vote 47 = .ok (.bipush 32, 2) := by decide +kernel
theorem dX8_vote_49 : decode cX8_vote 49 = .ok (.bipush 24, 2) := by decide +kernel
theorem dX8_vote_51 : decode cX8_vote 51 = .ok (.iload_n 1, 1) := by decide +kernel
theorem dX8_vote_52 : decode cX8_vote 52 = .ok (.imul, 1) := by decide +kernel
theorem dX8_vote_53 : decode cX8_vote 53 = .ok (.iadd, 1) := by decide +kernel
theorem dX8_vote_54 : decode cX8_vote 54 = .ok (.aload_n 0, 1) := by decide +kernel
theorem dX8_vote_55 : decode cX8_vote 55 = .ok (.getfield 7, 3) := by decide +kernel
theorem dX8_vote_58 : decode cX8_vote 58 = .ok (.iload 5, 2) := by decide +kernel
theorem dX8_vote_60 : decode cX8_vote 60 = .ok (.iconst 1, 1) := by decide +kernel
theorem dX8_vote_61 : decode cX8_vote 61 = .ok (.iadd, 1) := by decide +kernel
theorem dX8_vote_62 : decode cX8_vote 62 = .ok (.iaload, 1) := by decide +kernel
theorem dX8_vote_63 : decode cX8_vote 63 = .ok (.iadd, 1) := by decide +kernel
theorem dX8_vote_64 : decode cX8_vote 64 = .ok (.istore 6, 2) := by decide +kernel
theorem dX8_vote_66 : decode cX8_vote 66 = .ok (.aload_n 0, 1) := by decide +kernel
theorem dX8_vote_67 : decode cX8_vote 67 = .ok (.getfield 7, 3) := by decide +kernel
theorem dX8_vote_70 : decode cX8_vote 70 = .ok (.iload 6, 2) := by decide +kernel
theorem dX8_vote_72 : decode cX8_vote 72 = .ok (.iaload, 1) := by decide +kernel
theorem dX8_vote_73 : decode cX8_vote 73 = .ok (.iload_n 2, 1) := by decide +kernel
theorem dX8_vote_74 : decode cX8_vote 74 = .ok (.if_icmp .ne 7, 3) := by decide +kernel
theorem dX8_vote_77 : decode cX8_vote 77 = .ok (.iconst 1, 1) := by decide +kernel
theorem dX8_vote_78 : decode cX8_vote 78 = .ok (.goto 4, 3) := by decide +kernel
theorem dX8_vote_81 : decode cX8_vote 81 = .ok (.iconst 0, 1) := by decide +kernel
theorem dX8_vote_82 : decode cX8_vote 82 = .ok (.iload_n 3, 1) := by decide +kernel
theorem dX8_vote_83 : decode cX8_vote 83 = .ok (.if_icmp .ne 6, 3) := by decide +kernel
theorem dX8_vote_86 : decode cX8_vote 86 = .ok (.bipush (-5), 2) := by decide +kernel
theorem dX8_vote_88 : decode cX8_vote 88 = .ok (.ireturn, 1) := by decide +kernel
theorem dX8_vote_89 : decode cX8_vote 89 = .ok (.aload_n 0, 1) := by decide +kernel
theorem dX8_vote_90 : decode cX8_vote 90 = .ok (.invokevirtual 63, 3) := by decide +kernel
theorem dX8_vote_93 : decode cX8_vote 93 = .ok (.aload_n 0, 1) := by decide +kernel
theorem dX8_vote_94 : decode cX8_vote 94 = .ok (.getfield 7, 3) := by decide +kernel
theorem dX8_vote_97 : decode cX8_vote 97 = .ok (.iload 6, 2) := by decide +kernel
theorem dX8_vote_99 : decode cX8_vote 99 = .ok (.iload_n 3, 1) := by decide +kernel
theorem dX8_vote_100 : decode cX8_vote 100 = .ok (.ifCond .eq 7, 3) := by decide +kernel
theorem dX8_vote_103 : decode cX8_vote 103 = .ok (.iload_n 2, 1) := by decide +kernel
theorem dX8_vote_104 : decode cX8_vote 104 = .ok (.goto 4, 3) := by decide +kernel
theorem dX8_vote_107 : decode cX8_vote 107 = .ok (.iconst (-1), 1) := by decide +kernel
theorem dX8_vote_108 : decode cX8_vote 108 = .ok (.iastore, 1) := by decide +kernel
theorem dX8_vote_109 : decode cX8_vote 109 = .ok (.aload_n 0, 1) := by decide +kernel
theorem dX8_vote_110 : decode cX8_vote 110 = .ok (.iload_n 2, 1) := by decide +kernel
theorem dX8_vote_111 : decode cX8_vote 111 = .ok (.invokevirtual 53, 3) := by decide +kernel
theorem dX8_vote_114 : decode cX8_vote 114 = .ok (.ireturn, 1) := by decide +kernel
theorem dX8_endWeek_0 : decode cX8_endWeek 0 = .ok (.aload_n 0, 1) := by decide +kernel
theorem dX8_endWeek_1 : decode cX8_endWeek 1 = .ok (.invokevirtual 63, 3) := by decide +kernel
theorem dX8_endWeek_4 : decode cX8_endWeek 4 = .ok (.iconst 0, 1) := by decide +kernel
theorem dX8_endWeek_5 : decode cX8_endWeek 5 = .ok (.istore_n 1, 1) := by decide +kernel
theorem dX8_endWeek_6 : decode cX8_endWeek 6 = .ok (.iconst 0, 1) := by decide +kernel
theorem dX8_endWeek_7 : decode cX8_endWeek 7 = .ok (.istore_n 2, 1) := by decide +kernel
theorem dX8_endWeek_8 : decode cX8_endWeek 8 = .ok (.iload_n 2, 1) := by decide +kernel
theorem dX8_endWeek_9 : decode cX8_endWeek 9 = .ok (.bipush 8, 2) := by decide +kernel
theorem dX8_endWeek_11 : decode cX8_endWeek 11 = .ok (.if_icmp .ge 184, 3) := by decide +kernel
theorem dX8_endWeek_14 : decode cX8_endWeek 14 = .ok (.iconst 0, 1) := by decide +kernel
theorem dX8_endWeek_15 : decode cX8_endWeek 15 = .ok (.istore_n 3, 1) := by decide +kernel
theorem dX8_endWeek_16 : decode cX8_endWeek 16 = .ok (.iload_n 3, 1) := by decide +kernel
theorem dX8_endWeek_17 : decode cX8_endWeek 17 = .ok (.iconst 3, 1) := by decide +kernel
theorem dX8_endWeek_18 : decode cX8_endWeek 18 = .ok (.if_icmp .ge 171, 3) := by decide +kernel
theorem dX8_endWeek_21 : decode cX8_endWeek 21 = .ok (.aload_n 0, 1) := by decide +kernel
theorem dX8_endWeek_22 : decode cX8_endWeek 22 = .ok (.iload_n 2, 1) := by decide +kernel
theorem dX8_endWeek_23 : decode cX8_endWeek 23 = .ok (.iload_n 3, 1) := by decide +kernel
theorem dX8_endWeek_24 : decode cX8_endWeek 24 = .ok (.invokevirtual 104, 3) := by decide +kernel
theorem dX8_endWeek_27 : decode cX8_endWeek 27 = .ok (.istore 4, 2) := by decide +kernel
theorem dX8_endWeek_29 : decode cX8_endWeek 29 = .ok (.iload 4, 2) := by decide +kernel
theorem dX8_endWeek_31 : decode cX8_endWeek 31 = .ok (.ifCond .lt 152, 3) := by decide +kernel
theorem dX8_endWeek_34 : decode cX8_endWeek 34 = .ok (.iload_n 2, 1) := by decide +kernel
theorem dX8_endWeek_35 : decode cX8_endWeek 35 = .ok (.iload_n 3, 1) := by decide +kernel
theorem dX8_endWeek_36 : decode cX8_endWeek 36 = .ok (.invokestatic 28, 3) := by decide +kernel
theorem dX8_endWeek_39 : decode cX8_endWeek 39 = .ok (.istore 5, 2) := by decide +kernel
theorem dX8_endWeek_41 : decode cX8_endWeek 41 = .ok (.iload 4, 2) := by decide +kernel
theorem dX8_endWeek_43 : decode cX8_endWeek 43 = .ok (.invokestatic 49, 3) := by decide +kernel
theorem dX8_endWeek_46 : decode cX8_endWeek 46 = .ok (.istore 6, 2) := by decide +kernel
theorem dX8_endWeek_48 : decode cX8_endWeek 48 = .ok (.aload_n 0, 1) := by decide +kernel
theorem dX8_endWeek_49 : decode cX8_endWeek 49 = .ok (.getfield 7, 3) := by decide +kernel
theorem dX8_endWeek_52 : decode cX8_endWeek 52 = .ok (.iload 5, 2) := by decide +kernel
theorem dX8_endWeek_54 : decode cX8_endWeek 54 = .ok (.aload_n 0, 1) := by decide +kernel
theorem dX8_endWeek_55 : decode cX8_endWeek 55 = .ok (.getfield 7, 3) := by decide +kernel
theorem dX8_endWeek_58 : decode cX8_endWeek 58 = .ok (.iload 6, 2) := by decide +kernel
theorem dX8_endWeek_60 : decode cX8_endWeek 60 = .ok (.iconst 4, 1) := by decide +kernel
theorem dX8_endWeek_61 : decode cX8_endWeek 61 = .ok (.iadd, 1) := by decide +kernel
theorem dX8_endWeek_62 : decode cX8_endWeek 62 = .ok (.iaload, 1) := by decide +kernel
theorem dX8_endWeek_63 : decode cX8_endWeek 63 = .ok (.iastore, 1) := by decide +kernel
theorem dX8_endWeek_64 : decode cX8_endWeek 64 = .ok (.aload_n 0, 1) := by decide +kernel
theorem dX8_endWeek_65 : decode cX8_endWeek 65 = .ok (.getfield 7, 3) := by decide +kernel
theorem dX8_endWeek_68 : decode cX8_endWeek 68 = .ok (.iload 5, 2) := by decide +kernel
theorem dX8_endWeek_70 : decode cX8_endWeek 70 = .ok (.iconst 1, 1) := by decide +kernel
theorem dX8_endWeek_71 : decode cX8_endWeek 71 = .ok (.iadd, 1) := by decide +kernel
theorem dX8_endWeek_72 : decode cX8_endWeek 72 = .ok (.aload_n 0, 1) := by decide +kernel
theorem dX8_endWeek_73 : decode cX8_endWeek 73 = .ok (.getfield 7, 3) := by decide +kernel
theorem dX8_endWeek_76 : decode cX8_endWeek 76 = .ok (.iload 6, 2) := by decide +kernel
theorem dX8_endWeek_78 : decode cX8_endWeek 78 = .ok (.iconst 2, 1) := by decide +kernel
theorem dX8_endWeek_79 : decode cX8_endWeek 79 = .ok (.iadd, 1) := by decide +kernel
theorem dX8_endWeek_80 : decode cX8_endWeek 80 = .ok (.iaload, 1) := by decide +kernel
theorem dX8_endWeek_81 : decode cX8_endWeek 81 = .ok (.iastore, 1) := by decide +kernel
theorem dX8_endWeek_82 : decode cX8_endWeek 82 = .ok (.aload_n 0, 1) := by decide +kernel
theorem dX8_endWeek_83 : decode cX8_endWeek 83 = .ok (.getfield 7, 3) := by decide +kernel
theorem dX8_endWeek_86 : decode cX8_endWeek 86 = .ok (.iload 5, 2) := by decide +kernel
theorem dX8_endWeek_88 : decode cX8_endWeek 88 = .ok (.iconst 2, 1) := by decide +kernel
theorem dX8_endWeek_89 : decode cX8_endWeek 89 = .ok (.iadd, 1) := by decide +kernel
theorem dX8_endWeek_90 : decode cX8_endWeek 90 = .ok (.aload_n 0, 1) := by decide +kernel
theorem dX8_endWeek_91 : decode cX8_endWeek 91 = .ok (.getfield 7, 3) := by decide +kernel
theorem dX8_endWeek_94 : decode cX8_endWeek 94 = .ok (.bipush 17, 2) := by decide +kernel
theorem dX8_endWeek_96 : decode cX8_endWeek 96 = .ok (.iaload, 1) := by decide +kernel
theorem dX8_endWeek_97 : decode cX8_endWeek 97 = .ok (.iastore, 1) := by decide +kernel
theorem dX8_endWeek_98 : decode cX8_endWeek 98 = .ok (.aload_n 0, 1) := by decide +kernel
theorem dX8_endWeek_99 : decode cX8_endWeek 99 = .ok (.getfield 7, 3) := by decide +kernel
theorem dX8_endWeek_102 : decode cX8_endWeek 102 = .ok (.iload 5, 2) := by decide +kernel
theorem dX8_endWeek_104 : decode cX8_endWeek 104 = .ok (.iconst 3, 1) := by decide +kernel
theorem dX8_endWeek_105 : decode cX8_endWeek 105 = .ok (.iadd, 1) := by decide +kernel
theorem dX8_endWeek_106 : decode cX8_endWeek 106 = .ok (.iconst 0, 1) := by decide +kernel
theorem dX8_endWeek_107 : decode cX8_endWeek 107 = .ok (.iastore, 1) := by decide +kernel
theorem dX8_endWeek_108 : decode cX8_endWeek 108 = .ok (.iconst 0, 1) := by decide +kernel
theorem dX8_endWeek_109 : decode cX8_endWeek 109 = .ok (.istore 7, 2) := by decide +kernel
theorem dX8_endWeek_111 : decode cX8_endWeek 111 = .ok (.iload 7, 2) := by decide +kernel
theorem dX8_endWeek_113 : decode cX8_endWeek 113 = .ok (.aload_n 0, 1) := by decide +kernel
theorem dX8_endWeek_114 : decode cX8_endWeek 114 = .ok (.getfield 7, 3) := by decide +kernel
theorem dX8_endWeek_117 : decode cX8_endWeek 117 = .ok (.iload 5, 2) := by decide +kernel
theorem dX8_endWeek_119 : decode cX8_endWeek 119 = .ok (.iaload, 1) := by decide +kernel
theorem dX8_endWeek_120 : decode cX8_endWeek 120 = .ok (.if_icmp .ge 33, 3) := by decide +kernel
theorem dX8_endWeek_123 : decode cX8_endWeek 123 = .ok (.aload_n 0, 1) := by decide +kernel
theorem dX8_endWeek_124 : decode cX8_endWeek 124 = .ok (.getfield 7, 3) := by decide +kernel
theorem dX8_endWeek_127 : decode cX8_endWeek 127 = .ok (.iload 5, 2) := by decide +kernel
theorem dX8_endWeek_129 : decode cX8_endWeek 129 = .ok (.iconst 4, 1) := by decide +kernel
theorem dX8_endWeek_130 : decode cX8_endWeek 130 = .ok (.iadd, 1) := by decide +kernel
theorem dX8_endWeek_131 : decode cX8_endWeek 131 = .ok (.iload 7, 2) := by decide +kernel
theorem dX8_endWeek_133 : decode cX8_endWeek 133 = .ok (.iadd, 1) := by decide +kernel
theorem dX8_endWeek_134 : decode cX8_endWeek 134 = .ok (.aload_n 0, 1) := by decide +kernel
theorem dX8_endWeek_135 : decode cX8_endWeek 135 = .ok (.getfield 7, 3) := by decide +kernel
theorem dX8_endWeek_138 : decode cX8_endWeek 138 = .ok (.iload 6, 2) := by decide +kernel
theorem dX8_endWeek_140 : decode cX8_endWeek 140 = .ok (.iconst 5, 1) := by decide +kernel
theorem dX8_endWeek_141 : decode cX8_endWeek 141 = .ok (.iadd, 1) := by decide +kernel
theorem dX8_endWeek_142 : decode cX8_endWeek 142 = .ok (.iload 7, 2) := by decide +kernel
theorem dX8_endWeek_144 : decode cX8_endWeek 144 = .ok (.iadd, 1) := by decide +kernel
theorem dX8_endWeek_145 : decode cX8_endWeek 145 = .ok (.iaload, 1) := by decide +kernel
theorem dX8_endWeek_146 : decode cX8_endWeek 146 = .ok (.iastore, 1) := by decide +kernel
theorem dX8_endWeek_147 : decode cX8_endWeek 147 = .ok (.iinc 7 1, 3) := by decide +kernel
theorem dX8_endWeek_150 : decode cX8_endWeek 150 = .ok (.goto (-39), 3) := by decide +kernel
theorem dX8_endWeek_153 : decode cX8_endWeek 153 = .ok (.aload_n 0, 1) := by decide +kernel
theorem dX8_endWeek_154 : decode cX8_endWeek 154 = .ok (.getfield 7, 3) := by decide +kernel
theorem dX8_endWeek_157 : decode cX8_endWeek 157 = .ok (.bipush 22, 2) := by decide +kernel
theorem dX8_endWeek_159 : decode cX8_endWeek 159 = .ok (.aload_n 0, 1) := by decide +kernel
theorem dX8_endWeek_160 : decode cX8_endWeek 160 = .ok (.getfield 7, 3) := by decide +kernel
theorem dX8_endWeek_163 : decode cX8_endWeek 163 = .ok (.iload 6, 2) := by decide +kernel
theorem dX8_endWeek_165 : decode cX8_endWeek 165 = .ok (.iconst 2, 1) := by decide +kernel
theorem dX8_endWeek_166 : decode cX8_endWeek 166 = .ok (.iadd, 1) := by decide +kernel
theorem dX8_endWeek_167 : decode cX8_endWeek 167 = .ok (.iaload, 1) := by decide +kernel
theorem dX8_endWeek_168 : decode cX8_endWeek 168 = .ok (.iadd, 1) := by decide +kernel
theorem dX8_endWeek_169 : decode cX8_endWeek 169 = .ok (.dup2, 1) := by decide +kernel
theorem dX8_endWeek_170 : decode cX8_endWeek 170 = .ok (.iaload, 1) := by decide +kernel
theorem dX8_endWeek_171 : decode cX8_endWeek 171 = .ok (.iconst 1, 1) := by decide +kernel
theorem dX8_endWeek_172 : decode cX8_endWeek 172 = .ok (.iadd, 1) := by decide +kernel
theorem dX8_endWeek_173 : decode cX8_endWeek 173 = .ok (.iastore, 1) := by decide +kernel
theorem dX8_endWeek_174 : decode cX8_endWeek 174 = .ok (.aload_n 0, 1) := by decide +kernel
theorem dX8_endWeek_175 : decode cX8_endWeek 175 = .ok (.iload 4, 2) := by decide +kernel
theorem dX8_endWeek_177 : decode cX8_endWeek 177 = .ok (.invokevirtual 98, 3) := by decide +kernel
theorem dX8_endWeek_180 : decode cX8_endWeek 180 = .ok (.iinc 1 1, 3) := by decide +kernel
theorem dX8_endWeek_183 : decode cX8_endWeek 183 = .ok (.iinc 3 1, 3) := by decide +kernel
theorem dX8_endWeek_186 : decode cX8_endWeek 186 = .ok (.goto (-170), 3) := by decide +kernel
theorem dX8_endWeek_189 : decode cX8_endWeek 189 = .ok (.iinc 2 1, 3) := by decide +kernel
theorem dX8_endWeek_192 : decode cX8_endWeek 192 = .ok (.goto (-184), 3) := by decide +kernel
theorem dX8_endWeek_195 : decode cX8_endWeek 195 = .ok (.iconst 0, 1) := by decide +kernel
theorem dX8_endWeek_196 : decode cX8_endWeek 196 = .ok (.istore_n 2, 1) := by decide +kernel
theorem dX8_endWeek_197 : decode cX8_endWeek 197 = .ok (.iload_n 2, 1) := by decide +kernel
theorem dX8_endWeek_198 : decode cX8_endWeek 198 = .ok (.bipush 16, 2) := by decide +kernel
theorem dX8_endWeek_200 : decode cX8_endWeek 200 = .ok (.if_icmp .ge 63, 3) := by decide +kernel
theorem dX8_endWeek_203 : decode cX8_endWeek 203 = .ok (.iload_n 2, 1) := by decide +kernel
theorem dX8_endWeek_204 : decode cX8_endWeek 204 = .ok (.invokestatic 49, 3) := by decide +kernel
theorem dX8_endWeek_207 : decode cX8_endWeek 207 = .ok (.istore_n 3, 1) := by decide +kernel
theorem dX8_endWeek_208 : decode cX8_endWeek 208 = .ok (.aload_n 0, 1) := by decide +kernel
theorem dX8_endWeek_209 : decode cX8_endWeek 209 = .ok (.getfield 7, 3) := by decide +kernel
theorem dX8_endWeek_212 : decode cX8_endWeek 212 = .ok (.iload_n 3, 1) := by decide +kernel
theorem dX8_endWeek_213 : decode cX8_endWeek 213 = .ok (.iaload, 1) := by decide +kernel
theorem dX8_endWeek_214 : decode cX8_endWeek 214 = .ok (.ifCond .lt 43, 3) := by decide +kernel
theorem dX8_endWeek_217 : decode cX8_endWeek 217 = .ok (.aload_n 0, 1) := by decide +kernel
theorem dX8_endWeek_218 : decode cX8_endWeek 218 = .ok (.getfield 7, 3) := by decide +kernel
theorem dX8_endWeek_221 : decode cX8_endWeek 221 = .ok (.iload_n 3, 1) := by decide +kernel
theorem dX8_endWeek_222 : decode cX8_endWeek 222 = .ok (.iconst 3, 1) := by decide +kernel
theorem dX8_endWeek_223 : decode cX8_endWeek 223 = .ok (.iadd, 1) := by decide +kernel
theorem dX8_endWeek_224 : decode cX8_endWeek 224 = .ok (.dup2, 1) := by decide +kernel
theorem dX8_endWeek_225 : decode cX8_endWeek 225 = .ok (.iaload, 1) := by decide +kernel
theorem dX8_endWeek_226 : decode cX8_endWeek 226 = .ok (.iconst 1, 1) := by decide +kernel
theorem dX8_endWeek_227 : decode cX8_endWeek 227 = .ok (.iadd, 1) := by decide +kernel
theorem dX8_endWeek_228 : decode cX8_endWeek 228 = .ok (.iastore, 1) := by decide +kernel
theorem dX8_endWeek_229 : decode cX8_endWeek 229 = .ok (.aload_n 0, 1) := by decide +kernel
theorem dX8_endWeek_230 : decode cX8_endWeek 230 = .ok (.getfield 7, 3) := by decide +kernel
theorem dX8_endWeek_233 : decode cX8_endWeek 233 = .ok (.iload_n 3, 1) := by decide +kernel
theorem dX8_endWeek_234 : decode cX8_endWeek 234 = .ok (.iconst 3, 1) := by decide +kernel
theorem dX8_endWeek_235 : decode cX8_endWeek 235 = .ok (.iadd, 1) := by decide +kernel
theorem dX8_endWeek_236 : decode cX8_endWeek 236 = .ok (.iaload, 1) := by decide +kernel
theorem dX8_endWeek_237 : decode cX8_endWeek 237 = .ok (.iconst 3, 1) := by decide +kernel
theorem dX8_endWeek_238 : decode cX8_endWeek 238 = .ok (.if_icmp .ne 19, 3) := by decide +kernel
theorem dX8_endWeek_241 : decode cX8_endWeek 241 = .ok (.aload_n 0, 1) := by decide +kernel
theorem dX8_endWeek_242 : decode cX8_endWeek 242 = .ok (.iload_n 2, 1) := by decide +kernel
theorem dX8_endWeek_243 : decode cX8_endWeek 243 = .ok (.invokevirtual 98, 3) := by decide +kernel
theorem dX8_endWeek_246 : decode cX8_endWeek 246 = .ok (.aload_n 0, 1) := by decide +kernel
theorem dX8_endWeek_247 : decode cX8_endWeek 247 = .ok (.getfield 7, 3) := by decide +kernel
theorem dX8_endWeek_250 : decode cX8_endWeek 250 = .ok (.bipush 20, 2) := by decide +kernel
theorem dX8_endWeek_252 : decode cX8_endWeek 252 = .ok (.dup2, 1) := by decide +kernel
theorem dX8_endWeek_253 : decode cX8_endWeek 253 = .ok (.iaload, 1) := by decide +kernel
theorem dX8_endWeek_254 : decode cX8_endWeek 254 = .ok (.iconst 1, 1) := by decide +kernel
theorem dX8_endWeek_255 : decode cX8_endWeek 255 = .ok (.iadd, 1) := by decide +kernel
theorem dX8_endWeek_256 : decode cX8_endWeek 256 = .ok (.iastore, 1) := by decide +kernel
theorem dX8_endWeek_257 : decode cX8_endWeek 257 = .ok (.iinc 2 1, 3) := by decide +kernel
theorem dX8_endWeek_260 : decode cX8_endWeek 260 = .ok (.goto (-63), 3) := by decide +kernel
theorem dX8_endWeek_263 : decode cX8_endWeek 263 = .ok (.aload_n 0, 1) := by decide +kernel
theorem dX8_endWeek_264 : decode cX8_endWeek 264 = .ok (.getfield 7, 3) := by decide +kernel
theorem dX8_endWeek_267 : decode cX8_endWeek 267 = .ok (.bipush 19, 2) := by decide +kernel
theorem dX8_endWeek_269 : decode cX8_endWeek 269 = .ok (.dup2, 1) := by decide +kernel
theorem dX8_endWeek_270 : decode cX8_endWeek 270 = .ok (.iaload, 1) := by decide +kernel
theorem dX8_endWeek_271 : decode cX8_endWeek 271 = .ok (.iload_n 1, 1) := by decide +kernel
theorem dX8_endWeek_272 : decode cX8_endWeek 272 = .ok (.iadd, 1) := by decide +kernel
theorem dX8_endWeek_273 : decode cX8_endWeek 273 = .ok (.iastore, 1) := by decide +kernel
theorem dX8_endWeek_274 : decode cX8_endWeek 274 = .ok (.aload_n 0, 1) := by decide +kernel
theorem dX8_endWeek_275 : decode cX8_endWeek 275 = .ok (.getfield 7, 3) := by decide +kernel
theorem dX8_endWeek_278 : decode cX8_endWeek 278 = .ok (.bipush 17, 2) := by decide +kernel
theorem dX8_endWeek_280 : decode cX8_endWeek 280 = .ok (.dup2, 1) := by decide +kernel
theorem dX8_endWeek_281 : decode cX8_endWeek 281 = .ok (.iaload, 1) := by decide +kernel
theorem dX8_endWeek_282 : decode cX8_endWeek 282 = .ok (.iconst 1, 1) := by decide +kernel
theorem dX8_endWeek_283 : decode cX8_endWeek 283 = .ok (.iadd, 1) := by decide +kernel
theorem dX8_endWeek_284 : decode cX8_endWeek 284 = .ok (.iastore, 1) := by decide +kernel
theorem dX8_endWeek_285 : decode cX8_endWeek 285 = .ok (.iload_n 1, 1) := by decide +kernel
theorem dX8_endWeek_286 : decode cX8_endWeek 286 = .ok (.ireturn, 1) := by decide +kernel
theorem dX8_type_0 : decode cX8_type 0 = .ok (.aload_n 0, 1) := by decide +kernel
theorem dX8_type_1 : decode cX8_type 1 = .ok (.getfield 56, 3) := by decide +kernel
theorem dX8_type_4 : decode cX8_type 4 = .ok (.bipush 60, 2) := by decide +kernel
theorem dX8_type_6 : decode cX8_type 6 = .ok (.if_icmp .ne 6, 3) := by decide +kernel
theorem dX8_type_9 : decode cX8_type 9 = .ok (.bipush (-3), 2) := by decide +kernel
theorem dX8_type_11 : decode cX8_type 11 = .ok (.ireturn, 1) := by decide +kernel
theorem dX8_type_12 : decode cX8_type 12 = .ok (.aload_n 0, 1) := by decide +kernel
theorem dX8_type_13 : decode cX8_type 13 = .ok (.getfield 13, 3) := by decide +kernel
theorem dX8_type_16 : decode cX8_type 16 = .ok (.aload_n 0, 1) := by decide +kernel
theorem dX8_type_17 : decode cX8_type 17 = .ok (.getfield 56, 3) := by decide +kernel
theorem dX8_type_20 : decode cX8_type 20 = .ok (.iload_n 1, 1) := by decide +kernel
theorem dX8_type_21 : decode cX8_type 21 = .ok (.castore, 1) := by decide +kernel
theorem dX8_type_22 : decode cX8_type 22 = .ok (.aload_n 0, 1) := by decide +kernel
theorem dX8_type_23 : decode cX8_type 23 = .ok (.dup, 1) := by decide +kernel
theorem dX8_type_24 : decode cX8_type 24 = .ok (.getfield 56, 3) := by decide +kernel
theorem dX8_type_27 : decode cX8_type 27 = .ok (.iconst 1, 1) := by decide +kernel
theorem dX8_type_28 : decode cX8_type 28 = .ok (.iadd, 1) := by decide +kernel
theorem dX8_type_29 : decode cX8_type 29 = .ok (.putfield 56, 3) := by decide +kernel
theorem dX8_type_32 : decode cX8_type 32 = .ok (.aload_n 0, 1) := by decide +kernel
theorem dX8_type_33 : decode cX8_type 33 = .ok (.getfield 56, 3) := by decide +kernel
theorem dX8_type_36 : decode cX8_type 36 = .ok (.ireturn, 1) := by decide +kernel
theorem dX8_clearText_0 : decode cX8_clearText 0 = .ok (.aload_n 0, 1) := by decide +kernel
theorem dX8_clearText_1 : decode cX8_clearText 1 = .ok (.getfield 56, 3) := by decide +kernel
theorem dX8_clearText_4 : decode cX8_clearText 4 = .ok (.istore_n 1, 1) := by decide +kernel
theorem dX8_clearText_5 : decode cX8_clearText 5 = .ok (.aload_n 0, 1) := by decide +kernel
theorem dX8_clearText_6 : decode cX8_clearText 6 = .ok (.iconst 0, 1) := by decide +kernel
theorem dX8_clearText_7 : decode cX8_clearText 7 = .ok (.putfield 56, 3) := by decide +kernel
theorem dX8_clearText_10 : decode cX8_clearText 10 = .ok (.iload_n 1, 1) := by decide +kernel
theorem dX8_clearText_11 : decode cX8_clearText 11 = .ok (.ireturn, 1) := by decide +kernel
theorem dX8_labels_0 : decode cX8_labels 0 = .ok (.iconst 0, 1) := by decide +kernel
theorem dX8_labels_1 : decode cX8_labels 1 = .ok (.istore_n 1, 1) := by decide +kernel
theorem dX8_labels_2 : decode cX8_labels 2 = .ok (.iconst 0, 1) := by decide +kernel
theorem dX8_labels_3 : decode cX8_labels 3 = .ok (.istore_n 2, 1) := by decide +kernel
theorem dX8_labels_4 : decode cX8_labels 4 = .ok (.iload_n 2, 1) := by decide +kernel
theorem dX8_labels_5 : decode cX8_labels 5 = .ok (.bipush 24, 2) := by decide +kernel
theorem dX8_labels_7 : decode cX8_labels 7 = .ok (.if_icmp .ge 33, 3) := by decide +kernel
theorem dX8_labels_10 : decode cX8_labels 10 = .ok (.iload_n 1, 1) := by decide +kernel
theorem dX8_labels_11 : decode cX8_labels 11 = .ok (.aload_n 0, 1) := by decide +kernel
theorem dX8_labels_12 : decode cX8_labels 12 = .ok (.getfield 7, 3) := by decide +kernel
theorem dX8_labels_15 : decode cX8_labels 15 = .ok (.sipush 272, 3) := by decide +kernel
theorem dX8_labels_18 : decode cX8_labels 18 = .ok (.bipush 64, 2) := by decide +kernel
theorem dX8_labels_20 : decode cX8_labels 20 = .ok (.iload_n 2, 1) := by decide +kernel
theorem dX8_labels_21 : decode cX8_labels 21 = .ok (.imul, 1) := by decide +kernel
theorem dX8_labels_22 : decode cX8_labels 22 = .ok (.iadd, 1) := by decide +kernel
theorem dX8_labels_23 : decode cX8_labels 23 = .ok (.iaload, 1) := by decide +kernel
theorem dX8_labels_24 : decode cX8_labels 24 = .ok (.ifCond .le 7, 3) := by decide +kernel
theorem dX8_labels_27 : decode cX8_labels 27 = .ok (.iconst 1, 1) := by decide +kernel
theorem dX8_labels_28 : decode cX8_labels 28 = .ok (.goto 4, 3) := by decide +kernel
theorem dX8_labels_31 : decode cX8_labels 31 = .ok (.iconst 0, 1) := by decide +kernel
theorem dX8_labels_32 : decode cX8_labels 32 = .ok (.iadd, 1) := by decide +kernel
theorem dX8_labels_33 : decode cX8_labels 33 = .ok (.istore_n 1, 1) := by decide +kernel
theorem dX8_labels_34 : decode cX8_labels 34 = .ok (.iinc 2 1, 3) := by decide +kernel
theorem dX8_labels_37 : decode cX8_labels 37 = .ok (.goto (-33), 3) := by decide +kernel
theorem dX8_labels_40 : decode cX8_labels 40 = .ok (.iload_n 1, 1) := by decide +kernel
theorem dX8_labels_41 : decode cX8_labels 41 = .ok (.ireturn, 1) := by decide +kernel
theorem dX8_undo_0 : decode cX8_undo 0 = .ok (.aload_n 0, 1) := by decide +kernel
theorem dX8_undo_1 : decode cX8_undo 1 = .ok (.getfield 20, 3) := by decide +kernel
theorem dX8_undo_4 : decode cX8_undo 4 = .ok (.ifCond .ne 6, 3) := by decide +kernel
theorem dX8_undo_7 : decode cX8_undo 7 = .ok (.bipush (-5), 2) := by decide +kernel
theorem dX8_undo_9 : decode cX8_undo 9 = .ok (.ireturn, 1) := by decide +kernel
theorem dX8_undo_10 : decode cX8_undo 10 = .ok (.aload_n 0, 1) := by decide +kernel
theorem dX8_undo_11 : decode cX8_undo 11 = .ok (.aload_n 0, 1) := by decide +kernel
theorem dX8_undo_12 : decode cX8_undo 12 = .ok (.getfield 20, 3) := by decide +kernel
theorem dX8_undo_15 : decode cX8_undo 15 = .ok (.iconst 0, 1) := by decide +kernel
theorem dX8_undo_16 : decode cX8_undo 16 = .ok (.invokevirtual 24, 3) := by decide +kernel
theorem dX8_undo_19 : decode cX8_undo 19 = .ok (.aload_n 0, 1) := by decide +kernel
theorem dX8_undo_20 : decode cX8_undo 20 = .ok (.dup, 1) := by decide +kernel
theorem dX8_undo_21 : decode cX8_undo 21 = .ok (.getfield 20, 3) := by decide +kernel
theorem dX8_undo_24 : decode cX8_undo 24 = .ok (.iconst 1, 1) := by decide +kernel
theorem dX8_undo_25 : decode cX8_undo 25 = .ok (.isub, 1) := by decide +kernel
theorem dX8_undo_26 : decode cX8_undo 26 = .ok (.putfield 20, 3) := by decide +kernel
theorem dX8_undo_29 : decode cX8_undo 29 = .ok (.aload_n 0, 1) := by decide +kernel
theorem dX8_undo_30 : decode cX8_undo 30 = .ok (.getfield 20, 3) := by decide +kernel
theorem dX8_undo_33 : decode cX8_undo 33 = .ok (.ireturn, 1) := by decide +kernel
theorem dX8_keep_0 : decode cX8_keep 0 = .ok (.aload_n 0, 1) := by decide +kernel
theorem dX8_keep_1 : decode cX8_keep 1 = .ok (.iconst 0, 1) := by decide +kernel
theorem dX8_keep_2 : decode cX8_keep 2 = .ok (.iconst 5, 1) := by decide +kernel
theorem dX8_keep_3 : decode cX8_keep 3 = .ok (.invokevirtual 24, 3) := by decide +kernel
theorem dX8_keep_6 : decode cX8_keep 6 = .ok (.aload_n 0, 1) := by decide +kernel
theorem dX8_keep_7 : decode cX8_keep 7 = .ok (.iconst 1, 1) := by decide +kernel
theorem dX8_keep_8 : decode cX8_keep 8 = .ok (.putfield 107, 3) := by decide +kernel
theorem dX8_keep_11 : decode cX8_keep 11 = .ok (.aload_n 0, 1) := by decide +kernel
theorem dX8_keep_12 : decode cX8_keep 12 = .ok (.invokevirtual 111, 3) := by decide +kernel
theorem dX8_keep_15 : decode cX8_keep 15 = .ok (.ireturn, 1) := by decide +kernel
theorem dX8_restore_0 : decode cX8_restore 0 = .ok (.aload_n 0, 1) := by decide +kernel
theorem dX8_restore_1 : decode cX8_restore 1 = .ok (.getfield 107, 3) := by decide +kernel
theorem dX8_restore_4 : decode cX8_restore 4 = .ok (.ifCond .ne 6, 3) := by decide +kernel
theorem dX8_restore_7 : decode cX8_restore 7 = .ok (.bipush (-5), 2) := by decide +kernel
theorem dX8_restore_9 : decode cX8_restore 9 = .ok (.ireturn, 1) := by decide +kernel
theorem dX8_restore_10 : decode cX8_restore 10 = .ok (.aload_n 0, 1) := by decide +kernel
theorem dX8_restore_11 : decode cX8_restore 11 = .ok (.invokevirtual 63, 3) := by decide +kernel
theorem dX8_restore_14 : decode cX8_restore 14 = .ok (.aload_n 0, 1) := by decide +kernel
theorem dX8_restore_15 : decode cX8_restore 15 = .ok (.iconst 5, 1) := by decide +kernel
theorem dX8_restore_16 : decode cX8_restore 16 = .ok (.iconst 0, 1) := by decide +kernel
theorem dX8_restore_17 : decode cX8_restore 17 = .ok (.invokevirtual 24, 3) := by decide +kernel
theorem dX8_restore_20 : decode cX8_restore 20 = .ok (.aload_n 0, 1) := by decide +kernel
theorem dX8_restore_21 : decode cX8_restore 21 = .ok (.invokevirtual 111, 3) := by decide +kernel
theorem dX8_restore_24 : decode cX8_restore 24 = .ok (.ireturn, 1) := by decide +kernel
theorem dX8_labelOf_0 : decode cX8_labelOf 0 = .ok (.iload_n 1, 1) := by decide +kernel
theorem dX8_labelOf_1 : decode cX8_labelOf 1 = .ok (.iload_n 2, 1) := by decide +kernel
theorem dX8_labelOf_2 : decode cX8_labelOf 2 = .ok (.invokestatic 72, 3) := by decide +kernel
theorem dX8_labelOf_5 : decode cX8_labelOf 5 = .ok (.ifCond .ne 5, 3) := by decide +kernel
theorem dX8_labelOf_8 : decode cX8_labelOf 8 = .ok (.iconst (-1), 1) := by decide +kernel
theorem dX8_labelOf_9 : decode cX8_labelOf 9 = .ok (.ireturn, 1) := by decide +kernel
theorem dX8_labelOf_10 : decode cX8_labelOf 10 = .ok (.iload_n 3, 1) := by decide +kernel
theorem dX8_labelOf_11 : decode cX8_labelOf 11 = .ok (.iconst 0, 1) := by decide +kernel
theorem dX8_labelOf_12 : decode cX8_labelOf 12 = .ok (.iconst 4, 1) := by decide +kernel
theorem dX8_labelOf_13 : decode cX8_labelOf 13 = .ok (.invokestatic 59, 3) := by decide +kernel
theorem dX8_labelOf_16 : decode cX8_labelOf 16 = .ok (.ifCond .ne 6, 3) := by decide +kernel
theorem dX8_labelOf_19 : decode cX8_labelOf 19 = .ok (.bipush (-2), 2) := by decide +kernel
theorem dX8_labelOf_21 : decode cX8_labelOf 21 = .ok (.ireturn, 1) := by decide +kernel
theorem dX8_labelOf_22 : decode cX8_labelOf 22 = .ok (.iload_n 1, 1) := by decide +kernel
theorem dX8_labelOf_23 : decode cX8_labelOf 23 = .ok (.iload_n 2, 1) := by decide +kernel
theorem dX8_labelOf_24 : decode cX8_labelOf 24 = .ok (.invokestatic 28, 3) := by decide +kernel
theorem dX8_labelOf_27 : decode cX8_labelOf 27 = .ok (.istore 4, 2) := by decide +kernel
theorem dX8_labelOf_29 : decode cX8_labelOf 29 = .ok (.aload_n 0, 1) := by decide +kernel
theorem dX8_labelOf_30 : decode cX8_labelOf 30 = .ok (.getfield 7, 3) := by decide +kernel
theorem dX8_labelOf_33 : decode cX8_labelOf 33 = .ok (.iload 4, 2) := by decide +kernel
theorem dX8_labelOf_35 : decode cX8_labelOf 35 = .ok (.iaload, 1) := by decide +kernel
theorem dX8_labelOf_36 : decode cX8_labelOf 36 = .ok (.ifCond .ne 6, 3) := by decide +kernel
theorem dX8_labelOf_39 : decode cX8_labelOf 39 = .ok (.bipush (-5), 2) := by decide +kernel
theorem dX8_labelOf_41 : decode cX8_labelOf 41 = .ok (.ireturn, 1) := by decide +kernel
theorem dX8_labelOf_42 : decode cX8_labelOf 42 = .ok (.iload_n 3, 1) := by decide +kernel
theorem dX8_labelOf_43 : decode cX8_labelOf 43 = .ok (.tableswitch 67 0 2 #[25, 32, 40], 25) := by decide +kernel
theorem dX8_labelOf_68 : decode cX8_labelOf 68 = .ok (.aload_n 0, 1) := by decide +kernel
theorem dX8_labelOf_69 : decode cX8_labelOf 69 = .ok (.iload_n 1, 1) := by decide +kernel
theorem dX8_labelOf_70 : decode cX8_labelOf 70 = .ok (.iload_n 2, 1) := by decide +kernel
theorem dX8_labelOf_71 : decode cX8_labelOf 71 = .ok (.invokevirtual 42, 3) := by decide +kernel
theorem dX8_labelOf_74 : decode cX8_labelOf 74 = .ok (.ireturn, 1) := by decide +kernel
theorem dX8_labelOf_75 : decode cX8_labelOf 75 = .ok (.aload_n 0, 1) := by decide +kernel
theorem dX8_labelOf_76 : decode cX8_labelOf 76 = .ok (.getfield 7, 3) := by decide +kernel
theorem dX8_labelOf_79 : decode cX8_labelOf 79 = .ok (.iload 4, 2) := by decide +kernel
theorem dX8_labelOf_81 : decode cX8_labelOf 81 = .ok (.iaload, 1) := by decide +kernel
theorem dX8_labelOf_82 : decode cX8_labelOf 82 = .ok (.ireturn, 1) := by decide +kernel
theorem dX8_labelOf_83 : decode cX8_labelOf 83 = .ok (.aload_n 0, 1) := by decide +kernel
theorem dX8_labelOf_84 : decode cX8_labelOf 84 = .ok (.getfield 7, 3) := by decide +kernel
theorem dX8_labelOf_87 : decode cX8_labelOf 87 = .ok (.iload 4, 2) := by decide +kernel
theorem dX8_labelOf_89 : decode cX8_labelOf 89 = .ok (.iconst 1, 1) := by decide +kernel
theorem dX8_labelOf_90 : decode cX8_labelOf 90 = .ok (.iadd, 1) := by decide +kernel
theorem dX8_labelOf_91 : decode cX8_labelOf 91 = .ok (.iaload, 1) := by decide +kernel
theorem dX8_labelOf_92 : decode cX8_labelOf 92 = .ok (.ifCond .ge 8, 3) := by decide +kernel
theorem dX8_labelOf_95 : decode cX8_labelOf 95 = .ok (.bipush (-5), 2) := by decide +kernel
theorem dX8_labelOf_97 : decode cX8_labelOf 97 = .ok (.goto 12, 3) := by decide +kernel
theorem dX8_labelOf_100 : decode cX8_labelOf 100 = .ok (.aload_n 0, 1) := by decide +kernel
theorem dX8_labelOf_101 : decode cX8_labelOf 101 = .ok (.getfield 7, 3) := by decide +kernel
theorem dX8_labelOf_104 : decode cX8_labelOf 104 = .ok (.iload 4, 2) := by decide +kernel
theorem dX8_labelOf_106 : decode cX8_labelOf 106 = .ok (.iconst 1, 1) := by decide +kernel
theorem dX8_labelOf_107 : decode cX8_labelOf 107 = .ok (.iadd, 1) := by decide +kernel
theorem dX8_labelOf_108 : decode cX8_labelOf 108 = .ok (.iaload, 1) := by decide +kernel
theorem dX8_labelOf_109 : decode cX8_labelOf 109 = .ok (.ireturn, 1) := by decide +kernel
theorem dX8_labelOf_110 : decode cX8_labelOf 110 = .ok (.aload_n 0, 1) := by decide +kernel
theorem dX8_labelOf_111 : decode cX8_labelOf 111 = .ok (.getfield 7, 3) := by decide +kernel
theorem dX8_labelOf_114 : decode cX8_labelOf 114 = .ok (.iload 4, 2) := by decide +kernel
theorem dX8_labelOf_116 : decode cX8_labelOf 116 = .ok (.iload_n 3, 1) := by decide +kernel
theorem dX8_labelOf_117 : decode cX8_labelOf 117 = .ok (.iadd, 1) := by decide +kernel
theorem dX8_labelOf_118 : decode cX8_labelOf 118 = .ok (.iconst 1, 1) := by decide +kernel
theorem dX8_labelOf_119 : decode cX8_labelOf 119 = .ok (.isub, 1) := by decide +kernel
theorem dX8_labelOf_120 : decode cX8_labelOf 120 = .ok (.iaload, 1) := by decide +kernel
theorem dX8_labelOf_121 : decode cX8_labelOf 121 = .ok (.ireturn, 1) := by decide +kernel
theorem dX8_letter_0 : decode cX8_letter 0 = .ok (.iload_n 1, 1) := by decide +kernel
theorem dX8_letter_1 : decode cX8_letter 1 = .ok (.iload_n 2, 1) := by decide +kernel
theorem dX8_letter_2 : decode cX8_letter 2 = .ok (.invokestatic 72, 3) := by decide +kernel
theorem dX8_letter_5 : decode cX8_letter 5 = .ok (.ifCond .ne 5, 3) := by decide +kernel
theorem dX8_letter_8 : decode cX8_letter 8 = .ok (.iconst (-1), 1) := by decide +kernel
theorem dX8_letter_9 : decode cX8_letter 9 = .ok (.ireturn, 1) := by decide +kernel
theorem dX8_letter_10 : decode cX8_letter 10 = .ok (.iload_n 3, 1) := by decide +kernel
theorem dX8_letter_11 : decode cX8_letter 11 = .ok (.ifCond .ge 6, 3) := by decide +kernel
theorem dX8_letter_14 : decode cX8_letter 14 = .ok (.bipush (-2), 2) := by decide +kernel
theorem dX8_letter_16 : decode cX8_letter 16 = .ok (.ireturn, 1) := by decide +kernel
theorem dX8_letter_17 : decode cX8_letter 17 = .ok (.iload_n 1, 1) := by decide +kernel
theorem dX8_letter_18 : decode cX8_letter 18 = .ok (.iload_n 2, 1) := by decide +kernel
theorem dX8_letter_19 : decode cX8_letter 19 = .ok (.invokestatic 28, 3) := by decide +kernel
theorem dX8_letter_22 : decode cX8_letter 22 = .ok (.istore 4, 2) := by decide +kernel
theorem dX8_letter_24 : decode cX8_letter 24 = .ok (.iload_n 3, 1) := by decide +kernel
theorem dX8_letter_25 : decode cX8_letter 25 = .ok (.aload_n 0, 1) := by decide +kernel
theorem dX8_letter_26 : decode cX8_letter 26 = .ok (.getfield 7, 3) := by decide +kernel
theorem dX8_letter_29 : decode cX8_letter 29 = .ok (.iload 4, 2) := by decide +kernel
theorem dX8_letter_31 : decode cX8_letter 31 = .ok (.iaload, 1) := by decide +kernel
theorem dX8_letter_32 : decode cX8_letter 32 = .ok (.if_icmp .ge 17, 3) := by decide +kernel
theorem dX8_letter_35 : decode cX8_letter 35 = .ok (.aload_n 0, 1) := by decide +kernel
theorem dX8_letter_36 : decode cX8_letter 36 = .ok (.getfield 7, 3) := by decide +kernel
theorem dX8_letter_39 : decode cX8_letter 39 = .ok (.iload 4, 2) := by decide +kernel
theorem dX8_letter_41 : decode cX8_letter 41 = .ok (.iconst 4, 1) := by decide +kernel
theorem dX8_letter_42 : decode cX8_letter 42 = .ok (.iadd, 1) := by decide +kernel
theorem dX8_letter_43 : decode cX8_letter 43 = .ok (.iload_n 3, 1) := by decide +kernel
theorem dX8_letter_44 : decode cX8_letter 44 = .ok (.iadd, 1) := by decide +kernel
theorem dX8_letter_45 : decode cX8_letter 45 = .ok (.iaload, 1) := by decide +kernel
theorem dX8_letter_46 : decode cX8_letter 46 = .ok (.goto 5, 3) := by decide +kernel
theorem dX8_letter_49 : decode cX8_letter 49 = .ok (.bipush (-5), 2) := by decide +kernel
theorem dX8_letter_51 : decode cX8_letter 51 = .ok (.ireturn, 1) := by decide +kernel
theorem dX8_apart_0 : decode cX8_apart 0 = .ok (.aload_n 0, 1) := by decide +kernel
theorem dX8_apart_1 : decode cX8_apart 1 = .ok (.iload_n 1, 1) := by decide +kernel
theorem dX8_apart_2 : decode cX8_apart 2 = .ok (.iload_n 2, 1) := by decide +kernel
theorem dX8_apart_3 : decode cX8_apart 3 = .ok (.invokevirtual 32, 3) := by decide +kernel
theorem dX8_apart_6 : decode cX8_apart 6 = .ok (.istore 5, 2) := by decide +kernel
theorem dX8_apart_8 : decode cX8_apart 8 = .ok (.aload_n 0, 1) := by decide +kernel
theorem dX8_apart_9 : decode cX8_apart 9 = .ok (.iload_n 3, 1) := by decide +kernel
theorem dX8_apart_10 : decode cX8_apart 10 = .ok (.iload 4, 2) := by decide +kernel
theorem dX8_apart_12 : decode cX8_apart 12 = .ok (.invokevirtual 32, 3) := by decide +kernel
theorem dX8_apart_15 : decode cX8_apart 15 = .ok (.istore 6, 2) := by decide +kernel
theorem dX8_apart_17 : decode cX8_apart 17 = .ok (.iconst 0, 1) := by decide +kernel
theorem dX8_apart_18 : decode cX8_apart 18 = .ok (.istore 7, 2) := by decide +kernel
theorem dX8_apart_20 : decode cX8_apart 20 = .ok (.iload 7, 2) := by decide +kernel
theorem dX8_apart_22 : decode cX8_apart 22 = .ok (.iload 5, 2) := by decide +kernel
theorem dX8_apart_24 : decode cX8_apart 24 = .ok (.if_icmp .gt 149, 3) := by decide +kernel
theorem dX8_apart_27 : decode cX8_apart 27 = .ok (.iconst 0, 1) := by decide +kernel
theorem dX8_apart_28 : decode cX8_apart 28 = .ok (.istore 8, 2) := by decide +kernel
theorem dX8_apart_30 : decode cX8_apart 30 = .ok (.iload 8, 2) := by decide +kernel
theorem dX8_apart_32 : decode cX8_apart 32 = .ok (.iload 6, 2) := by decide +kernel
theorem dX8_apart_34 : decode cX8_apart 34 = .ok (.if_icmp .gt 133, 3) := by decide +kernel
theorem dX8_apart_37 : decode cX8_apart 37 = .ok (.iconst 0, 1) := by decide +kernel
theorem dX8_apart_38 : decode cX8_apart 38 = .ok (.istore 9, 2) := by decide +kernel
theorem dX8_apart_40 : decode cX8_apart 40 = .ok (.iload 7, 2) := by decide +kernel
theorem dX8_apart_42 : decode cX8_apart 42 = .ok (.ifCond .le 104, 3) := by decide +kernel
theorem dX8_apart_45 : decode cX8_apart 45 = .ok (.iload 8, 2) := by decide +kernel
theorem dX8_apart_47 : decode cX8_apart 47 = .ok (.ifCond .le 99, 3) := by decide +kernel
theorem dX8_apart_50 : decode cX8_apart 50 = .ok (.aload_n 0, 1) := by decide +kernel
theorem dX8_apart_51 : decode cX8_apart 51 = .ok (.getfield 17, 3) := by decide +kernel
theorem dX8_apart_54 : decode cX8_apart 54 = .ok (.bipush 31, 2) := by decide +kernel
theorem dX8_apart_56 : decode cX8_apart 56 = .ok (.iload 7, 2) := by decide +kernel
theorem dX8_apart_58 : decode cX8_apart 58 = .ok (.iconst 1, 1) := by decide +kernel
theorem dX8_apart_59 : decode cX8_apart 59 = .ok (.isub, 1) := by decide +kernel
theorem dX8_apart_60 : decode cX8_apart 60 = .ok (.imul, 1) := by decide +kernel
theorem dX8_apart_61 : decode cX8_apart 61 = .ok (.iload 8, 2) := by decide +kernel
theorem dX8_apart_63 : decode cX8_apart 63 = .ok (.iadd, 1) := by decide +kernel
theorem dX8_apart_64 : decode cX8_apart 64 = .ok (.iaload, 1) := by decide +kernel
theorem dX8_apart_65 : decode cX8_apart 65 = .ok (.istore 10, 2) := by decide +kernel
theorem dX8_apart_67 : decode cX8_apart 67 = .ok (.aload_n 0, 1) := by decide +kernel
theorem dX8_apart_68 : decode cX8_apart 68 = .ok (.getfield 17, 3) := by decide +kernel
theorem dX8_apart_71 : decode cX8_apart 71 = .ok (.bipush 31, 2) := by decide +kernel
theorem dX8_apart_73 : decode cX8_apart 73 = .ok (.iload 7, 2) := by decide +kernel
theorem dX8_apart_75 : decode cX8_apart 75 = .ok (.imul, 1) := by decide +kernel
theorem dX8_apart_76 : decode cX8_apart 76 = .ok (.iload 8, 2) := by decide +kernel
theorem dX8_apart_78 : decode cX8_apart 78 = .ok (.iadd, 1) := by decide +kernel
theorem dX8_apart_79 : decode cX8_apart 79 = .ok (.iconst 1, 1) := by decide +kernel
theorem dX8_apart_80 : decode cX8_apart 80 = .ok (.isub, 1) := by decide +kernel
theorem dX8_apart_81 : decode cX8_apart 81 = .ok (.iaload, 1) := by decide +kernel
theorem dX8_apart_82 : decode cX8_apart 82 = .ok (.istore 11, 2) := by decide +kernel
theorem dX8_apart_84 : decode cX8_apart 84 = .ok (.aload_n 0, 1) := by decide +kernel
theorem dX8_apart_85 : decode cX8_apart 85 = .ok (.iload_n 1, 1) := by decide +kernel
theorem dX8_apart_86 : decode cX8_apart 86 = .ok (.iload_n 2, 1) := by decide +kernel
theorem dX8_apart_87 : decode cX8_apart 87 = .ok (.iload 7, 2) := by decide +kernel
theorem dX8_apart_89 : decode cX8_apart 89 = .ok (.iconst 1, 1) := by decide +kernel
theorem dX8_apart_90 : decode cX8_apart 90 = .ok (.isub, 1) := by decide +kernel
theorem dX8_apart_91 : decode cX8_apart 91 = .ok (.iload_n 3, 1) := by decide +kernel
theorem dX8_apart_92 : decode cX8_apart 92 = .ok (.iload 4, 2) := by decide +kernel
theorem dX8_apart_94 : decode cX8_apart 94 = .ok (.iload 8, 2) := by decide +kernel
theorem dX8_apart_96 : decode cX8_apart 96 = .ok (.iconst 1, 1) := by decide +kernel
theorem dX8_apart_97 : decode cX8_apart 97 = .ok (.isub, 1) := by decide +kernel
theorem dX8_apart_98 : decode cX8_apart 98 = .ok (.invokevirtual 114, 3) := by decide +kernel
theorem dX8_apart_101 : decode cX8_apart 101 = .ok (.istore 12, 2) := by decide +kernel
theorem dX8_apart_103 : decode cX8_apart 103 = .ok (.iload 12, 2) := by decide +kernel
theorem dX8_apart_105 : decode cX8_apart 105 = .ok (.ifCond .eq 25, 3) := by decide +kernel
theorem dX8_apart_108 : decode cX8_apart 108 = .ok (.aload_n 0, 1) := by decide +kernel
theorem dX8_apart_109 : decode cX8_apart 109 = .ok (.getfield 17, 3) := by decide +kernel
theorem dX8_apart_112 : decode cX8_apart 112 = .ok (.bipush 31, 2) := by decide +kernel
theorem dX8_apart_114 : decode cX8_apart 114 = .ok (.iload 7, 2) := by decide +kernel
theorem dX8_apart_116 : decode cX8_apart 116 = .ok (.iconst 1, 1) := by decide +kernel
theorem dX8_apart_117 : decode cX8_apart 117 = .ok (.isub, 1) := by decide +kernel
theorem dX8_apart_118 : decode cX8_apart 118 = .ok (.imul, 1) := by decide +kernel
theorem dX8_apart_119 : decode cX8_apart 119 = .ok (.iload 8, 2) := by decide +kernel
theorem dX8_apart_121 : decode cX8_apart 121 = .ok (.iadd, 1) := by decide +kernel
theorem dX8_apart_122 : decode cX8_apart 122 = .ok (.iconst 1, 1) := by decide +kernel
theorem dX8_apart_123 : decode cX8_apart 123 = .ok (.isub, 1) := by decide +kernel
theorem dX8_apart_124 : decode cX8_apart 124 = .ok (.iaload, 1) := by decide +kernel
theorem dX8_apart_125 : decode cX8_apart 125 = .ok (.iconst 1, 1) := by decide +kernel
theorem dX8_apart_126 : decode cX8_apart 126 = .ok (.iadd, 1) := by decide +kernel
theorem dX8_apart_127 : decode cX8_apart 127 = .ok (.goto 17, 3) := by decide +kernel
theorem dX8_apart_130 : decode cX8_apart 130 = .ok (.iload 10, 2) := by decide +kernel
theorem dX8_apart_132 : decode cX8_apart 132 = .ok (.iload 11, 2) := by decide +kernel
theorem dX8_apart_134 : decode cX8_apart 134 = .ok (.if_icmp .le 8, 3) := by decide +kernel
theorem dX8_apart_137 : decode cX8_apart 137 = .ok (.iload 10, 2) := by decide +kernel
theorem dX8_apart_139 : decode cX8_apart 139 = .ok (.goto 5, 3) := by decide +kernel
theorem dX8_apart_142 : decode cX8_apart 142 = .ok (.iload 11, 2) := by decide +kernel
theorem dX8_apart_144 : decode cX8_apart 144 = .ok (.istore 9, 2) := by decide +kernel
theorem dX8_apart_146 : decode cX8_apart 146 = .ok (.aload_n 0, 1) := by decide +kernel
theorem dX8_apart_147 : decode cX8_apart 147 = .ok (.getfield 17, 3) := by decide +kernel
theorem dX8_apart_150 : decode cX8_apart 150 = .ok (.bipush 31, 2) := by decide +kernel
theorem dX8_apart_152 : decode cX8_apart 152 = .ok (.iload 7, 2) := by decide +kernel
theorem dX8_apart_154 : decode cX8_apart 154 = .ok (.imul, 1) := by decide +kernel
theorem dX8_apart_155 : decode cX8_apart 155 = .ok (.iload 8, 2) := by decide +kernel
theorem dX8_apart_157 : decode cX8_apart 157 = .ok (.iadd, 1) := by decide +kernel
theorem dX8_apart_158 : decode cX8_apart 158 = .ok (.iload 9, 2) := by decide +kernel
theorem dX8_apart_160 : decode cX8_apart 160 = .ok (.iastore, 1) := by decide +kernel
theorem dX8_apart_161 : decode cX8_apart 161 = .ok (.iinc 8 1, 3) := by decide +kernel
theorem dX8_apart_164 : decode cX8_apart 164 = .ok (.goto (-134), 3) := by decide +kernel
theorem dX8_apart_167 : decode cX8_apart 167 = .ok (.iinc 7 1, 3) := by decide +kernel
theorem dX8_apart_170 : decode cX8_apart 170 = .ok (.goto (-150), 3) := by decide +kernel
theorem dX8_apart_173 : decode cX8_apart 173 = .ok (.iload 5, 2) := by decide +kernel
theorem dX8_apart_175 : decode cX8_apart 175 = .ok (.iload 6, 2) := by decide +kernel
theorem dX8_apart_177 : decode cX8_apart 177 = .ok (.iadd, 1) := by decide +kernel
theorem dX8_apart_178 : decode cX8_apart 178 = .ok (.iconst 2, 1) := by decide +kernel
theorem dX8_apart_179 : decode cX8_apart 179 = .ok (.aload_n 0, 1) := by decide +kernel
theorem dX8_apart_180 : decode cX8_apart 180 = .ok (.getfield 17, 3) := by decide +kernel
theorem dX8_apart_183 : decode cX8_apart 183 = .ok (.bipush 31, 2) := by decide +kernel
theorem dX8_apart_185 : decode cX8_apart 185 = .ok (.iload 5, 2) := by decide +kernel
theorem dX8_apart_187 : decode cX8_apart 187 = .ok (.imul, 1) := by decide +kernel
theorem dX8_apart_188 : decode cX8_apart 188 = .ok (.iload 6, 2) := by decide +kernel
theorem dX8_apart_190 : decode cX8_apart 190 = .ok (.iadd, 1) := by decide +kernel
theorem dX8_apart_191 : decode cX8_apart 191 = .ok (.iaload, 1) := by decide +kernel
theorem dX8_apart_192 : decode cX8_apart 192 = .ok (.imul, 1) := by decide +kernel
theorem dX8_apart_193 : decode cX8_apart 193 = .ok (.isub, 1) := by decide +kernel
theorem dX8_apart_194 : decode cX8_apart 194 = .ok (.ireturn, 1) := by decide +kernel
theorem dX8_rewriteOf_0 : decode cX8_rewriteOf 0 = .ok (.aload_n 0, 1) := by decide +kernel
theorem dX8_rewriteOf_1 : decode cX8_rewriteOf 1 = .ok (.iload_n 1, 1) := by decide +kernel
theorem dX8_rewriteOf_2 : decode cX8_rewriteOf 2 = .ok (.invokevirtual 101, 3) := by decide +kernel
theorem dX8_rewriteOf_5 : decode cX8_rewriteOf 5 = .ok (.istore_n 3, 1) := by decide +kernel
theorem dX8_rewriteOf_6 : decode cX8_rewriteOf 6 = .ok (.iload_n 3, 1) := by decide +kernel
theorem dX8_rewriteOf_7 : decode cX8_rewriteOf 7 = .ok (.ifCond .ge 5, 3) := by decide +kernel
theorem dX8_rewriteOf_10 : decode cX8_rewriteOf 10 = .ok (.iconst (-1), 1) := by decide +kernel
theorem dX8_rewriteOf_11 : decode cX8_rewriteOf 11 = .ok (.ireturn, 1) := by decide +kernel
theorem dX8_rewriteOf_12 : decode cX8_rewriteOf 12 = .ok (.iload_n 2, 1) := by decide +kernel
theorem dX8_rewriteOf_13 : decode cX8_rewriteOf 13 = .ok (.iconst 0, 1) := by decide +kernel
theorem dX8_rewriteOf_14 : decode cX8_rewriteOf 14 = .ok (.bipush 7, 2) := by decide +kernel
theorem dX8_rewriteOf_16 : decode cX8_rewriteOf 16 = .ok (.invokestatic 59, 3) := by decide +kernel
theorem dX8_rewriteOf_19 : decode cX8_rewriteOf 19 = .ok (.ifCond .ne 6, 3) := by decide +kernel
theorem dX8_rewriteOf_22 : decode cX8_rewriteOf 22 = .ok (.bipush (-2), 2) := by decide +kernel
theorem dX8_rewriteOf_24 : decode cX8_rewriteOf 24 = .ok (.ireturn, 1) := by decide +kernel
theorem dX8_rewriteOf_25 : decode cX8_rewriteOf 25 = .ok (.iload_n 3, 1) := by decide +kernel
theorem dX8_rewriteOf_26 : decode cX8_rewriteOf 26 = .ok (.invokestatic 49, 3) := by decide +kernel
theorem dX8_rewriteOf_29 : decode cX8_rewriteOf 29 = .ok (.istore 4, 2) := by decide +kernel
theorem dX8_rewriteOf_31 : decode cX8_rewriteOf 31 = .ok (.sipush 272, 3) := by decide +kernel
theorem dX8_rewriteOf_34 : decode cX8_rewriteOf 34 = .ok (.bipush 64, 2) := by decide +kernel
theorem dX8_rewriteOf_36 : decode cX8_rewriteOf 36 = .ok (.aload_n 0, 1) := by decide +kernel
theorem dX8_rewriteOf_37 : decode cX8_rewriteOf 37 = .ok (.getfield 7, 3) := by decide +kernel
theorem dX8_rewriteOf_40 : decode cX8_rewriteOf 40 = .ok (.iload 4, 2) := by decide +kernel
theorem dX8_rewriteOf_42 : decode cX8_rewriteOf 42 = .ok (.iconst 1, 1) := by decide +kernel
theorem dX8_rewriteOf_43 : decode cX8_rewriteOf 43 = .ok (.iadd, 1) := by decide +kernel
theorem dX8_rewriteOf_44 : decode cX8_rewriteOf 44 = .ok (.iaload, 1) := by decide +kernel
theorem dX8_rewriteOf_45 : decode cX8_rewriteOf 45 = .ok (.imul, 1) := by decide +kernel
theorem dX8_rewriteOf_46 : decode cX8_rewriteOf 46 = .ok (.iadd, 1) := by decide +kernel
theorem dX8_rewriteOf_47 : decode cX8_rewriteOf 47 = .ok (.istore 5, 2) := by decide +kernel
theorem dX8_rewriteOf_49 : decode cX8_rewriteOf 49 = .ok (.iload_n 2, 1) := by decide +kernel
theorem dX8_rewriteOf_50 : decode cX8_rewriteOf 50 = .ok (.tableswitch 139 0 6 #[42, 54, 66, 76, 94, 100, 110], 42) := by decide +kernel
theorem dX8_rewriteOf_92 : decode cX8_rewriteOf 92 = .ok (.aload_n 0, 1) := by decide +kernel
theorem dX8_rewriteOf_93 : decode cX8_rewriteOf 93 = .ok (.getfield 7, 3) := by decide +kernel
theorem dX8_rewriteOf_96 : decode cX8_rewriteOf 96 = .ok (.iload 4, 2) := by decide +kernel
theorem dX8_rewriteOf_98 : decode cX8_rewriteOf 98 = .ok (.iconst 1, 1) := by decide +kernel
theorem dX8_rewriteOf_99 : decode cX8_rewriteOf 99 = .ok (.iadd, 1) := by decide +kernel
theorem dX8_rewriteOf_100 : decode cX8_rewriteOf 100 = .ok (.iaload, 1) := by decide +kernel
theorem dX8_rewriteOf_101 : decode cX8_rewriteOf 101 = .ok (.iconst 3, 1) := by decide +kernel
theorem dX8_rewriteOf_102 : decode cX8_rewriteOf 102 = .ok (.idiv, 1) := by decide +kernel
theorem dX8_rewriteOf_103 : decode cX8_rewriteOf 103 = .ok (.ireturn, 1) := by decide +kernel
theorem dX8_rewriteOf_104 : decode cX8_rewriteOf 104 = .ok (.aload_n 0, 1) := by decide +kernel
theorem dX8_rewriteOf_105 : decode cX8_rewriteOf 105 = .ok (.getfield 7, 3) := by decide +kernel
theorem dX8_rewriteOf_108 : decode cX8_rewriteOf 108 = .ok (.iload 4, 2) := by decide +kernel
theorem dX8_rewriteOf_110 : decode cX8_rewriteOf 110 = .ok (.iconst 1, 1) := by decide +kernel
theorem dX8_rewriteOf_111 : decode cX8_rewriteOf 111 = .ok (.iadd, 1) := by decide +kernel
theorem dX8_rewriteOf_112 : decode cX8_rewriteOf 112 = .ok (.iaload, 1) := by decide +kernel
theorem dX8_rewriteOf_113 : decode cX8_rewriteOf 113 = .ok (.iconst 3, 1) := by decide +kernel
theorem dX8_rewriteOf_114 : decode cX8_rewriteOf 114 = .ok (.irem, 1) := by decide +kernel
theorem dX8_rewriteOf_115 : decode cX8_rewriteOf 115 = .ok (.ireturn, 1) := by decide +kernel
theorem dX8_rewriteOf_116 : decode cX8_rewriteOf 116 = .ok (.aload_n 0, 1) := by decide +kernel
theorem dX8_rewriteOf_117 : decode cX8_rewriteOf 117 = .ok (.getfield 7, 3) := by decide +kernel
theorem dX8_rewriteOf_120 : decode cX8_rewriteOf 120 = .ok (.iload 4, 2) := by decide +kernel
theorem dX8_rewriteOf_122 : decode cX8_rewriteOf 122 = .ok (.iconst 2, 1) := by decide +kernel
theorem dX8_rewriteOf_123 : decode cX8_rewriteOf 123 = .ok (.iadd, 1) := by decide +kernel
theorem dX8_rewriteOf_124 : decode cX8_rewriteOf 124 = .ok (.iaload, 1) := by decide +kernel
theorem dX8_rewriteOf_125 : decode cX8_rewriteOf 125 = .ok (.ireturn, 1) := by decide +kernel
theorem dX8_rewriteOf_126 : decode cX8_rewriteOf 126 = .ok (.aload_n 0, 1) := by decide +kernel
theorem dX8_rewriteOf_127 : decode cX8_rewriteOf 127 = .ok (.iload 4, 2) := by decide +kernel
theorem dX8_rewriteOf_129 : decode cX8_rewriteOf 129 = .ok (.iconst 5, 1) := by decide +kernel
theorem dX8_rewriteOf_130 : decode cX8_rewriteOf 130 = .ok (.iadd, 1) := by decide +kernel
theorem dX8_rewriteOf_131 : decode cX8_rewriteOf 131 = .ok (.aload_n 0, 1) := by decide +kernel
theorem dX8_rewriteOf_132 : decode cX8_rewriteOf 132 = .ok (.getfield 7, 3) := by decide +kernel
theorem dX8_rewriteOf_135 : decode cX8_rewriteOf 135 = .ok (.iload 4, 2) := by decide +kernel
theorem dX8_rewriteOf_137 : decode cX8_rewriteOf 137 = .ok (.iconst 4, 1) := by decide +kernel
theorem dX8_rewriteOf_138 : decode cX8_rewriteOf 138 = .ok (.iadd, 1) := by decide +kernel
theorem dX8_rewriteOf_139 : decode cX8_rewriteOf 139 = .ok (.iaload, 1) := by decide +kernel
theorem dX8_rewriteOf_140 : decode cX8_rewriteOf 140 = .ok (.invokevirtual 32, 3) := by decide +kernel
theorem dX8_rewriteOf_143 : decode cX8_rewriteOf 143 = .ok (.ireturn, 1) := by decide +kernel
theorem dX8_rewriteOf_144 : decode cX8_rewriteOf 144 = .ok (.aload_n 0, 1) := by decide +kernel
theorem dX8_rewriteOf_145 : decode cX8_rewriteOf 145 = .ok (.iload_n 1, 1) := by decide +kernel
theorem dX8_rewriteOf_146 : decode cX8_rewriteOf 146 = .ok (.invokevirtual 53, 3) := by decide +kernel
theorem dX8_rewriteOf_149 : decode cX8_rewriteOf 149 = .ok (.ireturn, 1) := by decide +kernel
theorem dX8_rewriteOf_150 : decode cX8_rewriteOf 150 = .ok (.aload_n 0, 1) := by decide +kernel
theorem dX8_rewriteOf_151 : decode cX8_rewriteOf 151 = .ok (.getfield 7, 3) := by decide +kernel
theorem dX8_rewriteOf_154 : decode cX8_rewriteOf 154 = .ok (.iload 4, 2) := by decide +kernel
theorem dX8_rewriteOf_156 : decode cX8_rewriteOf 156 = .ok (.iconst 3, 1) := by decide +kernel
theorem dX8_rewriteOf_157 : decode cX8_rewriteOf 157 = .ok (.iadd, 1) := by decide +kernel
theorem dX8_rewriteOf_158 : decode cX8_rewriteOf 158 = .ok (.iaload, 1) := by decide +kernel
theorem dX8_rewriteOf_159 : decode cX8_rewriteOf 159 = .ok (.ireturn, 1) := by decide +kernel
theorem dX8_rewriteOf_160 : decode cX8_rewriteOf 160 = .ok (.aload_n 0, 1) := by decide +kernel
theorem dX8_rewriteOf_161 : decode cX8_rewriteOf 161 = .ok (.iload 4, 2) := by decide +kernel
theorem dX8_rewriteOf_163 : decode cX8_rewriteOf 163 = .ok (.iconst 5, 1) := by decide +kernel
theorem dX8_rewriteOf_164 : decode cX8_rewriteOf 164 = .ok (.iadd, 1) := by decide +kernel
theorem dX8_rewriteOf_165 : decode cX8_rewriteOf 165 = .ok (.aload_n 0, 1) := by decide +kernel
theorem dX8_rewriteOf_166 : decode cX8_rewriteOf 166 = .ok (.getfield 7, 3) := by decide +kernel
theorem dX8_rewriteOf_169 : decode cX8_rewriteOf 169 = .ok (.iload 4, 2) := by decide +kernel
theorem dX8_rewriteOf_171 : decode cX8_rewriteOf 171 = .ok (.iconst 4, 1) := by decide +kernel
theorem dX8_rewriteOf_172 : decode cX8_rewriteOf 172 = .ok (.iadd, 1) := by decide +kernel
theorem dX8_rewriteOf_173 : decode cX8_rewriteOf 173 = .ok (.iaload, 1) := by decide +kernel
theorem dX8_rewriteOf_174 : decode cX8_rewriteOf 174 = .ok (.iload 5, 2) := by decide +kernel
theorem dX8_rewriteOf_176 : decode cX8_rewriteOf 176 = .ok (.iconst 4, 1) := by decide +kernel
theorem dX8_rewriteOf_177 : decode cX8_rewriteOf 177 = .ok (.iadd, 1) := by decide +kernel
theorem dX8_rewriteOf_178 : decode cX8_rewriteOf 178 = .ok (.aload_n 0, 1) := by decide +kernel
theorem dX8_rewriteOf_179 : decode cX8_rewriteOf 179 = .ok (.getfield 7, 3) := by decide +kernel
theorem dX8_rewriteOf_182 : decode cX8_rewriteOf 182 = .ok (.iload 5, 2) := by decide +kernel
theorem dX8_rewriteOf_184 : decode cX8_rewriteOf 184 = .ok (.iaload, 1) := by decide +kernel
theorem dX8_rewriteOf_185 : decode cX8_rewriteOf 185 = .ok (.invokevirtual 118, 3) := by decide +kernel
theorem dX8_rewriteOf_188 : decode cX8_rewriteOf 188 = .ok (.ireturn, 1) := by decide +kernel
theorem dX8_rewriteOf_189 : decode cX8_rewriteOf 189 = .ok (.aload_n 0, 1) := by decide +kernel
theorem dX8_rewriteOf_190 : decode cX8_rewriteOf 190 = .ok (.aload_n 0, 1) := by decide +kernel
theorem dX8_rewriteOf_191 : decode cX8_rewriteOf 191 = .ok (.getfield 7, 3) := by decide +kernel
theorem dX8_rewriteOf_194 : decode cX8_rewriteOf 194 = .ok (.iload 4, 2) := by decide +kernel
theorem dX8_rewriteOf_196 : decode cX8_rewriteOf 196 = .ok (.iconst 1, 1) := by decide +kernel
theorem dX8_rewriteOf_197 : decode cX8_rewriteOf 197 = .ok (.iadd, 1) := by decide +kernel
theorem dX8_rewriteOf_198 : decode cX8_rewriteOf 198 = .ok (.iaload, 1) := by decide +kernel
theorem dX8_rewriteOf_199 : decode cX8_rewriteOf 199 = .ok (.iconst 3, 1) := by decide +kernel
theorem dX8_rewriteOf_200 : decode cX8_rewriteOf 200 = .ok (.idiv, 1) := by decide +kernel
theorem dX8_rewriteOf_201 : decode cX8_rewriteOf 201 = .ok (.aload_n 0, 1) := by decide +kernel
theorem dX8_rewriteOf_202 : decode cX8_rewriteOf 202 = .ok (.getfield 7, 3) := by decide +kernel
theorem dX8_rewriteOf_205 : decode cX8_rewriteOf 205 = .ok (.iload 4, 2) := by decide +kernel
theorem dX8_rewriteOf_207 : decode cX8_rewriteOf 207 = .ok (.iconst 1, 1) := by decide +kernel
theorem dX8_rewriteOf_208 : decode cX8_rewriteOf 208 = .ok (.iadd, 1) := by decide +kernel
theorem dX8_rewriteOf_209 : decode cX8_rewriteOf 209 = .ok (.iaload, 1) := by decide +kernel
theorem dX8_rewriteOf_210 : decode cX8_rewriteOf 210 = .ok (.iconst 3, 1) := by decide +kernel
theorem dX8_rewriteOf_211 : decode cX8_rewriteOf 211 = .ok (.irem, 1) := by decide +kernel
theorem dX8_rewriteOf_212 : decode cX8_rewriteOf 212 = .ok (.invokevirtual 104, 3) := by decide +kernel
theorem dX8_rewriteOf_215 : decode cX8_rewriteOf 215 = .ok (.iload_n 3, 1) := by decide +kernel
theorem dX8_rewriteOf_216 : decode cX8_rewriteOf 216 = .ok (.if_icmp .ne 7, 3) := by decide +kernel
theorem dX8_rewriteOf_219 : decode cX8_rewriteOf 219 = .ok (.iconst 1, 1) := by decide +kernel
theorem dX8_rewriteOf_220 : decode cX8_rewriteOf 220 = .ok (.goto 4, 3) := by decide +kernel
theorem dX8_rewriteOf_223 : decode cX8_rewriteOf 223 = .ok (.iconst 0, 1) := by decide +kernel
theorem dX8_rewriteOf_224 : decode cX8_rewriteOf 224 = .ok (.ireturn, 1) := by decide +kernel
theorem dX8_ranked_0 : decode cX8_ranked 0 = .ok (.iload_n 1, 1) := by decide +kernel
theorem dX8_ranked_1 : decode cX8_ranked 1 = .ok (.iload_n 2, 1) := by decide +kernel
theorem dX8_ranked_2 : decode cX8_ranked 2 = .ok (.invokestatic 72, 3) := by decide +kernel
theorem dX8_ranked_5 : decode cX8_ranked 5 = .ok (.ifCond .ne 5, 3) := by decide +kernel
theorem dX8_ranked_8 : decode cX8_ranked 8 = .ok (.iconst (-1), 1) := by decide +kernel
theorem dX8_ranked_9 : decode cX8_ranked 9 = .ok (.ireturn, 1) := by decide +kernel
theorem dX8_ranked_10 : decode cX8_ranked 10 = .ok (.iload_n 3, 1) := by decide +kernel
theorem dX8_ranked_11 : decode cX8_ranked 11 = .ok (.ifCond .ge 6, 3) := by decide +kernel
theorem dX8_ranked_14 : decode cX8_ranked 14 = .ok (.bipush (-2), 2) := by decide +kernel
theorem dX8_ranked_16 : decode cX8_ranked 16 = .ok (.ireturn, 1) := by decide +kernel
theorem dX8_ranked_17 : decode cX8_ranked 17 = .ok (.iconst 0, 1) := by decide +kernel
theorem dX8_ranked_18 : decode cX8_ranked 18 = .ok (.istore 4, 2) := by decide +kernel
theorem dX8_ranked_20 : decode cX8_ranked 20 = .ok (.iload 4, 2) := by decide +kernel
theorem dX8_ranked_22 : decode cX8_ranked 22 = .ok (.bipush 16, 2) := by decide +kernel
theorem dX8_ranked_24 : decode cX8_ranked 24 = .ok (.if_icmp .ge 176, 3) := by decide +kernel
theorem dX8_ranked_27 : decode cX8_ranked 27 = .ok (.iload 4, 2) := by decide +kernel
theorem dX8_ranked_29 : decode cX8_ranked 29 = .ok (.invokestatic 49, 3) := by decide +kernel
theorem dX8_ranked_32 : decode cX8_ranked 32 = .ok (.istore 5, 2) := by decide +kernel
theorem dX8_ranked_34 : decode cX8_ranked 34 = .ok (.aload_n 0, 1) := by decide +kernel
theorem dX8_ranked_35 : decode cX8_ranked 35 = .ok (.getfield 7, 3) := by decide +kernel
theorem dX8_ranked_38 : decode cX8_ranked 38 = .ok (.iload 5, 2) := by decide +kernel
theorem dX8_ranked_40 : decode cX8_ranked 40 = .ok (.iaload, 1) := by decide +kernel
theorem dX8_ranked_41 : decode cX8_ranked 41 = .ok (.ifCond .lt 153, 3) := by decide +kernel
theorem dX8_ranked_44 : decode cX8_ranked 44 = .ok (.aload_n 0, 1) := by decide +kernel
theorem dX8_ranked_45 : decode cX8_ranked 45 = .ok (.getfield 7, 3) := by decide +kernel
theorem dX8_ranked_48 : decode cX8_ranked 48 = .ok (.iload 5, 2) := by decide +kernel
theorem dX8_ranked_50 : decode cX8_ranked 50 = .ok (.iconst 1, 1) := by decide +kernel
theorem dX8_ranked_51 : decode cX8_ranked 51 = .ok (.iadd, 1) := by decide +kernel
theorem dX8_ranked_52 : decode cX8_ranked 52 = .ok (.iaload, 1) := by decide +kernel
theorem dX8_ranked_53 : decode cX8_ranked 53 = .ok (.iconst 3, 1) := by decide +kernel
theorem dX8_ranked_54 : decode cX8_ranked 54 = .ok (.iload_n 1, 1) := by decide +kernel
theorem dX8_ranked_55 : decode cX8_ranked 55 = .ok (.imul, 1) := by decide +kernel
theorem dX8_ranked_56 : decode cX8_ranked 56 = .ok (.iload_n 2, 1) := by decide +kernel
theorem dX8_ranked_57 : decode cX8_ranked 57 = .ok (.iadd, 1) := by decide +kernel
theorem dX8_ranked_58 : decode cX8_ranked 58 = .ok (.if_icmp .ne 136, 3) := by decide +kernel
theorem dX8_ranked_61 : decode cX8_ranked 61 = .ok (.iconst 0, 1) := by decide +kernel
theorem dX8_ranked_62 : decode cX8_ranked 62 = .ok (.istore 6, 2) := by decide +kernel
theorem dX8_ranked_64 : decode cX8_ranked 64 = .ok (.iconst 0, 1) := by decide +kernel
theorem dX8_ranked_65 : decode cX8_ranked 65 = .ok (.istore 7, 2) := by decide +kernel
theorem dX8_ranked_67 : decode cX8_ranked 67 = .ok (.iload 7, 2) := by decide +kernel
theorem dX8_ranked_69 : decode cX8_ranked 69 = .ok (.bipush 16, 2) := by decide +kernel
theorem dX8_ranked_71 : decode cX8_ranked 71 = .ok (.if_icmp .ge 109, 3) := by decide +kernel
theorem dX8_ranked_74 : decode cX8_ranked 74 = .ok (.iload 7, 2) := by decide +kernel
theorem dX8_ranked_76 : decode cX8_ranked 76 = .ok (.invokestatic 49, 3) := by decide +kernel
theorem dX8_ranked_79 : decode cX8_ranked 79 = .ok (.istore 8, 2) := by decide +kernel
theorem dX8_ranked_81 : decode cX8_ranked 81 = .ok (.aload_n 0, 1) := by decide +kernel
theorem dX8_ranked_82 : decode cX8_ranked 82 = .ok (.aload_n 0, 1) := by decide +kernel
theorem dX8_ranked_83 : decode cX8_ranked 83 = .ok (.getfield 7, 3) := by decide +kernel
theorem dX8_ranked_86 : decode cX8_ranked 86 = .ok (.iload 8, 2) := by decide +kernel
theorem dX8_ranked_88 : decode cX8_ranked 88 = .ok (.iaload, 1) := by decide +kernel
theorem dX8_ranked_89 : decode cX8_ranked 89 = .ok (.invokevirtual 53, 3) := by decide +kernel
theorem dX8_ranked_92 : decode cX8_ranked 92 = .ok (.aload_n 0, 1) := by decide +kernel
theorem dX8_ranked_93 : decode cX8_ranked 93 = .ok (.aload_n 0, 1) := by decide +kernel
theorem dX8_ranked_94 : decode cX8_ranked 94 = .ok (.getfield 7, 3) := by decide +kernel
theorem dX8_ranked_97 : decode cX8_ranked 97 = .ok (.iload 5, 2) := by decide +kernel
theorem dX8_ranked_99 : decode cX8_ranked 99 = .ok (.iaload, 1) := by decide +kernel
theorem dX8_ranked_100 : decode cX8_ranked 100 = .ok (.invokevirtual 53, 3) := by decide +kernel
theorem dX8_ranked_103 : decode cX8_ranked 103 = .ok (.isub, 1) := by decide +kernel
theorem dX8_ranked_104 : decode cX8_ranked 104 = .ok (.istore 9, 2) := by decide +kernel
theorem dX8_ranked_106 : decode cX8_ranked 106 = .ok (.iload 6, 2) := by decide +kernel
theorem dX8_ranked_108 : decode cX8_ranked 108 = .ok (.aload_n 0, 1) := by decide +kernel
theorem dX8_ranked_109 : decode cX8_ranked 109 = .ok (.getfield 7, 3) := by decide +kernel
theorem dX8_ranked_112 : decode cX8_ranked 112 = .ok (.iload 8, 2) := by decide +kernel
theorem dX8_ranked_114 : decode cX8_ranked 114 = .ok (.iaload, 1) := by decide +kernel
theorem dX8_ranked_115 : decode cX8_ranked 115 = .ok (.ifCond .lt 55, 3) := by decide +kernel
theorem dX8_ranked_118 : decode cX8_ranked 118 = .ok (.aload_n 0, 1) := by decide +kernel
theorem dX8_ranked_119 : decode cX8_ranked 119 = .ok (.getfield 7, 3) := by decide +kernel
theorem dX8_ranked_122 : decode cX8_ranked 122 = .ok (.iload 8, 2) := by decide +kernel
theorem dX8_ranked_124 : decode cX8_ranked 124 = .ok (.iconst 1, 1) := by decide +kernel
theorem dX8_ranked_125 : decode cX8_ranked 125 = .ok (.iadd, 1) := by decide +kernel
theorem dX8_ranked_126 : decode cX8_ranked 126 = .ok (.iaload, 1) := by decide +kernel
theorem dX8_ranked_127 : decode cX8_ranked 127 = .ok (.aload_n 0, 1) := by decide +kernel
theorem dX8_ranked_128 : decode cX8_ranked 128 = .ok (.getfield 7, 3) := by decide +kernel
theorem dX8_ranked_131 : decode cX8_ranked 131 = .ok (.iload 5, 2) := by decide +kernel
theorem dX8_ranked_133 : decode cX8_ranked 133 = .ok (.iconst 1, 1) := by decide +kernel
theorem dX8_ranked_134 : decode cX8_ranked 134 = .ok (.iadd, 1) := by decide +kernel
theorem dX8_ranked_135 : decode cX8_ranked 135 = .ok (.iaload, 1) := by decide +kernel
theorem dX8_ranked_136 : decode cX8_ranked 136 = .ok (.if_icmp .ne 34, 3) := by decide +kernel
theorem dX8_ranked_139 : decode cX8_ranked 139 = .ok (.iload 9, 2) := by decide +kernel
theorem dX8_ranked_141 : decode cX8_ranked 141 = .ok (.ifCond .gt 25, 3) := by decide +kernel
theorem dX8_ranked_144 : decode cX8_ranked 144 = .ok (.iload 9, 2) := by decide +kernel
theorem dX8_ranked_146 : decode cX8_ranked 146 = .ok (.ifCond .ne 24, 3) := by decide +kernel
theorem dX8_ranked_149 : decode cX8_ranked 149 = .ok (.aload_n 0, 1) := by decide +kernel
theorem dX8_ranked_150 : decode cX8_ranked 150 = .ok (.getfield 7, 3) := by decide +kernel
theorem dX8_ranked_153 : decode cX8_ranked 153 = .ok (.iload 8, 2) := by decide +kernel
theorem dX8_ranked_155 : decode cX8_ranked 155 = .ok (.iaload, 1) := by decide +kernel
theorem dX8_ranked_156 : decode cX8_ranked 156 = .ok (.aload_n 0, 1) := by decide +kernel
theorem dX8_ranked_157 : decode cX8_ranked 157 = .ok (.getfield 7, 3) := by decide +kernel
theorem dX8_ranked_160 : decode cX8_ranked 160 = .ok (.iload 5, 2) := by decide +kernel
theorem dX8_ranked_162 : decode cX8_ranked 162 = .ok (.iaload, 1) := by decide +kernel
theorem dX8_ranked_163 : decode cX8_ranked 163 = .ok (.if_icmp .ge 7, 3) := by decide +kernel
theorem dX8_ranked_166 : decode cX8_ranked 166 = .ok (.iconst 1, 1) := by decide +kernel
theorem dX8_ranked_167 : decode cX8_ranked 167 = .ok (.goto 4, 3) := by decide +kernel
theorem dX8_ranked_170 : decode cX8_ranked 170 = .ok (.iconst 0, 1) := by decide +kernel
theorem dX8_ranked_171 : decode cX8_ranked 171 = .ok (.iadd, 1) := by decide +kernel
theorem dX8_ranked_172 : decode cX8_ranked 172 = .ok (.istore 6, 2) := by decide +kernel
theorem dX8_ranked_174 : decode cX8_ranked 174 = .ok (.iinc 7 1, 3) := by decide +kernel
theorem dX8_ranked_177 : decode cX8_ranked 177 = .ok (.goto (-110), 3) := by decide +kernel
theorem dX8_ranked_180 : decode cX8_ranked 180 = .ok (.iload 6, 2) := by decide +kernel
theorem dX8_ranked_182 : decode cX8_ranked 182 = .ok (.iload_n 3, 1) := by decide +kernel
theorem dX8_ranked_183 : decode cX8_ranked 183 = .ok (.if_icmp .ne 11, 3) := by decide +kernel
theorem dX8_ranked_186 : decode cX8_ranked 186 = .ok (.aload_n 0, 1) := by decide +kernel
theorem dX8_ranked_187 : decode cX8_ranked 187 = .ok (.getfield 7, 3) := by decide +kernel
theorem dX8_ranked_190 : decode cX8_ranked 190 = .ok (.iload 5, 2) := by decide +kernel
theorem dX8_ranked_192 : decode cX8_ranked 192 = .ok (.iaload, 1) := by decide +kernel
theorem dX8_ranked_193 : decode cX8_ranked 193 = .ok (.ireturn, 1) := by decide +kernel
theorem dX8_ranked_194 : decode cX8_ranked 194 = .ok (.iinc 4 1, 3) := by decide +kernel
theorem dX8_ranked_197 : decode cX8_ranked 197 = .ok (.goto (-177), 3) := by decide +kernel
theorem dX8_ranked_200 : decode cX8_ranked 200 = .ok (.bipush (-5), 2) := by decide +kernel
theorem dX8_ranked_202 : decode cX8_ranked 202 = .ok (.ireturn, 1) := by decide +kernel
theorem dX8_labelsOf_0 : decode cX8_labelsOf 0 = .ok (.iconst 0, 1) := by decide +kernel
theorem dX8_labelsOf_1 : decode cX8_labelsOf 1 = .ok (.istore_n 3, 1) := by decide +kernel
theorem dX8_labelsOf_2 : decode cX8_labelsOf 2 = .ok (.iconst 0, 1) := by decide +kernel
theorem dX8_labelsOf_3 : decode cX8_labelsOf 3 = .ok (.istore 4, 2) := by decide +kernel
theorem dX8_labelsOf_5 : decode cX8_labelsOf 5 = .ok (.iload 4, 2) := by decide +kernel
theorem dX8_labelsOf_7 : decode cX8_labelsOf 7 = .ok (.bipush 8, 2) := by decide +kernel
theorem dX8_labelsOf_9 : decode cX8_labelsOf 9 = .ok (.if_icmp .ge 139, 3) := by decide +kernel
theorem dX8_labelsOf_12 : decode cX8_labelsOf 12 = .ok (.iconst 0, 1) := by decide +kernel
theorem dX8_labelsOf_13 : decode cX8_labelsOf 13 = .ok (.istore 5, 2) := by decide +kernel
theorem dX8_labelsOf_15 : decode cX8_labelsOf 15 = .ok (.iload 5, 2) := by decide +kernel
theorem dX8_labelsOf_17 : decode cX8_labelsOf 17 = .ok (.iconst 3, 1) := by decide +kernel
theorem dX8_labelsOf_18 : decode cX8_labelsOf 18 = .ok (.if_icmp .ge 124, 3) := by decide +kernel
theorem dX8_labelsOf_21 : decode cX8_labelsOf 21 = .ok (.aload_n 0, 1) := by decide +kernel
theorem dX8_labelsOf_22 : decode cX8_labelsOf 22 = .ok (.getfield 7, 3) := by decide +kernel
theorem dX8_labelsOf_25 : decode cX8_labelsOf 25 = .ok (.iload 4, 2) := by decide +kernel
theorem dX8_labelsOf_27 : decode cX8_labelsOf 27 = .ok (.iaload, 1) := by decide +kernel
theorem dX8_labelsOf_28 : decode cX8_labelsOf 28 = .ok (.iload_n 1, 1) := by decide +kernel
theorem dX8_labelsOf_29 : decode cX8_labelsOf 29 = .ok (.if_icmp .ne 113, 3) := by decide +kernel
theorem dX8_labelsOf_32 : decode cX8_labelsOf 32 = .ok (.aload_n 0, 1) := by decide +kernel
theorem dX8_labelsOf_33 : decode cX8_labelsOf 33 = .ok (.getfield 7, 3) := by decide +kernel
theorem dX8_labelsOf_36 : decode cX8_labelsOf 36 = .ok (.bipush 8, 2) := by decide +kernel
theorem dX8_labelsOf_38 : decode cX8_labelsOf 38 = .ok (.iload_n 1, 1) := by decide +kernel
theorem dX8_labelsOf_39 : decode cX8_labelsOf 39 = .ok (.iadd, 1) := by decide +kernel
theorem dX8_labelsOf_40 : decode cX8_labelsOf 40 = .ok (.iaload, 1) := by decide +kernel
theorem dX8_labelsOf_41 : decode cX8_labelsOf 41 = .ok (.iload 5, 2) := by decide +kernel
theorem dX8_labelsOf_43 : decode cX8_labelsOf 43 = .ok (.ishr, 1) := by decide +kernel
theorem dX8_labelsOf_44 : decode cX8_labelsOf 44 = .ok (.iconst 1, 1) := by decide +kernel
theorem dX8_labelsOf_45 : decode cX8_labelsOf 45 = .ok (.iand, 1) := by decide +kernel
theorem dX8_labelsOf_46 : decode cX8_labelsOf 46 = .ok (.iconst 1, 1) := by decide +kernel
theorem dX8_labelsOf_47 : decode cX8_labelsOf 47 = .ok (.if_icmp .ne 7, 3) := by decide +kernel
theorem dX8_labelsOf_50 : decode cX8_labelsOf 50 = .ok (.iconst 1, 1) := by decide +kernel
theorem dX8_labelsOf_51 : decode cX8_labelsOf 51 = .ok (.goto 4, 3) := by decide +kernel
theorem dX8_labelsOf_54 : decode cX8_labelsOf 54 = .ok (.iconst 0, 1) := by decide +kernel
theorem dX8_labelsOf_55 : decode cX8_labelsOf 55 = .ok (.istore 6, 2) := by decide +kernel
theorem dX8_labelsOf_57 : decode cX8_labelsOf 57 = .ok (.aload_n 0, 1) := by decide +kernel
theorem dX8_labelsOf_58 : decode cX8_labelsOf 58 = .ok (.iload 4, 2) := by decide +kernel
theorem dX8_labelsOf_60 : decode cX8_labelsOf 60 = .ok (.iload 5, 2) := by decide +kernel
theorem dX8_labelsOf_62 : decode cX8_labelsOf 62 = .ok (.invokevirtual 75, 3) := by decide +kernel
theorem dX8_labelsOf_65 : decode cX8_labelsOf 65 = .ok (.istore 7, 2) := by decide +kernel
theorem dX8_labelsOf_67 : decode cX8_labelsOf 67 = .ok (.iload_n 2, 1) := by decide +kernel
theorem dX8_labelsOf_68 : decode cX8_labelsOf 68 = .ok (.iconst 3, 1) := by decide +kernel
theorem dX8_labelsOf_69 : decode cX8_labelsOf 69 = .ok (.if_icmp .ne 29, 3) := by decide +kernel
theorem dX8_labelsOf_72 : decode cX8_labelsOf 72 = .ok (.aload_n 0, 1) := by decide +kernel
theorem dX8_labelsOf_73 : decode cX8_labelsOf 73 = .ok (.iload 4, 2) := by decide +kernel
theorem dX8_labelsOf_75 : decode cX8_labelsOf 75 = .ok (.iload 5, 2) := by decide +kernel
theorem dX8_labelsOf_77 : decode cX8_labelsOf 77 = .ok (.invokevirtual 42, 3) := by decide +kernel
theorem dX8_labelsOf_80 : decode cX8_labelsOf 80 = .ok (.istore 8, 2) := by decide +kernel
theorem dX8_labelsOf_82 : decode cX8_labelsOf 82 = .ok (.iload 8, 2) := by decide +kernel
theorem dX8_labelsOf_84 : decode cX8_labelsOf 84 = .ok (.iload_n 3, 1) := by decide +kernel
theorem dX8_labelsOf_85 : decode cX8_labelsOf 85 = .ok (.if_icmp .le 8, 3) := by decide +kernel
theorem dX8_labelsOf_88 : decode cX8_labelsOf 88 = .ok (.iload 8, 2) := by decide +kernel
theorem dX8_labelsOf_90 : decode cX8_labelsOf 90 = .ok (.goto 4, 3) := by decide +kernel
theorem dX8_labelsOf_93 : decode cX8_labelsOf 93 = .ok (.iload_n 3, 1) := by decide +kernel
theorem dX8_labelsOf_94 : decode cX8_labelsOf 94 = .ok (.istore_n 3, 1) := by decide +kernel
theorem dX8_labelsOf_95 : decode cX8_labelsOf 95 = .ok (.goto 41, 3) := by decide +kernel
theorem dX8_labelsOf_98 : decode cX8_labelsOf 98 = .ok (.iload_n 3, 1) := by decide +kernel
theorem dX8_labelsOf_99 : decode cX8_labelsOf 99 = .ok (.iload 6, 2) := by decide +kernel
theorem dX8_labelsOf_101 : decode cX8_labelsOf 101 = .ok (.iload_n 2, 1) := by decide +kernel
theorem dX8_labelsOf_102 : decode cX8_labelsOf 102 = .ok (.iconst 2, 1) := by decide +kernel
theorem dX8_labelsOf_103 : decode cX8_labelsOf 103 = .ok (.if_icmp .eq 7, 3) := by decide +kernel
theorem dX8_labelsOf_106 : decode cX8_labelsOf 106 = .ok (.iconst 1, 1) := by decide +kernel
theorem dX8_labelsOf_107 : decode cX8_labelsOf 107 = .ok (.goto 4, 3) := by decide +kernel
theorem dX8_labelsOf_110 : decode cX8_labelsOf 110 = .ok (.iconst 0, 1) := by decide +kernel
theorem dX8_labelsOf_111 : decode cX8_labelsOf 111 = .ok (.if_icmp .ne 22, 3) := by decide +kernel
theorem dX8_labelsOf_114 : decode cX8_labelsOf 114 = .ok (.iload 7, 2) := by decide +kernel
theorem dX8_labelsOf_116 : decode cX8_labelsOf 116 = .ok (.iload_n 2, 1) := by decide +kernel
theorem dX8_labelsOf_117 : decode cX8_labelsOf 117 = .ok (.iconst 1, 1) := by decide +kernel
theorem dX8_labelsOf_118 : decode cX8_labelsOf 118 = .ok (.if_icmp .eq 7, 3) := by decide +kernel
theorem dX8_labelsOf_121 : decode cX8_labelsOf 121 = .ok (.iconst 1, 1) := by decide +kernel
theorem dX8_labelsOf_122 : decode cX8_labelsOf 122 = .ok (.goto 4, 3) := by decide +kernel
theorem dX8_labelsOf_125 : decode cX8_labelsOf 125 = .ok (.iconst 0, 1) := by decide +kernel
theorem dX8_labelsOf_126 : decode cX8_labelsOf 126 = .ok (.if_icmp .ne 7, 3) := by decide +kernel
theorem dX8_labelsOf_129 : decode cX8_labelsOf 129 = .ok (.iconst 1, 1) := by decide +kernel
theorem dX8_labelsOf_130 : decode cX8_labelsOf 130 = .ok (.goto 4, 3) := by decide +kernel
theorem dX8_labelsOf_133 : decode cX8_labelsOf 133 = .ok (.iconst 0, 1) := by decide +kernel
theorem dX8_labelsOf_134 : decode cX8_labelsOf 134 = .ok (.iadd, 1) := by decide +kernel
theorem dX8_labelsOf_135 : decode cX8_labelsOf 135 = .ok (.istore_n 3, 1) := by decide +kernel
theorem dX8_labelsOf_136 : decode cX8_labelsOf 136 = .ok (.iinc 5 1, 3) := by decide +kernel
theorem dX8_labelsOf_139 : decode cX8_labelsOf 139 = .ok (.goto (-124), 3) := by decide +kernel
theorem dX8_labelsOf_142 : decode cX8_labelsOf 142 = .ok (.iinc 4 1, 3) := by decide +kernel
theorem dX8_labelsOf_145 : decode cX8_labelsOf 145 = .ok (.goto (-140), 3) := by decide +kernel
theorem dX8_labelsOf_148 : decode cX8_labelsOf 148 = .ok (.iload_n 3, 1) := by decide +kernel
theorem dX8_labelsOf_149 : decode cX8_labelsOf 149 = .ok (.ireturn, 1) := by decide +kernel
theorem dX8_worksOf_0 : decode cX8_worksOf 0 = .ok (.iconst 0, 1) := by decide +kernel
theorem dX8_worksOf_1 : decode cX8_worksOf 1 = .ok (.istore_n 2, 1) := by decide +kernel
theorem dX8_worksOf_2 : decode cX8_worksOf 2 = .ok (.iconst 0, 1) := by decide +kernel
theorem dX8_worksOf_3 : decode cX8_worksOf 3 = .ok (.istore_n 3, 1) := by decide +kernel
theorem dX8_worksOf_4 : decode cX8_worksOf 4 = .ok (.iload_n 3, 1) := by decide +kernel
theorem dX8_worksOf_5 : decode cX8_worksOf 5 = .ok (.bipush 8, 2) := by decide +kernel
theorem dX8_worksOf_7 : decode cX8_worksOf 7 = .ok (.if_icmp .ge 27, 3) := by decide +kernel
theorem dX8_worksOf_10 : decode cX8_worksOf 10 = .ok (.iload_n 2, 1) := by decide +kernel
theorem dX8_worksOf_11 : decode cX8_worksOf 11 = .ok (.aload_n 0, 1) := by decide +kernel
theorem dX8_worksOf_12 : decode cX8_worksOf 12 = .ok (.getfield 7, 3) := by decide +kernel
theorem dX8_worksOf_15 : decode cX8_worksOf 15 = .ok (.iload_n 3, 1) := by decide +kernel
theorem dX8_worksOf_16 : decode cX8_worksOf 16 = .ok (.iaload, 1) := by decide +kernel
theorem dX8_worksOf_17 : decode cX8_worksOf 17 = .ok (.iload_n 1, 1) := by decide +kernel
theorem dX8_worksOf_18 : decode cX8_worksOf 18 = .ok (.if_icmp .ne 7, 3) := by decide +kernel
theorem dX8_worksOf_21 : decode cX8_worksOf 21 = .ok (.iconst 1, 1) := by decide +kernel
theorem dX8_worksOf_22 : decode cX8_worksOf 22 = .ok (.goto 4, 3) := by decide +kernel
theorem dX8_worksOf_25 : decode cX8_worksOf 25 = .ok (.iconst 0, 1) := by decide +kernel
theorem dX8_worksOf_26 : decode cX8_worksOf 26 = .ok (.iadd, 1) := by decide +kernel
theorem dX8_worksOf_27 : decode cX8_worksOf 27 = .ok (.istore_n 2, 1) := by decide +kernel
theorem dX8_worksOf_28 : decode cX8_worksOf 28 = .ok (.iinc 3 1, 3) := by decide +kernel
theorem dX8_worksOf_31 : decode cX8_worksOf 31 = .ok (.goto (-27), 3) := by decide +kernel
theorem dX8_worksOf_34 : decode cX8_worksOf 34 = .ok (.iload_n 2, 1) := by decide +kernel
theorem dX8_worksOf_35 : decode cX8_worksOf 35 = .ok (.ireturn, 1) := by decide +kernel
theorem dX8_room_0 : decode cX8_room 0 = .ok (.iload_n 1, 1) := by decide +kernel
theorem dX8_room_1 : decode cX8_room 1 = .ok (.iconst 0, 1) := by decide +kernel
theorem dX8_room_2 : decode cX8_room 2 = .ok (.iconst 3, 1) := by decide +kernel
theorem dX8_room_3 : decode cX8_room 3 = .ok (.invokestatic 59, 3) := by decide +kernel
theorem dX8_room_6 : decode cX8_room 6 = .ok (.ifCond .ne 5, 3) := by decide +kernel
theorem dX8_room_9 : decode cX8_room 9 = .ok (.iconst (-1), 1) := by decide +kernel
theorem dX8_room_10 : decode cX8_room 10 = .ok (.ireturn, 1) := by decide +kernel
theorem dX8_room_11 : decode cX8_room 11 = .ok (.iload_n 2, 1) := by decide +kernel
theorem dX8_room_12 : decode cX8_room 12 = .ok (.tableswitch 79 0 6 #[44, 54, 60, 70, 70, 70, 70], 44) := by decide +kernel
theorem dX8_room_56 : decode cX8_room 56 = .ok (.aload_n 0, 1) := by decide +kernel
theorem dX8_room_57 : decode cX8_room 57 = .ok (.getfield 7, 3) := by decide +kernel
theorem dX8_room_60 : decode cX8_room 60 = .ok (.bipush 12, 2) := by decide +kernel
theorem dX8_room_62 : decode cX8_room 62 = .ok (.iload_n 1, 1) := by decide +kernel
theorem dX8_room_63 : decode cX8_room 63 = .ok (.iadd, 1) := by decide +kernel
theorem dX8_room_64 : decode cX8_room 64 = .ok (.iaload, 1) := by decide +kernel
theorem dX8_room_65 : decode cX8_room 65 = .ok (.ireturn, 1) := by decide +kernel
theorem dX8_room_66 : decode cX8_room 66 = .ok (.aload_n 0, 1) := by decide +kernel
theorem dX8_room_67 : decode cX8_room 67 = .ok (.iload_n 1, 1) := by decide +kernel
theorem dX8_room_68 : decode cX8_room 68 = .ok (.invokevirtual 122, 3) := by decide +kernel
theorem dX8_room_71 : decode cX8_room 71 = .ok (.ireturn, 1) := by decide +kernel
theorem dX8_room_72 : decode cX8_room 72 = .ok (.aload_n 0, 1) := by decide +kernel
theorem dX8_room_73 : decode cX8_room 73 = .ok (.getfield 7, 3) := by decide +kernel
theorem dX8_room_76 : decode cX8_room 76 = .ok (.bipush 8, 2) := by decide +kernel
theorem dX8_room_78 : decode cX8_room 78 = .ok (.iload_n 1, 1) := by decide +kernel
theorem dX8_room_79 : decode cX8_room 79 = .ok (.iadd, 1) := by decide +kernel
theorem dX8_room_80 : decode cX8_room 80 = .ok (.iaload, 1) := by decide +kernel
theorem dX8_room_81 : decode cX8_room 81 = .ok (.ireturn, 1) := by decide +kernel
theorem dX8_room_82 : decode cX8_room 82 = .ok (.aload_n 0, 1) := by decide +kernel
theorem dX8_room_83 : decode cX8_room 83 = .ok (.iload_n 1, 1) := by decide +kernel
theorem dX8_room_84 : decode cX8_room 84 = .ok (.iload_n 2, 1) := by decide +kernel
theorem dX8_room_85 : decode cX8_room 85 = .ok (.iconst 3, 1) := by decide +kernel
theorem dX8_room_86 : decode cX8_room 86 = .ok (.isub, 1) := by decide +kernel
theorem dX8_room_87 : decode cX8_room 87 = .ok (.invokevirtual 125, 3) := by decide +kernel
theorem dX8_room_90 : decode cX8_room 90 = .ok (.ireturn, 1) := by decide +kernel
theorem dX8_room_91 : decode cX8_room 91 = .ok (.bipush (-2), 2) := by decide +kernel
theorem dX8_room_93 : decode cX8_room 93 = .ok (.ireturn, 1) := by decide +kernel
theorem dX8_rewritesOf_0 : decode cX8_rewritesOf 0 = .ok (.iconst 0, 1) := by decide +kernel
theorem dX8_rewritesOf_1 : decode cX8_rewritesOf 1 = .ok (.istore_n 2, 1) := by decide +kernel
theorem dX8_rewritesOf_2 : decode cX8_rewritesOf 2 = .ok (.iconst 0, 1) := by decide +kernel
theorem dX8_rewritesOf_3 : decode cX8_rewritesOf 3 = .ok (.istore_n 3, 1) := by decide +kernel
theorem dX8_rewritesOf_4 : decode cX8_rewritesOf 4 = .ok (.iload_n 3, 1) := by decide +kernel
theorem dX8_rewritesOf_5 : decode cX8_rewritesOf 5 = .ok (.bipush 16, 2) := by decide +kernel
theorem dX8_rewritesOf_7 : decode cX8_rewritesOf 7 = .ok (.if_icmp .ge 48, 3) := by decide +kernel
theorem dX8_rewritesOf_10 : decode cX8_rewritesOf 10 = .ok (.iload_n 2, 1) := by decide +kernel
theorem dX8_rewritesOf_11 : decode cX8_rewritesOf 11 = .ok (.aload_n 0, 1) := by decide +kernel
theorem dX8_rewritesOf_12 : decode cX8_rewritesOf 12 = .ok (.getfield 7, 3) := by decide +kernel
theorem dX8_rewritesOf_15 : decode cX8_rewritesOf 15 = .ok (.iload_n 3, 1) := by decide +kernel
theorem dX8_rewritesOf_16 : decode cX8_rewritesOf 16 = .ok (.invokestatic 49, 3) := by decide +kernel
theorem dX8_rewritesOf_19 : decode cX8_rewritesOf 19 = .ok (.iaload, 1) := by decide +kernel
theorem dX8_rewritesOf_20 : decode cX8_rewritesOf 20 = .ok (.ifCond .lt 26, 3) := by decide +kernel
theorem dX8_rewritesOf_23 : decode cX8_rewritesOf 23 = .ok (.iload_n 1, 1) := by decide +kernel
theorem dX8_rewritesOf_24 : decode cX8_rewritesOf 24 = .ok (.ifCond .lt 18, 3) := by decide +kernel
theorem dX8_rewritesOf_27 : decode cX8_rewritesOf 27 = .ok (.aload_n 0, 1) := by decide +kernel
theorem dX8_rewritesOf_28 : decode cX8_rewritesOf 28 = .ok (.getfield 7, 3) := by decide +kernel
theorem dX8_rewritesOf_31 : decode cX8_rewritesOf 31 = .ok (.iload_n 3, 1) := by decide +kernel
theorem dX8_rewritesOf_32 : decode cX8_rewritesOf 32 = .ok (.invokestatic 49, 3) := by decide +kernel
theorem dX8_rewritesOf_35 : decode cX8_rewritesOf 35 = .ok (.iconst 2, 1) := by decide +kernel
theorem dX8_rewritesOf_36 : decode cX8_rewritesOf 36 = .ok (.iadd, 1) := by decide +kernel
theorem dX8_rewritesOf_37 : decode cX8_rewritesOf 37 = .ok (.iaload, 1) := by decide +kernel
theorem dX8_rewritesOf_38 : decode cX8_rewritesOf 38 = .ok (.iload_n 1, 1) := by decide +kernel
theorem dX8_rewritesOf_39 : decode cX8_rewritesOf 39 = .ok (.if_icmp .ne 7, 3) := by decide +kernel
theorem dX8_rewritesOf_42 : decode cX8_rewritesOf 42 = .ok (.iconst 1, 1) := by decide +kernel
theorem dX8_rewritesOf_43 : decode cX8_rewritesOf 43 = .ok (.goto 4, 3) := by decide +kernel
theorem dX8_rewritesOf_46 : decode cX8_rewritesOf 46 = .ok (.iconst 0, 1) := by decide +kernel
theorem dX8_rewritesOf_47 : decode cX8_rewritesOf 47 = .ok (.iadd, 1) := by decide +kernel
theorem dX8_rewritesOf_48 : decode cX8_rewritesOf 48 = .ok (.istore_n 2, 1) := by decide +kernel
theorem dX8_rewritesOf_49 : decode cX8_rewritesOf 49 = .ok (.iinc 3 1, 3) := by decide +kernel
theorem dX8_rewritesOf_52 : decode cX8_rewritesOf 52 = .ok (.goto (-48), 3) := by decide +kernel
theorem dX8_rewritesOf_55 : decode cX8_rewritesOf 55 = .ok (.iload_n 2, 1) := by decide +kernel
theorem dX8_rewritesOf_56 : decode cX8_rewritesOf 56 = .ok (.ireturn, 1) := by decide +kernel
theorem dX8_votesOf_0 : decode cX8_votesOf 0 = .ok (.iconst 0, 1) := by decide +kernel
theorem dX8_votesOf_1 : decode cX8_votesOf 1 = .ok (.istore_n 2, 1) := by decide +kernel
theorem dX8_votesOf_2 : decode cX8_votesOf 2 = .ok (.iconst 0, 1) := by decide +kernel
theorem dX8_votesOf_3 : decode cX8_votesOf 3 = .ok (.istore_n 3, 1) := by decide +kernel
theorem dX8_votesOf_4 : decode cX8_votesOf 4 = .ok (.iload_n 3, 1) := by decide +kernel
theorem dX8_votesOf_5 : decode cX8_votesOf 5 = .ok (.bipush 24, 2) := by decide +kernel
theorem dX8_votesOf_7 : decode cX8_votesOf 7 = .ok (.if_icmp .ge 34, 3) := by decide +kernel
theorem dX8_votesOf_10 : decode cX8_votesOf 10 = .ok (.iload_n 2, 1) := by decide +kernel
theorem dX8_votesOf_11 : decode cX8_votesOf 11 = .ok (.aload_n 0, 1) := by decide +kernel
theorem dX8_votesOf_12 : decode cX8_votesOf 12 = .ok (.getfield 7, 3) := by decide +kernel
theorem dX8_votesOf_15 : decode cX8_votesOf 15 = .ok (.bipush 32, 2) := by decide +kernel
theorem dX8_votesOf_17 : decode cX8_votesOf 17 = .ok (.bipush 24, 2) := by decide +kernel
theorem dX8_votesOf_19 : decode cX8_votesOf 19 = .ok (.iload_n 1, 1) := by decide +kernel
theorem dX8_votesOf_20 : decode cX8_votesOf 20 = .ok (.imul, 1) := by decide +kernel
theorem dX8_votesOf_21 : decode cX8_votesOf 21 = .ok (.iadd, 1) := by decide +kernel
theorem dX8_votesOf_22 : decode cX8_votesOf 22 = .ok (.iload_n 3, 1) := by decide +kernel
theorem dX8_votesOf_23 : decode cX8_votesOf 23 = .ok (.iadd, 1) := by decide +kernel
theorem dX8_votesOf_24 : decode cX8_votesOf 24 = .ok (.iaload, 1) := by decide +kernel
theorem dX8_votesOf_25 : decode cX8_votesOf 25 = .ok (.ifCond .lt 7, 3) := by decide +kernel
theorem dX8_votesOf_28 : decode cX8_votesOf 28 = .ok (.iconst 1, 1) := by decide +kernel
theorem dX8_votesOf_29 : decode cX8_votesOf 29 = .ok (.goto 4, 3) := by decide +kernel
theorem dX8_votesOf_32 : decode cX8_votesOf 32 = .ok (.iconst 0, 1) := by decide +kernel
theorem dX8_votesOf_33 : decode cX8_votesOf 33 = .ok (.iadd, 1) := by decide +kernel
theorem dX8_votesOf_34 : decode cX8_votesOf 34 = .ok (.istore_n 2, 1) := by decide +kernel
theorem dX8_votesOf_35 : decode cX8_votesOf 35 = .ok (.iinc 3 1, 3) := by decide +kernel
theorem dX8_votesOf_38 : decode cX8_votesOf 38 = .ok (.goto (-34), 3) := by decide +kernel
theorem dX8_votesOf_41 : decode cX8_votesOf 41 = .ok (.iload_n 2, 1) := by decide +kernel
theorem dX8_votesOf_42 : decode cX8_votesOf 42 = .ok (.ireturn, 1) := by decide +kernel
theorem dX8_standing_0 : decode cX8_standing 0 = .ok (.iconst 0, 1) := by decide +kernel
theorem dX8_standing_1 : decode cX8_standing 1 = .ok (.istore_n 2, 1) := by decide +kernel
theorem dX8_standing_2 : decode cX8_standing 2 = .ok (.iconst 0, 1) := by decide +kernel
theorem dX8_standing_3 : decode cX8_standing 3 = .ok (.istore_n 3, 1) := by decide +kernel
theorem dX8_standing_4 : decode cX8_standing 4 = .ok (.iload_n 3, 1) := by decide +kernel
theorem dX8_standing_5 : decode cX8_standing 5 = .ok (.bipush 24, 2) := by decide +kernel
theorem dX8_standing_7 : decode cX8_standing 7 = .ok (.if_icmp .ge 50, 3) := by decide +kernel
theorem dX8_standing_10 : decode cX8_standing 10 = .ok (.sipush 272, 3) := by decide +kernel
theorem dX8_standing_13 : decode cX8_standing 13 = .ok (.bipush 64, 2) := by decide +kernel
theorem dX8_standing_15 : decode cX8_standing 15 = .ok (.iload_n 3, 1) := by decide +kernel
theorem dX8_standing_16 : decode cX8_standing 16 = .ok (.imul, 1) := by decide +kernel
theorem dX8_standing_17 : decode cX8_standing 17 = .ok (.iadd, 1) := by decide +kernel
theorem dX8_standing_18 : decode cX8_standing 18 = .ok (.istore 4, 2) := by decide +kernel
theorem dX8_standing_20 : decode cX8_standing 20 = .ok (.iload_n 2, 1) := by decide +kernel
theorem dX8_standing_21 : decode cX8_standing 21 = .ok (.aload_n 0, 1) := by decide +kernel
theorem dX8_standing_22 : decode cX8_standing 22 = .ok (.getfield 7, 3) := by decide +kernel
theorem dX8_standing_25 : decode cX8_standing 25 = .ok (.iload 4, 2) := by decide +kernel
theorem dX8_standing_27 : decode cX8_standing 27 = .ok (.iaload, 1) := by decide +kernel
theorem dX8_standing_28 : decode cX8_standing 28 = .ok (.ifCond .le 20, 3) := by decide +kernel
theorem dX8_standing_31 : decode cX8_standing 31 = .ok (.aload_n 0, 1) := by decide +kernel
theorem dX8_standing_32 : decode cX8_standing 32 = .ok (.getfield 7, 3) := by decide +kernel
theorem dX8_standing_35 : decode cX8_standing 35 = .ok (.iload 4, 2) := by decide +kernel
theorem dX8_standing_37 : decode cX8_standing 37 = .ok (.iconst 1, 1) := by decide +kernel
theorem dX8_standing_38 : decode cX8_standing 38 = .ok (.iadd, 1) := by decide +kernel
theorem dX8_standing_39 : decode cX8_standing 39 = .ok (.iaload, 1) := by decide +kernel
theorem dX8_standing_40 : decode cX8_standing 40 = .ok (.iload_n 1, 1) := by decide +kernel
theorem dX8_standing_41 : decode cX8_standing 41 = .ok (.if_icmp .ne 7, 3) := by decide +kernel
theorem dX8_standing_44 : decode cX8_standing 44 = .ok (.iconst 1, 1) := by decide +kernel
theorem dX8_standing_45 : decode cX8_standing 45 = .ok (.goto 4, 3) := by decide +kernel
theorem dX8_standing_48 : decode cX8_standing 48 = .ok (.iconst 0, 1) := by decide +kernel
theorem dX8_standing_49 : decode cX8_standing 49 = .ok (.iadd, 1) := by decide +kernel
theorem dX8_standing_50 : decode cX8_standing 50 = .ok (.istore_n 2, 1) := by decide +kernel
theorem dX8_standing_51 : decode cX8_standing 51 = .ok (.iinc 3 1, 3) := by decide +kernel
theorem dX8_standing_54 : decode cX8_standing 54 = .ok (.goto (-50), 3) := by decide +kernel
theorem dX8_standing_57 : decode cX8_standing 57 = .ok (.iload_n 2, 1) := by decide +kernel
theorem dX8_standing_58 : decode cX8_standing 58 = .ok (.ireturn, 1) := by decide +kernel
theorem dX8_visitor_0 : decode cX8_visitor 0 = .ok (.iload_n 1, 1) := by decide +kernel
theorem dX8_visitor_1 : decode cX8_visitor 1 = .ok (.iconst 0, 1) := by decide +kernel
theorem dX8_visitor_2 : decode cX8_visitor 2 = .ok (.bipush 9, 2) := by decide +kernel
theorem dX8_visitor_4 : decode cX8_visitor 4 = .ok (.invokestatic 59, 3) := by decide +kernel
theorem dX8_visitor_7 : decode cX8_visitor 7 = .ok (.ifCond .ne 5, 3) := by decide +kernel
theorem dX8_visitor_10 : decode cX8_visitor 10 = .ok (.iconst (-1), 1) := by decide +kernel
theorem dX8_visitor_11 : decode cX8_visitor 11 = .ok (.ireturn, 1) := by decide +kernel
theorem dX8_visitor_12 : decode cX8_visitor 12 = .ok (.iload_n 2, 1) := by decide +kernel
theorem dX8_visitor_13 : decode cX8_visitor 13 = .ok (.tableswitch 59 0 3 #[31, 37, 47, 53], 31) := by decide +kernel
theorem dX8_visitor_44 : decode cX8_visitor 44 = .ok (.aload_n 0, 1) := by decide +kernel
theorem dX8_visitor_45 : decode cX8_visitor 45 = .ok (.iload_n 1, 1) := by decide +kernel
theorem dX8_visitor_46 : decode cX8_visitor 46 = .ok (.invokevirtual 128, 3) := by decide +kernel
theorem dX8_visitor_49 : decode cX8_visitor 49 = .ok (.ireturn, 1) := by decide +kernel
theorem dX8_visitor_50 : decode cX8_visitor 50 = .ok (.aload_n 0, 1) := by decide +kernel
theorem dX8_visitor_51 : decode cX8_visitor 51 = .ok (.getfield 7, 3) := by decide +kernel
theorem dX8_visitor_54 : decode cX8_visitor 54 = .ok (.bipush 22, 2) := by decide +kernel
theorem dX8_visitor_56 : decode cX8_visitor 56 = .ok (.iload_n 1, 1) := by decide +kernel
theorem dX8_visitor_57 : decode cX8_visitor 57 = .ok (.iadd, 1) := by decide +kernel
theorem dX8_visitor_58 : decode cX8_visitor 58 = .ok (.iaload, 1) := by decide +kernel
theorem dX8_visitor_59 : decode cX8_visitor 59 = .ok (.ireturn, 1) := by decide +kernel
theorem dX8_visitor_60 : decode cX8_visitor 60 = .ok (.aload_n 0, 1) := by decide +kernel
theorem dX8_visitor_61 : decode cX8_visitor 61 = .ok (.iload_n 1, 1) := by decide +kernel
theorem dX8_visitor_62 : decode cX8_visitor 62 = .ok (.invokevirtual 131, 3) := by decide +kernel
theorem dX8_visitor_65 : decode cX8_visitor 65 = .ok (.ireturn, 1) := by decide +kernel
theorem dX8_visitor_66 : decode cX8_visitor 66 = .ok (.aload_n 0, 1) := by decide +kernel
theorem dX8_visitor_67 : decode cX8_visitor 67 = .ok (.iload_n 1, 1) := by decide +kernel
theorem dX8_visitor_68 : decode cX8_visitor 68 = .ok (.invokevirtual 134, 3) := by decide +kernel
theorem dX8_visitor_71 : decode cX8_visitor 71 = .ok (.ireturn, 1) := by decide +kernel
theorem dX8_visitor_72 : decode cX8_visitor 72 = .ok (.bipush (-2), 2) := by decide +kernel
theorem dX8_visitor_74 : decode cX8_visitor 74 = .ok (.ireturn, 1) := by decide +kernel
theorem dX8_hasTold_0 : decode cX8_hasTold 0 = .ok (.iconst 0, 1) := by decide +kernel
theorem dX8_hasTold_1 : decode cX8_hasTold 1 = .ok (.istore_n 2, 1) := by decide +kernel
theorem dX8_hasTold_2 : decode cX8_hasTold 2 = .ok (.iconst 0, 1) := by decide +kernel
theorem dX8_hasTold_3 : decode cX8_hasTold 3 = .ok (.istore_n 3, 1) := by decide +kernel
theorem dX8_hasTold_4 : decode cX8_hasTold 4 = .ok (.iload_n 3, 1) := by decide +kernel
theorem dX8_hasTold_5 : decode cX8_hasTold 5 = .ok (.aload_n 0, 1) := by decide +kernel
theorem dX8_hasTold_6 : decode cX8_hasTold 6 = .ok (.getfield 56, 3) := by decide +kernel
theorem dX8_hasTold_9 : decode cX8_hasTold 9 = .ok (.if_icmp .ge 198, 3) := by decide +kernel
theorem dX8_hasTold_12 : decode cX8_hasTold 12 = .ok (.iload_n 2, 1) := by decide +kernel
theorem dX8_hasTold_13 : decode cX8_hasTold 13 = .ok (.ifCond .ne 194, 3) := by decide +kernel
theorem dX8_hasTold_16 : decode cX8_hasTold 16 = .ok (.iload_n 3, 1) := by decide +kernel
theorem dX8_hasTold_17 : decode cX8_hasTold 17 = .ok (.istore 4, 2) := by decide +kernel
theorem dX8_hasTold_19 : decode cX8_hasTold 19 = .ok (.iload 4, 2) := by decide +kernel
theorem dX8_hasTold_21 : decode cX8_hasTold 21 = .ok (.aload_n 0, 1) := by decide +kernel
theorem dX8_hasTold_22 : decode cX8_hasTold 22 = .ok (.getfield 56, 3) := by decide +kernel
theorem dX8_hasTold_25 : decode cX8_hasTold 25 = .ok (.if_icmp .ge 21, 3) := by decide +kernel
theorem dX8_hasTold_28 : decode cX8_hasTold 28 = .ok (.aload_n 0, 1) := by decide +kernel
theorem dX8_hasTold_29 : decode cX8_hasTold 29 = .ok (.getfield 13, 3) := by decide +kernel
theorem dX8_hasTold_32 : decode cX8_hasTold 32 = .ok (.iload 4, 2) := by decide +kernel
theorem dX8_hasTold_34 : decode cX8_hasTold 34 = .ok (.caload, 1) := by decide +kernel
theorem dX8_hasTold_35 : decode cX8_hasTold 35 = .ok (.bipush 32, 2) := by decide +kernel
theorem dX8_hasTold_37 : decode cX8_hasTold 37 = .ok (.if_icmp .eq 9, 3) := by decide +kernel
theorem dX8_hasTold_40 : decode cX8_hasTold 40 = .ok (.iinc 4 1, 3) := by decide +kernel
theorem dX8_hasTold_43 : decode cX8_hasTold 43 = .ok (.goto (-24), 3) := by decide +kernel
theorem dX8_hasTold_46 : decode cX8_hasTold 46 = .ok (.iconst 0, 1) := by decide +kernel
theorem dX8_hasTold_47 : decode cX8_hasTold 47 = .ok (.istore 5, 2) := by decide +kernel
theorem dX8_hasTold_49 : decode cX8_hasTold 49 = .ok (.iload 5, 2) := by decide +kernel
theorem dX8_hasTold_51 : decode cX8_hasTold 51 = .ok (.iload 4, 2) := by decide +kernel
theorem dX8_hasTold_53 : decode cX8_hasTold 53 = .ok (.iadd, 1) := by decide +kernel
theorem dX8_hasTold_54 : decode cX8_hasTold 54 = .ok (.iload_n 3, 1) := by decide +kernel
theorem dX8_hasTold_55 : decode cX8_hasTold 55 = .ok (.isub, 1) := by decide +kernel
theorem dX8_hasTold_56 : decode cX8_hasTold 56 = .ok (.aload_n 0, 1) := by decide +kernel
theorem dX8_hasTold_57 : decode cX8_hasTold 57 = .ok (.getfield 7, 3) := by decide +kernel
theorem dX8_hasTold_60 : decode cX8_hasTold 60 = .ok (.iload_n 1, 1) := by decide +kernel
theorem dX8_hasTold_61 : decode cX8_hasTold 61 = .ok (.iaload, 1) := by decide +kernel
theorem dX8_hasTold_62 : decode cX8_hasTold 62 = .ok (.if_icmp .gt 137, 3) := by decide +kernel
theorem dX8_hasTold_65 : decode cX8_hasTold 65 = .ok (.iload_n 2, 1) := by decide +kernel
theorem dX8_hasTold_66 : decode cX8_hasTold 66 = .ok (.ifCond .ne 133, 3) := by decide +kernel
theorem dX8_hasTold_69 : decode cX8_hasTold 69 = .ok (.iload 5, 2) := by decide +kernel
theorem dX8_hasTold_71 : decode cX8_hasTold 71 = .ok (.ifCond .eq 19, 3) := by decide +kernel
theorem dX8_hasTold_74 : decode cX8_hasTold 74 = .ok (.aload_n 0, 1) := by decide +kernel
theorem dX8_hasTold_75 : decode cX8_hasTold 75 = .ok (.getfield 7, 3) := by decide +kernel
theorem dX8_hasTold_78 : decode cX8_hasTold 78 = .ok (.iload_n 1, 1) := by decide +kernel
theorem dX8_hasTold_79 : decode cX8_hasTold 79 = .ok (.iconst 3, 1) := by decide +kernel
theorem dX8_hasTold_80 : decode cX8_hasTold 80 = .ok (.iadd, 1) := by decide +kernel
theorem dX8_hasTold_81 : decode cX8_hasTold 81 = .ok (.iload 5, 2) := by decide +kernel
theorem dX8_hasTold_83 : decode cX8_hasTold 83 = .ok (.iadd, 1) := by decide +kernel
theorem dX8_hasTold_84 : decode cX8_hasTold 84 = .ok (.iaload, 1) := by decide +kernel
theorem dX8_hasTold_85 : decode cX8_hasTold 85 = .ok (.bipush 32, 2) := by decide +kernel
theorem dX8_hasTold_87 : decode cX8_hasTold 87 = .ok (.if_icmp .ne 44, 3) := by decide +kernel
theorem dX8_hasTold_90 : decode cX8_hasTold 90 = .ok (.iload 5, 2) := by decide +kernel
theorem dX8_hasTold_92 : decode cX8_hasTold 92 = .ok (.iload 4, 2) := by decide +kernel
theorem dX8_hasTold_94 : decode cX8_hasTold 94 = .ok (.iadd, 1) := by decide +kernel
theorem dX8_hasTold_95 : decode cX8_hasTold 95 = .ok (.iload_n 3, 1) := by decide +kernel
theorem dX8_hasTold_96 : decode cX8_hasTold 96 = .ok (.isub, 1) := by decide +kernel
theorem dX8_hasTold_97 : decode cX8_hasTold 97 = .ok (.aload_n 0, 1) := by decide +kernel
theorem dX8_hasTold_98 : decode cX8_hasTold 98 = .ok (.getfield 7, 3) := by decide +kernel
theorem dX8_hasTold_101 : decode cX8_hasTold 101 = .ok (.iload_n 1, 1) := by decide +kernel
theorem dX8_hasTold_102 : decode cX8_hasTold 102 = .ok (.iaload, 1) := by decide +kernel
theorem dX8_hasTold_103 : decode cX8_hasTold 103 = .ok (.if_icmp .eq 24, 3) := by decide +kernel
theorem dX8_hasTold_106 : decode cX8_hasTold 106 = .ok (.aload_n 0, 1) := by decide +kernel
theorem dX8_hasTold_107 : decode cX8_hasTold 107 = .ok (.getfield 7, 3) := by decide +kernel
theorem dX8_hasTold_110 : decode cX8_hasTold 110 = .ok (.iload_n 1, 1) := by decide +kernel
theorem dX8_hasTold_111 : decode cX8_hasTold 111 = .ok (.iconst 4, 1) := by decide +kernel
theorem dX8_hasTold_112 : decode cX8_hasTold 112 = .ok (.iadd, 1) := by decide +kernel
theorem dX8_hasTold_113 : decode cX8_hasTold 113 = .ok (.iload 5, 2) := by decide +kernel
theorem dX8_hasTold_115 : decode cX8_hasTold 115 = .ok (.iadd, 1) := by decide +kernel
theorem dX8_hasTold_116 : decode cX8_hasTold 116 = .ok (.iload 4, 2) := by decide +kernel
theorem dX8_hasTold_118 : decode cX8_hasTold 118 = .ok (.iadd, 1) := by decide +kernel
theorem dX8_hasTold_119 : decode cX8_hasTold 119 = .ok (.iload_n 3, 1) := by decide +kernel
theorem dX8_hasTold_120 : decode cX8_hasTold 120 = .ok (.isub, 1) := by decide +kernel
theorem dX8_hasTold_121 : decode cX8_hasTold 121 = .ok (.iaload, 1) := by decide +kernel
theorem dX8_hasTold_122 : decode cX8_hasTold 122 = .ok (.bipush 32, 2) := by decide +kernel
theorem dX8_hasTold_124 : decode cX8_hasTold 124 = .ok (.if_icmp .ne 7, 3) := by decide +kernel
theorem dX8_hasTold_127 : decode cX8_hasTold 127 = .ok (.iconst 1, 1) := by decide +kernel
theorem dX8_hasTold_128 : decode cX8_hasTold 128 = .ok (.goto 4, 3) := by decide +kernel
theorem dX8_hasTold_131 : decode cX8_hasTold 131 = .ok (.iconst 0, 1) := by decide +kernel
theorem dX8_hasTold_132 : decode cX8_hasTold 132 = .ok (.istore 6, 2) := by decide +kernel
theorem dX8_hasTold_134 : decode cX8_hasTold 134 = .ok (.iconst 0, 1) := by decide +kernel
theorem dX8_hasTold_135 : decode cX8_hasTold 135 = .ok (.istore 7, 2) := by decide +kernel
theorem dX8_hasTold_137 : decode cX8_hasTold 137 = .ok (.iload 7, 2) := by decide +kernel
theorem dX8_hasTold_139 : decode cX8_hasTold 139 = .ok (.iload 4, 2) := by decide +kernel
theorem dX8_hasTold_141 : decode cX8_hasTold 141 = .ok (.iload_n 3, 1) := by decide +kernel
theorem dX8_hasTold_142 : decode cX8_hasTold 142 = .ok (.isub, 1) := by decide +kernel
theorem dX8_hasTold_143 : decode cX8_hasTold 143 = .ok (.if_icmp .ge 47, 3) := by decide +kernel
theorem dX8_hasTold_146 : decode cX8_hasTold 146 = .ok (.iload 6, 2) := by decide +kernel
theorem dX8_hasTold_148 : decode cX8_hasTold 148 = .ok (.ifCond .eq 42, 3) := by decide +kernel
theorem dX8_hasTold_151 : decode cX8_hasTold 151 = .ok (.aload_n 0, 1) := by decide +kernel
theorem dX8_hasTold_152 : decode cX8_hasTold 152 = .ok (.getfield 7, 3) := by decide +kernel
theorem dX8_hasTold_155 : decode cX8_hasTold 155 = .ok (.iload_n 1, 1) := by decide +kernel
theorem dX8_hasTold_156 : decode cX8_hasTold 156 = .ok (.iconst 4, 1) := by decide +kernel
theorem dX8_hasTold_157 : decode cX8_hasTold 157 = .ok (.iadd, 1) := by decide +kernel
theorem dX8_hasTold_158 : decode cX8_hasTold 158 = .ok (.iload 5, 2) := by decide +kernel
theorem dX8_hasTold_160 : decode cX8_hasTold 160 = .ok (.iadd, 1) := by decide +kernel
theorem dX8_hasTold_161 : decode cX8_hasTold 161 = .ok (.iload 7, 2) := by decide +kernel
theorem dX8_hasTold_163 : decode cX8_hasTold 163 = .ok (.iadd, 1) := by decide +kernel
theorem dX8_hasTold_164 : decode cX8_hasTold 164 = .ok (.iaload, 1) := by decide +kernel
theorem dX8_hasTold_165 : decode cX8_hasTold 165 = .ok (.aload_n 0, 1) := by decide +kernel
theorem dX8_hasTold_166 : decode cX8_hasTold 166 = .ok (.getfield 13, 3) := by decide +kernel
theorem dX8_hasTold_169 : decode cX8_hasTold 169 = .ok (.iload_n 3, 1) := by decide +kernel
theorem dX8_hasTold_170 : decode cX8_hasTold 170 = .ok (.iload 7, 2) := by decide +kernel
theorem dX8_hasTold_172 : decode cX8_hasTold 172 = .ok (.iadd, 1) := by decide +kernel
theorem dX8_hasTold_173 : decode cX8_hasTold 173 = .ok (.caload, 1) := by decide +kernel
theorem dX8_hasTold_174 : decode cX8_hasTold 174 = .ok (.if_icmp .ne 7, 3) := by decide +kernel
theorem dX8_hasTold_177 : decode cX8_hasTold 177 = .ok (.iconst 1, 1) := by decide +kernel
theorem dX8_hasTold_178 : decode cX8_hasTold 178 = .ok (.goto 4, 3) := by decide +kernel
theorem dX8_hasTold_181 : decode cX8_hasTold 181 = .ok (.iconst 0, 1) := by decide +kernel
theorem dX8_hasTold_182 : decode cX8_hasTold 182 = .ok (.istore 6, 2) := by decide +kernel
theorem dX8_hasTold_184 : decode cX8_hasTold 184 = .ok (.iinc 7 1, 3) := by decide +kernel
theorem dX8_hasTold_187 : decode cX8_hasTold 187 = .ok (.goto (-50), 3) := by decide +kernel
theorem dX8_hasTold_190 : decode cX8_hasTold 190 = .ok (.iload 6, 2) := by decide +kernel
theorem dX8_hasTold_192 : decode cX8_hasTold 192 = .ok (.istore_n 2, 1) := by decide +kernel
theorem dX8_hasTold_193 : decode cX8_hasTold 193 = .ok (.iinc 5 1, 3) := by decide +kernel
theorem dX8_hasTold_196 : decode cX8_hasTold 196 = .ok (.goto (-147), 3) := by decide +kernel
theorem dX8_hasTold_199 : decode cX8_hasTold 199 = .ok (.iload 4, 2) := by decide +kernel
theorem dX8_hasTold_201 : decode cX8_hasTold 201 = .ok (.iconst 1, 1) := by decide +kernel
theorem dX8_hasTold_202 : decode cX8_hasTold 202 = .ok (.iadd, 1) := by decide +kernel
theorem dX8_hasTold_203 : decode cX8_hasTold 203 = .ok (.istore_n 3, 1) := by decide +kernel
theorem dX8_hasTold_204 : decode cX8_hasTold 204 = .ok (.goto (-200), 3) := by decide +kernel
theorem dX8_hasTold_207 : decode cX8_hasTold 207 = .ok (.iload_n 2, 1) := by decide +kernel
theorem dX8_hasTold_208 : decode cX8_hasTold 208 = .ok (.ireturn, 1) := by decide +kernel
theorem dX8_labelsWith_0 : decode cX8_labelsWith 0 = .ok (.iload_n 1, 1) := by decide +kernel
theorem dX8_labelsWith_1 : decode cX8_labelsWith 1 = .ok (.iconst 0, 1) := by decide +kernel
theorem dX8_labelsWith_2 : decode cX8_labelsWith 2 = .ok (.iconst 2, 1) := by decide +kernel
theorem dX8_labelsWith_3 : decode cX8_labelsWith 3 = .ok (.invokestatic 59, 3) := by decide +kernel
theorem dX8_labelsWith_6 : decode cX8_labelsWith 6 = .ok (.ifCond .ne 5, 3) := by decide +kernel
theorem dX8_labelsWith_9 : decode cX8_labelsWith 9 = .ok (.iconst (-1), 1) := by decide +kernel
theorem dX8_labelsWith_10 : decode cX8_labelsWith 10 = .ok (.ireturn, 1) := by decide +kernel
theorem dX8_labelsWith_11 : decode cX8_labelsWith 11 = .ok (.aload_n 0, 1) := by decide +kernel
theorem dX8_labelsWith_12 : decode cX8_labelsWith 12 = .ok (.invokevirtual 78, 3) := by decide +kernel
theorem dX8_labelsWith_15 : decode cX8_labelsWith 15 = .ok (.ifCond .lt 11, 3) := by decide +kernel
theorem dX8_labelsWith_18 : decode cX8_labelsWith 18 = .ok (.bipush (-100), 2) := by decide +kernel
theorem dX8_labelsWith_20 : decode cX8_labelsWith 20 = .ok (.aload_n 0, 1) := by decide +kernel
theorem dX8_labelsWith_21 : decode cX8_labelsWith 21 = .ok (.invokevirtual 78, 3) := by decide +kernel
theorem dX8_labelsWith_24 : decode cX8_labelsWith 24 = .ok (.isub, 1) := by decide +kernel
theorem dX8_labelsWith_25 : decode cX8_labelsWith 25 = .ok (.ireturn, 1) := by decide +kernel
theorem dX8_labelsWith_26 : decode cX8_labelsWith 26 = .ok (.iconst 0, 1) := by decide +kernel
theorem dX8_labelsWith_27 : decode cX8_labelsWith 27 = .ok (.istore_n 2, 1) := by decide +kernel
theorem dX8_labelsWith_28 : decode cX8_labelsWith 28 = .ok (.iconst 0, 1) := by decide +kernel
theorem dX8_labelsWith_29 : decode cX8_labelsWith 29 = .ok (.istore_n 3, 1) := by decide +kernel
theorem dX8_labelsWith_30 : decode cX8_labelsWith 30 = .ok (.iload_n 3, 1) := by decide +kernel
theorem dX8_labelsWith_31 : decode cX8_labelsWith 31 = .ok (.bipush 8, 2) := by decide +kernel
theorem dX8_labelsWith_33 : decode cX8_labelsWith 33 = .ok (.if_icmp .ge 29, 3) := by decide +kernel
theorem dX8_labelsWith_36 : decode cX8_labelsWith 36 = .ok (.iload_n 2, 1) := by decide +kernel
theorem dX8_labelsWith_37 : decode cX8_labelsWith 37 = .ok (.aload_n 0, 1) := by decide +kernel
theorem dX8_labelsWith_38 : decode cX8_labelsWith 38 = .ok (.iload_n 3, 1) := by decide +kernel
theorem dX8_labelsWith_39 : decode cX8_labelsWith 39 = .ok (.iload_n 1, 1) := by decide +kernel
theorem dX8_labelsWith_40 : decode cX8_labelsWith 40 = .ok (.invokestatic 28, 3) := by decide +kernel
theorem dX8_labelsWith_43 : decode cX8_labelsWith 43 = .ok (.invokevirtual 137, 3) := by decide +kernel
theorem dX8_labelsWith_46 : decode cX8_labelsWith 46 = .ok (.ifCond .eq 7, 3) := by decide +kernel
theorem dX8_labelsWith_49 : decode cX8_labelsWith 49 = .ok (.iconst 1, 1) := by decide +kernel
theorem dX8_labelsWith_50 : decode cX8_labelsWith 50 = .ok (.goto 4, 3) := by decide +kernel
theorem dX8_labelsWith_53 : decode cX8_labelsWith 53 = .ok (.iconst 0, 1) := by decide +kernel
theorem dX8_labelsWith_54 : decode cX8_labelsWith 54 = .ok (.iadd, 1) := by decide +kernel
theorem dX8_labelsWith_55 : decode cX8_labelsWith 55 = .ok (.istore_n 2, 1) := by decide +kernel
theorem dX8_labelsWith_56 : decode cX8_labelsWith 56 = .ok (.iinc 3 1, 3) := by decide +kernel
theorem dX8_labelsWith_59 : decode cX8_labelsWith 59 = .ok (.goto (-29), 3) := by decide +kernel
theorem dX8_labelsWith_62 : decode cX8_labelsWith 62 = .ok (.iload_n 2, 1) := by decide +kernel
theorem dX8_labelsWith_63 : decode cX8_labelsWith 63 = .ok (.ireturn, 1) := by decide +kernel
theorem dX8_count_0 : decode cX8_count 0 = .ok (.iload_n 1, 1) := by decide +kernel
theorem dX8_count_1 : decode cX8_count 1 = .ok (.tableswitch 165 0 11 #[63, 68, 74, 82, 87, 95, 103, 131, 139, 147, 155, 160], 63) := by decide +kernel
theorem dX8_count_64 : decode cX8_count 64 = .ok (.aload_n 0, 1) := by decide +kernel
theorem dX8_count_65 : decode cX8_count 65 = .ok (.invokevirtual 111, 3) := by decide +kernel
theorem dX8_count_68 : decode cX8_count 68 = .ok (.ireturn, 1) := by decide +kernel
theorem dX8_count_69 : decode cX8_count 69 = .ok (.aload_n 0, 1) := by decide +kernel
theorem dX8_count_70 : decode cX8_count 70 = .ok (.iconst (-1), 1) := by decide +kernel
theorem dX8_count_71 : decode cX8_count 71 = .ok (.invokevirtual 128, 3) := by decide +kernel
theorem dX8_count_74 : decode cX8_count 74 = .ok (.ireturn, 1) := by decide +kernel
theorem dX8_count_75 : decode cX8_count 75 = .ok (.aload_n 0, 1) := by decide +kernel
theorem dX8_count_76 : decode cX8_count 76 = .ok (.getfield 7, 3) := by decide +kernel
theorem dX8_count_79 : decode cX8_count 79 = .ok (.bipush 18, 2) := by decide +kernel
theorem dX8_count_81 : decode cX8_count 81 = .ok (.iaload, 1) := by decide +kernel
theorem dX8_count_82 : decode cX8_count 82 = .ok (.ireturn, 1) := by decide +kernel
theorem dX8_count_83 : decode cX8_count 83 = .ok (.aload_n 0, 1) := by decide +kernel
theorem dX8_count_84 : decode cX8_count 84 = .ok (.invokevirtual 141, 3) := by decide +kernel
theorem dX8_count_87 : decode cX8_count 87 = .ok (.ireturn, 1) := by decide +kernel
theorem dX8_count_88 : decode cX8_count 88 = .ok (.aload_n 0, 1) := by decide +kernel
theorem dX8_count_89 : decode cX8_count 89 = .ok (.getfield 7, 3) := by decide +kernel
theorem dX8_count_92 : decode cX8_count 92 = .ok (.bipush 17, 2) := by decide +kernel
theorem dX8_count_94 : decode cX8_count 94 = .ok (.iaload, 1) := by decide +kernel
theorem dX8_count_95 : decode cX8_count 95 = .ok (.ireturn, 1) := by decide +kernel
theorem dX8_count_96 : decode cX8_count 96 = .ok (.aload_n 0, 1) := by decide +kernel
theorem dX8_count_97 : decode cX8_count 97 = .ok (.getfield 7, 3) := by decide +kernel
theorem dX8_count_100 : decode cX8_count 100 = .ok (.bipush 16, 2) := by decide +kernel
theorem dX8_count_102 : decode cX8_count 102 = .ok (.iaload, 1) := by decide +kernel
theorem dX8_count_103 : decode cX8_count 103 = .ok (.ireturn, 1) := by decide +kernel
theorem dX8_count_104 : decode cX8_count 104 = .ok (.aload_n 0, 1) := by decide +kernel
theorem dX8_count_105 : decode cX8_count 105 = .ok (.iconst 0, 1) := by decide +kernel
theorem dX8_count_106 : decode cX8_count 106 = .ok (.iconst 1, 1) := by decide +kernel
theorem dX8_count_107 : decode cX8_count 107 = .ok (.invokevirtual 125, 3) := by decide +kernel
theorem dX8_count_110 : decode cX8_count 110 = .ok (.aload_n 0, 1) := by decide +kernel
theorem dX8_count_111 : decode cX8_count 111 = .ok (.iconst 1, 1) := by decide +kernel
theorem dX8_count_112 : decode cX8_count 112 = .ok (.iconst 1, 1) := by decide +kernel
theorem dX8_count_113 : decode cX8_count 113 = .ok (.invokevirtual 125, 3) := by decide +kernel
theorem dX8_count_116 : decode cX8_count 116 = .ok (.iadd, 1) := by decide +kernel
theorem dX8_count_117 : decode cX8_count 117 = .ok (.aload_n 0, 1) := by decide +kernel
theorem dX8_count_118 : decode cX8_count 118 = .ok (.iconst 2, 1) := by decide +kernel
theorem dX8_count_119 : decode cX8_count 119 = .ok (.iconst 1, 1) := by decide +kernel
theorem dX8_count_120 : decode cX8_count 120 = .ok (.invokevirtual 125, 3) := by decide +kernel
theorem dX8_count_123 : decode cX8_count 123 = .ok (.iadd, 1) := by decide +kernel
theorem dX8_count_124 : decode cX8_count 124 = .ok (.aload_n 0, 1) := by decide +kernel
theorem dX8_count_125 : decode cX8_count 125 = .ok (.iconst 3, 1) := by decide +kernel
theorem dX8_count_126 : decode cX8_count 126 = .ok (.iconst 1, 1) := by decide +kernel
theorem dX8_count_127 : decode cX8_count 127 = .ok (.invokevirtual 125, 3) := by decide +kernel
theorem dX8_count_130 : decode cX8_count 130 = .ok (.iadd, 1) := by decide +kernel
theorem dX8_count_131 : decode cX8_count 131 = .ok (.ireturn, 1) := by decide +kernel
theorem dX8_count_132 : decode cX8_count 132 = .ok (.aload_n 0, 1) := by decide +kernel
theorem dX8_count_133 : decode cX8_count 133 = .ok (.getfield 7, 3) := by decide +kernel
theorem dX8_count_136 : decode cX8_count 136 = .ok (.bipush 19, 2) := by decide +kernel
theorem dX8_count_138 : decode cX8_count 138 = .ok (.iaload, 1) := by decide +kernel
theorem dX8_count_139 : decode cX8_count 139 = .ok (.ireturn, 1) := by decide +kernel
theorem dX8_count_140 : decode cX8_count 140 = .ok (.aload_n 0, 1) := by decide +kernel
theorem dX8_count_141 : decode cX8_count 141 = .ok (.getfield 7, 3) := by decide +kernel
theorem dX8_count_144 : decode cX8_count 144 = .ok (.bipush 20, 2) := by decide +kernel
theorem dX8_count_146 : decode cX8_count 146 = .ok (.iaload, 1) := by decide +kernel
theorem dX8_count_147 : decode cX8_count 147 = .ok (.ireturn, 1) := by decide +kernel
theorem dX8_count_148 : decode cX8_count 148 = .ok (.aload_n 0, 1) := by decide +kernel
theorem dX8_count_149 : decode cX8_count 149 = .ok (.getfield 7, 3) := by decide +kernel
theorem dX8_count_152 : decode cX8_count 152 = .ok (.bipush 21, 2) := by decide +kernel
theorem dX8_count_154 : decode cX8_count 154 = .ok (.iaload, 1) := by decide +kernel
theorem dX8_count_155 : decode cX8_count 155 = .ok (.ireturn, 1) := by decide +kernel
theorem dX8_count_156 : decode cX8_count 156 = .ok (.aload_n 0, 1) := by decide +kernel
theorem dX8_count_157 : decode cX8_count 157 = .ok (.getfield 20, 3) := by decide +kernel
theorem dX8_count_160 : decode cX8_count 160 = .ok (.ireturn, 1) := by decide +kernel
theorem dX8_count_161 : decode cX8_count 161 = .ok (.aload_n 0, 1) := by decide +kernel
theorem dX8_count_162 : decode cX8_count 162 = .ok (.getfield 56, 3) := by decide +kernel
theorem dX8_count_165 : decode cX8_count 165 = .ok (.ireturn, 1) := by decide +kernel
theorem dX8_count_166 : decode cX8_count 166 = .ok (.bipush (-2), 2) := by decide +kernel
theorem dX8_count_168 : decode cX8_count 168 = .ok (.ireturn, 1) := by decide +kernel
theorem dX8_allVotes_0 : decode cX8_allVotes 0 = .ok (.iconst 0, 1) := by decide +kernel
theorem dX8_allVotes_1 : decode cX8_allVotes 1 = .ok (.istore_n 1, 1) := by decide +kernel
theorem dX8_allVotes_2 : decode cX8_allVotes 2 = .ok (.iconst 0, 1) := by decide +kernel
theorem dX8_allVotes_3 : decode cX8_allVotes 3 = .ok (.istore_n 2, 1) := by decide +kernel
theorem dX8_allVotes_4 : decode cX8_allVotes 4 = .ok (.iload_n 2, 1) := by decide +kernel
theorem dX8_allVotes_5 : decode cX8_allVotes 5 = .ok (.bipush 10, 2) := by decide +kernel
theorem dX8_allVotes_7 : decode cX8_allVotes 7 = .ok (.if_icmp .ge 17, 3) := by decide +kernel
theorem dX8_allVotes_10 : decode cX8_allVotes 10 = .ok (.iload_n 1, 1) := by decide +kernel
theorem dX8_allVotes_11 : decode cX8_allVotes 11 = .ok (.aload_n 0, 1) := by decide +kernel
theorem dX8_allVotes_12 : decode cX8_allVotes 12 = .ok (.iload_n 2, 1) := by decide +kernel
theorem dX8_allVotes_13 : decode cX8_allVotes 13 = .ok (.invokevirtual 131, 3) := by decide +kernel
theorem dX8_allVotes_16 : decode cX8_allVotes 16 = .ok (.iadd, 1) := by decide +kernel
theorem dX8_allVotes_17 : decode cX8_allVotes 17 = .ok (.istore_n 1, 1) := by decide +kernel
theorem dX8_allVotes_18 : decode cX8_allVotes 18 = .ok (.iinc 2 1, 3) := by decide +kernel
theorem dX8_allVotes_21 : decode cX8_allVotes 21 = .ok (.goto (-17), 3) := by decide +kernel
theorem dX8_allVotes_24 : decode cX8_allVotes 24 = .ok (.iload_n 1, 1) := by decide +kernel
theorem dX8_allVotes_25 : decode cX8_allVotes 25 = .ok (.ireturn, 1) := by decide +kernel
end
section
/-! ===== counts, first places ===== -/
def cnt (p : Nat → Bool) : Nat → Nat
  | 0 => 0
  | n + 1 => cnt p n + (if p n = true then 1 else 0)
def fst (p : Nat → Bool) : Nat → Nat
  | 0 => 0
  | n + 1 => if fst p n < n then fst p n else if p n = true then n else n + 1
theorem cnt_le (p : Nat → Bool) : ∀ n, cnt p n ≤ n
  | 0 => Nat.le_refl 0
  | n + 1 => by
    have := cnt_le p n
    simp only [cnt]
    split <;> omega
theorem cnt_mono (p : Nat → Bool) {a b : Nat} (h : a ≤ b) : cnt p a ≤ cnt p b := by
  induction b with
  | zero => rw [Nat.le_zero.mp h]; exact Nat.le_refl _
  | succ b ih =>
    by_cases e : a = b + 1
    · rw [e]; exact Nat.le_refl _
    · have := ih (by omega)
      simp only [cnt]
      omega
theorem cnt_congr {p q : Nat → Bool} : ∀ {n : Nat}, (∀ k, k < n → p k = q k) → cnt p n = cnt q n
  | 0, _ => rfl
  | n + 1, h => by
    simp only [cnt]
    rw [cnt_congr (fun k hk => h k (by omega)), h n (by omega)]
theorem fst_le (p : Nat → Bool) : ∀ n, fst p n ≤ n
  | 0 => Nat.le_refl 0
  | n + 1 => by
    simp only [fst]
    have := fst_le p n
    split
    · omega
    · split <;> omega
theorem fst_no (p : Nat → Bool) : ∀ n k, k < fst p n → p k = false
  | 0, k, h => by simp [fst] at h
  | n + 1, k, h => by
    simp only [fst] at h
    have h1 := fst_le p n
    split at h
    · exact fst_no p n k h
    · split at h
      · by_cases e : k < fst p n
        · exact fst_no p n k e
        · omega
      · rename_i h2 h3
        by_cases e : k < fst p n
        · exact fst_no p n k e
        · have : k = n := by omega
          subst this
          simpa using h3
theorem fst_yes (p : Nat → Bool) : ∀ n, fst p n < n → p (fst p n) = true
  | 0, h => by simp [fst] at h
  | n + 1, h => by
    by_cases h1 : fst p n < n
    · have e : fst p (n + 1) = fst p n := by simp [fst, h1]
      rw [e]
      exact fst_yes p n h1
    · by_cases h2 : p n = true
      · have e : fst p (n + 1) = n := by simp [fst, h1, h2]
        rw [e]
        exact h2
      · have e : fst p (n + 1) = n + 1 := by simp [fst, h1, h2]
        omega
theorem fst_eq {p : Nat → Bool} {n k : Nat} (hk : k < n) (h1 : p k = true) (h2 : ∀ j, j < k → p j = false) : fst p n = k := by
  rcases Nat.lt_trichotomy (fst p n) k with h | h | h
  · have := fst_yes p n (by omega)
    rw [h2 _ h] at this
    cases this
  · exact h
  · have := fst_no p n k h
    rw [h1] at this
    cases this
theorem fst_none {p : Nat → Bool} {n : Nat} (h : ∀ j, j < n → p j = false) : fst p n = n := by
  by_cases e : fst p n < n
  · have := fst_yes p n e
    rw [h _ e] at this
    cases this
  · have := fst_le p n; omega
/-- words of a row of n characters f; where a word begins -/
def bl (f : Nat → Int32) : Nat → Bool := fun k => f k == nI 32
def nw (f : Nat → Int32) (n : Nat) : Nat := (if 0 < n then 1 else 0) + cnt (bl f) n
def beg (f : Nat → Int32) (n j : Nat) : Nat := fst (fun k => cnt (bl f) k == j) (n + 1)
/-- the end of the word that begins at b: the first blank from b on, or n -/
def enn (f : Nat → Int32) (n b : Nat) : Nat := b + fst (fun k => bl f (b + k)) (n - b)
abbrev nt (x : Int32) : Nat := x.toNatClampNeg
def ub (x : Int32) (b : Nat) : Prop := x = nI (nt x) ∧ nt x < b
theorem nt_nI {n : Nat} (h : n < 2147483648) : nt (nI n) = n := nI_clamp (by omega)
theorem ub_nI {n b : Nat} (h : n < b) (hb : b ≤ 2147483648) : ub (nI n) b := ⟨by rw [nt_nI (by omega)], by rw [nt_nI (by omega)]; exact h⟩
def sft (f : Nat → Int32) (a : Nat) : Nat → Int32 := fun k => f (a + k)
theorem nI_inj {a b : Nat} (ha : a < 2147483648) (hb : b < 2147483648) (h : nI a = nI b) : a = b := (nI_eqN ha hb).mp h
theorem nI_ne_neg {a : Nat} (ha : a < 2147483648) : nI a ≠ -1 := by
  intro h
  have h1 := nI_toInt (n := a) (by omega)
  rw [h] at h1
  have : (-1 : Int32).toInt = -1 := by decide
  omega
theorem nI_0le {a : Nat} (ha : a < 2147483648) : (0 : Int32) ≤ nI a := nI_pos' (by omega)
theorem nI_nlt0 {a : Nat} (ha : a < 2147483648) : ¬ nI a < (0 : Int32) := nI_pos (by omega)
theorem cnt_reach (p : Nat → Bool) : ∀ n j, j ≤ cnt p n → ∃ k, k ≤ n ∧ cnt p k = j
  | 0, j, h => ⟨0, Nat.le_refl 0, by simp [cnt] at *; omega⟩
  | n + 1, j, h => by
    by_cases e : j ≤ cnt p n
    · obtain ⟨k, h1, h2⟩ := cnt_reach p n j e
      exact ⟨k, by omega, h2⟩
    · refine ⟨n + 1, Nat.le_refl _, ?_⟩
      by_cases e2 : p n = true
      · simp only [cnt, e2, if_true] at h ⊢
        omega
      · simp only [cnt, e2] at h ⊢
        simp at h ⊢
        omega
theorem beg_spec {f : Nat → Int32} {n j : Nat} (h : j ≤ cnt (bl f) n) : beg f n j ≤ n ∧ cnt (bl f) (beg f n j) = j ∧ ∀ k, k < beg f n j → cnt (bl f) k < j := by
  obtain ⟨k, h1, h2⟩ := cnt_reach (bl f) n j h
  have hlt : beg f n j < n + 1 := by
    by_cases e : beg f n j < n + 1
    · exact e
    · have := fst_no (fun k => cnt (bl f) k == j) (n + 1) k (by show k < beg f n j; omega)
      simp [h2] at this
  have hy : cnt (bl f) (beg f n j) = j := by
    have this : (cnt (bl f) (beg f n j) == j) = true := fst_yes (fun k => cnt (bl f) k == j) (n + 1) hlt
    simpa using this
  refine ⟨by omega, hy, fun i hi => ?_⟩
  have h3 := fst_no (fun k => cnt (bl f) k == j) (n + 1) i hi
  have h4 : cnt (bl f) i ≤ cnt (bl f) (beg f n j) := cnt_mono _ (by omega)
  have h5 : cnt (bl f) i ≠ j := by simpa using h3
  omega
theorem enn_le {f : Nat → Int32} {n b : Nat} (h : b ≤ n) : b ≤ enn f n b ∧ enn f n b ≤ n := by
  have := fst_le (fun k => bl f (b + k)) (n - b)
  unfold enn
  omega
/-- whether all of the first n -/
def al (p : Nat → Bool) : Nat → Bool
  | 0 => true
  | n + 1 => al p n && p n
theorem al_iff (p : Nat → Bool) : ∀ n, al p n = true ↔ ∀ k, k < n → p k = true
  | 0 => by simp [al]
  | n + 1 => by
    simp only [al, Bool.and_eq_true, al_iff p n]
    constructor
    · rintro ⟨h1, h2⟩ k hk
      by_cases e : k = n
      · rw [e]; exact h2
      · exact h1 k (by omega)
    · intro h
      exact ⟨fun k hk => h k (by omega), h n (by omega)⟩
theorem al_mono {p : Nat → Bool} {a b : Nat} (h : a ≤ b) (hf : al p a = false) : al p b = false := by
  by_cases e : al p b = true
  · have := (al_iff p a).mpr (fun k hk => (al_iff p b).mp e k (by omega))
    rw [hf] at this
    cases this
  · simpa using e
/-- the word that begins at a in f, up to ae, is the one that begins at b in g, up to be -/
def weq (f g : Nat → Int32) (a ae b be : Nat) : Bool := (ae - a == be - b) && al (fun k => f (a + k) == g (b + k)) (ae - a)
/-- word i of f, n is word j of g, m -/
def same (f : Nat → Int32) (n i : Nat) (g : Nat → Int32) (m j : Nat) : Bool := weq f g (beg f n i) (enn f n (beg f n i)) (beg g m j) (enn g m (beg g m j))
/-- the last place of n that has p, as a number, or -1 -/
def lst (p : Nat → Bool) : Nat → Int32
  | 0 => -1
  | n + 1 => if p n = true then nI n else lst p n
def b2i (b : Bool) : Int32 := if b = true then nI 1 else nI 0
theorem wu_wu (w : Wd) (a : Nat) (x y : Cl) : wu (wu w a x) a y = wu w a y := by
  funext q
  simp only [wu]
  split <;> rfl
theorem wu_self {w : Wd} {a : Nat} {x : Cl} (h : w a = some x) : wu w a x = w := by
  funext q
  simp only [wu]
  split
  · rename_i e; rw [e, h]
  · rfl
theorem wu_comm (w : Wd) {a b : Nat} (x y : Cl) (h : a ≠ b) : wu (wu w a x) b y = wu (wu w b y) a x := by
  funext q
  simp only [wu]
  split
  · rename_i e
    rw [if_neg (by omega)]
  · rfl
/-- the reference's object: at o; its numbers s, its text, its table behind it -/
def MW (w : Wd) (o ns tn : Nat) (kp : Int32) (σ tx cm : Nat → Int32) : Prop := w o = some (ob 8 [.ref (o + 1), .int (nI ns), .int kp, .ref (o + 2), .int (nI tn), .ref (o + 3)]) ∧ w (o + 1) = some (ia 1 17088 σ) ∧ w (o + 2) = some (ia 0 60 tx) ∧ w (o + 3) = some (ia 1 961 cm)
theorem MW.st {w : Wd} {o ns tn : Nat} {kp : Int32} {σ tx cm : Nat → Int32} (h : MW w o ns tn kp σ tx cm) (σ' : Nat → Int32) : MW (wu w (o + 1) (ia 1 17088 σ')) o ns tn kp σ' tx cm :=
  ⟨(wu_ne w _ (by omega)).trans h.1, wu_eq w _ _, (wu_ne w _ (by omega)).trans h.2.2.1, (wu_ne w _ (by omega)).trans h.2.2.2⟩
theorem MW.self {w : Wd} {o ns tn : Nat} {kp : Int32} {σ tx cm : Nat → Int32} (h : MW w o ns tn kp σ tx cm) : wu w (o + 1) (ia 1 17088 σ) = w := wu_self h.2.1
end
section
theorem z0 {x : Nat} (hx : x < 2147483648) : nI x = 0 ↔ x = 0 := nI_eqN (b := 0) hx (by omega)
theorem zl {x : Nat} (hx : x < 2147483648) : (0 : Int32) < nI x ↔ 0 < x := nI_ltN (a := 0) (by omega) hx
theorem zg {x : Nat} (hx : x < 2147483648) : nI x ≤ (0 : Int32) ↔ x = 0 := by
  have := nI_leN (b := 0) hx (by omega)
  exact this.trans (by omega)
section VN3
variable {mi : MI} {d mc ms : Nat} {Po : Option Value → Wd → Nat → Prop} {w : Wd} {sz cells slots : Nat} {L : List (Option Value)} {stk : List Value} {pc a : Nat}
theorem v_if_eqN {x : Nat} {off : Int} {tgt : Nat} (hd : decode mi.2.1 pc = .ok (.ifCond .eq off, 3)) (ht : (pc : Int) + off = (tgt : Int)) (hx : x < 2147483648) (kt : x = 0 → V mi d mc ms Po w sz cells slots L stk (tgt)) (kf : ¬ x = 0 → V mi d mc ms Po w sz cells slots L stk (pc + 3)) : V mi d mc ms Po w sz cells slots L (.int (nI x) :: stk) pc := v_if_eq hd ht (fun z => kt ((z0 hx).mp z)) (fun z => kf (fun u => z ((z0 hx).mpr u)))
theorem v_if_neN {x : Nat} {off : Int} {tgt : Nat} (hd : decode mi.2.1 pc = .ok (.ifCond .ne off, 3)) (ht : (pc : Int) + off = (tgt : Int)) (hx : x < 2147483648) (kt : ¬ x = 0 → V mi d mc ms Po w sz cells slots L stk (tgt)) (kf : x = 0 → V mi d mc ms Po w sz cells slots L stk (pc + 3)) : V mi d mc ms Po w sz cells slots L (.int (nI x) :: stk) pc := v_if_ne hd ht (fun z => kt (fun u => z ((z0 hx).mpr u))) (fun z => kf ((z0 hx).mp z))
theorem v_if_gtN {x : Nat} {off : Int} {tgt : Nat} (hd : decode mi.2.1 pc = .ok (.ifCond .gt off, 3)) (ht : (pc : Int) + off = (tgt : Int)) (hx : x < 2147483648) (kt : 0 < x → V mi d mc ms Po w sz cells slots L stk (tgt)) (kf : x = 0 → V mi d mc ms Po w sz cells slots L stk (pc + 3)) : V mi d mc ms Po w sz cells slots L (.int (nI x) :: stk) pc := v_if_gt hd ht (fun z => kt ((zl hx).mp z)) (fun z => kf (by have := mt (zl hx).mpr z; omega))
theorem v_if_leN {x : Nat} {off : Int} {tgt : Nat} (hd : decode mi.2.1 pc = .ok (.ifCond .le off, 3)) (ht : (pc : Int) + off = (tgt : Int)) (hx : x < 2147483648) (kt : x = 0 → V mi d mc ms Po w sz cells slots L stk (tgt)) (kf : 0 < x → V mi d mc ms Po w sz cells slots L stk (pc + 3)) : V mi d mc ms Po w sz cells slots L (.int (nI x) :: stk) pc := v_if_le hd ht (fun z => kt ((zg hx).mp z)) (fun z => kf (by have := mt (zg hx).mpr z; omega))
theorem v_if_ltN {x : Nat} {off : Int} {tgt : Nat} (hd : decode mi.2.1 pc = .ok (.ifCond .lt off, 3)) (ht : (pc : Int) + off = (tgt : Int)) (hx : x < 2147483648) (kf : V mi d mc ms Po w sz cells slots L stk (pc + 3)) : V mi d mc ms Po w sz cells slots L (.int (nI x) :: stk) pc := v_if_lt hd ht (fun z => absurd z (nI_pos (by omega))) (fun _ => kf)
theorem v_if_geN {x : Nat} {off : Int} {tgt : Nat} (hd : decode mi.2.1 pc = .ok (.ifCond .ge off, 3)) (ht : (pc : Int) + off = (tgt : Int)) (hx : x < 2147483648) (kt : V mi d mc ms Po w sz cells slots L stk (tgt)) : V mi d mc ms Po w sz cells slots L (.int (nI x) :: stk) pc := v_if_ge hd ht (fun _ => kt) (fun z => absurd (nI_pos' (by omega)) z)
theorem b2i_nar (b : Bool) : narrow .boolean (.int (b2i b)) = .int (b2i b) := by cases b <;> decide
theorem b2i_0 {b : Bool} : b2i b = 0 ↔ b = false := by cases b <;> decide
theorem v_if_eqB {b : Bool} {off : Int} {tgt : Nat} (hd : decode mi.2.1 pc = .ok (.ifCond .eq off, 3)) (ht : (pc : Int) + off = (tgt : Int)) (kt : b = false → V mi d mc ms Po w sz cells slots L stk (tgt)) (kf : b = true → V mi d mc ms Po w sz cells slots L stk (pc + 3)) : V mi d mc ms Po w sz cells slots L (.int (b2i b) :: stk) pc := v_if_eq hd ht (fun z => kt (b2i_0.mp z)) (fun z => kf (by cases b with | true => rfl | false => exact absurd rfl z))
theorem v_if_neB {b : Bool} {off : Int} {tgt : Nat} (hd : decode mi.2.1 pc = .ok (.ifCond .ne off, 3)) (ht : (pc : Int) + off = (tgt : Int)) (kt : b = true → V mi d mc ms Po w sz cells slots L stk (tgt)) (kf : b = false → V mi d mc ms Po w sz cells slots L stk (pc + 3)) : V mi d mc ms Po w sz cells slots L (.int (b2i b) :: stk) pc := v_if_ne hd ht (fun z => kt (by cases b with | true => rfl | false => exact absurd rfl z)) (fun z => kf (b2i_0.mp z))
end VN3
def dr : List (Option Value) → Nat → List (Option Value)
  | [], _ => []
  | _ :: l, 0 => none :: l
  | a :: l, k + 1 => a :: dr l k
theorem lk_dr : ∀ (L : List (Option Value)) (i j : Nat) (u : Value), lk (dr L i) j = some u → lk L j = some u
  | [], i, j, u, h => by simp [dr, lk] at h
  | a :: l, 0, j, u, h => by
    cases j with
    | zero => simp [dr, lk] at h
    | succ j => exact h
  | a :: l, i + 1, j, u, h => by
    cases j with
    | zero => exact h
    | succ j => exact lk_dr l i j u h
theorem dr_len : ∀ (L : List (Option Value)) (i : Nat), (dr L i).length = L.length
  | [], _ => rfl
  | _ :: _, 0 => rfl
  | _ :: l, i + 1 => by simp [dr, dr_len l i]
section VN4
variable {mi : MI} {d mc ms : Nat} {Po : Option Value → Wd → Nat → Prop} {w : Wd} {sz cells slots : Nat} {L : List (Option Value)} {stk : List Value} {pc a : Nat}
theorem v_drop (i : Nat) (k : V mi d mc ms Po w sz cells slots (dr L i) stk pc) : V mi d mc ms Po w sz cells slots L stk pc := by
  intro p l e s m args below meth c lo D cy H locs ls C hw hz hS hl
  exact k p l e s m args below meth c lo D cy H locs ls C hw hz hS ⟨⟨hl.1.1, hl.1.2.1, fun q hq => by
    obtain ⟨j, h1, h2⟩ := (ent_mem _ 0 q.1 q.2).mp hq
    exact hl.1.2.2 q ((ent_mem L 0 q.1 q.2).mpr ⟨j, h1, lk_dr L i j q.2 h2⟩)⟩, by rw [dr_len]; exact hl.2.1, fun k v hk => hl.2.2 k v (lk_dr L i k v hk)⟩
theorem v_sg {σ' σ0 : Nat → Int32} (h : σ' = σ0) (k : V mi d mc ms Po (wu w a (ia 1 17088 σ')) sz cells slots L stk pc) : V mi d mc ms Po (wu w a (ia 1 17088 σ0)) sz cells slots L stk pc := h ▸ k
theorem v_ialdE {n : Nat} {f : Nat → Int32} {i v : Int32} (j : Nat) (hd : decode mi.2.1 pc = .ok (.iaload, 1)) (ha : w a = some (ia 1 n f)) (hj : i = nI j) (hjn : j < n) (hn : n ≤ 2147483647) (hv : f j = v) (kk : V mi d mc ms Po w sz cells slots L (.int v :: stk) (pc + 1)) : V mi d mc ms Po w sz cells slots L (.int i :: .ref a :: stk) pc := v_iald j hd ha hj hjn hn (by rw [hv]; exact kk)
theorem v_caldE {n : Nat} {f : Nat → Int32} {i v : Int32} (j : Nat) (hd : decode mi.2.1 pc = .ok (.caload, 1)) (ha : w a = some (ia 0 n f)) (hj : i = nI j) (hjn : j < n) (hn : n ≤ 2147483647) (hv : f j = v) (kk : V mi d mc ms Po w sz cells slots L (.int v :: stk) (pc + 1)) : V mi d mc ms Po w sz cells slots L (.int i :: .ref a :: stk) pc := v_cald j hd ha hj hjn hn (by rw [hv]; exact kk)
end VN4
section VCALL2
variable {mi : MI} {d mc ms : Nat} {Po : Option Value → Wd → Nat → Prop} {w w1 : Wd} {sz cells slots : Nat} {L : List (Option Value)} {stk : List Value} {pc : Nat}
variable {mi' : MI} {d' idx ci : Nat} {v : Value}
theorem u_rV0 {b : Nat} {fs : List Value} (hco : MV mi' 0 ci) (hd : decode mi.2.1 pc = .ok (.invokevirtual idx, 3)) (hlink : Cond.methodLink mi.1.cls idx mi'.1 ∈ lw_tb) (hE : Rd mi' d' (.ref b :: []) w (some v)) (hb : w b = some (ob ci fs)) (hdd : d' + 1 ≤ d) (hst : (stk.map fun v => v.category).sum ≤ 8) (hmc : cells ≤ mc) (hms : slots ≤ ms) (k : V mi d mc ms Po (w) sz cells slots L (v :: stk) (pc + 3)) : V mi d mc ms Po (w) sz cells slots L (.ref b :: stk) (pc) := v_rV0 hco hd hlink hE hb hdd hst hmc hms k
theorem u_wV0 {b : Nat} {fs : List Value} (hco : MV mi' 0 ci) (hd : decode mi.2.1 pc = .ok (.invokevirtual idx, 3)) (hlink : Cond.methodLink mi.1.cls idx mi'.1 ∈ lw_tb) (hE : Wr mi' d' (.ref b :: []) w (fun r' w' => r' = some v ∧ w' = w1)) (hb : w b = some (ob ci fs)) (hdd : d' + 1 ≤ d) (hst : (stk.map fun v => v.category).sum ≤ 8) (hmc : cells ≤ mc) (hms : slots ≤ ms) (k : V mi d mc ms Po (w1) sz cells slots L (v :: stk) (pc + 3)) : V mi d mc ms Po (w) sz cells slots L (.ref b :: stk) (pc) := v_wV0 hco hd hlink hE hb hdd hst hmc hms (fun r' w' h => by obtain ⟨rfl, rfl⟩ := h; exact k)
theorem n_rV0 {b : Nat} {fs : List Value} (hco : MV mi' 0 ci) (hd : decode mi.2.1 pc = .ok (.invokevirtual idx, 3)) (hlink : Cond.methodLink mi.1.cls idx mi'.1 ∈ lw_tb) (hE : Rd mi' d' (.ref b :: []) w (none)) (hb : w b = some (ob ci fs)) (hdd : d' + 1 ≤ d) (hst : (stk.map fun v => v.category).sum ≤ 8) (hmc : cells ≤ mc) (hms : slots ≤ ms) (k : V mi d mc ms Po (w) sz cells slots L (stk) (pc + 3)) : V mi d mc ms Po (w) sz cells slots L (.ref b :: stk) (pc) := v_rV0 hco hd hlink hE hb hdd hst hmc hms k
theorem n_wV0 {b : Nat} {fs : List Value} (hco : MV mi' 0 ci) (hd : decode mi.2.1 pc = .ok (.invokevirtual idx, 3)) (hlink : Cond.methodLink mi.1.cls idx mi'.1 ∈ lw_tb) (hE : Wr mi' d' (.ref b :: []) w (fun r' w' => r' = none ∧ w' = w1)) (hb : w b = some (ob ci fs)) (hdd : d' + 1 ≤ d) (hst : (stk.map fun v => v.category).sum ≤ 8) (hmc : cells ≤ mc) (hms : slots ≤ ms) (k : V mi d mc ms Po (w1) sz cells slots L (stk) (pc + 3)) : V mi d mc ms Po (w) sz cells slots L (.ref b :: stk) (pc) := v_wV0 hco hd hlink hE hb hdd hst hmc hms (fun r' w' h => by obtain ⟨rfl, rfl⟩ := h; exact k)
theorem u_rV1 {b : Nat} {x0 : Value} {fs : List Value} (hco : MV mi' 1 ci) (hd : decode mi.2.1 pc = .ok (.invokevirtual idx, 3)) (hlink : Cond.methodLink mi.1.cls idx mi'.1 ∈ lw_tb) (hE : Rd mi' d' (.ref b :: [x0]) w (some v)) (hb : w b = some (ob ci fs)) (hdd : d' + 1 ≤ d) (hst : (stk.map fun v => v.category).sum ≤ 8) (hmc : cells ≤ mc) (hms : slots ≤ ms) (k : V mi d mc ms Po (w) sz cells slots L (v :: stk) (pc + 3)) : V mi d mc ms Po (w) sz cells slots L (x0 :: .ref b :: stk) (pc) := v_rV1 hco hd hlink hE hb hdd hst hmc hms k
theorem u_wV1 {b : Nat} {x0 : Value} {fs : List Value} (hco : MV mi' 1 ci) (hd : decode mi.2.1 pc = .ok (.invokevirtual idx, 3)) (hlink : Cond.methodLink mi.1.cls idx mi'.1 ∈ lw_tb) (hE : Wr mi' d' (.ref b :: [x0]) w (fun r' w' => r' = some v ∧ w' = w1)) (hb : w b = some (ob ci fs)) (hdd : d' + 1 ≤ d) (hst : (stk.map fun v => v.category).sum ≤ 8) (hmc : cells ≤ mc) (hms : slots ≤ ms) (k : V mi d mc ms Po (w1) sz cells slots L (v :: stk) (pc + 3)) : V mi d mc ms Po (w) sz cells slots L (x0 :: .ref b :: stk) (pc) := v_wV1 hco hd hlink hE hb hdd hst hmc hms (fun r' w' h => by obtain ⟨rfl, rfl⟩ := h; exact k)
theorem u_rS1 {x0 : Value}  (hco : MS mi' 1) (hd : decode mi.2.1 pc = .ok (.invokestatic idx, 3)) (hlink : Cond.methodLink mi.1.cls idx mi'.1 ∈ lw_tb) (hE : Rd mi' d' [x0] w (some v)) (hdd : d' + 1 ≤ d) (hst : (stk.map fun v => v.category).sum ≤ 8) (hmc : cells ≤ mc) (hms : slots ≤ ms) (k : V mi d mc ms Po (w) sz cells slots L (v :: stk) (pc + 3)) : V mi d mc ms Po (w) sz cells slots L (x0 :: stk) (pc) := v_rS1 hco hd hlink hE hdd hst hmc hms k
theorem u_wS1 {x0 : Value}  (hco : MS mi' 1) (hd : decode mi.2.1 pc = .ok (.invokestatic idx, 3)) (hlink : Cond.methodLink mi.1.cls idx mi'.1 ∈ lw_tb) (hE : Wr mi' d' [x0] w (fun r' w' => r' = some v ∧ w' = w1)) (hdd : d' + 1 ≤ d) (hst : (stk.map fun v => v.category).sum ≤ 8) (hmc : cells ≤ mc) (hms : slots ≤ ms) (k : V mi d mc ms Po (w1) sz cells slots L (v :: stk) (pc + 3)) : V mi d mc ms Po (w) sz cells slots L (x0 :: stk) (pc) := v_wS1 hco hd hlink hE hdd hst hmc hms (fun r' w' h => by obtain ⟨rfl, rfl⟩ := h; exact k)
theorem u_rSN1 {x0 : Value}  (hco : MS mi' 1) (hd : decode mi.2.1 pc = .ok (.invokestatic idx, 3)) (hlink : (mi.1.cls, idx, mi'.1, "VotedLabels") ∈ nests) (hE : Rd mi' d' [x0] w (some v)) (hdd : d' + 1 ≤ d) (hst : (stk.map fun v => v.category).sum ≤ 8) (hmc : cells ≤ mc) (hms : slots ≤ ms) (k : V mi d mc ms Po (w) sz cells slots L (v :: stk) (pc + 3)) : V mi d mc ms Po (w) sz cells slots L (x0 :: stk) (pc) := v_rSN1 hco hd hlink hE hdd hst hmc hms k
theorem n_rV1 {b : Nat} {x0 : Value} {fs : List Value} (hco : MV mi' 1 ci) (hd : decode mi.2.1 pc = .ok (.invokevirtual idx, 3)) (hlink : Cond.methodLink mi.1.cls idx mi'.1 ∈ lw_tb) (hE : Rd mi' d' (.ref b :: [x0]) w (none)) (hb : w b = some (ob ci fs)) (hdd : d' + 1 ≤ d) (hst : (stk.map fun v => v.category).sum ≤ 8) (hmc : cells ≤ mc) (hms : slots ≤ ms) (k : V mi d mc ms Po (w) sz cells slots L (stk) (pc + 3)) : V mi d mc ms Po (w) sz cells slots L (x0 :: .ref b :: stk) (pc) := v_rV1 hco hd hlink hE hb hdd hst hmc hms k
theorem n_wV1 {b : Nat} {x0 : Value} {fs : List Value} (hco : MV mi' 1 ci) (hd : decode mi.2.1 pc = .ok (.invokevirtual idx, 3)) (hlink : Cond.methodLink mi.1.cls idx mi'.1 ∈ lw_tb) (hE : Wr mi' d' (.ref b :: [x0]) w (fun r' w' => r' = none ∧ w' = w1)) (hb : w b = some (ob ci fs)) (hdd : d' + 1 ≤ d) (hst : (stk.map fun v => v.category).sum ≤ 8) (hmc : cells ≤ mc) (hms : slots ≤ ms) (k : V mi d mc ms Po (w1) sz cells slots L (stk) (pc + 3)) : V mi d mc ms Po (w) sz cells slots L (x0 :: .ref b :: stk) (pc) := v_wV1 hco hd hlink hE hb hdd hst hmc hms (fun r' w' h => by obtain ⟨rfl, rfl⟩ := h; exact k)
theorem n_rS1 {x0 : Value}  (hco : MS mi' 1) (hd : decode mi.2.1 pc = .ok (.invokestatic idx, 3)) (hlink : Cond.methodLink mi.1.cls idx mi'.1 ∈ lw_tb) (hE : Rd mi' d' [x0] w (none)) (hdd : d' + 1 ≤ d) (hst : (stk.map fun v => v.category).sum ≤ 8) (hmc : cells ≤ mc) (hms : slots ≤ ms) (k : V mi d mc ms Po (w) sz cells slots L (stk) (pc + 3)) : V mi d mc ms Po (w) sz cells slots L (x0 :: stk) (pc) := v_rS1 hco hd hlink hE hdd hst hmc hms k
theorem n_wS1 {x0 : Value}  (hco : MS mi' 1) (hd : decode mi.2.1 pc = .ok (.invokestatic idx, 3)) (hlink : Cond.methodLink mi.1.cls idx mi'.1 ∈ lw_tb) (hE : Wr mi' d' [x0] w (fun r' w' => r' = none ∧ w' = w1)) (hdd : d' + 1 ≤ d) (hst : (stk.map fun v => v.category).sum ≤ 8) (hmc : cells ≤ mc) (hms : slots ≤ ms) (k : V mi d mc ms Po (w1) sz cells slots L (stk) (pc + 3)) : V mi d mc ms Po (w) sz cells slots L (x0 :: stk) (pc) := v_wS1 hco hd hlink hE hdd hst hmc hms (fun r' w' h => by obtain ⟨rfl, rfl⟩ := h; exact k)
theorem n_rSN1 {x0 : Value}  (hco : MS mi' 1) (hd : decode mi.2.1 pc = .ok (.invokestatic idx, 3)) (hlink : (mi.1.cls, idx, mi'.1, "VotedLabels") ∈ nests) (hE : Rd mi' d' [x0] w (none)) (hdd : d' + 1 ≤ d) (hst : (stk.map fun v => v.category).sum ≤ 8) (hmc : cells ≤ mc) (hms : slots ≤ ms) (k : V mi d mc ms Po (w) sz cells slots L (stk) (pc + 3)) : V mi d mc ms Po (w) sz cells slots L (x0 :: stk) (pc) := v_rSN1 hco hd hlink hE hdd hst hmc hms k
theorem u_rV2 {b : Nat} {x0 x1 : Value} {fs : List Value} (hco : MV mi' 2 ci) (hd : decode mi.2.1 pc = .ok (.invokevirtual idx, 3)) (hlink : Cond.methodLink mi.1.cls idx mi'.1 ∈ lw_tb) (hE : Rd mi' d' (.ref b :: [x0, x1]) w (some v)) (hb : w b = some (ob ci fs)) (hdd : d' + 1 ≤ d) (hst : (stk.map fun v => v.category).sum ≤ 8) (hmc : cells ≤ mc) (hms : slots ≤ ms) (k : V mi d mc ms Po (w) sz cells slots L (v :: stk) (pc + 3)) : V mi d mc ms Po (w) sz cells slots L (x1 :: x0 :: .ref b :: stk) (pc) := v_rV2 hco hd hlink hE hb hdd hst hmc hms k
theorem u_wV2 {b : Nat} {x0 x1 : Value} {fs : List Value} (hco : MV mi' 2 ci) (hd : decode mi.2.1 pc = .ok (.invokevirtual idx, 3)) (hlink : Cond.methodLink mi.1.cls idx mi'.1 ∈ lw_tb) (hE : Wr mi' d' (.ref b :: [x0, x1]) w (fun r' w' => r' = some v ∧ w' = w1)) (hb : w b = some (ob ci fs)) (hdd : d' + 1 ≤ d) (hst : (stk.map fun v => v.category).sum ≤ 8) (hmc : cells ≤ mc) (hms : slots ≤ ms) (k : V mi d mc ms Po (w1) sz cells slots L (v :: stk) (pc + 3)) : V mi d mc ms Po (w) sz cells slots L (x1 :: x0 :: .ref b :: stk) (pc) := v_wV2 hco hd hlink hE hb hdd hst hmc hms (fun r' w' h => by obtain ⟨rfl, rfl⟩ := h; exact k)
theorem u_rS2 {x0 x1 : Value}  (hco : MS mi' 2) (hd : decode mi.2.1 pc = .ok (.invokestatic idx, 3)) (hlink : Cond.methodLink mi.1.cls idx mi'.1 ∈ lw_tb) (hE : Rd mi' d' [x0, x1] w (some v)) (hdd : d' + 1 ≤ d) (hst : (stk.map fun v => v.category).sum ≤ 8) (hmc : cells ≤ mc) (hms : slots ≤ ms) (k : V mi d mc ms Po (w) sz cells slots L (v :: stk) (pc + 3)) : V mi d mc ms Po (w) sz cells slots L (x1 :: x0 :: stk) (pc) := v_rS2 hco hd hlink hE hdd hst hmc hms k
theorem u_wS2 {x0 x1 : Value}  (hco : MS mi' 2) (hd : decode mi.2.1 pc = .ok (.invokestatic idx, 3)) (hlink : Cond.methodLink mi.1.cls idx mi'.1 ∈ lw_tb) (hE : Wr mi' d' [x0, x1] w (fun r' w' => r' = some v ∧ w' = w1)) (hdd : d' + 1 ≤ d) (hst : (stk.map fun v => v.category).sum ≤ 8) (hmc : cells ≤ mc) (hms : slots ≤ ms) (k : V mi d mc ms Po (w1) sz cells slots L (v :: stk) (pc + 3)) : V mi d mc ms Po (w) sz cells slots L (x1 :: x0 :: stk) (pc) := v_wS2 hco hd hlink hE hdd hst hmc hms (fun r' w' h => by obtain ⟨rfl, rfl⟩ := h; exact k)
theorem u_rSN2 {x0 x1 : Value}  (hco : MS mi' 2) (hd : decode mi.2.1 pc = .ok (.invokestatic idx, 3)) (hlink : (mi.1.cls, idx, mi'.1, "VotedLabels") ∈ nests) (hE : Rd mi' d' [x0, x1] w (some v)) (hdd : d' + 1 ≤ d) (hst : (stk.map fun v => v.category).sum ≤ 8) (hmc : cells ≤ mc) (hms : slots ≤ ms) (k : V mi d mc ms Po (w) sz cells slots L (v :: stk) (pc + 3)) : V mi d mc ms Po (w) sz cells slots L (x1 :: x0 :: stk) (pc) := v_rSN2 hco hd hlink hE hdd hst hmc hms k
theorem n_rV2 {b : Nat} {x0 x1 : Value} {fs : List Value} (hco : MV mi' 2 ci) (hd : decode mi.2.1 pc = .ok (.invokevirtual idx, 3)) (hlink : Cond.methodLink mi.1.cls idx mi'.1 ∈ lw_tb) (hE : Rd mi' d' (.ref b :: [x0, x1]) w (none)) (hb : w b = some (ob ci fs)) (hdd : d' + 1 ≤ d) (hst : (stk.map fun v => v.category).sum ≤ 8) (hmc : cells ≤ mc) (hms : slots ≤ ms) (k : V mi d mc ms Po (w) sz cells slots L (stk) (pc + 3)) : V mi d mc ms Po (w) sz cells slots L (x1 :: x0 :: .ref b :: stk) (pc) := v_rV2 hco hd hlink hE hb hdd hst hmc hms k
theorem n_wV2 {b : Nat} {x0 x1 : Value} {fs : List Value} (hco : MV mi' 2 ci) (hd : decode mi.2.1 pc = .ok (.invokevirtual idx, 3)) (hlink : Cond.methodLink mi.1.cls idx mi'.1 ∈ lw_tb) (hE : Wr mi' d' (.ref b :: [x0, x1]) w (fun r' w' => r' = none ∧ w' = w1)) (hb : w b = some (ob ci fs)) (hdd : d' + 1 ≤ d) (hst : (stk.map fun v => v.category).sum ≤ 8) (hmc : cells ≤ mc) (hms : slots ≤ ms) (k : V mi d mc ms Po (w1) sz cells slots L (stk) (pc + 3)) : V mi d mc ms Po (w) sz cells slots L (x1 :: x0 :: .ref b :: stk) (pc) := v_wV2 hco hd hlink hE hb hdd hst hmc hms (fun r' w' h => by obtain ⟨rfl, rfl⟩ := h; exact k)
theorem n_rS2 {x0 x1 : Value}  (hco : MS mi' 2) (hd : decode mi.2.1 pc = .ok (.invokestatic idx, 3)) (hlink : Cond.methodLink mi.1.cls idx mi'.1 ∈ lw_tb) (hE : Rd mi' d' [x0, x1] w (none)) (hdd : d' + 1 ≤ d) (hst : (stk.map fun v => v.category).sum ≤ 8) (hmc : cells ≤ mc) (hms : slots ≤ ms) (k : V mi d mc ms Po (w) sz cells slots L (stk) (pc + 3)) : V mi d mc ms Po (w) sz cells slots L (x1 :: x0 :: stk) (pc) := v_rS2 hco hd hlink hE hdd hst hmc hms k
theorem n_wS2 {x0 x1 : Value}  (hco : MS mi' 2) (hd : decode mi.2.1 pc = .ok (.invokestatic idx, 3)) (hlink : Cond.methodLink mi.1.cls idx mi'.1 ∈ lw_tb) (hE : Wr mi' d' [x0, x1] w (fun r' w' => r' = none ∧ w' = w1)) (hdd : d' + 1 ≤ d) (hst : (stk.map fun v => v.category).sum ≤ 8) (hmc : cells ≤ mc) (hms : slots ≤ ms) (k : V mi d mc ms Po (w1) sz cells slots L (stk) (pc + 3)) : V mi d mc ms Po (w) sz cells slots L (x1 :: x0 :: stk) (pc) := v_wS2 hco hd hlink hE hdd hst hmc hms (fun r' w' h => by obtain ⟨rfl, rfl⟩ := h; exact k)
theorem n_rSN2 {x0 x1 : Value}  (hco : MS mi' 2) (hd : decode mi.2.1 pc = .ok (.invokestatic idx, 3)) (hlink : (mi.1.cls, idx, mi'.1, "VotedLabels") ∈ nests) (hE : Rd mi' d' [x0, x1] w (none)) (hdd : d' + 1 ≤ d) (hst : (stk.map fun v => v.category).sum ≤ 8) (hmc : cells ≤ mc) (hms : slots ≤ ms) (k : V mi d mc ms Po (w) sz cells slots L (stk) (pc + 3)) : V mi d mc ms Po (w) sz cells slots L (x1 :: x0 :: stk) (pc) := v_rSN2 hco hd hlink hE hdd hst hmc hms k
theorem u_rV3 {b : Nat} {x0 x1 x2 : Value} {fs : List Value} (hco : MV mi' 3 ci) (hd : decode mi.2.1 pc = .ok (.invokevirtual idx, 3)) (hlink : Cond.methodLink mi.1.cls idx mi'.1 ∈ lw_tb) (hE : Rd mi' d' (.ref b :: [x0, x1, x2]) w (some v)) (hb : w b = some (ob ci fs)) (hdd : d' + 1 ≤ d) (hst : (stk.map fun v => v.category).sum ≤ 8) (hmc : cells ≤ mc) (hms : slots ≤ ms) (k : V mi d mc ms Po (w) sz cells slots L (v :: stk) (pc + 3)) : V mi d mc ms Po (w) sz cells slots L (x2 :: x1 :: x0 :: .ref b :: stk) (pc) := v_rV3 hco hd hlink hE hb hdd hst hmc hms k
theorem u_wV3 {b : Nat} {x0 x1 x2 : Value} {fs : List Value} (hco : MV mi' 3 ci) (hd : decode mi.2.1 pc = .ok (.invokevirtual idx, 3)) (hlink : Cond.methodLink mi.1.cls idx mi'.1 ∈ lw_tb) (hE : Wr mi' d' (.ref b :: [x0, x1, x2]) w (fun r' w' => r' = some v ∧ w' = w1)) (hb : w b = some (ob ci fs)) (hdd : d' + 1 ≤ d) (hst : (stk.map fun v => v.category).sum ≤ 8) (hmc : cells ≤ mc) (hms : slots ≤ ms) (k : V mi d mc ms Po (w1) sz cells slots L (v :: stk) (pc + 3)) : V mi d mc ms Po (w) sz cells slots L (x2 :: x1 :: x0 :: .ref b :: stk) (pc) := v_wV3 hco hd hlink hE hb hdd hst hmc hms (fun r' w' h => by obtain ⟨rfl, rfl⟩ := h; exact k)
theorem u_rS3 {x0 x1 x2 : Value}  (hco : MS mi' 3) (hd : decode mi.2.1 pc = .ok (.invokestatic idx, 3)) (hlink : Cond.methodLink mi.1.cls idx mi'.1 ∈ lw_tb) (hE : Rd mi' d' [x0, x1, x2] w (some v)) (hdd : d' + 1 ≤ d) (hst : (stk.map fun v => v.category).sum ≤ 8) (hmc : cells ≤ mc) (hms : slots ≤ ms) (k : V mi d mc ms Po (w) sz cells slots L (v :: stk) (pc + 3)) : V mi d mc ms Po (w) sz cells slots L (x2 :: x1 :: x0 :: stk) (pc) := v_rS3 hco hd hlink hE hdd hst hmc hms k
theorem u_wS3 {x0 x1 x2 : Value}  (hco : MS mi' 3) (hd : decode mi.2.1 pc = .ok (.invokestatic idx, 3)) (hlink : Cond.methodLink mi.1.cls idx mi'.1 ∈ lw_tb) (hE : Wr mi' d' [x0, x1, x2] w (fun r' w' => r' = some v ∧ w' = w1)) (hdd : d' + 1 ≤ d) (hst : (stk.map fun v => v.category).sum ≤ 8) (hmc : cells ≤ mc) (hms : slots ≤ ms) (k : V mi d mc ms Po (w1) sz cells slots L (v :: stk) (pc + 3)) : V mi d mc ms Po (w) sz cells slots L (x2 :: x1 :: x0 :: stk) (pc) := v_wS3 hco hd hlink hE hdd hst hmc hms (fun r' w' h => by obtain ⟨rfl, rfl⟩ := h; exact k)
theorem u_rSN3 {x0 x1 x2 : Value}  (hco : MS mi' 3) (hd : decode mi.2.1 pc = .ok (.invokestatic idx, 3)) (hlink : (mi.1.cls, idx, mi'.1, "VotedLabels") ∈ nests) (hE : Rd mi' d' [x0, x1, x2] w (some v)) (hdd : d' + 1 ≤ d) (hst : (stk.map fun v => v.category).sum ≤ 8) (hmc : cells ≤ mc) (hms : slots ≤ ms) (k : V mi d mc ms Po (w) sz cells slots L (v :: stk) (pc + 3)) : V mi d mc ms Po (w) sz cells slots L (x2 :: x1 :: x0 :: stk) (pc) := v_rSN3 hco hd hlink hE hdd hst hmc hms k
theorem n_rV3 {b : Nat} {x0 x1 x2 : Value} {fs : List Value} (hco : MV mi' 3 ci) (hd : decode mi.2.1 pc = .ok (.invokevirtual idx, 3)) (hlink : Cond.methodLink mi.1.cls idx mi'.1 ∈ lw_tb) (hE : Rd mi' d' (.ref b :: [x0, x1, x2]) w (none)) (hb : w b = some (ob ci fs)) (hdd : d' + 1 ≤ d) (hst : (stk.map fun v => v.category).sum ≤ 8) (hmc : cells ≤ mc) (hms : slots ≤ ms) (k : V mi d mc ms Po (w) sz cells slots L (stk) (pc + 3)) : V mi d mc ms Po (w) sz cells slots L (x2 :: x1 :: x0 :: .ref b :: stk) (pc) := v_rV3 hco hd hlink hE hb hdd hst hmc hms k
theorem n_wV3 {b : Nat} {x0 x1 x2 : Value} {fs : List Value} (hco : MV mi' 3 ci) (hd : decode mi.2.1 pc = .ok (.invokevirtual idx, 3)) (hlink : Cond.methodLink mi.1.cls idx mi'.1 ∈ lw_tb) (hE : Wr mi' d' (.ref b :: [x0, x1, x2]) w (fun r' w' => r' = none ∧ w' = w1)) (hb : w b = some (ob ci fs)) (hdd : d' + 1 ≤ d) (hst : (stk.map fun v => v.category).sum ≤ 8) (hmc : cells ≤ mc) (hms : slots ≤ ms) (k : V mi d mc ms Po (w1) sz cells slots L (stk) (pc + 3)) : V mi d mc ms Po (w) sz cells slots L (x2 :: x1 :: x0 :: .ref b :: stk) (pc) := v_wV3 hco hd hlink hE hb hdd hst hmc hms (fun r' w' h => by obtain ⟨rfl, rfl⟩ := h; exact k)
theorem n_rS3 {x0 x1 x2 : Value}  (hco : MS mi' 3) (hd : decode mi.2.1 pc = .ok (.invokestatic idx, 3)) (hlink : Cond.methodLink mi.1.cls idx mi'.1 ∈ lw_tb) (hE : Rd mi' d' [x0, x1, x2] w (none)) (hdd : d' + 1 ≤ d) (hst : (stk.map fun v => v.category).sum ≤ 8) (hmc : cells ≤ mc) (hms : slots ≤ ms) (k : V mi d mc ms Po (w) sz cells slots L (stk) (pc + 3)) : V mi d mc ms Po (w) sz cells slots L (x2 :: x1 :: x0 :: stk) (pc) := v_rS3 hco hd hlink hE hdd hst hmc hms k
theorem n_wS3 {x0 x1 x2 : Value}  (hco : MS mi' 3) (hd : decode mi.2.1 pc = .ok (.invokestatic idx, 3)) (hlink : Cond.methodLink mi.1.cls idx mi'.1 ∈ lw_tb) (hE : Wr mi' d' [x0, x1, x2] w (fun r' w' => r' = none ∧ w' = w1)) (hdd : d' + 1 ≤ d) (hst : (stk.map fun v => v.category).sum ≤ 8) (hmc : cells ≤ mc) (hms : slots ≤ ms) (k : V mi d mc ms Po (w1) sz cells slots L (stk) (pc + 3)) : V mi d mc ms Po (w) sz cells slots L (x2 :: x1 :: x0 :: stk) (pc) := v_wS3 hco hd hlink hE hdd hst hmc hms (fun r' w' h => by obtain ⟨rfl, rfl⟩ := h; exact k)
theorem n_rSN3 {x0 x1 x2 : Value}  (hco : MS mi' 3) (hd : decode mi.2.1 pc = .ok (.invokestatic idx, 3)) (hlink : (mi.1.cls, idx, mi'.1, "VotedLabels") ∈ nests) (hE : Rd mi' d' [x0, x1, x2] w (none)) (hdd : d' + 1 ≤ d) (hst : (stk.map fun v => v.category).sum ≤ 8) (hmc : cells ≤ mc) (hms : slots ≤ ms) (k : V mi d mc ms Po (w) sz cells slots L (stk) (pc + 3)) : V mi d mc ms Po (w) sz cells slots L (x2 :: x1 :: x0 :: stk) (pc) := v_rSN3 hco hd hlink hE hdd hst hmc hms k
theorem u_rV4 {b : Nat} {x0 x1 x2 x3 : Value} {fs : List Value} (hco : MV mi' 4 ci) (hd : decode mi.2.1 pc = .ok (.invokevirtual idx, 3)) (hlink : Cond.methodLink mi.1.cls idx mi'.1 ∈ lw_tb) (hE : Rd mi' d' (.ref b :: [x0, x1, x2, x3]) w (some v)) (hb : w b = some (ob ci fs)) (hdd : d' + 1 ≤ d) (hst : (stk.map fun v => v.category).sum ≤ 8) (hmc : cells ≤ mc) (hms : slots ≤ ms) (k : V mi d mc ms Po (w) sz cells slots L (v :: stk) (pc + 3)) : V mi d mc ms Po (w) sz cells slots L (x3 :: x2 :: x1 :: x0 :: .ref b :: stk) (pc) := v_rV4 hco hd hlink hE hb hdd hst hmc hms k
theorem u_wV4 {b : Nat} {x0 x1 x2 x3 : Value} {fs : List Value} (hco : MV mi' 4 ci) (hd : decode mi.2.1 pc = .ok (.invokevirtual idx, 3)) (hlink : Cond.methodLink mi.1.cls idx mi'.1 ∈ lw_tb) (hE : Wr mi' d' (.ref b :: [x0, x1, x2, x3]) w (fun r' w' => r' = some v ∧ w' = w1)) (hb : w b = some (ob ci fs)) (hdd : d' + 1 ≤ d) (hst : (stk.map fun v => v.category).sum ≤ 8) (hmc : cells ≤ mc) (hms : slots ≤ ms) (k : V mi d mc ms Po (w1) sz cells slots L (v :: stk) (pc + 3)) : V mi d mc ms Po (w) sz cells slots L (x3 :: x2 :: x1 :: x0 :: .ref b :: stk) (pc) := v_wV4 hco hd hlink hE hb hdd hst hmc hms (fun r' w' h => by obtain ⟨rfl, rfl⟩ := h; exact k)
theorem n_rV4 {b : Nat} {x0 x1 x2 x3 : Value} {fs : List Value} (hco : MV mi' 4 ci) (hd : decode mi.2.1 pc = .ok (.invokevirtual idx, 3)) (hlink : Cond.methodLink mi.1.cls idx mi'.1 ∈ lw_tb) (hE : Rd mi' d' (.ref b :: [x0, x1, x2, x3]) w (none)) (hb : w b = some (ob ci fs)) (hdd : d' + 1 ≤ d) (hst : (stk.map fun v => v.category).sum ≤ 8) (hmc : cells ≤ mc) (hms : slots ≤ ms) (k : V mi d mc ms Po (w) sz cells slots L (stk) (pc + 3)) : V mi d mc ms Po (w) sz cells slots L (x3 :: x2 :: x1 :: x0 :: .ref b :: stk) (pc) := v_rV4 hco hd hlink hE hb hdd hst hmc hms k
theorem n_wV4 {b : Nat} {x0 x1 x2 x3 : Value} {fs : List Value} (hco : MV mi' 4 ci) (hd : decode mi.2.1 pc = .ok (.invokevirtual idx, 3)) (hlink : Cond.methodLink mi.1.cls idx mi'.1 ∈ lw_tb) (hE : Wr mi' d' (.ref b :: [x0, x1, x2, x3]) w (fun r' w' => r' = none ∧ w' = w1)) (hb : w b = some (ob ci fs)) (hdd : d' + 1 ≤ d) (hst : (stk.map fun v => v.category).sum ≤ 8) (hmc : cells ≤ mc) (hms : slots ≤ ms) (k : V mi d mc ms Po (w1) sz cells slots L (stk) (pc + 3)) : V mi d mc ms Po (w) sz cells slots L (x3 :: x2 :: x1 :: x0 :: .ref b :: stk) (pc) := v_wV4 hco hd hlink hE hb hdd hst hmc hms (fun r' w' h => by obtain ⟨rfl, rfl⟩ := h; exact k)
theorem u_rV5 {b : Nat} {x0 x1 x2 x3 x4 : Value} {fs : List Value} (hco : MV mi' 5 ci) (hd : decode mi.2.1 pc = .ok (.invokevirtual idx, 3)) (hlink : Cond.methodLink mi.1.cls idx mi'.1 ∈ lw_tb) (hE : Rd mi' d' (.ref b :: [x0, x1, x2, x3, x4]) w (some v)) (hb : w b = some (ob ci fs)) (hdd : d' + 1 ≤ d) (hst : (stk.map fun v => v.category).sum ≤ 8) (hmc : cells ≤ mc) (hms : slots ≤ ms) (k : V mi d mc ms Po (w) sz cells slots L (v :: stk) (pc + 3)) : V mi d mc ms Po (w) sz cells slots L (x4 :: x3 :: x2 :: x1 :: x0 :: .ref b :: stk) (pc) := v_rV5 hco hd hlink hE hb hdd hst hmc hms k
theorem u_wV5 {b : Nat} {x0 x1 x2 x3 x4 : Value} {fs : List Value} (hco : MV mi' 5 ci) (hd : decode mi.2.1 pc = .ok (.invokevirtual idx, 3)) (hlink : Cond.methodLink mi.1.cls idx mi'.1 ∈ lw_tb) (hE : Wr mi' d' (.ref b :: [x0, x1, x2, x3, x4]) w (fun r' w' => r' = some v ∧ w' = w1)) (hb : w b = some (ob ci fs)) (hdd : d' + 1 ≤ d) (hst : (stk.map fun v => v.category).sum ≤ 8) (hmc : cells ≤ mc) (hms : slots ≤ ms) (k : V mi d mc ms Po (w1) sz cells slots L (v :: stk) (pc + 3)) : V mi d mc ms Po (w) sz cells slots L (x4 :: x3 :: x2 :: x1 :: x0 :: .ref b :: stk) (pc) := v_wV5 hco hd hlink hE hb hdd hst hmc hms (fun r' w' h => by obtain ⟨rfl, rfl⟩ := h; exact k)
theorem n_rV5 {b : Nat} {x0 x1 x2 x3 x4 : Value} {fs : List Value} (hco : MV mi' 5 ci) (hd : decode mi.2.1 pc = .ok (.invokevirtual idx, 3)) (hlink : Cond.methodLink mi.1.cls idx mi'.1 ∈ lw_tb) (hE : Rd mi' d' (.ref b :: [x0, x1, x2, x3, x4]) w (none)) (hb : w b = some (ob ci fs)) (hdd : d' + 1 ≤ d) (hst : (stk.map fun v => v.category).sum ≤ 8) (hmc : cells ≤ mc) (hms : slots ≤ ms) (k : V mi d mc ms Po (w) sz cells slots L (stk) (pc + 3)) : V mi d mc ms Po (w) sz cells slots L (x4 :: x3 :: x2 :: x1 :: x0 :: .ref b :: stk) (pc) := v_rV5 hco hd hlink hE hb hdd hst hmc hms k
theorem n_wV5 {b : Nat} {x0 x1 x2 x3 x4 : Value} {fs : List Value} (hco : MV mi' 5 ci) (hd : decode mi.2.1 pc = .ok (.invokevirtual idx, 3)) (hlink : Cond.methodLink mi.1.cls idx mi'.1 ∈ lw_tb) (hE : Wr mi' d' (.ref b :: [x0, x1, x2, x3, x4]) w (fun r' w' => r' = none ∧ w' = w1)) (hb : w b = some (ob ci fs)) (hdd : d' + 1 ≤ d) (hst : (stk.map fun v => v.category).sum ≤ 8) (hmc : cells ≤ mc) (hms : slots ≤ ms) (k : V mi d mc ms Po (w1) sz cells slots L (stk) (pc + 3)) : V mi d mc ms Po (w) sz cells slots L (x4 :: x3 :: x2 :: x1 :: x0 :: .ref b :: stk) (pc) := v_wV5 hco hd hlink hE hb hdd hst hmc hms (fun r' w' h => by obtain ⟨rfl, rfl⟩ := h; exact k)
theorem u_rV6 {b : Nat} {x0 x1 x2 x3 x4 x5 : Value} {fs : List Value} (hco : MV mi' 6 ci) (hd : decode mi.2.1 pc = .ok (.invokevirtual idx, 3)) (hlink : Cond.methodLink mi.1.cls idx mi'.1 ∈ lw_tb) (hE : Rd mi' d' (.ref b :: [x0, x1, x2, x3, x4, x5]) w (some v)) (hb : w b = some (ob ci fs)) (hdd : d' + 1 ≤ d) (hst : (stk.map fun v => v.category).sum ≤ 8) (hmc : cells ≤ mc) (hms : slots ≤ ms) (k : V mi d mc ms Po (w) sz cells slots L (v :: stk) (pc + 3)) : V mi d mc ms Po (w) sz cells slots L (x5 :: x4 :: x3 :: x2 :: x1 :: x0 :: .ref b :: stk) (pc) := v_rV6 hco hd hlink hE hb hdd hst hmc hms k
theorem n_rV6 {b : Nat} {x0 x1 x2 x3 x4 x5 : Value} {fs : List Value} (hco : MV mi' 6 ci) (hd : decode mi.2.1 pc = .ok (.invokevirtual idx, 3)) (hlink : Cond.methodLink mi.1.cls idx mi'.1 ∈ lw_tb) (hE : Rd mi' d' (.ref b :: [x0, x1, x2, x3, x4, x5]) w (none)) (hb : w b = some (ob ci fs)) (hdd : d' + 1 ≤ d) (hst : (stk.map fun v => v.category).sum ≤ 8) (hmc : cells ≤ mc) (hms : slots ≤ ms) (k : V mi d mc ms Po (w) sz cells slots L (stk) (pc + 3)) : V mi d mc ms Po (w) sz cells slots L (x5 :: x4 :: x3 :: x2 :: x1 :: x0 :: .ref b :: stk) (pc) := v_rV6 hco hd hlink hE hb hdd hst hmc hms k
end VCALL2
end
section
/-- counting down from 15: the lowest place with p among those looked at -/
def dnI (p : Nat → Bool) : Nat → Int32
  | 0 => -1
  | i + 1 => if p (15 - i) = true then nI (15 - i) else dnI p i
/-- the votes of the number x among the first i vote cells are taken away -/
def gv (σ : Nat → Int32) (x : Int32) (i : Nat) : Nat → Int32 := fun q => if 32 ≤ q ∧ q < 32 + i ∧ σ q = x then -1 else σ q
theorem gv_0 (σ : Nat → Int32) (x : Int32) : gv σ x 0 = σ := by
  funext q
  simp only [gv]
  rw [if_neg (by omega)]
theorem gv_at (σ : Nat → Int32) (x : Int32) (i : Nat) : gv σ x i (32 + i) = σ (32 + i) := by
  simp only [gv]
  rw [if_neg (by omega)]
theorem gv_out (σ : Nat → Int32) (x : Int32) {i q : Nat} (h : 32 + i ≤ q) : gv σ x i q = σ q := by
  simp only [gv]
  rw [if_neg (by omega)]
theorem gv_T {σ : Nat → Int32} {x : Int32} {i : Nat} (h : σ (32 + i) = x) : upd (gv σ x i) (32 + i) (-1) = gv σ x (i + 1) := by
  funext q
  simp only [upd, gv]
  by_cases e : q = 32 + i
  · subst e
    simp [h]
  · rw [if_neg e]
    by_cases h1 : 32 ≤ q ∧ q < 32 + i ∧ σ q = x
    · rw [if_pos h1, if_pos ⟨h1.1, by omega, h1.2.2⟩]
    · rw [if_neg h1, if_neg (fun z => h1 ⟨z.1, by omega, z.2.2⟩)]
theorem gv_F {σ : Nat → Int32} {x : Int32} {i : Nat} (h : ¬ σ (32 + i) = x) : upd (gv σ x i) (32 + i) (σ (32 + i)) = gv σ x (i + 1) := by
  funext q
  simp only [upd, gv]
  by_cases e : q = 32 + i
  · subst e
    simp [h]
  · rw [if_neg e]
    by_cases h1 : 32 ≤ q ∧ q < 32 + i ∧ σ q = x
    · rw [if_pos h1, if_pos ⟨h1.1, by omega, h1.2.2⟩]
    · rw [if_neg h1, if_neg (fun z => h1 ⟨z.1, by omega, z.2.2⟩)]
/-- the rewrite in place k is gone, and its votes -/
def gone (σ : Nat → Int32) (k : Nat) : Nat → Int32 := upd (gv σ (σ (1808 + 65 * k)) 240) (1808 + 65 * k) (-1)
/-- the first i cells of g laid from a on -/
def lay (σ g : Nat → Int32) (a i : Nat) : Nat → Int32 := fun q => if a ≤ q ∧ q < a + i then g (q - a) else σ q
theorem lay_0 (σ g : Nat → Int32) (a : Nat) : lay σ g a 0 = σ := by
  funext q
  simp only [lay]
  rw [if_neg (by omega)]
theorem lay_S (σ g : Nat → Int32) (a i : Nat) : upd (lay σ g a i) (a + i) (g i) = lay σ g a (i + 1) := by
  funext q
  simp only [upd, lay]
  by_cases e : q = a + i
  · subst e
    simp
  · rw [if_neg e]
    by_cases h1 : a ≤ q ∧ q < a + i
    · rw [if_pos h1, if_pos ⟨h1.1, by omega⟩]
    · rw [if_neg h1, if_neg (by omega)]
theorem lay_out {σ g : Nat → Int32} {a i q : Nat} (h : q < a ∨ a + i ≤ q) : lay σ g a i q = σ q := by
  simp only [lay]
  rw [if_neg (by omega)]
/-- letters, and what is allowed at place k of a text -/
def ltr (x : Int32) : Bool := decide (nI 97 ≤ x ∧ x ≤ nI 122)
def isw (f : Nat → Int32) : Nat → Bool
  | 0 => false
  | k + 1 => ltr (f k)
def okc (f : Nat → Int32) (k : Nat) : Bool := ltr (f k) || (bl f k && isw f k)
/-- the fault of a text, or -1 -/
def flt (f : Nat → Int32) (n : Nat) : Int32 := if fst (fun k => !okc f k) n < n then nI (fst (fun k => !okc f k) n) else if isw f n = true then -1 else nI n
/-- a text of words, without a fault -/
def okT (f : Nat → Int32) (n : Nat) : Prop := 0 < n ∧ (∀ k, k < n → okc f k = true) ∧ isw f n = true
def told (f g : Nat → Int32) (n m : Nat) : Bool := decide (n = m) && al (fun k => f k == g k) m
theorem b2i_T {b : Bool} (h : b = true) : nI 1 = b2i b := by rw [h]; rfl
theorem b2i_F {b : Bool} (h : b = false) : nI 0 = b2i b := by rw [h]; rfl
/-- a label that is too long -/
def cutB (σ : Nat → Int32) (p lim : Nat) : Bool := decide (lim < nw (sft σ (272 + 64 * p + 4)) (nt (σ (272 + 64 * p))))
def cutS (σ : Nat → Int32) (p lim : Nat) : Nat → Int32 := if cutB σ p lim = true then upd (upd (upd σ (272 + 64 * p) (nI (beg (sft σ (272 + 64 * p + 4)) (nt (σ (272 + 64 * p))) lim - 1))) (272 + 64 * p + 3) (σ (272 + 64 * p + 3) + nI 1)) 21 (σ 21 + nI 1) else σ
theorem up_eq (f : Nat → Int32) (k : Nat) (v : Int32) : upd f k v k = v := by simp [upd]
theorem up_ne (f : Nat → Int32) {k q : Nat} (v : Int32) (h : q ≠ k) : upd f k v q = f q := by simp [upd, h]
theorem nw_le (f : Nat → Int32) (n : Nat) : nw f n ≤ n + 1 := by
  have := cnt_le (bl f) n
  unfold nw
  split <;> omega
theorem cutS_F {σ : Nat → Int32} {p lim : Nat} (h : cutB σ p lim = false) : cutS σ p lim = σ := by simp [cutS, h]
theorem cutS_T {σ : Nat → Int32} {p lim : Nat} (h : cutB σ p lim = true) : cutS σ p lim = upd (upd (upd σ (272 + 64 * p) (nI (beg (sft σ (272 + 64 * p + 4)) (nt (σ (272 + 64 * p))) lim - 1))) (272 + 64 * p + 3) (σ (272 + 64 * p + 3) + nI 1)) 21 (σ 21 + nI 1) := by simp [cutS, h]
theorem cutS_out {σ : Nat → Int32} {p lim q : Nat} (h1 : q ≠ 272 + 64 * p) (h2 : q ≠ 272 + 64 * p + 3) (h3 : q ≠ 21) : cutS σ p lim q = σ q := by
  cases h : cutB σ p lim
  · rw [cutS_F h]
  · rw [cutS_T h, up_ne _ _ h3, up_ne _ _ h2, up_ne _ _ h1]
theorem cut_beg {f : Nat → Int32} {n lim : Nat} (h : lim < nw f n) : lim ≤ cnt (bl f) n := by
  unfold nw at h
  split at h <;> omega
theorem beg_pos {f : Nat → Int32} {n lim : Nat} (h : lim ≤ cnt (bl f) n) (h1 : 1 ≤ lim) : 1 ≤ beg f n lim := by
  have B := beg_spec h
  rcases Nat.eq_zero_or_pos (beg f n lim) with e | e
  · have := B.2.1
    rw [e] at this
    simp [cnt] at this
    omega
  · exact e
/-- labels cut, tongue by tongue -/
def caS (σ : Nat → Int32) (a lim : Nat) : Nat → Nat → Int32
  | 0 => σ
  | i + 1 => cutS (caS σ a lim i) (3 * a + i) lim
def caN (σ : Nat → Int32) (a lim : Nat) : Nat → Nat
  | 0 => 0
  | i + 1 => caN σ a lim i + (if cutB (caS σ a lim i) (3 * a + i) lim = true then 1 else 0)
theorem caS_out {σ : Nat → Int32} {a lim q : Nat} (h3 : q ≠ 21) : ∀ i, (∀ b, b < i → q ≠ 272 + 64 * (3 * a + b) ∧ q ≠ 272 + 64 * (3 * a + b) + 3) → caS σ a lim i q = σ q
  | 0, _ => rfl
  | i + 1, h => by
    have h1 := h i (by omega)
    rw [caS, cutS_out h1.1 h1.2 h3]
    exact caS_out h3 i (fun b hb => h b (by omega))
/-- the rewrite that becomes a label: of k rewrites looked at -/
def pap (k : Nat) : Nat := 1808 + 65 * k
def vfk (σ : Nat → Int32) (k : Nat) : Nat := cnt (fun q => σ (32 + q) == σ (1808 + 65 * k)) 240
def nwr (σ : Nat → Int32) (k : Nat) : Nat := nw (sft σ (1808 + 65 * k + 5)) (nt (σ (1808 + 65 * k + 4)))
def cand (σ : Nat → Int32) (p k : Nat) : Bool := decide (0 ≤ σ (1808 + 65 * k)) && σ (1808 + 65 * k + 1) == nI p
def btr (σ : Nat → Int32) (k g : Nat) : Bool := decide (vfk σ g < vfk σ k) || (decide (vfk σ k = vfk σ g) && (decide (nwr σ k < nwr σ g) || (decide (nwr σ k = nwr σ g) && decide (σ (1808 + 65 * k) < σ (1808 + 65 * g)))))
def bsS (σ : Nat → Int32) (p nd lim : Nat) (f : Option Nat) (k : Nat) : Option Nat := if cand σ p k && decide (nd ≤ vfk σ k) && decide (nwr σ k ≤ lim) && (match f with | none => true | some g => btr σ k g) then some k else f
def bst (σ : Nat → Int32) (p nd lim : Nat) : Nat → Option Nat
  | 0 => none
  | k + 1 => bsS σ p nd lim (bst σ p nd lim k) k
def oI (f : Option Nat) : Int32 := match f with | none => -1 | some k => nI k
theorem bst_lt {σ : Nat → Int32} {p nd lim : Nat} : ∀ {i g : Nat}, bst σ p nd lim i = some g → g < i ∧ cand σ p g = true
  | 0, g, h => by simp [bst] at h
  | i + 1, g, h => by
    have h0 : bst σ p nd lim (i + 1) = bsS σ p nd lim (bst σ p nd lim i) i := rfl
    rw [h0] at h
    unfold bsS at h
    by_cases h1 : (cand σ p i && decide (nd ≤ vfk σ i) && decide (nwr σ i ≤ lim) && (match bst σ p nd lim i with | none => true | some g => btr σ i g)) = true
    · rw [if_pos h1] at h
      cases h
      simp only [Bool.and_eq_true] at h1
      exact ⟨by omega, h1.1.1.1⟩
    · rw [if_neg h1] at h
      have := bst_lt h
      exact ⟨by omega, this.2⟩
theorem vfk_le (σ : Nat → Int32) (k : Nat) : vfk σ k ≤ 240 := cnt_le _ _
end
section
set_option maxHeartbeats 4000000 in
set_option maxRecDepth 100000 in
theorem c_in {w : Wd} (x a b : Int32) : Rd mX8_in 0 [.int x, .int a, .int b] w (some (.int (if a ≤ x ∧ x ≤ b then nI 1 else nI 0))) := by
  intro sz
  refine Ev.ofV [some (.int x), some (.int a), some (.int b)] (by decide) (Nat.le_of_ble_eq_true rfl) rfl rfl rfl ?_
  refine v_iload_n dX8_in_0 rfl ?_
  refine v_iload_n dX8_in_1 rfl ?_
  refine v_icmp_lt (tgt := 14) dX8_in_2 (by decide) (fun b2 => ?_) (fun b2 => ?_)
  ·
    have q : ¬ (a ≤ x ∧ x ≤ b) := fun h => Int32.not_lt.mpr h.1 b2
    refine v_iconst (v := nI 0) dX8_in_14 (by decide) ?_
    refine v_zret dX8_in_15 rfl (by decide) (Nat.le_refl _) (Nat.le_refl _) ?_
    exact ⟨by simp [q], rfl, rfl⟩
  ·
    refine v_iload_n dX8_in_5 rfl ?_
    refine v_iload_n dX8_in_6 rfl ?_
    refine v_icmp_gt (tgt := 14) dX8_in_7 (by decide) (fun b7 => ?_) (fun b7 => ?_)
    ·
      have q : ¬ (a ≤ x ∧ x ≤ b) := fun h => Int32.not_lt.mpr h.2 b7
      refine v_iconst (v := nI 0) dX8_in_14 (by decide) ?_
      refine v_zret dX8_in_15 rfl (by decide) (Nat.le_refl _) (Nat.le_refl _) ?_
      exact ⟨by simp [q], rfl, rfl⟩
    ·
      have q : a ≤ x ∧ x ≤ b := ⟨Int32.not_lt.mp b2, Int32.not_lt.mp b7⟩
      refine v_iconst (v := nI 1) dX8_in_10 (by decide) ?_
      refine v_goto (tgt := 15) dX8_in_11 (by decide) ?_
      refine v_zret dX8_in_15 rfl (by decide) (Nat.le_refl _) (Nat.le_refl _) ?_
      exact ⟨by simp [q], rfl, rfl⟩
set_option maxHeartbeats 4000000 in
set_option maxRecDepth 100000 in
theorem c_rowOf {w : Wd} (a b : Nat) : Rd mX8_rowOf 0 [.int (nI a), .int (nI b)] w (some (.int (nI (272 + 64 * (3 * a + b))))) := by
  intro sz
  refine Ev.ofV [some (.int (nI a)), some (.int (nI b))] (by decide) (Nat.le_of_ble_eq_true rfl) rfl rfl rfl ?_
  refine v_sipush (v := nI 272) dX8_rowOf_0 (by decide) ?_
  refine v_bipush (v := nI 64) dX8_rowOf_3 (by decide) ?_
  refine v_iconst (v := nI 3) dX8_rowOf_5 (by decide) ?_
  refine v_iload_n dX8_rowOf_6 rfl ?_
  refine v_imulN dX8_rowOf_7 ?_
  refine v_iload_n dX8_rowOf_8 rfl ?_
  refine v_iaddN dX8_rowOf_9 ?_
  refine v_imulN dX8_rowOf_10 ?_
  refine v_iaddN dX8_rowOf_11 ?_
  refine v_iret dX8_rowOf_12 rfl (Nat.le_refl _) (Nat.le_refl _) ?_
  exact ⟨rfl, rfl, rfl⟩
set_option maxHeartbeats 4000000 in
set_option maxRecDepth 100000 in
theorem c_paper {w : Wd} (a : Nat) : Rd mX8_paper 0 [.int (nI a)] w (some (.int (nI (1808 + 65 * a)))) := by
  intro sz
  refine Ev.ofV [some (.int (nI a))] (by decide) (Nat.le_of_ble_eq_true rfl) rfl rfl rfl ?_
  refine v_sipush (v := nI 1808) dX8_paper_0 (by decide) ?_
  refine v_bipush (v := nI 65) dX8_paper_3 (by decide) ?_
  refine v_iload_n dX8_paper_5 rfl ?_
  refine v_imulN dX8_paper_6 ?_
  refine v_iaddN dX8_paper_7 ?_
  refine v_iret dX8_paper_8 rfl (Nat.le_refl _) (Nat.le_refl _) ?_
  exact ⟨rfl, rfl, rfl⟩
set_option maxHeartbeats 4000000 in
set_option maxRecDepth 100000 in
theorem c_words {w : Wd} {o ns tn : Nat} {kp : Int32} {σ tx cm : Nat → Int32} (hM : MW w o ns tn kp σ tx cm) (a n : Nat) (h : a + n ≤ 17088) : Rd mX8_words 0 [.ref o, .int (nI a), .int (nI n)] w (some (.int (nI (nw (sft σ a) n)))) := by
  intro sz
  refine Ev.ofV [some (.ref o), some (.int (nI a)), some (.int (nI n)), none, none] (by decide) (Nat.le_of_ble_eq_true rfl) rfl rfl rfl ?_
  refine v_iload_n dX8_words_0 rfl ?_
  refine v_if_leN (tgt := 8) dX8_words_1 (by decide) (by omega) (fun b1 => ?_) (fun b1 => ?_)
  ·
    refine v_iconst (v := nI 0) dX8_words_8 (by decide) ?_
    refine v_istore_n dX8_words_9 (by decide) rfl ?_
    refine v_iconst (v := nI 0) dX8_words_10 (by decide) ?_
    refine v_istore dX8_words_11 (by decide) rfl ?_
    have LP13 : ∀ i, i ≤ n → V mX8_words 0 0 0 (fun r' w' z => r' = some (.int (nI (nw (sft σ a) n))) ∧ w' = w ∧ z = sz) (w) (sz) (0) (0) [some (.ref o), some (.int (nI a)), some (.int (nI n)), some (.int (nI ((if 0 < n then 1 else 0) + cnt (bl (sft σ a)) i))), some (.int (nI i))] [] 13 := by
      refine dn (fun i hi ih => ?_)
      refine v_iload dX8_words_13 rfl ?_
      refine v_iload_n dX8_words_15 rfl ?_
      refine v_icmp_geN (tgt := 47) dX8_words_16 (by decide) (by omega) (by omega) (fun b16 => ?_) (fun b16 => ?_)
      ·
        refine v_iload_n dX8_words_47 rfl ?_
        refine v_iret dX8_words_48 rfl (Nat.le_refl _) (Nat.le_refl _) ?_
        have ei : i = n := by omega
        subst ei
        exact ⟨rfl, rfl, rfl⟩
      ·
        refine v_iload_n dX8_words_19 rfl ?_
        refine v_aload_n dX8_words_20 rfl ?_
        refine v_get 0 dX8_words_21 FTX8 (by decide) rfl fl_X8_7 hM.1 rfl ?_
        refine v_iload_n dX8_words_24 rfl ?_
        refine v_iload dX8_words_25 rfl ?_
        refine v_iaddN dX8_words_27 ?_
        refine v_iald _ dX8_words_28 hM.2.1 rfl (by omega) (by decide) ?_
        refine v_bipush (v := nI 32) dX8_words_29 (by decide) ?_
        refine v_icmp_ne (tgt := 38) dX8_words_31 (by decide) (fun b31 => ?_) (fun b31 => ?_)
        ·
          refine v_iconst (v := nI 0) dX8_words_38 (by decide) ?_
          refine v_iaddN dX8_words_39 ?_
          refine v_istore_n dX8_words_40 (by decide) rfl ?_
          refine v_iincN dX8_words_41 (by decide) rfl rfl rfl ?_
          refine v_goto (tgt := 13) dX8_words_44 (by decide) ?_
          refine v_eqL ?_ (ih (by omega))
          simp [st, cnt, Nat.add_assoc, bl, sft, b31]
        ·
          refine v_iconst (v := nI 1) dX8_words_34 (by decide) ?_
          refine v_goto (tgt := 39) dX8_words_35 (by decide) ?_
          refine v_iaddN dX8_words_39 ?_
          refine v_istore_n dX8_words_40 (by decide) rfl ?_
          refine v_iincN dX8_words_41 (by decide) rfl rfl rfl ?_
          refine v_goto (tgt := 13) dX8_words_44 (by decide) ?_
          refine v_eqL ?_ (ih (by omega))
          simp [st, cnt, Nat.add_assoc, bl, sft, b31]
    refine v_eqL ?_ (LP13 0 (Nat.zero_le _))
    simp [st, cnt, b1]
  ·
    refine v_iconst (v := nI 1) dX8_words_4 (by decide) ?_
    refine v_goto (tgt := 9) dX8_words_5 (by decide) ?_
    refine v_istore_n dX8_words_9 (by decide) rfl ?_
    refine v_iconst (v := nI 0) dX8_words_10 (by decide) ?_
    refine v_istore dX8_words_11 (by decide) rfl ?_
    have LP13 : ∀ i, i ≤ n → V mX8_words 0 0 0 (fun r' w' z => r' = some (.int (nI (nw (sft σ a) n))) ∧ w' = w ∧ z = sz) (w) (sz) (0) (0) [some (.ref o), some (.int (nI a)), some (.int (nI n)), some (.int (nI ((if 0 < n then 1 else 0) + cnt (bl (sft σ a)) i))), some (.int (nI i))] [] 13 := by
      refine dn (fun i hi ih => ?_)
      refine v_iload dX8_words_13 rfl ?_
      refine v_iload_n dX8_words_15 rfl ?_
      refine v_icmp_geN (tgt := 47) dX8_words_16 (by decide) (by omega) (by omega) (fun b16 => ?_) (fun b16 => ?_)
      ·
        refine v_iload_n dX8_words_47 rfl ?_
        refine v_iret dX8_words_48 rfl (Nat.le_refl _) (Nat.le_refl _) ?_
        have ei : i = n := by omega
        subst ei
        exact ⟨rfl, rfl, rfl⟩
      ·
        refine v_iload_n dX8_words_19 rfl ?_
        refine v_aload_n dX8_words_20 rfl ?_
        refine v_get 0 dX8_words_21 FTX8 (by decide) rfl fl_X8_7 hM.1 rfl ?_
        refine v_iload_n dX8_words_24 rfl ?_
        refine v_iload dX8_words_25 rfl ?_
        refine v_iaddN dX8_words_27 ?_
        refine v_iald _ dX8_words_28 hM.2.1 rfl (by omega) (by decide) ?_
        refine v_bipush (v := nI 32) dX8_words_29 (by decide) ?_
        refine v_icmp_ne (tgt := 38) dX8_words_31 (by decide) (fun b31 => ?_) (fun b31 => ?_)
        ·
          refine v_iconst (v := nI 0) dX8_words_38 (by decide) ?_
          refine v_iaddN dX8_words_39 ?_
          refine v_istore_n dX8_words_40 (by decide) rfl ?_
          refine v_iincN dX8_words_41 (by decide) rfl rfl rfl ?_
          refine v_goto (tgt := 13) dX8_words_44 (by decide) ?_
          refine v_eqL ?_ (ih (by omega))
          simp [st, cnt, Nat.add_assoc, bl, sft, b31]
        ·
          refine v_iconst (v := nI 1) dX8_words_34 (by decide) ?_
          refine v_goto (tgt := 39) dX8_words_35 (by decide) ?_
          refine v_iaddN dX8_words_39 ?_
          refine v_istore_n dX8_words_40 (by decide) rfl ?_
          refine v_iincN dX8_words_41 (by decide) rfl rfl rfl ?_
          refine v_goto (tgt := 13) dX8_words_44 (by decide) ?_
          refine v_eqL ?_ (ih (by omega))
          simp [st, cnt, Nat.add_assoc, bl, sft, b31]
    refine v_eqL ?_ (LP13 0 (Nat.zero_le _))
    simp [st, cnt, b1]
set_option maxHeartbeats 4000000 in
set_option maxRecDepth 100000 in
theorem c_votesFor {w : Wd} {o ns tn : Nat} {kp : Int32} {σ tx cm : Nat → Int32} (hM : MW w o ns tn kp σ tx cm) (x : Int32) : Rd mX8_votesFor 0 [.ref o, .int x] w (some (.int (nI (cnt (fun k => σ (32 + k) == x) 240)))) := by
  intro sz
  refine Ev.ofV [some (.ref o), some (.int x), none, none] (by decide) (Nat.le_of_ble_eq_true rfl) rfl rfl rfl ?_
  refine v_iconst (v := nI 0) dX8_votesFor_0 (by decide) ?_
  refine v_istore_n dX8_votesFor_1 (by decide) rfl ?_
  refine v_bipush (v := nI 32) dX8_votesFor_2 (by decide) ?_
  refine v_istore_n dX8_votesFor_4 (by decide) rfl ?_
  have LP5 : ∀ i, i ≤ 240 → V mX8_votesFor 0 0 0 (fun r' w' z => r' = some (.int (nI (cnt (fun k => σ (32 + k) == x) 240))) ∧ w' = w ∧ z = sz) (w) (sz) (0) (0) [some (.ref o), some (.int x), some (.int (nI (cnt (fun k => σ (32 + k) == x) i))), some (.int (nI (32 + i)))] [] 5 := by
    refine dn (fun i hi ih => ?_)
    refine v_iload_n dX8_votesFor_5 rfl ?_
    refine v_sipush (v := nI 272) dX8_votesFor_6 (by decide) ?_
    refine v_icmp_geN (tgt := 36) dX8_votesFor_9 (by decide) (by omega) (by omega) (fun b9 => ?_) (fun b9 => ?_)
    ·
      refine v_iload_n dX8_votesFor_36 rfl ?_
      refine v_iret dX8_votesFor_37 rfl (Nat.le_refl _) (Nat.le_refl _) ?_
      have ei : i = 240 := by omega
      subst ei
      exact ⟨rfl, rfl, rfl⟩
    ·
      refine v_iload_n dX8_votesFor_12 rfl ?_
      refine v_aload_n dX8_votesFor_13 rfl ?_
      refine v_get 0 dX8_votesFor_14 FTX8 (by decide) rfl fl_X8_7 hM.1 rfl ?_
      refine v_iload_n dX8_votesFor_17 rfl ?_
      refine v_iald _ dX8_votesFor_18 hM.2.1 rfl (by omega) (by decide) ?_
      refine v_iload_n dX8_votesFor_19 rfl ?_
      refine v_icmp_ne (tgt := 27) dX8_votesFor_20 (by decide) (fun b20 => ?_) (fun b20 => ?_)
      ·
        refine v_iconst (v := nI 0) dX8_votesFor_27 (by decide) ?_
        refine v_iaddN dX8_votesFor_28 ?_
        refine v_istore_n dX8_votesFor_29 (by decide) rfl ?_
        refine v_iincN dX8_votesFor_30 (by decide) rfl rfl rfl ?_
        refine v_goto (tgt := 5) dX8_votesFor_33 (by decide) ?_
        refine v_eqL ?_ (ih (by omega))
        simp [st, cnt, Nat.add_assoc, b20]
      ·
        refine v_iconst (v := nI 1) dX8_votesFor_23 (by decide) ?_
        refine v_goto (tgt := 28) dX8_votesFor_24 (by decide) ?_
        refine v_iaddN dX8_votesFor_28 ?_
        refine v_istore_n dX8_votesFor_29 (by decide) rfl ?_
        refine v_iincN dX8_votesFor_30 (by decide) rfl rfl rfl ?_
        refine v_goto (tgt := 5) dX8_votesFor_33 (by decide) ?_
        refine v_eqL ?_ (ih (by omega))
        simp [st, cnt, Nat.add_assoc, b20]
  exact LP5 0 (Nat.zero_le _)
set_option maxHeartbeats 4000000 in
set_option maxRecDepth 100000 in
theorem c_begin {w : Wd} {o ns tn : Nat} {kp : Int32} {σ tx cm : Nat → Int32} (hM : MW w o ns tn kp σ tx cm) (a n j : Nat) (h : a + n ≤ 17088) (hj : j ≤ cnt (bl (sft σ a)) n) : Rd mX8_begin 0 [.ref o, .int (nI a), .int (nI n), .int (nI j)] w (some (.int (nI (beg (sft σ a) n j)))) := by
  intro sz
  refine Ev.ofV [some (.ref o), some (.int (nI a)), some (.int (nI n)), some (.int (nI j)), none, none] (by decide) (Nat.le_of_ble_eq_true rfl) rfl rfl rfl ?_
  have B := beg_spec hj
  have hcn := cnt_le (bl (sft σ a)) n
  refine v_iload_n dX8_begin_0 rfl ?_
  refine v_istore dX8_begin_1 (by decide) rfl ?_
  refine v_iconst (v := nI 0) dX8_begin_3 (by decide) ?_
  refine v_istore dX8_begin_4 (by decide) rfl ?_
  have LP6 : ∀ i, i ≤ (beg (sft σ a) n j) → V mX8_begin 0 0 0 (fun r' w' z => r' = some (.int (nI (beg (sft σ a) n j))) ∧ w' = w ∧ z = sz) (w) (sz) (0) (0) [some (.ref o), some (.int (nI a)), some (.int (nI n)), some (.int (nI j)), some (.int (nI (j - cnt (bl (sft σ a)) i))), some (.int (nI i))] [] 6 := by
    refine dn (fun i hi ih => ?_)
    have hc := B.2.2 i
    refine v_iload dX8_begin_6 rfl ?_
    refine v_if_leN (tgt := 41) dX8_begin_8 (by decide) (by omega) (fun b8 => ?_) (fun b8 => ?_)
    ·
      have e1 : i = beg (sft σ a) n j := by
        rcases Nat.lt_or_ge i (beg (sft σ a) n j) with h1 | h1
        · have := hc h1; omega
        · omega
      refine v_iload dX8_begin_41 rfl ?_
      refine v_iret dX8_begin_43 rfl (Nat.le_refl _) (Nat.le_refl _) ?_
      exact ⟨by rw [e1], rfl, rfl⟩
    ·
      have h1 : i < beg (sft σ a) n j := by
        rcases Nat.lt_or_ge i (beg (sft σ a) n j) with h1 | h1
        · exact h1
        · have e1 : i = beg (sft σ a) n j := by omega
          rw [e1, B.2.1] at b8; omega
      have h2 := hc h1
      refine v_iload dX8_begin_11 rfl ?_
      refine v_aload_n dX8_begin_13 rfl ?_
      refine v_get 0 dX8_begin_14 FTX8 (by decide) rfl fl_X8_7 hM.1 rfl ?_
      refine v_iload_n dX8_begin_17 rfl ?_
      refine v_iload dX8_begin_18 rfl ?_
      refine v_iaddN dX8_begin_20 ?_
      refine v_iald _ dX8_begin_21 hM.2.1 rfl (by omega) (by decide) ?_
      refine v_bipush (v := nI 32) dX8_begin_22 (by decide) ?_
      refine v_icmp_ne (tgt := 31) dX8_begin_24 (by decide) (fun b24 => ?_) (fun b24 => ?_)
      ·
        refine v_iconst (v := nI 0) dX8_begin_31 (by decide) ?_
        refine v_isubN dX8_begin_32 (by omega) ?_
        refine v_istore dX8_begin_33 (by decide) rfl ?_
        refine v_iincN dX8_begin_35 (by decide) rfl rfl rfl ?_
        refine v_goto (tgt := 6) dX8_begin_38 (by decide) ?_
        refine v_eqL ?_ (ih (by omega))
        simp [st, cnt, bl, sft, b24, Nat.sub_sub]
      ·
        refine v_iconst (v := nI 1) dX8_begin_27 (by decide) ?_
        refine v_goto (tgt := 32) dX8_begin_28 (by decide) ?_
        refine v_isubN dX8_begin_32 (by omega) ?_
        refine v_istore dX8_begin_33 (by decide) rfl ?_
        refine v_iincN dX8_begin_35 (by decide) rfl rfl rfl ?_
        refine v_goto (tgt := 6) dX8_begin_38 (by decide) ?_
        refine v_eqL ?_ (ih (by omega))
        simp [st, cnt, bl, sft, b24, Nat.sub_sub]
  exact LP6 0 (Nat.zero_le _)
set_option maxHeartbeats 4000000 in
set_option maxRecDepth 100000 in
theorem c_end {w : Wd} {o ns tn : Nat} {kp : Int32} {σ tx cm : Nat → Int32} (hM : MW w o ns tn kp σ tx cm) (a n b : Nat) (h : a + n ≤ 17088) (hb : b ≤ n) : Rd mX8_end 0 [.ref o, .int (nI a), .int (nI n), .int (nI b)] w (some (.int (nI (enn (sft σ a) n b)))) := by
  intro sz
  refine Ev.ofV [some (.ref o), some (.int (nI a)), some (.int (nI n)), some (.int (nI b)), none] (by decide) (Nat.le_of_ble_eq_true rfl) rfl rfl rfl ?_
  have B := fst_le (fun k => bl (sft σ a) (b + k)) (n - b)
  refine v_iload_n dX8_end_0 rfl ?_
  refine v_istore dX8_end_1 (by decide) rfl ?_
  have LP3 : ∀ i, i ≤ (fst (fun k => bl (sft σ a) (b + k)) (n - b)) → V mX8_end 0 0 0 (fun r' w' z => r' = some (.int (nI (enn (sft σ a) n b))) ∧ w' = w ∧ z = sz) (w) (sz) (0) (0) [some (.ref o), some (.int (nI a)), some (.int (nI n)), some (.int (nI b)), some (.int (nI (b + i)))] [] 3 := by
    refine dn (fun i hi ih => ?_)
    refine v_iload dX8_end_3 rfl ?_
    refine v_iload_n dX8_end_5 rfl ?_
    refine v_icmp_geN (tgt := 29) dX8_end_6 (by decide) (by omega) (by omega) (fun b6 => ?_) (fun b6 => ?_)
    ·
      have e1 : i = fst (fun k => bl (sft σ a) (b + k)) (n - b) := by omega
      refine v_iload dX8_end_29 rfl ?_
      refine v_iret dX8_end_31 rfl (Nat.le_refl _) (Nat.le_refl _) ?_
      exact ⟨by rw [e1]; rfl, rfl, rfl⟩
    ·
      refine v_aload_n dX8_end_9 rfl ?_
      refine v_get 0 dX8_end_10 FTX8 (by decide) rfl fl_X8_7 hM.1 rfl ?_
      refine v_iload_n dX8_end_13 rfl ?_
      refine v_iload dX8_end_14 rfl ?_
      refine v_iaddN dX8_end_16 ?_
      refine v_iald _ dX8_end_17 hM.2.1 rfl (by omega) (by decide) ?_
      refine v_bipush (v := nI 32) dX8_end_18 (by decide) ?_
      refine v_icmp_eq (tgt := 29) dX8_end_20 (by decide) (fun b20 => ?_) (fun b20 => ?_)
      ·
        have e1 : i = fst (fun k => bl (sft σ a) (b + k)) (n - b) := by
          rcases Nat.lt_or_ge i (fst (fun k => bl (sft σ a) (b + k)) (n - b)) with h1 | h1
          · have := fst_no _ _ _ h1
            simp [bl, sft, b20] at this
          · omega
        refine v_iload dX8_end_29 rfl ?_
        refine v_iret dX8_end_31 rfl (Nat.le_refl _) (Nat.le_refl _) ?_
        exact ⟨by rw [e1]; rfl, rfl, rfl⟩
      ·
        have h1 : i < fst (fun k => bl (sft σ a) (b + k)) (n - b) := by
          rcases Nat.lt_or_ge i (fst (fun k => bl (sft σ a) (b + k)) (n - b)) with h1 | h1
          · exact h1
          · have h2 := fst_yes (fun k => bl (sft σ a) (b + k)) (n - b) (by omega)
            rw [show fst (fun k => bl (sft σ a) (b + k)) (n - b) = i by omega] at h2
            simp [bl, sft, b20] at h2
        refine v_iincN dX8_end_23 (by decide) rfl rfl rfl ?_
        refine v_goto (tgt := 3) dX8_end_26 (by decide) ?_
        exact ih h1
  exact LP3 0 (Nat.zero_le _)
set_option maxHeartbeats 4000000 in
set_option maxRecDepth 100000 in
theorem c_areAlike {w : Wd} {o ns tn : Nat} {kp : Int32} {σ tx cm : Nat → Int32} (hM : MW w o ns tn kp σ tx cm) (a n i b m j : Nat) (h : a + n ≤ 17088) (h2 : b + m ≤ 17088) (hi : i ≤ cnt (bl (sft σ a)) n) (hj : j ≤ cnt (bl (sft σ b)) m) : Rd mX8_areAlike 1 [.ref o, .int (nI a), .int (nI n), .int (nI i), .int (nI b), .int (nI m), .int (nI j)] w (some (.int (b2i (same (sft σ a) n i (sft σ b) m j)))) := by
  intro sz
  refine Ev.ofV [some (.ref o), some (.int (nI a)), some (.int (nI n)), some (.int (nI i)), some (.int (nI b)), some (.int (nI m)), some (.int (nI j)), none, none, none, none, none] (by decide) (Nat.le_of_ble_eq_true rfl) rfl rfl rfl ?_
  have hA := beg_spec hi
  have hB := beg_spec hj
  obtain ⟨A, eA⟩ : ∃ A, beg (sft σ a) n i = A := ⟨_, rfl⟩
  obtain ⟨B, eB⟩ : ∃ B, beg (sft σ b) m j = B := ⟨_, rfl⟩
  have cA := c_begin hM a n i h hi
  have cB := c_begin hM b m j h2 hj
  rw [eA] at hA cA
  rw [eB] at hB cB
  have hA2 := enn_le (f := sft σ a) hA.1
  have hB2 := enn_le (f := sft σ b) hB.1
  refine v_aload_n dX8_areAlike_0 rfl ?_
  refine v_iload_n dX8_areAlike_1 rfl ?_
  refine v_iload_n dX8_areAlike_2 rfl ?_
  refine v_iload_n dX8_areAlike_3 rfl ?_
  refine u_rV3 oX8_begin dX8_areAlike_4 ml_X8_35 cA hM.1 (by decide) (Nat.le_of_ble_eq_true rfl) (Nat.le_refl _) (Nat.le_refl _) ?_
  refine v_istore dX8_areAlike_7 (by decide) rfl ?_
  refine v_aload_n dX8_areAlike_9 rfl ?_
  refine v_iload dX8_areAlike_10 rfl ?_
  refine v_iload dX8_areAlike_12 rfl ?_
  refine v_iload dX8_areAlike_14 rfl ?_
  refine u_rV3 oX8_begin dX8_areAlike_16 ml_X8_35 cB hM.1 (by decide) (Nat.le_of_ble_eq_true rfl) (Nat.le_refl _) (Nat.le_refl _) ?_
  refine v_istore dX8_areAlike_19 (by decide) rfl ?_
  refine v_aload_n dX8_areAlike_21 rfl ?_
  refine v_iload_n dX8_areAlike_22 rfl ?_
  refine v_iload_n dX8_areAlike_23 rfl ?_
  refine v_iload dX8_areAlike_24 rfl ?_
  refine u_rV3 oX8_end dX8_areAlike_26 ml_X8_39 (c_end hM a n A h hA.1) hM.1 (by decide) (Nat.le_of_ble_eq_true rfl) (Nat.le_refl _) (Nat.le_refl _) ?_
  refine v_iload dX8_areAlike_29 rfl ?_
  refine v_isubN dX8_areAlike_31 (enn_le hA.1).1 ?_
  refine v_istore dX8_areAlike_32 (by decide) rfl ?_
  refine v_aload_n dX8_areAlike_34 rfl ?_
  refine v_iload dX8_areAlike_35 rfl ?_
  refine v_iload dX8_areAlike_37 rfl ?_
  refine v_iload dX8_areAlike_39 rfl ?_
  refine u_rV3 oX8_end dX8_areAlike_41 ml_X8_39 (c_end hM b m B h2 hB.1) hM.1 (by decide) (Nat.le_of_ble_eq_true rfl) (Nat.le_refl _) (Nat.le_refl _) ?_
  refine v_iload dX8_areAlike_44 rfl ?_
  refine v_isubN dX8_areAlike_46 (enn_le hB.1).1 ?_
  refine v_iload dX8_areAlike_47 rfl ?_
  refine v_icmp_neN (tgt := 56) dX8_areAlike_49 (by decide) (by omega) (by omega) (fun b49 => ?_) (fun b49 => ?_)
  ·
    have c49 : (enn (sft σ a) n A - A == enn (sft σ b) m B - B) = false := by simp; omega
    refine v_iconst (v := nI 0) dX8_areAlike_56 (by decide) ?_
    refine v_istore dX8_areAlike_57 (by decide) rfl ?_
    refine v_iconst (v := nI 0) dX8_areAlike_59 (by decide) ?_
    refine v_istore dX8_areAlike_60 (by decide) rfl ?_
    have LP62 : ∀ k, k ≤ (enn (sft σ a) n A - A) → V mX8_areAlike 1 0 0 (fun r' w' z => r' = some (.int (b2i (same (sft σ a) n i (sft σ b) m j))) ∧ w' = w ∧ z = sz) (w) (sz) (0) (0) [some (.ref o), some (.int (nI a)), some (.int (nI n)), some (.int (nI i)), some (.int (nI b)), some (.int (nI m)), some (.int (nI j)), some (.int (nI A)), some (.int (nI B)), some (.int (nI (enn (sft σ a) n A - A))), some (.int (b2i ((enn (sft σ a) n A - A == enn (sft σ b) m B - B) && al (fun k => sft σ a (A + k) == sft σ b (B + k)) k))), some (.int (nI k))] [] 62 := by
      refine dn (fun k hk ih => ?_)
      refine v_iload dX8_areAlike_62 rfl ?_
      refine v_iload dX8_areAlike_64 rfl ?_
      refine v_icmp_geN (tgt := 115) dX8_areAlike_66 (by decide) (by omega) (by omega) (fun b66 => ?_) (fun b66 => ?_)
      ·
        have e9 : k = enn (sft σ a) n A - A := by omega
        have e8 : ((enn (sft σ a) n A - A == enn (sft σ b) m B - B) && al (fun k => sft σ a (A + k) == sft σ b (B + k)) (enn (sft σ a) n A - A)) = ((enn (sft σ a) n A - A == enn (sft σ b) m B - B) && al (fun k => sft σ a (A + k) == sft σ b (B + k)) k) := by rw [e9]
        refine v_iload dX8_areAlike_115 rfl ?_
        refine v_zret dX8_areAlike_117 rfl (b2i_nar _) (Nat.le_refl _) (Nat.le_refl _) ?_
        exact ⟨by unfold same weq; rw [eA, eB, e8], rfl, rfl⟩
      ·
        refine v_iload dX8_areAlike_69 rfl ?_
        refine v_if_eqB (tgt := 115) dX8_areAlike_71 (by decide) (fun b71 => ?_) (fun b71 => ?_)
        ·
          have e8 : ((enn (sft σ a) n A - A == enn (sft σ b) m B - B) && al (fun k => sft σ a (A + k) == sft σ b (B + k)) (enn (sft σ a) n A - A)) = ((enn (sft σ a) n A - A == enn (sft σ b) m B - B) && al (fun k => sft σ a (A + k) == sft σ b (B + k)) k) := by
            rw [b71]
            cases h0 : (enn (sft σ a) n A - A == enn (sft σ b) m B - B)
            · rfl
            · rw [h0] at b71; exact al_mono hk b71
          refine v_iload dX8_areAlike_115 rfl ?_
          refine v_zret dX8_areAlike_117 rfl (b2i_nar _) (Nat.le_refl _) (Nat.le_refl _) ?_
          exact ⟨by unfold same weq; rw [eA, eB, e8], rfl, rfl⟩
        ·
          have e1 : enn (sft σ a) n A - A = enn (sft σ b) m B - B := by simp at b71; exact b71.1
          have e2 : al (fun k => sft σ a (A + k) == sft σ b (B + k)) k = true := by simp at b71; exact b71.2
          refine v_aload_n dX8_areAlike_74 rfl ?_
          refine v_get 0 dX8_areAlike_75 FTX8 (by decide) rfl fl_X8_7 hM.1 rfl ?_
          refine v_iload_n dX8_areAlike_78 rfl ?_
          refine v_iload dX8_areAlike_79 rfl ?_
          refine v_iaddN dX8_areAlike_81 ?_
          refine v_iload dX8_areAlike_82 rfl ?_
          refine v_iaddN dX8_areAlike_84 ?_
          refine v_iald _ dX8_areAlike_85 hM.2.1 rfl (by omega) (by decide) ?_
          refine v_aload_n dX8_areAlike_86 rfl ?_
          refine v_get 0 dX8_areAlike_87 FTX8 (by decide) rfl fl_X8_7 hM.1 rfl ?_
          refine v_iload dX8_areAlike_90 rfl ?_
          refine v_iload dX8_areAlike_92 rfl ?_
          refine v_iaddN dX8_areAlike_94 ?_
          refine v_iload dX8_areAlike_95 rfl ?_
          refine v_iaddN dX8_areAlike_97 ?_
          refine v_iald _ dX8_areAlike_98 hM.2.1 rfl (by omega) (by decide) ?_
          refine v_icmp_ne (tgt := 106) dX8_areAlike_99 (by decide) (fun b99 => ?_) (fun b99 => ?_)
          ·
            have e3 : (sft σ a (A + k) == sft σ b (B + k)) = false := by simp [sft, ← Nat.add_assoc, b99]
            refine v_iconst (v := nI 0) dX8_areAlike_106 (by decide) ?_
            refine v_istore dX8_areAlike_107 (by decide) rfl ?_
            refine v_iincN dX8_areAlike_109 (by decide) rfl rfl rfl ?_
            refine v_goto (tgt := 62) dX8_areAlike_112 (by decide) ?_
            refine v_eqL ?_ (ih (by omega))
            simp [st, al, b2i, e1, e2, e3]
          ·
            have e3 : (sft σ a (A + k) == sft σ b (B + k)) = true := by simp [sft, ← Nat.add_assoc, b99]
            refine v_iconst (v := nI 1) dX8_areAlike_102 (by decide) ?_
            refine v_goto (tgt := 107) dX8_areAlike_103 (by decide) ?_
            refine v_istore dX8_areAlike_107 (by decide) rfl ?_
            refine v_iincN dX8_areAlike_109 (by decide) rfl rfl rfl ?_
            refine v_goto (tgt := 62) dX8_areAlike_112 (by decide) ?_
            refine v_eqL ?_ (ih (by omega))
            simp [st, al, b2i, e1, e2, e3]
    refine v_eqL ?_ (LP62 0 (Nat.zero_le _))
    simp [st, al, b2i, c49]
  ·
    have c49 : (enn (sft σ a) n A - A == enn (sft σ b) m B - B) = true := by simp; omega
    refine v_iconst (v := nI 1) dX8_areAlike_52 (by decide) ?_
    refine v_goto (tgt := 57) dX8_areAlike_53 (by decide) ?_
    refine v_istore dX8_areAlike_57 (by decide) rfl ?_
    refine v_iconst (v := nI 0) dX8_areAlike_59 (by decide) ?_
    refine v_istore dX8_areAlike_60 (by decide) rfl ?_
    have LP62 : ∀ k, k ≤ (enn (sft σ a) n A - A) → V mX8_areAlike 1 0 0 (fun r' w' z => r' = some (.int (b2i (same (sft σ a) n i (sft σ b) m j))) ∧ w' = w ∧ z = sz) (w) (sz) (0) (0) [some (.ref o), some (.int (nI a)), some (.int (nI n)), some (.int (nI i)), some (.int (nI b)), some (.int (nI m)), some (.int (nI j)), some (.int (nI A)), some (.int (nI B)), some (.int (nI (enn (sft σ a) n A - A))), some (.int (b2i ((enn (sft σ a) n A - A == enn (sft σ b) m B - B) && al (fun k => sft σ a (A + k) == sft σ b (B + k)) k))), some (.int (nI k))] [] 62 := by
      refine dn (fun k hk ih => ?_)
      refine v_iload dX8_areAlike_62 rfl ?_
      refine v_iload dX8_areAlike_64 rfl ?_
      refine v_icmp_geN (tgt := 115) dX8_areAlike_66 (by decide) (by omega) (by omega) (fun b66 => ?_) (fun b66 => ?_)
      ·
        have e9 : k = enn (sft σ a) n A - A := by omega
        have e8 : ((enn (sft σ a) n A - A == enn (sft σ b) m B - B) && al (fun k => sft σ a (A + k) == sft σ b (B + k)) (enn (sft σ a) n A - A)) = ((enn (sft σ a) n A - A == enn (sft σ b) m B - B) && al (fun k => sft σ a (A + k) == sft σ b (B + k)) k) := by rw [e9]
        refine v_iload dX8_areAlike_115 rfl ?_
        refine v_zret dX8_areAlike_117 rfl (b2i_nar _) (Nat.le_refl _) (Nat.le_refl _) ?_
        exact ⟨by unfold same weq; rw [eA, eB, e8], rfl, rfl⟩
      ·
        refine v_iload dX8_areAlike_69 rfl ?_
        refine v_if_eqB (tgt := 115) dX8_areAlike_71 (by decide) (fun b71 => ?_) (fun b71 => ?_)
        ·
          have e8 : ((enn (sft σ a) n A - A == enn (sft σ b) m B - B) && al (fun k => sft σ a (A + k) == sft σ b (B + k)) (enn (sft σ a) n A - A)) = ((enn (sft σ a) n A - A == enn (sft σ b) m B - B) && al (fun k => sft σ a (A + k) == sft σ b (B + k)) k) := by
            rw [b71]
            cases h0 : (enn (sft σ a) n A - A == enn (sft σ b) m B - B)
            · rfl
            · rw [h0] at b71; exact al_mono hk b71
          refine v_iload dX8_areAlike_115 rfl ?_
          refine v_zret dX8_areAlike_117 rfl (b2i_nar _) (Nat.le_refl _) (Nat.le_refl _) ?_
          exact ⟨by unfold same weq; rw [eA, eB, e8], rfl, rfl⟩
        ·
          have e1 : enn (sft σ a) n A - A = enn (sft σ b) m B - B := by simp at b71; exact b71.1
          have e2 : al (fun k => sft σ a (A + k) == sft σ b (B + k)) k = true := by simp at b71; exact b71.2
          refine v_aload_n dX8_areAlike_74 rfl ?_
          refine v_get 0 dX8_areAlike_75 FTX8 (by decide) rfl fl_X8_7 hM.1 rfl ?_
          refine v_iload_n dX8_areAlike_78 rfl ?_
          refine v_iload dX8_areAlike_79 rfl ?_
          refine v_iaddN dX8_areAlike_81 ?_
          refine v_iload dX8_areAlike_82 rfl ?_
          refine v_iaddN dX8_areAlike_84 ?_
          refine v_iald _ dX8_areAlike_85 hM.2.1 rfl (by omega) (by decide) ?_
          refine v_aload_n dX8_areAlike_86 rfl ?_
          refine v_get 0 dX8_areAlike_87 FTX8 (by decide) rfl fl_X8_7 hM.1 rfl ?_
          refine v_iload dX8_areAlike_90 rfl ?_
          refine v_iload dX8_areAlike_92 rfl ?_
          refine v_iaddN dX8_areAlike_94 ?_
          refine v_iload dX8_areAlike_95 rfl ?_
          refine v_iaddN dX8_areAlike_97 ?_
          refine v_iald _ dX8_areAlike_98 hM.2.1 rfl (by omega) (by decide) ?_
          refine v_icmp_ne (tgt := 106) dX8_areAlike_99 (by decide) (fun b99 => ?_) (fun b99 => ?_)
          ·
            have e3 : (sft σ a (A + k) == sft σ b (B + k)) = false := by simp [sft, ← Nat.add_assoc, b99]
            refine v_iconst (v := nI 0) dX8_areAlike_106 (by decide) ?_
            refine v_istore dX8_areAlike_107 (by decide) rfl ?_
            refine v_iincN dX8_areAlike_109 (by decide) rfl rfl rfl ?_
            refine v_goto (tgt := 62) dX8_areAlike_112 (by decide) ?_
            refine v_eqL ?_ (ih (by omega))
            simp [st, al, b2i, e1, e2, e3]
          ·
            have e3 : (sft σ a (A + k) == sft σ b (B + k)) = true := by simp [sft, ← Nat.add_assoc, b99]
            refine v_iconst (v := nI 1) dX8_areAlike_102 (by decide) ?_
            refine v_goto (tgt := 107) dX8_areAlike_103 (by decide) ?_
            refine v_istore dX8_areAlike_107 (by decide) rfl ?_
            refine v_iincN dX8_areAlike_109 (by decide) rfl rfl rfl ?_
            refine v_goto (tgt := 62) dX8_areAlike_112 (by decide) ?_
            refine v_eqL ?_ (ih (by omega))
            simp [st, al, b2i, e1, e2, e3]
    refine v_eqL ?_ (LP62 0 (Nat.zero_le _))
    simp [st, al, b2i, c49]
theorem c_inb {w : Wd} (x : Int32) (a b : Nat) : Rd mX8_in 0 [.int x, .int (nI a), .int (nI b)] w (some (.int (b2i (decide (nI a ≤ x ∧ x ≤ nI b))))) := by
  have := c_in (w := w) x (nI a) (nI b)
  simpa [b2i] using this
def inB (x : Int32) (b : Nat) : Bool := decide (nI 0 ≤ x ∧ x ≤ nI b)
theorem inB_ub {x : Int32} {b : Nat} (hb : b < 2147483647) (h : inB x b = true) : ub x (b + 1) := by
  simp only [inB, decide_eq_true_eq] at h
  have h1 := Int32.le_iff_toInt_le.mp h.1
  have h2 := Int32.le_iff_toInt_le.mp h.2
  rw [nI_toInt (by omega)] at h1 h2
  have h3 : nt x < 2147483648 := by
    show x.toInt.toNat < _
    omega
  have h4 : x = nI (nt x) := by
    apply Int32.toInt_inj.mp
    rw [nI_toInt h3]
    show x.toInt = ((x.toInt.toNat : Nat) : Int)
    omega
  refine ⟨h4, ?_⟩
  show x.toInt.toNat < _
  omega
theorem inB_nI {a b : Nat} (ha : a < 2147483648) (hb : b < 2147483648) : inB (nI a) b = decide (a ≤ b) := by
  simp only [inB]
  rw [decide_eq_decide]
  rw [nI_leN (by omega) ha, nI_leN ha hb]
  omega
theorem c_inB {w : Wd} (x : Int32) (b : Nat) : Rd mX8_in 0 [.int x, .int (nI 0), .int (nI b)] w (some (.int (b2i (inB x b)))) := c_inb x 0 b

set_option maxHeartbeats 4000000 in
set_option maxRecDepth 100000 in
theorem c_isPair {w : Wd} (x y : Int32) : Rd mX8_isPair 1 [.int x, .int y] w (some (.int (b2i (inB x 7 && inB y 2)))) := by
  intro sz
  refine Ev.ofV [some (.int x), some (.int y)] (by decide) (Nat.le_of_ble_eq_true rfl) rfl rfl rfl ?_
  refine v_iload_n dX8_isPair_0 rfl ?_
  refine v_iconst (v := nI 0) dX8_isPair_1 (by decide) ?_
  refine v_bipush (v := nI 7) dX8_isPair_2 (by decide) ?_
  refine u_rS3 oX8_in dX8_isPair_4 ml_X8_59 (c_inB x 7) (by decide) (Nat.le_of_ble_eq_true rfl) (Nat.le_refl _) (Nat.le_refl _) ?_
  refine v_if_eqB (tgt := 23) dX8_isPair_7 (by decide) (fun b7 => ?_) (fun b7 => ?_)
  ·
    refine v_iconst (v := nI 0) dX8_isPair_23 (by decide) ?_
    refine v_zret dX8_isPair_24 rfl (by decide) (Nat.le_refl _) (Nat.le_refl _) ?_
    exact ⟨by simp [b2i, b7], rfl, rfl⟩
  ·
    refine v_iload_n dX8_isPair_10 rfl ?_
    refine v_iconst (v := nI 0) dX8_isPair_11 (by decide) ?_
    refine v_iconst (v := nI 2) dX8_isPair_12 (by decide) ?_
    refine u_rS3 oX8_in dX8_isPair_13 ml_X8_59 (c_inB y 2) (by decide) (Nat.le_of_ble_eq_true rfl) (Nat.le_refl _) (Nat.le_refl _) ?_
    refine v_if_eqB (tgt := 23) dX8_isPair_16 (by decide) (fun b16 => ?_) (fun b16 => ?_)
    ·
      refine v_iconst (v := nI 0) dX8_isPair_23 (by decide) ?_
      refine v_zret dX8_isPair_24 rfl (by decide) (Nat.le_refl _) (Nat.le_refl _) ?_
      exact ⟨by simp [b2i, b7, b16], rfl, rfl⟩
    ·
      refine v_iconst (v := nI 1) dX8_isPair_19 (by decide) ?_
      refine v_goto (tgt := 24) dX8_isPair_20 (by decide) ?_
      refine v_zret dX8_isPair_24 rfl (by decide) (Nat.le_refl _) (Nat.le_refl _) ?_
      exact ⟨by simp [b2i, b7, b16], rfl, rfl⟩
set_option maxHeartbeats 4000000 in
set_option maxRecDepth 100000 in
theorem c_wordsOf {w : Wd} {o ns tn : Nat} {kp : Int32} {σ tx cm : Nat → Int32} (hM : MW w o ns tn kp σ tx cm) (a b : Nat) (h : a < 8 ∧ b < 3) (hl : ub (σ (272 + 64 * (3 * a + b))) 61) : Rd mX8_wordsOf 1 [.ref o, .int (nI a), .int (nI b)] w (some (.int (nI (nw (sft σ (272 + 64 * (3 * a + b) + 4)) (nt (σ (272 + 64 * (3 * a + b)))))))) := by
  intro sz
  refine Ev.ofV [some (.ref o), some (.int (nI a)), some (.int (nI b)), none] (by decide) (Nat.le_of_ble_eq_true rfl) rfl rfl rfl ?_
  refine v_iload_n dX8_wordsOf_0 rfl ?_
  refine v_iload_n dX8_wordsOf_1 rfl ?_
  refine u_rS2 oX8_rowOf dX8_wordsOf_2 ml_X8_28 (c_rowOf a b) (by decide) (Nat.le_of_ble_eq_true rfl) (Nat.le_refl _) (Nat.le_refl _) ?_
  refine v_istore_n dX8_wordsOf_5 (by decide) rfl ?_
  refine v_aload_n dX8_wordsOf_6 rfl ?_
  refine v_iload_n dX8_wordsOf_7 rfl ?_
  refine v_iconst (v := nI 4) dX8_wordsOf_8 (by decide) ?_
  refine v_iaddN dX8_wordsOf_9 ?_
  refine v_aload_n dX8_wordsOf_10 rfl ?_
  refine v_get 0 dX8_wordsOf_11 FTX8 (by decide) rfl fl_X8_7 hM.1 rfl ?_
  refine v_iload_n dX8_wordsOf_14 rfl ?_
  refine v_ialdN _ dX8_wordsOf_15 hM.2.1 rfl (by omega) (by decide) hl.1 ?_
  refine u_rV2 oX8_words dX8_wordsOf_16 ml_X8_32 (c_words hM _ _ (by have := hl.2; omega)) hM.1 (by decide) (Nat.le_of_ble_eq_true rfl) (Nat.le_refl _) (Nat.le_refl _) ?_
  refine v_iret dX8_wordsOf_19 rfl (Nat.le_refl _) (Nat.le_refl _) ?_
  exact ⟨rfl, rfl, rfl⟩
set_option maxHeartbeats 4000000 in
set_option maxRecDepth 100000 in
theorem c_isLabel {w : Wd} {o ns tn : Nat} {kp : Int32} {σ tx cm : Nat → Int32} (hM : MW w o ns tn kp σ tx cm) (a b : Nat) (h : a < 8 ∧ b < 3) (hl : ub (σ (272 + 64 * (3 * a + b))) 61) : Rd mX8_isLabel 1 [.ref o, .int (nI a), .int (nI b)] w (some (.int (b2i (decide (0 < nt (σ (272 + 64 * (3 * a + b)))))))) := by
  intro sz
  refine Ev.ofV [some (.ref o), some (.int (nI a)), some (.int (nI b))] (by decide) (Nat.le_of_ble_eq_true rfl) rfl rfl rfl ?_
  refine v_aload_n dX8_isLabel_0 rfl ?_
  refine v_get 0 dX8_isLabel_1 FTX8 (by decide) rfl fl_X8_7 hM.1 rfl ?_
  refine v_iload_n dX8_isLabel_4 rfl ?_
  refine v_iload_n dX8_isLabel_5 rfl ?_
  refine u_rS2 oX8_rowOf dX8_isLabel_6 ml_X8_28 (c_rowOf a b) (by decide) (Nat.le_of_ble_eq_true rfl) (Nat.le_refl _) (Nat.le_refl _) ?_
  refine v_ialdN _ dX8_isLabel_9 hM.2.1 rfl (by omega) (by decide) hl.1 ?_
  refine v_if_leN (tgt := 17) dX8_isLabel_10 (by decide) (by have := hl.2; omega) (fun b10 => ?_) (fun b10 => ?_)
  ·
    refine v_iconst (v := nI 0) dX8_isLabel_17 (by decide) ?_
    refine v_zret dX8_isLabel_18 rfl (by decide) (Nat.le_refl _) (Nat.le_refl _) ?_
    exact ⟨by simp [b2i, b10], rfl, rfl⟩
  ·
    refine v_iconst (v := nI 1) dX8_isLabel_13 (by decide) ?_
    refine v_goto (tgt := 18) dX8_isLabel_14 (by decide) ?_
    refine v_zret dX8_isLabel_18 rfl (by decide) (Nat.le_refl _) (Nat.le_refl _) ?_
    exact ⟨by simp [b2i, b10], rfl, rfl⟩
set_option maxHeartbeats 4000000 in
set_option maxRecDepth 100000 in
theorem c_placeOf {w : Wd} {o ns tn : Nat} {kp : Int32} {σ tx cm : Nat → Int32} (hM : MW w o ns tn kp σ tx cm) (x : Int32) : Rd mX8_placeOf 1 [.ref o, .int x] w (some (.int (lst (fun k => decide (0 ≤ x) && σ (1808 + 65 * k) == x) 16))) := by
  intro sz
  refine Ev.ofV [some (.ref o), some (.int x), none, none] (by decide) (Nat.le_of_ble_eq_true rfl) rfl rfl rfl ?_
  refine v_iconst (v := -1) dX8_placeOf_0 (by decide) ?_
  refine v_istore_n dX8_placeOf_1 (by decide) rfl ?_
  refine v_iconst (v := nI 0) dX8_placeOf_2 (by decide) ?_
  refine v_istore_n dX8_placeOf_3 (by decide) rfl ?_
  have LP4 : ∀ i, i ≤ 16 → V mX8_placeOf 1 0 0 (fun r' w' z => r' = some (.int (lst (fun k => decide (0 ≤ x) && σ (1808 + 65 * k) == x) 16)) ∧ w' = w ∧ z = sz) (w) (sz) (0) (0) [some (.ref o), some (.int x), some (.int (lst (fun k => decide (0 ≤ x) && σ (1808 + 65 * k) == x) i)), some (.int (nI i))] [] 4 := by
    refine dn (fun i hi ih => ?_)
    refine v_iload_n dX8_placeOf_4 rfl ?_
    refine v_bipush (v := nI 16) dX8_placeOf_5 (by decide) ?_
    refine v_icmp_geN (tgt := 39) dX8_placeOf_7 (by decide) (by omega) (by omega) (fun b7 => ?_) (fun b7 => ?_)
    ·
      refine v_iload_n dX8_placeOf_39 rfl ?_
      refine v_iret dX8_placeOf_40 rfl (Nat.le_refl _) (Nat.le_refl _) ?_
      have ei : i = 16 := by omega
      subst ei
      exact ⟨rfl, rfl, rfl⟩
    ·
      refine v_iload_n dX8_placeOf_10 rfl ?_
      refine v_if_lt (tgt := 31) dX8_placeOf_11 (by decide) (fun b11 => ?_) (fun b11 => ?_)
      ·
        have q : ¬ (0 : Int32) ≤ x := Int32.not_le.mpr b11
        refine v_iload_n dX8_placeOf_31 rfl ?_
        refine v_istore_n dX8_placeOf_32 (by decide) rfl ?_
        refine v_iincN dX8_placeOf_33 (by decide) rfl rfl rfl ?_
        refine v_goto (tgt := 4) dX8_placeOf_36 (by decide) ?_
        refine v_eqL ?_ (ih (by omega))
        simp [st, lst, q]
      ·
        have q1 : (0 : Int32) ≤ x := Int32.not_lt.mp b11
        refine v_aload_n dX8_placeOf_14 rfl ?_
        refine v_get 0 dX8_placeOf_15 FTX8 (by decide) rfl fl_X8_7 hM.1 rfl ?_
        refine v_iload_n dX8_placeOf_18 rfl ?_
        refine u_rS1 oX8_paper dX8_placeOf_19 ml_X8_49 (c_paper i) (by decide) (Nat.le_of_ble_eq_true rfl) (Nat.le_refl _) (Nat.le_refl _) ?_
        refine v_iald _ dX8_placeOf_22 hM.2.1 rfl (by omega) (by decide) ?_
        refine v_iload_n dX8_placeOf_23 rfl ?_
        refine v_icmp_ne (tgt := 31) dX8_placeOf_24 (by decide) (fun b24 => ?_) (fun b24 => ?_)
        ·
          have q : ¬ (0 ≤ x ∧ σ (1808 + 65 * i) = x) := fun z => b24 z.2
          refine v_iload_n dX8_placeOf_31 rfl ?_
          refine v_istore_n dX8_placeOf_32 (by decide) rfl ?_
          refine v_iincN dX8_placeOf_33 (by decide) rfl rfl rfl ?_
          refine v_goto (tgt := 4) dX8_placeOf_36 (by decide) ?_
          refine v_eqL ?_ (ih (by omega))
          simp [st, lst, q]
        ·
          have q : 0 ≤ x ∧ σ (1808 + 65 * i) = x := ⟨q1, b24⟩
          refine v_iload_n dX8_placeOf_27 rfl ?_
          refine v_goto (tgt := 32) dX8_placeOf_28 (by decide) ?_
          refine v_istore_n dX8_placeOf_32 (by decide) rfl ?_
          refine v_iincN dX8_placeOf_33 (by decide) rfl rfl rfl ?_
          refine v_goto (tgt := 4) dX8_placeOf_36 (by decide) ?_
          refine v_eqL ?_ (ih (by omega))
          simp [st, lst, q]
  exact LP4 0 (Nat.zero_le _)
set_option maxHeartbeats 4000000 in
set_option maxRecDepth 100000 in
theorem c_own {w : Wd} {o ns tn : Nat} {kp : Int32} {σ tx cm : Nat → Int32} (hM : MW w o ns tn kp σ tx cm) (v p : Nat) : Rd mX8_own 1 [.ref o, .int (nI v), .int (nI p)] w (some (.int (lst (fun k => decide (0 ≤ σ (1808 + 65 * k)) && σ (1808 + 65 * k + 1) == nI p && σ (1808 + 65 * k + 2) == nI v) 16))) := by
  intro sz
  refine Ev.ofV [some (.ref o), some (.int (nI v)), some (.int (nI p)), none, none, none] (by decide) (Nat.le_of_ble_eq_true rfl) rfl rfl rfl ?_
  refine v_iconst (v := -1) dX8_own_0 (by decide) ?_
  refine v_istore_n dX8_own_1 (by decide) rfl ?_
  refine v_iconst (v := nI 0) dX8_own_2 (by decide) ?_
  refine v_istore dX8_own_3 (by decide) rfl ?_
  have LP5 : ∀ i, i ≤ 16 → V mX8_own 1 0 0 (fun r' w' z => r' = some (.int (lst (fun k => decide (0 ≤ σ (1808 + 65 * k)) && σ (1808 + 65 * k + 1) == nI p && σ (1808 + 65 * k + 2) == nI v) 16)) ∧ w' = w ∧ z = sz) (w) (sz) (0) (0) [some (.ref o), some (.int (nI v)), some (.int (nI p)), some (.int (lst (fun k => decide (0 ≤ σ (1808 + 65 * k)) && σ (1808 + 65 * k + 1) == nI p && σ (1808 + 65 * k + 2) == nI v) i)), some (.int (nI i)), none] [] 5 := by
    refine dn (fun i hi ih => ?_)
    refine v_iload dX8_own_5 rfl ?_
    refine v_bipush (v := nI 16) dX8_own_7 (by decide) ?_
    refine v_icmp_geN (tgt := 68) dX8_own_9 (by decide) (by omega) (by omega) (fun b9 => ?_) (fun b9 => ?_)
    ·
      refine v_iload_n dX8_own_68 rfl ?_
      refine v_iret dX8_own_69 rfl (Nat.le_refl _) (Nat.le_refl _) ?_
      have ei : i = 16 := by omega
      subst ei
      exact ⟨rfl, rfl, rfl⟩
    ·
      refine v_iload dX8_own_12 rfl ?_
      refine u_rS1 oX8_paper dX8_own_14 ml_X8_49 (c_paper i) (by decide) (Nat.le_of_ble_eq_true rfl) (Nat.le_refl _) (Nat.le_refl _) ?_
      refine v_istore dX8_own_17 (by decide) rfl ?_
      refine v_aload_n dX8_own_19 rfl ?_
      refine v_get 0 dX8_own_20 FTX8 (by decide) rfl fl_X8_7 hM.1 rfl ?_
      refine v_iload dX8_own_23 rfl ?_
      refine v_iald _ dX8_own_25 hM.2.1 rfl (by omega) (by decide) ?_
      refine v_if_lt (tgt := 60) dX8_own_26 (by decide) (fun b26 => ?_) (fun b26 => ?_)
      ·
        have q : ¬ (0 : Int32) ≤ σ (1808 + 65 * i) := Int32.not_le.mpr b26
        refine v_iload_n dX8_own_60 rfl ?_
        refine v_istore_n dX8_own_61 (by decide) rfl ?_
        refine v_iincN dX8_own_62 (by decide) rfl rfl rfl ?_
        refine v_goto (tgt := 5) dX8_own_65 (by decide) ?_
        refine v_drop 5 ?_
        refine v_eqL ?_ (ih (by omega))
        simp [st, dr, lst, q]
      ·
        have q1 : (0 : Int32) ≤ σ (1808 + 65 * i) := Int32.not_lt.mp b26
        refine v_aload_n dX8_own_29 rfl ?_
        refine v_get 0 dX8_own_30 FTX8 (by decide) rfl fl_X8_7 hM.1 rfl ?_
        refine v_iload dX8_own_33 rfl ?_
        refine v_iconst (v := nI 1) dX8_own_35 (by decide) ?_
        refine v_iaddN dX8_own_36 ?_
        refine v_iald _ dX8_own_37 hM.2.1 rfl (by omega) (by decide) ?_
        refine v_iload_n dX8_own_38 rfl ?_
        refine v_icmp_ne (tgt := 60) dX8_own_39 (by decide) (fun b39 => ?_) (fun b39 => ?_)
        ·
          have q : ¬ ((0 ≤ σ (1808 + 65 * i) ∧ σ (1808 + 65 * i + 1) = nI p) ∧ σ (1808 + 65 * i + 2) = nI v) := fun z => b39 z.1.2
          refine v_iload_n dX8_own_60 rfl ?_
          refine v_istore_n dX8_own_61 (by decide) rfl ?_
          refine v_iincN dX8_own_62 (by decide) rfl rfl rfl ?_
          refine v_goto (tgt := 5) dX8_own_65 (by decide) ?_
          refine v_drop 5 ?_
          refine v_eqL ?_ (ih (by omega))
          simp [st, dr, lst, q]
        ·
          refine v_aload_n dX8_own_42 rfl ?_
          refine v_get 0 dX8_own_43 FTX8 (by decide) rfl fl_X8_7 hM.1 rfl ?_
          refine v_iload dX8_own_46 rfl ?_
          refine v_iconst (v := nI 2) dX8_own_48 (by decide) ?_
          refine v_iaddN dX8_own_49 ?_
          refine v_iald _ dX8_own_50 hM.2.1 rfl (by omega) (by decide) ?_
          refine v_iload_n dX8_own_51 rfl ?_
          refine v_icmp_ne (tgt := 60) dX8_own_52 (by decide) (fun b52 => ?_) (fun b52 => ?_)
          ·
            have q : ¬ ((0 ≤ σ (1808 + 65 * i) ∧ σ (1808 + 65 * i + 1) = nI p) ∧ σ (1808 + 65 * i + 2) = nI v) := fun z => b52 z.2
            refine v_iload_n dX8_own_60 rfl ?_
            refine v_istore_n dX8_own_61 (by decide) rfl ?_
            refine v_iincN dX8_own_62 (by decide) rfl rfl rfl ?_
            refine v_goto (tgt := 5) dX8_own_65 (by decide) ?_
            refine v_drop 5 ?_
            refine v_eqL ?_ (ih (by omega))
            simp [st, dr, lst, q]
          ·
            have q : (0 ≤ σ (1808 + 65 * i) ∧ σ (1808 + 65 * i + 1) = nI p) ∧ σ (1808 + 65 * i + 2) = nI v := ⟨⟨q1, b39⟩, b52⟩
            refine v_iload dX8_own_55 rfl ?_
            refine v_goto (tgt := 61) dX8_own_57 (by decide) ?_
            refine v_istore_n dX8_own_61 (by decide) rfl ?_
            refine v_iincN dX8_own_62 (by decide) rfl rfl rfl ?_
            refine v_goto (tgt := 5) dX8_own_65 (by decide) ?_
            refine v_drop 5 ?_
            refine v_eqL ?_ (ih (by omega))
            simp [st, dr, lst, q]
  exact LP5 0 (Nat.zero_le _)
end
section
set_option maxHeartbeats 4000000 in
set_option maxRecDepth 100000 in
theorem c_free {w : Wd} {o ns tn : Nat} {kp : Int32} {σ tx cm : Nat → Int32} (hM : MW w o ns tn kp σ tx cm) : Rd mX8_free 1 [.ref o] w (some (.int (dnI (fun k => decide (σ (1808 + 65 * k) < 0)) 16))) := by
  intro sz
  refine Ev.ofV [some (.ref o), none, none] (by decide) (Nat.le_of_ble_eq_true rfl) rfl rfl rfl ?_
  have LP : ∀ m, m ≤ 16 → V mX8_free 1 0 0 (fun r' w' z => r' = some (.int (dnI (fun k => decide (σ (1808 + 65 * k) < 0)) 16)) ∧ w' = w ∧ z = sz) (w) (sz) (0) (0) [some (.ref o), some (.int (dnI (fun k => decide (σ (1808 + 65 * k) < 0)) (16 - m))), some (.int (nI m - 1))] [] 5 := by
    intro m
    induction m with
    | zero =>
      intro hm
      have e0 : nI 0 - 1 = (-1 : Int32) := by decide
      rw [e0]
      refine v_iload_n dX8_free_5 rfl ?_
      refine v_if_lt (tgt := 33) dX8_free_6 (by decide) (fun b6 => ?_) (fun b6 => ?_)
      ·
        refine v_iload_n dX8_free_33 rfl ?_
        refine v_iret dX8_free_34 rfl (Nat.le_refl _) (Nat.le_refl _) ?_
        exact ⟨rfl, rfl, rfl⟩
      ·
        exact absurd (by decide) b6
    | succ m ih =>
      intro hm
      have e0 : nI (m + 1) - 1 = nI m := by
        show nI (m + 1) - nI 1 = nI m
        rw [nI_subN (by omega)]; rfl
      rw [e0]
      refine v_iload_n dX8_free_5 rfl ?_
      refine v_if_ltN (tgt := 33) dX8_free_6 (by decide) (by omega) ?_
      refine v_aload_n dX8_free_9 rfl ?_
      refine v_get 0 dX8_free_10 FTX8 (by decide) rfl fl_X8_7 hM.1 rfl ?_
      refine v_iload_n dX8_free_13 rfl ?_
      refine u_rS1 oX8_paper dX8_free_14 ml_X8_49 (c_paper m) (by decide) (Nat.le_of_ble_eq_true rfl) (Nat.le_refl _) (Nat.le_refl _) ?_
      refine v_iald _ dX8_free_17 hM.2.1 rfl (by omega) (by decide) ?_
      refine v_if_ge (tgt := 25) dX8_free_18 (by decide) (fun b18 => ?_) (fun b18 => ?_)
      ·
        have q : ¬ σ (1808 + 65 * m) < 0 := Int32.not_lt.mpr b18
        refine v_iload_n dX8_free_25 rfl ?_
        refine v_istore_n dX8_free_26 (by decide) rfl ?_
        refine v_iinc dX8_free_27 (by decide) rfl rfl rfl ?_
        refine v_goto (tgt := 5) dX8_free_30 (by decide) ?_
        refine v_eqL ?_ (ih (by omega))
        have e1 : 16 - m = (15 - m) + 1 := by omega
        have e3 : 15 - (15 - m) = m := by omega
        simp [st, e1, dnI, e3, q, Int32.sub_eq_add_neg]
        try rfl
      ·
        have q : σ (1808 + 65 * m) < 0 := Int32.not_le.mp b18
        refine v_iload_n dX8_free_21 rfl ?_
        refine v_goto (tgt := 26) dX8_free_22 (by decide) ?_
        refine v_istore_n dX8_free_26 (by decide) rfl ?_
        refine v_iinc dX8_free_27 (by decide) rfl rfl rfl ?_
        refine v_goto (tgt := 5) dX8_free_30 (by decide) ?_
        refine v_eqL ?_ (ih (by omega))
        have e1 : 16 - m = (15 - m) + 1 := by omega
        have e3 : 15 - (15 - m) = m := by omega
        simp [st, e1, dnI, e3, q, Int32.sub_eq_add_neg]
        try rfl
  refine v_iconst (v := -1) dX8_free_0 (by decide) ?_
  refine v_istore_n dX8_free_1 (by decide) rfl ?_
  refine v_bipush (v := nI 15) dX8_free_2 (by decide) ?_
  refine v_istore_n dX8_free_4 (by decide) rfl ?_
  exact LP 16 (Nat.le_refl _)
set_option maxHeartbeats 4000000 in
set_option maxRecDepth 100000 in
theorem c_goes {w : Wd} {o ns tn : Nat} {kp : Int32} {σ tx cm : Nat → Int32} (hM : MW w o ns tn kp σ tx cm) (k : Nat) (hk : k < 16) : Wr mX8_goes 1 [.ref o, .int (nI k)] w (fun r' w' => r' = none ∧ w' = wu w (o + 1) (ia 1 17088 (gone σ k))) := by
  intro sz
  refine Ev.ofV [some (.ref o), some (.int (nI k)), none] (by decide) (Nat.le_of_ble_eq_true rfl) rfl rfl rfl ?_
  refine v_eqw hM.self ?_
  refine v_bipush (v := nI 32) dX8_goes_0 (by decide) ?_
  refine v_istore_n dX8_goes_2 (by decide) rfl ?_
  have LP3 : ∀ i, i ≤ 240 → V mX8_goes 1 0 0 (fun r' w' z => z = sz ∧ r' = none ∧ w' = wu w (o + 1) (ia 1 17088 (gone σ k))) (wu w (o + 1) (ia 1 17088 (gv σ (σ (1808 + 65 * k)) i))) (sz) (0) (0) [some (.ref o), some (.int (nI k)), some (.int (nI (32 + i)))] [] 3 := by
    refine dn (fun i hi ih => ?_)
    refine v_iload_n dX8_goes_3 rfl ?_
    refine v_sipush (v := nI 272) dX8_goes_4 (by decide) ?_
    refine v_icmp_geN (tgt := 50) dX8_goes_7 (by decide) (by omega) (by omega) (fun b7 => ?_) (fun b7 => ?_)
    ·
      have e1 : i = 240 := by omega
      subst e1
      refine v_aload_n dX8_goes_50 rfl ?_
      refine v_get 0 dX8_goes_51 FTX8 (by decide) rfl fl_X8_7 (hM.st _).1 rfl ?_
      refine v_iload_n dX8_goes_54 rfl ?_
      refine u_rS1 oX8_paper dX8_goes_55 ml_X8_49 (c_paper k) (by decide) (Nat.le_of_ble_eq_true rfl) (Nat.le_refl _) (Nat.le_refl _) ?_
      refine v_iconst (v := -1) dX8_goes_58 (by decide) ?_
      refine v_iast _ dX8_goes_59 (hM.st _).2.1 rfl (by omega) (by decide) ?_
      refine v_eqw (wu_wu _ _ _ _).symm ?_
      refine v_ret dX8_goes_60 rfl (Nat.le_refl _) (Nat.le_refl _) ?_
      exact ⟨rfl, rfl, rfl⟩
    ·
      refine v_aload_n dX8_goes_10 rfl ?_
      refine v_get 0 dX8_goes_11 FTX8 (by decide) rfl fl_X8_7 (hM.st _).1 rfl ?_
      refine v_iload_n dX8_goes_14 rfl ?_
      refine v_aload_n dX8_goes_15 rfl ?_
      refine v_get 0 dX8_goes_16 FTX8 (by decide) rfl fl_X8_7 (hM.st _).1 rfl ?_
      refine v_iload_n dX8_goes_19 rfl ?_
      refine v_ialdE _ dX8_goes_20 (hM.st _).2.1 rfl (by omega) (by decide) (gv_at _ _ _) ?_
      refine v_aload_n dX8_goes_21 rfl ?_
      refine v_get 0 dX8_goes_22 FTX8 (by decide) rfl fl_X8_7 (hM.st _).1 rfl ?_
      refine v_iload_n dX8_goes_25 rfl ?_
      refine u_rS1 oX8_paper dX8_goes_26 ml_X8_49 (c_paper k) (by decide) (Nat.le_of_ble_eq_true rfl) (Nat.le_refl _) (Nat.le_refl _) ?_
      refine v_ialdE _ dX8_goes_29 (hM.st _).2.1 rfl (by omega) (by decide) (gv_out _ _ (by omega)) ?_
      refine v_icmp_ne (tgt := 37) dX8_goes_30 (by decide) (fun b30 => ?_) (fun b30 => ?_)
      ·
        have q := (gv_F b30).symm
        refine v_aload_n dX8_goes_37 rfl ?_
        refine v_get 0 dX8_goes_38 FTX8 (by decide) rfl fl_X8_7 (hM.st _).1 rfl ?_
        refine v_iload_n dX8_goes_41 rfl ?_
        refine v_ialdE _ dX8_goes_42 (hM.st _).2.1 rfl (by omega) (by decide) (gv_at _ _ _) ?_
        refine v_iast _ dX8_goes_43 (hM.st _).2.1 rfl (by omega) (by decide) ?_
        refine v_eqw (wu_wu _ _ _ _).symm ?_
        refine v_iincN dX8_goes_44 (by decide) rfl rfl rfl ?_
        refine v_goto (tgt := 3) dX8_goes_47 (by decide) ?_
        refine v_sg q ?_
        exact ih (by omega)
      ·
        have q := (gv_T b30).symm
        refine v_iconst (v := -1) dX8_goes_33 (by decide) ?_
        refine v_goto (tgt := 43) dX8_goes_34 (by decide) ?_
        refine v_iast _ dX8_goes_43 (hM.st _).2.1 rfl (by omega) (by decide) ?_
        refine v_eqw (wu_wu _ _ _ _).symm ?_
        refine v_iincN dX8_goes_44 (by decide) rfl rfl rfl ?_
        refine v_goto (tgt := 3) dX8_goes_47 (by decide) ?_
        refine v_sg q ?_
        exact ih (by omega)
  refine v_sg (gv_0 σ (σ (1808 + 65 * k))) ?_
  exact LP3 0 (Nat.zero_le _)
set_option maxHeartbeats 4000000 in
set_option maxRecDepth 100000 in
theorem c_isTold {w : Wd} {o ns tn : Nat} {kp : Int32} {σ tx cm : Nat → Int32} (hM : MW w o ns tn kp σ tx cm) (a n : Nat) (h : a + tn ≤ 17088) (hn : n < 2147483648) (ht : tn ≤ 60) : Rd mX8_isTold 0 [.ref o, .int (nI a), .int (nI n)] w (some (.int (b2i (told (sft σ a) tx n tn)))) := by
  intro sz
  refine Ev.ofV [some (.ref o), some (.int (nI a)), some (.int (nI n)), none, none] (by decide) (Nat.le_of_ble_eq_true rfl) rfl rfl rfl ?_
  refine v_iload_n dX8_isTold_0 rfl ?_
  refine v_aload_n dX8_isTold_1 rfl ?_
  refine v_get 4 dX8_isTold_2 FTX8 (by decide) rfl fl_X8_56 hM.1 rfl ?_
  refine v_icmp_neN (tgt := 12) dX8_isTold_5 (by decide) (by omega) (by omega) (fun b5 => ?_) (fun b5 => ?_)
  ·
    refine v_iconst (v := nI 0) dX8_isTold_12 (by decide) ?_
    refine v_istore_n dX8_isTold_13 (by decide) rfl ?_
    refine v_iconst (v := nI 0) dX8_isTold_14 (by decide) ?_
    refine v_istore dX8_isTold_15 (by decide) rfl ?_
    have LP17 : ∀ k, k ≤ tn → V mX8_isTold 0 0 0 (fun r' w' z => r' = some (.int (b2i (told (sft σ a) tx n tn))) ∧ w' = w ∧ z = sz) (w) (sz) (0) (0) [some (.ref o), some (.int (nI a)), some (.int (nI n)), some (.int (b2i (decide (n = tn) && al (fun k => sft σ a k == tx k) k))), some (.int (nI k))] [] 17 := by
      refine dn (fun k hk ih => ?_)
      refine v_iload dX8_isTold_17 rfl ?_
      refine v_aload_n dX8_isTold_19 rfl ?_
      refine v_get 4 dX8_isTold_20 FTX8 (by decide) rfl fl_X8_56 hM.1 rfl ?_
      refine v_icmp_geN (tgt := 61) dX8_isTold_23 (by decide) (by omega) (by omega) (fun b23 => ?_) (fun b23 => ?_)
      ·
        have e9 : k = tn := by omega
        subst e9
        refine v_iload_n dX8_isTold_61 rfl ?_
        refine v_zret dX8_isTold_62 rfl (b2i_nar _) (Nat.le_refl _) (Nat.le_refl _) ?_
        exact ⟨rfl, rfl, rfl⟩
      ·
        refine v_iload_n dX8_isTold_26 rfl ?_
        refine v_if_eqB (tgt := 61) dX8_isTold_27 (by decide) (fun b27 => ?_) (fun b27 => ?_)
        ·
          have e8 : (decide (n = tn) && al (fun k => sft σ a k == tx k) tn) = (decide (n = tn) && al (fun k => sft σ a k == tx k) k) := by
            rw [b27]
            cases h0 : decide (n = tn)
            · rfl
            · rw [h0] at b27; exact al_mono hk b27
          refine v_iload_n dX8_isTold_61 rfl ?_
          refine v_zret dX8_isTold_62 rfl (b2i_nar _) (Nat.le_refl _) (Nat.le_refl _) ?_
          exact ⟨by unfold told; rw [e8], rfl, rfl⟩
        ·
          have f1 : n = tn := by simp at b27; exact b27.1
          have f2 : al (fun k => sft σ a k == tx k) k = true := by simp at b27; exact b27.2
          refine v_aload_n dX8_isTold_30 rfl ?_
          refine v_get 0 dX8_isTold_31 FTX8 (by decide) rfl fl_X8_7 hM.1 rfl ?_
          refine v_iload_n dX8_isTold_34 rfl ?_
          refine v_iload dX8_isTold_35 rfl ?_
          refine v_iaddN dX8_isTold_37 ?_
          refine v_iald _ dX8_isTold_38 hM.2.1 rfl (by omega) (by decide) ?_
          refine v_aload_n dX8_isTold_39 rfl ?_
          refine v_get 3 dX8_isTold_40 FTX8 (by decide) rfl fl_X8_13 hM.1 rfl ?_
          refine v_iload dX8_isTold_43 rfl ?_
          refine v_cald _ dX8_isTold_45 hM.2.2.1 rfl (by omega) (by decide) ?_
          refine v_icmp_ne (tgt := 53) dX8_isTold_46 (by decide) (fun b46 => ?_) (fun b46 => ?_)
          ·
            have f3 : (sft σ a k == tx k) = false := by simp [sft, b46]
            refine v_iconst (v := nI 0) dX8_isTold_53 (by decide) ?_
            refine v_istore_n dX8_isTold_54 (by decide) rfl ?_
            refine v_iincN dX8_isTold_55 (by decide) rfl rfl rfl ?_
            refine v_goto (tgt := 17) dX8_isTold_58 (by decide) ?_
            refine v_eqL ?_ (ih (by omega))
            simp [st, al, b2i, f1, f2, f3]
          ·
            have f3 : (sft σ a k == tx k) = true := by simp [sft, b46]
            refine v_iconst (v := nI 1) dX8_isTold_49 (by decide) ?_
            refine v_goto (tgt := 54) dX8_isTold_50 (by decide) ?_
            refine v_istore_n dX8_isTold_54 (by decide) rfl ?_
            refine v_iincN dX8_isTold_55 (by decide) rfl rfl rfl ?_
            refine v_goto (tgt := 17) dX8_isTold_58 (by decide) ?_
            refine v_eqL ?_ (ih (by omega))
            simp [st, al, b2i, f1, f2, f3]
    refine v_eqL ?_ (LP17 0 (Nat.zero_le _))
    simp [st, al, b2i, b5]
  ·
    refine v_iconst (v := nI 1) dX8_isTold_8 (by decide) ?_
    refine v_goto (tgt := 13) dX8_isTold_9 (by decide) ?_
    refine v_istore_n dX8_isTold_13 (by decide) rfl ?_
    refine v_iconst (v := nI 0) dX8_isTold_14 (by decide) ?_
    refine v_istore dX8_isTold_15 (by decide) rfl ?_
    have LP17 : ∀ k, k ≤ tn → V mX8_isTold 0 0 0 (fun r' w' z => r' = some (.int (b2i (told (sft σ a) tx n tn))) ∧ w' = w ∧ z = sz) (w) (sz) (0) (0) [some (.ref o), some (.int (nI a)), some (.int (nI n)), some (.int (b2i (decide (n = tn) && al (fun k => sft σ a k == tx k) k))), some (.int (nI k))] [] 17 := by
      refine dn (fun k hk ih => ?_)
      refine v_iload dX8_isTold_17 rfl ?_
      refine v_aload_n dX8_isTold_19 rfl ?_
      refine v_get 4 dX8_isTold_20 FTX8 (by decide) rfl fl_X8_56 hM.1 rfl ?_
      refine v_icmp_geN (tgt := 61) dX8_isTold_23 (by decide) (by omega) (by omega) (fun b23 => ?_) (fun b23 => ?_)
      ·
        have e9 : k = tn := by omega
        subst e9
        refine v_iload_n dX8_isTold_61 rfl ?_
        refine v_zret dX8_isTold_62 rfl (b2i_nar _) (Nat.le_refl _) (Nat.le_refl _) ?_
        exact ⟨rfl, rfl, rfl⟩
      ·
        refine v_iload_n dX8_isTold_26 rfl ?_
        refine v_if_eqB (tgt := 61) dX8_isTold_27 (by decide) (fun b27 => ?_) (fun b27 => ?_)
        ·
          have e8 : (decide (n = tn) && al (fun k => sft σ a k == tx k) tn) = (decide (n = tn) && al (fun k => sft σ a k == tx k) k) := by
            rw [b27]
            cases h0 : decide (n = tn)
            · rfl
            · rw [h0] at b27; exact al_mono hk b27
          refine v_iload_n dX8_isTold_61 rfl ?_
          refine v_zret dX8_isTold_62 rfl (b2i_nar _) (Nat.le_refl _) (Nat.le_refl _) ?_
          exact ⟨by unfold told; rw [e8], rfl, rfl⟩
        ·
          have f1 : n = tn := by simp at b27; exact b27.1
          have f2 : al (fun k => sft σ a k == tx k) k = true := by simp at b27; exact b27.2
          refine v_aload_n dX8_isTold_30 rfl ?_
          refine v_get 0 dX8_isTold_31 FTX8 (by decide) rfl fl_X8_7 hM.1 rfl ?_
          refine v_iload_n dX8_isTold_34 rfl ?_
          refine v_iload dX8_isTold_35 rfl ?_
          refine v_iaddN dX8_isTold_37 ?_
          refine v_iald _ dX8_isTold_38 hM.2.1 rfl (by omega) (by decide) ?_
          refine v_aload_n dX8_isTold_39 rfl ?_
          refine v_get 3 dX8_isTold_40 FTX8 (by decide) rfl fl_X8_13 hM.1 rfl ?_
          refine v_iload dX8_isTold_43 rfl ?_
          refine v_cald _ dX8_isTold_45 hM.2.2.1 rfl (by omega) (by decide) ?_
          refine v_icmp_ne (tgt := 53) dX8_isTold_46 (by decide) (fun b46 => ?_) (fun b46 => ?_)
          ·
            have f3 : (sft σ a k == tx k) = false := by simp [sft, b46]
            refine v_iconst (v := nI 0) dX8_isTold_53 (by decide) ?_
            refine v_istore_n dX8_isTold_54 (by decide) rfl ?_
            refine v_iincN dX8_isTold_55 (by decide) rfl rfl rfl ?_
            refine v_goto (tgt := 17) dX8_isTold_58 (by decide) ?_
            refine v_eqL ?_ (ih (by omega))
            simp [st, al, b2i, f1, f2, f3]
          ·
            have f3 : (sft σ a k == tx k) = true := by simp [sft, b46]
            refine v_iconst (v := nI 1) dX8_isTold_49 (by decide) ?_
            refine v_goto (tgt := 54) dX8_isTold_50 (by decide) ?_
            refine v_istore_n dX8_isTold_54 (by decide) rfl ?_
            refine v_iincN dX8_isTold_55 (by decide) rfl rfl rfl ?_
            refine v_goto (tgt := 17) dX8_isTold_58 (by decide) ?_
            refine v_eqL ?_ (ih (by omega))
            simp [st, al, b2i, f1, f2, f3]
    refine v_eqL ?_ (LP17 0 (Nat.zero_le _))
    simp [st, al, b2i, b5]
set_option maxHeartbeats 4000000 in
set_option maxRecDepth 100000 in
theorem c_lays {w : Wd} {o ns tn : Nat} {kp : Int32} {σ tx cm : Nat → Int32} (hM : MW w o ns tn kp σ tx cm) (a : Nat) (h : a + tn ≤ 17088) (ht : tn ≤ 60) : Wr mX8_lays 0 [.ref o, .int (nI a)] w (fun r' w' => r' = none ∧ w' = wu w (o + 1) (ia 1 17088 (lay σ tx a tn))) := by
  intro sz
  refine Ev.ofV [some (.ref o), some (.int (nI a)), none] (by decide) (Nat.le_of_ble_eq_true rfl) rfl rfl rfl ?_
  refine v_eqw hM.self ?_
  refine v_iconst (v := nI 0) dX8_lays_0 (by decide) ?_
  refine v_istore_n dX8_lays_1 (by decide) rfl ?_
  have LP2 : ∀ i, i ≤ tn → V mX8_lays 0 0 0 (fun r' w' z => z = sz ∧ r' = none ∧ w' = wu w (o + 1) (ia 1 17088 (lay σ tx a tn))) (wu w (o + 1) (ia 1 17088 (lay σ tx a i))) (sz) (0) (0) [some (.ref o), some (.int (nI a)), some (.int (nI i))] [] 2 := by
    refine dn (fun i hi ih => ?_)
    refine v_iload_n dX8_lays_2 rfl ?_
    refine v_aload_n dX8_lays_3 rfl ?_
    refine v_get 4 dX8_lays_4 FTX8 (by decide) rfl fl_X8_56 (hM.st _).1 rfl ?_
    refine v_icmp_geN (tgt := 30) dX8_lays_7 (by decide) (by omega) (by omega) (fun b7 => ?_) (fun b7 => ?_)
    ·
      have e1 : i = tn := by omega
      subst e1
      refine v_ret dX8_lays_30 rfl (Nat.le_refl _) (Nat.le_refl _) ?_
      exact ⟨rfl, rfl, rfl⟩
    ·
      refine v_aload_n dX8_lays_10 rfl ?_
      refine v_get 0 dX8_lays_11 FTX8 (by decide) rfl fl_X8_7 (hM.st _).1 rfl ?_
      refine v_iload_n dX8_lays_14 rfl ?_
      refine v_iload_n dX8_lays_15 rfl ?_
      refine v_iaddN dX8_lays_16 ?_
      refine v_aload_n dX8_lays_17 rfl ?_
      refine v_get 3 dX8_lays_18 FTX8 (by decide) rfl fl_X8_13 (hM.st _).1 rfl ?_
      refine v_iload_n dX8_lays_21 rfl ?_
      refine v_cald _ dX8_lays_22 (hM.st _).2.2.1 rfl (by omega) (by decide) ?_
      refine v_iast _ dX8_lays_23 (hM.st _).2.1 rfl (by omega) (by decide) ?_
      refine v_eqw (wu_wu _ _ _ _).symm ?_
      refine v_iincN dX8_lays_24 (by decide) rfl rfl rfl ?_
      refine v_goto (tgt := 2) dX8_lays_27 (by decide) ?_
      refine v_sg (lay_S σ tx a i).symm ?_
      exact ih (by omega)
  refine v_sg (lay_0 σ tx a) ?_
  exact LP2 0 (Nat.zero_le _)
set_option maxHeartbeats 4000000 in
set_option maxRecDepth 100000 in
theorem c_wordsTold {w : Wd} {o ns tn : Nat} {kp : Int32} {σ tx cm : Nat → Int32} (hM : MW w o ns tn kp σ tx cm) (ht : tn ≤ 60) : Rd mX8_wordsTold 0 [.ref o] w (some (.int (nI (1 + cnt (bl tx) tn)))) := by
  intro sz
  refine Ev.ofV [some (.ref o), none, none] (by decide) (Nat.le_of_ble_eq_true rfl) rfl rfl rfl ?_
  refine v_iconst (v := nI 1) dX8_wordsTold_0 (by decide) ?_
  refine v_istore_n dX8_wordsTold_1 (by decide) rfl ?_
  refine v_iconst (v := nI 0) dX8_wordsTold_2 (by decide) ?_
  refine v_istore_n dX8_wordsTold_3 (by decide) rfl ?_
  have LP4 : ∀ i, i ≤ tn → V mX8_wordsTold 0 0 0 (fun r' w' z => r' = some (.int (nI (1 + cnt (bl tx) tn))) ∧ w' = w ∧ z = sz) (w) (sz) (0) (0) [some (.ref o), some (.int (nI (1 + cnt (bl tx) i))), some (.int (nI i))] [] 4 := by
    refine dn (fun i hi ih => ?_)
    refine v_iload_n dX8_wordsTold_4 rfl ?_
    refine v_aload_n dX8_wordsTold_5 rfl ?_
    refine v_get 4 dX8_wordsTold_6 FTX8 (by decide) rfl fl_X8_56 hM.1 rfl ?_
    refine v_icmp_geN (tgt := 37) dX8_wordsTold_9 (by decide) (by omega) (by omega) (fun b9 => ?_) (fun b9 => ?_)
    ·
      refine v_iload_n dX8_wordsTold_37 rfl ?_
      refine v_iret dX8_wordsTold_38 rfl (Nat.le_refl _) (Nat.le_refl _) ?_
      have ei : i = tn := by omega
      subst ei
      exact ⟨rfl, rfl, rfl⟩
    ·
      refine v_iload_n dX8_wordsTold_12 rfl ?_
      refine v_aload_n dX8_wordsTold_13 rfl ?_
      refine v_get 3 dX8_wordsTold_14 FTX8 (by decide) rfl fl_X8_13 hM.1 rfl ?_
      refine v_iload_n dX8_wordsTold_17 rfl ?_
      refine v_cald _ dX8_wordsTold_18 hM.2.2.1 rfl (by omega) (by decide) ?_
      refine v_bipush (v := nI 32) dX8_wordsTold_19 (by decide) ?_
      refine v_icmp_ne (tgt := 28) dX8_wordsTold_21 (by decide) (fun b21 => ?_) (fun b21 => ?_)
      ·
        refine v_iconst (v := nI 0) dX8_wordsTold_28 (by decide) ?_
        refine v_iaddN dX8_wordsTold_29 ?_
        refine v_istore_n dX8_wordsTold_30 (by decide) rfl ?_
        refine v_iincN dX8_wordsTold_31 (by decide) rfl rfl rfl ?_
        refine v_goto (tgt := 4) dX8_wordsTold_34 (by decide) ?_
        refine v_eqL ?_ (ih (by omega))
        simp [st, cnt, Nat.add_assoc, bl, b21]
      ·
        refine v_iconst (v := nI 1) dX8_wordsTold_24 (by decide) ?_
        refine v_goto (tgt := 29) dX8_wordsTold_25 (by decide) ?_
        refine v_iaddN dX8_wordsTold_29 ?_
        refine v_istore_n dX8_wordsTold_30 (by decide) rfl ?_
        refine v_iincN dX8_wordsTold_31 (by decide) rfl rfl rfl ?_
        refine v_goto (tgt := 4) dX8_wordsTold_34 (by decide) ?_
        refine v_eqL ?_ (ih (by omega))
        simp [st, cnt, Nat.add_assoc, bl, b21]
  exact LP4 0 (Nat.zero_le _)
set_option maxHeartbeats 4000000 in
set_option maxRecDepth 100000 in
theorem c_fault {w : Wd} {o ns tn : Nat} {kp : Int32} {σ tx cm : Nat → Int32} (hM : MW w o ns tn kp σ tx cm) (ht : tn ≤ 60) : Rd mX8_fault 1 [.ref o] w (some (.int (flt tx tn))) := by
  intro sz
  refine Ev.ofV [some (.ref o), none, none, none] (by decide) (Nat.le_of_ble_eq_true rfl) rfl rfl rfl ?_
  have hfl := fst_le (fun k => !okc tx k) tn
  refine v_iconst (v := nI 0) dX8_fault_0 (by decide) ?_
  refine v_istore_n dX8_fault_1 (by decide) rfl ?_
  refine v_iconst (v := nI 0) dX8_fault_2 (by decide) ?_
  refine v_istore_n dX8_fault_3 (by decide) rfl ?_
  have LP4 : ∀ i, i ≤ fst (fun k => !okc tx k) tn → V mX8_fault 1 0 0 (fun r' w' z => r' = some (.int (flt tx tn)) ∧ w' = w ∧ z = sz) (w) (sz) (0) (0) [some (.ref o), some (.int (b2i (isw tx i))), some (.int (nI i)), none] [] 4 := by
    refine dn (fun i hi ih => ?_)
    refine v_iload_n dX8_fault_4 rfl ?_
    refine v_aload_n dX8_fault_5 rfl ?_
    refine v_get 4 dX8_fault_6 FTX8 (by decide) rfl fl_X8_56 hM.1 rfl ?_
    refine v_icmp_geN (tgt := 55) dX8_fault_9 (by decide) (by omega) (by omega) (fun b9 => ?_) (fun b9 => ?_)
    ·
      have e1 : i = tn := by omega
      have e2 : fst (fun k => !okc tx k) tn = tn := by omega
      refine v_iload_n dX8_fault_55 rfl ?_
      refine v_if_eqB (tgt := 63) dX8_fault_56 (by decide) (fun b56 => ?_) (fun b56 => ?_)
      ·
        refine v_aload_n dX8_fault_63 rfl ?_
        refine v_get 4 dX8_fault_64 FTX8 (by decide) rfl fl_X8_56 hM.1 rfl ?_
        refine v_iret dX8_fault_67 rfl (Nat.le_refl _) (Nat.le_refl _) ?_
        exact ⟨by unfold flt; rw [if_neg (by omega), if_neg (by rw [← e1, b56]; decide)], rfl, rfl⟩
      ·
        refine v_iconst (v := -1) dX8_fault_59 (by decide) ?_
        refine v_goto (tgt := 67) dX8_fault_60 (by decide) ?_
        refine v_iret dX8_fault_67 rfl (Nat.le_refl _) (Nat.le_refl _) ?_
        exact ⟨by unfold flt; rw [if_neg (by omega), if_pos (by rw [← e1, b56])], rfl, rfl⟩
    ·
      refine v_aload_n dX8_fault_12 rfl ?_
      refine v_get 3 dX8_fault_13 FTX8 (by decide) rfl fl_X8_13 hM.1 rfl ?_
      refine v_iload_n dX8_fault_16 rfl ?_
      refine v_cald _ dX8_fault_17 hM.2.2.1 rfl (by omega) (by decide) ?_
      refine v_bipush (v := nI 97) dX8_fault_18 (by decide) ?_
      refine v_bipush (v := nI 122) dX8_fault_20 (by decide) ?_
      refine u_rS3 oX8_in dX8_fault_22 ml_X8_59 (c_inb (tx i) 97 122) (by decide) (Nat.le_of_ble_eq_true rfl) (Nat.le_refl _) (Nat.le_refl _) ?_
      refine v_istore_n dX8_fault_25 (by decide) rfl ?_
      refine v_iload_n dX8_fault_26 rfl ?_
      refine v_if_neB (tgt := 47) dX8_fault_27 (by decide) (fun b27 => ?_) (fun b27 => ?_)
      ·
        have q5 : i < fst (fun k => !okc tx k) tn := by
          rcases Nat.lt_or_ge i (fst (fun k => !okc tx k) tn) with h1 | h1
          · exact h1
          · have h2 := fst_yes (fun k => !okc tx k) tn (by omega)
            rw [show fst (fun k => !okc tx k) tn = i by omega] at h2
            simp [okc, ltr, b27] at h2
        refine v_iload_n dX8_fault_47 rfl ?_
        refine v_istore_n dX8_fault_48 (by decide) rfl ?_
        refine v_iincN dX8_fault_49 (by decide) rfl rfl rfl ?_
        refine v_goto (tgt := 4) dX8_fault_52 (by decide) ?_
        refine v_drop 3 ?_
        exact ih q5
      ·
        refine v_aload_n dX8_fault_30 rfl ?_
        refine v_get 3 dX8_fault_31 FTX8 (by decide) rfl fl_X8_13 hM.1 rfl ?_
        refine v_iload_n dX8_fault_34 rfl ?_
        refine v_cald _ dX8_fault_35 hM.2.2.1 rfl (by omega) (by decide) ?_
        refine v_bipush (v := nI 32) dX8_fault_36 (by decide) ?_
        refine v_icmp_ne (tgt := 45) dX8_fault_38 (by decide) (fun b38 => ?_) (fun b38 => ?_)
        ·
          have q6 : fst (fun k => !okc tx k) tn = i := by
            rcases Nat.lt_or_ge i (fst (fun k => !okc tx k) tn) with h1 | h1
            · have h2 := fst_no _ _ _ h1
              simp [okc, ltr, b27, bl, b38] at h2
            · omega
          refine v_iload_n dX8_fault_45 rfl ?_
          refine v_iret dX8_fault_46 rfl (Nat.le_refl _) (Nat.le_refl _) ?_
          exact ⟨by unfold flt; rw [q6, if_pos (by omega)], rfl, rfl⟩
        ·
          refine v_iload_n dX8_fault_41 rfl ?_
          refine v_if_neB (tgt := 47) dX8_fault_42 (by decide) (fun b42 => ?_) (fun b42 => ?_)
          ·
            have q5 : i < fst (fun k => !okc tx k) tn := by
              rcases Nat.lt_or_ge i (fst (fun k => !okc tx k) tn) with h1 | h1
              · exact h1
              · have h2 := fst_yes (fun k => !okc tx k) tn (by omega)
                rw [show fst (fun k => !okc tx k) tn = i by omega] at h2
                simp [okc, bl, b38, b42] at h2
            refine v_iload_n dX8_fault_47 rfl ?_
            refine v_istore_n dX8_fault_48 (by decide) rfl ?_
            refine v_iincN dX8_fault_49 (by decide) rfl rfl rfl ?_
            refine v_goto (tgt := 4) dX8_fault_52 (by decide) ?_
            refine v_drop 3 ?_
            exact ih q5
          ·
            have q6 : fst (fun k => !okc tx k) tn = i := by
              rcases Nat.lt_or_ge i (fst (fun k => !okc tx k) tn) with h1 | h1
              · have h2 := fst_no _ _ _ h1
                simp [okc, ltr, b27, b42] at h2
              · omega
            refine v_iload_n dX8_fault_45 rfl ?_
            refine v_iret dX8_fault_46 rfl (Nat.le_refl _) (Nat.le_refl _) ?_
            exact ⟨by unfold flt; rw [q6, if_pos (by omega)], rfl, rfl⟩
  exact LP4 0 (Nat.zero_le _)
end
section
/-- sums and counts of the reference's own loops -/
def smN (f : Nat → Nat) : Nat → Nat
  | 0 => 0
  | n + 1 => smN f n + f n
def vf (σ : Nat → Int32) (x : Int32) : Nat := cnt (fun k => σ (32 + k) == x) 240
def vo (σ : Nat → Int32) (v : Nat) : Nat := cnt (fun k => decide (0 ≤ σ (32 + 24 * v + k))) 24
def askB (σ : Nat → Int32) (r b : Nat) : Bool := decide ((σ (8 + r) >>> (nI b &&& 31)) &&& nI 1 = nI 1)
def ln (σ : Nat → Int32) (p : Nat) : Nat := nt (σ (272 + 64 * p))
def nwl (σ : Nat → Int32) (p : Nat) : Nat := nw (sft σ (272 + 64 * p + 4)) (ln σ p)
def lbS (σ : Nat → Int32) (r k s a b : Nat) : Nat := if k = 3 then (if s < nwl σ (3 * a + b) then nwl σ (3 * a + b) else s) else s + (if (askB σ r b == !decide (k = 2)) && (decide (0 < ln σ (3 * a + b)) == !decide (k = 1)) then 1 else 0)
def lbI (σ : Nat → Int32) (r k a s : Nat) : Nat → Nat
  | 0 => s
  | b + 1 => lbS σ r k (lbI σ r k a s b) a b
def lbO (σ : Nat → Int32) (r k : Nat) : Nat → Nat
  | 0 => 0
  | a + 1 => if σ a = nI r then lbI σ r k a (lbO σ r k a) 3 else lbO σ r k a
theorem nI_sub_pos {a b : Nat} (ha : a < 1073741824) (hb : b < 1073741824) : (0 : Int32) < nI a - nI b ↔ b < a := by
  rw [Int32.lt_iff_toInt_lt]
  have h1 := nI_toInt (n := a) (by omega)
  have h2 := nI_toInt (n := b) (by omega)
  have h3 : (nI a - nI b).toInt = (a : Int) - (b : Int) := by
    rw [Int32.toInt_sub, h1, h2]
    apply Int.bmod_eq_of_le <;> omega
  rw [h3, Int32.toInt_zero]
  omega
theorem nI_sub_neg {a b : Nat} (ha : a < 1073741824) (hb : b < 1073741824) : nI a - nI b < (0 : Int32) ↔ a < b := by
  rw [Int32.lt_iff_toInt_lt]
  have h1 := nI_toInt (n := a) (by omega)
  have h2 := nI_toInt (n := b) (by omega)
  have h3 : (nI a - nI b).toInt = (a : Int) - (b : Int) := by
    rw [Int32.toInt_sub, h1, h2]
    apply Int.bmod_eq_of_le <;> omega
  rw [h3, Int32.toInt_zero]
  omega
theorem nI_sub_0 {a b : Nat} (ha : a < 1073741824) (hb : b < 1073741824) : nI a - nI b = (0 : Int32) ↔ a = b := by
  have h1 := nI_sub_pos ha hb
  have h2 := nI_sub_neg ha hb
  constructor
  · intro h
    rw [h] at h1 h2
    have h3 : ¬ (0 : Int32) < 0 := by decide
    have h4 := mt h1.mpr h3
    have h5 := mt h2.mpr h3
    omega
  · intro h
    rw [h, Int32.sub_self]
theorem cn1 {p : Nat → Bool} {i : Nat} (h : p i = true) : nI (cnt p i + 1) = nI (cnt p (i + 1)) := by simp [cnt, h]
theorem cn0 {p : Nat → Bool} {i : Nat} (h : p i = false) : nI (cnt p i + 0) = nI (cnt p (i + 1)) := by simp [cnt, h]

set_option maxHeartbeats 4000000 in
set_option maxRecDepth 100000 in
theorem c_labels {w : Wd} {o ns tn : Nat} {kp : Int32} {σ tx cm : Nat → Int32} (hM : MW w o ns tn kp σ tx cm) (hl : ∀ p, p < 24 → ub (σ (272 + 64 * p)) 61) : Rd mX8_labels 0 [.ref o] w (some (.int (nI (cnt (fun p => decide (0 < ln σ p)) 24)))) := by
  intro sz
  refine Ev.ofV [some (.ref o), none, none] (by decide) (Nat.le_of_ble_eq_true rfl) rfl rfl rfl ?_
  refine v_iconst (v := nI 0) dX8_labels_0 (by decide) ?_
  refine v_istore_n dX8_labels_1 (by decide) rfl ?_
  refine v_iconst (v := nI 0) dX8_labels_2 (by decide) ?_
  refine v_istore_n dX8_labels_3 (by decide) rfl ?_
  have LP4 : ∀ i, i ≤ 24 → V mX8_labels 0 0 0 (fun r' w' z => r' = some (.int (nI (cnt (fun p => decide (0 < ln σ p)) 24))) ∧ w' = w ∧ z = sz) (w) (sz) (0) (0) [some (.ref o), some (.int (nI (cnt (fun p => decide (0 < ln σ p)) i))), some (.int (nI i))] [] 4 := by
    refine dn (fun i hi ih => ?_)
    refine v_iload_n dX8_labels_4 rfl ?_
    refine v_bipush (v := nI 24) dX8_labels_5 (by decide) ?_
    refine v_icmp_geN (tgt := 40) dX8_labels_7 (by decide) (by omega) (by omega) (fun b7 => ?_) (fun b7 => ?_)
    ·
      refine v_iload_n dX8_labels_40 rfl ?_
      refine v_iret dX8_labels_41 rfl (Nat.le_refl _) (Nat.le_refl _) ?_
      have ei : i = 24 := by omega
      subst ei
      exact ⟨rfl, rfl, rfl⟩
    ·
      refine v_iload_n dX8_labels_10 rfl ?_
      refine v_aload_n dX8_labels_11 rfl ?_
      refine v_get 0 dX8_labels_12 FTX8 (by decide) rfl fl_X8_7 hM.1 rfl ?_
      refine v_sipush (v := nI 272) dX8_labels_15 (by decide) ?_
      refine v_bipush (v := nI 64) dX8_labels_18 (by decide) ?_
      refine v_iload_n dX8_labels_20 rfl ?_
      refine v_imulN dX8_labels_21 ?_
      refine v_iaddN dX8_labels_22 ?_
      refine v_ialdN _ dX8_labels_23 hM.2.1 rfl (by omega) (by decide) (hl i (by omega)).1 ?_
      refine v_if_leN (tgt := 31) dX8_labels_24 (by decide) (by have := (hl i (by omega)).2; omega) (fun b24 => ?_) (fun b24 => ?_)
      ·
        have q := cn0 (p := (fun p => decide (0 < ln σ p))) (i := i) (by simp [ln, b24])
        refine v_iconst (v := nI 0) dX8_labels_31 (by decide) ?_
        refine v_iaddN dX8_labels_32 ?_
        refine v_istore_n dX8_labels_33 (by decide) rfl ?_
        refine v_iincN dX8_labels_34 (by decide) rfl rfl rfl ?_
        refine v_goto (tgt := 4) dX8_labels_37 (by decide) ?_
        refine v_eqL ?_ (ih (by omega))
        rw [← q]
        rfl
      ·
        have q := cn1 (p := (fun p => decide (0 < ln σ p))) (i := i) (by simp [ln, b24])
        refine v_iconst (v := nI 1) dX8_labels_27 (by decide) ?_
        refine v_goto (tgt := 32) dX8_labels_28 (by decide) ?_
        refine v_iaddN dX8_labels_32 ?_
        refine v_istore_n dX8_labels_33 (by decide) rfl ?_
        refine v_iincN dX8_labels_34 (by decide) rfl rfl rfl ?_
        refine v_goto (tgt := 4) dX8_labels_37 (by decide) ?_
        refine v_eqL ?_ (ih (by omega))
        rw [← q]
        rfl
  exact LP4 0 (Nat.zero_le _)
set_option maxHeartbeats 4000000 in
set_option maxRecDepth 100000 in
theorem c_worksOf {w : Wd} {o ns tn : Nat} {kp : Int32} {σ tx cm : Nat → Int32} (hM : MW w o ns tn kp σ tx cm) (x : Int32) : Rd mX8_worksOf 0 [.ref o, .int x] w (some (.int (nI (cnt (fun a => σ a == x) 8)))) := by
  intro sz
  refine Ev.ofV [some (.ref o), some (.int x), none, none] (by decide) (Nat.le_of_ble_eq_true rfl) rfl rfl rfl ?_
  refine v_iconst (v := nI 0) dX8_worksOf_0 (by decide) ?_
  refine v_istore_n dX8_worksOf_1 (by decide) rfl ?_
  refine v_iconst (v := nI 0) dX8_worksOf_2 (by decide) ?_
  refine v_istore_n dX8_worksOf_3 (by decide) rfl ?_
  have LP4 : ∀ i, i ≤ 8 → V mX8_worksOf 0 0 0 (fun r' w' z => r' = some (.int (nI (cnt (fun a => σ a == x) 8))) ∧ w' = w ∧ z = sz) (w) (sz) (0) (0) [some (.ref o), some (.int x), some (.int (nI (cnt (fun a => σ a == x) i))), some (.int (nI i))] [] 4 := by
    refine dn (fun i hi ih => ?_)
    refine v_iload_n dX8_worksOf_4 rfl ?_
    refine v_bipush (v := nI 8) dX8_worksOf_5 (by decide) ?_
    refine v_icmp_geN (tgt := 34) dX8_worksOf_7 (by decide) (by omega) (by omega) (fun b7 => ?_) (fun b7 => ?_)
    ·
      refine v_iload_n dX8_worksOf_34 rfl ?_
      refine v_iret dX8_worksOf_35 rfl (Nat.le_refl _) (Nat.le_refl _) ?_
      have ei : i = 8 := by omega
      subst ei
      exact ⟨rfl, rfl, rfl⟩
    ·
      refine v_iload_n dX8_worksOf_10 rfl ?_
      refine v_aload_n dX8_worksOf_11 rfl ?_
      refine v_get 0 dX8_worksOf_12 FTX8 (by decide) rfl fl_X8_7 hM.1 rfl ?_
      refine v_iload_n dX8_worksOf_15 rfl ?_
      refine v_iald _ dX8_worksOf_16 hM.2.1 rfl (by omega) (by decide) ?_
      refine v_iload_n dX8_worksOf_17 rfl ?_
      refine v_icmp_ne (tgt := 25) dX8_worksOf_18 (by decide) (fun b18 => ?_) (fun b18 => ?_)
      ·
        refine v_iconst (v := nI 0) dX8_worksOf_25 (by decide) ?_
        refine v_iaddN dX8_worksOf_26 ?_
        refine v_istore_n dX8_worksOf_27 (by decide) rfl ?_
        refine v_iincN dX8_worksOf_28 (by decide) rfl rfl rfl ?_
        refine v_goto (tgt := 4) dX8_worksOf_31 (by decide) ?_
        refine v_eqL ?_ (ih (by omega))
        simp [st, cnt, Nat.add_assoc, b18]
      ·
        refine v_iconst (v := nI 1) dX8_worksOf_21 (by decide) ?_
        refine v_goto (tgt := 26) dX8_worksOf_22 (by decide) ?_
        refine v_iaddN dX8_worksOf_26 ?_
        refine v_istore_n dX8_worksOf_27 (by decide) rfl ?_
        refine v_iincN dX8_worksOf_28 (by decide) rfl rfl rfl ?_
        refine v_goto (tgt := 4) dX8_worksOf_31 (by decide) ?_
        refine v_eqL ?_ (ih (by omega))
        simp [st, cnt, Nat.add_assoc, b18]
  exact LP4 0 (Nat.zero_le _)
set_option maxHeartbeats 4000000 in
set_option maxRecDepth 100000 in
theorem c_rewritesOf {w : Wd} {o ns tn : Nat} {kp : Int32} {σ tx cm : Nat → Int32} (hM : MW w o ns tn kp σ tx cm) (x : Int32) : Rd mX8_rewritesOf 1 [.ref o, .int x] w (some (.int (nI (cnt (fun k => decide (0 ≤ σ (1808 + 65 * k)) && (decide (x < 0) || σ (1808 + 65 * k + 2) == x)) 16)))) := by
  intro sz
  refine Ev.ofV [some (.ref o), some (.int x), none, none] (by decide) (Nat.le_of_ble_eq_true rfl) rfl rfl rfl ?_
  refine v_iconst (v := nI 0) dX8_rewritesOf_0 (by decide) ?_
  refine v_istore_n dX8_rewritesOf_1 (by decide) rfl ?_
  refine v_iconst (v := nI 0) dX8_rewritesOf_2 (by decide) ?_
  refine v_istore_n dX8_rewritesOf_3 (by decide) rfl ?_
  have LP4 : ∀ i, i ≤ 16 → V mX8_rewritesOf 1 0 0 (fun r' w' z => r' = some (.int (nI (cnt (fun k => decide (0 ≤ σ (1808 + 65 * k)) && (decide (x < 0) || σ (1808 + 65 * k + 2) == x)) 16))) ∧ w' = w ∧ z = sz) (w) (sz) (0) (0) [some (.ref o), some (.int x), some (.int (nI (cnt (fun k => decide (0 ≤ σ (1808 + 65 * k)) && (decide (x < 0) || σ (1808 + 65 * k + 2) == x)) i))), some (.int (nI i))] [] 4 := by
    refine dn (fun i hi ih => ?_)
    refine v_iload_n dX8_rewritesOf_4 rfl ?_
    refine v_bipush (v := nI 16) dX8_rewritesOf_5 (by decide) ?_
    refine v_icmp_geN (tgt := 55) dX8_rewritesOf_7 (by decide) (by omega) (by omega) (fun b7 => ?_) (fun b7 => ?_)
    ·
      refine v_iload_n dX8_rewritesOf_55 rfl ?_
      refine v_iret dX8_rewritesOf_56 rfl (Nat.le_refl _) (Nat.le_refl _) ?_
      have ei : i = 16 := by omega
      subst ei
      exact ⟨rfl, rfl, rfl⟩
    ·
      refine v_iload_n dX8_rewritesOf_10 rfl ?_
      refine v_aload_n dX8_rewritesOf_11 rfl ?_
      refine v_get 0 dX8_rewritesOf_12 FTX8 (by decide) rfl fl_X8_7 hM.1 rfl ?_
      refine v_iload_n dX8_rewritesOf_15 rfl ?_
      refine u_rS1 oX8_paper dX8_rewritesOf_16 ml_X8_49 (c_paper i) (by decide) (Nat.le_of_ble_eq_true rfl) (Nat.le_refl _) (Nat.le_refl _) ?_
      refine v_iald _ dX8_rewritesOf_19 hM.2.1 rfl (by omega) (by decide) ?_
      refine v_if_lt (tgt := 46) dX8_rewritesOf_20 (by decide) (fun b20 => ?_) (fun b20 => ?_)
      ·
        have q := cn0 (p := (fun k => decide (0 ≤ σ (1808 + 65 * k)) && (decide (x < 0) || σ (1808 + 65 * k + 2) == x))) (i := i) (by simp [Int32.not_le.mpr b20])
        refine v_iconst (v := nI 0) dX8_rewritesOf_46 (by decide) ?_
        refine v_iaddN dX8_rewritesOf_47 ?_
        refine v_istore_n dX8_rewritesOf_48 (by decide) rfl ?_
        refine v_iincN dX8_rewritesOf_49 (by decide) rfl rfl rfl ?_
        refine v_goto (tgt := 4) dX8_rewritesOf_52 (by decide) ?_
        refine v_eqL ?_ (ih (by omega))
        rw [← q]
        rfl
      ·
        have q1 : (0 : Int32) ≤ σ (1808 + 65 * i) := Int32.not_lt.mp b20
        refine v_iload_n dX8_rewritesOf_23 rfl ?_
        refine v_if_lt (tgt := 42) dX8_rewritesOf_24 (by decide) (fun b24 => ?_) (fun b24 => ?_)
        ·
          have q := cn1 (p := (fun k => decide (0 ≤ σ (1808 + 65 * k)) && (decide (x < 0) || σ (1808 + 65 * k + 2) == x))) (i := i) (by simp [q1, b24])
          refine v_iconst (v := nI 1) dX8_rewritesOf_42 (by decide) ?_
          refine v_goto (tgt := 47) dX8_rewritesOf_43 (by decide) ?_
          refine v_iaddN dX8_rewritesOf_47 ?_
          refine v_istore_n dX8_rewritesOf_48 (by decide) rfl ?_
          refine v_iincN dX8_rewritesOf_49 (by decide) rfl rfl rfl ?_
          refine v_goto (tgt := 4) dX8_rewritesOf_52 (by decide) ?_
          refine v_eqL ?_ (ih (by omega))
          rw [← q]
          rfl
        ·
          refine v_aload_n dX8_rewritesOf_27 rfl ?_
          refine v_get 0 dX8_rewritesOf_28 FTX8 (by decide) rfl fl_X8_7 hM.1 rfl ?_
          refine v_iload_n dX8_rewritesOf_31 rfl ?_
          refine u_rS1 oX8_paper dX8_rewritesOf_32 ml_X8_49 (c_paper i) (by decide) (Nat.le_of_ble_eq_true rfl) (Nat.le_refl _) (Nat.le_refl _) ?_
          refine v_iconst (v := nI 2) dX8_rewritesOf_35 (by decide) ?_
          refine v_iaddN dX8_rewritesOf_36 ?_
          refine v_iald _ dX8_rewritesOf_37 hM.2.1 rfl (by omega) (by decide) ?_
          refine v_iload_n dX8_rewritesOf_38 rfl ?_
          refine v_icmp_ne (tgt := 46) dX8_rewritesOf_39 (by decide) (fun b39 => ?_) (fun b39 => ?_)
          ·
            have q := cn0 (p := (fun k => decide (0 ≤ σ (1808 + 65 * k)) && (decide (x < 0) || σ (1808 + 65 * k + 2) == x))) (i := i) (by simp [b24, b39])
            refine v_iconst (v := nI 0) dX8_rewritesOf_46 (by decide) ?_
            refine v_iaddN dX8_rewritesOf_47 ?_
            refine v_istore_n dX8_rewritesOf_48 (by decide) rfl ?_
            refine v_iincN dX8_rewritesOf_49 (by decide) rfl rfl rfl ?_
            refine v_goto (tgt := 4) dX8_rewritesOf_52 (by decide) ?_
            refine v_eqL ?_ (ih (by omega))
            rw [← q]
            rfl
          ·
            have q := cn1 (p := (fun k => decide (0 ≤ σ (1808 + 65 * k)) && (decide (x < 0) || σ (1808 + 65 * k + 2) == x))) (i := i) (by simp [q1, b39])
            refine v_iconst (v := nI 1) dX8_rewritesOf_42 (by decide) ?_
            refine v_goto (tgt := 47) dX8_rewritesOf_43 (by decide) ?_
            refine v_iaddN dX8_rewritesOf_47 ?_
            refine v_istore_n dX8_rewritesOf_48 (by decide) rfl ?_
            refine v_iincN dX8_rewritesOf_49 (by decide) rfl rfl rfl ?_
            refine v_goto (tgt := 4) dX8_rewritesOf_52 (by decide) ?_
            refine v_eqL ?_ (ih (by omega))
            rw [← q]
            rfl
  exact LP4 0 (Nat.zero_le _)
set_option maxHeartbeats 4000000 in
set_option maxRecDepth 100000 in
theorem c_votesOf {w : Wd} {o ns tn : Nat} {kp : Int32} {σ tx cm : Nat → Int32} (hM : MW w o ns tn kp σ tx cm) (v : Nat) (hv : v < 10) : Rd mX8_votesOf 0 [.ref o, .int (nI v)] w (some (.int (nI (vo σ v)))) := by
  intro sz
  refine Ev.ofV [some (.ref o), some (.int (nI v)), none, none] (by decide) (Nat.le_of_ble_eq_true rfl) rfl rfl rfl ?_
  refine v_iconst (v := nI 0) dX8_votesOf_0 (by decide) ?_
  refine v_istore_n dX8_votesOf_1 (by decide) rfl ?_
  refine v_iconst (v := nI 0) dX8_votesOf_2 (by decide) ?_
  refine v_istore_n dX8_votesOf_3 (by decide) rfl ?_
  have LP4 : ∀ i, i ≤ 24 → V mX8_votesOf 0 0 0 (fun r' w' z => r' = some (.int (nI (vo σ v))) ∧ w' = w ∧ z = sz) (w) (sz) (0) (0) [some (.ref o), some (.int (nI v)), some (.int (nI (cnt (fun k => decide (0 ≤ σ (32 + 24 * v + k))) i))), some (.int (nI i))] [] 4 := by
    refine dn (fun i hi ih => ?_)
    refine v_iload_n dX8_votesOf_4 rfl ?_
    refine v_bipush (v := nI 24) dX8_votesOf_5 (by decide) ?_
    refine v_icmp_geN (tgt := 41) dX8_votesOf_7 (by decide) (by omega) (by omega) (fun b7 => ?_) (fun b7 => ?_)
    ·
      refine v_iload_n dX8_votesOf_41 rfl ?_
      refine v_iret dX8_votesOf_42 rfl (Nat.le_refl _) (Nat.le_refl _) ?_
      have ei : i = 24 := by omega
      subst ei
      exact ⟨rfl, rfl, rfl⟩
    ·
      refine v_iload_n dX8_votesOf_10 rfl ?_
      refine v_aload_n dX8_votesOf_11 rfl ?_
      refine v_get 0 dX8_votesOf_12 FTX8 (by decide) rfl fl_X8_7 hM.1 rfl ?_
      refine v_bipush (v := nI 32) dX8_votesOf_15 (by decide) ?_
      refine v_bipush (v := nI 24) dX8_votesOf_17 (by decide) ?_
      refine v_iload_n dX8_votesOf_19 rfl ?_
      refine v_imulN dX8_votesOf_20 ?_
      refine v_iaddN dX8_votesOf_21 ?_
      refine v_iload_n dX8_votesOf_22 rfl ?_
      refine v_iaddN dX8_votesOf_23 ?_
      refine v_iald _ dX8_votesOf_24 hM.2.1 rfl (by omega) (by decide) ?_
      refine v_if_lt (tgt := 32) dX8_votesOf_25 (by decide) (fun b25 => ?_) (fun b25 => ?_)
      ·
        have q := cn0 (p := (fun k => decide (0 ≤ σ (32 + 24 * v + k)))) (i := i) (by simp [Int32.not_le.mpr b25])
        refine v_iconst (v := nI 0) dX8_votesOf_32 (by decide) ?_
        refine v_iaddN dX8_votesOf_33 ?_
        refine v_istore_n dX8_votesOf_34 (by decide) rfl ?_
        refine v_iincN dX8_votesOf_35 (by decide) rfl rfl rfl ?_
        refine v_goto (tgt := 4) dX8_votesOf_38 (by decide) ?_
        refine v_eqL ?_ (ih (by omega))
        rw [← q]
        rfl
      ·
        have q := cn1 (p := (fun k => decide (0 ≤ σ (32 + 24 * v + k)))) (i := i) (by simp [Int32.not_lt.mp b25])
        refine v_iconst (v := nI 1) dX8_votesOf_28 (by decide) ?_
        refine v_goto (tgt := 33) dX8_votesOf_29 (by decide) ?_
        refine v_iaddN dX8_votesOf_33 ?_
        refine v_istore_n dX8_votesOf_34 (by decide) rfl ?_
        refine v_iincN dX8_votesOf_35 (by decide) rfl rfl rfl ?_
        refine v_goto (tgt := 4) dX8_votesOf_38 (by decide) ?_
        refine v_eqL ?_ (ih (by omega))
        rw [← q]
        rfl
  exact LP4 0 (Nat.zero_le _)
set_option maxHeartbeats 4000000 in
set_option maxRecDepth 100000 in
theorem c_allVotes {w : Wd} {o ns tn : Nat} {kp : Int32} {σ tx cm : Nat → Int32} (hM : MW w o ns tn kp σ tx cm) : Rd mX8_allVotes 1 [.ref o] w (some (.int (nI (smN (vo σ) 10)))) := by
  intro sz
  refine Ev.ofV [some (.ref o), none, none] (by decide) (Nat.le_of_ble_eq_true rfl) rfl rfl rfl ?_
  refine v_iconst (v := nI 0) dX8_allVotes_0 (by decide) ?_
  refine v_istore_n dX8_allVotes_1 (by decide) rfl ?_
  refine v_iconst (v := nI 0) dX8_allVotes_2 (by decide) ?_
  refine v_istore_n dX8_allVotes_3 (by decide) rfl ?_
  have LP4 : ∀ i, i ≤ 10 → V mX8_allVotes 1 0 0 (fun r' w' z => r' = some (.int (nI (smN (vo σ) 10))) ∧ w' = w ∧ z = sz) (w) (sz) (0) (0) [some (.ref o), some (.int (nI (smN (vo σ) i))), some (.int (nI i))] [] 4 := by
    refine dn (fun i hi ih => ?_)
    refine v_iload_n dX8_allVotes_4 rfl ?_
    refine v_bipush (v := nI 10) dX8_allVotes_5 (by decide) ?_
    refine v_icmp_geN (tgt := 24) dX8_allVotes_7 (by decide) (by omega) (by omega) (fun b7 => ?_) (fun b7 => ?_)
    ·
      refine v_iload_n dX8_allVotes_24 rfl ?_
      refine v_iret dX8_allVotes_25 rfl (Nat.le_refl _) (Nat.le_refl _) ?_
      have ei : i = 10 := by omega
      subst ei
      exact ⟨rfl, rfl, rfl⟩
    ·
      refine v_iload_n dX8_allVotes_10 rfl ?_
      refine v_aload_n dX8_allVotes_11 rfl ?_
      refine v_iload_n dX8_allVotes_12 rfl ?_
      refine u_rV1 oX8_votesOf dX8_allVotes_13 ml_X8_131 (c_votesOf hM i (by omega)) hM.1 (by decide) (Nat.le_of_ble_eq_true rfl) (Nat.le_refl _) (Nat.le_refl _) ?_
      refine v_iaddN dX8_allVotes_16 ?_
      refine v_istore_n dX8_allVotes_17 (by decide) rfl ?_
      refine v_iincN dX8_allVotes_18 (by decide) rfl rfl rfl ?_
      refine v_goto (tgt := 4) dX8_allVotes_21 (by decide) ?_
      exact ih (by omega)
  exact LP4 0 (Nat.zero_le _)
set_option maxHeartbeats 4000000 in
set_option maxRecDepth 100000 in
theorem c_standing {w : Wd} {o ns tn : Nat} {kp : Int32} {σ tx cm : Nat → Int32} (hM : MW w o ns tn kp σ tx cm) (hl : ∀ p, p < 24 → ub (σ (272 + 64 * p)) 61) (x : Int32) : Rd mX8_standing 0 [.ref o, .int x] w (some (.int (nI (cnt (fun p => decide (0 < ln σ p) && σ (272 + 64 * p + 1) == x) 24)))) := by
  intro sz
  refine Ev.ofV [some (.ref o), some (.int x), none, none, none] (by decide) (Nat.le_of_ble_eq_true rfl) rfl rfl rfl ?_
  refine v_iconst (v := nI 0) dX8_standing_0 (by decide) ?_
  refine v_istore_n dX8_standing_1 (by decide) rfl ?_
  refine v_iconst (v := nI 0) dX8_standing_2 (by decide) ?_
  refine v_istore_n dX8_standing_3 (by decide) rfl ?_
  have LP4 : ∀ i, i ≤ 24 → V mX8_standing 0 0 0 (fun r' w' z => r' = some (.int (nI (cnt (fun p => decide (0 < ln σ p) && σ (272 + 64 * p + 1) == x) 24))) ∧ w' = w ∧ z = sz) (w) (sz) (0) (0) [some (.ref o), some (.int x), some (.int (nI (cnt (fun p => decide (0 < ln σ p) && σ (272 + 64 * p + 1) == x) i))), some (.int (nI i)), none] [] 4 := by
    refine dn (fun i hi ih => ?_)
    refine v_iload_n dX8_standing_4 rfl ?_
    refine v_bipush (v := nI 24) dX8_standing_5 (by decide) ?_
    refine v_icmp_geN (tgt := 57) dX8_standing_7 (by decide) (by omega) (by omega) (fun b7 => ?_) (fun b7 => ?_)
    ·
      refine v_iload_n dX8_standing_57 rfl ?_
      refine v_iret dX8_standing_58 rfl (Nat.le_refl _) (Nat.le_refl _) ?_
      have ei : i = 24 := by omega
      subst ei
      exact ⟨rfl, rfl, rfl⟩
    ·
      refine v_sipush (v := nI 272) dX8_standing_10 (by decide) ?_
      refine v_bipush (v := nI 64) dX8_standing_13 (by decide) ?_
      refine v_iload_n dX8_standing_15 rfl ?_
      refine v_imulN dX8_standing_16 ?_
      refine v_iaddN dX8_standing_17 ?_
      refine v_istore dX8_standing_18 (by decide) rfl ?_
      refine v_iload_n dX8_standing_20 rfl ?_
      refine v_aload_n dX8_standing_21 rfl ?_
      refine v_get 0 dX8_standing_22 FTX8 (by decide) rfl fl_X8_7 hM.1 rfl ?_
      refine v_iload dX8_standing_25 rfl ?_
      refine v_ialdN _ dX8_standing_27 hM.2.1 rfl (by omega) (by decide) (hl i (by omega)).1 ?_
      refine v_if_leN (tgt := 48) dX8_standing_28 (by decide) (by have := (hl i (by omega)).2; omega) (fun b28 => ?_) (fun b28 => ?_)
      ·
        have q := cn0 (p := (fun p => decide (0 < ln σ p) && σ (272 + 64 * p + 1) == x)) (i := i) (by simp [ln, b28])
        refine v_iconst (v := nI 0) dX8_standing_48 (by decide) ?_
        refine v_iaddN dX8_standing_49 ?_
        refine v_istore_n dX8_standing_50 (by decide) rfl ?_
        refine v_iincN dX8_standing_51 (by decide) rfl rfl rfl ?_
        refine v_goto (tgt := 4) dX8_standing_54 (by decide) ?_
        refine v_drop 4 ?_
        refine v_eqL ?_ (ih (by omega))
        rw [← q]
        rfl
      ·
        refine v_aload_n dX8_standing_31 rfl ?_
        refine v_get 0 dX8_standing_32 FTX8 (by decide) rfl fl_X8_7 hM.1 rfl ?_
        refine v_iload dX8_standing_35 rfl ?_
        refine v_iconst (v := nI 1) dX8_standing_37 (by decide) ?_
        refine v_iaddN dX8_standing_38 ?_
        refine v_iald _ dX8_standing_39 hM.2.1 rfl (by omega) (by decide) ?_
        refine v_iload_n dX8_standing_40 rfl ?_
        refine v_icmp_ne (tgt := 48) dX8_standing_41 (by decide) (fun b41 => ?_) (fun b41 => ?_)
        ·
          have q := cn0 (p := (fun p => decide (0 < ln σ p) && σ (272 + 64 * p + 1) == x)) (i := i) (by simp [b41])
          refine v_iconst (v := nI 0) dX8_standing_48 (by decide) ?_
          refine v_iaddN dX8_standing_49 ?_
          refine v_istore_n dX8_standing_50 (by decide) rfl ?_
          refine v_iincN dX8_standing_51 (by decide) rfl rfl rfl ?_
          refine v_goto (tgt := 4) dX8_standing_54 (by decide) ?_
          refine v_drop 4 ?_
          refine v_eqL ?_ (ih (by omega))
          rw [← q]
          rfl
        ·
          have q := cn1 (p := (fun p => decide (0 < ln σ p) && σ (272 + 64 * p + 1) == x)) (i := i) (by simp [ln, b28, b41])
          refine v_iconst (v := nI 1) dX8_standing_44 (by decide) ?_
          refine v_goto (tgt := 49) dX8_standing_45 (by decide) ?_
          refine v_iaddN dX8_standing_49 ?_
          refine v_istore_n dX8_standing_50 (by decide) rfl ?_
          refine v_iincN dX8_standing_51 (by decide) rfl rfl rfl ?_
          refine v_goto (tgt := 4) dX8_standing_54 (by decide) ?_
          refine v_drop 4 ?_
          refine v_eqL ?_ (ih (by omega))
          rw [← q]
          rfl
  exact LP4 0 (Nat.zero_le _)
end
section
/-- the first i numbers of state t are those of state f -/
def cpS (σ : Nat → Int32) (f t i : Nat) : Nat → Int32 := fun q => if 2848 * t ≤ q ∧ q < 2848 * t + i then σ (2848 * f + (q - 2848 * t)) else σ q
theorem cpS_0 (σ : Nat → Int32) (f t : Nat) : cpS σ f t 0 = σ := by
  funext q
  simp only [cpS]
  rw [if_neg (by omega)]
theorem cpS_rd {σ : Nat → Int32} {f t i k : Nat} (h : f ≠ t) (hi : i ≤ 2848) (hk : k < 2848) : cpS σ f t i (2848 * f + k) = σ (2848 * f + k) := by
  simp only [cpS]
  rw [if_neg (by omega)]
theorem cpS_S {σ : Nat → Int32} {f t i : Nat} : upd (cpS σ f t i) (2848 * t + i) (σ (2848 * f + i)) = cpS σ f t (i + 1) := by
  funext q
  simp only [upd, cpS]
  by_cases e : q = 2848 * t + i
  · subst e
    rw [if_pos rfl, if_pos (by omega)]
    congr 1
    omega
  · rw [if_neg e]
    by_cases h1 : 2848 * t ≤ q ∧ q < 2848 * t + i
    · rw [if_pos h1, if_pos (by omega)]
    · rw [if_neg h1, if_neg (by omega)]
def frO (o : Nat) (w w' : Wd) : Prop := ∀ q, (q < o ∨ o + 4 ≤ q) → w' q = w q
theorem frO.rf (o : Nat) (w : Wd) : frO o w w := fun _ _ => rfl
theorem frO.wu {o a : Nat} {w w' : Wd} (h : frO o w w') (x : Cl) (h1 : o ≤ a) (h2 : a < o + 4) : frO o w (wu w' a x) := fun q hq => (wu_ne w' x (by omega)).trans (h q hq)
theorem frO.tr {o : Nat} {w w' w2 : Wd} (h : frO o w w') (h2 : frO o w' w2) : frO o w w2 := fun q hq => (h2 q hq).trans (h q hq)
def moO (o ns tn : Nat) (kp : Int32) : Cl := ob 8 [.ref (o + 1), .int (nI ns), .int kp, .ref (o + 2), .int (nI tn), .ref (o + 3)]
theorem MW.so {w : Wd} {o ns tn : Nat} {kp : Int32} {σ tx cm : Nat → Int32} (h : MW w o ns tn kp σ tx cm) (ns' tn' : Nat) (kp' : Int32) : MW (wu w o (moO o ns' tn' kp')) o ns' tn' kp' σ tx cm :=
  ⟨wu_eq w _ _, (wu_ne w _ (by omega)).trans h.2.1, (wu_ne w _ (by omega)).trans h.2.2.1, (wu_ne w _ (by omega)).trans h.2.2.2⟩
theorem MW.tx {w : Wd} {o ns tn : Nat} {kp : Int32} {σ tx cm : Nat → Int32} (h : MW w o ns tn kp σ tx cm) (tx' : Nat → Int32) : MW (wu w (o + 2) (ia 0 60 tx')) o ns tn kp σ tx' cm :=
  ⟨(wu_ne w _ (by omega)).trans h.1, (wu_ne w _ (by omega)).trans h.2.1, wu_eq w _ _, (wu_ne w _ (by omega)).trans h.2.2.2⟩
theorem MW.cm {w : Wd} {o ns tn : Nat} {kp : Int32} {σ tx cm : Nat → Int32} (h : MW w o ns tn kp σ tx cm) (cm' : Nat → Int32) : MW (wu w (o + 3) (ia 1 961 cm')) o ns tn kp σ tx cm' :=
  ⟨(wu_ne w _ (by omega)).trans h.1, (wu_ne w _ (by omega)).trans h.2.1, (wu_ne w _ (by omega)).trans h.2.2.1, wu_eq w _ _⟩
/-- one more state recorded: the oldest is dropped when there are four -/
def rcn (ns : Nat) : Nat := if ns = 4 then 4 else ns + 1
def rc3 (σ : Nat → Int32) : Nat → Nat → Int32
  | 0 => σ
  | j + 1 => cpS (rc3 σ j) (j + 2) (j + 1) 2848
def rcS (σ : Nat → Int32) (ns : Nat) : Nat → Int32 := cpS (if ns = 4 then rc3 σ 3 else σ) 0 (rcn ns) 2848

set_option maxHeartbeats 4000000 in
set_option maxRecDepth 100000 in
theorem c_copies {w : Wd} {o ns tn : Nat} {kp : Int32} {σ tx cm : Nat → Int32} (hM : MW w o ns tn kp σ tx cm) (f t : Nat) (hf : f < 6) (ht : t < 6) (hne : f ≠ t) : Wr mX8_copies 0 [.ref o, .int (nI f), .int (nI t)] w (fun r' w' => r' = none ∧ w' = wu w (o + 1) (ia 1 17088 (cpS σ f t 2848))) := by
  intro sz
  refine Ev.ofV [some (.ref o), some (.int (nI f)), some (.int (nI t)), none] (by decide) (Nat.le_of_ble_eq_true rfl) rfl rfl rfl ?_
  refine v_eqw hM.self ?_
  refine v_iconst (v := nI 0) dX8_copies_0 (by decide) ?_
  refine v_istore_n dX8_copies_1 (by decide) rfl ?_
  have LP2 : ∀ i, i ≤ 2848 → V mX8_copies 0 0 0 (fun r' w' z => z = sz ∧ r' = none ∧ w' = wu w (o + 1) (ia 1 17088 (cpS σ f t 2848))) (wu w (o + 1) (ia 1 17088 (cpS σ f t i))) (sz) (0) (0) [some (.ref o), some (.int (nI f)), some (.int (nI t)), some (.int (nI i))] [] 2 := by
    refine dn (fun i hi ih => ?_)
    refine v_iload_n dX8_copies_2 rfl ?_
    refine v_sipush (v := nI 2848) dX8_copies_3 (by decide) ?_
    refine v_icmp_geN (tgt := 39) dX8_copies_6 (by decide) (by omega) (by omega) (fun b6 => ?_) (fun b6 => ?_)
    ·
      have e1 : i = 2848 := by omega
      subst e1
      refine v_ret dX8_copies_39 rfl (Nat.le_refl _) (Nat.le_refl _) ?_
      exact ⟨rfl, rfl, rfl⟩
    ·
      refine v_aload_n dX8_copies_9 rfl ?_
      refine v_get 0 dX8_copies_10 FTX8 (by decide) rfl fl_X8_7 (hM.st _).1 rfl ?_
      refine v_sipush (v := nI 2848) dX8_copies_13 (by decide) ?_
      refine v_iload_n dX8_copies_16 rfl ?_
      refine v_imulN dX8_copies_17 ?_
      refine v_iload_n dX8_copies_18 rfl ?_
      refine v_iaddN dX8_copies_19 ?_
      refine v_aload_n dX8_copies_20 rfl ?_
      refine v_get 0 dX8_copies_21 FTX8 (by decide) rfl fl_X8_7 (hM.st _).1 rfl ?_
      refine v_sipush (v := nI 2848) dX8_copies_24 (by decide) ?_
      refine v_iload_n dX8_copies_27 rfl ?_
      refine v_imulN dX8_copies_28 ?_
      refine v_iload_n dX8_copies_29 rfl ?_
      refine v_iaddN dX8_copies_30 ?_
      refine v_ialdE _ dX8_copies_31 (hM.st _).2.1 rfl (by omega) (by decide) (cpS_rd hne hi (by omega)) ?_
      refine v_iast _ dX8_copies_32 (hM.st _).2.1 rfl (by omega) (by decide) ?_
      refine v_eqw (wu_wu _ _ _ _).symm ?_
      refine v_iincN dX8_copies_33 (by decide) rfl rfl rfl ?_
      refine v_goto (tgt := 2) dX8_copies_36 (by decide) ?_
      refine v_sg cpS_S.symm ?_
      exact ih (by omega)
  refine v_sg (cpS_0 σ f t) ?_
  exact LP2 0 (Nat.zero_le _)
set_option maxHeartbeats 4000000 in
set_option maxRecDepth 100000 in
theorem c_records {w : Wd} {o ns tn : Nat} {kp : Int32} {σ tx cm : Nat → Int32} (hM : MW w o ns tn kp σ tx cm) (hns : ns ≤ 4) : Wr mX8_records 1 [.ref o] w (fun r' w' => r' = none ∧ MW w' o (rcn ns) tn kp (rcS σ ns) tx cm ∧ frO o w w') := by
  intro sz
  refine Ev.ofV [some (.ref o), none] (by decide) (Nat.le_of_ble_eq_true rfl) rfl rfl rfl ?_
  have TL : ∀ (w1 : Wd) (n1 : Nat) (s1 : Nat → Int32), MW w1 o n1 tn kp s1 tx cm → frO o w w1 → n1 ≤ 3 → rcn ns = n1 + 1 → rcS σ ns = cpS s1 0 (n1 + 1) 2848 → V mX8_records 1 0 0 (fun r' w' z => z = sz ∧ r' = none ∧ MW w' o (rcn ns) tn kp (rcS σ ns) tx cm ∧ frO o w w') (w1) (sz) (0) (0) [some (.ref o), none] [] 39 := by
    intro w1 n1 s1 h1 f1 hn e1 e2
    refine v_aload_n dX8_records_39 rfl ?_
    refine v_dup dX8_records_40 rfl ?_
    refine v_get 1 dX8_records_41 FTX8 (by decide) rfl fl_X8_20 h1.1 rfl ?_
    refine v_iconst (v := nI 1) dX8_records_44 (by decide) ?_
    refine v_iaddN dX8_records_45 ?_
    refine v_put 1 dX8_records_46 FTX8 (by decide) rfl fl_X8_20 h1.1 rfl rfl (Nat.le_of_ble_eq_true rfl) rfl ?_
    have h2 := h1.so (n1 + 1) tn kp
    refine v_aload_n dX8_records_49 rfl ?_
    refine v_iconst (v := nI 0) dX8_records_50 (by decide) ?_
    refine v_aload_n dX8_records_51 rfl ?_
    refine v_get 1 dX8_records_52 FTX8 (by decide) rfl fl_X8_20 h2.1 rfl ?_
    refine n_wV2 oX8_copies dX8_records_55 ml_X8_24 (c_copies h2 0 (n1 + 1) (by omega) (by omega) (by omega)) h2.1 (by decide) (Nat.le_of_ble_eq_true rfl) (Nat.le_refl _) (Nat.le_refl _) ?_
    refine v_ret dX8_records_58 rfl (Nat.le_refl _) (Nat.le_refl _) ?_
    exact ⟨rfl, rfl, by rw [e1, e2]; exact h2.st _, (f1.wu _ (by omega) (by omega)).wu _ (by omega) (by omega)⟩
  refine v_aload_n dX8_records_0 rfl ?_
  refine v_get 1 dX8_records_1 FTX8 (by decide) rfl fl_X8_20 hM.1 rfl ?_
  refine v_iconst (v := nI 4) dX8_records_4 (by decide) ?_
  refine v_icmp_neN (tgt := 39) dX8_records_5 (by decide) (by omega) (by omega) (fun b5 => ?_) (fun b5 => ?_)
  ·
    exact TL w ns σ hM (frO.rf o w) (by omega) (by simp [rcn, b5]) (by simp [rcS, rcn, b5])
  ·
    refine v_iconst (v := nI 1) dX8_records_8 (by decide) ?_
    refine v_istore_n dX8_records_9 (by decide) rfl ?_
    have LP10 : ∀ j, j ≤ 3 → V mX8_records 1 0 0 (fun r' w' z => z = sz ∧ r' = none ∧ MW w' o (rcn ns) tn kp (rcS σ ns) tx cm ∧ frO o w w') (wu w (o + 1) (ia 1 17088 (rc3 σ j))) (sz) (0) (0) [some (.ref o), some (.int (nI (j + 1)))] [] 10 := by
      refine dn (fun j hj ih => ?_)
      refine v_iload_n dX8_records_10 rfl ?_
      refine v_iconst (v := nI 4) dX8_records_11 (by decide) ?_
      refine v_icmp_geN (tgt := 29) dX8_records_12 (by decide) (by omega) (by omega) (fun b12 => ?_) (fun b12 => ?_)
      ·
        have e3 : j = 3 := by omega
        subst e3
        refine v_aload_n dX8_records_29 rfl ?_
        refine v_dup dX8_records_30 rfl ?_
        refine v_get 1 dX8_records_31 FTX8 (by decide) rfl fl_X8_20 (hM.st _).1 rfl ?_
        refine v_iconst (v := nI 1) dX8_records_34 (by decide) ?_
        refine v_isubN dX8_records_35 (by omega) ?_
        refine v_put 1 dX8_records_36 FTX8 (by decide) rfl fl_X8_20 (hM.st _).1 rfl rfl (Nat.le_of_ble_eq_true rfl) rfl ?_
        refine v_eqw (w' := wu (wu w (o + 1) (ia 1 17088 (rc3 σ 3))) o (moO o 3 tn kp)) (by rw [b5]; rfl) ?_
        refine v_drop 1 ?_
        exact TL _ 3 (rc3 σ 3) ((hM.st _).so 3 tn kp) (((frO.rf o w).wu _ (by omega) (by omega)).wu _ (by omega) (by omega)) (by omega) (by rw [b5]; rfl) (by simp [rcS, rcn, b5])
        --
      ·
        refine v_aload_n dX8_records_15 rfl ?_
        refine v_iload_n dX8_records_16 rfl ?_
        refine v_iconst (v := nI 1) dX8_records_17 (by decide) ?_
        refine v_iaddN dX8_records_18 ?_
        refine v_iload_n dX8_records_19 rfl ?_
        refine n_wV2 oX8_copies dX8_records_20 ml_X8_24 (c_copies (hM.st _) (j + 1 + 1) (j + 1) (by omega) (by omega) (by omega)) (hM.st _).1 (by decide) (Nat.le_of_ble_eq_true rfl) (Nat.le_refl _) (Nat.le_refl _) ?_
        refine v_iincN dX8_records_23 (by decide) rfl rfl rfl ?_
        refine v_goto (tgt := 10) dX8_records_26 (by decide) ?_
        refine v_eqw (wu_wu _ _ _ _).symm ?_
        exact ih (by omega)
    refine v_eqw hM.self ?_
    exact LP10 0 (by omega)
end
section
set_option maxHeartbeats 4000000 in
set_option maxRecDepth 100000 in
theorem c_cuts {w : Wd} {o ns tn : Nat} {kp : Int32} {σ tx cm : Nat → Int32} (hM : MW w o ns tn kp σ tx cm) (a b : Nat) (h : a < 8 ∧ b < 3) (hr : ub (σ a) 4) (hm : ub (σ (12 + nt (σ a))) 16 ∧ 1 ≤ nt (σ (12 + nt (σ a)))) (hl : ub (σ (272 + 64 * (3 * a + b))) 61) : Wr mX8_cuts 2 [.ref o, .int (nI a), .int (nI b)] w (fun r' w' => r' = some (.int (b2i (cutB σ (3 * a + b) (nt (σ (12 + nt (σ a))))))) ∧ w' = wu w (o + 1) (ia 1 17088 (cutS σ (3 * a + b) (nt (σ (12 + nt (σ a))))))) := by
  intro sz
  refine Ev.ofV [some (.ref o), some (.int (nI a)), some (.int (nI b)), none, none] (by decide) (Nat.le_of_ble_eq_true rfl) rfl rfl rfl ?_
  have hn := nw_le (sft σ (272 + 64 * (3 * a + b) + 4)) (nt (σ (272 + 64 * (3 * a + b))))
  have hl2 := hl.2
  have hm2 := hm.1.2
  refine v_eqw hM.self ?_
  refine v_iload_n dX8_cuts_0 rfl ?_
  refine v_iload_n dX8_cuts_1 rfl ?_
  refine u_rS2 oX8_rowOf dX8_cuts_2 ml_X8_28 (c_rowOf a b) (by decide) (Nat.le_of_ble_eq_true rfl) (Nat.le_refl _) (Nat.le_refl _) ?_
  refine v_istore_n dX8_cuts_5 (by decide) rfl ?_
  refine v_aload_n dX8_cuts_6 rfl ?_
  refine v_get 0 dX8_cuts_7 FTX8 (by decide) rfl fl_X8_7 (hM.st _).1 rfl ?_
  refine v_bipush (v := nI 12) dX8_cuts_10 (by decide) ?_
  refine v_aload_n dX8_cuts_12 rfl ?_
  refine v_get 0 dX8_cuts_13 FTX8 (by decide) rfl fl_X8_7 (hM.st _).1 rfl ?_
  refine v_iload_n dX8_cuts_16 rfl ?_
  refine v_ialdN _ dX8_cuts_17 (hM.st _).2.1 rfl (by omega) (by decide) hr.1 ?_
  refine v_iaddN dX8_cuts_18 ?_
  refine v_ialdN _ dX8_cuts_19 (hM.st _).2.1 rfl (by have := hr.2; omega) (by decide) hm.1.1 ?_
  refine v_istore dX8_cuts_20 (by decide) rfl ?_
  refine v_aload_n dX8_cuts_22 rfl ?_
  refine v_iload_n dX8_cuts_23 rfl ?_
  refine v_iload_n dX8_cuts_24 rfl ?_
  refine u_rV2 oX8_wordsOf dX8_cuts_25 ml_X8_42 (c_wordsOf (hM.st _) a b h hl) (hM.st _).1 (by decide) (Nat.le_of_ble_eq_true rfl) (Nat.le_refl _) (Nat.le_refl _) ?_
  refine v_iload dX8_cuts_28 rfl ?_
  refine v_icmp_gtN (tgt := 35) dX8_cuts_30 (by decide) (by omega) (by omega) (fun b30 => ?_) (fun b30 => ?_)
  ·
    have hB : cutB σ (3 * a + b) (nt (σ (12 + nt (σ a)))) = true := by simpa [cutB] using b30
    have hb := cut_beg b30
    have hp := beg_pos hb hm.2
    refine v_aload_n dX8_cuts_35 rfl ?_
    refine v_get 0 dX8_cuts_36 FTX8 (by decide) rfl fl_X8_7 (hM.st _).1 rfl ?_
    refine v_iload_n dX8_cuts_39 rfl ?_
    refine v_aload_n dX8_cuts_40 rfl ?_
    refine v_iload_n dX8_cuts_41 rfl ?_
    refine v_iconst (v := nI 4) dX8_cuts_42 (by decide) ?_
    refine v_iaddN dX8_cuts_43 ?_
    refine v_aload_n dX8_cuts_44 rfl ?_
    refine v_get 0 dX8_cuts_45 FTX8 (by decide) rfl fl_X8_7 (hM.st _).1 rfl ?_
    refine v_iload_n dX8_cuts_48 rfl ?_
    refine v_ialdN _ dX8_cuts_49 (hM.st _).2.1 rfl (by omega) (by decide) hl.1 ?_
    refine v_iload dX8_cuts_50 rfl ?_
    refine u_rV3 oX8_begin dX8_cuts_52 ml_X8_35 (c_begin (hM.st _) _ _ _ (by omega) hb) (hM.st _).1 (by decide) (Nat.le_of_ble_eq_true rfl) (Nat.le_refl _) (Nat.le_refl _) ?_
    refine v_iconst (v := nI 1) dX8_cuts_55 (by decide) ?_
    refine v_isubN dX8_cuts_56 hp ?_
    refine v_iast _ dX8_cuts_57 (hM.st _).2.1 rfl (by omega) (by decide) ?_
    refine v_eqw (wu_wu _ _ _ _).symm ?_
    refine v_aload_n dX8_cuts_58 rfl ?_
    refine v_get 0 dX8_cuts_59 FTX8 (by decide) rfl fl_X8_7 (hM.st _).1 rfl ?_
    refine v_iload_n dX8_cuts_62 rfl ?_
    refine v_iconst (v := nI 3) dX8_cuts_63 (by decide) ?_
    refine v_iaddN dX8_cuts_64 ?_
    refine v_dup2 dX8_cuts_65 rfl rfl ?_
    refine v_ialdE _ dX8_cuts_66 (hM.st _).2.1 rfl (by omega) (by decide) (up_ne _ _ (by omega)) ?_
    refine v_iconst (v := nI 1) dX8_cuts_67 (by decide) ?_
    refine v_iadd dX8_cuts_68 ?_
    refine v_iast _ dX8_cuts_69 (hM.st _).2.1 rfl (by omega) (by decide) ?_
    refine v_eqw (wu_wu _ _ _ _).symm ?_
    refine v_aload_n dX8_cuts_70 rfl ?_
    refine v_get 0 dX8_cuts_71 FTX8 (by decide) rfl fl_X8_7 (hM.st _).1 rfl ?_
    refine v_bipush (v := nI 21) dX8_cuts_74 (by decide) ?_
    refine v_dup2 dX8_cuts_76 rfl rfl ?_
    refine v_ialdE _ dX8_cuts_77 (hM.st _).2.1 rfl (by omega) (by decide) ((up_ne _ _ (by omega)).trans (up_ne _ _ (by omega))) ?_
    refine v_iconst (v := nI 1) dX8_cuts_78 (by decide) ?_
    refine v_iadd dX8_cuts_79 ?_
    refine v_iast _ dX8_cuts_80 (hM.st _).2.1 rfl (by omega) (by decide) ?_
    refine v_eqw (wu_wu _ _ _ _).symm ?_
    refine v_iconst (v := nI 1) dX8_cuts_81 (by decide) ?_
    refine v_zret dX8_cuts_82 rfl (by decide) (Nat.le_refl _) (Nat.le_refl _) ?_
    exact ⟨rfl, by rw [hB]; rfl, by rw [cutS_T hB]⟩
  ·
    have hB : cutB σ (3 * a + b) (nt (σ (12 + nt (σ a)))) = false := by simpa [cutB] using b30
    refine v_iconst (v := nI 0) dX8_cuts_33 (by decide) ?_
    refine v_zret dX8_cuts_34 rfl (by decide) (Nat.le_refl _) (Nat.le_refl _) ?_
    exact ⟨rfl, by rw [hB]; rfl, by rw [cutS_F hB]⟩
theorem c_cutsI {w : Wd} {o ns tn : Nat} {kp : Int32} {σ tx cm : Nat → Int32} (hM : MW w o ns tn kp σ tx cm) (a lim i : Nat) (h : a < 8 ∧ i < 3) (hr : ub (σ a) 4) (hm : ub (σ (12 + nt (σ a))) 16 ∧ 1 ≤ nt (σ (12 + nt (σ a)))) (hlim : lim = (nt (σ (12 + nt (σ a))))) (hl : ∀ b, b < 3 → ub (σ (272 + 64 * (3 * a + b))) 61) : Wr mX8_cuts 2 [.ref o, .int (nI a), .int (nI i)] (wu w (o + 1) (ia 1 17088 (caS σ a lim i))) (fun r' w' => r' = some (.int (b2i (cutB (caS σ a lim i) (3 * a + i) lim))) ∧ w' = wu w (o + 1) (ia 1 17088 (caS σ a lim (i + 1)))) := by
  have e1 : caS σ a lim i a = σ a := caS_out (by omega) i (fun b hb => ⟨by omega, by omega⟩)
  have e2 : caS σ a lim i (12 + nt (σ a)) = σ (12 + nt (σ a)) := by
    have := hr.2
    exact caS_out (by omega) i (fun b hb => ⟨by omega, by omega⟩)
  have e3 : caS σ a lim i (272 + 64 * (3 * a + i)) = σ (272 + 64 * (3 * a + i)) := caS_out (by omega) i (fun b hb => ⟨by omega, by omega⟩)
  have c := c_cuts (hM.st (caS σ a lim i)) a i h (by rw [e1]; exact hr) (by rw [e1, e2]; exact hm) (by rw [e3]; exact hl i h.2)
  rw [e1, e2, ← hlim] at c
  simp only [wu_wu] at c
  exact c
set_option maxHeartbeats 4000000 in
set_option maxRecDepth 100000 in
theorem c_cutsAll0 {w : Wd} {o ns tn : Nat} {kp : Int32} {σ tx cm : Nat → Int32} (hM : MW w o ns tn kp σ tx cm) (a lim : Nat) (h : a < 8) (hr : ub (σ a) 4) (hm : ub (σ (12 + nt (σ a))) 16 ∧ 1 ≤ nt (σ (12 + nt (σ a)))) (hlim : lim = (nt (σ (12 + nt (σ a))))) (hl : ∀ b, b < 3 → ub (σ (272 + 64 * (3 * a + b))) 61) : Wr mX8_cutsAll 3 [.ref o, .int (nI a)] w (fun r' w' => r' = some (.int (nI (caN σ a lim 3))) ∧ w' = wu w (o + 1) (ia 1 17088 (caS σ a lim 3))) := by
  intro sz
  refine Ev.ofV [some (.ref o), some (.int (nI a)), none, none] (by decide) (Nat.le_of_ble_eq_true rfl) rfl rfl rfl ?_
  refine v_eqw hM.self ?_
  refine v_iconst (v := nI 0) dX8_cutsAll_0 (by decide) ?_
  refine v_istore_n dX8_cutsAll_1 (by decide) rfl ?_
  refine v_iconst (v := nI 0) dX8_cutsAll_2 (by decide) ?_
  refine v_istore_n dX8_cutsAll_3 (by decide) rfl ?_
  have LP4 : ∀ i, i ≤ 3 → V mX8_cutsAll 3 0 0 (fun r' w' z => z = sz ∧ r' = some (.int (nI (caN σ a lim 3))) ∧ w' = wu w (o + 1) (ia 1 17088 (caS σ a lim 3))) (wu w (o + 1) (ia 1 17088 (caS σ a lim i))) (sz) (0) (0) [some (.ref o), some (.int (nI a)), some (.int (nI (caN σ a lim i))), some (.int (nI i))] [] 4 := by
    refine dn (fun i hi ih => ?_)
    refine v_iload_n dX8_cutsAll_4 rfl ?_
    refine v_iconst (v := nI 3) dX8_cutsAll_5 (by decide) ?_
    refine v_icmp_geN (tgt := 32) dX8_cutsAll_6 (by decide) (by omega) (by omega) (fun b6 => ?_) (fun b6 => ?_)
    ·
      have e3 : i = 3 := by omega
      subst e3
      refine v_iload_n dX8_cutsAll_32 rfl ?_
      refine v_iret dX8_cutsAll_33 rfl (Nat.le_refl _) (Nat.le_refl _) ?_
      exact ⟨rfl, rfl, rfl⟩
    ·
      refine v_iload_n dX8_cutsAll_9 rfl ?_
      refine v_aload_n dX8_cutsAll_10 rfl ?_
      refine v_iload_n dX8_cutsAll_11 rfl ?_
      refine v_iload_n dX8_cutsAll_12 rfl ?_
      refine u_wV2 oX8_cuts dX8_cutsAll_13 ml_X8_45 (c_cutsI hM a lim i ⟨h, by omega⟩ hr hm hlim hl) (hM.st _).1 (by decide) (Nat.le_of_ble_eq_true rfl) (Nat.le_refl _) (Nat.le_refl _) ?_
      refine v_if_eqB (tgt := 23) dX8_cutsAll_16 (by decide) (fun b16 => ?_) (fun b16 => ?_)
      ·
        refine v_iconst (v := nI 0) dX8_cutsAll_23 (by decide) ?_
        refine v_iaddN dX8_cutsAll_24 ?_
        refine v_istore_n dX8_cutsAll_25 (by decide) rfl ?_
        refine v_iincN dX8_cutsAll_26 (by decide) rfl rfl rfl ?_
        refine v_goto (tgt := 4) dX8_cutsAll_29 (by decide) ?_
        refine v_eqL ?_ (ih (by omega))
        simp [st, caN, b16]
      ·
        refine v_iconst (v := nI 1) dX8_cutsAll_19 (by decide) ?_
        refine v_goto (tgt := 24) dX8_cutsAll_20 (by decide) ?_
        refine v_iaddN dX8_cutsAll_24 ?_
        refine v_istore_n dX8_cutsAll_25 (by decide) rfl ?_
        refine v_iincN dX8_cutsAll_26 (by decide) rfl rfl rfl ?_
        refine v_goto (tgt := 4) dX8_cutsAll_29 (by decide) ?_
        refine v_eqL ?_ (ih (by omega))
        simp [st, caN, b16]
  exact LP4 0 (Nat.zero_le _)
end
section
set_option maxHeartbeats 4000000 in
set_option maxRecDepth 100000 in
theorem c_best {w : Wd} {o ns tn : Nat} {kp : Int32} {σ tx cm : Nat → Int32} (hM : MW w o ns tn kp σ tx cm) (a b : Nat) (h : a < 8 ∧ b < 3) (hr : ub (σ a) 4) (hm : ub (σ (12 + nt (σ a))) 16 ∧ 1 ≤ nt (σ (12 + nt (σ a)))) (hn : ub (σ 16) 10) (hw : ∀ k, k < 16 → 0 ≤ σ (1808 + 65 * k) → ub (σ (1808 + 65 * k + 4)) 61) : Rd mX8_best 2 [.ref o, .int (nI a), .int (nI b)] w (some (.int (oI (bst σ (3 * a + b) (nt (σ 16)) (nt (σ (12 + nt (σ a)))) (16))))) := by
  intro sz
  refine Ev.ofV [some (.ref o), some (.int (nI a)), some (.int (nI b)), none, none, none, none, none, none, none, none, none] (by decide) (Nat.le_of_ble_eq_true rfl) rfl rfl rfl ?_
  refine v_iconst (v := -1) dX8_best_0 (by decide) ?_
  refine v_istore_n dX8_best_1 (by decide) rfl ?_
  refine v_iconst (v := nI 0) dX8_best_2 (by decide) ?_
  refine v_istore dX8_best_3 (by decide) rfl ?_
  have LP5 : ∀ i, i ≤ 16 → V mX8_best 2 0 0 (fun r' w' z => r' = some (.int (oI (bst σ (3 * a + b) (nt (σ 16)) (nt (σ (12 + nt (σ a)))) (16)))) ∧ w' = w ∧ z = sz) (w) (sz) (0) (0) [some (.ref o), some (.int (nI a)), some (.int (nI b)), some (.int (oI (bst σ (3 * a + b) (nt (σ 16)) (nt (σ (12 + nt (σ a)))) (i)))), some (.int (nI i)), none, none, none, none, none, none, none] [] 5 := by
    refine dn (fun i hi ih => ?_)
    refine v_iload dX8_best_5 rfl ?_
    refine v_bipush (v := nI 16) dX8_best_7 (by decide) ?_
    refine v_icmp_geN (tgt := 231) dX8_best_9 (by decide) (by omega) (by omega) (fun b9 => ?_) (fun b9 => ?_)
    ·
      refine v_iload_n dX8_best_231 rfl ?_
      refine v_iret dX8_best_232 rfl (Nat.le_refl _) (Nat.le_refl _) ?_
      have ei : i = 16 := by omega
      subst ei
      exact ⟨rfl, rfl, rfl⟩
    ·
      have hi16 : i < 16 := by omega
      refine v_iload dX8_best_12 rfl ?_
      refine u_rS1 oX8_paper dX8_best_14 ml_X8_49 (c_paper i) (by decide) (Nat.le_of_ble_eq_true rfl) (Nat.le_refl _) (Nat.le_refl _) ?_
      refine v_istore dX8_best_17 (by decide) rfl ?_
      refine v_aload_n dX8_best_19 rfl ?_
      refine v_get 0 dX8_best_20 FTX8 (by decide) rfl fl_X8_7 hM.1 rfl ?_
      refine v_iload dX8_best_23 rfl ?_
      refine v_iald _ dX8_best_25 hM.2.1 rfl (by omega) (by decide) ?_
      refine v_if_lt (tgt := 225) dX8_best_26 (by decide) (fun b26 => ?_) (fun b26 => ?_)
      ·
        have q : oI (bst σ (3 * a + b) (nt (σ 16)) (nt (σ (12 + nt (σ a)))) (i + 1)) = oI (bst σ (3 * a + b) (nt (σ 16)) (nt (σ (12 + nt (σ a)))) (i)) := by simp [bst, bsS, cand, Int32.not_le.mpr b26]
        refine v_iincN dX8_best_225 (by decide) rfl rfl rfl ?_
        refine v_goto (tgt := 5) dX8_best_228 (by decide) ?_
        refine v_drop 5 ?_
        refine v_drop 6 ?_
        refine v_drop 7 ?_
        refine v_drop 8 ?_
        refine v_drop 9 ?_
        refine v_drop 10 ?_
        refine v_drop 11 ?_
        refine v_eqL ?_ (ih (by omega))
        rw [q]
        rfl
      ·
        have q1 : (0 : Int32) ≤ σ (1808 + 65 * i) := Int32.not_lt.mp b26
        refine v_aload_n dX8_best_29 rfl ?_
        refine v_get 0 dX8_best_30 FTX8 (by decide) rfl fl_X8_7 hM.1 rfl ?_
        refine v_iload dX8_best_33 rfl ?_
        refine v_iconst (v := nI 1) dX8_best_35 (by decide) ?_
        refine v_iaddN dX8_best_36 ?_
        refine v_iald _ dX8_best_37 hM.2.1 rfl (by omega) (by decide) ?_
        refine v_iconst (v := nI 3) dX8_best_38 (by decide) ?_
        refine v_iload_n dX8_best_39 rfl ?_
        refine v_imulN dX8_best_40 ?_
        refine v_iload_n dX8_best_41 rfl ?_
        refine v_iaddN dX8_best_42 ?_
        refine v_icmp_ne (tgt := 225) dX8_best_43 (by decide) (fun b43 => ?_) (fun b43 => ?_)
        ·
          have q : oI (bst σ (3 * a + b) (nt (σ 16)) (nt (σ (12 + nt (σ a)))) (i + 1)) = oI (bst σ (3 * a + b) (nt (σ 16)) (nt (σ (12 + nt (σ a)))) (i)) := by simp [bst, bsS, cand, b43]
          refine v_iincN dX8_best_225 (by decide) rfl rfl rfl ?_
          refine v_goto (tgt := 5) dX8_best_228 (by decide) ?_
          refine v_drop 5 ?_
          refine v_drop 6 ?_
          refine v_drop 7 ?_
          refine v_drop 8 ?_
          refine v_drop 9 ?_
          refine v_drop 10 ?_
          refine v_drop 11 ?_
          refine v_eqL ?_ (ih (by omega))
          rw [q]
          rfl
        ·
          refine v_aload_n dX8_best_46 rfl ?_
          refine v_aload_n dX8_best_47 rfl ?_
          refine v_get 0 dX8_best_48 FTX8 (by decide) rfl fl_X8_7 hM.1 rfl ?_
          refine v_iload dX8_best_51 rfl ?_
          refine v_iald _ dX8_best_53 hM.2.1 rfl (by omega) (by decide) ?_
          refine u_rV1 oX8_votesFor dX8_best_54 ml_X8_53 (show Rd mX8_votesFor 0 _ w (some (.int (nI (vfk σ i)))) from c_votesFor hM _) hM.1 (by decide) (Nat.le_of_ble_eq_true rfl) (Nat.le_refl _) (Nat.le_refl _) ?_
          refine v_istore dX8_best_57 (by decide) rfl ?_
          refine v_aload_n dX8_best_59 rfl ?_
          refine v_iload dX8_best_60 rfl ?_
          refine v_iconst (v := nI 5) dX8_best_62 (by decide) ?_
          refine v_iaddN dX8_best_63 ?_
          refine v_aload_n dX8_best_64 rfl ?_
          refine v_get 0 dX8_best_65 FTX8 (by decide) rfl fl_X8_7 hM.1 rfl ?_
          refine v_iload dX8_best_68 rfl ?_
          refine v_iconst (v := nI 4) dX8_best_70 (by decide) ?_
          refine v_iaddN dX8_best_71 ?_
          refine v_ialdN _ dX8_best_72 hM.2.1 rfl (by omega) (by decide) (hw i (by omega) q1).1 ?_
          refine u_rV2 oX8_words dX8_best_73 ml_X8_32 (show Rd mX8_words 0 _ w (some (.int (nI (nwr σ i)))) from c_words hM _ _ (by have := (hw i (by omega) q1).2; omega)) hM.1 (by decide) (Nat.le_of_ble_eq_true rfl) (Nat.le_refl _) (Nat.le_refl _) ?_
          refine v_istore dX8_best_76 (by decide) rfl ?_
          refine v_iload dX8_best_78 rfl ?_
          refine v_aload_n dX8_best_80 rfl ?_
          refine v_get 0 dX8_best_81 FTX8 (by decide) rfl fl_X8_7 hM.1 rfl ?_
          refine v_bipush (v := nI 16) dX8_best_84 (by decide) ?_
          refine v_ialdN _ dX8_best_86 hM.2.1 rfl (by omega) (by decide) hn.1 ?_
          refine v_icmp_ltN (tgt := 113) dX8_best_87 (by decide) (by have := vfk_le σ i; omega) (by have := hn.2; omega) (fun b87 => ?_) (fun b87 => ?_)
          ·
            have q : oI (bst σ (3 * a + b) (nt (σ 16)) (nt (σ (12 + nt (σ a)))) (i + 1)) = oI (bst σ (3 * a + b) (nt (σ 16)) (nt (σ (12 + nt (σ a)))) (i)) := by simp [bst, bsS, Nat.not_le.mpr b87]
            refine v_iconst (v := nI 0) dX8_best_113 (by decide) ?_
            refine v_istore dX8_best_114 (by decide) rfl ?_
            refine v_iload dX8_best_116 rfl ?_
            refine v_if_eqN (tgt := 213) dX8_best_118 (by decide) (by decide) (fun _ => ?_) (fun z => absurd z (by decide))
            refine v_iload dX8_best_213 rfl ?_
            refine v_if_eqN (tgt := 223) dX8_best_215 (by decide) (by decide) (fun _ => ?_) (fun z => absurd z (by decide))
            refine v_iload_n dX8_best_223 rfl ?_
            refine v_istore_n dX8_best_224 (by decide) rfl ?_
            refine v_iincN dX8_best_225 (by decide) rfl rfl rfl ?_
            refine v_goto (tgt := 5) dX8_best_228 (by decide) ?_
            refine v_drop 5 ?_
            refine v_drop 6 ?_
            refine v_drop 7 ?_
            refine v_drop 8 ?_
            refine v_drop 9 ?_
            refine v_drop 10 ?_
            refine v_drop 11 ?_
            refine v_eqL ?_ (ih (by omega))
            rw [q]
            rfl
          ·
            have b87 := Nat.not_lt.mp b87
            refine v_iload dX8_best_90 rfl ?_
            refine v_aload_n dX8_best_92 rfl ?_
            refine v_get 0 dX8_best_93 FTX8 (by decide) rfl fl_X8_7 hM.1 rfl ?_
            refine v_bipush (v := nI 12) dX8_best_96 (by decide) ?_
            refine v_aload_n dX8_best_98 rfl ?_
            refine v_get 0 dX8_best_99 FTX8 (by decide) rfl fl_X8_7 hM.1 rfl ?_
            refine v_iload_n dX8_best_102 rfl ?_
            refine v_ialdN _ dX8_best_103 hM.2.1 rfl (by omega) (by decide) hr.1 ?_
            refine v_iaddN dX8_best_104 ?_
            refine v_ialdN _ dX8_best_105 hM.2.1 rfl (by have := hr.2; omega) (by decide) hm.1.1 ?_
            refine v_icmp_gtN (tgt := 113) dX8_best_106 (by decide) (by have := nw_le (sft σ (1808 + 65 * i + 5)) (nt (σ (1808 + 65 * i + 4))); have := (hw i (by omega) q1).2; unfold nwr; omega) (by have := hm.1.2; omega) (fun b106 => ?_) (fun b106 => ?_)
            ·
              have q : oI (bst σ (3 * a + b) (nt (σ 16)) (nt (σ (12 + nt (σ a)))) (i + 1)) = oI (bst σ (3 * a + b) (nt (σ 16)) (nt (σ (12 + nt (σ a)))) (i)) := by simp [bst, bsS, Nat.not_le.mpr b106]
              refine v_iconst (v := nI 0) dX8_best_113 (by decide) ?_
              refine v_istore dX8_best_114 (by decide) rfl ?_
              refine v_iload dX8_best_116 rfl ?_
              refine v_if_eqN (tgt := 213) dX8_best_118 (by decide) (by decide) (fun _ => ?_) (fun z => absurd z (by decide))
              refine v_iload dX8_best_213 rfl ?_
              refine v_if_eqN (tgt := 223) dX8_best_215 (by decide) (by decide) (fun _ => ?_) (fun z => absurd z (by decide))
              refine v_iload_n dX8_best_223 rfl ?_
              refine v_istore_n dX8_best_224 (by decide) rfl ?_
              refine v_iincN dX8_best_225 (by decide) rfl rfl rfl ?_
              refine v_goto (tgt := 5) dX8_best_228 (by decide) ?_
              refine v_drop 5 ?_
              refine v_drop 6 ?_
              refine v_drop 7 ?_
              refine v_drop 8 ?_
              refine v_drop 9 ?_
              refine v_drop 10 ?_
              refine v_drop 11 ?_
              refine v_eqL ?_ (ih (by omega))
              rw [q]
              rfl
            ·
              have b106 := Nat.not_lt.mp b106
              refine v_iconst (v := nI 1) dX8_best_109 (by decide) ?_
              refine v_goto (tgt := 114) dX8_best_110 (by decide) ?_
              refine v_istore dX8_best_114 (by decide) rfl ?_
              refine v_iload dX8_best_116 rfl ?_
              refine v_if_eqN (tgt := 213) dX8_best_118 (by decide) (by decide) (fun z => absurd z (by decide)) (fun _ => ?_)
              refine v_iload_n dX8_best_121 rfl ?_
              refine v_if_lt (tgt := 213) dX8_best_122 (by decide) (fun b122 => ?_) (fun b122 => ?_)
              ·
                have hf : bst σ (3 * a + b) (nt (σ 16)) (nt (σ (12 + nt (σ a)))) (i) = none := by
                  cases hf : bst σ (3 * a + b) (nt (σ 16)) (nt (σ (12 + nt (σ a)))) (i) with
                  | none => rfl
                  | some g =>
                    have := bst_lt hf
                    rw [hf] at b122
                    exact absurd b122 (nI_nlt0 (by omega))
                have q : oI (bst σ (3 * a + b) (nt (σ 16)) (nt (σ (12 + nt (σ a)))) (i + 1)) = nI i := by simp [oI, bst, bsS, cand, hf, q1, b43, b87, b106]
                refine v_iload dX8_best_213 rfl ?_
                refine v_if_eqN (tgt := 223) dX8_best_215 (by decide) (by decide) (fun z => absurd z (by decide)) (fun _ => ?_)
                refine v_iload dX8_best_218 rfl ?_
                refine v_goto (tgt := 224) dX8_best_220 (by decide) ?_
                refine v_istore_n dX8_best_224 (by decide) rfl ?_
                refine v_iincN dX8_best_225 (by decide) rfl rfl rfl ?_
                refine v_goto (tgt := 5) dX8_best_228 (by decide) ?_
                refine v_drop 5 ?_
                refine v_drop 6 ?_
                refine v_drop 7 ?_
                refine v_drop 8 ?_
                refine v_drop 9 ?_
                refine v_drop 10 ?_
                refine v_drop 11 ?_
                refine v_eqL ?_ (ih (by omega))
                rw [q]
                rfl
              ·
                obtain ⟨g, hf⟩ : ∃ g, bst σ (3 * a + b) (nt (σ 16)) (nt (σ (12 + nt (σ a)))) (i) = some g := by
                  cases hf : bst σ (3 * a + b) (nt (σ 16)) (nt (σ (12 + nt (σ a)))) (i) with
                  | none => rw [hf] at b122; exact absurd (by decide) b122
                  | some g => exact ⟨g, rfl⟩
                have hg := bst_lt hf
                have qg : (0 : Int32) ≤ σ (1808 + 65 * g) := by
                  have := hg.2
                  simp only [cand, Bool.and_eq_true, decide_eq_true_eq] at this
                  exact this.1
                have e9 : oI (bst σ (3 * a + b) (nt (σ 16)) (nt (σ (12 + nt (σ a)))) (i)) = nI g := by rw [hf]; rfl
                rw [e9]
                have v1 := vfk_le σ i
                have v2 := vfk_le σ g
                have n1 := nw_le (sft σ (1808 + 65 * i + 5)) (nt (σ (1808 + 65 * i + 4)))
                have n2 := nw_le (sft σ (1808 + 65 * g + 5)) (nt (σ (1808 + 65 * g + 4)))
                have n3 := (hw i (by omega) q1).2
                have n4 := (hw g (by omega) qg).2
                refine v_iload_n dX8_best_125 rfl ?_
                refine u_rS1 oX8_paper dX8_best_126 ml_X8_49 (c_paper g) (by decide) (Nat.le_of_ble_eq_true rfl) (Nat.le_refl _) (Nat.le_refl _) ?_
                refine v_istore dX8_best_129 (by decide) rfl ?_
                refine v_iload dX8_best_131 rfl ?_
                refine v_aload_n dX8_best_133 rfl ?_
                refine v_aload_n dX8_best_134 rfl ?_
                refine v_get 0 dX8_best_135 FTX8 (by decide) rfl fl_X8_7 hM.1 rfl ?_
                refine v_iload dX8_best_138 rfl ?_
                refine v_iald _ dX8_best_140 hM.2.1 rfl (by omega) (by decide) ?_
                refine u_rV1 oX8_votesFor dX8_best_141 ml_X8_53 (show Rd mX8_votesFor 0 _ w (some (.int (nI (vfk σ g)))) from c_votesFor hM _) hM.1 (by decide) (Nat.le_of_ble_eq_true rfl) (Nat.le_refl _) (Nat.le_refl _) ?_
                refine v_isub dX8_best_144 ?_
                refine v_istore dX8_best_145 (by decide) rfl ?_
                refine v_iload dX8_best_147 rfl ?_
                refine v_aload_n dX8_best_149 rfl ?_
                refine v_iload dX8_best_150 rfl ?_
                refine v_iconst (v := nI 5) dX8_best_152 (by decide) ?_
                refine v_iaddN dX8_best_153 ?_
                refine v_aload_n dX8_best_154 rfl ?_
                refine v_get 0 dX8_best_155 FTX8 (by decide) rfl fl_X8_7 hM.1 rfl ?_
                refine v_iload dX8_best_158 rfl ?_
                refine v_iconst (v := nI 4) dX8_best_160 (by decide) ?_
                refine v_iaddN dX8_best_161 ?_
                refine v_ialdN _ dX8_best_162 hM.2.1 rfl (by omega) (by decide) (hw g (by omega) qg).1 ?_
                refine u_rV2 oX8_words dX8_best_163 ml_X8_32 (show Rd mX8_words 0 _ w (some (.int (nI (nwr σ g)))) from c_words hM _ _ (by have := (hw g (by omega) qg).2; omega)) hM.1 (by decide) (Nat.le_of_ble_eq_true rfl) (Nat.le_refl _) (Nat.le_refl _) ?_
                refine v_isub dX8_best_166 ?_
                refine v_istore dX8_best_167 (by decide) rfl ?_
                refine v_iload dX8_best_169 rfl ?_
                refine v_if_gt (tgt := 206) dX8_best_171 (by decide) (fun b171 => ?_) (fun b171 => ?_)
                ·
                  have c1 := (nI_sub_pos (by omega) (by omega)).mp b171
                  have q : oI (bst σ (3 * a + b) (nt (σ 16)) (nt (σ (12 + nt (σ a)))) (i + 1)) = nI i := by simp [oI, bst, bsS, cand, hf, btr, q1, b43, b87, b106, c1]
                  refine v_iconst (v := nI 1) dX8_best_206 (by decide) ?_
                  refine v_goto (tgt := 211) dX8_best_207 (by decide) ?_
                  refine v_istore dX8_best_211 (by decide) rfl ?_
                  refine v_iload dX8_best_213 rfl ?_
                  refine v_if_eqN (tgt := 223) dX8_best_215 (by decide) (by decide) (fun z => absurd z (by decide)) (fun _ => ?_)
                  refine v_iload dX8_best_218 rfl ?_
                  refine v_goto (tgt := 224) dX8_best_220 (by decide) ?_
                  refine v_istore_n dX8_best_224 (by decide) rfl ?_
                  refine v_iincN dX8_best_225 (by decide) rfl rfl rfl ?_
                  refine v_goto (tgt := 5) dX8_best_228 (by decide) ?_
                  refine v_drop 5 ?_
                  refine v_drop 6 ?_
                  refine v_drop 7 ?_
                  refine v_drop 8 ?_
                  refine v_drop 9 ?_
                  refine v_drop 10 ?_
                  refine v_drop 11 ?_
                  refine v_eqL ?_ (ih (by omega))
                  rw [q]
                  rfl
                ·
                  have c1 := mt (nI_sub_pos (a := vfk σ i) (b := vfk σ g) (by omega) (by omega)).mpr b171
                  refine v_iload dX8_best_174 rfl ?_
                  refine v_if_ne (tgt := 210) dX8_best_176 (by decide) (fun b176 => ?_) (fun b176 => ?_)
                  ·
                    have c2 := mt (nI_sub_0 (a := vfk σ i) (b := vfk σ g) (by omega) (by omega)).mpr b176
                    have q : oI (bst σ (3 * a + b) (nt (σ 16)) (nt (σ (12 + nt (σ a)))) (i + 1)) = nI g := by simp [oI, bst, bsS, cand, hf, btr, q1, b43, b87, b106, c1, c2]
                    refine v_iconst (v := nI 0) dX8_best_210 (by decide) ?_
                    refine v_istore dX8_best_211 (by decide) rfl ?_
                    refine v_iload dX8_best_213 rfl ?_
                    refine v_if_eqN (tgt := 223) dX8_best_215 (by decide) (by decide) (fun _ => ?_) (fun z => absurd z (by decide))
                    refine v_iload_n dX8_best_223 rfl ?_
                    refine v_istore_n dX8_best_224 (by decide) rfl ?_
                    refine v_iincN dX8_best_225 (by decide) rfl rfl rfl ?_
                    refine v_goto (tgt := 5) dX8_best_228 (by decide) ?_
                    refine v_drop 5 ?_
                    refine v_drop 6 ?_
                    refine v_drop 7 ?_
                    refine v_drop 8 ?_
                    refine v_drop 9 ?_
                    refine v_drop 10 ?_
                    refine v_drop 11 ?_
                    refine v_eqL ?_ (ih (by omega))
                    rw [q]
                    rfl
                  ·
                    have c2 := (nI_sub_0 (by omega) (by omega)).mp b176
                    have b87g : nt (σ 16) ≤ vfk σ g := by omega
                    refine v_iload dX8_best_179 rfl ?_
                    refine v_if_lt (tgt := 206) dX8_best_181 (by decide) (fun b181 => ?_) (fun b181 => ?_)
                    ·
                      have c3 : nwr σ i < nwr σ g := (nI_sub_neg (by unfold nwr; omega) (by unfold nwr; omega)).mp b181
                      have q : oI (bst σ (3 * a + b) (nt (σ 16)) (nt (σ (12 + nt (σ a)))) (i + 1)) = nI i := by simp [oI, bst, bsS, cand, hf, btr, q1, b43, b87, b106, c2, c3, b87g]
                      refine v_iconst (v := nI 1) dX8_best_206 (by decide) ?_
                      refine v_goto (tgt := 211) dX8_best_207 (by decide) ?_
                      refine v_istore dX8_best_211 (by decide) rfl ?_
                      refine v_iload dX8_best_213 rfl ?_
                      refine v_if_eqN (tgt := 223) dX8_best_215 (by decide) (by decide) (fun z => absurd z (by decide)) (fun _ => ?_)
                      refine v_iload dX8_best_218 rfl ?_
                      refine v_goto (tgt := 224) dX8_best_220 (by decide) ?_
                      refine v_istore_n dX8_best_224 (by decide) rfl ?_
                      refine v_iincN dX8_best_225 (by decide) rfl rfl rfl ?_
                      refine v_goto (tgt := 5) dX8_best_228 (by decide) ?_
                      refine v_drop 5 ?_
                      refine v_drop 6 ?_
                      refine v_drop 7 ?_
                      refine v_drop 8 ?_
                      refine v_drop 9 ?_
                      refine v_drop 10 ?_
                      refine v_drop 11 ?_
                      refine v_eqL ?_ (ih (by omega))
                      rw [q]
                      rfl
                    ·
                      have c3 : ¬ nwr σ i < nwr σ g := mt (nI_sub_neg (by unfold nwr; omega) (by unfold nwr; omega)).mpr b181
                      refine v_iload dX8_best_184 rfl ?_
                      refine v_if_ne (tgt := 210) dX8_best_186 (by decide) (fun b186 => ?_) (fun b186 => ?_)
                      ·
                        have c4 : ¬ nwr σ i = nwr σ g := mt (nI_sub_0 (by unfold nwr; omega) (by unfold nwr; omega)).mpr b186
                        have q : oI (bst σ (3 * a + b) (nt (σ 16)) (nt (σ (12 + nt (σ a)))) (i + 1)) = nI g := by simp [oI, bst, bsS, cand, hf, btr, q1, b43, b87, b106, c2, c3, c4]
                        refine v_iconst (v := nI 0) dX8_best_210 (by decide) ?_
                        refine v_istore dX8_best_211 (by decide) rfl ?_
                        refine v_iload dX8_best_213 rfl ?_
                        refine v_if_eqN (tgt := 223) dX8_best_215 (by decide) (by decide) (fun _ => ?_) (fun z => absurd z (by decide))
                        refine v_iload_n dX8_best_223 rfl ?_
                        refine v_istore_n dX8_best_224 (by decide) rfl ?_
                        refine v_iincN dX8_best_225 (by decide) rfl rfl rfl ?_
                        refine v_goto (tgt := 5) dX8_best_228 (by decide) ?_
                        refine v_drop 5 ?_
                        refine v_drop 6 ?_
                        refine v_drop 7 ?_
                        refine v_drop 8 ?_
                        refine v_drop 9 ?_
                        refine v_drop 10 ?_
                        refine v_drop 11 ?_
                        refine v_eqL ?_ (ih (by omega))
                        rw [q]
                        rfl
                      ·
                        have c4 : nwr σ i = nwr σ g := (nI_sub_0 (by unfold nwr; omega) (by unfold nwr; omega)).mp b186
                        have b106g : nwr σ g ≤ (nt (σ (12 + nt (σ a)))) := by omega
                        refine v_aload_n dX8_best_189 rfl ?_
                        refine v_get 0 dX8_best_190 FTX8 (by decide) rfl fl_X8_7 hM.1 rfl ?_
                        refine v_iload dX8_best_193 rfl ?_
                        refine v_iald _ dX8_best_195 hM.2.1 rfl (by omega) (by decide) ?_
                        refine v_aload_n dX8_best_196 rfl ?_
                        refine v_get 0 dX8_best_197 FTX8 (by decide) rfl fl_X8_7 hM.1 rfl ?_
                        refine v_iload dX8_best_200 rfl ?_
                        refine v_iald _ dX8_best_202 hM.2.1 rfl (by omega) (by decide) ?_
                        refine v_icmp_ge (tgt := 210) dX8_best_203 (by decide) (fun b203 => ?_) (fun b203 => ?_)
                        ·
                          have c5 : ¬ σ (1808 + 65 * i) < σ (1808 + 65 * g) := Int32.not_lt.mpr b203
                          have q : oI (bst σ (3 * a + b) (nt (σ 16)) (nt (σ (12 + nt (σ a)))) (i + 1)) = nI g := by simp [oI, bst, bsS, cand, hf, btr, q1, b43, b87, b106, c2, c4, c5]
                          refine v_iconst (v := nI 0) dX8_best_210 (by decide) ?_
                          refine v_istore dX8_best_211 (by decide) rfl ?_
                          refine v_iload dX8_best_213 rfl ?_
                          refine v_if_eqN (tgt := 223) dX8_best_215 (by decide) (by decide) (fun _ => ?_) (fun z => absurd z (by decide))
                          refine v_iload_n dX8_best_223 rfl ?_
                          refine v_istore_n dX8_best_224 (by decide) rfl ?_
                          refine v_iincN dX8_best_225 (by decide) rfl rfl rfl ?_
                          refine v_goto (tgt := 5) dX8_best_228 (by decide) ?_
                          refine v_drop 5 ?_
                          refine v_drop 6 ?_
                          refine v_drop 7 ?_
                          refine v_drop 8 ?_
                          refine v_drop 9 ?_
                          refine v_drop 10 ?_
                          refine v_drop 11 ?_
                          refine v_eqL ?_ (ih (by omega))
                          rw [q]
                          rfl
                        ·
                          have c5 : σ (1808 + 65 * i) < σ (1808 + 65 * g) := Int32.not_le.mp b203
                          have q : oI (bst σ (3 * a + b) (nt (σ 16)) (nt (σ (12 + nt (σ a)))) (i + 1)) = nI i := by simp [oI, bst, bsS, cand, hf, btr, q1, b43, b87, b106, c2, c4, c5, b87g, b106g]
                          refine v_iconst (v := nI 1) dX8_best_206 (by decide) ?_
                          refine v_goto (tgt := 211) dX8_best_207 (by decide) ?_
                          refine v_istore dX8_best_211 (by decide) rfl ?_
                          refine v_iload dX8_best_213 rfl ?_
                          refine v_if_eqN (tgt := 223) dX8_best_215 (by decide) (by decide) (fun z => absurd z (by decide)) (fun _ => ?_)
                          refine v_iload dX8_best_218 rfl ?_
                          refine v_goto (tgt := 224) dX8_best_220 (by decide) ?_
                          refine v_istore_n dX8_best_224 (by decide) rfl ?_
                          refine v_iincN dX8_best_225 (by decide) rfl rfl rfl ?_
                          refine v_goto (tgt := 5) dX8_best_228 (by decide) ?_
                          refine v_drop 5 ?_
                          refine v_drop 6 ?_
                          refine v_drop 7 ?_
                          refine v_drop 8 ?_
                          refine v_drop 9 ?_
                          refine v_drop 10 ?_
                          refine v_drop 11 ?_
                          refine v_eqL ?_ (ih (by omega))
                          rw [q]
                          rfl
  exact LP5 0 (Nat.zero_le _)
end
section
theorem b2i_inj {a b : Bool} (h : b2i a = b2i b) : a = b := by
  cases a <;> cases b <;> first | rfl | (exact absurd h (by decide))
theorem nwl_le {σ : Nat → Int32} {p : Nat} (h : ub (σ (272 + 64 * p)) 61) : nwl σ p ≤ 61 := by
  have h1 := nw_le (sft σ (272 + 64 * p + 4)) (nt (σ (272 + 64 * p)))
  have h2 := h.2
  unfold nwl ln
  omega
theorem lbS_le {σ : Nat → Int32} {r k s a b : Nat} (h : nwl σ (3 * a + b) ≤ 61) : lbS σ r k s a b ≤ s + 61 := by
  unfold lbS
  split
  · split <;> omega
  · split <;> omega
theorem lbI_le {σ : Nat → Int32} {r k s a : Nat} (h : ∀ b, b < 3 → nwl σ (3 * a + b) ≤ 61) : ∀ b, b ≤ 3 → lbI σ r k a s b ≤ s + 61 * b
  | 0, _ => by simp [lbI]
  | b + 1, hb => by
    have h1 := lbI_le (r := r) (k := k) (s := s) h b (by omega)
    have h2 := lbS_le (σ := σ) (r := r) (k := k) (s := lbI σ r k a s b) (a := a) (b := b) (h b (by omega))
    simp only [lbI]
    omega
theorem lbO_le {σ : Nat → Int32} {r k : Nat} (h : ∀ p, p < 24 → nwl σ p ≤ 61) : ∀ a, a ≤ 8 → lbO σ r k a ≤ 183 * a
  | 0, _ => by simp [lbO]
  | a + 1, ha => by
    have h1 := lbO_le (r := r) (k := k) h a (by omega)
    have h2 := lbI_le (σ := σ) (r := r) (k := k) (s := lbO σ r k a) (a := a) (fun b hb => h _ (by omega)) 3 (by omega)
    simp only [lbO]
    split <;> omega
/-- how many rewrites for the same label are ahead of the one in place k -/
def ahd (σ : Nat → Int32) (k j : Nat) : Bool := decide (0 ≤ σ (1808 + 65 * j)) && (σ (1808 + 65 * j + 1) == σ (1808 + 65 * k + 1)) && (decide (vfk σ k < vfk σ j) || (decide (vfk σ j = vfk σ k) && decide (σ (1808 + 65 * j) < σ (1808 + 65 * k))))
def rkB (σ : Nat → Int32) (p : Nat) (x : Int32) (k : Nat) : Bool := cand σ p k && (nI (cnt (ahd σ k) 16) == x)
def rkI (σ : Nat → Int32) (p : Nat) (x : Int32) : Int32 := if fst (rkB σ p x) 16 < 16 then σ (1808 + 65 * fst (rkB σ p x) 16) else -5
set_option maxHeartbeats 4000000 in
set_option maxRecDepth 100000 in
theorem c_labelsOf {w : Wd} {o ns tn : Nat} {kp : Int32} {σ tx cm : Nat → Int32} (hM : MW w o ns tn kp σ tx cm) (hl : ∀ p, p < 24 → ub (σ (272 + 64 * p)) 61) (r k : Nat) (hr : r < 4) (hk : k ≤ 3) : Rd mX8_labelsOf 2 [.ref o, .int (nI r), .int (nI k)] w (some (.int (nI (lbO σ r k 8)))) := by
  intro sz
  refine Ev.ofV [some (.ref o), some (.int (nI r)), some (.int (nI k)), none, none, none, none, none, none] (by decide) (Nat.le_of_ble_eq_true rfl) rfl rfl rfl ?_
  have hnl : ∀ p, p < 24 → nwl σ p ≤ 61 := fun p hp => nwl_le (hl p hp)
  refine v_iconst (v := nI 0) dX8_labelsOf_0 (by decide) ?_
  refine v_istore_n dX8_labelsOf_1 (by decide) rfl ?_
  refine v_iconst (v := nI 0) dX8_labelsOf_2 (by decide) ?_
  refine v_istore dX8_labelsOf_3 (by decide) rfl ?_
  have LP5 : ∀ a, a ≤ 8 → V mX8_labelsOf 2 0 0 (fun r' w' z => r' = some (.int (nI (lbO σ r k 8))) ∧ w' = w ∧ z = sz) (w) (sz) (0) (0) [some (.ref o), some (.int (nI r)), some (.int (nI k)), some (.int (nI (lbO σ r k a))), some (.int (nI a)), none, none, none, none] [] 5 := by
    refine dn (fun a ha iha => ?_)
    have hO := lbO_le (r := r) (k := k) hnl a ha
    refine v_iload dX8_labelsOf_5 rfl ?_
    refine v_bipush (v := nI 8) dX8_labelsOf_7 (by decide) ?_
    refine v_icmp_geN (tgt := 148) dX8_labelsOf_9 (by decide) (by omega) (by omega) (fun b9 => ?_) (fun b9 => ?_)
    ·
      refine v_iload_n dX8_labelsOf_148 rfl ?_
      refine v_iret dX8_labelsOf_149 rfl (Nat.le_refl _) (Nat.le_refl _) ?_
      have ea : a = 8 := by omega
      subst ea
      exact ⟨rfl, rfl, rfl⟩
    ·
      refine v_iconst (v := nI 0) dX8_labelsOf_12 (by decide) ?_
      refine v_istore dX8_labelsOf_13 (by decide) rfl ?_
      have LP15 : ∀ b, b ≤ 3 → (b = 0 ∨ σ a = nI r) → V mX8_labelsOf 2 0 0 (fun r' w' z => r' = some (.int (nI (lbO σ r k 8))) ∧ w' = w ∧ z = sz) (w) (sz) (0) (0) [some (.ref o), some (.int (nI r)), some (.int (nI k)), some (.int (nI (lbI σ r k a (lbO σ r k a) b))), some (.int (nI a)), some (.int (nI b)), none, none, none] [] 15 := by
        refine dn (fun b hb ihb => ?_)
        intro hz
        have hI := lbI_le (σ := σ) (r := r) (k := k) (s := lbO σ r k a) (a := a) (fun b hb => hnl _ (by omega)) b hb
        refine v_iload dX8_labelsOf_15 rfl ?_
        refine v_iconst (v := nI 3) dX8_labelsOf_17 (by decide) ?_
        refine v_icmp_geN (tgt := 142) dX8_labelsOf_18 (by decide) (by omega) (by omega) (fun b18 => ?_) (fun b18 => ?_)
        ·
          have e3 : b = 3 := by omega
          subst e3
          have q9 : lbO σ r k (a + 1) = lbI σ r k a (lbO σ r k a) 3 := by
            have h9 : σ a = nI r := by
              rcases hz with h | h
              · cases h
              · exact h
            simp only [lbO]
            rw [if_pos h9]
          refine v_iincN dX8_labelsOf_142 (by decide) rfl rfl rfl ?_
          refine v_goto (tgt := 5) dX8_labelsOf_145 (by decide) ?_
          refine v_drop 5 ?_
          refine v_drop 6 ?_
          refine v_drop 7 ?_
          refine v_drop 8 ?_
          refine v_eqL ?_ (iha (by omega))
          rw [q9]
          rfl
        ·
          refine v_aload_n dX8_labelsOf_21 rfl ?_
          refine v_get 0 dX8_labelsOf_22 FTX8 (by decide) rfl fl_X8_7 hM.1 rfl ?_
          refine v_iload dX8_labelsOf_25 rfl ?_
          refine v_iald _ dX8_labelsOf_27 hM.2.1 rfl (by omega) (by decide) ?_
          refine v_iload_n dX8_labelsOf_28 rfl ?_
          refine v_icmp_ne (tgt := 142) dX8_labelsOf_29 (by decide) (fun b29 => ?_) (fun b29 => ?_)
          ·
            have e3 : b = 0 := by
              rcases hz with h | h
              · exact h
              · exact absurd h b29
            subst e3
            have q9 : lbO σ r k (a + 1) = lbI σ r k a (lbO σ r k a) 0 := by
              simp only [lbO]
              rw [if_neg b29]
              rfl
            refine v_iincN dX8_labelsOf_142 (by decide) rfl rfl rfl ?_
            refine v_goto (tgt := 5) dX8_labelsOf_145 (by decide) ?_
            refine v_drop 5 ?_
            refine v_drop 6 ?_
            refine v_drop 7 ?_
            refine v_drop 8 ?_
            refine v_eqL ?_ (iha (by omega))
            rw [q9]
            rfl
          ·
            refine v_aload_n dX8_labelsOf_32 rfl ?_
            refine v_get 0 dX8_labelsOf_33 FTX8 (by decide) rfl fl_X8_7 hM.1 rfl ?_
            refine v_bipush (v := nI 8) dX8_labelsOf_36 (by decide) ?_
            refine v_iload_n dX8_labelsOf_38 rfl ?_
            refine v_iaddN dX8_labelsOf_39 ?_
            refine v_iald _ dX8_labelsOf_40 hM.2.1 rfl (by omega) (by decide) ?_
            refine v_iload dX8_labelsOf_41 rfl ?_
            refine v_ishr dX8_labelsOf_43 ?_
            refine v_iconst (v := nI 1) dX8_labelsOf_44 (by decide) ?_
            refine v_iand dX8_labelsOf_45 ?_
            refine v_iconst (v := nI 1) dX8_labelsOf_46 (by decide) ?_
            refine v_icmp_ne (tgt := 54) dX8_labelsOf_47 (by decide) (fun b47 => ?_) (fun b47 => ?_)
            ·
              have g1 : askB σ r b = false := by simp [askB, b47]
              refine v_iconst (v := nI 0) dX8_labelsOf_54 (by decide) ?_
              refine v_istore dX8_labelsOf_55 (by decide) rfl ?_
              refine v_aload_n dX8_labelsOf_57 rfl ?_
              refine v_iload dX8_labelsOf_58 rfl ?_
              refine v_iload dX8_labelsOf_60 rfl ?_
              refine u_rV2 oX8_isLabel dX8_labelsOf_62 ml_X8_75 (show Rd mX8_isLabel 1 _ w (some (.int (b2i (decide (0 < ln σ (3 * a + b)))))) from c_isLabel hM a b ⟨by omega, by omega⟩ (hl _ (by omega))) hM.1 (by decide) (Nat.le_of_ble_eq_true rfl) (Nat.le_refl _) (Nat.le_refl _) ?_
              refine v_istore dX8_labelsOf_65 (by decide) rfl ?_
              refine v_iload_n dX8_labelsOf_67 rfl ?_
              refine v_iconst (v := nI 3) dX8_labelsOf_68 (by decide) ?_
              refine v_icmp_neN (tgt := 98) dX8_labelsOf_69 (by decide) (by omega) (by omega) (fun b69 => ?_) (fun b69 => ?_)
              ·
                have JN : ∀ x, x = (if ((askB σ r b == !decide (k = 2)) && (decide (0 < ln σ (3 * a + b)) == !decide (k = 1))) = true then 1 else 0) → V mX8_labelsOf 2 0 0 (fun r' w' z => r' = some (.int (nI (lbO σ r k 8))) ∧ w' = w ∧ z = sz) (w) (sz) (0) (0) [some (.ref o), some (.int (nI r)), some (.int (nI k)), some (.int (nI (lbI σ r k a (lbO σ r k a) b))), some (.int (nI a)), some (.int (nI b)), none, none, none] [.int (nI x), .int (nI (lbI σ r k a (lbO σ r k a) b))] 134 := by
                  intro x hx
                  have hz29 : σ a = nI r := b29
                  have q3 : lbI σ r k a (lbO σ r k a) (b + 1) = lbI σ r k a (lbO σ r k a) b + x := by rw [hx]; simp only [lbI, lbS]; rw [if_neg b69]
                  refine v_iaddN dX8_labelsOf_134 ?_
                  refine v_istore_n dX8_labelsOf_135 (by decide) rfl ?_
                  refine v_iincN dX8_labelsOf_136 (by decide) rfl rfl rfl ?_
                  refine v_goto (tgt := 15) dX8_labelsOf_139 (by decide) ?_
                  refine v_eqL ?_ (ihb (by omega) (Or.inr hz29))
                  rw [q3]
                  rfl
                refine v_iload_n dX8_labelsOf_98 rfl ?_
                refine v_iload dX8_labelsOf_99 rfl ?_
                refine v_iload_n dX8_labelsOf_101 rfl ?_
                refine v_iconst (v := nI 2) dX8_labelsOf_102 (by decide) ?_
                refine v_icmp_eqN (tgt := 110) dX8_labelsOf_103 (by decide) (by omega) (by omega) (fun b103 => ?_) (fun b103 => ?_)
                ·
                  have g3 : decide (k = 2) = true := by simp [b103]
                  refine v_iconst (v := nI 0) dX8_labelsOf_110 (by decide) ?_
                  refine v_icmp_neN (tgt := 133) dX8_labelsOf_111 (by decide) (by decide) (by decide) (fun z => absurd z (by decide)) (fun _ => ?_)
                  refine v_iload dX8_labelsOf_114 rfl ?_
                  refine v_iload_n dX8_labelsOf_116 rfl ?_
                  refine v_iconst (v := nI 1) dX8_labelsOf_117 (by decide) ?_
                  refine v_icmp_eqN (tgt := 125) dX8_labelsOf_118 (by decide) (by omega) (by omega) (fun b118 => ?_) (fun b118 => ?_)
                  ·
                    have g4 : nI 0 = b2i (!decide (k = 1)) := by simp [b118, b2i]
                    refine v_iconst (v := nI 0) dX8_labelsOf_125 (by decide) ?_
                    refine v_icmp_ne (tgt := 133) dX8_labelsOf_126 (by decide) (fun b126 => ?_) (fun b126 => ?_)
                    ·
                      rw [g4] at b126
                      have g6 : (decide (0 < ln σ (3 * a + b)) == !decide (k = 1)) = false := by
                        cases h6 : (decide (0 < ln σ (3 * a + b)) == !decide (k = 1))
                        · rfl
                        · exact absurd (by rw [eq_of_beq h6]) b126
                      refine v_iconst (v := nI 0) dX8_labelsOf_133 (by decide) ?_
                      refine v_drop 6 ?_
                      refine v_drop 7 ?_
                      exact JN 0 (by rw [g6]; simp)
                    ·
                      rw [g4] at b126
                      have g6 : decide (0 < ln σ (3 * a + b)) = !decide (k = 1) := b2i_inj b126
                      refine v_iconst (v := nI 1) dX8_labelsOf_129 (by decide) ?_
                      refine v_goto (tgt := 134) dX8_labelsOf_130 (by decide) ?_
                      refine v_drop 6 ?_
                      refine v_drop 7 ?_
                      exact JN 1 (by rw [g6, g1, g3]; simp)
                  ·
                    have g4 : nI 1 = b2i (!decide (k = 1)) := by simp [b118, b2i]
                    refine v_iconst (v := nI 1) dX8_labelsOf_121 (by decide) ?_
                    refine v_goto (tgt := 126) dX8_labelsOf_122 (by decide) ?_
                    refine v_icmp_ne (tgt := 133) dX8_labelsOf_126 (by decide) (fun b126 => ?_) (fun b126 => ?_)
                    ·
                      rw [g4] at b126
                      have g6 : (decide (0 < ln σ (3 * a + b)) == !decide (k = 1)) = false := by
                        cases h6 : (decide (0 < ln σ (3 * a + b)) == !decide (k = 1))
                        · rfl
                        · exact absurd (by rw [eq_of_beq h6]) b126
                      refine v_iconst (v := nI 0) dX8_labelsOf_133 (by decide) ?_
                      refine v_drop 6 ?_
                      refine v_drop 7 ?_
                      exact JN 0 (by rw [g6]; simp)
                    ·
                      rw [g4] at b126
                      have g6 : decide (0 < ln σ (3 * a + b)) = !decide (k = 1) := b2i_inj b126
                      refine v_iconst (v := nI 1) dX8_labelsOf_129 (by decide) ?_
                      refine v_goto (tgt := 134) dX8_labelsOf_130 (by decide) ?_
                      refine v_drop 6 ?_
                      refine v_drop 7 ?_
                      exact JN 1 (by rw [g6, g1, g3]; simp)
                ·
                  have g3 : decide (k = 2) = false := by simp [b103]
                  refine v_iconst (v := nI 1) dX8_labelsOf_106 (by decide) ?_
                  refine v_goto (tgt := 111) dX8_labelsOf_107 (by decide) ?_
                  refine v_icmp_neN (tgt := 133) dX8_labelsOf_111 (by decide) (by decide) (by decide) (fun _ => ?_) (fun z => absurd z (by decide))
                  refine v_iconst (v := nI 0) dX8_labelsOf_133 (by decide) ?_
                  refine v_drop 6 ?_
                  refine v_drop 7 ?_
                  exact JN 0 (by rw [g1, g3]; simp)
              ·
                refine v_aload_n dX8_labelsOf_72 rfl ?_
                refine v_iload dX8_labelsOf_73 rfl ?_
                refine v_iload dX8_labelsOf_75 rfl ?_
                refine u_rV2 oX8_wordsOf dX8_labelsOf_77 ml_X8_42 (show Rd mX8_wordsOf 1 _ w (some (.int (nI (nwl σ (3 * a + b))))) from c_wordsOf hM a b ⟨by omega, by omega⟩ (hl _ (by omega))) hM.1 (by decide) (Nat.le_of_ble_eq_true rfl) (Nat.le_refl _) (Nat.le_refl _) ?_
                refine v_istore dX8_labelsOf_80 (by decide) rfl ?_
                refine v_iload dX8_labelsOf_82 rfl ?_
                refine v_iload_n dX8_labelsOf_84 rfl ?_
                refine v_icmp_leN (tgt := 93) dX8_labelsOf_85 (by decide) (by have := hnl (3 * a + b) (by omega); omega) (by omega) (fun b85 => ?_) (fun b85 => ?_)
                ·
                  have q3 : lbI σ r k a (lbO σ r k a) (b + 1) = lbI σ r k a (lbO σ r k a) b := by
                    simp only [lbI, lbS]
                    rw [if_pos b69, if_neg (Nat.not_lt.mpr b85)]
                  refine v_iload_n dX8_labelsOf_93 rfl ?_
                  refine v_istore_n dX8_labelsOf_94 (by decide) rfl ?_
                  refine v_goto (tgt := 136) dX8_labelsOf_95 (by decide) ?_
                  refine v_iincN dX8_labelsOf_136 (by decide) rfl rfl rfl ?_
                  refine v_goto (tgt := 15) dX8_labelsOf_139 (by decide) ?_
                  refine v_drop 6 ?_
                  refine v_drop 7 ?_
                  refine v_drop 8 ?_
                  refine v_eqL ?_ (ihb (by omega) (Or.inr b29))
                  rw [q3]
                  rfl
                ·
                  have q3 : lbI σ r k a (lbO σ r k a) (b + 1) = nwl σ (3 * a + b) := by
                    simp only [lbI, lbS]
                    rw [if_pos b69, if_pos (Nat.not_le.mp b85)]
                  refine v_iload dX8_labelsOf_88 rfl ?_
                  refine v_goto (tgt := 94) dX8_labelsOf_90 (by decide) ?_
                  refine v_istore_n dX8_labelsOf_94 (by decide) rfl ?_
                  refine v_goto (tgt := 136) dX8_labelsOf_95 (by decide) ?_
                  refine v_iincN dX8_labelsOf_136 (by decide) rfl rfl rfl ?_
                  refine v_goto (tgt := 15) dX8_labelsOf_139 (by decide) ?_
                  refine v_drop 6 ?_
                  refine v_drop 7 ?_
                  refine v_drop 8 ?_
                  refine v_eqL ?_ (ihb (by omega) (Or.inr b29))
                  rw [q3]
                  rfl
            ·
              have g1 : askB σ r b = true := by simp [askB, b47]
              refine v_iconst (v := nI 1) dX8_labelsOf_50 (by decide) ?_
              refine v_goto (tgt := 55) dX8_labelsOf_51 (by decide) ?_
              refine v_istore dX8_labelsOf_55 (by decide) rfl ?_
              refine v_aload_n dX8_labelsOf_57 rfl ?_
              refine v_iload dX8_labelsOf_58 rfl ?_
              refine v_iload dX8_labelsOf_60 rfl ?_
              refine u_rV2 oX8_isLabel dX8_labelsOf_62 ml_X8_75 (show Rd mX8_isLabel 1 _ w (some (.int (b2i (decide (0 < ln σ (3 * a + b)))))) from c_isLabel hM a b ⟨by omega, by omega⟩ (hl _ (by omega))) hM.1 (by decide) (Nat.le_of_ble_eq_true rfl) (Nat.le_refl _) (Nat.le_refl _) ?_
              refine v_istore dX8_labelsOf_65 (by decide) rfl ?_
              refine v_iload_n dX8_labelsOf_67 rfl ?_
              refine v_iconst (v := nI 3) dX8_labelsOf_68 (by decide) ?_
              refine v_icmp_neN (tgt := 98) dX8_labelsOf_69 (by decide) (by omega) (by omega) (fun b69 => ?_) (fun b69 => ?_)
              ·
                have JN : ∀ x, x = (if ((askB σ r b == !decide (k = 2)) && (decide (0 < ln σ (3 * a + b)) == !decide (k = 1))) = true then 1 else 0) → V mX8_labelsOf 2 0 0 (fun r' w' z => r' = some (.int (nI (lbO σ r k 8))) ∧ w' = w ∧ z = sz) (w) (sz) (0) (0) [some (.ref o), some (.int (nI r)), some (.int (nI k)), some (.int (nI (lbI σ r k a (lbO σ r k a) b))), some (.int (nI a)), some (.int (nI b)), none, none, none] [.int (nI x), .int (nI (lbI σ r k a (lbO σ r k a) b))] 134 := by
                  intro x hx
                  have hz29 : σ a = nI r := b29
                  have q3 : lbI σ r k a (lbO σ r k a) (b + 1) = lbI σ r k a (lbO σ r k a) b + x := by rw [hx]; simp only [lbI, lbS]; rw [if_neg b69]
                  refine v_iaddN dX8_labelsOf_134 ?_
                  refine v_istore_n dX8_labelsOf_135 (by decide) rfl ?_
                  refine v_iincN dX8_labelsOf_136 (by decide) rfl rfl rfl ?_
                  refine v_goto (tgt := 15) dX8_labelsOf_139 (by decide) ?_
                  refine v_eqL ?_ (ihb (by omega) (Or.inr hz29))
                  rw [q3]
                  rfl
                refine v_iload_n dX8_labelsOf_98 rfl ?_
                refine v_iload dX8_labelsOf_99 rfl ?_
                refine v_iload_n dX8_labelsOf_101 rfl ?_
                refine v_iconst (v := nI 2) dX8_labelsOf_102 (by decide) ?_
                refine v_icmp_eqN (tgt := 110) dX8_labelsOf_103 (by decide) (by omega) (by omega) (fun b103 => ?_) (fun b103 => ?_)
                ·
                  have g3 : decide (k = 2) = true := by simp [b103]
                  refine v_iconst (v := nI 0) dX8_labelsOf_110 (by decide) ?_
                  refine v_icmp_neN (tgt := 133) dX8_labelsOf_111 (by decide) (by decide) (by decide) (fun _ => ?_) (fun z => absurd z (by decide))
                  refine v_iconst (v := nI 0) dX8_labelsOf_133 (by decide) ?_
                  refine v_drop 6 ?_
                  refine v_drop 7 ?_
                  exact JN 0 (by rw [g1, g3]; simp)
                ·
                  have g3 : decide (k = 2) = false := by simp [b103]
                  refine v_iconst (v := nI 1) dX8_labelsOf_106 (by decide) ?_
                  refine v_goto (tgt := 111) dX8_labelsOf_107 (by decide) ?_
                  refine v_icmp_neN (tgt := 133) dX8_labelsOf_111 (by decide) (by decide) (by decide) (fun z => absurd z (by decide)) (fun _ => ?_)
                  refine v_iload dX8_labelsOf_114 rfl ?_
                  refine v_iload_n dX8_labelsOf_116 rfl ?_
                  refine v_iconst (v := nI 1) dX8_labelsOf_117 (by decide) ?_
                  refine v_icmp_eqN (tgt := 125) dX8_labelsOf_118 (by decide) (by omega) (by omega) (fun b118 => ?_) (fun b118 => ?_)
                  ·
                    have g4 : nI 0 = b2i (!decide (k = 1)) := by simp [b118, b2i]
                    refine v_iconst (v := nI 0) dX8_labelsOf_125 (by decide) ?_
                    refine v_icmp_ne (tgt := 133) dX8_labelsOf_126 (by decide) (fun b126 => ?_) (fun b126 => ?_)
                    ·
                      rw [g4] at b126
                      have g6 : (decide (0 < ln σ (3 * a + b)) == !decide (k = 1)) = false := by
                        cases h6 : (decide (0 < ln σ (3 * a + b)) == !decide (k = 1))
                        · rfl
                        · exact absurd (by rw [eq_of_beq h6]) b126
                      refine v_iconst (v := nI 0) dX8_labelsOf_133 (by decide) ?_
                      refine v_drop 6 ?_
                      refine v_drop 7 ?_
                      exact JN 0 (by rw [g6]; simp)
                    ·
                      rw [g4] at b126
                      have g6 : decide (0 < ln σ (3 * a + b)) = !decide (k = 1) := b2i_inj b126
                      refine v_iconst (v := nI 1) dX8_labelsOf_129 (by decide) ?_
                      refine v_goto (tgt := 134) dX8_labelsOf_130 (by decide) ?_
                      refine v_drop 6 ?_
                      refine v_drop 7 ?_
                      exact JN 1 (by rw [g6, g1, g3]; simp)
                  ·
                    have g4 : nI 1 = b2i (!decide (k = 1)) := by simp [b118, b2i]
                    refine v_iconst (v := nI 1) dX8_labelsOf_121 (by decide) ?_
                    refine v_goto (tgt := 126) dX8_labelsOf_122 (by decide) ?_
                    refine v_icmp_ne (tgt := 133) dX8_labelsOf_126 (by decide) (fun b126 => ?_) (fun b126 => ?_)
                    ·
                      rw [g4] at b126
                      have g6 : (decide (0 < ln σ (3 * a + b)) == !decide (k = 1)) = false := by
                        cases h6 : (decide (0 < ln σ (3 * a + b)) == !decide (k = 1))
                        · rfl
                        · exact absurd (by rw [eq_of_beq h6]) b126
                      refine v_iconst (v := nI 0) dX8_labelsOf_133 (by decide) ?_
                      refine v_drop 6 ?_
                      refine v_drop 7 ?_
                      exact JN 0 (by rw [g6]; simp)
                    ·
                      rw [g4] at b126
                      have g6 : decide (0 < ln σ (3 * a + b)) = !decide (k = 1) := b2i_inj b126
                      refine v_iconst (v := nI 1) dX8_labelsOf_129 (by decide) ?_
                      refine v_goto (tgt := 134) dX8_labelsOf_130 (by decide) ?_
                      refine v_drop 6 ?_
                      refine v_drop 7 ?_
                      exact JN 1 (by rw [g6, g1, g3]; simp)
              ·
                refine v_aload_n dX8_labelsOf_72 rfl ?_
                refine v_iload dX8_labelsOf_73 rfl ?_
                refine v_iload dX8_labelsOf_75 rfl ?_
                refine u_rV2 oX8_wordsOf dX8_labelsOf_77 ml_X8_42 (show Rd mX8_wordsOf 1 _ w (some (.int (nI (nwl σ (3 * a + b))))) from c_wordsOf hM a b ⟨by omega, by omega⟩ (hl _ (by omega))) hM.1 (by decide) (Nat.le_of_ble_eq_true rfl) (Nat.le_refl _) (Nat.le_refl _) ?_
                refine v_istore dX8_labelsOf_80 (by decide) rfl ?_
                refine v_iload dX8_labelsOf_82 rfl ?_
                refine v_iload_n dX8_labelsOf_84 rfl ?_
                refine v_icmp_leN (tgt := 93) dX8_labelsOf_85 (by decide) (by have := hnl (3 * a + b) (by omega); omega) (by omega) (fun b85 => ?_) (fun b85 => ?_)
                ·
                  have q3 : lbI σ r k a (lbO σ r k a) (b + 1) = lbI σ r k a (lbO σ r k a) b := by
                    simp only [lbI, lbS]
                    rw [if_pos b69, if_neg (Nat.not_lt.mpr b85)]
                  refine v_iload_n dX8_labelsOf_93 rfl ?_
                  refine v_istore_n dX8_labelsOf_94 (by decide) rfl ?_
                  refine v_goto (tgt := 136) dX8_labelsOf_95 (by decide) ?_
                  refine v_iincN dX8_labelsOf_136 (by decide) rfl rfl rfl ?_
                  refine v_goto (tgt := 15) dX8_labelsOf_139 (by decide) ?_
                  refine v_drop 6 ?_
                  refine v_drop 7 ?_
                  refine v_drop 8 ?_
                  refine v_eqL ?_ (ihb (by omega) (Or.inr b29))
                  rw [q3]
                  rfl
                ·
                  have q3 : lbI σ r k a (lbO σ r k a) (b + 1) = nwl σ (3 * a + b) := by
                    simp only [lbI, lbS]
                    rw [if_pos b69, if_pos (Nat.not_le.mp b85)]
                  refine v_iload dX8_labelsOf_88 rfl ?_
                  refine v_goto (tgt := 94) dX8_labelsOf_90 (by decide) ?_
                  refine v_istore_n dX8_labelsOf_94 (by decide) rfl ?_
                  refine v_goto (tgt := 136) dX8_labelsOf_95 (by decide) ?_
                  refine v_iincN dX8_labelsOf_136 (by decide) rfl rfl rfl ?_
                  refine v_goto (tgt := 15) dX8_labelsOf_139 (by decide) ?_
                  refine v_drop 6 ?_
                  refine v_drop 7 ?_
                  refine v_drop 8 ?_
                  refine v_eqL ?_ (ihb (by omega) (Or.inr b29))
                  rw [q3]
                  rfl
      exact LP15 0 (Nat.zero_le _) (Or.inl rfl)
  exact LP5 0 (Nat.zero_le _)
end
section
theorem nI_lt0_of {x : Int32} (h : ¬ (0 : Int32) ≤ x) : x < 0 := Int32.not_le.mp h
def rankedI (σ : Nat → Int32) (x y z : Int32) : Int32 := if (inB x 7 && inB y 2) = true then (if z < 0 then -2 else rkI σ (3 * nt x + nt y) z) else -1
/-- a row of the table of the most words in common: from the row before -/
def rst (e : Nat → Bool) (pv : Nat → Nat) : Nat → Nat
  | 0 => 0
  | j + 1 => if e j = true then pv j + 1 else if rst e pv j < pv (j + 1) then pv (j + 1) else rst e pv j
def lcr (e : Nat → Nat → Bool) : Nat → Nat → Nat
  | 0 => fun _ => 0
  | i + 1 => rst (e i) (lcr e i)
theorem rst_le {e : Nat → Bool} {pv : Nat → Nat} {b : Nat} (h : ∀ j, pv j ≤ b) : ∀ j, rst e pv j ≤ b + 1
  | 0 => by simp [rst]
  | j + 1 => by
    have h1 := rst_le (e := e) h j
    have h2 := h j
    have h3 := h (j + 1)
    simp only [rst]
    split
    · omega
    · split <;> omega
theorem lcr_le {e : Nat → Nat → Bool} : ∀ i j, lcr e i j ≤ i
  | 0, j => by simp [lcr]
  | i + 1, j => rst_le (e := e i) (fun j => lcr_le i j) j
set_option maxHeartbeats 4000000 in
set_option maxRecDepth 100000 in
theorem c_rankedN {w : Wd} {o ns tn : Nat} {kp : Int32} {σ tx cm : Nat → Int32} (hM : MW w o ns tn kp σ tx cm) (a b : Nat) (z : Int32) (h : a < 8 ∧ b < 3) (hz : 0 ≤ z) : Rd mX8_ranked 2 [.ref o, .int (nI a), .int (nI b), .int z] w (some (.int (rkI σ (3 * a + b) z))) := by
  intro sz
  refine Ev.ofV [some (.ref o), some (.int (nI a)), some (.int (nI b)), some (.int z), none, none, none, none, none, none] (by decide) (Nat.le_of_ble_eq_true rfl) rfl rfl rfl ?_
  have hpr : (inB (nI a) 7 && inB (nI b) 2) = true := by rw [inB_nI (by omega) (by omega), inB_nI (by omega) (by omega)]; simp; omega
  have hfl := fst_le (rkB σ (3 * a + b) z) 16
  refine v_iload_n dX8_ranked_0 rfl ?_
  refine v_iload_n dX8_ranked_1 rfl ?_
  refine u_rS2 oX8_isPair dX8_ranked_2 ml_X8_72 (c_isPair (nI a) (nI b)) (by decide) (Nat.le_of_ble_eq_true rfl) (Nat.le_refl _) (Nat.le_refl _) ?_
  refine v_if_neB (tgt := 10) dX8_ranked_5 (by decide) (fun b5 => ?_) (fun b5 => ?_)
  ·
    refine v_iload_n dX8_ranked_10 rfl ?_
    refine v_if_ge (tgt := 17) dX8_ranked_11 (by decide) (fun b11 => ?_) (fun b11 => ?_)
    ·
      refine v_iconst (v := nI 0) dX8_ranked_17 (by decide) ?_
      refine v_istore dX8_ranked_18 (by decide) rfl ?_
      have LP20 : ∀ k, k ≤ fst (rkB σ (3 * a + b) z) 16 → V mX8_ranked 2 0 0 (fun r' w' zz => r' = some (.int (rkI σ (3 * a + b) z)) ∧ w' = w ∧ zz = sz) (w) (sz) (0) (0) [some (.ref o), some (.int (nI a)), some (.int (nI b)), some (.int z), some (.int (nI k)), none, none, none, none, none] [] 20 := by
        refine dn (fun k hk ihk => ?_)
        refine v_iload dX8_ranked_20 rfl ?_
        refine v_bipush (v := nI 16) dX8_ranked_22 (by decide) ?_
        refine v_icmp_geN (tgt := 200) dX8_ranked_24 (by decide) (by omega) (by omega) (fun b24 => ?_) (fun b24 => ?_)
        ·
          refine v_bipush (v := -5) dX8_ranked_200 (by decide) ?_
          refine v_iret dX8_ranked_202 rfl (Nat.le_refl _) (Nat.le_refl _) ?_
          exact ⟨by unfold rkI; rw [if_neg (by omega)], rfl, rfl⟩
        ·
          refine v_iload dX8_ranked_27 rfl ?_
          refine u_rS1 oX8_paper dX8_ranked_29 ml_X8_49 (c_paper k) (by decide) (Nat.le_of_ble_eq_true rfl) (Nat.le_refl _) (Nat.le_refl _) ?_
          refine v_istore dX8_ranked_32 (by decide) rfl ?_
          refine v_aload_n dX8_ranked_34 rfl ?_
          refine v_get 0 dX8_ranked_35 FTX8 (by decide) rfl fl_X8_7 hM.1 rfl ?_
          refine v_iload dX8_ranked_38 rfl ?_
          refine v_iald _ dX8_ranked_40 hM.2.1 rfl (by omega) (by decide) ?_
          refine v_if_lt (tgt := 194) dX8_ranked_41 (by decide) (fun b41 => ?_) (fun b41 => ?_)
          ·
            have q5 : rkB σ (3 * a + b) z k = false := by simp [rkB, cand, Int32.not_le.mpr b41]
            have q6 : k < fst (rkB σ (3 * a + b) z) 16 := by
              rcases Nat.lt_or_ge k (fst (rkB σ (3 * a + b) z) 16) with h1 | h1
              · exact h1
              · have h2 := fst_yes (rkB σ (3 * a + b) z) 16 (by omega)
                rw [show fst (rkB σ (3 * a + b) z) 16 = k by omega, q5] at h2
                cases h2
            refine v_iincN dX8_ranked_194 (by decide) rfl rfl rfl ?_
            refine v_goto (tgt := 20) dX8_ranked_197 (by decide) ?_
            refine v_drop 5 ?_
            refine v_drop 6 ?_
            refine v_drop 7 ?_
            refine v_drop 8 ?_
            refine v_drop 9 ?_
            exact ihk q6
          ·
            have q1 : (0 : Int32) ≤ σ (1808 + 65 * k) := Int32.not_lt.mp b41
            refine v_aload_n dX8_ranked_44 rfl ?_
            refine v_get 0 dX8_ranked_45 FTX8 (by decide) rfl fl_X8_7 hM.1 rfl ?_
            refine v_iload dX8_ranked_48 rfl ?_
            refine v_iconst (v := nI 1) dX8_ranked_50 (by decide) ?_
            refine v_iaddN dX8_ranked_51 ?_
            refine v_iald _ dX8_ranked_52 hM.2.1 rfl (by omega) (by decide) ?_
            refine v_iconst (v := nI 3) dX8_ranked_53 (by decide) ?_
            refine v_iload_n dX8_ranked_54 rfl ?_
            refine v_imulN dX8_ranked_55 ?_
            refine v_iload_n dX8_ranked_56 rfl ?_
            refine v_iaddN dX8_ranked_57 ?_
            refine v_icmp_ne (tgt := 194) dX8_ranked_58 (by decide) (fun b58 => ?_) (fun b58 => ?_)
            ·
              have q5 : rkB σ (3 * a + b) z k = false := by simp [rkB, cand, b58]
              have q6 : k < fst (rkB σ (3 * a + b) z) 16 := by
                rcases Nat.lt_or_ge k (fst (rkB σ (3 * a + b) z) 16) with h1 | h1
                · exact h1
                · have h2 := fst_yes (rkB σ (3 * a + b) z) 16 (by omega)
                  rw [show fst (rkB σ (3 * a + b) z) 16 = k by omega, q5] at h2
                  cases h2
              refine v_iincN dX8_ranked_194 (by decide) rfl rfl rfl ?_
              refine v_goto (tgt := 20) dX8_ranked_197 (by decide) ?_
              refine v_drop 5 ?_
              refine v_drop 6 ?_
              refine v_drop 7 ?_
              refine v_drop 8 ?_
              refine v_drop 9 ?_
              exact ihk q6
            ·
              refine v_iconst (v := nI 0) dX8_ranked_61 (by decide) ?_
              refine v_istore dX8_ranked_62 (by decide) rfl ?_
              refine v_iconst (v := nI 0) dX8_ranked_64 (by decide) ?_
              refine v_istore dX8_ranked_65 (by decide) rfl ?_
              have LP67 : ∀ j, j ≤ 16 → V mX8_ranked 2 0 0 (fun r' w' zz => r' = some (.int (rkI σ (3 * a + b) z)) ∧ w' = w ∧ zz = sz) (w) (sz) (0) (0) [some (.ref o), some (.int (nI a)), some (.int (nI b)), some (.int z), some (.int (nI k)), some (.int (nI (1808 + 65 * k))), some (.int (nI (cnt (ahd σ k) j))), some (.int (nI j)), none, none] [] 67 := by
                refine dn (fun j hj ihj => ?_)
                refine v_iload dX8_ranked_67 rfl ?_
                refine v_bipush (v := nI 16) dX8_ranked_69 (by decide) ?_
                refine v_icmp_geN (tgt := 180) dX8_ranked_71 (by decide) (by omega) (by omega) (fun b71 => ?_) (fun b71 => ?_)
                ·
                  have e3 : j = 16 := by omega
                  subst e3
                  refine v_iload dX8_ranked_180 rfl ?_
                  refine v_iload_n dX8_ranked_182 rfl ?_
                  refine v_icmp_ne (tgt := 194) dX8_ranked_183 (by decide) (fun b183 => ?_) (fun b183 => ?_)
                  ·
                    have q5 : rkB σ (3 * a + b) z k = false := by simp [rkB, b183]
                    have q6 : k < fst (rkB σ (3 * a + b) z) 16 := by
                      rcases Nat.lt_or_ge k (fst (rkB σ (3 * a + b) z) 16) with h1 | h1
                      · exact h1
                      · have h2 := fst_yes (rkB σ (3 * a + b) z) 16 (by omega)
                        rw [show fst (rkB σ (3 * a + b) z) 16 = k by omega, q5] at h2
                        cases h2
                    refine v_iincN dX8_ranked_194 (by decide) rfl rfl rfl ?_
                    refine v_goto (tgt := 20) dX8_ranked_197 (by decide) ?_
                    refine v_drop 5 ?_
                    refine v_drop 6 ?_
                    refine v_drop 7 ?_
                    refine v_drop 8 ?_
                    refine v_drop 9 ?_
                    exact ihk q6
                  ·
                    have q6 : fst (rkB σ (3 * a + b) z) 16 = k := by
                      rcases Nat.lt_or_ge k (fst (rkB σ (3 * a + b) z) 16) with h1 | h1
                      · have h2 := fst_no _ _ _ h1
                        simp [rkB, cand, q1, b58, b183] at h2
                      · omega
                    refine v_aload_n dX8_ranked_186 rfl ?_
                    refine v_get 0 dX8_ranked_187 FTX8 (by decide) rfl fl_X8_7 hM.1 rfl ?_
                    refine v_iload dX8_ranked_190 rfl ?_
                    refine v_iald _ dX8_ranked_192 hM.2.1 rfl (by omega) (by decide) ?_
                    refine v_iret dX8_ranked_193 rfl (Nat.le_refl _) (Nat.le_refl _) ?_
                    exact ⟨by unfold rkI; rw [q6, if_pos (by omega)], rfl, rfl⟩
                ·
                  refine v_iload dX8_ranked_74 rfl ?_
                  refine u_rS1 oX8_paper dX8_ranked_76 ml_X8_49 (c_paper j) (by decide) (Nat.le_of_ble_eq_true rfl) (Nat.le_refl _) (Nat.le_refl _) ?_
                  refine v_istore dX8_ranked_79 (by decide) rfl ?_
                  refine v_aload_n dX8_ranked_81 rfl ?_
                  refine v_aload_n dX8_ranked_82 rfl ?_
                  refine v_get 0 dX8_ranked_83 FTX8 (by decide) rfl fl_X8_7 hM.1 rfl ?_
                  refine v_iload dX8_ranked_86 rfl ?_
                  refine v_iald _ dX8_ranked_88 hM.2.1 rfl (by omega) (by decide) ?_
                  refine u_rV1 oX8_votesFor dX8_ranked_89 ml_X8_53 (show Rd mX8_votesFor 0 _ w (some (.int (nI (vfk σ j)))) from c_votesFor hM _) hM.1 (by decide) (Nat.le_of_ble_eq_true rfl) (Nat.le_refl _) (Nat.le_refl _) ?_
                  refine v_aload_n dX8_ranked_92 rfl ?_
                  refine v_aload_n dX8_ranked_93 rfl ?_
                  refine v_get 0 dX8_ranked_94 FTX8 (by decide) rfl fl_X8_7 hM.1 rfl ?_
                  refine v_iload dX8_ranked_97 rfl ?_
                  refine v_iald _ dX8_ranked_99 hM.2.1 rfl (by omega) (by decide) ?_
                  refine u_rV1 oX8_votesFor dX8_ranked_100 ml_X8_53 (show Rd mX8_votesFor 0 _ w (some (.int (nI (vfk σ k)))) from c_votesFor hM _) hM.1 (by decide) (Nat.le_of_ble_eq_true rfl) (Nat.le_refl _) (Nat.le_refl _) ?_
                  refine v_isub dX8_ranked_103 ?_
                  refine v_istore dX8_ranked_104 (by decide) rfl ?_
                  refine v_iload dX8_ranked_106 rfl ?_
                  refine v_aload_n dX8_ranked_108 rfl ?_
                  refine v_get 0 dX8_ranked_109 FTX8 (by decide) rfl fl_X8_7 hM.1 rfl ?_
                  refine v_iload dX8_ranked_112 rfl ?_
                  refine v_iald _ dX8_ranked_114 hM.2.1 rfl (by omega) (by decide) ?_
                  refine v_if_lt (tgt := 170) dX8_ranked_115 (by decide) (fun b115 => ?_) (fun b115 => ?_)
                  ·
                    have q := cn0 (p := ahd σ k) (i := j) (by simp [ahd, Int32.not_le.mpr b115])
                    refine v_iconst (v := nI 0) dX8_ranked_170 (by decide) ?_
                    refine v_iaddN dX8_ranked_171 ?_
                    refine v_istore dX8_ranked_172 (by decide) rfl ?_
                    refine v_iincN dX8_ranked_174 (by decide) rfl rfl rfl ?_
                    refine v_goto (tgt := 67) dX8_ranked_177 (by decide) ?_
                    refine v_drop 8 ?_
                    refine v_drop 9 ?_
                    refine v_eqL ?_ (ihj (by omega))
                    rw [← q]
                    rfl
                  ·
                    have q2 : (0 : Int32) ≤ σ (1808 + 65 * j) := Int32.not_lt.mp b115
                    refine v_aload_n dX8_ranked_118 rfl ?_
                    refine v_get 0 dX8_ranked_119 FTX8 (by decide) rfl fl_X8_7 hM.1 rfl ?_
                    refine v_iload dX8_ranked_122 rfl ?_
                    refine v_iconst (v := nI 1) dX8_ranked_124 (by decide) ?_
                    refine v_iaddN dX8_ranked_125 ?_
                    refine v_iald _ dX8_ranked_126 hM.2.1 rfl (by omega) (by decide) ?_
                    refine v_aload_n dX8_ranked_127 rfl ?_
                    refine v_get 0 dX8_ranked_128 FTX8 (by decide) rfl fl_X8_7 hM.1 rfl ?_
                    refine v_iload dX8_ranked_131 rfl ?_
                    refine v_iconst (v := nI 1) dX8_ranked_133 (by decide) ?_
                    refine v_iaddN dX8_ranked_134 ?_
                    refine v_iald _ dX8_ranked_135 hM.2.1 rfl (by omega) (by decide) ?_
                    refine v_icmp_ne (tgt := 170) dX8_ranked_136 (by decide) (fun b136 => ?_) (fun b136 => ?_)
                    ·
                      have q := cn0 (p := ahd σ k) (i := j) (by simp [ahd, b136])
                      refine v_iconst (v := nI 0) dX8_ranked_170 (by decide) ?_
                      refine v_iaddN dX8_ranked_171 ?_
                      refine v_istore dX8_ranked_172 (by decide) rfl ?_
                      refine v_iincN dX8_ranked_174 (by decide) rfl rfl rfl ?_
                      refine v_goto (tgt := 67) dX8_ranked_177 (by decide) ?_
                      refine v_drop 8 ?_
                      refine v_drop 9 ?_
                      refine v_eqL ?_ (ihj (by omega))
                      rw [← q]
                      rfl
                    ·
                      have v1 := vfk_le σ j
                      have v2 := vfk_le σ k
                      refine v_iload dX8_ranked_139 rfl ?_
                      refine v_if_gt (tgt := 166) dX8_ranked_141 (by decide) (fun b141 => ?_) (fun b141 => ?_)
                      ·
                        have c1 := (nI_sub_pos (by omega) (by omega)).mp b141
                        have q := cn1 (p := ahd σ k) (i := j) (by simp [ahd, q2, b136, c1])
                        refine v_iconst (v := nI 1) dX8_ranked_166 (by decide) ?_
                        refine v_goto (tgt := 171) dX8_ranked_167 (by decide) ?_
                        refine v_iaddN dX8_ranked_171 ?_
                        refine v_istore dX8_ranked_172 (by decide) rfl ?_
                        refine v_iincN dX8_ranked_174 (by decide) rfl rfl rfl ?_
                        refine v_goto (tgt := 67) dX8_ranked_177 (by decide) ?_
                        refine v_drop 8 ?_
                        refine v_drop 9 ?_
                        refine v_eqL ?_ (ihj (by omega))
                        rw [← q]
                        rfl
                      ·
                        have c1 := mt (nI_sub_pos (a := vfk σ j) (b := vfk σ k) (by omega) (by omega)).mpr b141
                        refine v_iload dX8_ranked_144 rfl ?_
                        refine v_if_ne (tgt := 170) dX8_ranked_146 (by decide) (fun b146 => ?_) (fun b146 => ?_)
                        ·
                          have c2 := mt (nI_sub_0 (a := vfk σ j) (b := vfk σ k) (by omega) (by omega)).mpr b146
                          have q := cn0 (p := ahd σ k) (i := j) (by simp [ahd, c1, c2])
                          refine v_iconst (v := nI 0) dX8_ranked_170 (by decide) ?_
                          refine v_iaddN dX8_ranked_171 ?_
                          refine v_istore dX8_ranked_172 (by decide) rfl ?_
                          refine v_iincN dX8_ranked_174 (by decide) rfl rfl rfl ?_
                          refine v_goto (tgt := 67) dX8_ranked_177 (by decide) ?_
                          refine v_drop 8 ?_
                          refine v_drop 9 ?_
                          refine v_eqL ?_ (ihj (by omega))
                          rw [← q]
                          rfl
                        ·
                          have c2 := (nI_sub_0 (by omega) (by omega)).mp b146
                          refine v_aload_n dX8_ranked_149 rfl ?_
                          refine v_get 0 dX8_ranked_150 FTX8 (by decide) rfl fl_X8_7 hM.1 rfl ?_
                          refine v_iload dX8_ranked_153 rfl ?_
                          refine v_iald _ dX8_ranked_155 hM.2.1 rfl (by omega) (by decide) ?_
                          refine v_aload_n dX8_ranked_156 rfl ?_
                          refine v_get 0 dX8_ranked_157 FTX8 (by decide) rfl fl_X8_7 hM.1 rfl ?_
                          refine v_iload dX8_ranked_160 rfl ?_
                          refine v_iald _ dX8_ranked_162 hM.2.1 rfl (by omega) (by decide) ?_
                          refine v_icmp_ge (tgt := 170) dX8_ranked_163 (by decide) (fun b163 => ?_) (fun b163 => ?_)
                          ·
                            have c5 : ¬ σ (1808 + 65 * j) < σ (1808 + 65 * k) := Int32.not_lt.mpr b163
                            have q := cn0 (p := ahd σ k) (i := j) (by simp [ahd, c1, c5])
                            refine v_iconst (v := nI 0) dX8_ranked_170 (by decide) ?_
                            refine v_iaddN dX8_ranked_171 ?_
                            refine v_istore dX8_ranked_172 (by decide) rfl ?_
                            refine v_iincN dX8_ranked_174 (by decide) rfl rfl rfl ?_
                            refine v_goto (tgt := 67) dX8_ranked_177 (by decide) ?_
                            refine v_drop 8 ?_
                            refine v_drop 9 ?_
                            refine v_eqL ?_ (ihj (by omega))
                            rw [← q]
                            rfl
                          ·
                            have c5 : σ (1808 + 65 * j) < σ (1808 + 65 * k) := Int32.not_le.mp b163
                            have q := cn1 (p := ahd σ k) (i := j) (by simp [ahd, q2, b136, c2, c5])
                            refine v_iconst (v := nI 1) dX8_ranked_166 (by decide) ?_
                            refine v_goto (tgt := 171) dX8_ranked_167 (by decide) ?_
                            refine v_iaddN dX8_ranked_171 ?_
                            refine v_istore dX8_ranked_172 (by decide) rfl ?_
                            refine v_iincN dX8_ranked_174 (by decide) rfl rfl rfl ?_
                            refine v_goto (tgt := 67) dX8_ranked_177 (by decide) ?_
                            refine v_drop 8 ?_
                            refine v_drop 9 ?_
                            refine v_eqL ?_ (ihj (by omega))
                            rw [← q]
                            rfl
              exact LP67 0 (Nat.zero_le _)
      exact LP20 0 (Nat.zero_le _)
    ·
      exact absurd hz b11
  ·
    exact absurd hpr (by rw [b5]; decide)
set_option maxHeartbeats 4000000 in
set_option maxRecDepth 100000 in
theorem c_ranked0 {w : Wd} {o ns tn : Nat} {kp : Int32} {σ tx cm : Nat → Int32} (hM : MW w o ns tn kp σ tx cm) (x y z : Int32) (h : (inB x 7 && inB y 2) = false ∨ z < 0) : Rd mX8_ranked 2 [.ref o, .int x, .int y, .int z] w (some (.int (rankedI σ x y z))) := by
  intro sz
  refine Ev.ofV [some (.ref o), some (.int x), some (.int y), some (.int z), none, none, none, none, none, none] (by decide) (Nat.le_of_ble_eq_true rfl) rfl rfl rfl ?_
  refine v_iload_n dX8_ranked_0 rfl ?_
  refine v_iload_n dX8_ranked_1 rfl ?_
  refine u_rS2 oX8_isPair dX8_ranked_2 ml_X8_72 (c_isPair x y) (by decide) (Nat.le_of_ble_eq_true rfl) (Nat.le_refl _) (Nat.le_refl _) ?_
  refine v_if_neB (tgt := 10) dX8_ranked_5 (by decide) (fun b5 => ?_) (fun b5 => ?_)
  ·
    refine v_iload_n dX8_ranked_10 rfl ?_
    refine v_if_ge (tgt := 17) dX8_ranked_11 (by decide) (fun b11 => ?_) (fun b11 => ?_)
    ·
      exact absurd b11 (Int32.not_le.mpr (by rcases h with h | h; exact absurd h (by rw [b5]; decide); exact h))
    ·
      refine v_bipush (v := -2) dX8_ranked_14 (by decide) ?_
      refine v_iret dX8_ranked_16 rfl (Nat.le_refl _) (Nat.le_refl _) ?_
      exact ⟨by unfold rankedI; rw [if_pos b5, if_pos (Int32.not_le.mp b11)], rfl, rfl⟩
  ·
    refine v_iconst (v := -1) dX8_ranked_8 (by decide) ?_
    refine v_iret dX8_ranked_9 rfl (Nat.le_refl _) (Nat.le_refl _) ?_
    exact ⟨by unfold rankedI; rw [if_neg (by rw [b5]; decide)], rfl, rfl⟩
theorem c_ranked {w : Wd} {o ns tn : Nat} {kp : Int32} {σ tx cm : Nat → Int32} (hM : MW w o ns tn kp σ tx cm) (x y z : Int32) : Rd mX8_ranked 2 [.ref o, .int x, .int y, .int z] w (some (.int (rankedI σ x y z))) := by
  by_cases h : (inB x 7 && inB y 2) = false ∨ z < 0
  · exact c_ranked0 hM x y z h
  · have h1 : (inB x 7 && inB y 2) = true := by
      cases e : (inB x 7 && inB y 2)
      · exact absurd (Or.inl e) h
      · rfl
    have h2 : ¬ z < 0 := fun e => h (Or.inr e)
    have h3 := h1
    simp only [Bool.and_eq_true] at h3
    have hx := inB_ub (by omega) h3.1
    have hy := inB_ub (by omega) h3.2
    have c := c_rankedN hM (nt x) (nt y) z ⟨hx.2, hy.2⟩ (Int32.not_lt.mp h2)
    rw [← hx.1, ← hy.1] at c
    unfold rankedI
    rw [if_pos h1, if_neg h2]
    exact c
end
section
/-- the table holds the first i rows, and the first j of row i -/
def tbl (e : Nat → Nat → Bool) (m i j : Nat) (cm : Nat → Int32) : Prop := (∀ i' j', i' < i → j' ≤ m → cm (31 * i' + j') = nI (lcr e i' j')) ∧ ∀ j', j' < j → cm (31 * i + j') = nI (lcr e i j')
theorem tbl_0 (e : Nat → Nat → Bool) (m : Nat) (cm : Nat → Int32) : tbl e m 0 0 cm := ⟨fun _ _ h _ => absurd h (Nat.not_lt_zero _), fun _ h => absurd h (Nat.not_lt_zero _)⟩
theorem tbl_j {e : Nat → Nat → Bool} {m i j : Nat} {cm : Nat → Int32} {v : Nat} (h : tbl e m i j cm) (hj : j ≤ m) (hm : m ≤ 30) (hv : v = lcr e i j) : tbl e m i (j + 1) (upd cm (31 * i + j) (nI v)) := by
  refine ⟨fun i' j' h1 h2 => ?_, fun j' h1 => ?_⟩
  · rw [up_ne _ _ (by omega)]
    exact h.1 i' j' h1 h2
  · by_cases e1 : j' = j
    · rw [e1, up_eq, hv]
    · rw [up_ne _ _ (by omega)]
      exact h.2 j' (by omega)
theorem tbl_i {e : Nat → Nat → Bool} {m i : Nat} {cm : Nat → Int32} (h : tbl e m i (m + 1) cm) : tbl e m (i + 1) 0 cm := by
  refine ⟨fun i' j' h1 h2 => ?_, fun _ h => absurd h (Nat.not_lt_zero _)⟩
  by_cases e1 : i' = i
  · rw [e1]
    exact h.2 j' (by omega)
  · exact h.1 i' j' (by omega) h2
def smE (f g : Nat → Int32) (n m : Nat) : Nat → Nat → Bool := fun i j => same f n i g m j
theorem nw_cnt {f : Nat → Int32} {n i : Nat} (h : i < nw f n) : i ≤ cnt (bl f) n := by
  unfold nw at h
  split at h <;> omega
/-- how far two rows of words are apart -/
def aprt (f g : Nat → Int32) (n m : Nat) : Int32 := nI (nw f n + nw g m) - nI (2 * lcr (smE f g n m) (nw f n) (nw g m))
set_option maxHeartbeats 4000000 in
set_option maxRecDepth 100000 in
theorem c_apart {w : Wd} {o ns tn : Nat} {kp : Int32} {σ tx cm : Nat → Int32} (hM : MW w o ns tn kp σ tx cm) (a n b m : Nat) (h : a + n ≤ 17088) (h2 : b + m ≤ 17088) (hP : nw (sft σ a) n ≤ 30) (hR : nw (sft σ b) m ≤ 30) : Wr mX8_apart 2 [.ref o, .int (nI a), .int (nI n), .int (nI b), .int (nI m)] w (fun r' w' => r' = some (.int (aprt (sft σ a) (sft σ b) n m)) ∧ ∃ cm', w' = wu w (o + 3) (ia 1 961 cm')) := by
  intro sz
  refine Ev.ofV [some (.ref o), some (.int (nI a)), some (.int (nI n)), some (.int (nI b)), some (.int (nI m)), none, none, none, none, none, none, none, none] (by decide) (Nat.le_of_ble_eq_true rfl) rfl rfl rfl ?_
  have c1 := c_words hM a n h
  have c2 := c_words hM b m h2
  obtain ⟨P, eP⟩ : ∃ P, P = nw (sft σ a) n := ⟨_, rfl⟩
  obtain ⟨R, eR⟩ : ∃ R, R = nw (sft σ b) m := ⟨_, rfl⟩
  rw [← eP] at c1 hP
  rw [← eR] at c2 hR
  refine v_aload_n dX8_apart_0 rfl ?_
  refine v_iload_n dX8_apart_1 rfl ?_
  refine v_iload_n dX8_apart_2 rfl ?_
  refine u_rV2 oX8_words dX8_apart_3 ml_X8_32 c1 hM.1 (by decide) (Nat.le_of_ble_eq_true rfl) (Nat.le_refl _) (Nat.le_refl _) ?_
  refine v_istore dX8_apart_6 (by decide) rfl ?_
  refine v_aload_n dX8_apart_8 rfl ?_
  refine v_iload_n dX8_apart_9 rfl ?_
  refine v_iload dX8_apart_10 rfl ?_
  refine u_rV2 oX8_words dX8_apart_12 ml_X8_32 c2 hM.1 (by decide) (Nat.le_of_ble_eq_true rfl) (Nat.le_refl _) (Nat.le_refl _) ?_
  refine v_istore dX8_apart_15 (by decide) rfl ?_
  refine v_iconst (v := nI 0) dX8_apart_17 (by decide) ?_
  refine v_istore dX8_apart_18 (by decide) rfl ?_
  have LP20 : ∀ i, i ≤ P + 1 → ∀ cm1, tbl (smE (sft σ a) (sft σ b) n m) R i 0 cm1 → V mX8_apart 2 0 0 (fun r' w' zz => zz = sz ∧ r' = some (.int (aprt (sft σ a) (sft σ b) n m)) ∧ ∃ cm', w' = wu w (o + 3) (ia 1 961 cm')) (wu w (o + 3) (ia 1 961 cm1)) (sz) (0) (0) [some (.ref o), some (.int (nI a)), some (.int (nI n)), some (.int (nI b)), some (.int (nI m)), some (.int (nI P)), some (.int (nI R)), some (.int (nI i)), none, none, none, none, none] [] 20 := by
    refine dn (fun i hi ihi => ?_)
    intro cm1 ht
    refine v_iload dX8_apart_20 rfl ?_
    refine v_iload dX8_apart_22 rfl ?_
    refine v_icmp_gtN (tgt := 173) dX8_apart_24 (by decide) (by omega) (by omega) (fun b24 => ?_) (fun b24 => ?_)
    ·
      have e4 : i = P + 1 := by omega
      subst e4
      refine v_iload dX8_apart_173 rfl ?_
      refine v_iload dX8_apart_175 rfl ?_
      refine v_iaddN dX8_apart_177 ?_
      refine v_iconst (v := nI 2) dX8_apart_178 (by decide) ?_
      refine v_aload_n dX8_apart_179 rfl ?_
      refine v_get 5 dX8_apart_180 FTX8 (by decide) rfl fl_X8_17 (hM.cm _).1 rfl ?_
      refine v_bipush (v := nI 31) dX8_apart_183 (by decide) ?_
      refine v_iload dX8_apart_185 rfl ?_
      refine v_imulN dX8_apart_187 ?_
      refine v_iload dX8_apart_188 rfl ?_
      refine v_iaddN dX8_apart_190 ?_
      refine v_ialdN _ dX8_apart_191 (hM.cm _).2.2.2 rfl (by omega) (by decide) (ht.1 _ _ (by omega) (Nat.le_refl _)) ?_
      refine v_imulN dX8_apart_192 ?_
      refine v_isub dX8_apart_193 ?_
      refine v_iret dX8_apart_194 rfl (Nat.le_refl _) (Nat.le_refl _) ?_
      refine ⟨rfl, ?_, cm1, rfl⟩
      unfold aprt
      rw [← eP, ← eR, ← nI_mulN]
    ·
      refine v_iconst (v := nI 0) dX8_apart_27 (by decide) ?_
      refine v_istore dX8_apart_28 (by decide) rfl ?_
      have LP30 : ∀ j, j ≤ R + 1 → ∀ cm1, tbl (smE (sft σ a) (sft σ b) n m) R i j cm1 → V mX8_apart 2 0 0 (fun r' w' zz => zz = sz ∧ r' = some (.int (aprt (sft σ a) (sft σ b) n m)) ∧ ∃ cm', w' = wu w (o + 3) (ia 1 961 cm')) (wu w (o + 3) (ia 1 961 cm1)) (sz) (0) (0) [some (.ref o), some (.int (nI a)), some (.int (nI n)), some (.int (nI b)), some (.int (nI m)), some (.int (nI P)), some (.int (nI R)), some (.int (nI i)), some (.int (nI j)), none, none, none, none] [] 30 := by
        refine dn (fun j hj ihj => ?_)
        intro cm1 ht
        refine v_iload dX8_apart_30 rfl ?_
        refine v_iload dX8_apart_32 rfl ?_
        refine v_icmp_gtN (tgt := 167) dX8_apart_34 (by decide) (by omega) (by omega) (fun b34 => ?_) (fun b34 => ?_)
        ·
          have e3 : j = R + 1 := by omega
          subst e3
          refine v_iincN dX8_apart_167 (by decide) rfl rfl rfl ?_
          refine v_goto (tgt := 20) dX8_apart_170 (by decide) ?_
          refine v_drop 8 ?_
          exact ihi (by omega) cm1 (tbl_i ht)
        ·
          have JN : ∀ v, v = lcr (smE (sft σ a) (sft σ b) n m) i j → V mX8_apart 2 0 0 (fun r' w' zz => zz = sz ∧ r' = some (.int (aprt (sft σ a) (sft σ b) n m)) ∧ ∃ cm', w' = wu w (o + 3) (ia 1 961 cm')) (wu w (o + 3) (ia 1 961 cm1)) (sz) (0) (0) [some (.ref o), some (.int (nI a)), some (.int (nI n)), some (.int (nI b)), some (.int (nI m)), some (.int (nI P)), some (.int (nI R)), some (.int (nI i)), some (.int (nI j)), some (.int (nI v)), none, none, none] [] 146 := by
            intro v hv
            refine v_aload_n dX8_apart_146 rfl ?_
            refine v_get 5 dX8_apart_147 FTX8 (by decide) rfl fl_X8_17 (hM.cm _).1 rfl ?_
            refine v_bipush (v := nI 31) dX8_apart_150 (by decide) ?_
            refine v_iload dX8_apart_152 rfl ?_
            refine v_imulN dX8_apart_154 ?_
            refine v_iload dX8_apart_155 rfl ?_
            refine v_iaddN dX8_apart_157 ?_
            refine v_iload dX8_apart_158 rfl ?_
            refine v_iast _ dX8_apart_160 (hM.cm _).2.2.2 rfl (by omega) (by decide) ?_
            refine v_eqw (wu_wu _ _ _ _).symm ?_
            refine v_iincN dX8_apart_161 (by decide) rfl rfl rfl ?_
            refine v_goto (tgt := 30) dX8_apart_164 (by decide) ?_
            refine v_drop 9 ?_
            refine v_drop 10 ?_
            refine v_drop 11 ?_
            refine v_drop 12 ?_
            exact ihj (by omega) _ (tbl_j ht (by omega) (by omega) hv)
          refine v_iconst (v := nI 0) dX8_apart_37 (by decide) ?_
          refine v_istore dX8_apart_38 (by decide) rfl ?_
          refine v_iload dX8_apart_40 rfl ?_
          refine v_if_leN (tgt := 146) dX8_apart_42 (by decide) (by omega) (fun b42 => ?_) (fun b42 => ?_)
          ·
            exact JN 0 (by rw [b42]; rfl)
          ·
            refine v_iload dX8_apart_45 rfl ?_
            refine v_if_leN (tgt := 146) dX8_apart_47 (by decide) (by omega) (fun b47 => ?_) (fun b47 => ?_)
            ·
              exact JN 0 (by rw [b47]; cases i <;> rfl)
            ·
              obtain ⟨i0, ei⟩ : ∃ i0, i = i0 + 1 := ⟨i - 1, by omega⟩
              obtain ⟨j0, ej⟩ : ∃ j0, j = j0 + 1 := ⟨j - 1, by omega⟩
              have hleft : cm1 (31 * i + j - 1) = nI (lcr (smE (sft σ a) (sft σ b) n m) i (j - 1)) := by rw [show 31 * i + j - 1 = 31 * i + (j - 1) by omega]; exact ht.2 _ (by omega)
              have hL : lcr (smE (sft σ a) (sft σ b) n m) i j = if same (sft σ a) n (i - 1) (sft σ b) m (j - 1) = true then lcr (smE (sft σ a) (sft σ b) n m) (i - 1) (j - 1) + 1 else if lcr (smE (sft σ a) (sft σ b) n m) i (j - 1) < lcr (smE (sft σ a) (sft σ b) n m) (i - 1) j then lcr (smE (sft σ a) (sft σ b) n m) (i - 1) j else lcr (smE (sft σ a) (sft σ b) n m) i (j - 1) := by
                subst ei
                subst ej
                rfl
              refine v_aload_n dX8_apart_50 rfl ?_
              refine v_get 5 dX8_apart_51 FTX8 (by decide) rfl fl_X8_17 (hM.cm _).1 rfl ?_
              refine v_bipush (v := nI 31) dX8_apart_54 (by decide) ?_
              refine v_iload dX8_apart_56 rfl ?_
              refine v_iconst (v := nI 1) dX8_apart_58 (by decide) ?_
              refine v_isubN dX8_apart_59 (by omega) ?_
              refine v_imulN dX8_apart_60 ?_
              refine v_iload dX8_apart_61 rfl ?_
              refine v_iaddN dX8_apart_63 ?_
              refine v_ialdN _ dX8_apart_64 (hM.cm _).2.2.2 rfl (by omega) (by decide) (ht.1 (i - 1) j (by omega) (by omega)) ?_
              refine v_istore dX8_apart_65 (by decide) rfl ?_
              refine v_aload_n dX8_apart_67 rfl ?_
              refine v_get 5 dX8_apart_68 FTX8 (by decide) rfl fl_X8_17 (hM.cm _).1 rfl ?_
              refine v_bipush (v := nI 31) dX8_apart_71 (by decide) ?_
              refine v_iload dX8_apart_73 rfl ?_
              refine v_imulN dX8_apart_75 ?_
              refine v_iload dX8_apart_76 rfl ?_
              refine v_iaddN dX8_apart_78 ?_
              refine v_iconst (v := nI 1) dX8_apart_79 (by decide) ?_
              refine v_isubN dX8_apart_80 (by omega) ?_
              refine v_ialdN _ dX8_apart_81 (hM.cm _).2.2.2 rfl (by omega) (by decide) hleft ?_
              refine v_istore dX8_apart_82 (by decide) rfl ?_
              refine v_aload_n dX8_apart_84 rfl ?_
              refine v_iload_n dX8_apart_85 rfl ?_
              refine v_iload_n dX8_apart_86 rfl ?_
              refine v_iload dX8_apart_87 rfl ?_
              refine v_iconst (v := nI 1) dX8_apart_89 (by decide) ?_
              refine v_isubN dX8_apart_90 (by omega) ?_
              refine v_iload_n dX8_apart_91 rfl ?_
              refine v_iload dX8_apart_92 rfl ?_
              refine v_iload dX8_apart_94 rfl ?_
              refine v_iconst (v := nI 1) dX8_apart_96 (by decide) ?_
              refine v_isubN dX8_apart_97 (by omega) ?_
              refine u_rV6 oX8_areAlike dX8_apart_98 ml_X8_114 (show Rd mX8_areAlike 1 _ _ (some (.int (b2i (same (sft σ a) n (i - 1) (sft σ b) m (j - 1))))) from c_areAlike (hM.cm _) a n (i - 1) b m (j - 1) h h2 (nw_cnt (by omega)) (nw_cnt (by omega))) (hM.cm _).1 (by decide) (Nat.le_of_ble_eq_true rfl) (Nat.le_refl _) (Nat.le_refl _) ?_
              refine v_istore dX8_apart_101 (by decide) rfl ?_
              refine v_iload dX8_apart_103 rfl ?_
              refine v_if_eqB (tgt := 130) dX8_apart_105 (by decide) (fun b105 => ?_) (fun b105 => ?_)
              ·
                have hs : same (sft σ a) n (i - 1) (sft σ b) m (j - 1) = false := b105
                refine v_iload dX8_apart_130 rfl ?_
                refine v_iload dX8_apart_132 rfl ?_
                refine v_icmp_leN (tgt := 142) dX8_apart_134 (by decide) (by have := lcr_le (e := (smE (sft σ a) (sft σ b) n m)) (i - 1) j; omega) (by have := lcr_le (e := (smE (sft σ a) (sft σ b) n m)) i (j - 1); omega) (fun b134 => ?_) (fun b134 => ?_)
                ·
                  have hv : lcr (smE (sft σ a) (sft σ b) n m) i (j - 1) = lcr (smE (sft σ a) (sft σ b) n m) i j := by rw [hL, if_neg (by rw [hs]; decide), if_neg (Nat.not_lt.mpr b134)]
                  refine v_iload dX8_apart_142 rfl ?_
                  refine v_istore dX8_apart_144 (by decide) rfl ?_
                  refine v_drop 10 ?_
                  refine v_drop 11 ?_
                  refine v_drop 12 ?_
                  exact JN _ hv
                ·
                  have hv : lcr (smE (sft σ a) (sft σ b) n m) (i - 1) j = lcr (smE (sft σ a) (sft σ b) n m) i j := by rw [hL, if_neg (by rw [hs]; decide), if_pos (Nat.not_le.mp b134)]
                  refine v_iload dX8_apart_137 rfl ?_
                  refine v_goto (tgt := 144) dX8_apart_139 (by decide) ?_
                  refine v_istore dX8_apart_144 (by decide) rfl ?_
                  refine v_drop 10 ?_
                  refine v_drop 11 ?_
                  refine v_drop 12 ?_
                  exact JN _ hv
              ·
                have hs : same (sft σ a) n (i - 1) (sft σ b) m (j - 1) = true := b105
                have hv : lcr (smE (sft σ a) (sft σ b) n m) (i - 1) (j - 1) + 1 = lcr (smE (sft σ a) (sft σ b) n m) i j := by rw [hL, if_pos hs]
                refine v_aload_n dX8_apart_108 rfl ?_
                refine v_get 5 dX8_apart_109 FTX8 (by decide) rfl fl_X8_17 (hM.cm _).1 rfl ?_
                refine v_bipush (v := nI 31) dX8_apart_112 (by decide) ?_
                refine v_iload dX8_apart_114 rfl ?_
                refine v_iconst (v := nI 1) dX8_apart_116 (by decide) ?_
                refine v_isubN dX8_apart_117 (by omega) ?_
                refine v_imulN dX8_apart_118 ?_
                refine v_iload dX8_apart_119 rfl ?_
                refine v_iaddN dX8_apart_121 ?_
                refine v_iconst (v := nI 1) dX8_apart_122 (by decide) ?_
                refine v_isubN dX8_apart_123 (by omega) ?_
                refine v_ialdN _ dX8_apart_124 (hM.cm _).2.2.2 (by congr 1; omega) (by omega) (by decide) (ht.1 (i - 1) (j - 1) (by omega) (by omega)) ?_
                refine v_iconst (v := nI 1) dX8_apart_125 (by decide) ?_
                refine v_iaddN dX8_apart_126 ?_
                refine v_goto (tgt := 144) dX8_apart_127 (by decide) ?_
                refine v_istore dX8_apart_144 (by decide) rfl ?_
                refine v_drop 10 ?_
                refine v_drop 11 ?_
                refine v_drop 12 ?_
                exact JN _ hv
      refine v_drop 9 ?_
      refine v_drop 10 ?_
      refine v_drop 11 ?_
      refine v_drop 12 ?_
      exact LP30 0 (Nat.zero_le _) cm1 ht
  refine v_eqw (wu_self hM.2.2.2) ?_
  exact LP20 0 (Nat.zero_le _) cm (tbl_0 _ _ _)
end
section
/-- at k in f, n there is the word g[b..e) -/
def mtc (f : Nat → Int32) (n : Nat) (g : Nat → Int32) (b e k : Nat) : Bool := ((decide (k = 0) || bl f (k - 1)) && (decide (k + (e - b) = n) || bl f (k + (e - b)))) && al (fun c => f (k + c) == g (b + c)) (e - b)
def whB (f : Nat → Int32) (n : Nat) (g : Nat → Int32) (b e : Nat) : Bool := decide (fst (mtc f n g b e) (n + 1 - (e - b)) < n + 1 - (e - b))
def whI (f : Nat → Int32) (n : Nat) (g : Nat → Int32) (m i : Nat) : Bool := whB f n g (beg g m i) (enn g m (beg g m i))
/-- whether f, n has a word of g, m -/
def hsT (f : Nat → Int32) (n : Nat) (g : Nat → Int32) (m : Nat) : Bool := decide (fst (whI f n g m) (nw g m) < nw g m)
theorem beg_prev {f : Nat → Int32} {n j : Nat} (h : j ≤ cnt (bl f) n) (h0 : 0 < beg f n j) : bl f (beg f n j - 1) = true := by
  have B := beg_spec h
  obtain ⟨k, ek⟩ : ∃ k, beg f n j = k + 1 := ⟨beg f n j - 1, by omega⟩
  have h1 := B.2.2 k (by omega)
  have h2 := B.2.1
  rw [ek] at h2 ⊢
  simp only [cnt] at h2
  show bl f k = true
  cases e : bl f k
  · rw [e] at h2
    simp at h2
    omega
  · rfl
theorem okT_nb {g : Nat → Int32} {m : Nat} (h : okT g m) : bl g (m - 1) = false := by
  obtain ⟨k, ek⟩ : ∃ k, m = k + 1 := ⟨m - 1, by have := h.1; omega⟩
  have h3 := h.2.2
  rw [ek] at h3 ⊢
  simp only [isw, ltr, decide_eq_true_eq] at h3
  show bl g k = false
  cases e : bl g k
  · rfl
  · have e1 : g k = nI 32 := by simpa [bl] using e
    rw [e1] at h3
    exact absurd h3.1 (by decide)
theorem beg_lt {g : Nat → Int32} {m i : Nat} (h : okT g m) (hi : i < nw g m) : beg g m i < m := by
  have hc : i ≤ cnt (bl g) m := by
    unfold nw at hi
    split at hi <;> omega
  have B := beg_spec hc
  have h0 := h.1
  rcases Nat.lt_or_ge (beg g m i) m with h1 | h1
  · exact h1
  · have e1 : beg g m i = m := by omega
    have h2 := beg_prev hc (by omega)
    rw [e1, okT_nb h] at h2
    cases h2
theorem cnt_split (p : Nat → Bool) (a : Nat) : ∀ b, cnt p (a + b) = cnt p a + cnt (fun k => p (a + k)) b
  | 0 => by simp [cnt]
  | b + 1 => by
    have h1 := cnt_split p a b
    show cnt p (a + b) + (if p (a + b) = true then 1 else 0) = _
    rw [h1]
    simp only [cnt]
    omega
theorem cnt_0 {p : Nat → Bool} : ∀ {n : Nat}, (∀ k, k < n → p k = false) → cnt p n = 0
  | 0, _ => rfl
  | n + 1, h => by
    simp only [cnt]
    rw [cnt_0 (fun k hk => h k (by omega)), h n (by omega)]
    simp
/-- behind a word the next one begins -/
theorem beg_next {g : Nat → Int32} {m i : Nat} (hm : 0 < m) (hi : i < nw g m) : beg g m (i + 1) = enn g m (beg g m i) + 1 := by
  have hc : i ≤ cnt (bl g) m := by
    unfold nw at hi
    split at hi <;> omega
  have B := beg_spec hc
  have hF := fst_le (fun k => bl g (beg g m i + k)) (m - beg g m i)
  have hno := fst_no (fun k => bl g (beg g m i + k)) (m - beg g m i)
  obtain ⟨F, eF⟩ : ∃ F, F = fst (fun k => bl g (beg g m i + k)) (m - beg g m i) := ⟨_, rfl⟩
  have hen : enn g m (beg g m i) = beg g m i + F := by rw [eF]; rfl
  rw [← eF] at hF hno
  have hz : ∀ k, k ≤ F → cnt (bl g) (beg g m i + k) = i := by
    intro k hk
    rw [cnt_split, B.2.1, cnt_0 (fun c hc => hno c (by omega))]
    omega
  rw [hen]
  by_cases hlt : F < m - beg g m i
  · have hy := fst_yes (fun k => bl g (beg g m i + k)) (m - beg g m i) (by rw [← eF]; exact hlt)
    rw [← eF] at hy
    have h1 : cnt (bl g) (beg g m i + F + 1) = i + 1 := by
      show cnt (bl g) (beg g m i + F) + (if bl g (beg g m i + F) = true then 1 else 0) = i + 1
      rw [hz F (Nat.le_refl _), if_pos hy]
    refine fst_eq (by omega) (by simp [h1]) (fun j hj => ?_)
    have h2 : cnt (bl g) j ≤ cnt (bl g) (beg g m i + F) := cnt_mono _ (by omega)
    rw [hz F (Nat.le_refl _)] at h2
    simp
    omega
  · have hFm : beg g m i + F = m := by omega
    have h1 : cnt (bl g) m = i := by rw [← hFm]; exact hz F (Nat.le_refl _)
    rw [hFm]
    refine fst_none (fun j hj => ?_)
    have h2 : cnt (bl g) j ≤ cnt (bl g) m := cnt_mono _ (by omega)
    simp
    omega
theorem beg_0 (g : Nat → Int32) (m : Nat) : beg g m 0 = 0 := fst_eq (by omega) (by simp [cnt]) (fun j hj => absurd hj (Nat.not_lt_zero _))
theorem beg_nw {g : Nat → Int32} {m : Nat} (hm : 0 < m) : beg g m (nw g m) = m + 1 := by
  refine fst_none (fun j hj => ?_)
  have h2 : cnt (bl g) j ≤ cnt (bl g) m := cnt_mono _ (by omega)
  unfold nw
  rw [if_pos hm]
  simp
  omega
set_option maxHeartbeats 4000000 in
set_option maxRecDepth 100000 in
theorem c_hasTold {w : Wd} {o ns tn : Nat} {kp : Int32} {σ tx cm : Nat → Int32} (hM : MW w o ns tn kp σ tx cm) (l n : Nat) (hok : okT tx tn) (ht : tn ≤ 60) (hn : ub (σ l) 61 ∧ n = nt (σ l)) (hl : l + 64 ≤ 17088) : Rd mX8_hasTold 0 [.ref o, .int (nI l)] w (some (.int (b2i (hsT (sft σ (l + 4)) n tx tn)))) := by
  intro sz
  refine Ev.ofV [some (.ref o), some (.int (nI l)), none, none, none, none, none, none] (by decide) (Nat.le_of_ble_eq_true rfl) rfl rfl rfl ?_
  obtain ⟨hnu, en⟩ := hn
  have hn : σ l = nI n ∧ n < 61 := ⟨by rw [en]; exact hnu.1, by rw [en]; exact hnu.2⟩
  refine v_iconst (v := nI 0) dX8_hasTold_0 (by decide) ?_
  refine v_istore_n dX8_hasTold_1 (by decide) rfl ?_
  refine v_iconst (v := nI 0) dX8_hasTold_2 (by decide) ?_
  refine v_istore_n dX8_hasTold_3 (by decide) rfl ?_
  have LP4 : ∀ i, i ≤ fst (whI (sft σ (l + 4)) n tx tn) (nw tx tn) → V mX8_hasTold 0 0 0 (fun r' w' zz => r' = some (.int (b2i (hsT (sft σ (l + 4)) n tx tn))) ∧ w' = w ∧ zz = sz) (w) (sz) (0) (0) [some (.ref o), some (.int (nI l)), some (.int (nI 0)), some (.int (nI (beg tx tn i))), none, none, none, none] [] 4 := by
    refine dn (fun i hi ihi => ?_)
    have hfi := fst_le (whI (sft σ (l + 4)) n tx tn) (nw tx tn)
    have hbl : beg tx tn i ≤ tn + 1 := fst_le _ _
    refine v_iload_n dX8_hasTold_4 rfl ?_
    refine v_aload_n dX8_hasTold_5 rfl ?_
    refine v_get 4 dX8_hasTold_6 FTX8 (by decide) rfl fl_X8_56 hM.1 rfl ?_
    refine v_icmp_geN (tgt := 207) dX8_hasTold_9 (by decide) (by omega) (by omega) (fun b9 => ?_) (fun b9 => ?_)
    ·
      have e5 : ¬ i < nw tx tn := fun h => by have := beg_lt hok h; omega
      have e6 : hsT (sft σ (l + 4)) n tx tn = false := by
        unfold hsT
        rw [decide_eq_false_iff_not]
        omega
      refine v_iload_n dX8_hasTold_207 rfl ?_
      refine v_zret dX8_hasTold_208 rfl (by decide) (Nat.le_refl _) (Nat.le_refl _) ?_
      exact ⟨by rw [e6]; rfl, rfl, rfl⟩
    ·
      have hin : i < nw tx tn := by
        rcases Nat.lt_or_ge i (nw tx tn) with h1 | h1
        · exact h1
        · have h2 : beg tx tn i = tn + 1 := by
            rw [show i = nw tx tn by omega]
            exact beg_nw hok.1
          omega
      have hbn := beg_next hok.1 hin
      obtain ⟨b, eb⟩ : ∃ b, b = beg tx tn i := ⟨_, rfl⟩
      rw [← eb] at b9 hbn ⊢
      refine v_iload_n dX8_hasTold_12 rfl ?_
      refine v_if_neN (tgt := 207) dX8_hasTold_13 (by decide) (by decide) (fun z => absurd z (by decide)) (fun _ => ?_)
      have KKN : V mX8_hasTold 0 0 0 (fun r' w' zz => r' = some (.int (b2i (hsT (sft σ (l + 4)) n tx tn))) ∧ w' = w ∧ zz = sz) (w) (sz) (0) (0) [some (.ref o), some (.int (nI l)), some (.int (nI 0)), some (.int (nI b)), some (.int (nI (enn tx tn b))), none, none, none] [] 46 := by
        obtain ⟨e, ee⟩ : ∃ e, e = enn tx tn b := ⟨_, rfl⟩
        have hbe := enn_le (f := tx) (n := tn) (b := b) (by omega)
        rw [← ee] at hbe ⊢
        have EX : ∀ k, k ≤ n + 1 → hsT (sft σ (l + 4)) n tx tn = true → V mX8_hasTold 0 0 0 (fun r' w' zz => r' = some (.int (b2i (hsT (sft σ (l + 4)) n tx tn))) ∧ w' = w ∧ zz = sz) (w) (sz) (0) (0) [some (.ref o), some (.int (nI l)), some (.int (nI 1)), some (.int (nI b)), some (.int (nI e)), some (.int (nI k)), none, none] [] 49 := by
          intro k hk hT
          refine v_iload dX8_hasTold_49 rfl ?_
          refine v_iload dX8_hasTold_51 rfl ?_
          refine v_iaddN dX8_hasTold_53 ?_
          refine v_iload_n dX8_hasTold_54 rfl ?_
          refine v_isubN dX8_hasTold_55 (by omega) ?_
          refine v_aload_n dX8_hasTold_56 rfl ?_
          refine v_get 0 dX8_hasTold_57 FTX8 (by decide) rfl fl_X8_7 hM.1 rfl ?_
          refine v_iload_n dX8_hasTold_60 rfl ?_
          refine v_ialdN _ dX8_hasTold_61 hM.2.1 rfl (by omega) (by decide) hn.1 ?_
          refine v_icmp_gtN (tgt := 199) dX8_hasTold_62 (by decide) (by omega) (by omega) (fun b62 => ?_) (fun b62 => ?_)
          ·
            refine v_iload dX8_hasTold_199 rfl ?_
            refine v_iconst (v := nI 1) dX8_hasTold_201 (by decide) ?_
            refine v_iaddN dX8_hasTold_202 ?_
            refine v_istore_n dX8_hasTold_203 (by decide) rfl ?_
            refine v_goto (tgt := 4) dX8_hasTold_204 (by decide) ?_
            refine v_iload_n dX8_hasTold_4 rfl ?_
            refine v_aload_n dX8_hasTold_5 rfl ?_
            refine v_get 4 dX8_hasTold_6 FTX8 (by decide) rfl fl_X8_56 hM.1 rfl ?_
            refine v_icmp_geN (tgt := 207) dX8_hasTold_9 (by decide) (by omega) (by omega) (fun b9 => ?_) (fun b9 => ?_)
            ·
              refine v_iload_n dX8_hasTold_207 rfl ?_
              refine v_zret dX8_hasTold_208 rfl (by decide) (Nat.le_refl _) (Nat.le_refl _) ?_
              exact ⟨by rw [hT]; rfl, rfl, rfl⟩
            ·
              refine v_iload_n dX8_hasTold_12 rfl ?_
              refine v_if_neN (tgt := 207) dX8_hasTold_13 (by decide) (by decide) (fun _ => ?_) (fun z => absurd z (by decide))
              refine v_iload_n dX8_hasTold_207 rfl ?_
              refine v_zret dX8_hasTold_208 rfl (by decide) (Nat.le_refl _) (Nat.le_refl _) ?_
              exact ⟨by rw [hT]; rfl, rfl, rfl⟩
          ·
            refine v_iload_n dX8_hasTold_65 rfl ?_
            refine v_if_neN (tgt := 199) dX8_hasTold_66 (by decide) (by decide) (fun _ => ?_) (fun z => absurd z (by decide))
            refine v_iload dX8_hasTold_199 rfl ?_
            refine v_iconst (v := nI 1) dX8_hasTold_201 (by decide) ?_
            refine v_iaddN dX8_hasTold_202 ?_
            refine v_istore_n dX8_hasTold_203 (by decide) rfl ?_
            refine v_goto (tgt := 4) dX8_hasTold_204 (by decide) ?_
            refine v_iload_n dX8_hasTold_4 rfl ?_
            refine v_aload_n dX8_hasTold_5 rfl ?_
            refine v_get 4 dX8_hasTold_6 FTX8 (by decide) rfl fl_X8_56 hM.1 rfl ?_
            refine v_icmp_geN (tgt := 207) dX8_hasTold_9 (by decide) (by omega) (by omega) (fun b9 => ?_) (fun b9 => ?_)
            ·
              refine v_iload_n dX8_hasTold_207 rfl ?_
              refine v_zret dX8_hasTold_208 rfl (by decide) (Nat.le_refl _) (Nat.le_refl _) ?_
              exact ⟨by rw [hT]; rfl, rfl, rfl⟩
            ·
              refine v_iload_n dX8_hasTold_12 rfl ?_
              refine v_if_neN (tgt := 207) dX8_hasTold_13 (by decide) (by decide) (fun _ => ?_) (fun z => absurd z (by decide))
              refine v_iload_n dX8_hasTold_207 rfl ?_
              refine v_zret dX8_hasTold_208 rfl (by decide) (Nat.le_refl _) (Nat.le_refl _) ?_
              exact ⟨by rw [hT]; rfl, rfl, rfl⟩
        refine v_iconst (v := nI 0) dX8_hasTold_46 (by decide) ?_
        refine v_istore dX8_hasTold_47 (by decide) rfl ?_
        have LP49 : ∀ k, k ≤ fst (mtc (sft σ (l + 4)) n tx b e) (n + 1 - (e - b)) → V mX8_hasTold 0 0 0 (fun r' w' zz => r' = some (.int (b2i (hsT (sft σ (l + 4)) n tx tn))) ∧ w' = w ∧ zz = sz) (w) (sz) (0) (0) [some (.ref o), some (.int (nI l)), some (.int (nI 0)), some (.int (nI b)), some (.int (nI e)), some (.int (nI k)), none, none] [] 49 := by
          refine dn (fun k hk ihk => ?_)
          have hfk := fst_le (mtc (sft σ (l + 4)) n tx b e) (n + 1 - (e - b))
          refine v_iload dX8_hasTold_49 rfl ?_
          refine v_iload dX8_hasTold_51 rfl ?_
          refine v_iaddN dX8_hasTold_53 ?_
          refine v_iload_n dX8_hasTold_54 rfl ?_
          refine v_isubN dX8_hasTold_55 (by omega) ?_
          refine v_aload_n dX8_hasTold_56 rfl ?_
          refine v_get 0 dX8_hasTold_57 FTX8 (by decide) rfl fl_X8_7 hM.1 rfl ?_
          refine v_iload_n dX8_hasTold_60 rfl ?_
          refine v_ialdN _ dX8_hasTold_61 hM.2.1 rfl (by omega) (by decide) hn.1 ?_
          refine v_icmp_gtN (tgt := 199) dX8_hasTold_62 (by decide) (by omega) (by omega) (fun b62 => ?_) (fun b62 => ?_)
          ·
            have q6 : whI (sft σ (l + 4)) n tx tn i = false := by
              unfold whI whB
              rw [← eb, ← ee, decide_eq_false_iff_not]
              omega
            have q9 : i < fst (whI (sft σ (l + 4)) n tx tn) (nw tx tn) := by
              rcases Nat.lt_or_ge i (fst (whI (sft σ (l + 4)) n tx tn) (nw tx tn)) with h2 | h2
              · exact h2
              · have h3 := fst_yes (whI (sft σ (l + 4)) n tx tn) (nw tx tn) (by omega)
                rw [show fst (whI (sft σ (l + 4)) n tx tn) (nw tx tn) = i by omega, q6] at h3
                cases h3
            refine v_iload dX8_hasTold_199 rfl ?_
            refine v_iconst (v := nI 1) dX8_hasTold_201 (by decide) ?_
            refine v_iaddN dX8_hasTold_202 ?_
            refine v_istore_n dX8_hasTold_203 (by decide) rfl ?_
            refine v_goto (tgt := 4) dX8_hasTold_204 (by decide) ?_
            refine v_drop 4 ?_
            refine v_drop 5 ?_
            refine v_eqL ?_ (ihi q9)
            rw [hbn, ee]
            rfl
          ·
            have hfound : mtc (sft σ (l + 4)) n tx b e k = true → hsT (sft σ (l + 4)) n tx tn = true := by
              intro h
              have h1 : whI (sft σ (l + 4)) n tx tn i = true := by
                unfold whI whB
                rw [← eb, ← ee]
                rw [decide_eq_true_eq]
                rcases Nat.lt_or_ge (fst (mtc (sft σ (l + 4)) n tx b e) (n + 1 - (e - b))) (n + 1 - (e - b)) with h2 | h2
                · exact h2
                · have := fst_no (mtc (sft σ (l + 4)) n tx b e) (n + 1 - (e - b)) k (by omega)
                  rw [h] at this
                  cases this
              unfold hsT
              rw [decide_eq_true_eq]
              rcases Nat.lt_or_ge (fst (whI (sft σ (l + 4)) n tx tn) (nw tx tn)) (nw tx tn) with h2 | h2
              · exact h2
              · have := fst_no (whI (sft σ (l + 4)) n tx tn) (nw tx tn) i (by omega)
                rw [h1] at this
                cases this
            have hnext : mtc (sft σ (l + 4)) n tx b e k = false → k < fst (mtc (sft σ (l + 4)) n tx b e) (n + 1 - (e - b)) := by
              intro h
              rcases Nat.lt_or_ge k (fst (mtc (sft σ (l + 4)) n tx b e) (n + 1 - (e - b))) with h2 | h2
              · exact h2
              · have h3 := fst_yes (mtc (sft σ (l + 4)) n tx b e) (n + 1 - (e - b)) (by omega)
                rw [show fst (mtc (sft σ (l + 4)) n tx b e) (n + 1 - (e - b)) = k by omega, h] at h3
                cases h3
            have JN : ∀ x, x = mtc (sft σ (l + 4)) n tx b e k → V mX8_hasTold 0 0 0 (fun r' w' zz => r' = some (.int (b2i (hsT (sft σ (l + 4)) n tx tn))) ∧ w' = w ∧ zz = sz) (w) (sz) (0) (0) [some (.ref o), some (.int (nI l)), some (.int (nI 0)), some (.int (nI b)), some (.int (nI e)), some (.int (nI k)), some (.int (b2i x)), none] [] 190 := by
              intro x hx
              cases x with
              | true =>
                refine v_iload dX8_hasTold_190 rfl ?_
                refine v_istore_n dX8_hasTold_192 (by decide) rfl ?_
                refine v_iincN dX8_hasTold_193 (by decide) rfl rfl rfl ?_
                refine v_goto (tgt := 49) dX8_hasTold_196 (by decide) ?_
                refine v_drop 6 ?_
                exact EX (k + 1) (by omega) (hfound hx.symm)
              | false =>
                refine v_iload dX8_hasTold_190 rfl ?_
                refine v_istore_n dX8_hasTold_192 (by decide) rfl ?_
                refine v_iincN dX8_hasTold_193 (by decide) rfl rfl rfl ?_
                refine v_goto (tgt := 49) dX8_hasTold_196 (by decide) ?_
                refine v_drop 6 ?_
                exact ihk (hnext hx.symm)
            have LC : ∀ c, c ≤ e - b → V mX8_hasTold 0 0 0 (fun r' w' zz => r' = some (.int (b2i (hsT (sft σ (l + 4)) n tx tn))) ∧ w' = w ∧ zz = sz) (w) (sz) (0) (0) [some (.ref o), some (.int (nI l)), some (.int (nI 0)), some (.int (nI b)), some (.int (nI e)), some (.int (nI k)), some (.int (b2i (((decide (k = 0) || bl (sft σ (l + 4)) (k - 1)) && (decide (k + (e - b) = n) || bl (sft σ (l + 4)) (k + (e - b)))) && al (fun c => (sft σ (l + 4)) (k + c) == tx (b + c)) c))), some (.int (nI c))] [] 137 := by
              refine dn (fun c hc ihc => ?_)
              refine v_iload dX8_hasTold_137 rfl ?_
              refine v_iload dX8_hasTold_139 rfl ?_
              refine v_iload_n dX8_hasTold_141 rfl ?_
              refine v_isubN dX8_hasTold_142 (by omega) ?_
              refine v_icmp_geN (tgt := 190) dX8_hasTold_143 (by decide) (by omega) (by omega) (fun b143 => ?_) (fun b143 => ?_)
              ·
                have e9 : c = e - b := by omega
                subst e9
                refine v_drop 7 ?_
                exact JN _ rfl
              ·
                refine v_iload dX8_hasTold_146 rfl ?_
                refine v_if_eqB (tgt := 190) dX8_hasTold_148 (by decide) (fun b148 => ?_) (fun b148 => ?_)
                ·
                  refine v_drop 7 ?_
                  refine JN _ ?_
                  unfold mtc
                  rw [b148]
                  cases h0 : ((decide (k = 0) || bl (sft σ (l + 4)) (k - 1)) && (decide (k + (e - b) = n) || bl (sft σ (l + 4)) (k + (e - b))))
                  · rfl
                  · rw [h0] at b148; exact (al_mono hc b148).symm
                ·
                  have f1 : ((decide (k = 0) || bl (sft σ (l + 4)) (k - 1)) && (decide (k + (e - b) = n) || bl (sft σ (l + 4)) (k + (e - b)))) = true := by
                    cases h0 : ((decide (k = 0) || bl (sft σ (l + 4)) (k - 1)) && (decide (k + (e - b) = n) || bl (sft σ (l + 4)) (k + (e - b))))
                    · rw [h0] at b148; cases b148
                    · rfl
                  have f2 : al (fun c => (sft σ (l + 4)) (k + c) == tx (b + c)) c = true := by rw [f1] at b148; exact b148
                  refine v_aload_n dX8_hasTold_151 rfl ?_
                  refine v_get 0 dX8_hasTold_152 FTX8 (by decide) rfl fl_X8_7 hM.1 rfl ?_
                  refine v_iload_n dX8_hasTold_155 rfl ?_
                  refine v_iconst (v := nI 4) dX8_hasTold_156 (by decide) ?_
                  refine v_iaddN dX8_hasTold_157 ?_
                  refine v_iload dX8_hasTold_158 rfl ?_
                  refine v_iaddN dX8_hasTold_160 ?_
                  refine v_iload dX8_hasTold_161 rfl ?_
                  refine v_iaddN dX8_hasTold_163 ?_
                  refine v_iald _ dX8_hasTold_164 hM.2.1 rfl (by omega) (by decide) ?_
                  refine v_aload_n dX8_hasTold_165 rfl ?_
                  refine v_get 3 dX8_hasTold_166 FTX8 (by decide) rfl fl_X8_13 hM.1 rfl ?_
                  refine v_iload_n dX8_hasTold_169 rfl ?_
                  refine v_iload dX8_hasTold_170 rfl ?_
                  refine v_iaddN dX8_hasTold_172 ?_
                  refine v_cald _ dX8_hasTold_173 hM.2.2.1 rfl (by omega) (by decide) ?_
                  refine v_icmp_ne (tgt := 181) dX8_hasTold_174 (by decide) (fun b174 => ?_) (fun b174 => ?_)
                  ·
                    have f3 : ((sft σ (l + 4)) (k + c) == tx (b + c)) = false := by simp [sft, ← Nat.add_assoc, b174]
                    refine v_iconst (v := nI 0) dX8_hasTold_181 (by decide) ?_
                    refine v_istore dX8_hasTold_182 (by decide) rfl ?_
                    refine v_iincN dX8_hasTold_184 (by decide) rfl rfl rfl ?_
                    refine v_goto (tgt := 137) dX8_hasTold_187 (by decide) ?_
                    refine v_eqL ?_ (ihc (by omega))
                    simp [st, al, b2i, f1, f2, f3]
                  ·
                    have f3 : ((sft σ (l + 4)) (k + c) == tx (b + c)) = true := by simp [sft, ← Nat.add_assoc, b174]
                    refine v_iconst (v := nI 1) dX8_hasTold_177 (by decide) ?_
                    refine v_goto (tgt := 182) dX8_hasTold_178 (by decide) ?_
                    refine v_istore dX8_hasTold_182 (by decide) rfl ?_
                    refine v_iincN dX8_hasTold_184 (by decide) rfl rfl rfl ?_
                    refine v_goto (tgt := 137) dX8_hasTold_187 (by decide) ?_
                    refine v_eqL ?_ (ihc (by omega))
                    simp [st, al, b2i, f1, f2, f3]
            refine v_iload_n dX8_hasTold_65 rfl ?_
            refine v_if_neN (tgt := 199) dX8_hasTold_66 (by decide) (by decide) (fun z => absurd z (by decide)) (fun _ => ?_)
            refine v_iload dX8_hasTold_69 rfl ?_
            refine v_if_eqN (tgt := 90) dX8_hasTold_71 (by decide) (by omega) (fun b71 => ?_) (fun b71 => ?_)
            ·
              have g1 : (decide (k = 0) || bl (sft σ (l + 4)) (k - 1)) = true := by simp [b71]
              refine v_iload dX8_hasTold_90 rfl ?_
              refine v_iload dX8_hasTold_92 rfl ?_
              refine v_iaddN dX8_hasTold_94 ?_
              refine v_iload_n dX8_hasTold_95 rfl ?_
              refine v_isubN dX8_hasTold_96 (by omega) ?_
              refine v_aload_n dX8_hasTold_97 rfl ?_
              refine v_get 0 dX8_hasTold_98 FTX8 (by decide) rfl fl_X8_7 hM.1 rfl ?_
              refine v_iload_n dX8_hasTold_101 rfl ?_
              refine v_ialdN _ dX8_hasTold_102 hM.2.1 rfl (by omega) (by decide) hn.1 ?_
              refine v_icmp_eqN (tgt := 127) dX8_hasTold_103 (by decide) (by omega) (by omega) (fun b103 => ?_) (fun b103 => ?_)
              ·
                have gA : ((decide (k = 0) || bl (sft σ (l + 4)) (k - 1)) && (decide (k + (e - b) = n) || bl (sft σ (l + 4)) (k + (e - b)))) = true := by rw [g1]; simp; omega
                refine v_iconst (v := nI 1) dX8_hasTold_127 (by decide) ?_
                refine v_goto (tgt := 132) dX8_hasTold_128 (by decide) ?_
                refine v_istore dX8_hasTold_132 (by decide) rfl ?_
                refine v_iconst (v := nI 0) dX8_hasTold_134 (by decide) ?_
                refine v_istore dX8_hasTold_135 (by decide) rfl ?_
                refine v_eqL ?_ (LC 0 (Nat.zero_le _))
                simp [st, al, gA, b2i]
              ·
                refine v_aload_n dX8_hasTold_106 rfl ?_
                refine v_get 0 dX8_hasTold_107 FTX8 (by decide) rfl fl_X8_7 hM.1 rfl ?_
                refine v_iload_n dX8_hasTold_110 rfl ?_
                refine v_iconst (v := nI 4) dX8_hasTold_111 (by decide) ?_
                refine v_iaddN dX8_hasTold_112 ?_
                refine v_iload dX8_hasTold_113 rfl ?_
                refine v_iaddN dX8_hasTold_115 ?_
                refine v_iload dX8_hasTold_116 rfl ?_
                refine v_iaddN dX8_hasTold_118 ?_
                refine v_iload_n dX8_hasTold_119 rfl ?_
                refine v_isubN dX8_hasTold_120 (by omega) ?_
                refine v_iald _ dX8_hasTold_121 hM.2.1 rfl (by omega) (by decide) ?_
                refine v_bipush (v := nI 32) dX8_hasTold_122 (by decide) ?_
                refine v_icmp_ne (tgt := 131) dX8_hasTold_124 (by decide) (fun b124 => ?_) (fun b124 => ?_)
                ·
                  have h8 : l + 4 + (k + (e - b)) = l + 4 + k + e - b := by omega
                  have gA : ((decide (k = 0) || bl (sft σ (l + 4)) (k - 1)) && (decide (k + (e - b) = n) || bl (sft σ (l + 4)) (k + (e - b)))) = false := by
                    rw [g1]
                    simp [bl, sft, h8, b124]
                    omega
                  refine v_iconst (v := nI 0) dX8_hasTold_131 (by decide) ?_
                  refine v_istore dX8_hasTold_132 (by decide) rfl ?_
                  refine v_iconst (v := nI 0) dX8_hasTold_134 (by decide) ?_
                  refine v_istore dX8_hasTold_135 (by decide) rfl ?_
                  refine v_eqL ?_ (LC 0 (Nat.zero_le _))
                  simp [st, al, gA, b2i]
                ·
                  have h8 : l + 4 + (k + (e - b)) = l + 4 + k + e - b := by omega
                  have gA : ((decide (k = 0) || bl (sft σ (l + 4)) (k - 1)) && (decide (k + (e - b) = n) || bl (sft σ (l + 4)) (k + (e - b)))) = true := by
                    rw [g1]
                    simp [bl, sft, h8, b124]
                  refine v_iconst (v := nI 1) dX8_hasTold_127 (by decide) ?_
                  refine v_goto (tgt := 132) dX8_hasTold_128 (by decide) ?_
                  refine v_istore dX8_hasTold_132 (by decide) rfl ?_
                  refine v_iconst (v := nI 0) dX8_hasTold_134 (by decide) ?_
                  refine v_istore dX8_hasTold_135 (by decide) rfl ?_
                  refine v_eqL ?_ (LC 0 (Nat.zero_le _))
                  simp [st, al, gA, b2i]
            ·
              refine v_aload_n dX8_hasTold_74 rfl ?_
              refine v_get 0 dX8_hasTold_75 FTX8 (by decide) rfl fl_X8_7 hM.1 rfl ?_
              refine v_iload_n dX8_hasTold_78 rfl ?_
              refine v_iconst (v := nI 3) dX8_hasTold_79 (by decide) ?_
              refine v_iaddN dX8_hasTold_80 ?_
              refine v_iload dX8_hasTold_81 rfl ?_
              refine v_iaddN dX8_hasTold_83 ?_
              refine v_iald _ dX8_hasTold_84 hM.2.1 rfl (by omega) (by decide) ?_
              refine v_bipush (v := nI 32) dX8_hasTold_85 (by decide) ?_
              refine v_icmp_ne (tgt := 131) dX8_hasTold_87 (by decide) (fun b87 => ?_) (fun b87 => ?_)
              ·
                have g1 : (decide (k = 0) || bl (sft σ (l + 4)) (k - 1)) = false := by
                  have h1 : l + 4 + (k - 1) = l + 3 + k := by omega
                  simp [bl, sft, h1, b87]
                  omega
                have gA : ((decide (k = 0) || bl (sft σ (l + 4)) (k - 1)) && (decide (k + (e - b) = n) || bl (sft σ (l + 4)) (k + (e - b)))) = false := by rw [g1]; rfl
                refine v_iconst (v := nI 0) dX8_hasTold_131 (by decide) ?_
                refine v_istore dX8_hasTold_132 (by decide) rfl ?_
                refine v_iconst (v := nI 0) dX8_hasTold_134 (by decide) ?_
                refine v_istore dX8_hasTold_135 (by decide) rfl ?_
                refine v_eqL ?_ (LC 0 (Nat.zero_le _))
                simp [st, al, gA, b2i]
              ·
                have g1 : (decide (k = 0) || bl (sft σ (l + 4)) (k - 1)) = true := by
                  have h1 : l + 4 + (k - 1) = l + 3 + k := by omega
                  simp [bl, sft, h1, b87]
                refine v_iload dX8_hasTold_90 rfl ?_
                refine v_iload dX8_hasTold_92 rfl ?_
                refine v_iaddN dX8_hasTold_94 ?_
                refine v_iload_n dX8_hasTold_95 rfl ?_
                refine v_isubN dX8_hasTold_96 (by omega) ?_
                refine v_aload_n dX8_hasTold_97 rfl ?_
                refine v_get 0 dX8_hasTold_98 FTX8 (by decide) rfl fl_X8_7 hM.1 rfl ?_
                refine v_iload_n dX8_hasTold_101 rfl ?_
                refine v_ialdN _ dX8_hasTold_102 hM.2.1 rfl (by omega) (by decide) hn.1 ?_
                refine v_icmp_eqN (tgt := 127) dX8_hasTold_103 (by decide) (by omega) (by omega) (fun b103 => ?_) (fun b103 => ?_)
                ·
                  have gA : ((decide (k = 0) || bl (sft σ (l + 4)) (k - 1)) && (decide (k + (e - b) = n) || bl (sft σ (l + 4)) (k + (e - b)))) = true := by rw [g1]; simp; omega
                  refine v_iconst (v := nI 1) dX8_hasTold_127 (by decide) ?_
                  refine v_goto (tgt := 132) dX8_hasTold_128 (by decide) ?_
                  refine v_istore dX8_hasTold_132 (by decide) rfl ?_
                  refine v_iconst (v := nI 0) dX8_hasTold_134 (by decide) ?_
                  refine v_istore dX8_hasTold_135 (by decide) rfl ?_
                  refine v_eqL ?_ (LC 0 (Nat.zero_le _))
                  simp [st, al, gA, b2i]
                ·
                  refine v_aload_n dX8_hasTold_106 rfl ?_
                  refine v_get 0 dX8_hasTold_107 FTX8 (by decide) rfl fl_X8_7 hM.1 rfl ?_
                  refine v_iload_n dX8_hasTold_110 rfl ?_
                  refine v_iconst (v := nI 4) dX8_hasTold_111 (by decide) ?_
                  refine v_iaddN dX8_hasTold_112 ?_
                  refine v_iload dX8_hasTold_113 rfl ?_
                  refine v_iaddN dX8_hasTold_115 ?_
                  refine v_iload dX8_hasTold_116 rfl ?_
                  refine v_iaddN dX8_hasTold_118 ?_
                  refine v_iload_n dX8_hasTold_119 rfl ?_
                  refine v_isubN dX8_hasTold_120 (by omega) ?_
                  refine v_iald _ dX8_hasTold_121 hM.2.1 rfl (by omega) (by decide) ?_
                  refine v_bipush (v := nI 32) dX8_hasTold_122 (by decide) ?_
                  refine v_icmp_ne (tgt := 131) dX8_hasTold_124 (by decide) (fun b124 => ?_) (fun b124 => ?_)
                  ·
                    have h8 : l + 4 + (k + (e - b)) = l + 4 + k + e - b := by omega
                    have gA : ((decide (k = 0) || bl (sft σ (l + 4)) (k - 1)) && (decide (k + (e - b) = n) || bl (sft σ (l + 4)) (k + (e - b)))) = false := by
                      rw [g1]
                      simp [bl, sft, h8, b124]
                      omega
                    refine v_iconst (v := nI 0) dX8_hasTold_131 (by decide) ?_
                    refine v_istore dX8_hasTold_132 (by decide) rfl ?_
                    refine v_iconst (v := nI 0) dX8_hasTold_134 (by decide) ?_
                    refine v_istore dX8_hasTold_135 (by decide) rfl ?_
                    refine v_eqL ?_ (LC 0 (Nat.zero_le _))
                    simp [st, al, gA, b2i]
                  ·
                    have h8 : l + 4 + (k + (e - b)) = l + 4 + k + e - b := by omega
                    have gA : ((decide (k = 0) || bl (sft σ (l + 4)) (k - 1)) && (decide (k + (e - b) = n) || bl (sft σ (l + 4)) (k + (e - b)))) = true := by
                      rw [g1]
                      simp [bl, sft, h8, b124]
                    refine v_iconst (v := nI 1) dX8_hasTold_127 (by decide) ?_
                    refine v_goto (tgt := 132) dX8_hasTold_128 (by decide) ?_
                    refine v_istore dX8_hasTold_132 (by decide) rfl ?_
                    refine v_iconst (v := nI 0) dX8_hasTold_134 (by decide) ?_
                    refine v_istore dX8_hasTold_135 (by decide) rfl ?_
                    refine v_eqL ?_ (LC 0 (Nat.zero_le _))
                    simp [st, al, gA, b2i]
        exact LP49 0 (Nat.zero_le _)
      refine v_iload_n dX8_hasTold_16 rfl ?_
      refine v_istore dX8_hasTold_17 (by decide) rfl ?_
      have LP19 : ∀ t, t ≤ fst (fun k => bl tx (b + k)) (tn - b) → V mX8_hasTold 0 0 0 (fun r' w' zz => r' = some (.int (b2i (hsT (sft σ (l + 4)) n tx tn))) ∧ w' = w ∧ zz = sz) (w) (sz) (0) (0) [some (.ref o), some (.int (nI l)), some (.int (nI 0)), some (.int (nI b)), some (.int (nI (b + t))), none, none, none] [] 19 := by
        refine dn (fun t ht iht => ?_)
        have hfe := fst_le (fun k => bl tx (b + k)) (tn - b)
        refine v_iload dX8_hasTold_19 rfl ?_
        refine v_aload_n dX8_hasTold_21 rfl ?_
        refine v_get 4 dX8_hasTold_22 FTX8 (by decide) rfl fl_X8_56 hM.1 rfl ?_
        refine v_icmp_geN (tgt := 46) dX8_hasTold_25 (by decide) (by omega) (by omega) (fun b25 => ?_) (fun b25 => ?_)
        ·
          have q8 : b + t = enn tx tn b := by unfold enn; omega
          have e7 : nI (b + t) = nI (enn tx tn b) := by rw [q8]
          rw [e7]
          exact KKN
        ·
          refine v_aload_n dX8_hasTold_28 rfl ?_
          refine v_get 3 dX8_hasTold_29 FTX8 (by decide) rfl fl_X8_13 hM.1 rfl ?_
          refine v_iload dX8_hasTold_32 rfl ?_
          refine v_cald _ dX8_hasTold_34 hM.2.2.1 rfl (by omega) (by decide) ?_
          refine v_bipush (v := nI 32) dX8_hasTold_35 (by decide) ?_
          refine v_icmp_eq (tgt := 46) dX8_hasTold_37 (by decide) (fun b37 => ?_) (fun b37 => ?_)
          ·
            have q8 : b + t = enn tx tn b := by
              unfold enn
              rcases Nat.lt_or_ge t (fst (fun k => bl tx (b + k)) (tn - b)) with h1 | h1
              · have := fst_no _ _ _ h1
                simp [bl, b37] at this
              · omega
            have e7 : nI (b + t) = nI (enn tx tn b) := by rw [q8]
            rw [e7]
            exact KKN
          ·
            have q7 : t < fst (fun k => bl tx (b + k)) (tn - b) := by
              rcases Nat.lt_or_ge t (fst (fun k => bl tx (b + k)) (tn - b)) with h1 | h1
              · exact h1
              · have h2 := fst_yes (fun k => bl tx (b + k)) (tn - b) (by omega)
                rw [show fst (fun k => bl tx (b + k)) (tn - b) = t by omega] at h2
                simp [bl, b37] at h2
            refine v_iincN dX8_hasTold_40 (by decide) rfl rfl rfl ?_
            refine v_goto (tgt := 19) dX8_hasTold_43 (by decide) ?_
            exact iht q7
      exact LP19 0 (Nat.zero_le _)
  refine v_eqL ?_ (LP4 0 (Nat.zero_le _))
  rw [beg_0]
  rfl
end
section
/-- what the numbers of a state of the reference hold -/
def rwk (σ : Nat → Int32) (k : Nat) : Prop := ub (σ (1808 + 65 * k)) (nt (σ 18)) ∧ ub (σ (1808 + 65 * k + 1)) 24 ∧ ub (σ (1808 + 65 * k + 2)) 10 ∧ ub (σ (1808 + 65 * k + 3)) 3 ∧ ub (σ (1808 + 65 * k + 4)) 61 ∧ okT (sft σ (1808 + 65 * k + 5)) (nt (σ (1808 + 65 * k + 4)))
def WS (σ : Nat → Int32) : Prop :=
  (∀ a, a < 8 → ub (σ a) 4) ∧ (∀ r, r < 4 → ub (σ (8 + r)) 8) ∧ (∀ r, r < 4 → ub (σ (12 + r)) 16 ∧ 1 ≤ nt (σ (12 + r))) ∧ (ub (σ 16) 10 ∧ 1 ≤ nt (σ 16)) ∧ ub (σ 18) 201 ∧
  (∀ p, p < 24 → ub (σ (272 + 64 * p)) 61 ∧ (nt (σ (272 + 64 * p)) = 0 ∨ okT (sft σ (272 + 64 * p + 4)) (nt (σ (272 + 64 * p))))) ∧
  ∀ k, k < 16 → σ (1808 + 65 * k) = -1 ∨ rwk σ k
theorem rcS_0 {σ : Nat → Int32} {ns q : Nat} (h : q < 2848) : rcS σ ns q = σ q := by
  have h3 : ∀ j, rc3 σ j q = σ q := by
    intro j
    induction j with
    | zero => rfl
    | succ j ih =>
      show cpS (rc3 σ j) (j + 2) (j + 1) 2848 q = σ q
      unfold cpS
      rw [if_neg (by omega)]
      exact ih
  unfold rcS cpS
  rw [if_neg (by unfold rcn; split <;> omega)]
  split
  · exact h3 3
  · rfl
theorem rcS_sft {σ : Nat → Int32} {ns a k : Nat} (h : a + k < 2848) : sft (rcS σ ns) a k = sft σ a k := rcS_0 h
theorem okc_congr {f g : Nat → Int32} {k : Nat} (h : ∀ j, j ≤ k → f j = g j) : okc f k = okc g k := by
  unfold okc
  have h1 : isw f k = isw g k := by
    cases k with
    | zero => rfl
    | succ k => simp only [isw]; rw [h k (by omega)]
  rw [h k (Nat.le_refl _), h1]
  simp only [bl]
  rw [h k (Nat.le_refl _)]
theorem okT_congr {f g : Nat → Int32} {n : Nat} (h : ∀ j, j < n → f j = g j) (ho : okT f n) : okT g n := by
  refine ⟨ho.1, fun k hk => ?_, ?_⟩
  · rw [← okc_congr (fun j hj => h j (by omega))]
    exact ho.2.1 k hk
  · have h1 : isw f n = isw g n := by
      cases n with
      | zero => rfl
      | succ n => simp only [isw]; rw [h n (by omega)]
    rw [← h1]
    exact ho.2.2
theorem WS.congr {σ τ : Nat → Int32} (h : WS σ) (e : ∀ q, q < 2848 → τ q = σ q) : WS τ := by
  obtain ⟨h1, h2, h3, h4, h5, h6, h7⟩ := h
  refine ⟨fun a ha => ?_, fun r hr => ?_, fun r hr => ?_, ?_, ?_, fun p hp => ?_, fun k hk => ?_⟩
  · rw [e a (by omega)]; exact h1 a ha
  · rw [e _ (by omega)]; exact h2 r hr
  · rw [e _ (by omega)]; exact h3 r hr
  · rw [e _ (by omega)]; exact h4
  · rw [e _ (by omega)]; exact h5
  · rw [e _ (by omega)]
    refine ⟨(h6 p hp).1, (h6 p hp).2.imp id (okT_congr (fun j hj => ?_))⟩
    have := (h6 p hp).1.2
    exact (e _ (by omega)).symm
  · rw [e _ (by omega)]
    refine (h7 k hk).imp id (fun ⟨a1, a2, a3, a4, a5, a6⟩ => ?_)
    unfold rwk
    rw [e (1808 + 65 * k) (by omega), e 18 (by omega), e (1808 + 65 * k + 1) (by omega), e (1808 + 65 * k + 2) (by omega), e (1808 + 65 * k + 3) (by omega), e (1808 + 65 * k + 4) (by omega)]
    exact ⟨a1, a2, a3, a4, a5, okT_congr (fun j hj => by have := a5.2; exact (e _ (by omega)).symm) a6⟩
theorem WS.rc {σ : Nat → Int32} {ns : Nat} (h : WS σ) : WS (rcS σ ns) := h.congr (fun q hq => rcS_0 hq)
/-- an answer, and the reference's states behind it -/
abbrev An : Type := Int32 × Nat × (Nat → Int32)
def AnQ (w : Wd) (o tn : Nat) (kp : Int32) (tx cm : Nat → Int32) (A : An) : Option Value → Wd → Prop := fun r' w' => r' = some (.int A.1) ∧ MW w' o A.2.1 tn kp A.2.2 tx cm ∧ frO o w w'
/-- works of a room a whose limit falls -/
def slS (σ : Nat → Int32) (a lim : Nat) : Nat → Nat → Int32
  | 0 => σ
  | i + 1 => if σ i = nI a then caS (slS σ a lim i) i lim 3 else slS σ a lim i
def slN (σ : Nat → Int32) (a lim : Nat) : Nat → Nat
  | 0 => 0
  | i + 1 => if σ i = nI a then slN σ a lim i + caN (slS σ a lim i) i lim 3 else slN σ a lim i
theorem slS_out {σ : Nat → Int32} {a lim q : Nat} (h3 : q ≠ 21) : ∀ i, (q < 272 ∨ 272 + 192 * i ≤ q) → slS σ a lim i q = σ q
  | 0, _ => rfl
  | i + 1, h => by
    have h1 := slS_out (σ := σ) (a := a) (lim := lim) h3 i (by omega)
    simp only [slS]
    split
    · rw [caS_out h3 3 (fun b hb => ⟨by omega, by omega⟩)]
      exact h1
    · exact h1
def setLimitR (σ : Nat → Int32) (ns : Nat) (x y : Int32) : An := if inB x 3 = true then (if (nI 1 ≤ y ∧ y ≤ nI 15) then (if σ (12 + nt x) = y then (-5, ns, σ) else (nI (slN (upd (rcS σ ns) (12 + nt x) y) (nt x) (nt y) 8), rcn ns, slS (upd (rcS σ ns) (12 + nt x) y) (nt x) (nt y) 8)) else (-2, ns, σ)) else (-1, ns, σ)
def bitsI (x : Int32) : Int32 := (x &&& nI 1) + ((x >>> (nI 1 &&& 31)) &&& nI 1) + ((x >>> (nI 2 &&& 31)) &&& nI 1)
def askR (σ : Nat → Int32) (ns : Nat) (x y : Int32) (t : Bool) : An := if (inB x 3 && inB y 2) = true then (if askB σ (nt x) (nt y) = t then (-5, ns, σ) else (bitsI (σ (8 + nt x) ^^^ (nI 1 <<< (nI (nt y) &&& 31))), rcn ns, upd (rcS σ ns) (8 + nt x) (σ (8 + nt x) ^^^ (nI 1 <<< (nI (nt y) &&& 31))))) else (-1, ns, σ)
theorem and1 (x : Int32) : x &&& nI 1 = nI 0 ∨ x &&& nI 1 = nI 1 := by
  have h : (x &&& nI 1).toBitVec.toNat = x.toBitVec.toNat % 2 := by
    show (x.toBitVec &&& (nI 1).toBitVec).toNat = _
    rw [BitVec.toNat_and]
    have e : (nI 1).toBitVec.toNat = 1 := by decide
    rw [e]
    simp
  rcases Nat.lt_or_ge (x.toBitVec.toNat % 2) 1 with e | e
  · left
    apply Int32.toBitVec_inj.mp
    apply BitVec.eq_of_toNat_eq
    rw [h, show x.toBitVec.toNat % 2 = 0 by omega]
    decide
  · right
    apply Int32.toBitVec_inj.mp
    apply BitVec.eq_of_toNat_eq
    rw [h, show x.toBitVec.toNat % 2 = 1 by omega]
    decide

def setNeededR (σ : Nat → Int32) (ns : Nat) (y : Int32) : An := if (nI 1 ≤ y ∧ y ≤ nI 9) then (if σ 16 = y then (-5, ns, σ) else (σ 16, rcn ns, upd (rcS σ ns) 16 y)) else (-2, ns, σ)
set_option maxHeartbeats 4000000 in
set_option maxRecDepth 100000 in
theorem c_setNeeded {w : Wd} {o ns tn : Nat} {kp : Int32} {σ tx cm : Nat → Int32} (hM : MW w o ns tn kp σ tx cm) (hns : ns ≤ 4) (hW : WS σ) (y : Int32) : Wr mX8_setNeeded 2 [.ref o, .int y] w (AnQ w o tn kp tx cm (setNeededR σ ns y)) := by
  intro sz
  refine Ev.ofV [some (.ref o), some (.int y), none] (by decide) (Nat.le_of_ble_eq_true rfl) rfl rfl rfl ?_
  refine v_iload_n dX8_setNeeded_0 rfl ?_
  refine v_iconst (v := nI 1) dX8_setNeeded_1 (by decide) ?_
  refine v_bipush (v := nI 9) dX8_setNeeded_2 (by decide) ?_
  refine u_rS3 oX8_in dX8_setNeeded_4 ml_X8_59 (c_inb y 1 9) (by decide) (Nat.le_of_ble_eq_true rfl) (Nat.le_refl _) (Nat.le_refl _) ?_
  refine v_if_neB (tgt := 13) dX8_setNeeded_7 (by decide) (fun b7 => ?_) (fun b7 => ?_)
  ·
    have g1 : (nI 1 ≤ y ∧ y ≤ nI 9) := by simpa using b7
    refine v_aload_n dX8_setNeeded_13 rfl ?_
    refine v_get 0 dX8_setNeeded_14 FTX8 (by decide) rfl fl_X8_7 hM.1 rfl ?_
    refine v_bipush (v := nI 16) dX8_setNeeded_17 (by decide) ?_
    refine v_iald _ dX8_setNeeded_19 hM.2.1 rfl (by omega) (by decide) ?_
    refine v_iload_n dX8_setNeeded_20 rfl ?_
    refine v_icmp_ne (tgt := 27) dX8_setNeeded_21 (by decide) (fun b21 => ?_) (fun b21 => ?_)
    ·
      refine v_aload_n dX8_setNeeded_27 rfl ?_
      refine v_wV0 oX8_records dX8_setNeeded_28 ml_X8_63 (c_records hM hns) hM.1 (by decide) (Nat.le_of_ble_eq_true rfl) (Nat.le_refl _) (Nat.le_refl _) (fun r' w1 hq => ?_)
      obtain ⟨rfl, h1, f1⟩ := hq
      obtain ⟨σ1, es⟩ : ∃ s, s = rcS σ ns := ⟨_, rfl⟩
      rw [← es] at h1
      refine v_eqw h1.self ?_
      refine v_aload_n dX8_setNeeded_31 rfl ?_
      refine v_get 0 dX8_setNeeded_32 FTX8 (by decide) rfl fl_X8_7 (h1.st _).1 rfl ?_
      refine v_bipush (v := nI 16) dX8_setNeeded_35 (by decide) ?_
      refine v_ialdE _ dX8_setNeeded_37 (h1.st _).2.1 rfl (by omega) (by decide) (show σ1 16 = σ 16 from by rw [es]; exact rcS_0 (by omega)) ?_
      refine v_istore_n dX8_setNeeded_38 (by decide) rfl ?_
      refine v_aload_n dX8_setNeeded_39 rfl ?_
      refine v_get 0 dX8_setNeeded_40 FTX8 (by decide) rfl fl_X8_7 (h1.st _).1 rfl ?_
      refine v_bipush (v := nI 16) dX8_setNeeded_43 (by decide) ?_
      refine v_iload_n dX8_setNeeded_45 rfl ?_
      refine v_iast _ dX8_setNeeded_46 (h1.st _).2.1 rfl (by omega) (by decide) ?_
      refine v_eqw (wu_wu _ _ _ _).symm ?_
      refine v_iload_n dX8_setNeeded_47 rfl ?_
      refine v_iret dX8_setNeeded_48 rfl (Nat.le_refl _) (Nat.le_refl _) ?_
      have e : setNeededR σ ns y = (σ 16, rcn ns, upd (rcS σ ns) 16 y) := by
        unfold setNeededR
        rw [if_pos g1, if_neg b21]
      rw [e, ← es]
      exact ⟨rfl, rfl, h1.st _, f1.wu _ (by omega) (by omega)⟩
    ·
      refine v_bipush (v := -5) dX8_setNeeded_24 (by decide) ?_
      refine v_iret dX8_setNeeded_26 rfl (Nat.le_refl _) (Nat.le_refl _) ?_
      have e : setNeededR σ ns y = (-5, ns, σ) := by
        unfold setNeededR
        rw [if_pos g1, if_pos b21]
      rw [e]
      exact ⟨rfl, rfl, hM, frO.rf o w⟩
  ·
    refine v_bipush (v := -2) dX8_setNeeded_10 (by decide) ?_
    refine v_iret dX8_setNeeded_12 rfl (Nat.le_refl _) (Nat.le_refl _) ?_
    have e : setNeededR σ ns y = (-2, ns, σ) := by
      unfold setNeededR
      rw [if_neg (by simpa using b7)]
    rw [e]
    exact ⟨rfl, rfl, hM, frO.rf o w⟩
set_option maxHeartbeats 4000000 in
set_option maxRecDepth 100000 in
theorem c_setLimit0 {w : Wd} {o ns tn : Nat} {kp : Int32} {σ tx cm : Nat → Int32} (hM : MW w o ns tn kp σ tx cm) (x y : Int32) (h : inB x 3 = false) : Wr mX8_setLimit 5 [.ref o, .int x, .int y] w (AnQ w o tn kp tx cm (setLimitR σ ns x y)) := by
  intro sz
  refine Ev.ofV [some (.ref o), some (.int x), some (.int y), none, none] (by decide) (Nat.le_of_ble_eq_true rfl) rfl rfl rfl ?_
  refine v_iload_n dX8_setLimit_0 rfl ?_
  refine v_iconst (v := nI 0) dX8_setLimit_1 (by decide) ?_
  refine v_iconst (v := nI 3) dX8_setLimit_2 (by decide) ?_
  refine u_rS3 oX8_in dX8_setLimit_3 ml_X8_59 (c_inB x 3) (by decide) (Nat.le_of_ble_eq_true rfl) (Nat.le_refl _) (Nat.le_refl _) ?_
  refine v_if_neB (tgt := 11) dX8_setLimit_6 (by decide) (fun b6 => ?_) (fun b6 => ?_)
  ·
    exact absurd b6 (by rw [h]; decide)
  ·
    refine v_iconst (v := -1) dX8_setLimit_9 (by decide) ?_
    refine v_iret dX8_setLimit_10 rfl (Nat.le_refl _) (Nat.le_refl _) ?_
    have e : setLimitR σ ns x y = (-1, ns, σ) := by
      unfold setLimitR
      rw [if_neg (by rw [h]; decide)]
    rw [e]
    exact ⟨rfl, rfl, hM, frO.rf o w⟩
theorem lim_ub {y : Int32} (g : nI 1 ≤ y ∧ y ≤ nI 15) : ub y 16 ∧ 1 ≤ nt y := by
  have h0 : inB y 15 = true := by
    simp only [inB, decide_eq_true_eq]
    exact ⟨Int32.le_trans (by decide) g.1, g.2⟩
  have h1 := inB_ub (by omega) h0
  refine ⟨h1, ?_⟩
  have h2 := g.1
  rw [h1.1, nI_leN (by omega) (by have := h1.2; omega)] at h2
  exact h2
theorem slS_at {σ : Nat → Int32} {a i lim : Nat} {y : Int32} (ha : a < 4) : slS (upd σ (12 + a) y) a lim i (12 + a) = y := by
  rw [slS_out (by omega) i (by omega), up_eq]
/-- the labels of a work of the room whose limit falls -/
theorem c_slC {w1 : Wd} {o ns tn : Nat} {kp : Int32} {σ1 tx cm : Nat → Int32} (h1 : MW w1 o ns tn kp σ1 tx cm) {a : Nat} {y : Int32} (ha : a < 4) (hy : ub y 16 ∧ 1 ≤ nt y) (hW1 : WS σ1) (i : Nat) (hi : i < 8) (q : upd σ1 (12 + a) y i = nI a) : Wr mX8_cutsAll 3 [.ref o, .int (nI i)] (wu w1 (o + 1) (ia 1 17088 (slS (upd σ1 (12 + a) y) a (nt y) i))) (fun r' w' => r' = some (.int (nI (caN (slS (upd σ1 (12 + a) y) a (nt y) i) i (nt y) 3))) ∧ w' = wu w1 (o + 1) (ia 1 17088 (caS (slS (upd σ1 (12 + a) y) a (nt y) i) i (nt y) 3))) := by
  have e1 : slS (upd σ1 (12 + a) y) a (nt y) i i = nI a := by rw [slS_out (by omega) i (by omega)]; exact q
  have e2 : slS (upd σ1 (12 + a) y) a (nt y) i (12 + a) = y := slS_at ha
  have c := c_cutsAll0 (h1.st (slS (upd σ1 (12 + a) y) a (nt y) i)) i (nt y) hi (by rw [e1]; exact ub_nI ha (by omega)) (by rw [e1, nt_nI (by omega), e2]; exact hy) (by rw [e1, nt_nI (by omega), e2]) (fun b hb => by
    rw [slS_out (by omega) i (by omega), up_ne _ _ (by omega)]
    exact (hW1.2.2.2.2.2.1 (3 * i + b) (by omega)).1)
  simp only [wu_wu] at c
  exact c
set_option maxHeartbeats 4000000 in
set_option maxRecDepth 100000 in
theorem c_setLimitN {w : Wd} {o ns tn : Nat} {kp : Int32} {σ tx cm : Nat → Int32} (hM : MW w o ns tn kp σ tx cm) (hns : ns ≤ 4) (hW : WS σ) (a : Nat) (y : Int32) (ha : a < 4) : Wr mX8_setLimit 5 [.ref o, .int (nI a), .int y] w (AnQ w o tn kp tx cm (setLimitR σ ns (nI a) y)) := by
  intro sz
  refine Ev.ofV [some (.ref o), some (.int (nI a)), some (.int y), none, none] (by decide) (Nat.le_of_ble_eq_true rfl) rfl rfl rfl ?_
  have hga : inB (nI a) 3 = true := by rw [inB_nI (by omega) (by omega)]; simp; omega
  refine v_iload_n dX8_setLimit_0 rfl ?_
  refine v_iconst (v := nI 0) dX8_setLimit_1 (by decide) ?_
  refine v_iconst (v := nI 3) dX8_setLimit_2 (by decide) ?_
  refine u_rS3 oX8_in dX8_setLimit_3 ml_X8_59 (c_inB (nI a) 3) (by decide) (Nat.le_of_ble_eq_true rfl) (Nat.le_refl _) (Nat.le_refl _) ?_
  refine v_if_neB (tgt := 11) dX8_setLimit_6 (by decide) (fun b6 => ?_) (fun b6 => ?_)
  ·
    refine v_iload_n dX8_setLimit_11 rfl ?_
    refine v_iconst (v := nI 1) dX8_setLimit_12 (by decide) ?_
    refine v_bipush (v := nI 15) dX8_setLimit_13 (by decide) ?_
    refine u_rS3 oX8_in dX8_setLimit_15 ml_X8_59 (c_inb y 1 15) (by decide) (Nat.le_of_ble_eq_true rfl) (Nat.le_refl _) (Nat.le_refl _) ?_
    refine v_if_neB (tgt := 24) dX8_setLimit_18 (by decide) (fun b18 => ?_) (fun b18 => ?_)
    ·
      have g1 : (nI 1 ≤ y ∧ y ≤ nI 15) := by simpa using b18
      have hy := lim_ub g1
      refine v_aload_n dX8_setLimit_24 rfl ?_
      refine v_get 0 dX8_setLimit_25 FTX8 (by decide) rfl fl_X8_7 hM.1 rfl ?_
      refine v_bipush (v := nI 12) dX8_setLimit_28 (by decide) ?_
      refine v_iload_n dX8_setLimit_30 rfl ?_
      refine v_iaddN dX8_setLimit_31 ?_
      refine v_iald _ dX8_setLimit_32 hM.2.1 rfl (by omega) (by decide) ?_
      refine v_iload_n dX8_setLimit_33 rfl ?_
      refine v_icmp_ne (tgt := 40) dX8_setLimit_34 (by decide) (fun b34 => ?_) (fun b34 => ?_)
      ·
        refine v_aload_n dX8_setLimit_40 rfl ?_
        refine v_wV0 oX8_records dX8_setLimit_41 ml_X8_63 (c_records hM hns) hM.1 (by decide) (Nat.le_of_ble_eq_true rfl) (Nat.le_refl _) (Nat.le_refl _) (fun r' w1 hq => ?_)
        obtain ⟨rfl, h1, f1⟩ := hq
        obtain ⟨σ1, es⟩ : ∃ s, s = rcS σ ns := ⟨_, rfl⟩
        rw [← es] at h1
        refine v_eqw h1.self ?_
        refine v_aload_n dX8_setLimit_44 rfl ?_
        refine v_get 0 dX8_setLimit_45 FTX8 (by decide) rfl fl_X8_7 (h1.st _).1 rfl ?_
        refine v_bipush (v := nI 12) dX8_setLimit_48 (by decide) ?_
        refine v_iload_n dX8_setLimit_50 rfl ?_
        refine v_iaddN dX8_setLimit_51 ?_
        refine v_iload_n dX8_setLimit_52 rfl ?_
        refine v_iast _ dX8_setLimit_53 (h1.st _).2.1 rfl (by omega) (by decide) ?_
        refine v_eqw (wu_wu _ _ _ _).symm ?_
        refine v_iconst (v := nI 0) dX8_setLimit_54 (by decide) ?_
        refine v_istore_n dX8_setLimit_55 (by decide) rfl ?_
        refine v_iconst (v := nI 0) dX8_setLimit_56 (by decide) ?_
        refine v_istore dX8_setLimit_57 (by decide) rfl ?_
        have LP59 : ∀ i, i ≤ 8 → V mX8_setLimit 5 0 0 (fun r' w' zz => zz = sz ∧ AnQ w o tn kp tx cm (setLimitR σ ns (nI a) y) r' w') (wu w1 (o + 1) (ia 1 17088 (slS (upd σ1 (12 + a) y) a (nt y) i))) (sz) (0) (0) [some (.ref o), some (.int (nI a)), some (.int y), some (.int (nI (slN (upd σ1 (12 + a) y) a (nt y) i))), some (.int (nI i))] [] 59 := by
          refine dn (fun i hi ih => ?_)
          refine v_iload dX8_setLimit_59 rfl ?_
          refine v_bipush (v := nI 8) dX8_setLimit_61 (by decide) ?_
          refine v_icmp_geN (tgt := 96) dX8_setLimit_63 (by decide) (by omega) (by omega) (fun b63 => ?_) (fun b63 => ?_)
          ·
            have e8 : i = 8 := by omega
            subst e8
            refine v_iload_n dX8_setLimit_96 rfl ?_
            refine v_iret dX8_setLimit_97 rfl (Nat.le_refl _) (Nat.le_refl _) ?_
            have e : setLimitR σ ns (nI a) y = (nI (slN (upd (rcS σ ns) (12 + a) y) a (nt y) 8), rcn ns, slS (upd (rcS σ ns) (12 + a) y) a (nt y) 8) := by
              unfold setLimitR
              rw [if_pos hga, nt_nI (by omega), if_pos g1, if_neg b34]
            rw [e, ← es]
            exact ⟨rfl, rfl, h1.st _, f1.wu _ (by omega) (by omega)⟩
          ·
            have hW1 : WS σ1 := by rw [es]; exact hW.rc
            refine v_iload_n dX8_setLimit_66 rfl ?_
            refine v_aload_n dX8_setLimit_67 rfl ?_
            refine v_get 0 dX8_setLimit_68 FTX8 (by decide) rfl fl_X8_7 (h1.st _).1 rfl ?_
            refine v_iload dX8_setLimit_71 rfl ?_
            refine v_ialdE _ dX8_setLimit_73 (h1.st _).2.1 rfl (by omega) (by decide) (slS_out (by omega) i (by omega)) ?_
            refine v_iload_n dX8_setLimit_74 rfl ?_
            refine v_icmp_ne (tgt := 87) dX8_setLimit_75 (by decide) (fun b75 => ?_) (fun b75 => ?_)
            ·
              have q75 : ¬ (upd σ1 (12 + a) y) i = nI a := b75
              have qS : slS (upd σ1 (12 + a) y) a (nt y) (i + 1) = slS (upd σ1 (12 + a) y) a (nt y) i := by simp only [slS]; rw [if_neg q75]
              have qN : slN (upd σ1 (12 + a) y) a (nt y) (i + 1) = slN (upd σ1 (12 + a) y) a (nt y) i := by simp only [slN]; rw [if_neg q75]
              refine v_iconst (v := nI 0) dX8_setLimit_87 (by decide) ?_
              refine v_iaddN dX8_setLimit_88 ?_
              refine v_istore_n dX8_setLimit_89 (by decide) rfl ?_
              refine v_iincN dX8_setLimit_90 (by decide) rfl rfl rfl ?_
              refine v_goto (tgt := 59) dX8_setLimit_93 (by decide) ?_
              refine v_sg qS ?_
              refine v_eqL ?_ (ih (by omega))
              rw [qN]
              rfl
            ·
              have q75 : (upd σ1 (12 + a) y) i = nI a := b75
              have qS : slS (upd σ1 (12 + a) y) a (nt y) (i + 1) = caS (slS (upd σ1 (12 + a) y) a (nt y) i) i (nt y) 3 := by simp only [slS]; rw [if_pos q75]
              have qN : slN (upd σ1 (12 + a) y) a (nt y) (i + 1) = slN (upd σ1 (12 + a) y) a (nt y) i + caN (slS (upd σ1 (12 + a) y) a (nt y) i) i (nt y) 3 := by simp only [slN]; rw [if_pos q75]
              refine v_aload_n dX8_setLimit_78 rfl ?_
              refine v_iload dX8_setLimit_79 rfl ?_
              refine u_wV1 oX8_cutsAll dX8_setLimit_81 ml_X8_66 (c_slC h1 ha hy hW1 i (by omega) q75) (h1.st _).1 (by decide) (Nat.le_of_ble_eq_true rfl) (Nat.le_refl _) (Nat.le_refl _) ?_
              refine v_goto (tgt := 88) dX8_setLimit_84 (by decide) ?_
              refine v_iaddN dX8_setLimit_88 ?_
              refine v_istore_n dX8_setLimit_89 (by decide) rfl ?_
              refine v_iincN dX8_setLimit_90 (by decide) rfl rfl rfl ?_
              refine v_goto (tgt := 59) dX8_setLimit_93 (by decide) ?_
              refine v_sg qS ?_
              refine v_eqL ?_ (ih (by omega))
              rw [qN]
              rfl
        exact LP59 0 (Nat.zero_le _)
      ·
        refine v_bipush (v := -5) dX8_setLimit_37 (by decide) ?_
        refine v_iret dX8_setLimit_39 rfl (Nat.le_refl _) (Nat.le_refl _) ?_
        have e : setLimitR σ ns (nI a) y = (-5, ns, σ) := by
          unfold setLimitR
          rw [if_pos hga, nt_nI (by omega), if_pos g1, if_pos b34]
        rw [e]
        exact ⟨rfl, rfl, hM, frO.rf o w⟩
    ·
      refine v_bipush (v := -2) dX8_setLimit_21 (by decide) ?_
      refine v_iret dX8_setLimit_23 rfl (Nat.le_refl _) (Nat.le_refl _) ?_
      have e : setLimitR σ ns (nI a) y = (-2, ns, σ) := by
        unfold setLimitR
        rw [if_pos hga, nt_nI (by omega), if_neg (by simpa using b18)]
      rw [e]
      exact ⟨rfl, rfl, hM, frO.rf o w⟩
  ·
    exact absurd hga (by rw [b6]; decide)
theorem c_setLimit {w : Wd} {o ns tn : Nat} {kp : Int32} {σ tx cm : Nat → Int32} (hM : MW w o ns tn kp σ tx cm) (hns : ns ≤ 4) (hW : WS σ) (x y : Int32) : Wr mX8_setLimit 5 [.ref o, .int x, .int y] w (AnQ w o tn kp tx cm (setLimitR σ ns x y)) := by
  by_cases h : (inB x 3) = false
  · exact c_setLimit0 hM x y h
  · have h1 : (inB x 3) = true := by
      cases e : (inB x 3)
      · exact absurd e h
      · rfl
    have hx := inB_ub (by omega) h1
    rw [hx.1]
    exact c_setLimitN hM hns hW (nt x) y hx.2
end
section
theorem c_bits {w : Wd} (x : Int32) : Rd mX8_bits 0 [.int x] w (some (.int (bitsI x))) := by
  intro sz
  refine Ev.ofV [some (.int x)] (by decide) (Nat.le_of_ble_eq_true rfl) rfl rfl rfl ?_
  refine v_iload_n dX8_bits_0 rfl ?_
  refine v_iconst (v := nI 1) dX8_bits_1 (by decide) ?_
  refine v_iand dX8_bits_2 ?_
  refine v_iload_n dX8_bits_3 rfl ?_
  refine v_iconst (v := nI 1) dX8_bits_4 (by decide) ?_
  refine v_ishr dX8_bits_5 ?_
  refine v_iconst (v := nI 1) dX8_bits_6 (by decide) ?_
  refine v_iand dX8_bits_7 ?_
  refine v_iadd dX8_bits_8 ?_
  refine v_iload_n dX8_bits_9 rfl ?_
  refine v_iconst (v := nI 2) dX8_bits_10 (by decide) ?_
  refine v_ishr dX8_bits_11 ?_
  refine v_iconst (v := nI 1) dX8_bits_12 (by decide) ?_
  refine v_iand dX8_bits_13 ?_
  refine v_iadd dX8_bits_14 ?_
  refine v_iret dX8_bits_15 rfl (Nat.le_refl _) (Nat.le_refl _) ?_
  exact ⟨rfl, rfl, rfl⟩
theorem ne01 : ¬ nI 0 = nI 1 := by decide
def bringR (σ : Nat → Int32) (ns : Nat) (x y : Int32) : An := if (inB x 7 && inB y 3) = true then (if σ (nt x) = y then (-5, ns, σ) else (nI (caN (upd (rcS σ ns) (nt x) y) (nt x) (nt ((rcS σ ns) (12 + nt y))) 3), rcn ns, caS (upd (rcS σ ns) (nt x) y) (nt x) (nt ((rcS σ ns) (12 + nt y))) 3)) else (-1, ns, σ)
def takeDownR (σ : Nat → Int32) (ns : Nat) (x y : Int32) : An := if (inB x 7 && inB y 2) = true then (if 0 < ln σ (3 * nt x + nt y) then (nI (nwl (rcS σ ns) (3 * nt x + nt y)), rcn ns, upd (rcS σ ns) (272 + 64 * (3 * nt x + nt y)) (nI 0)) else (-5, ns, σ)) else (-1, ns, σ)
/-- the text becomes the label in place p -/
def labS (σ : Nat → Int32) (p : Nat) (tx : Nat → Int32) (tn : Nat) : Nat → Int32 := lay (upd (upd (upd (upd σ (272 + 64 * p) (nI tn)) (272 + 64 * p + 1) (-1)) (272 + 64 * p + 2) (σ 17)) (272 + 64 * p + 3) (nI 0)) tx (272 + 64 * p + 4) tn
def limW (σ : Nat → Int32) (a : Nat) : Nat := nt (σ (12 + nt (σ a)))
def labelR (σ : Nat → Int32) (ns : Nat) (tx : Nat → Int32) (tn : Nat) (x y : Int32) : An := if (inB x 7 && inB y 2) = true then (if flt tx tn < 0 then (if 1 + cnt (bl tx) tn ≤ limW σ (nt x) then (if told (sft σ (272 + 64 * (3 * nt x + nt y) + 4)) tx (ln σ (3 * nt x + nt y)) tn = true then (-5, ns, σ) else (nI (1 + cnt (bl tx) tn), rcn ns, labS (rcS σ ns) (3 * nt x + nt y) tx tn)) else (-6, ns, σ)) else (-100 - flt tx tn, ns, σ)) else (-1, ns, σ)
set_option maxHeartbeats 4000000 in
set_option maxRecDepth 100000 in
theorem c_ask0 {w : Wd} {o ns tn : Nat} {kp : Int32} {σ tx cm : Nat → Int32} (hM : MW w o ns tn kp σ tx cm) (x y : Int32) (t : Bool) (h : (inB x 3 && inB y 2) = false) : Wr mX8_ask 2 [.ref o, .int x, .int y, .int (b2i t)] w (AnQ w o tn kp tx cm (askR σ ns x y t)) := by
  intro sz
  refine Ev.ofV [some (.ref o), some (.int x), some (.int y), some (.int (b2i t))] (by decide) (Nat.le_of_ble_eq_true rfl) rfl rfl rfl ?_
  refine v_iload_n dX8_ask_0 rfl ?_
  refine v_iconst (v := nI 0) dX8_ask_1 (by decide) ?_
  refine v_iconst (v := nI 3) dX8_ask_2 (by decide) ?_
  refine u_rS3 oX8_in dX8_ask_3 ml_X8_59 (c_inB x 3) (by decide) (Nat.le_of_ble_eq_true rfl) (Nat.le_refl _) (Nat.le_refl _) ?_
  refine v_if_eqB (tgt := 18) dX8_ask_6 (by decide) (fun b6 => ?_) (fun b6 => ?_)
  ·
    refine v_iconst (v := -1) dX8_ask_18 (by decide) ?_
    refine v_iret dX8_ask_19 rfl (Nat.le_refl _) (Nat.le_refl _) ?_
    have e : askR σ ns x y t = (-1, ns, σ) := by
      unfold askR
      rw [if_neg (by rw [h]; decide)]
    rw [e]
    exact ⟨rfl, rfl, hM, frO.rf o w⟩
  ·
    refine v_iload_n dX8_ask_9 rfl ?_
    refine v_iconst (v := nI 0) dX8_ask_10 (by decide) ?_
    refine v_iconst (v := nI 2) dX8_ask_11 (by decide) ?_
    refine u_rS3 oX8_in dX8_ask_12 ml_X8_59 (c_inB y 2) (by decide) (Nat.le_of_ble_eq_true rfl) (Nat.le_refl _) (Nat.le_refl _) ?_
    refine v_if_neB (tgt := 20) dX8_ask_15 (by decide) (fun b15 => ?_) (fun b15 => ?_)
    ·
      exact absurd h (by rw [b6, b15]; decide)
    ·
      refine v_iconst (v := -1) dX8_ask_18 (by decide) ?_
      refine v_iret dX8_ask_19 rfl (Nat.le_refl _) (Nat.le_refl _) ?_
      have e : askR σ ns x y t = (-1, ns, σ) := by
        unfold askR
        rw [if_neg (by rw [h]; decide)]
      rw [e]
      exact ⟨rfl, rfl, hM, frO.rf o w⟩
theorem and1_iff (x : Int32) : (x &&& nI 1 = nI 0 ↔ ¬ x &&& nI 1 = nI 1) := by
  rcases and1 x with h | h
  · rw [h]
    decide
  · rw [h]
    decide
set_option maxHeartbeats 4000000 in
set_option maxRecDepth 100000 in
theorem c_askN {w : Wd} {o ns tn : Nat} {kp : Int32} {σ tx cm : Nat → Int32} (hM : MW w o ns tn kp σ tx cm) (hns : ns ≤ 4) (hW : WS σ) (a b : Nat) (t : Bool) (ha : a < 4) (hb : b < 3) : Wr mX8_ask 2 [.ref o, .int (nI a), .int (nI b), .int (b2i t)] w (AnQ w o tn kp tx cm (askR σ ns (nI a) (nI b) t)) := by
  intro sz
  refine Ev.ofV [some (.ref o), some (.int (nI a)), some (.int (nI b)), some (.int (b2i t))] (by decide) (Nat.le_of_ble_eq_true rfl) rfl rfl rfl ?_
  have hga : inB (nI a) 3 = true := by rw [inB_nI (by omega) (by omega)]; simp; omega
  have hgb : inB (nI b) 2 = true := by rw [inB_nI (by omega) (by omega)]; simp; omega
  have hgg : (inB (nI a) 3 && inB (nI b) 2) = true := by rw [hga, hgb]; rfl
  refine v_iload_n dX8_ask_0 rfl ?_
  refine v_iconst (v := nI 0) dX8_ask_1 (by decide) ?_
  refine v_iconst (v := nI 3) dX8_ask_2 (by decide) ?_
  refine u_rS3 oX8_in dX8_ask_3 ml_X8_59 (c_inB (nI a) 3) (by decide) (Nat.le_of_ble_eq_true rfl) (Nat.le_refl _) (Nat.le_refl _) ?_
  refine v_if_eqB (tgt := 18) dX8_ask_6 (by decide) (fun b6 => ?_) (fun b6 => ?_)
  ·
    exact absurd hga (by rw [b6]; decide)
  ·
    refine v_iload_n dX8_ask_9 rfl ?_
    refine v_iconst (v := nI 0) dX8_ask_10 (by decide) ?_
    refine v_iconst (v := nI 2) dX8_ask_11 (by decide) ?_
    refine u_rS3 oX8_in dX8_ask_12 ml_X8_59 (c_inB (nI b) 2) (by decide) (Nat.le_of_ble_eq_true rfl) (Nat.le_refl _) (Nat.le_refl _) ?_
    refine v_if_neB (tgt := 20) dX8_ask_15 (by decide) (fun b15 => ?_) (fun b15 => ?_)
    ·
      refine v_aload_n dX8_ask_20 rfl ?_
      refine v_get 0 dX8_ask_21 FTX8 (by decide) rfl fl_X8_7 hM.1 rfl ?_
      refine v_bipush (v := nI 8) dX8_ask_24 (by decide) ?_
      refine v_iload_n dX8_ask_26 rfl ?_
      refine v_iaddN dX8_ask_27 ?_
      refine v_iald _ dX8_ask_28 hM.2.1 rfl (by omega) (by decide) ?_
      refine v_iload_n dX8_ask_29 rfl ?_
      refine v_ishr dX8_ask_30 ?_
      refine v_iconst (v := nI 1) dX8_ask_31 (by decide) ?_
      refine v_iand dX8_ask_32 ?_
      refine v_iload_n dX8_ask_33 rfl ?_
      refine v_if_eqB (tgt := 41) dX8_ask_34 (by decide) (fun b34 => ?_) (fun b34 => ?_)
      ·
        have g34 : ∀ z : Int32, (z = nI 0 ↔ ¬ z = nI 1) → (decide (z = nI 1) = t ↔ z = nI 0) := by
          intro z hz
          rw [b34, decide_eq_false_iff_not, hz]
        have gL : nI 0 = nI 0 := rfl
        refine v_iconst (v := nI 0) dX8_ask_41 (by decide) ?_
        refine v_icmp_ne (tgt := 48) dX8_ask_42 (by decide) (fun b42 => ?_) (fun b42 => ?_)
        ·
          have g42 : ¬ askB σ a b = t := fun z => b42 ((g34 ((σ (8 + a) >>> (nI b &&& 31)) &&& nI 1) (and1_iff _)).mp z)
          refine v_aload_n dX8_ask_48 rfl ?_
          refine v_wV0 oX8_records dX8_ask_49 ml_X8_63 (c_records hM hns) hM.1 (by decide) (Nat.le_of_ble_eq_true rfl) (Nat.le_refl _) (Nat.le_refl _) (fun r' w1 hq => ?_)
          obtain ⟨rfl, h1, f1⟩ := hq
          obtain ⟨σ1, es⟩ : ∃ s, s = rcS σ ns := ⟨_, rfl⟩
          rw [← es] at h1
          refine v_eqw h1.self ?_
          refine v_aload_n dX8_ask_52 rfl ?_
          refine v_get 0 dX8_ask_53 FTX8 (by decide) rfl fl_X8_7 (h1.st _).1 rfl ?_
          refine v_bipush (v := nI 8) dX8_ask_56 (by decide) ?_
          refine v_iload_n dX8_ask_58 rfl ?_
          refine v_iaddN dX8_ask_59 ?_
          refine v_dup2 dX8_ask_60 rfl rfl ?_
          refine v_ialdE _ dX8_ask_61 (h1.st _).2.1 rfl (by omega) (by decide) (show σ1 (8 + a) = σ (8 + a) from by rw [es]; exact rcS_0 (by omega)) ?_
          refine v_iconst (v := nI 1) dX8_ask_62 (by decide) ?_
          refine v_iload_n dX8_ask_63 rfl ?_
          refine v_ishl dX8_ask_64 ?_
          refine v_ixor dX8_ask_65 ?_
          refine v_iast _ dX8_ask_66 (h1.st _).2.1 rfl (by omega) (by decide) ?_
          refine v_eqw (wu_wu _ _ _ _).symm ?_
          refine v_aload_n dX8_ask_67 rfl ?_
          refine v_get 0 dX8_ask_68 FTX8 (by decide) rfl fl_X8_7 (h1.st _).1 rfl ?_
          refine v_bipush (v := nI 8) dX8_ask_71 (by decide) ?_
          refine v_iload_n dX8_ask_73 rfl ?_
          refine v_iaddN dX8_ask_74 ?_
          refine v_ialdE _ dX8_ask_75 (h1.st _).2.1 rfl (by omega) (by decide) (up_eq _ _ _) ?_
          refine u_rS1 oX8_bits dX8_ask_76 ml_X8_69 (c_bits (σ (8 + a) ^^^ (nI 1 <<< (nI b &&& 31)))) (by decide) (Nat.le_of_ble_eq_true rfl) (Nat.le_refl _) (Nat.le_refl _) ?_
          refine v_iret dX8_ask_79 rfl (Nat.le_refl _) (Nat.le_refl _) ?_
          have e : askR σ ns (nI a) (nI b) t = (bitsI (σ (8 + a) ^^^ (nI 1 <<< (nI b &&& 31))), rcn ns, upd σ1 (8 + a) (σ (8 + a) ^^^ (nI 1 <<< (nI b &&& 31)))) := by
            subst es
            unfold askR
            rw [if_pos hgg, nt_nI (by omega), nt_nI (by omega), if_neg g42]
          rw [e]
          exact ⟨rfl, rfl, h1.st _, f1.wu _ (by omega) (by omega)⟩
        ·
          have g42 : askB σ a b = t := (g34 ((σ (8 + a) >>> (nI b &&& 31)) &&& nI 1) (and1_iff _)).mpr b42
          refine v_bipush (v := -5) dX8_ask_45 (by decide) ?_
          refine v_iret dX8_ask_47 rfl (Nat.le_refl _) (Nat.le_refl _) ?_
          have e : askR σ ns (nI a) (nI b) t = (-5, ns, σ) := by
            unfold askR
            rw [if_pos hgg, nt_nI (by omega), nt_nI (by omega), if_pos g42]
          rw [e]
          exact ⟨rfl, rfl, hM, frO.rf o w⟩
      ·
        have g34 : ∀ z : Int32, (z = nI 0 ↔ ¬ z = nI 1) → (decide (z = nI 1) = t ↔ z = nI 1) := by
          intro z hz
          rw [b34, decide_eq_true_eq]
        refine v_iconst (v := nI 1) dX8_ask_37 (by decide) ?_
        refine v_goto (tgt := 42) dX8_ask_38 (by decide) ?_
        refine v_icmp_ne (tgt := 48) dX8_ask_42 (by decide) (fun b42 => ?_) (fun b42 => ?_)
        ·
          have g42 : ¬ askB σ a b = t := fun z => b42 ((g34 ((σ (8 + a) >>> (nI b &&& 31)) &&& nI 1) (and1_iff _)).mp z)
          refine v_aload_n dX8_ask_48 rfl ?_
          refine v_wV0 oX8_records dX8_ask_49 ml_X8_63 (c_records hM hns) hM.1 (by decide) (Nat.le_of_ble_eq_true rfl) (Nat.le_refl _) (Nat.le_refl _) (fun r' w1 hq => ?_)
          obtain ⟨rfl, h1, f1⟩ := hq
          obtain ⟨σ1, es⟩ : ∃ s, s = rcS σ ns := ⟨_, rfl⟩
          rw [← es] at h1
          refine v_eqw h1.self ?_
          refine v_aload_n dX8_ask_52 rfl ?_
          refine v_get 0 dX8_ask_53 FTX8 (by decide) rfl fl_X8_7 (h1.st _).1 rfl ?_
          refine v_bipush (v := nI 8) dX8_ask_56 (by decide) ?_
          refine v_iload_n dX8_ask_58 rfl ?_
          refine v_iaddN dX8_ask_59 ?_
          refine v_dup2 dX8_ask_60 rfl rfl ?_
          refine v_ialdE _ dX8_ask_61 (h1.st _).2.1 rfl (by omega) (by decide) (show σ1 (8 + a) = σ (8 + a) from by rw [es]; exact rcS_0 (by omega)) ?_
          refine v_iconst (v := nI 1) dX8_ask_62 (by decide) ?_
          refine v_iload_n dX8_ask_63 rfl ?_
          refine v_ishl dX8_ask_64 ?_
          refine v_ixor dX8_ask_65 ?_
          refine v_iast _ dX8_ask_66 (h1.st _).2.1 rfl (by omega) (by decide) ?_
          refine v_eqw (wu_wu _ _ _ _).symm ?_
          refine v_aload_n dX8_ask_67 rfl ?_
          refine v_get 0 dX8_ask_68 FTX8 (by decide) rfl fl_X8_7 (h1.st _).1 rfl ?_
          refine v_bipush (v := nI 8) dX8_ask_71 (by decide) ?_
          refine v_iload_n dX8_ask_73 rfl ?_
          refine v_iaddN dX8_ask_74 ?_
          refine v_ialdE _ dX8_ask_75 (h1.st _).2.1 rfl (by omega) (by decide) (up_eq _ _ _) ?_
          refine u_rS1 oX8_bits dX8_ask_76 ml_X8_69 (c_bits (σ (8 + a) ^^^ (nI 1 <<< (nI b &&& 31)))) (by decide) (Nat.le_of_ble_eq_true rfl) (Nat.le_refl _) (Nat.le_refl _) ?_
          refine v_iret dX8_ask_79 rfl (Nat.le_refl _) (Nat.le_refl _) ?_
          have e : askR σ ns (nI a) (nI b) t = (bitsI (σ (8 + a) ^^^ (nI 1 <<< (nI b &&& 31))), rcn ns, upd σ1 (8 + a) (σ (8 + a) ^^^ (nI 1 <<< (nI b &&& 31)))) := by
            subst es
            unfold askR
            rw [if_pos hgg, nt_nI (by omega), nt_nI (by omega), if_neg g42]
          rw [e]
          exact ⟨rfl, rfl, h1.st _, f1.wu _ (by omega) (by omega)⟩
        ·
          have g42 : askB σ a b = t := (g34 ((σ (8 + a) >>> (nI b &&& 31)) &&& nI 1) (and1_iff _)).mpr b42
          refine v_bipush (v := -5) dX8_ask_45 (by decide) ?_
          refine v_iret dX8_ask_47 rfl (Nat.le_refl _) (Nat.le_refl _) ?_
          have e : askR σ ns (nI a) (nI b) t = (-5, ns, σ) := by
            unfold askR
            rw [if_pos hgg, nt_nI (by omega), nt_nI (by omega), if_pos g42]
          rw [e]
          exact ⟨rfl, rfl, hM, frO.rf o w⟩
    ·
      exact absurd hgb (by rw [b15]; decide)
theorem c_ask {w : Wd} {o ns tn : Nat} {kp : Int32} {σ tx cm : Nat → Int32} (hM : MW w o ns tn kp σ tx cm) (hns : ns ≤ 4) (hW : WS σ) (x y : Int32) (t : Bool) : Wr mX8_ask 2 [.ref o, .int x, .int y, .int (b2i t)] w (AnQ w o tn kp tx cm (askR σ ns x y t)) := by
  by_cases h : (inB x 3 && inB y 2) = false
  · exact c_ask0 hM x y t h
  · have h1 : (inB x 3 && inB y 2) = true := by
      cases e : (inB x 3 && inB y 2)
      · exact absurd e h
      · rfl
    have h2 := h1
    simp only [Bool.and_eq_true] at h2
    have hx := inB_ub (by omega) h2.1
    have hy := inB_ub (by omega) h2.2
    rw [hx.1, hy.1]
    exact c_askN hM hns hW (nt x) (nt y) t hx.2 hy.2
set_option maxHeartbeats 4000000 in
set_option maxRecDepth 100000 in
theorem c_takeDown0 {w : Wd} {o ns tn : Nat} {kp : Int32} {σ tx cm : Nat → Int32} (hM : MW w o ns tn kp σ tx cm) (x y : Int32) (h : (inB x 7 && inB y 2) = false) : Wr mX8_takeDown 2 [.ref o, .int x, .int y] w (AnQ w o tn kp tx cm (takeDownR σ ns x y)) := by
  intro sz
  refine Ev.ofV [some (.ref o), some (.int x), some (.int y), none] (by decide) (Nat.le_of_ble_eq_true rfl) rfl rfl rfl ?_
  refine v_iload_n dX8_takeDown_0 rfl ?_
  refine v_iload_n dX8_takeDown_1 rfl ?_
  refine u_rS2 oX8_isPair dX8_takeDown_2 ml_X8_72 (c_isPair x y) (by decide) (Nat.le_of_ble_eq_true rfl) (Nat.le_refl _) (Nat.le_refl _) ?_
  refine v_if_neB (tgt := 10) dX8_takeDown_5 (by decide) (fun b5 => ?_) (fun b5 => ?_)
  ·
    exact absurd h (by rw [b5]; decide)
  ·
    refine v_iconst (v := -1) dX8_takeDown_8 (by decide) ?_
    refine v_iret dX8_takeDown_9 rfl (Nat.le_refl _) (Nat.le_refl _) ?_
    have e : takeDownR σ ns x y = (-1, ns, σ) := by
      unfold takeDownR
      rw [if_neg (by rw [h]; decide)]
    rw [e]
    exact ⟨rfl, rfl, hM, frO.rf o w⟩
set_option maxHeartbeats 4000000 in
set_option maxRecDepth 100000 in
theorem c_takeDownN {w : Wd} {o ns tn : Nat} {kp : Int32} {σ tx cm : Nat → Int32} (hM : MW w o ns tn kp σ tx cm) (hns : ns ≤ 4) (hW : WS σ) (a b : Nat) (ha : a < 8) (hb : b < 3) : Wr mX8_takeDown 2 [.ref o, .int (nI a), .int (nI b)] w (AnQ w o tn kp tx cm (takeDownR σ ns (nI a) (nI b))) := by
  intro sz
  refine Ev.ofV [some (.ref o), some (.int (nI a)), some (.int (nI b)), none] (by decide) (Nat.le_of_ble_eq_true rfl) rfl rfl rfl ?_
  have hga : inB (nI a) 7 = true := by rw [inB_nI (by omega) (by omega)]; simp; omega
  have hgb : inB (nI b) 2 = true := by rw [inB_nI (by omega) (by omega)]; simp; omega
  have hgg : (inB (nI a) 7 && inB (nI b) 2) = true := by rw [hga, hgb]; rfl
  refine v_iload_n dX8_takeDown_0 rfl ?_
  refine v_iload_n dX8_takeDown_1 rfl ?_
  refine u_rS2 oX8_isPair dX8_takeDown_2 ml_X8_72 (c_isPair (nI a) (nI b)) (by decide) (Nat.le_of_ble_eq_true rfl) (Nat.le_refl _) (Nat.le_refl _) ?_
  refine v_if_neB (tgt := 10) dX8_takeDown_5 (by decide) (fun b5 => ?_) (fun b5 => ?_)
  ·
    refine v_aload_n dX8_takeDown_10 rfl ?_
    refine v_iload_n dX8_takeDown_11 rfl ?_
    refine v_iload_n dX8_takeDown_12 rfl ?_
    refine u_rV2 oX8_isLabel dX8_takeDown_13 ml_X8_75 (show Rd mX8_isLabel 1 _ w (some (.int (b2i (decide (0 < ln σ (3 * a + b)))))) from c_isLabel hM a b ⟨ha, hb⟩ ((hW.2.2.2.2.2.1 (3 * a + b) (by omega)).1)) hM.1 (by decide) (Nat.le_of_ble_eq_true rfl) (Nat.le_refl _) (Nat.le_refl _) ?_
    refine v_if_neB (tgt := 22) dX8_takeDown_16 (by decide) (fun b16 => ?_) (fun b16 => ?_)
    ·
      refine v_aload_n dX8_takeDown_22 rfl ?_
      refine v_wV0 oX8_records dX8_takeDown_23 ml_X8_63 (c_records hM hns) hM.1 (by decide) (Nat.le_of_ble_eq_true rfl) (Nat.le_refl _) (Nat.le_refl _) (fun r' w1 hq => ?_)
      obtain ⟨rfl, h1, f1⟩ := hq
      obtain ⟨σ1, es⟩ : ∃ s, s = rcS σ ns := ⟨_, rfl⟩
      rw [← es] at h1
      refine v_eqw h1.self ?_
      have hW1 : WS σ1 := by rw [es]; exact hW.rc
      refine v_aload_n dX8_takeDown_26 rfl ?_
      refine v_iload_n dX8_takeDown_27 rfl ?_
      refine v_iload_n dX8_takeDown_28 rfl ?_
      refine u_rV2 oX8_wordsOf dX8_takeDown_29 ml_X8_42 (show Rd mX8_wordsOf 1 _ _ (some (.int (nI (nwl σ1 (3 * a + b))))) from c_wordsOf (h1.st σ1) a b ⟨ha, hb⟩ ((hW1.2.2.2.2.2.1 (3 * a + b) (by omega)).1)) (h1.st _).1 (by decide) (Nat.le_of_ble_eq_true rfl) (Nat.le_refl _) (Nat.le_refl _) ?_
      refine v_istore_n dX8_takeDown_32 (by decide) rfl ?_
      refine v_aload_n dX8_takeDown_33 rfl ?_
      refine v_get 0 dX8_takeDown_34 FTX8 (by decide) rfl fl_X8_7 (h1.st _).1 rfl ?_
      refine v_iload_n dX8_takeDown_37 rfl ?_
      refine v_iload_n dX8_takeDown_38 rfl ?_
      refine u_rS2 oX8_rowOf dX8_takeDown_39 ml_X8_28 (c_rowOf a b) (by decide) (Nat.le_of_ble_eq_true rfl) (Nat.le_refl _) (Nat.le_refl _) ?_
      refine v_iconst (v := nI 0) dX8_takeDown_42 (by decide) ?_
      refine v_iast _ dX8_takeDown_43 (h1.st _).2.1 rfl (by omega) (by decide) ?_
      refine v_eqw (wu_wu _ _ _ _).symm ?_
      refine v_iload_n dX8_takeDown_44 rfl ?_
      refine v_iret dX8_takeDown_45 rfl (Nat.le_refl _) (Nat.le_refl _) ?_
      have e : takeDownR σ ns (nI a) (nI b) = (nI (nwl σ1 (3 * a + b)), rcn ns, upd σ1 (272 + 64 * (3 * a + b)) (nI 0)) := by
        subst es
        unfold takeDownR
        rw [if_pos hgg, nt_nI (by omega), nt_nI (by omega), if_pos (by simpa using b16)]
      rw [e]
      exact ⟨rfl, rfl, h1.st _, f1.wu _ (by omega) (by omega)⟩
    ·
      refine v_bipush (v := -5) dX8_takeDown_19 (by decide) ?_
      refine v_iret dX8_takeDown_21 rfl (Nat.le_refl _) (Nat.le_refl _) ?_
      have e : takeDownR σ ns (nI a) (nI b) = (-5, ns, σ) := by
        unfold takeDownR
        rw [if_pos hgg, nt_nI (by omega), nt_nI (by omega), if_neg (by simpa using b16)]
      rw [e]
      exact ⟨rfl, rfl, hM, frO.rf o w⟩
  ·
    exact absurd hgg (by rw [b5]; decide)
theorem c_takeDown {w : Wd} {o ns tn : Nat} {kp : Int32} {σ tx cm : Nat → Int32} (hM : MW w o ns tn kp σ tx cm) (hns : ns ≤ 4) (hW : WS σ) (x y : Int32) : Wr mX8_takeDown 2 [.ref o, .int x, .int y] w (AnQ w o tn kp tx cm (takeDownR σ ns x y)) := by
  by_cases h : (inB x 7 && inB y 2) = false
  · exact c_takeDown0 hM x y h
  · have h1 : (inB x 7 && inB y 2) = true := by
      cases e : (inB x 7 && inB y 2)
      · exact absurd e h
      · rfl
    have h2 := h1
    simp only [Bool.and_eq_true] at h2
    have hx := inB_ub (by omega) h2.1
    have hy := inB_ub (by omega) h2.2
    rw [hx.1, hy.1]
    exact c_takeDownN hM hns hW (nt x) (nt y) hx.2 hy.2
set_option maxHeartbeats 4000000 in
set_option maxRecDepth 100000 in
theorem c_label0 {w : Wd} {o ns tn : Nat} {kp : Int32} {σ tx cm : Nat → Int32} (hM : MW w o ns tn kp σ tx cm) (x y : Int32) (h : (inB x 7 && inB y 2) = false) : Wr mX8_label 2 [.ref o, .int x, .int y] w (AnQ w o tn kp tx cm (labelR σ ns tx tn x y)) := by
  intro sz
  refine Ev.ofV [some (.ref o), some (.int x), some (.int y), none] (by decide) (Nat.le_of_ble_eq_true rfl) rfl rfl rfl ?_
  refine v_iload_n dX8_label_0 rfl ?_
  refine v_iload_n dX8_label_1 rfl ?_
  refine u_rS2 oX8_isPair dX8_label_2 ml_X8_72 (c_isPair x y) (by decide) (Nat.le_of_ble_eq_true rfl) (Nat.le_refl _) (Nat.le_refl _) ?_
  refine v_if_neB (tgt := 10) dX8_label_5 (by decide) (fun b5 => ?_) (fun b5 => ?_)
  ·
    exact absurd h (by rw [b5]; decide)
  ·
    refine v_iconst (v := -1) dX8_label_8 (by decide) ?_
    refine v_iret dX8_label_9 rfl (Nat.le_refl _) (Nat.le_refl _) ?_
    have e : labelR σ ns tx tn x y = (-1, ns, σ) := by
      unfold labelR
      rw [if_neg (by rw [h]; decide)]
    rw [e]
    exact ⟨rfl, rfl, hM, frO.rf o w⟩
set_option maxHeartbeats 4000000 in
set_option maxRecDepth 100000 in
theorem c_labelN {w : Wd} {o ns tn : Nat} {kp : Int32} {σ tx cm : Nat → Int32} (hM : MW w o ns tn kp σ tx cm) (hns : ns ≤ 4) (hW : WS σ) (ht : tn ≤ 60) (a b : Nat) (ha : a < 8) (hb : b < 3) : Wr mX8_label 2 [.ref o, .int (nI a), .int (nI b)] w (AnQ w o tn kp tx cm (labelR σ ns tx tn (nI a) (nI b))) := by
  intro sz
  refine Ev.ofV [some (.ref o), some (.int (nI a)), some (.int (nI b)), none] (by decide) (Nat.le_of_ble_eq_true rfl) rfl rfl rfl ?_
  have hga : inB (nI a) 7 = true := by rw [inB_nI (by omega) (by omega)]; simp; omega
  have hgb : inB (nI b) 2 = true := by rw [inB_nI (by omega) (by omega)]; simp; omega
  have hgg : (inB (nI a) 7 && inB (nI b) 2) = true := by rw [hga, hgb]; rfl
  refine v_iload_n dX8_label_0 rfl ?_
  refine v_iload_n dX8_label_1 rfl ?_
  refine u_rS2 oX8_isPair dX8_label_2 ml_X8_72 (c_isPair (nI a) (nI b)) (by decide) (Nat.le_of_ble_eq_true rfl) (Nat.le_refl _) (Nat.le_refl _) ?_
  refine v_if_neB (tgt := 10) dX8_label_5 (by decide) (fun b5 => ?_) (fun b5 => ?_)
  ·
    refine v_aload_n dX8_label_10 rfl ?_
    refine u_rV0 oX8_fault dX8_label_11 ml_X8_78 (c_fault hM ht) hM.1 (by decide) (Nat.le_of_ble_eq_true rfl) (Nat.le_refl _) (Nat.le_refl _) ?_
    refine v_if_lt (tgt := 25) dX8_label_14 (by decide) (fun b14 => ?_) (fun b14 => ?_)
    ·
      refine v_aload_n dX8_label_25 rfl ?_
      refine u_rV0 oX8_wordsTold dX8_label_26 ml_X8_82 (c_wordsTold hM ht) hM.1 (by decide) (Nat.le_of_ble_eq_true rfl) (Nat.le_refl _) (Nat.le_refl _) ?_
      refine v_aload_n dX8_label_29 rfl ?_
      refine v_get 0 dX8_label_30 FTX8 (by decide) rfl fl_X8_7 hM.1 rfl ?_
      refine v_bipush (v := nI 12) dX8_label_33 (by decide) ?_
      refine v_aload_n dX8_label_35 rfl ?_
      refine v_get 0 dX8_label_36 FTX8 (by decide) rfl fl_X8_7 hM.1 rfl ?_
      refine v_iload_n dX8_label_39 rfl ?_
      refine v_ialdN _ dX8_label_40 hM.2.1 rfl (by omega) (by decide) (hW.1 a ha).1 ?_
      refine v_iaddN dX8_label_41 ?_
      refine v_ialdN _ dX8_label_42 hM.2.1 rfl (by have := (hW.1 a ha).2; omega) (by decide) (hW.2.2.1 _ (hW.1 a ha).2).1.1 ?_
      refine v_icmp_leN (tgt := 49) dX8_label_43 (by decide) (by have := cnt_le (bl tx) tn; omega) (by have := (hW.2.2.1 _ (hW.1 a ha).2).1.2; omega) (fun b43 => ?_) (fun b43 => ?_)
      ·
        have b43 : 1 + cnt (bl tx) tn ≤ limW σ a := b43
        refine v_iload_n dX8_label_49 rfl ?_
        refine v_iload_n dX8_label_50 rfl ?_
        refine u_rS2 oX8_rowOf dX8_label_51 ml_X8_28 (c_rowOf a b) (by decide) (Nat.le_of_ble_eq_true rfl) (Nat.le_refl _) (Nat.le_refl _) ?_
        refine v_istore_n dX8_label_54 (by decide) rfl ?_
        refine v_aload_n dX8_label_55 rfl ?_
        refine v_iload_n dX8_label_56 rfl ?_
        refine v_iconst (v := nI 4) dX8_label_57 (by decide) ?_
        refine v_iaddN dX8_label_58 ?_
        refine v_aload_n dX8_label_59 rfl ?_
        refine v_get 0 dX8_label_60 FTX8 (by decide) rfl fl_X8_7 hM.1 rfl ?_
        refine v_iload_n dX8_label_63 rfl ?_
        refine v_ialdN _ dX8_label_64 hM.2.1 rfl (by omega) (by decide) ((hW.2.2.2.2.2.1 (3 * a + b) (by omega)).1).1 ?_
        refine u_rV2 oX8_isTold dX8_label_65 ml_X8_85 (c_isTold hM (272 + 64 * (3 * a + b) + 4) (ln σ (3 * a + b)) (by omega) (by have := ((hW.2.2.2.2.2.1 (3 * a + b) (by omega)).1).2; unfold ln; omega) ht) hM.1 (by decide) (Nat.le_of_ble_eq_true rfl) (Nat.le_refl _) (Nat.le_refl _) ?_
        refine v_if_eqB (tgt := 74) dX8_label_68 (by decide) (fun b68 => ?_) (fun b68 => ?_)
        ·
          refine v_aload_n dX8_label_74 rfl ?_
          refine v_wV0 oX8_records dX8_label_75 ml_X8_63 (c_records hM hns) hM.1 (by decide) (Nat.le_of_ble_eq_true rfl) (Nat.le_refl _) (Nat.le_refl _) (fun r' w1 hq => ?_)
          obtain ⟨rfl, h1, f1⟩ := hq
          obtain ⟨σ1, es⟩ : ∃ s, s = rcS σ ns := ⟨_, rfl⟩
          rw [← es] at h1
          refine v_eqw h1.self ?_
          refine v_aload_n dX8_label_78 rfl ?_
          refine v_get 0 dX8_label_79 FTX8 (by decide) rfl fl_X8_7 (h1.st _).1 rfl ?_
          refine v_iload_n dX8_label_82 rfl ?_
          refine v_aload_n dX8_label_83 rfl ?_
          refine v_get 4 dX8_label_84 FTX8 (by decide) rfl fl_X8_56 (h1.st _).1 rfl ?_
          refine v_iast _ dX8_label_87 (h1.st _).2.1 rfl (by omega) (by decide) ?_
          refine v_eqw (wu_wu _ _ _ _).symm ?_
          refine v_aload_n dX8_label_88 rfl ?_
          refine v_get 0 dX8_label_89 FTX8 (by decide) rfl fl_X8_7 (h1.st _).1 rfl ?_
          refine v_iload_n dX8_label_92 rfl ?_
          refine v_iconst (v := nI 1) dX8_label_93 (by decide) ?_
          refine v_iaddN dX8_label_94 ?_
          refine v_iconst (v := -1) dX8_label_95 (by decide) ?_
          refine v_iast _ dX8_label_96 (h1.st _).2.1 rfl (by omega) (by decide) ?_
          refine v_eqw (wu_wu _ _ _ _).symm ?_
          refine v_aload_n dX8_label_97 rfl ?_
          refine v_get 0 dX8_label_98 FTX8 (by decide) rfl fl_X8_7 (h1.st _).1 rfl ?_
          refine v_iload_n dX8_label_101 rfl ?_
          refine v_iconst (v := nI 2) dX8_label_102 (by decide) ?_
          refine v_iaddN dX8_label_103 ?_
          refine v_aload_n dX8_label_104 rfl ?_
          refine v_get 0 dX8_label_105 FTX8 (by decide) rfl fl_X8_7 (h1.st _).1 rfl ?_
          refine v_bipush (v := nI 17) dX8_label_108 (by decide) ?_
          refine v_ialdE _ dX8_label_110 (h1.st _).2.1 rfl (by omega) (by decide) ((up_ne _ _ (by omega)).trans (up_ne _ _ (by omega))) ?_
          refine v_iast _ dX8_label_111 (h1.st _).2.1 rfl (by omega) (by decide) ?_
          refine v_eqw (wu_wu _ _ _ _).symm ?_
          refine v_aload_n dX8_label_112 rfl ?_
          refine v_get 0 dX8_label_113 FTX8 (by decide) rfl fl_X8_7 (h1.st _).1 rfl ?_
          refine v_iload_n dX8_label_116 rfl ?_
          refine v_iconst (v := nI 3) dX8_label_117 (by decide) ?_
          refine v_iaddN dX8_label_118 ?_
          refine v_iconst (v := nI 0) dX8_label_119 (by decide) ?_
          refine v_iast _ dX8_label_120 (h1.st _).2.1 rfl (by omega) (by decide) ?_
          refine v_eqw (wu_wu _ _ _ _).symm ?_
          refine v_aload_n dX8_label_121 rfl ?_
          refine v_iload_n dX8_label_122 rfl ?_
          refine v_iconst (v := nI 4) dX8_label_123 (by decide) ?_
          refine v_iaddN dX8_label_124 ?_
          refine n_wV1 oX8_lays dX8_label_125 ml_X8_88 (c_lays (h1.st _) (272 + 64 * (3 * a + b) + 4) (by omega) ht) (h1.st _).1 (by decide) (Nat.le_of_ble_eq_true rfl) (Nat.le_refl _) (Nat.le_refl _) ?_
          refine v_eqw (wu_wu _ _ _ _).symm ?_
          refine v_aload_n dX8_label_128 rfl ?_
          refine u_rV0 oX8_wordsTold dX8_label_129 ml_X8_82 (c_wordsTold (h1.st _) ht) (h1.st _).1 (by decide) (Nat.le_of_ble_eq_true rfl) (Nat.le_refl _) (Nat.le_refl _) ?_
          refine v_iret dX8_label_132 rfl (Nat.le_refl _) (Nat.le_refl _) ?_
          have e : labelR σ ns tx tn (nI a) (nI b) = (nI (1 + cnt (bl tx) tn), rcn ns, labS σ1 (3 * a + b) tx tn) := by
            subst es
            unfold labelR
            rw [if_pos hgg, nt_nI (by omega), nt_nI (by omega), if_pos b14, if_pos b43, if_neg (by rw [b68]; decide)]
          rw [e]
          exact ⟨rfl, rfl, h1.st _, f1.wu _ (by omega) (by omega)⟩
        ·
          refine v_bipush (v := -5) dX8_label_71 (by decide) ?_
          refine v_iret dX8_label_73 rfl (Nat.le_refl _) (Nat.le_refl _) ?_
          have e : labelR σ ns tx tn (nI a) (nI b) = (-5, ns, σ) := by
            unfold labelR
            rw [if_pos hgg, nt_nI (by omega), nt_nI (by omega), if_pos b14, if_pos b43, if_pos b68]
          rw [e]
          exact ⟨rfl, rfl, hM, frO.rf o w⟩
      ·
        have b43 : ¬ 1 + cnt (bl tx) tn ≤ limW σ a := b43
        refine v_bipush (v := -6) dX8_label_46 (by decide) ?_
        refine v_iret dX8_label_48 rfl (Nat.le_refl _) (Nat.le_refl _) ?_
        have e : labelR σ ns tx tn (nI a) (nI b) = (-6, ns, σ) := by
          unfold labelR
          rw [if_pos hgg, nt_nI (by omega), nt_nI (by omega), if_pos b14, if_neg b43]
        rw [e]
        exact ⟨rfl, rfl, hM, frO.rf o w⟩
    ·
      refine v_bipush (v := -100) dX8_label_17 (by decide) ?_
      refine v_aload_n dX8_label_19 rfl ?_
      refine u_rV0 oX8_fault dX8_label_20 ml_X8_78 (c_fault hM ht) hM.1 (by decide) (Nat.le_of_ble_eq_true rfl) (Nat.le_refl _) (Nat.le_refl _) ?_
      refine v_isub dX8_label_23 ?_
      refine v_iret dX8_label_24 rfl (Nat.le_refl _) (Nat.le_refl _) ?_
      have e : labelR σ ns tx tn (nI a) (nI b) = (-100 - flt tx tn, ns, σ) := by
        unfold labelR
        rw [if_pos hgg, nt_nI (by omega), nt_nI (by omega), if_neg b14]
      rw [e]
      exact ⟨rfl, rfl, hM, frO.rf o w⟩
  ·
    exact absurd hgg (by rw [b5]; decide)
theorem c_label {w : Wd} {o ns tn : Nat} {kp : Int32} {σ tx cm : Nat → Int32} (hM : MW w o ns tn kp σ tx cm) (hns : ns ≤ 4) (hW : WS σ) (ht : tn ≤ 60) (x y : Int32) : Wr mX8_label 2 [.ref o, .int x, .int y] w (AnQ w o tn kp tx cm (labelR σ ns tx tn x y)) := by
  by_cases h : (inB x 7 && inB y 2) = false
  · exact c_label0 hM x y h
  · have h1 : (inB x 7 && inB y 2) = true := by
      cases e : (inB x 7 && inB y 2)
      · exact absurd e h
      · rfl
    have h2 := h1
    simp only [Bool.and_eq_true] at h2
    have hx := inB_ub (by omega) h2.1
    have hy := inB_ub (by omega) h2.2
    rw [hx.1, hy.1]
    exact c_labelN hM hns hW ht (nt x) (nt y) hx.2 hy.2
end
section
def undoR (σ : Nat → Int32) (ns : Nat) : An := if ns = 0 then (-5, ns, σ) else (nI (ns - 1), ns - 1, cpS σ ns 0 2848)
def lbs (σ : Nat → Int32) : Nat := cnt (fun p => decide (0 < ln σ p)) 24
set_option maxHeartbeats 4000000 in
set_option maxRecDepth 100000 in
theorem c_type {w : Wd} {o ns tn : Nat} {kp : Int32} {σ tx cm : Nat → Int32} (hM : MW w o ns tn kp σ tx cm) (ht : tn ≤ 60) (c : Int32) : Wr mX8_type 0 [.ref o, .int c] w (fun r' w' => (tn = 60 ∧ r' = some (.int (-3)) ∧ w' = w) ∨ (tn < 60 ∧ r' = some (.int (nI (tn + 1))) ∧ MW w' o ns (tn + 1) kp σ (upd tx tn (vp_nar .char c)) cm ∧ frO o w w')) := by
  intro sz
  refine Ev.ofV [some (.ref o), some (.int c)] (by decide) (Nat.le_of_ble_eq_true rfl) rfl rfl rfl ?_
  refine v_aload_n dX8_type_0 rfl ?_
  refine v_get 4 dX8_type_1 FTX8 (by decide) rfl fl_X8_56 hM.1 rfl ?_
  refine v_bipush (v := nI 60) dX8_type_4 (by decide) ?_
  refine v_icmp_neN (tgt := 12) dX8_type_6 (by decide) (by omega) (by omega) (fun b6 => ?_) (fun b6 => ?_)
  ·
    refine v_aload_n dX8_type_12 rfl ?_
    refine v_get 3 dX8_type_13 FTX8 (by decide) rfl fl_X8_13 hM.1 rfl ?_
    refine v_aload_n dX8_type_16 rfl ?_
    refine v_get 4 dX8_type_17 FTX8 (by decide) rfl fl_X8_56 hM.1 rfl ?_
    refine v_iload_n dX8_type_20 rfl ?_
    refine v_cast _ dX8_type_21 hM.2.2.1 rfl (by omega) (by decide) ?_
    have h2 := hM.tx (upd tx tn (vp_nar .char c))
    refine v_aload_n dX8_type_22 rfl ?_
    refine v_dup dX8_type_23 rfl ?_
    refine v_get 4 dX8_type_24 FTX8 (by decide) rfl fl_X8_56 h2.1 rfl ?_
    refine v_iconst (v := nI 1) dX8_type_27 (by decide) ?_
    refine v_iaddN dX8_type_28 ?_
    refine v_put 4 dX8_type_29 FTX8 (by decide) rfl fl_X8_56 h2.1 rfl rfl (Nat.le_of_ble_eq_true rfl) rfl ?_
    have h3 := h2.so ns (tn + 1) kp
    refine v_aload_n dX8_type_32 rfl ?_
    refine v_get 4 dX8_type_33 FTX8 (by decide) rfl fl_X8_56 h3.1 rfl ?_
    refine v_iret dX8_type_36 rfl (Nat.le_refl _) (Nat.le_refl _) ?_
    exact ⟨rfl, Or.inr ⟨by omega, rfl, h3, ((frO.rf o w).wu _ (by omega) (by omega)).wu _ (by omega) (by omega)⟩⟩
  ·
    refine v_bipush (v := -3) dX8_type_9 (by decide) ?_
    refine v_iret dX8_type_11 rfl (Nat.le_refl _) (Nat.le_refl _) ?_
    exact ⟨rfl, Or.inl ⟨b6, rfl, rfl⟩⟩
set_option maxHeartbeats 4000000 in
set_option maxRecDepth 100000 in
theorem c_clearText {w : Wd} {o ns tn : Nat} {kp : Int32} {σ tx cm : Nat → Int32} (hM : MW w o ns tn kp σ tx cm) (ht : tn ≤ 60) : Wr mX8_clearText 0 [.ref o] w (fun r' w' => r' = some (.int (nI tn)) ∧ MW w' o ns 0 kp σ tx cm ∧ frO o w w') := by
  intro sz
  refine Ev.ofV [some (.ref o), none] (by decide) (Nat.le_of_ble_eq_true rfl) rfl rfl rfl ?_
  refine v_aload_n dX8_clearText_0 rfl ?_
  refine v_get 4 dX8_clearText_1 FTX8 (by decide) rfl fl_X8_56 hM.1 rfl ?_
  refine v_istore_n dX8_clearText_4 (by decide) rfl ?_
  refine v_aload_n dX8_clearText_5 rfl ?_
  refine v_iconst (v := nI 0) dX8_clearText_6 (by decide) ?_
  refine v_put 4 dX8_clearText_7 FTX8 (by decide) rfl fl_X8_56 hM.1 rfl rfl (Nat.le_of_ble_eq_true rfl) rfl ?_
  have h3 := hM.so ns 0 kp
  refine v_iload_n dX8_clearText_10 rfl ?_
  refine v_iret dX8_clearText_11 rfl (Nat.le_refl _) (Nat.le_refl _) ?_
  exact ⟨rfl, rfl, h3, (frO.rf o w).wu _ (by omega) (by omega)⟩
set_option maxHeartbeats 4000000 in
set_option maxRecDepth 100000 in
theorem c_undo {w : Wd} {o ns tn : Nat} {kp : Int32} {σ tx cm : Nat → Int32} (hM : MW w o ns tn kp σ tx cm) (hns : ns ≤ 4) : Wr mX8_undo 1 [.ref o] w (AnQ w o tn kp tx cm (undoR σ ns)) := by
  intro sz
  refine Ev.ofV [some (.ref o)] (by decide) (Nat.le_of_ble_eq_true rfl) rfl rfl rfl ?_
  refine v_aload_n dX8_undo_0 rfl ?_
  refine v_get 1 dX8_undo_1 FTX8 (by decide) rfl fl_X8_20 hM.1 rfl ?_
  refine v_if_neN (tgt := 10) dX8_undo_4 (by decide) (by omega) (fun b4 => ?_) (fun b4 => ?_)
  ·
    refine v_aload_n dX8_undo_10 rfl ?_
    refine v_aload_n dX8_undo_11 rfl ?_
    refine v_get 1 dX8_undo_12 FTX8 (by decide) rfl fl_X8_20 hM.1 rfl ?_
    refine v_iconst (v := nI 0) dX8_undo_15 (by decide) ?_
    refine n_wV2 oX8_copies dX8_undo_16 ml_X8_24 (c_copies hM ns 0 (by omega) (by omega) (by omega)) hM.1 (by decide) (Nat.le_of_ble_eq_true rfl) (Nat.le_refl _) (Nat.le_refl _) ?_
    have h2 := hM.st (cpS σ ns 0 2848)
    refine v_aload_n dX8_undo_19 rfl ?_
    refine v_dup dX8_undo_20 rfl ?_
    refine v_get 1 dX8_undo_21 FTX8 (by decide) rfl fl_X8_20 h2.1 rfl ?_
    refine v_iconst (v := nI 1) dX8_undo_24 (by decide) ?_
    refine v_isubN dX8_undo_25 (by omega) ?_
    refine v_put 1 dX8_undo_26 FTX8 (by decide) rfl fl_X8_20 h2.1 rfl rfl (Nat.le_of_ble_eq_true rfl) rfl ?_
    have h3 := h2.so (ns - 1) tn kp
    refine v_aload_n dX8_undo_29 rfl ?_
    refine v_get 1 dX8_undo_30 FTX8 (by decide) rfl fl_X8_20 h3.1 rfl ?_
    refine v_iret dX8_undo_33 rfl (Nat.le_refl _) (Nat.le_refl _) ?_
    have e : undoR σ ns = (nI (ns - 1), ns - 1, cpS σ ns 0 2848) := by
      unfold undoR
      rw [if_neg b4]
    rw [e]
    exact ⟨rfl, rfl, h3, ((frO.rf o w).wu _ (by omega) (by omega)).wu _ (by omega) (by omega)⟩
  ·
    refine v_bipush (v := -5) dX8_undo_7 (by decide) ?_
    refine v_iret dX8_undo_9 rfl (Nat.le_refl _) (Nat.le_refl _) ?_
    have e : undoR σ ns = (-5, ns, σ) := by
      unfold undoR
      rw [if_pos b4]
    rw [e]
    exact ⟨rfl, rfl, hM, frO.rf o w⟩
set_option maxHeartbeats 4000000 in
set_option maxRecDepth 100000 in
theorem c_keep {w : Wd} {o ns tn : Nat} {kp : Int32} {σ tx cm : Nat → Int32} (hM : MW w o ns tn kp σ tx cm) (hW : WS σ) : Wr mX8_keep 1 [.ref o] w (fun r' w' => r' = some (.int (nI (lbs (cpS σ 0 5 2848)))) ∧ MW w' o ns tn (nI 1) (cpS σ 0 5 2848) tx cm ∧ frO o w w') := by
  intro sz
  refine Ev.ofV [some (.ref o)] (by decide) (Nat.le_of_ble_eq_true rfl) rfl rfl rfl ?_
  refine v_aload_n dX8_keep_0 rfl ?_
  refine v_iconst (v := nI 0) dX8_keep_1 (by decide) ?_
  refine v_iconst (v := nI 5) dX8_keep_2 (by decide) ?_
  refine n_wV2 oX8_copies dX8_keep_3 ml_X8_24 (c_copies hM 0 5 (by omega) (by omega) (by omega)) hM.1 (by decide) (Nat.le_of_ble_eq_true rfl) (Nat.le_refl _) (Nat.le_refl _) ?_
  have h2 := hM.st (cpS σ 0 5 2848)
  refine v_aload_n dX8_keep_6 rfl ?_
  refine v_iconst (v := nI 1) dX8_keep_7 (by decide) ?_
  refine v_put 2 dX8_keep_8 FTX8 (by decide) rfl fl_X8_107 h2.1 rfl rfl (Nat.le_of_ble_eq_true rfl) rfl ?_
  have h3 := h2.so ns tn (nI 1)
  have hW5 : WS (cpS σ 0 5 2848) := hW.congr (fun q hq => by unfold cpS; rw [if_neg (by omega)])
  refine v_aload_n dX8_keep_11 rfl ?_
  refine u_rV0 oX8_labels dX8_keep_12 ml_X8_111 (show Rd mX8_labels 0 _ _ (some (.int (nI (lbs (cpS σ 0 5 2848))))) from c_labels h3 (fun p hp => (hW5.2.2.2.2.2.1 p hp).1)) h3.1 (by decide) (Nat.le_of_ble_eq_true rfl) (Nat.le_refl _) (Nat.le_refl _) ?_
  refine v_iret dX8_keep_15 rfl (Nat.le_refl _) (Nat.le_refl _) ?_
  exact ⟨rfl, rfl, h3, ((frO.rf o w).wu _ (by omega) (by omega)).wu _ (by omega) (by omega)⟩
def restoreR (σ : Nat → Int32) (ns : Nat) (k : Bool) : An := if k = true then (nI (lbs (cpS (rcS σ ns) 5 0 2848)), rcn ns, cpS (rcS σ ns) 5 0 2848) else (-5, ns, σ)
set_option maxHeartbeats 4000000 in
set_option maxRecDepth 100000 in
theorem c_restore {w : Wd} {o ns tn : Nat} {kp : Int32} {σ tx cm : Nat → Int32} (hM : MW w o ns tn kp σ tx cm) (hns : ns ≤ 4) (k : Bool) (hk : kp = b2i k) (hW5 : k = true → WS (cpS (rcS σ ns) 5 0 2848)) : Wr mX8_restore 2 [.ref o] w (AnQ w o tn kp tx cm (restoreR σ ns k)) := by
  intro sz
  refine Ev.ofV [some (.ref o)] (by decide) (Nat.le_of_ble_eq_true rfl) rfl rfl rfl ?_
  subst hk
  refine v_aload_n dX8_restore_0 rfl ?_
  refine v_get 2 dX8_restore_1 FTX8 (by decide) rfl fl_X8_107 hM.1 rfl ?_
  refine v_if_neB (tgt := 10) dX8_restore_4 (by decide) (fun b4 => ?_) (fun b4 => ?_)
  ·
    refine v_aload_n dX8_restore_10 rfl ?_
    refine v_wV0 oX8_records dX8_restore_11 ml_X8_63 (c_records hM hns) hM.1 (by decide) (Nat.le_of_ble_eq_true rfl) (Nat.le_refl _) (Nat.le_refl _) (fun r' w1 hq => ?_)
    obtain ⟨rfl, h1, f1⟩ := hq
    obtain ⟨σ1, es⟩ : ∃ s, s = rcS σ ns := ⟨_, rfl⟩
    rw [← es] at h1
    refine v_eqw h1.self ?_
    refine v_aload_n dX8_restore_14 rfl ?_
    refine v_iconst (v := nI 5) dX8_restore_15 (by decide) ?_
    refine v_iconst (v := nI 0) dX8_restore_16 (by decide) ?_
    refine n_wV2 oX8_copies dX8_restore_17 ml_X8_24 (c_copies (h1.st _) 5 0 (by omega) (by omega) (by omega)) (h1.st _).1 (by decide) (Nat.le_of_ble_eq_true rfl) (Nat.le_refl _) (Nat.le_refl _) ?_
    refine v_eqw (wu_wu _ _ _ _).symm ?_
    refine v_aload_n dX8_restore_20 rfl ?_
    refine u_rV0 oX8_labels dX8_restore_21 ml_X8_111 (show Rd mX8_labels 0 _ _ (some (.int (nI (lbs (cpS σ1 5 0 2848))))) from c_labels (h1.st _) (fun p hp => ((by rw [es]; exact hW5 b4 : WS (cpS σ1 5 0 2848)).2.2.2.2.2.1 p hp).1)) (h1.st _).1 (by decide) (Nat.le_of_ble_eq_true rfl) (Nat.le_refl _) (Nat.le_refl _) ?_
    refine v_iret dX8_restore_24 rfl (Nat.le_refl _) (Nat.le_refl _) ?_
    have e : restoreR σ ns k = (nI (lbs (cpS (rcS σ ns) 5 0 2848)), rcn ns, cpS (rcS σ ns) 5 0 2848) := by
      unfold restoreR
      rw [if_pos b4]
    rw [e, ← es]
    exact ⟨rfl, rfl, h1.st _, f1.wu _ (by omega) (by omega)⟩
  ·
    refine v_bipush (v := -5) dX8_restore_7 (by decide) ?_
    refine v_iret dX8_restore_9 rfl (Nat.le_refl _) (Nat.le_refl _) ?_
    have e : restoreR σ ns k = (-5, ns, σ) := by
      unfold restoreR
      rw [if_neg (by rw [b4]; decide)]
    rw [e]
    exact ⟨rfl, rfl, hM, frO.rf o w⟩
end
section
theorem inB_out {x : Int32} {b : Nat} (hb : b < 2147483648) (h : inB x b = false) : x.toInt < 0 ∨ (b : Int) < x.toInt := by
  simp only [inB, decide_eq_false_iff_not] at h
  by_cases h1 : nI 0 ≤ x
  · right
    have h2 : ¬ x ≤ nI b := fun z => h ⟨h1, z⟩
    have h3 := mt Int32.le_iff_toInt_le.mpr h2
    rw [nI_toInt (by omega)] at h3
    omega
  · left
    have h3 := mt Int32.le_iff_toInt_le.mpr h1
    rw [nI_toInt (by omega)] at h3
    omega
/-- the last place with p, and the first -/
def lsO (p : Nat → Bool) : Nat → Option Nat
  | 0 => none
  | n + 1 => if p n = true then some n else lsO p n
theorem lst_eq (p : Nat → Bool) : ∀ n, lst p n = oI (lsO p n)
  | 0 => rfl
  | n + 1 => by
    simp only [lst, lsO]
    split
    · rfl
    · exact lst_eq p n
theorem lsO_some {p : Nat → Bool} {k : Nat} : ∀ {n}, lsO p n = some k → k < n ∧ p k = true
  | 0, h => by simp [lsO] at h
  | n + 1, h => by
    by_cases e : p n = true
    · simp only [lsO, if_pos e] at h
      cases h
      exact ⟨by omega, e⟩
    · simp only [lsO, if_neg e] at h
      have := lsO_some h
      exact ⟨by omega, this.2⟩
theorem lsO_none {p : Nat → Bool} : ∀ {n}, lsO p n = none → ∀ k, k < n → p k = false
  | 0, _, k, hk => absurd hk (Nat.not_lt_zero _)
  | n + 1, h, k, hk => by
    by_cases e : p n = true
    · simp only [lsO, if_pos e] at h
      cases h
    · simp only [lsO, if_neg e] at h
      by_cases e1 : k = n
      · rw [e1]
        simpa using e
      · exact lsO_none h k (by omega)
def pairB (x y : Int32) : Bool := inB x 7 && inB y 2
def plB (x y : Int32) : Nat := 3 * nt x + nt y
def labelOfI (σ : Nat → Int32) (x y z : Int32) : Int32 := if (inB x 7 && inB y 2) = true then (if inB z 4 = true then (if ln σ (3 * nt x + nt y) = 0 then -5 else
    match nt z with
    | 0 => nI (nwl σ (3 * nt x + nt y))
    | 1 => σ (272 + 64 * (3 * nt x + nt y))
    | 2 => if σ (272 + 64 * (3 * nt x + nt y) + 1) < 0 then -5 else σ (272 + 64 * (3 * nt x + nt y) + 1)
    | 3 => σ (272 + 64 * (3 * nt x + nt y) + 2)
    | _ => σ (272 + 64 * (3 * nt x + nt y) + 3)) else -2) else -1
def letterI (σ : Nat → Int32) (x y z : Int32) : Int32 := if (inB x 7 && inB y 2) = true then (if z < 0 then -2 else if nt z < ln σ (3 * nt x + nt y) then σ (272 + 64 * (3 * nt x + nt y) + 4 + nt z) else -5) else -1
def roomI (σ : Nat → Int32) (x z : Int32) : Int32 := if inB x 3 = true then (if inB z 6 = true then
    match nt z with
    | 0 => σ (12 + nt x)
    | 1 => nI (cnt (fun a => σ a == x) 8)
    | 2 => σ (8 + nt x)
    | j => nI (lbO σ (nt x) (j - 3) 8) else -2) else -1
def rwV (σ : Nat → Int32) (x : Int32) : Nat := cnt (fun k => decide (0 ≤ σ (1808 + 65 * k)) && (decide (x < 0) || σ (1808 + 65 * k + 2) == x)) 16
def visitorI (σ : Nat → Int32) (x z : Int32) : Int32 := if inB x 9 = true then (if inB z 3 = true then
    match nt z with
    | 0 => nI (rwV σ x)
    | 1 => σ (22 + nt x)
    | 2 => nI (vo σ (nt x))
    | _ => nI (cnt (fun p => decide (0 < ln σ p) && σ (272 + 64 * p + 1) == x) 24) else -2) else -1
def countI (σ : Nat → Int32) (ns tn : Nat) (z : Int32) : Int32 := if inB z 11 = true then
    match nt z with
    | 0 => nI (lbs σ)
    | 1 => nI (rwV σ (-1))
    | 2 => σ 18
    | 3 => nI (smN (vo σ) 10)
    | 4 => σ 17
    | 5 => σ 16
    | 6 => nI (lbO σ 0 1 8 + lbO σ 1 1 8 + lbO σ 2 1 8 + lbO σ 3 1 8)
    | 7 => σ 19
    | 8 => σ 20
    | 9 => σ 21
    | 10 => nI ns
    | _ => nI tn else -2
set_option maxHeartbeats 4000000 in
set_option maxRecDepth 100000 in
theorem c_room0 {w : Wd} {o ns tn : Nat} {kp : Int32} {σ tx cm : Nat → Int32} (hM : MW w o ns tn kp σ tx cm) (hW : WS σ) (a : Nat) (ha : a < 4) : Rd mX8_room 3 [.ref o, .int (nI a), .int (nI 0)] w (some (.int (roomI σ (nI a) (nI 0)))) := by
  intro sz
  refine Ev.ofV [some (.ref o), some (.int (nI a)), some (.int (nI 0))] (by decide) (Nat.le_of_ble_eq_true rfl) rfl rfl rfl ?_
  have hga : inB (nI a) 3 = true := by rw [inB_nI (by omega) (by omega)]; simp; omega
  refine v_iload_n dX8_room_0 rfl ?_
  refine v_iconst (v := nI 0) dX8_room_1 (by decide) ?_
  refine v_iconst (v := nI 3) dX8_room_2 (by decide) ?_
  refine u_rS3 oX8_in dX8_room_3 ml_X8_59 (c_inB (nI a) 3) (by decide) (Nat.le_of_ble_eq_true rfl) (Nat.le_refl _) (Nat.le_refl _) ?_
  refine v_if_neB (tgt := 11) dX8_room_6 (by decide) (fun b6 => ?_) (fun b6 => ?_)
  ·
    refine v_iload_n dX8_room_11 rfl ?_
    refine v_tableIn (tgt := 56) (off := 44) dX8_room_12 (by decide) (by decide) (by decide) (by decide) ?_
    refine v_aload_n dX8_room_56 rfl ?_
    refine v_get 0 dX8_room_57 FTX8 (by decide) rfl fl_X8_7 hM.1 rfl ?_
    refine v_bipush (v := nI 12) dX8_room_60 (by decide) ?_
    refine v_iload_n dX8_room_62 rfl ?_
    refine v_iaddN dX8_room_63 ?_
    refine v_iald _ dX8_room_64 hM.2.1 rfl (by omega) (by decide) ?_
    refine v_iret dX8_room_65 rfl (Nat.le_refl _) (Nat.le_refl _) ?_
    exact ⟨by unfold roomI; rw [if_pos hga, if_pos (by decide), nt_nI (by omega), nt_nI (by omega)]; rfl, rfl, rfl⟩
  ·
    exact absurd hga (by rw [b6]; decide)
set_option maxHeartbeats 4000000 in
set_option maxRecDepth 100000 in
theorem c_room1 {w : Wd} {o ns tn : Nat} {kp : Int32} {σ tx cm : Nat → Int32} (hM : MW w o ns tn kp σ tx cm) (hW : WS σ) (a : Nat) (ha : a < 4) : Rd mX8_room 3 [.ref o, .int (nI a), .int (nI 1)] w (some (.int (roomI σ (nI a) (nI 1)))) := by
  intro sz
  refine Ev.ofV [some (.ref o), some (.int (nI a)), some (.int (nI 1))] (by decide) (Nat.le_of_ble_eq_true rfl) rfl rfl rfl ?_
  have hga : inB (nI a) 3 = true := by rw [inB_nI (by omega) (by omega)]; simp; omega
  refine v_iload_n dX8_room_0 rfl ?_
  refine v_iconst (v := nI 0) dX8_room_1 (by decide) ?_
  refine v_iconst (v := nI 3) dX8_room_2 (by decide) ?_
  refine u_rS3 oX8_in dX8_room_3 ml_X8_59 (c_inB (nI a) 3) (by decide) (Nat.le_of_ble_eq_true rfl) (Nat.le_refl _) (Nat.le_refl _) ?_
  refine v_if_neB (tgt := 11) dX8_room_6 (by decide) (fun b6 => ?_) (fun b6 => ?_)
  ·
    refine v_iload_n dX8_room_11 rfl ?_
    refine v_tableIn (tgt := 66) (off := 54) dX8_room_12 (by decide) (by decide) (by decide) (by decide) ?_
    refine v_aload_n dX8_room_66 rfl ?_
    refine v_iload_n dX8_room_67 rfl ?_
    refine u_rV1 oX8_worksOf dX8_room_68 ml_X8_122 (c_worksOf hM (nI a)) hM.1 (by decide) (Nat.le_of_ble_eq_true rfl) (Nat.le_refl _) (Nat.le_refl _) ?_
    refine v_iret dX8_room_71 rfl (Nat.le_refl _) (Nat.le_refl _) ?_
    exact ⟨by unfold roomI; rw [if_pos hga, if_pos (by decide), nt_nI (by omega), nt_nI (by omega)]; rfl, rfl, rfl⟩
  ·
    exact absurd hga (by rw [b6]; decide)
set_option maxHeartbeats 4000000 in
set_option maxRecDepth 100000 in
theorem c_room2 {w : Wd} {o ns tn : Nat} {kp : Int32} {σ tx cm : Nat → Int32} (hM : MW w o ns tn kp σ tx cm) (hW : WS σ) (a : Nat) (ha : a < 4) : Rd mX8_room 3 [.ref o, .int (nI a), .int (nI 2)] w (some (.int (roomI σ (nI a) (nI 2)))) := by
  intro sz
  refine Ev.ofV [some (.ref o), some (.int (nI a)), some (.int (nI 2))] (by decide) (Nat.le_of_ble_eq_true rfl) rfl rfl rfl ?_
  have hga : inB (nI a) 3 = true := by rw [inB_nI (by omega) (by omega)]; simp; omega
  refine v_iload_n dX8_room_0 rfl ?_
  refine v_iconst (v := nI 0) dX8_room_1 (by decide) ?_
  refine v_iconst (v := nI 3) dX8_room_2 (by decide) ?_
  refine u_rS3 oX8_in dX8_room_3 ml_X8_59 (c_inB (nI a) 3) (by decide) (Nat.le_of_ble_eq_true rfl) (Nat.le_refl _) (Nat.le_refl _) ?_
  refine v_if_neB (tgt := 11) dX8_room_6 (by decide) (fun b6 => ?_) (fun b6 => ?_)
  ·
    refine v_iload_n dX8_room_11 rfl ?_
    refine v_tableIn (tgt := 72) (off := 60) dX8_room_12 (by decide) (by decide) (by decide) (by decide) ?_
    refine v_aload_n dX8_room_72 rfl ?_
    refine v_get 0 dX8_room_73 FTX8 (by decide) rfl fl_X8_7 hM.1 rfl ?_
    refine v_bipush (v := nI 8) dX8_room_76 (by decide) ?_
    refine v_iload_n dX8_room_78 rfl ?_
    refine v_iaddN dX8_room_79 ?_
    refine v_iald _ dX8_room_80 hM.2.1 rfl (by omega) (by decide) ?_
    refine v_iret dX8_room_81 rfl (Nat.le_refl _) (Nat.le_refl _) ?_
    exact ⟨by unfold roomI; rw [if_pos hga, if_pos (by decide), nt_nI (by omega), nt_nI (by omega)]; rfl, rfl, rfl⟩
  ·
    exact absurd hga (by rw [b6]; decide)
set_option maxHeartbeats 4000000 in
set_option maxRecDepth 100000 in
theorem c_room3 {w : Wd} {o ns tn : Nat} {kp : Int32} {σ tx cm : Nat → Int32} (hM : MW w o ns tn kp σ tx cm) (hW : WS σ) (a : Nat) (ha : a < 4) : Rd mX8_room 3 [.ref o, .int (nI a), .int (nI 3)] w (some (.int (roomI σ (nI a) (nI 3)))) := by
  intro sz
  refine Ev.ofV [some (.ref o), some (.int (nI a)), some (.int (nI 3))] (by decide) (Nat.le_of_ble_eq_true rfl) rfl rfl rfl ?_
  have hga : inB (nI a) 3 = true := by rw [inB_nI (by omega) (by omega)]; simp; omega
  refine v_iload_n dX8_room_0 rfl ?_
  refine v_iconst (v := nI 0) dX8_room_1 (by decide) ?_
  refine v_iconst (v := nI 3) dX8_room_2 (by decide) ?_
  refine u_rS3 oX8_in dX8_room_3 ml_X8_59 (c_inB (nI a) 3) (by decide) (Nat.le_of_ble_eq_true rfl) (Nat.le_refl _) (Nat.le_refl _) ?_
  refine v_if_neB (tgt := 11) dX8_room_6 (by decide) (fun b6 => ?_) (fun b6 => ?_)
  ·
    refine v_iload_n dX8_room_11 rfl ?_
    refine v_tableIn (tgt := 82) (off := 70) dX8_room_12 (by decide) (by decide) (by decide) (by decide) ?_
    refine v_aload_n dX8_room_82 rfl ?_
    refine v_iload_n dX8_room_83 rfl ?_
    refine v_iload_n dX8_room_84 rfl ?_
    refine v_iconst (v := nI 3) dX8_room_85 (by decide) ?_
    refine v_isubN dX8_room_86 (by omega) ?_
    refine u_rV2 oX8_labelsOf dX8_room_87 ml_X8_125 (c_labelsOf hM (fun p hp => (hW.2.2.2.2.2.1 p hp).1) a (3 - 3) ha (by omega)) hM.1 (by decide) (Nat.le_of_ble_eq_true rfl) (Nat.le_refl _) (Nat.le_refl _) ?_
    refine v_iret dX8_room_90 rfl (Nat.le_refl _) (Nat.le_refl _) ?_
    exact ⟨by unfold roomI; rw [if_pos hga, if_pos (by decide), nt_nI (by omega), nt_nI (by omega)]; rfl, rfl, rfl⟩
  ·
    exact absurd hga (by rw [b6]; decide)
set_option maxHeartbeats 4000000 in
set_option maxRecDepth 100000 in
theorem c_room4 {w : Wd} {o ns tn : Nat} {kp : Int32} {σ tx cm : Nat → Int32} (hM : MW w o ns tn kp σ tx cm) (hW : WS σ) (a : Nat) (ha : a < 4) : Rd mX8_room 3 [.ref o, .int (nI a), .int (nI 4)] w (some (.int (roomI σ (nI a) (nI 4)))) := by
  intro sz
  refine Ev.ofV [some (.ref o), some (.int (nI a)), some (.int (nI 4))] (by decide) (Nat.le_of_ble_eq_true rfl) rfl rfl rfl ?_
  have hga : inB (nI a) 3 = true := by rw [inB_nI (by omega) (by omega)]; simp; omega
  refine v_iload_n dX8_room_0 rfl ?_
  refine v_iconst (v := nI 0) dX8_room_1 (by decide) ?_
  refine v_iconst (v := nI 3) dX8_room_2 (by decide) ?_
  refine u_rS3 oX8_in dX8_room_3 ml_X8_59 (c_inB (nI a) 3) (by decide) (Nat.le_of_ble_eq_true rfl) (Nat.le_refl _) (Nat.le_refl _) ?_
  refine v_if_neB (tgt := 11) dX8_room_6 (by decide) (fun b6 => ?_) (fun b6 => ?_)
  ·
    refine v_iload_n dX8_room_11 rfl ?_
    refine v_tableIn (tgt := 82) (off := 70) dX8_room_12 (by decide) (by decide) (by decide) (by decide) ?_
    refine v_aload_n dX8_room_82 rfl ?_
    refine v_iload_n dX8_room_83 rfl ?_
    refine v_iload_n dX8_room_84 rfl ?_
    refine v_iconst (v := nI 3) dX8_room_85 (by decide) ?_
    refine v_isubN dX8_room_86 (by omega) ?_
    refine u_rV2 oX8_labelsOf dX8_room_87 ml_X8_125 (c_labelsOf hM (fun p hp => (hW.2.2.2.2.2.1 p hp).1) a (4 - 3) ha (by omega)) hM.1 (by decide) (Nat.le_of_ble_eq_true rfl) (Nat.le_refl _) (Nat.le_refl _) ?_
    refine v_iret dX8_room_90 rfl (Nat.le_refl _) (Nat.le_refl _) ?_
    exact ⟨by unfold roomI; rw [if_pos hga, if_pos (by decide), nt_nI (by omega), nt_nI (by omega)]; rfl, rfl, rfl⟩
  ·
    exact absurd hga (by rw [b6]; decide)
set_option maxHeartbeats 4000000 in
set_option maxRecDepth 100000 in
theorem c_room5 {w : Wd} {o ns tn : Nat} {kp : Int32} {σ tx cm : Nat → Int32} (hM : MW w o ns tn kp σ tx cm) (hW : WS σ) (a : Nat) (ha : a < 4) : Rd mX8_room 3 [.ref o, .int (nI a), .int (nI 5)] w (some (.int (roomI σ (nI a) (nI 5)))) := by
  intro sz
  refine Ev.ofV [some (.ref o), some (.int (nI a)), some (.int (nI 5))] (by decide) (Nat.le_of_ble_eq_true rfl) rfl rfl rfl ?_
  have hga : inB (nI a) 3 = true := by rw [inB_nI (by omega) (by omega)]; simp; omega
  refine v_iload_n dX8_room_0 rfl ?_
  refine v_iconst (v := nI 0) dX8_room_1 (by decide) ?_
  refine v_iconst (v := nI 3) dX8_room_2 (by decide) ?_
  refine u_rS3 oX8_in dX8_room_3 ml_X8_59 (c_inB (nI a) 3) (by decide) (Nat.le_of_ble_eq_true rfl) (Nat.le_refl _) (Nat.le_refl _) ?_
  refine v_if_neB (tgt := 11) dX8_room_6 (by decide) (fun b6 => ?_) (fun b6 => ?_)
  ·
    refine v_iload_n dX8_room_11 rfl ?_
    refine v_tableIn (tgt := 82) (off := 70) dX8_room_12 (by decide) (by decide) (by decide) (by decide) ?_
    refine v_aload_n dX8_room_82 rfl ?_
    refine v_iload_n dX8_room_83 rfl ?_
    refine v_iload_n dX8_room_84 rfl ?_
    refine v_iconst (v := nI 3) dX8_room_85 (by decide) ?_
    refine v_isubN dX8_room_86 (by omega) ?_
    refine u_rV2 oX8_labelsOf dX8_room_87 ml_X8_125 (c_labelsOf hM (fun p hp => (hW.2.2.2.2.2.1 p hp).1) a (5 - 3) ha (by omega)) hM.1 (by decide) (Nat.le_of_ble_eq_true rfl) (Nat.le_refl _) (Nat.le_refl _) ?_
    refine v_iret dX8_room_90 rfl (Nat.le_refl _) (Nat.le_refl _) ?_
    exact ⟨by unfold roomI; rw [if_pos hga, if_pos (by decide), nt_nI (by omega), nt_nI (by omega)]; rfl, rfl, rfl⟩
  ·
    exact absurd hga (by rw [b6]; decide)
set_option maxHeartbeats 4000000 in
set_option maxRecDepth 100000 in
theorem c_room6 {w : Wd} {o ns tn : Nat} {kp : Int32} {σ tx cm : Nat → Int32} (hM : MW w o ns tn kp σ tx cm) (hW : WS σ) (a : Nat) (ha : a < 4) : Rd mX8_room 3 [.ref o, .int (nI a), .int (nI 6)] w (some (.int (roomI σ (nI a) (nI 6)))) := by
  intro sz
  refine Ev.ofV [some (.ref o), some (.int (nI a)), some (.int (nI 6))] (by decide) (Nat.le_of_ble_eq_true rfl) rfl rfl rfl ?_
  have hga : inB (nI a) 3 = true := by rw [inB_nI (by omega) (by omega)]; simp; omega
  refine v_iload_n dX8_room_0 rfl ?_
  refine v_iconst (v := nI 0) dX8_room_1 (by decide) ?_
  refine v_iconst (v := nI 3) dX8_room_2 (by decide) ?_
  refine u_rS3 oX8_in dX8_room_3 ml_X8_59 (c_inB (nI a) 3) (by decide) (Nat.le_of_ble_eq_true rfl) (Nat.le_refl _) (Nat.le_refl _) ?_
  refine v_if_neB (tgt := 11) dX8_room_6 (by decide) (fun b6 => ?_) (fun b6 => ?_)
  ·
    refine v_iload_n dX8_room_11 rfl ?_
    refine v_tableIn (tgt := 82) (off := 70) dX8_room_12 (by decide) (by decide) (by decide) (by decide) ?_
    refine v_aload_n dX8_room_82 rfl ?_
    refine v_iload_n dX8_room_83 rfl ?_
    refine v_iload_n dX8_room_84 rfl ?_
    refine v_iconst (v := nI 3) dX8_room_85 (by decide) ?_
    refine v_isubN dX8_room_86 (by omega) ?_
    refine u_rV2 oX8_labelsOf dX8_room_87 ml_X8_125 (c_labelsOf hM (fun p hp => (hW.2.2.2.2.2.1 p hp).1) a (6 - 3) ha (by omega)) hM.1 (by decide) (Nat.le_of_ble_eq_true rfl) (Nat.le_refl _) (Nat.le_refl _) ?_
    refine v_iret dX8_room_90 rfl (Nat.le_refl _) (Nat.le_refl _) ?_
    exact ⟨by unfold roomI; rw [if_pos hga, if_pos (by decide), nt_nI (by omega), nt_nI (by omega)]; rfl, rfl, rfl⟩
  ·
    exact absurd hga (by rw [b6]; decide)
set_option maxHeartbeats 4000000 in
set_option maxRecDepth 100000 in
theorem c_room_out {w : Wd} {o ns tn : Nat} {kp : Int32} {σ tx cm : Nat → Int32} (hM : MW w o ns tn kp σ tx cm) (a : Nat) (ha : a < 4) (z : Int32) (hz : inB z 6 = false) : Rd mX8_room 3 [.ref o, .int (nI a), .int z] w (some (.int (roomI σ (nI a) z))) := by
  intro sz
  refine Ev.ofV [some (.ref o), some (.int (nI a)), some (.int z)] (by decide) (Nat.le_of_ble_eq_true rfl) rfl rfl rfl ?_
  have hga : inB (nI a) 3 = true := by rw [inB_nI (by omega) (by omega)]; simp; omega
  refine v_iload_n dX8_room_0 rfl ?_
  refine v_iconst (v := nI 0) dX8_room_1 (by decide) ?_
  refine v_iconst (v := nI 3) dX8_room_2 (by decide) ?_
  refine u_rS3 oX8_in dX8_room_3 ml_X8_59 (c_inB (nI a) 3) (by decide) (Nat.le_of_ble_eq_true rfl) (Nat.le_refl _) (Nat.le_refl _) ?_
  refine v_if_neB (tgt := 11) dX8_room_6 (by decide) (fun b6 => ?_) (fun b6 => ?_)
  ·
    refine v_iload_n dX8_room_11 rfl ?_
    refine v_tableOut (tgt := 91) dX8_room_12 (inB_out (b := 6) (by omega) hz) (by decide) ?_
    refine v_bipush (v := -2) dX8_room_91 (by decide) ?_
    refine v_iret dX8_room_93 rfl (Nat.le_refl _) (Nat.le_refl _) ?_
    exact ⟨by unfold roomI; rw [if_pos hga, if_neg (by rw [hz]; decide)], rfl, rfl⟩
  ·
    exact absurd hga (by rw [b6]; decide)
set_option maxHeartbeats 4000000 in
set_option maxRecDepth 100000 in
theorem c_room_no {w : Wd} {o ns tn : Nat} {kp : Int32} {σ tx cm : Nat → Int32} (hM : MW w o ns tn kp σ tx cm) (x z : Int32) (h : inB x 3 = false) : Rd mX8_room 3 [.ref o, .int x, .int z] w (some (.int (roomI σ x z))) := by
  intro sz
  refine Ev.ofV [some (.ref o), some (.int x), some (.int z)] (by decide) (Nat.le_of_ble_eq_true rfl) rfl rfl rfl ?_
  refine v_iload_n dX8_room_0 rfl ?_
  refine v_iconst (v := nI 0) dX8_room_1 (by decide) ?_
  refine v_iconst (v := nI 3) dX8_room_2 (by decide) ?_
  refine u_rS3 oX8_in dX8_room_3 ml_X8_59 (c_inB x 3) (by decide) (Nat.le_of_ble_eq_true rfl) (Nat.le_refl _) (Nat.le_refl _) ?_
  refine v_if_neB (tgt := 11) dX8_room_6 (by decide) (fun b6 => ?_) (fun b6 => ?_)
  ·
    exact absurd b6 (by rw [h]; decide)
  ·
    refine v_iconst (v := -1) dX8_room_9 (by decide) ?_
    refine v_iret dX8_room_10 rfl (Nat.le_refl _) (Nat.le_refl _) ?_
    exact ⟨by unfold roomI; rw [if_neg (by rw [h]; decide)], rfl, rfl⟩
theorem bfalse {b : Bool} (h : ¬ b = false) : b = true := by cases b <;> simp at *
theorem c_room {w : Wd} {o ns tn : Nat} {kp : Int32} {σ tx cm : Nat → Int32} (hM : MW w o ns tn kp σ tx cm) (hW : WS σ) (x z : Int32) : Rd mX8_room 3 [.ref o, .int x, .int z] w (some (.int (roomI σ x z))) := by
  by_cases h : inB x 3 = false
  · exact c_room_no hM x z h
  · have hx := inB_ub (by omega) (bfalse h)
    rw [hx.1]
    by_cases h2 : inB z 6 = false
    · exact c_room_out hM (nt x) hx.2 z h2
    · have hz := inB_ub (by omega) (bfalse h2)
      have hz2 := hz.2
      rw [hz.1]
      generalize nt z = c at hz2 ⊢
      match c, hz2 with
      | 0, _ => exact c_room0 hM hW (nt x) hx.2
      | 1, _ => exact c_room1 hM hW (nt x) hx.2
      | 2, _ => exact c_room2 hM hW (nt x) hx.2
      | 3, _ => exact c_room3 hM hW (nt x) hx.2
      | 4, _ => exact c_room4 hM hW (nt x) hx.2
      | 5, _ => exact c_room5 hM hW (nt x) hx.2
      | 6, _ => exact c_room6 hM hW (nt x) hx.2
set_option maxHeartbeats 4000000 in
set_option maxRecDepth 100000 in
theorem c_visitor0 {w : Wd} {o ns tn : Nat} {kp : Int32} {σ tx cm : Nat → Int32} (hM : MW w o ns tn kp σ tx cm) (hW : WS σ) (a : Nat) (ha : a < 10) : Rd mX8_visitor 2 [.ref o, .int (nI a), .int (nI 0)] w (some (.int (visitorI σ (nI a) (nI 0)))) := by
  intro sz
  refine Ev.ofV [some (.ref o), some (.int (nI a)), some (.int (nI 0))] (by decide) (Nat.le_of_ble_eq_true rfl) rfl rfl rfl ?_
  have hga : inB (nI a) 9 = true := by rw [inB_nI (by omega) (by omega)]; simp; omega
  refine v_iload_n dX8_visitor_0 rfl ?_
  refine v_iconst (v := nI 0) dX8_visitor_1 (by decide) ?_
  refine v_bipush (v := nI 9) dX8_visitor_2 (by decide) ?_
  refine u_rS3 oX8_in dX8_visitor_4 ml_X8_59 (c_inB (nI a) 9) (by decide) (Nat.le_of_ble_eq_true rfl) (Nat.le_refl _) (Nat.le_refl _) ?_
  refine v_if_neB (tgt := 12) dX8_visitor_7 (by decide) (fun b7 => ?_) (fun b7 => ?_)
  ·
    refine v_iload_n dX8_visitor_12 rfl ?_
    refine v_tableIn (tgt := 44) (off := 31) dX8_visitor_13 (by decide) (by decide) (by decide) (by decide) ?_
    refine v_aload_n dX8_visitor_44 rfl ?_
    refine v_iload_n dX8_visitor_45 rfl ?_
    refine u_rV1 oX8_rewritesOf dX8_visitor_46 ml_X8_128 (show Rd mX8_rewritesOf 1 _ w (some (.int (nI (rwV σ (nI a))))) from c_rewritesOf hM (nI a)) hM.1 (by decide) (Nat.le_of_ble_eq_true rfl) (Nat.le_refl _) (Nat.le_refl _) ?_
    refine v_iret dX8_visitor_49 rfl (Nat.le_refl _) (Nat.le_refl _) ?_
    exact ⟨by unfold visitorI; rw [if_pos hga, if_pos (by decide), nt_nI (by omega), nt_nI (by omega)]; rfl, rfl, rfl⟩
  ·
    exact absurd hga (by rw [b7]; decide)
set_option maxHeartbeats 4000000 in
set_option maxRecDepth 100000 in
theorem c_visitor1 {w : Wd} {o ns tn : Nat} {kp : Int32} {σ tx cm : Nat → Int32} (hM : MW w o ns tn kp σ tx cm) (hW : WS σ) (a : Nat) (ha : a < 10) : Rd mX8_visitor 2 [.ref o, .int (nI a), .int (nI 1)] w (some (.int (visitorI σ (nI a) (nI 1)))) := by
  intro sz
  refine Ev.ofV [some (.ref o), some (.int (nI a)), some (.int (nI 1))] (by decide) (Nat.le_of_ble_eq_true rfl) rfl rfl rfl ?_
  have hga : inB (nI a) 9 = true := by rw [inB_nI (by omega) (by omega)]; simp; omega
  refine v_iload_n dX8_visitor_0 rfl ?_
  refine v_iconst (v := nI 0) dX8_visitor_1 (by decide) ?_
  refine v_bipush (v := nI 9) dX8_visitor_2 (by decide) ?_
  refine u_rS3 oX8_in dX8_visitor_4 ml_X8_59 (c_inB (nI a) 9) (by decide) (Nat.le_of_ble_eq_true rfl) (Nat.le_refl _) (Nat.le_refl _) ?_
  refine v_if_neB (tgt := 12) dX8_visitor_7 (by decide) (fun b7 => ?_) (fun b7 => ?_)
  ·
    refine v_iload_n dX8_visitor_12 rfl ?_
    refine v_tableIn (tgt := 50) (off := 37) dX8_visitor_13 (by decide) (by decide) (by decide) (by decide) ?_
    refine v_aload_n dX8_visitor_50 rfl ?_
    refine v_get 0 dX8_visitor_51 FTX8 (by decide) rfl fl_X8_7 hM.1 rfl ?_
    refine v_bipush (v := nI 22) dX8_visitor_54 (by decide) ?_
    refine v_iload_n dX8_visitor_56 rfl ?_
    refine v_iaddN dX8_visitor_57 ?_
    refine v_iald _ dX8_visitor_58 hM.2.1 rfl (by omega) (by decide) ?_
    refine v_iret dX8_visitor_59 rfl (Nat.le_refl _) (Nat.le_refl _) ?_
    exact ⟨by unfold visitorI; rw [if_pos hga, if_pos (by decide), nt_nI (by omega), nt_nI (by omega)]; rfl, rfl, rfl⟩
  ·
    exact absurd hga (by rw [b7]; decide)
set_option maxHeartbeats 4000000 in
set_option maxRecDepth 100000 in
theorem c_visitor2 {w : Wd} {o ns tn : Nat} {kp : Int32} {σ tx cm : Nat → Int32} (hM : MW w o ns tn kp σ tx cm) (hW : WS σ) (a : Nat) (ha : a < 10) : Rd mX8_visitor 2 [.ref o, .int (nI a), .int (nI 2)] w (some (.int (visitorI σ (nI a) (nI 2)))) := by
  intro sz
  refine Ev.ofV [some (.ref o), some (.int (nI a)), some (.int (nI 2))] (by decide) (Nat.le_of_ble_eq_true rfl) rfl rfl rfl ?_
  have hga : inB (nI a) 9 = true := by rw [inB_nI (by omega) (by omega)]; simp; omega
  refine v_iload_n dX8_visitor_0 rfl ?_
  refine v_iconst (v := nI 0) dX8_visitor_1 (by decide) ?_
  refine v_bipush (v := nI 9) dX8_visitor_2 (by decide) ?_
  refine u_rS3 oX8_in dX8_visitor_4 ml_X8_59 (c_inB (nI a) 9) (by decide) (Nat.le_of_ble_eq_true rfl) (Nat.le_refl _) (Nat.le_refl _) ?_
  refine v_if_neB (tgt := 12) dX8_visitor_7 (by decide) (fun b7 => ?_) (fun b7 => ?_)
  ·
    refine v_iload_n dX8_visitor_12 rfl ?_
    refine v_tableIn (tgt := 60) (off := 47) dX8_visitor_13 (by decide) (by decide) (by decide) (by decide) ?_
    refine v_aload_n dX8_visitor_60 rfl ?_
    refine v_iload_n dX8_visitor_61 rfl ?_
    refine u_rV1 oX8_votesOf dX8_visitor_62 ml_X8_131 (c_votesOf hM a ha) hM.1 (by decide) (Nat.le_of_ble_eq_true rfl) (Nat.le_refl _) (Nat.le_refl _) ?_
    refine v_iret dX8_visitor_65 rfl (Nat.le_refl _) (Nat.le_refl _) ?_
    exact ⟨by unfold visitorI; rw [if_pos hga, if_pos (by decide), nt_nI (by omega), nt_nI (by omega)]; rfl, rfl, rfl⟩
  ·
    exact absurd hga (by rw [b7]; decide)
set_option maxHeartbeats 4000000 in
set_option maxRecDepth 100000 in
theorem c_visitor3 {w : Wd} {o ns tn : Nat} {kp : Int32} {σ tx cm : Nat → Int32} (hM : MW w o ns tn kp σ tx cm) (hW : WS σ) (a : Nat) (ha : a < 10) : Rd mX8_visitor 2 [.ref o, .int (nI a), .int (nI 3)] w (some (.int (visitorI σ (nI a) (nI 3)))) := by
  intro sz
  refine Ev.ofV [some (.ref o), some (.int (nI a)), some (.int (nI 3))] (by decide) (Nat.le_of_ble_eq_true rfl) rfl rfl rfl ?_
  have hga : inB (nI a) 9 = true := by rw [inB_nI (by omega) (by omega)]; simp; omega
  refine v_iload_n dX8_visitor_0 rfl ?_
  refine v_iconst (v := nI 0) dX8_visitor_1 (by decide) ?_
  refine v_bipush (v := nI 9) dX8_visitor_2 (by decide) ?_
  refine u_rS3 oX8_in dX8_visitor_4 ml_X8_59 (c_inB (nI a) 9) (by decide) (Nat.le_of_ble_eq_true rfl) (Nat.le_refl _) (Nat.le_refl _) ?_
  refine v_if_neB (tgt := 12) dX8_visitor_7 (by decide) (fun b7 => ?_) (fun b7 => ?_)
  ·
    refine v_iload_n dX8_visitor_12 rfl ?_
    refine v_tableIn (tgt := 66) (off := 53) dX8_visitor_13 (by decide) (by decide) (by decide) (by decide) ?_
    refine v_aload_n dX8_visitor_66 rfl ?_
    refine v_iload_n dX8_visitor_67 rfl ?_
    refine u_rV1 oX8_standing dX8_visitor_68 ml_X8_134 (c_standing hM (fun p hp => (hW.2.2.2.2.2.1 p hp).1) (nI a)) hM.1 (by decide) (Nat.le_of_ble_eq_true rfl) (Nat.le_refl _) (Nat.le_refl _) ?_
    refine v_iret dX8_visitor_71 rfl (Nat.le_refl _) (Nat.le_refl _) ?_
    exact ⟨by unfold visitorI; rw [if_pos hga, if_pos (by decide), nt_nI (by omega), nt_nI (by omega)]; rfl, rfl, rfl⟩
  ·
    exact absurd hga (by rw [b7]; decide)
set_option maxHeartbeats 4000000 in
set_option maxRecDepth 100000 in
theorem c_visitor_out {w : Wd} {o ns tn : Nat} {kp : Int32} {σ tx cm : Nat → Int32} (hM : MW w o ns tn kp σ tx cm) (a : Nat) (ha : a < 10) (z : Int32) (hz : inB z 3 = false) : Rd mX8_visitor 2 [.ref o, .int (nI a), .int z] w (some (.int (visitorI σ (nI a) z))) := by
  intro sz
  refine Ev.ofV [some (.ref o), some (.int (nI a)), some (.int z)] (by decide) (Nat.le_of_ble_eq_true rfl) rfl rfl rfl ?_
  have hga : inB (nI a) 9 = true := by rw [inB_nI (by omega) (by omega)]; simp; omega
  refine v_iload_n dX8_visitor_0 rfl ?_
  refine v_iconst (v := nI 0) dX8_visitor_1 (by decide) ?_
  refine v_bipush (v := nI 9) dX8_visitor_2 (by decide) ?_
  refine u_rS3 oX8_in dX8_visitor_4 ml_X8_59 (c_inB (nI a) 9) (by decide) (Nat.le_of_ble_eq_true rfl) (Nat.le_refl _) (Nat.le_refl _) ?_
  refine v_if_neB (tgt := 12) dX8_visitor_7 (by decide) (fun b7 => ?_) (fun b7 => ?_)
  ·
    refine v_iload_n dX8_visitor_12 rfl ?_
    refine v_tableOut (tgt := 72) dX8_visitor_13 (inB_out (b := 3) (by omega) hz) (by decide) ?_
    refine v_bipush (v := -2) dX8_visitor_72 (by decide) ?_
    refine v_iret dX8_visitor_74 rfl (Nat.le_refl _) (Nat.le_refl _) ?_
    exact ⟨by unfold visitorI; rw [if_pos hga, if_neg (by rw [hz]; decide)], rfl, rfl⟩
  ·
    exact absurd hga (by rw [b7]; decide)
set_option maxHeartbeats 4000000 in
set_option maxRecDepth 100000 in
theorem c_visitor_no {w : Wd} {o ns tn : Nat} {kp : Int32} {σ tx cm : Nat → Int32} (hM : MW w o ns tn kp σ tx cm) (x z : Int32) (h : inB x 9 = false) : Rd mX8_visitor 2 [.ref o, .int x, .int z] w (some (.int (visitorI σ x z))) := by
  intro sz
  refine Ev.ofV [some (.ref o), some (.int x), some (.int z)] (by decide) (Nat.le_of_ble_eq_true rfl) rfl rfl rfl ?_
  refine v_iload_n dX8_visitor_0 rfl ?_
  refine v_iconst (v := nI 0) dX8_visitor_1 (by decide) ?_
  refine v_bipush (v := nI 9) dX8_visitor_2 (by decide) ?_
  refine u_rS3 oX8_in dX8_visitor_4 ml_X8_59 (c_inB x 9) (by decide) (Nat.le_of_ble_eq_true rfl) (Nat.le_refl _) (Nat.le_refl _) ?_
  refine v_if_neB (tgt := 12) dX8_visitor_7 (by decide) (fun b7 => ?_) (fun b7 => ?_)
  ·
    exact absurd b7 (by rw [h]; decide)
  ·
    refine v_iconst (v := -1) dX8_visitor_10 (by decide) ?_
    refine v_iret dX8_visitor_11 rfl (Nat.le_refl _) (Nat.le_refl _) ?_
    exact ⟨by unfold visitorI; rw [if_neg (by rw [h]; decide)], rfl, rfl⟩
theorem c_visitor {w : Wd} {o ns tn : Nat} {kp : Int32} {σ tx cm : Nat → Int32} (hM : MW w o ns tn kp σ tx cm) (hW : WS σ) (x z : Int32) : Rd mX8_visitor 2 [.ref o, .int x, .int z] w (some (.int (visitorI σ x z))) := by
  by_cases h : inB x 9 = false
  · exact c_visitor_no hM x z h
  · have hx := inB_ub (by omega) (bfalse h)
    rw [hx.1]
    by_cases h2 : inB z 3 = false
    · exact c_visitor_out hM (nt x) hx.2 z h2
    · have hz := inB_ub (by omega) (bfalse h2)
      have hz2 := hz.2
      rw [hz.1]
      generalize nt z = c at hz2 ⊢
      match c, hz2 with
      | 0, _ => exact c_visitor0 hM hW (nt x) hx.2
      | 1, _ => exact c_visitor1 hM hW (nt x) hx.2
      | 2, _ => exact c_visitor2 hM hW (nt x) hx.2
      | 3, _ => exact c_visitor3 hM hW (nt x) hx.2
set_option maxHeartbeats 4000000 in
set_option maxRecDepth 100000 in
theorem c_count0 {w : Wd} {o ns tn : Nat} {kp : Int32} {σ tx cm : Nat → Int32} (hM : MW w o ns tn kp σ tx cm) (hW : WS σ) : Rd mX8_count 3 [.ref o, .int (nI 0)] w (some (.int (countI σ ns tn (nI 0)))) := by
  intro sz
  refine Ev.ofV [some (.ref o), some (.int (nI 0))] (by decide) (Nat.le_of_ble_eq_true rfl) rfl rfl rfl ?_
  refine v_iload_n dX8_count_0 rfl ?_
  refine v_tableIn (tgt := 64) (off := 63) dX8_count_1 (by decide) (by decide) (by decide) (by decide) ?_
  refine v_aload_n dX8_count_64 rfl ?_
  refine u_rV0 oX8_labels dX8_count_65 ml_X8_111 (show Rd mX8_labels 0 _ w (some (.int (nI (lbs σ)))) from c_labels hM (fun p hp => (hW.2.2.2.2.2.1 p hp).1)) hM.1 (by decide) (Nat.le_of_ble_eq_true rfl) (Nat.le_refl _) (Nat.le_refl _) ?_
  refine v_iret dX8_count_68 rfl (Nat.le_refl _) (Nat.le_refl _) ?_
  exact ⟨by unfold countI; rw [if_pos (by decide), nt_nI (by omega)]; rfl, rfl, rfl⟩
set_option maxHeartbeats 4000000 in
set_option maxRecDepth 100000 in
theorem c_count1 {w : Wd} {o ns tn : Nat} {kp : Int32} {σ tx cm : Nat → Int32} (hM : MW w o ns tn kp σ tx cm) (hW : WS σ) : Rd mX8_count 3 [.ref o, .int (nI 1)] w (some (.int (countI σ ns tn (nI 1)))) := by
  intro sz
  refine Ev.ofV [some (.ref o), some (.int (nI 1))] (by decide) (Nat.le_of_ble_eq_true rfl) rfl rfl rfl ?_
  refine v_iload_n dX8_count_0 rfl ?_
  refine v_tableIn (tgt := 69) (off := 68) dX8_count_1 (by decide) (by decide) (by decide) (by decide) ?_
  refine v_aload_n dX8_count_69 rfl ?_
  refine v_iconst (v := -1) dX8_count_70 (by decide) ?_
  refine u_rV1 oX8_rewritesOf dX8_count_71 ml_X8_128 (show Rd mX8_rewritesOf 1 _ w (some (.int (nI (rwV σ (-1))))) from c_rewritesOf hM (-1)) hM.1 (by decide) (Nat.le_of_ble_eq_true rfl) (Nat.le_refl _) (Nat.le_refl _) ?_
  refine v_iret dX8_count_74 rfl (Nat.le_refl _) (Nat.le_refl _) ?_
  exact ⟨by unfold countI; rw [if_pos (by decide), nt_nI (by omega)]; rfl, rfl, rfl⟩
set_option maxHeartbeats 4000000 in
set_option maxRecDepth 100000 in
theorem c_count2 {w : Wd} {o ns tn : Nat} {kp : Int32} {σ tx cm : Nat → Int32} (hM : MW w o ns tn kp σ tx cm) (hW : WS σ) : Rd mX8_count 3 [.ref o, .int (nI 2)] w (some (.int (countI σ ns tn (nI 2)))) := by
  intro sz
  refine Ev.ofV [some (.ref o), some (.int (nI 2))] (by decide) (Nat.le_of_ble_eq_true rfl) rfl rfl rfl ?_
  refine v_iload_n dX8_count_0 rfl ?_
  refine v_tableIn (tgt := 75) (off := 74) dX8_count_1 (by decide) (by decide) (by decide) (by decide) ?_
  refine v_aload_n dX8_count_75 rfl ?_
  refine v_get 0 dX8_count_76 FTX8 (by decide) rfl fl_X8_7 hM.1 rfl ?_
  refine v_bipush (v := nI 18) dX8_count_79 (by decide) ?_
  refine v_iald _ dX8_count_81 hM.2.1 rfl (by omega) (by decide) ?_
  refine v_iret dX8_count_82 rfl (Nat.le_refl _) (Nat.le_refl _) ?_
  exact ⟨by unfold countI; rw [if_pos (by decide), nt_nI (by omega)]; rfl, rfl, rfl⟩
set_option maxHeartbeats 4000000 in
set_option maxRecDepth 100000 in
theorem c_count3 {w : Wd} {o ns tn : Nat} {kp : Int32} {σ tx cm : Nat → Int32} (hM : MW w o ns tn kp σ tx cm) (hW : WS σ) : Rd mX8_count 3 [.ref o, .int (nI 3)] w (some (.int (countI σ ns tn (nI 3)))) := by
  intro sz
  refine Ev.ofV [some (.ref o), some (.int (nI 3))] (by decide) (Nat.le_of_ble_eq_true rfl) rfl rfl rfl ?_
  refine v_iload_n dX8_count_0 rfl ?_
  refine v_tableIn (tgt := 83) (off := 82) dX8_count_1 (by decide) (by decide) (by decide) (by decide) ?_
  refine v_aload_n dX8_count_83 rfl ?_
  refine u_rV0 oX8_allVotes dX8_count_84 ml_X8_141 (c_allVotes hM) hM.1 (by decide) (Nat.le_of_ble_eq_true rfl) (Nat.le_refl _) (Nat.le_refl _) ?_
  refine v_iret dX8_count_87 rfl (Nat.le_refl _) (Nat.le_refl _) ?_
  exact ⟨by unfold countI; rw [if_pos (by decide), nt_nI (by omega)]; rfl, rfl, rfl⟩
set_option maxHeartbeats 4000000 in
set_option maxRecDepth 100000 in
theorem c_count4 {w : Wd} {o ns tn : Nat} {kp : Int32} {σ tx cm : Nat → Int32} (hM : MW w o ns tn kp σ tx cm) (hW : WS σ) : Rd mX8_count 3 [.ref o, .int (nI 4)] w (some (.int (countI σ ns tn (nI 4)))) := by
  intro sz
  refine Ev.ofV [some (.ref o), some (.int (nI 4))] (by decide) (Nat.le_of_ble_eq_true rfl) rfl rfl rfl ?_
  refine v_iload_n dX8_count_0 rfl ?_
  refine v_tableIn (tgt := 88) (off := 87) dX8_count_1 (by decide) (by decide) (by decide) (by decide) ?_
  refine v_aload_n dX8_count_88 rfl ?_
  refine v_get 0 dX8_count_89 FTX8 (by decide) rfl fl_X8_7 hM.1 rfl ?_
  refine v_bipush (v := nI 17) dX8_count_92 (by decide) ?_
  refine v_iald _ dX8_count_94 hM.2.1 rfl (by omega) (by decide) ?_
  refine v_iret dX8_count_95 rfl (Nat.le_refl _) (Nat.le_refl _) ?_
  exact ⟨by unfold countI; rw [if_pos (by decide), nt_nI (by omega)]; rfl, rfl, rfl⟩
set_option maxHeartbeats 4000000 in
set_option maxRecDepth 100000 in
theorem c_count5 {w : Wd} {o ns tn : Nat} {kp : Int32} {σ tx cm : Nat → Int32} (hM : MW w o ns tn kp σ tx cm) (hW : WS σ) : Rd mX8_count 3 [.ref o, .int (nI 5)] w (some (.int (countI σ ns tn (nI 5)))) := by
  intro sz
  refine Ev.ofV [some (.ref o), some (.int (nI 5))] (by decide) (Nat.le_of_ble_eq_true rfl) rfl rfl rfl ?_
  refine v_iload_n dX8_count_0 rfl ?_
  refine v_tableIn (tgt := 96) (off := 95) dX8_count_1 (by decide) (by decide) (by decide) (by decide) ?_
  refine v_aload_n dX8_count_96 rfl ?_
  refine v_get 0 dX8_count_97 FTX8 (by decide) rfl fl_X8_7 hM.1 rfl ?_
  refine v_bipush (v := nI 16) dX8_count_100 (by decide) ?_
  refine v_iald _ dX8_count_102 hM.2.1 rfl (by omega) (by decide) ?_
  refine v_iret dX8_count_103 rfl (Nat.le_refl _) (Nat.le_refl _) ?_
  exact ⟨by unfold countI; rw [if_pos (by decide), nt_nI (by omega)]; rfl, rfl, rfl⟩
set_option maxHeartbeats 4000000 in
set_option maxRecDepth 100000 in
theorem c_count6 {w : Wd} {o ns tn : Nat} {kp : Int32} {σ tx cm : Nat → Int32} (hM : MW w o ns tn kp σ tx cm) (hW : WS σ) : Rd mX8_count 3 [.ref o, .int (nI 6)] w (some (.int (countI σ ns tn (nI 6)))) := by
  intro sz
  refine Ev.ofV [some (.ref o), some (.int (nI 6))] (by decide) (Nat.le_of_ble_eq_true rfl) rfl rfl rfl ?_
  refine v_iload_n dX8_count_0 rfl ?_
  refine v_tableIn (tgt := 104) (off := 103) dX8_count_1 (by decide) (by decide) (by decide) (by decide) ?_
  refine v_aload_n dX8_count_104 rfl ?_
  refine v_iconst (v := nI 0) dX8_count_105 (by decide) ?_
  refine v_iconst (v := nI 1) dX8_count_106 (by decide) ?_
  refine u_rV2 oX8_labelsOf dX8_count_107 ml_X8_125 (c_labelsOf hM (fun p hp => (hW.2.2.2.2.2.1 p hp).1) 0 1 (by omega) (by omega)) hM.1 (by decide) (Nat.le_of_ble_eq_true rfl) (Nat.le_refl _) (Nat.le_refl _) ?_
  refine v_aload_n dX8_count_110 rfl ?_
  refine v_iconst (v := nI 1) dX8_count_111 (by decide) ?_
  refine v_iconst (v := nI 1) dX8_count_112 (by decide) ?_
  refine u_rV2 oX8_labelsOf dX8_count_113 ml_X8_125 (c_labelsOf hM (fun p hp => (hW.2.2.2.2.2.1 p hp).1) 1 1 (by omega) (by omega)) hM.1 (by decide) (Nat.le_of_ble_eq_true rfl) (Nat.le_refl _) (Nat.le_refl _) ?_
  refine v_iaddN dX8_count_116 ?_
  refine v_aload_n dX8_count_117 rfl ?_
  refine v_iconst (v := nI 2) dX8_count_118 (by decide) ?_
  refine v_iconst (v := nI 1) dX8_count_119 (by decide) ?_
  refine u_rV2 oX8_labelsOf dX8_count_120 ml_X8_125 (c_labelsOf hM (fun p hp => (hW.2.2.2.2.2.1 p hp).1) 2 1 (by omega) (by omega)) hM.1 (by decide) (Nat.le_of_ble_eq_true rfl) (Nat.le_refl _) (Nat.le_refl _) ?_
  refine v_iaddN dX8_count_123 ?_
  refine v_aload_n dX8_count_124 rfl ?_
  refine v_iconst (v := nI 3) dX8_count_125 (by decide) ?_
  refine v_iconst (v := nI 1) dX8_count_126 (by decide) ?_
  refine u_rV2 oX8_labelsOf dX8_count_127 ml_X8_125 (c_labelsOf hM (fun p hp => (hW.2.2.2.2.2.1 p hp).1) 3 1 (by omega) (by omega)) hM.1 (by decide) (Nat.le_of_ble_eq_true rfl) (Nat.le_refl _) (Nat.le_refl _) ?_
  refine v_iaddN dX8_count_130 ?_
  refine v_iret dX8_count_131 rfl (Nat.le_refl _) (Nat.le_refl _) ?_
  exact ⟨by unfold countI; rw [if_pos (by decide), nt_nI (by omega)]; rfl, rfl, rfl⟩
set_option maxHeartbeats 4000000 in
set_option maxRecDepth 100000 in
theorem c_count7 {w : Wd} {o ns tn : Nat} {kp : Int32} {σ tx cm : Nat → Int32} (hM : MW w o ns tn kp σ tx cm) (hW : WS σ) : Rd mX8_count 3 [.ref o, .int (nI 7)] w (some (.int (countI σ ns tn (nI 7)))) := by
  intro sz
  refine Ev.ofV [some (.ref o), some (.int (nI 7))] (by decide) (Nat.le_of_ble_eq_true rfl) rfl rfl rfl ?_
  refine v_iload_n dX8_count_0 rfl ?_
  refine v_tableIn (tgt := 132) (off := 131) dX8_count_1 (by decide) (by decide) (by decide) (by decide) ?_
  refine v_aload_n dX8_count_132 rfl ?_
  refine v_get 0 dX8_count_133 FTX8 (by decide) rfl fl_X8_7 hM.1 rfl ?_
  refine v_bipush (v := nI 19) dX8_count_136 (by decide) ?_
  refine v_iald _ dX8_count_138 hM.2.1 rfl (by omega) (by decide) ?_
  refine v_iret dX8_count_139 rfl (Nat.le_refl _) (Nat.le_refl _) ?_
  exact ⟨by unfold countI; rw [if_pos (by decide), nt_nI (by omega)]; rfl, rfl, rfl⟩
set_option maxHeartbeats 4000000 in
set_option maxRecDepth 100000 in
theorem c_count8 {w : Wd} {o ns tn : Nat} {kp : Int32} {σ tx cm : Nat → Int32} (hM : MW w o ns tn kp σ tx cm) (hW : WS σ) : Rd mX8_count 3 [.ref o, .int (nI 8)] w (some (.int (countI σ ns tn (nI 8)))) := by
  intro sz
  refine Ev.ofV [some (.ref o), some (.int (nI 8))] (by decide) (Nat.le_of_ble_eq_true rfl) rfl rfl rfl ?_
  refine v_iload_n dX8_count_0 rfl ?_
  refine v_tableIn (tgt := 140) (off := 139) dX8_count_1 (by decide) (by decide) (by decide) (by decide) ?_
  refine v_aload_n dX8_count_140 rfl ?_
  refine v_get 0 dX8_count_141 FTX8 (by decide) rfl fl_X8_7 hM.1 rfl ?_
  refine v_bipush (v := nI 20) dX8_count_144 (by decide) ?_
  refine v_iald _ dX8_count_146 hM.2.1 rfl (by omega) (by decide) ?_
  refine v_iret dX8_count_147 rfl (Nat.le_refl _) (Nat.le_refl _) ?_
  exact ⟨by unfold countI; rw [if_pos (by decide), nt_nI (by omega)]; rfl, rfl, rfl⟩
set_option maxHeartbeats 4000000 in
set_option maxRecDepth 100000 in
theorem c_count9 {w : Wd} {o ns tn : Nat} {kp : Int32} {σ tx cm : Nat → Int32} (hM : MW w o ns tn kp σ tx cm) (hW : WS σ) : Rd mX8_count 3 [.ref o, .int (nI 9)] w (some (.int (countI σ ns tn (nI 9)))) := by
  intro sz
  refine Ev.ofV [some (.ref o), some (.int (nI 9))] (by decide) (Nat.le_of_ble_eq_true rfl) rfl rfl rfl ?_
  refine v_iload_n dX8_count_0 rfl ?_
  refine v_tableIn (tgt := 148) (off := 147) dX8_count_1 (by decide) (by decide) (by decide) (by decide) ?_
  refine v_aload_n dX8_count_148 rfl ?_
  refine v_get 0 dX8_count_149 FTX8 (by decide) rfl fl_X8_7 hM.1 rfl ?_
  refine v_bipush (v := nI 21) dX8_count_152 (by decide) ?_
  refine v_iald _ dX8_count_154 hM.2.1 rfl (by omega) (by decide) ?_
  refine v_iret dX8_count_155 rfl (Nat.le_refl _) (Nat.le_refl _) ?_
  exact ⟨by unfold countI; rw [if_pos (by decide), nt_nI (by omega)]; rfl, rfl, rfl⟩
set_option maxHeartbeats 4000000 in
set_option maxRecDepth 100000 in
theorem c_count10 {w : Wd} {o ns tn : Nat} {kp : Int32} {σ tx cm : Nat → Int32} (hM : MW w o ns tn kp σ tx cm) (hW : WS σ) : Rd mX8_count 3 [.ref o, .int (nI 10)] w (some (.int (countI σ ns tn (nI 10)))) := by
  intro sz
  refine Ev.ofV [some (.ref o), some (.int (nI 10))] (by decide) (Nat.le_of_ble_eq_true rfl) rfl rfl rfl ?_
  refine v_iload_n dX8_count_0 rfl ?_
  refine v_tableIn (tgt := 156) (off := 155) dX8_count_1 (by decide) (by decide) (by decide) (by decide) ?_
  refine v_aload_n dX8_count_156 rfl ?_
  refine v_get 1 dX8_count_157 FTX8 (by decide) rfl fl_X8_20 hM.1 rfl ?_
  refine v_iret dX8_count_160 rfl (Nat.le_refl _) (Nat.le_refl _) ?_
  exact ⟨by unfold countI; rw [if_pos (by decide), nt_nI (by omega)]; rfl, rfl, rfl⟩
set_option maxHeartbeats 4000000 in
set_option maxRecDepth 100000 in
theorem c_count11 {w : Wd} {o ns tn : Nat} {kp : Int32} {σ tx cm : Nat → Int32} (hM : MW w o ns tn kp σ tx cm) (hW : WS σ) : Rd mX8_count 3 [.ref o, .int (nI 11)] w (some (.int (countI σ ns tn (nI 11)))) := by
  intro sz
  refine Ev.ofV [some (.ref o), some (.int (nI 11))] (by decide) (Nat.le_of_ble_eq_true rfl) rfl rfl rfl ?_
  refine v_iload_n dX8_count_0 rfl ?_
  refine v_tableIn (tgt := 161) (off := 160) dX8_count_1 (by decide) (by decide) (by decide) (by decide) ?_
  refine v_aload_n dX8_count_161 rfl ?_
  refine v_get 4 dX8_count_162 FTX8 (by decide) rfl fl_X8_56 hM.1 rfl ?_
  refine v_iret dX8_count_165 rfl (Nat.le_refl _) (Nat.le_refl _) ?_
  exact ⟨by unfold countI; rw [if_pos (by decide), nt_nI (by omega)]; rfl, rfl, rfl⟩
set_option maxHeartbeats 4000000 in
set_option maxRecDepth 100000 in
theorem c_count_out {w : Wd} {o ns tn : Nat} {kp : Int32} {σ tx cm : Nat → Int32} (hM : MW w o ns tn kp σ tx cm) (z : Int32) (hz : inB z 11 = false) : Rd mX8_count 3 [.ref o, .int z] w (some (.int (countI σ ns tn z))) := by
  intro sz
  refine Ev.ofV [some (.ref o), some (.int z)] (by decide) (Nat.le_of_ble_eq_true rfl) rfl rfl rfl ?_
  refine v_iload_n dX8_count_0 rfl ?_
  refine v_tableOut (tgt := 166) dX8_count_1 (inB_out (b := 11) (by omega) hz) (by decide) ?_
  refine v_bipush (v := -2) dX8_count_166 (by decide) ?_
  refine v_iret dX8_count_168 rfl (Nat.le_refl _) (Nat.le_refl _) ?_
  exact ⟨by unfold countI; rw [if_neg (by rw [hz]; decide)], rfl, rfl⟩
theorem c_count {w : Wd} {o ns tn : Nat} {kp : Int32} {σ tx cm : Nat → Int32} (hM : MW w o ns tn kp σ tx cm) (hW : WS σ) (z : Int32) : Rd mX8_count 3 [.ref o, .int z] w (some (.int (countI σ ns tn z))) := by
  by_cases h2 : inB z 11 = false
  · exact c_count_out hM z h2
  · have hz := inB_ub (by omega) (bfalse h2)
    have hz2 := hz.2
    rw [hz.1]
    generalize nt z = c at hz2 ⊢
    match c, hz2 with
    | 0, _ => exact c_count0 hM hW
    | 1, _ => exact c_count1 hM hW
    | 2, _ => exact c_count2 hM hW
    | 3, _ => exact c_count3 hM hW
    | 4, _ => exact c_count4 hM hW
    | 5, _ => exact c_count5 hM hW
    | 6, _ => exact c_count6 hM hW
    | 7, _ => exact c_count7 hM hW
    | 8, _ => exact c_count8 hM hW
    | 9, _ => exact c_count9 hM hW
    | 10, _ => exact c_count10 hM hW
    | 11, _ => exact c_count11 hM hW
end
section
set_option maxHeartbeats 4000000 in
set_option maxRecDepth 100000 in
theorem c_letter_no {w : Wd} {o ns tn : Nat} {kp : Int32} {σ tx cm : Nat → Int32} (hM : MW w o ns tn kp σ tx cm) (x y z : Int32) (h : (inB x 7 && inB y 2) = false) : Rd mX8_letter 2 [.ref o, .int x, .int y, .int z] w (some (.int (letterI σ x y z))) := by
  intro sz
  refine Ev.ofV [some (.ref o), some (.int x), some (.int y), some (.int z), none] (by decide) (Nat.le_of_ble_eq_true rfl) rfl rfl rfl ?_
  refine v_iload_n dX8_letter_0 rfl ?_
  refine v_iload_n dX8_letter_1 rfl ?_
  refine u_rS2 oX8_isPair dX8_letter_2 ml_X8_72 (c_isPair x y) (by decide) (Nat.le_of_ble_eq_true rfl) (Nat.le_refl _) (Nat.le_refl _) ?_
  refine v_if_neB (tgt := 10) dX8_letter_5 (by decide) (fun b5 => ?_) (fun b5 => ?_)
  ·
    exact absurd h (by rw [b5]; decide)
  ·
    refine v_iconst (v := -1) dX8_letter_8 (by decide) ?_
    refine v_iret dX8_letter_9 rfl (Nat.le_refl _) (Nat.le_refl _) ?_
    exact ⟨by unfold letterI; rw [if_neg (by rw [h]; decide)], rfl, rfl⟩
set_option maxHeartbeats 4000000 in
set_option maxRecDepth 100000 in
theorem c_letter_neg {w : Wd} {o ns tn : Nat} {kp : Int32} {σ tx cm : Nat → Int32} (hM : MW w o ns tn kp σ tx cm) (a b : Nat) (ha : a < 8) (hb : b < 3) (z : Int32) (hz : z < 0) : Rd mX8_letter 2 [.ref o, .int (nI a), .int (nI b), .int z] w (some (.int (letterI σ (nI a) (nI b) z))) := by
  intro sz
  refine Ev.ofV [some (.ref o), some (.int (nI a)), some (.int (nI b)), some (.int z), none] (by decide) (Nat.le_of_ble_eq_true rfl) rfl rfl rfl ?_
  have hga : inB (nI a) 7 = true := by rw [inB_nI (by omega) (by omega)]; simp; omega
  have hgb : inB (nI b) 2 = true := by rw [inB_nI (by omega) (by omega)]; simp; omega
  have hgg : (inB (nI a) 7 && inB (nI b) 2) = true := by rw [hga, hgb]; rfl
  refine v_iload_n dX8_letter_0 rfl ?_
  refine v_iload_n dX8_letter_1 rfl ?_
  refine u_rS2 oX8_isPair dX8_letter_2 ml_X8_72 (c_isPair (nI a) (nI b)) (by decide) (Nat.le_of_ble_eq_true rfl) (Nat.le_refl _) (Nat.le_refl _) ?_
  refine v_if_neB (tgt := 10) dX8_letter_5 (by decide) (fun b5 => ?_) (fun b5 => ?_)
  ·
    refine v_iload_n dX8_letter_10 rfl ?_
    refine v_if_ge (tgt := 17) dX8_letter_11 (by decide) (fun b11 => ?_) (fun b11 => ?_)
    ·
      exact absurd hz (Int32.not_lt.mpr b11)
    ·
      refine v_bipush (v := -2) dX8_letter_14 (by decide) ?_
      refine v_iret dX8_letter_16 rfl (Nat.le_refl _) (Nat.le_refl _) ?_
      exact ⟨by unfold letterI; rw [if_pos hgg, if_pos hz], rfl, rfl⟩
  ·
    exact absurd hgg (by rw [b5]; decide)
set_option maxHeartbeats 4000000 in
set_option maxRecDepth 100000 in
theorem c_letter_N {w : Wd} {o ns tn : Nat} {kp : Int32} {σ tx cm : Nat → Int32} (hM : MW w o ns tn kp σ tx cm) (hW : WS σ) (a b c : Nat) (ha : a < 8) (hb : b < 3) (hc : c < 2147483648) : Rd mX8_letter 2 [.ref o, .int (nI a), .int (nI b), .int (nI c)] w (some (.int (letterI σ (nI a) (nI b) (nI c)))) := by
  intro sz
  refine Ev.ofV [some (.ref o), some (.int (nI a)), some (.int (nI b)), some (.int (nI c)), none] (by decide) (Nat.le_of_ble_eq_true rfl) rfl rfl rfl ?_
  have hga : inB (nI a) 7 = true := by rw [inB_nI (by omega) (by omega)]; simp; omega
  have hgb : inB (nI b) 2 = true := by rw [inB_nI (by omega) (by omega)]; simp; omega
  have hgg : (inB (nI a) 7 && inB (nI b) 2) = true := by rw [hga, hgb]; rfl
  refine v_iload_n dX8_letter_0 rfl ?_
  refine v_iload_n dX8_letter_1 rfl ?_
  refine u_rS2 oX8_isPair dX8_letter_2 ml_X8_72 (c_isPair (nI a) (nI b)) (by decide) (Nat.le_of_ble_eq_true rfl) (Nat.le_refl _) (Nat.le_refl _) ?_
  refine v_if_neB (tgt := 10) dX8_letter_5 (by decide) (fun b5 => ?_) (fun b5 => ?_)
  ·
    refine v_iload_n dX8_letter_10 rfl ?_
    refine v_if_geN (tgt := 17) dX8_letter_11 (by decide) (by omega) ?_
    refine v_iload_n dX8_letter_17 rfl ?_
    refine v_iload_n dX8_letter_18 rfl ?_
    refine u_rS2 oX8_rowOf dX8_letter_19 ml_X8_28 (c_rowOf a b) (by decide) (Nat.le_of_ble_eq_true rfl) (Nat.le_refl _) (Nat.le_refl _) ?_
    refine v_istore dX8_letter_22 (by decide) rfl ?_
    refine v_iload_n dX8_letter_24 rfl ?_
    refine v_aload_n dX8_letter_25 rfl ?_
    refine v_get 0 dX8_letter_26 FTX8 (by decide) rfl fl_X8_7 hM.1 rfl ?_
    refine v_iload dX8_letter_29 rfl ?_
    refine v_ialdN _ dX8_letter_31 hM.2.1 rfl (by omega) (by decide) ((hW.2.2.2.2.2.1 (3 * a + b) (by omega)).1).1 ?_
    refine v_icmp_geN (tgt := 49) dX8_letter_32 (by decide) (by omega) (by have := ((hW.2.2.2.2.2.1 (3 * a + b) (by omega)).1).2; omega) (fun b32 => ?_) (fun b32 => ?_)
    ·
      refine v_bipush (v := -5) dX8_letter_49 (by decide) ?_
      refine v_iret dX8_letter_51 rfl (Nat.le_refl _) (Nat.le_refl _) ?_
      exact ⟨by unfold letterI; rw [if_pos hgg, if_neg (nI_nlt0 hc), nt_nI (n := a) (by omega), nt_nI (n := b) (by omega), nt_nI hc, if_neg (by unfold ln; omega)], rfl, rfl⟩
    ·
      refine v_aload_n dX8_letter_35 rfl ?_
      refine v_get 0 dX8_letter_36 FTX8 (by decide) rfl fl_X8_7 hM.1 rfl ?_
      refine v_iload dX8_letter_39 rfl ?_
      refine v_iconst (v := nI 4) dX8_letter_41 (by decide) ?_
      refine v_iaddN dX8_letter_42 ?_
      refine v_iload_n dX8_letter_43 rfl ?_
      refine v_iaddN dX8_letter_44 ?_
      refine v_iald _ dX8_letter_45 hM.2.1 rfl (by have := ((hW.2.2.2.2.2.1 (3 * a + b) (by omega)).1).2; omega) (by decide) ?_
      refine v_goto (tgt := 51) dX8_letter_46 (by decide) ?_
      refine v_iret dX8_letter_51 rfl (Nat.le_refl _) (Nat.le_refl _) ?_
      exact ⟨by unfold letterI; rw [if_pos hgg, if_neg (nI_nlt0 hc), nt_nI (n := a) (by omega), nt_nI (n := b) (by omega), nt_nI hc, if_pos (by unfold ln; omega)], rfl, rfl⟩
  ·
    exact absurd hgg (by rw [b5]; decide)
theorem nn_nI {z : Int32} (h : ¬ z < 0) : z = nI (nt z) ∧ nt z < 2147483648 := by
  have h1 := Int32.le_iff_toInt_le.mp (Int32.not_lt.mp h)
  rw [Int32.toInt_zero] at h1
  have h2 : z.toInt < 2147483648 := Int32.toInt_lt z
  have h3 : nt z < 2147483648 := by
    show z.toInt.toNat < _
    omega
  refine ⟨?_, h3⟩
  apply Int32.toInt_inj.mp
  rw [nI_toInt h3]
  show z.toInt = ((z.toInt.toNat : Nat) : Int)
  omega
theorem c_letter {w : Wd} {o ns tn : Nat} {kp : Int32} {σ tx cm : Nat → Int32} (hM : MW w o ns tn kp σ tx cm) (hW : WS σ) (x y z : Int32) : Rd mX8_letter 2 [.ref o, .int x, .int y, .int z] w (some (.int (letterI σ x y z))) := by
  by_cases h : (inB x 7 && inB y 2) = false
  · exact c_letter_no hM x y z h
  · have h2 := bfalse h
    simp only [Bool.and_eq_true] at h2
    have hx := inB_ub (by omega) h2.1
    have hy := inB_ub (by omega) h2.2
    rw [hx.1, hy.1]
    by_cases h3 : z < 0
    · exact c_letter_neg hM (nt x) (nt y) hx.2 hy.2 z h3
    · have hz := nn_nI h3
      rw [hz.1]
      exact c_letter_N hM hW (nt x) (nt y) (nt z) hx.2 hy.2 hz.2
set_option maxHeartbeats 4000000 in
set_option maxRecDepth 100000 in
theorem c_labelOf_no {w : Wd} {o ns tn : Nat} {kp : Int32} {σ tx cm : Nat → Int32} (hM : MW w o ns tn kp σ tx cm) (x y z : Int32) (h : (inB x 7 && inB y 2) = false) : Rd mX8_labelOf 2 [.ref o, .int x, .int y, .int z] w (some (.int (labelOfI σ x y z))) := by
  intro sz
  refine Ev.ofV [some (.ref o), some (.int x), some (.int y), some (.int z), none] (by decide) (Nat.le_of_ble_eq_true rfl) rfl rfl rfl ?_
  refine v_iload_n dX8_labelOf_0 rfl ?_
  refine v_iload_n dX8_labelOf_1 rfl ?_
  refine u_rS2 oX8_isPair dX8_labelOf_2 ml_X8_72 (c_isPair x y) (by decide) (Nat.le_of_ble_eq_true rfl) (Nat.le_refl _) (Nat.le_refl _) ?_
  refine v_if_neB (tgt := 10) dX8_labelOf_5 (by decide) (fun b5 => ?_) (fun b5 => ?_)
  ·
    exact absurd h (by rw [b5]; decide)
  ·
    refine v_iconst (v := -1) dX8_labelOf_8 (by decide) ?_
    refine v_iret dX8_labelOf_9 rfl (Nat.le_refl _) (Nat.le_refl _) ?_
    exact ⟨by unfold labelOfI; rw [if_neg (by rw [h]; decide)], rfl, rfl⟩
set_option maxHeartbeats 4000000 in
set_option maxRecDepth 100000 in
theorem c_labelOf_out {w : Wd} {o ns tn : Nat} {kp : Int32} {σ tx cm : Nat → Int32} (hM : MW w o ns tn kp σ tx cm) (a b : Nat) (ha : a < 8) (hb : b < 3) (z : Int32) (hz : inB z 4 = false) : Rd mX8_labelOf 2 [.ref o, .int (nI a), .int (nI b), .int z] w (some (.int (labelOfI σ (nI a) (nI b) z))) := by
  intro sz
  refine Ev.ofV [some (.ref o), some (.int (nI a)), some (.int (nI b)), some (.int z), none] (by decide) (Nat.le_of_ble_eq_true rfl) rfl rfl rfl ?_
  have hga : inB (nI a) 7 = true := by rw [inB_nI (by omega) (by omega)]; simp; omega
  have hgb : inB (nI b) 2 = true := by rw [inB_nI (by omega) (by omega)]; simp; omega
  have hgg : (inB (nI a) 7 && inB (nI b) 2) = true := by rw [hga, hgb]; rfl
  refine v_iload_n dX8_labelOf_0 rfl ?_
  refine v_iload_n dX8_labelOf_1 rfl ?_
  refine u_rS2 oX8_isPair dX8_labelOf_2 ml_X8_72 (c_isPair (nI a) (nI b)) (by decide) (Nat.le_of_ble_eq_true rfl) (Nat.le_refl _) (Nat.le_refl _) ?_
  refine v_if_neB (tgt := 10) dX8_labelOf_5 (by decide) (fun b5 => ?_) (fun b5 => ?_)
  ·
    refine v_iload_n dX8_labelOf_10 rfl ?_
    refine v_iconst (v := nI 0) dX8_labelOf_11 (by decide) ?_
    refine v_iconst (v := nI 4) dX8_labelOf_12 (by decide) ?_
    refine u_rS3 oX8_in dX8_labelOf_13 ml_X8_59 (c_inB z 4) (by decide) (Nat.le_of_ble_eq_true rfl) (Nat.le_refl _) (Nat.le_refl _) ?_
    refine v_if_neB (tgt := 22) dX8_labelOf_16 (by decide) (fun b16 => ?_) (fun b16 => ?_)
    ·
      exact absurd b16 (by rw [hz]; decide)
    ·
      refine v_bipush (v := -2) dX8_labelOf_19 (by decide) ?_
      refine v_iret dX8_labelOf_21 rfl (Nat.le_refl _) (Nat.le_refl _) ?_
      exact ⟨by unfold labelOfI; rw [if_pos hgg, if_neg (by rw [hz]; decide)], rfl, rfl⟩
  ·
    exact absurd hgg (by rw [b5]; decide)
set_option maxHeartbeats 4000000 in
set_option maxRecDepth 100000 in
theorem c_labelOf0 {w : Wd} {o ns tn : Nat} {kp : Int32} {σ tx cm : Nat → Int32} (hM : MW w o ns tn kp σ tx cm) (hW : WS σ) (a b : Nat) (ha : a < 8) (hb : b < 3) : Rd mX8_labelOf 2 [.ref o, .int (nI a), .int (nI b), .int (nI 0)] w (some (.int (labelOfI σ (nI a) (nI b) (nI 0)))) := by
  intro sz
  refine Ev.ofV [some (.ref o), some (.int (nI a)), some (.int (nI b)), some (.int (nI 0)), none] (by decide) (Nat.le_of_ble_eq_true rfl) rfl rfl rfl ?_
  have hga : inB (nI a) 7 = true := by rw [inB_nI (by omega) (by omega)]; simp; omega
  have hgb : inB (nI b) 2 = true := by rw [inB_nI (by omega) (by omega)]; simp; omega
  have hgg : (inB (nI a) 7 && inB (nI b) 2) = true := by rw [hga, hgb]; rfl
  refine v_iload_n dX8_labelOf_0 rfl ?_
  refine v_iload_n dX8_labelOf_1 rfl ?_
  refine u_rS2 oX8_isPair dX8_labelOf_2 ml_X8_72 (c_isPair (nI a) (nI b)) (by decide) (Nat.le_of_ble_eq_true rfl) (Nat.le_refl _) (Nat.le_refl _) ?_
  refine v_if_neB (tgt := 10) dX8_labelOf_5 (by decide) (fun b5 => ?_) (fun b5 => ?_)
  ·
    refine v_iload_n dX8_labelOf_10 rfl ?_
    refine v_iconst (v := nI 0) dX8_labelOf_11 (by decide) ?_
    refine v_iconst (v := nI 4) dX8_labelOf_12 (by decide) ?_
    refine u_rS3 oX8_in dX8_labelOf_13 ml_X8_59 (c_inB (nI 0) 4) (by decide) (Nat.le_of_ble_eq_true rfl) (Nat.le_refl _) (Nat.le_refl _) ?_
    refine v_if_neB (tgt := 22) dX8_labelOf_16 (by decide) (fun b16 => ?_) (fun b16 => ?_)
    ·
      refine v_iload_n dX8_labelOf_22 rfl ?_
      refine v_iload_n dX8_labelOf_23 rfl ?_
      refine u_rS2 oX8_rowOf dX8_labelOf_24 ml_X8_28 (c_rowOf a b) (by decide) (Nat.le_of_ble_eq_true rfl) (Nat.le_refl _) (Nat.le_refl _) ?_
      refine v_istore dX8_labelOf_27 (by decide) rfl ?_
      refine v_aload_n dX8_labelOf_29 rfl ?_
      refine v_get 0 dX8_labelOf_30 FTX8 (by decide) rfl fl_X8_7 hM.1 rfl ?_
      refine v_iload dX8_labelOf_33 rfl ?_
      refine v_ialdN _ dX8_labelOf_35 hM.2.1 rfl (by omega) (by decide) ((hW.2.2.2.2.2.1 (3 * a + b) (by omega)).1).1 ?_
      refine v_if_neN (tgt := 42) dX8_labelOf_36 (by decide) (by have := ((hW.2.2.2.2.2.1 (3 * a + b) (by omega)).1).2; omega) (fun b36 => ?_) (fun b36 => ?_)
      ·
        refine v_iload_n dX8_labelOf_42 rfl ?_
        refine v_tableIn (tgt := 68) (off := 25) dX8_labelOf_43 (by decide) (by decide) (by decide) (by decide) ?_
        refine v_aload_n dX8_labelOf_68 rfl ?_
        refine v_iload_n dX8_labelOf_69 rfl ?_
        refine v_iload_n dX8_labelOf_70 rfl ?_
        refine u_rV2 oX8_wordsOf dX8_labelOf_71 ml_X8_42 (show Rd mX8_wordsOf 1 _ w (some (.int (nI (nwl σ (3 * a + b))))) from c_wordsOf hM a b ⟨ha, hb⟩ ((hW.2.2.2.2.2.1 (3 * a + b) (by omega)).1)) hM.1 (by decide) (Nat.le_of_ble_eq_true rfl) (Nat.le_refl _) (Nat.le_refl _) ?_
        refine v_iret dX8_labelOf_74 rfl (Nat.le_refl _) (Nat.le_refl _) ?_
        exact ⟨by unfold labelOfI; rw [if_pos hgg, if_pos (by decide), nt_nI (by omega), nt_nI (by omega), nt_nI (by omega), if_neg (by unfold ln; exact b36)] <;> rfl, rfl, rfl⟩
      ·
        refine v_bipush (v := -5) dX8_labelOf_39 (by decide) ?_
        refine v_iret dX8_labelOf_41 rfl (Nat.le_refl _) (Nat.le_refl _) ?_
        exact ⟨by unfold labelOfI; rw [if_pos hgg, if_pos (by decide), nt_nI (by omega), nt_nI (by omega), nt_nI (by omega), if_pos (by unfold ln; exact b36)], rfl, rfl⟩
    ·
      exact absurd b16 (by decide)
  ·
    exact absurd hgg (by rw [b5]; decide)
set_option maxHeartbeats 4000000 in
set_option maxRecDepth 100000 in
theorem c_labelOf1 {w : Wd} {o ns tn : Nat} {kp : Int32} {σ tx cm : Nat → Int32} (hM : MW w o ns tn kp σ tx cm) (hW : WS σ) (a b : Nat) (ha : a < 8) (hb : b < 3) : Rd mX8_labelOf 2 [.ref o, .int (nI a), .int (nI b), .int (nI 1)] w (some (.int (labelOfI σ (nI a) (nI b) (nI 1)))) := by
  intro sz
  refine Ev.ofV [some (.ref o), some (.int (nI a)), some (.int (nI b)), some (.int (nI 1)), none] (by decide) (Nat.le_of_ble_eq_true rfl) rfl rfl rfl ?_
  have hga : inB (nI a) 7 = true := by rw [inB_nI (by omega) (by omega)]; simp; omega
  have hgb : inB (nI b) 2 = true := by rw [inB_nI (by omega) (by omega)]; simp; omega
  have hgg : (inB (nI a) 7 && inB (nI b) 2) = true := by rw [hga, hgb]; rfl
  refine v_iload_n dX8_labelOf_0 rfl ?_
  refine v_iload_n dX8_labelOf_1 rfl ?_
  refine u_rS2 oX8_isPair dX8_labelOf_2 ml_X8_72 (c_isPair (nI a) (nI b)) (by decide) (Nat.le_of_ble_eq_true rfl) (Nat.le_refl _) (Nat.le_refl _) ?_
  refine v_if_neB (tgt := 10) dX8_labelOf_5 (by decide) (fun b5 => ?_) (fun b5 => ?_)
  ·
    refine v_iload_n dX8_labelOf_10 rfl ?_
    refine v_iconst (v := nI 0) dX8_labelOf_11 (by decide) ?_
    refine v_iconst (v := nI 4) dX8_labelOf_12 (by decide) ?_
    refine u_rS3 oX8_in dX8_labelOf_13 ml_X8_59 (c_inB (nI 1) 4) (by decide) (Nat.le_of_ble_eq_true rfl) (Nat.le_refl _) (Nat.le_refl _) ?_
    refine v_if_neB (tgt := 22) dX8_labelOf_16 (by decide) (fun b16 => ?_) (fun b16 => ?_)
    ·
      refine v_iload_n dX8_labelOf_22 rfl ?_
      refine v_iload_n dX8_labelOf_23 rfl ?_
      refine u_rS2 oX8_rowOf dX8_labelOf_24 ml_X8_28 (c_rowOf a b) (by decide) (Nat.le_of_ble_eq_true rfl) (Nat.le_refl _) (Nat.le_refl _) ?_
      refine v_istore dX8_labelOf_27 (by decide) rfl ?_
      refine v_aload_n dX8_labelOf_29 rfl ?_
      refine v_get 0 dX8_labelOf_30 FTX8 (by decide) rfl fl_X8_7 hM.1 rfl ?_
      refine v_iload dX8_labelOf_33 rfl ?_
      refine v_ialdN _ dX8_labelOf_35 hM.2.1 rfl (by omega) (by decide) ((hW.2.2.2.2.2.1 (3 * a + b) (by omega)).1).1 ?_
      refine v_if_neN (tgt := 42) dX8_labelOf_36 (by decide) (by have := ((hW.2.2.2.2.2.1 (3 * a + b) (by omega)).1).2; omega) (fun b36 => ?_) (fun b36 => ?_)
      ·
        refine v_iload_n dX8_labelOf_42 rfl ?_
        refine v_tableIn (tgt := 75) (off := 32) dX8_labelOf_43 (by decide) (by decide) (by decide) (by decide) ?_
        refine v_aload_n dX8_labelOf_75 rfl ?_
        refine v_get 0 dX8_labelOf_76 FTX8 (by decide) rfl fl_X8_7 hM.1 rfl ?_
        refine v_iload dX8_labelOf_79 rfl ?_
        refine v_iald _ dX8_labelOf_81 hM.2.1 rfl (by omega) (by decide) ?_
        refine v_iret dX8_labelOf_82 rfl (Nat.le_refl _) (Nat.le_refl _) ?_
        exact ⟨by unfold labelOfI; rw [if_pos hgg, if_pos (by decide), nt_nI (by omega), nt_nI (by omega), nt_nI (by omega), if_neg (by unfold ln; exact b36)] <;> rfl, rfl, rfl⟩
      ·
        refine v_bipush (v := -5) dX8_labelOf_39 (by decide) ?_
        refine v_iret dX8_labelOf_41 rfl (Nat.le_refl _) (Nat.le_refl _) ?_
        exact ⟨by unfold labelOfI; rw [if_pos hgg, if_pos (by decide), nt_nI (by omega), nt_nI (by omega), nt_nI (by omega), if_pos (by unfold ln; exact b36)], rfl, rfl⟩
    ·
      exact absurd b16 (by decide)
  ·
    exact absurd hgg (by rw [b5]; decide)
set_option maxHeartbeats 4000000 in
set_option maxRecDepth 100000 in
theorem c_labelOf2 {w : Wd} {o ns tn : Nat} {kp : Int32} {σ tx cm : Nat → Int32} (hM : MW w o ns tn kp σ tx cm) (hW : WS σ) (a b : Nat) (ha : a < 8) (hb : b < 3) : Rd mX8_labelOf 2 [.ref o, .int (nI a), .int (nI b), .int (nI 2)] w (some (.int (labelOfI σ (nI a) (nI b) (nI 2)))) := by
  intro sz
  refine Ev.ofV [some (.ref o), some (.int (nI a)), some (.int (nI b)), some (.int (nI 2)), none] (by decide) (Nat.le_of_ble_eq_true rfl) rfl rfl rfl ?_
  have hga : inB (nI a) 7 = true := by rw [inB_nI (by omega) (by omega)]; simp; omega
  have hgb : inB (nI b) 2 = true := by rw [inB_nI (by omega) (by omega)]; simp; omega
  have hgg : (inB (nI a) 7 && inB (nI b) 2) = true := by rw [hga, hgb]; rfl
  refine v_iload_n dX8_labelOf_0 rfl ?_
  refine v_iload_n dX8_labelOf_1 rfl ?_
  refine u_rS2 oX8_isPair dX8_labelOf_2 ml_X8_72 (c_isPair (nI a) (nI b)) (by decide) (Nat.le_of_ble_eq_true rfl) (Nat.le_refl _) (Nat.le_refl _) ?_
  refine v_if_neB (tgt := 10) dX8_labelOf_5 (by decide) (fun b5 => ?_) (fun b5 => ?_)
  ·
    refine v_iload_n dX8_labelOf_10 rfl ?_
    refine v_iconst (v := nI 0) dX8_labelOf_11 (by decide) ?_
    refine v_iconst (v := nI 4) dX8_labelOf_12 (by decide) ?_
    refine u_rS3 oX8_in dX8_labelOf_13 ml_X8_59 (c_inB (nI 2) 4) (by decide) (Nat.le_of_ble_eq_true rfl) (Nat.le_refl _) (Nat.le_refl _) ?_
    refine v_if_neB (tgt := 22) dX8_labelOf_16 (by decide) (fun b16 => ?_) (fun b16 => ?_)
    ·
      refine v_iload_n dX8_labelOf_22 rfl ?_
      refine v_iload_n dX8_labelOf_23 rfl ?_
      refine u_rS2 oX8_rowOf dX8_labelOf_24 ml_X8_28 (c_rowOf a b) (by decide) (Nat.le_of_ble_eq_true rfl) (Nat.le_refl _) (Nat.le_refl _) ?_
      refine v_istore dX8_labelOf_27 (by decide) rfl ?_
      refine v_aload_n dX8_labelOf_29 rfl ?_
      refine v_get 0 dX8_labelOf_30 FTX8 (by decide) rfl fl_X8_7 hM.1 rfl ?_
      refine v_iload dX8_labelOf_33 rfl ?_
      refine v_ialdN _ dX8_labelOf_35 hM.2.1 rfl (by omega) (by decide) ((hW.2.2.2.2.2.1 (3 * a + b) (by omega)).1).1 ?_
      refine v_if_neN (tgt := 42) dX8_labelOf_36 (by decide) (by have := ((hW.2.2.2.2.2.1 (3 * a + b) (by omega)).1).2; omega) (fun b36 => ?_) (fun b36 => ?_)
      ·
        refine v_iload_n dX8_labelOf_42 rfl ?_
        refine v_tableIn (tgt := 83) (off := 40) dX8_labelOf_43 (by decide) (by decide) (by decide) (by decide) ?_
        refine v_aload_n dX8_labelOf_83 rfl ?_
        refine v_get 0 dX8_labelOf_84 FTX8 (by decide) rfl fl_X8_7 hM.1 rfl ?_
        refine v_iload dX8_labelOf_87 rfl ?_
        refine v_iconst (v := nI 1) dX8_labelOf_89 (by decide) ?_
        refine v_iaddN dX8_labelOf_90 ?_
        refine v_iald _ dX8_labelOf_91 hM.2.1 rfl (by omega) (by decide) ?_
        refine v_if_ge (tgt := 100) dX8_labelOf_92 (by decide) (fun b92 => ?_) (fun b92 => ?_)
        ·
          refine v_aload_n dX8_labelOf_100 rfl ?_
          refine v_get 0 dX8_labelOf_101 FTX8 (by decide) rfl fl_X8_7 hM.1 rfl ?_
          refine v_iload dX8_labelOf_104 rfl ?_
          refine v_iconst (v := nI 1) dX8_labelOf_106 (by decide) ?_
          refine v_iaddN dX8_labelOf_107 ?_
          refine v_iald _ dX8_labelOf_108 hM.2.1 rfl (by omega) (by decide) ?_
          refine v_iret dX8_labelOf_109 rfl (Nat.le_refl _) (Nat.le_refl _) ?_
          exact ⟨by unfold labelOfI; rw [if_pos hgg, if_pos (by decide), nt_nI (by omega), nt_nI (by omega), nt_nI (by omega), if_neg (by unfold ln; exact b36)]; show _ = some (Value.int (if _ then _ else _)); rw [if_neg (Int32.not_lt.mpr b92)], rfl, rfl⟩
        ·
          refine v_bipush (v := -5) dX8_labelOf_95 (by decide) ?_
          refine v_goto (tgt := 109) dX8_labelOf_97 (by decide) ?_
          refine v_iret dX8_labelOf_109 rfl (Nat.le_refl _) (Nat.le_refl _) ?_
          exact ⟨by unfold labelOfI; rw [if_pos hgg, if_pos (by decide), nt_nI (by omega), nt_nI (by omega), nt_nI (by omega), if_neg (by unfold ln; exact b36)]; show _ = some (Value.int (if _ then _ else _)); rw [if_pos (Int32.not_le.mp b92)], rfl, rfl⟩
      ·
        refine v_bipush (v := -5) dX8_labelOf_39 (by decide) ?_
        refine v_iret dX8_labelOf_41 rfl (Nat.le_refl _) (Nat.le_refl _) ?_
        exact ⟨by unfold labelOfI; rw [if_pos hgg, if_pos (by decide), nt_nI (by omega), nt_nI (by omega), nt_nI (by omega), if_pos (by unfold ln; exact b36)], rfl, rfl⟩
    ·
      exact absurd b16 (by decide)
  ·
    exact absurd hgg (by rw [b5]; decide)
set_option maxHeartbeats 4000000 in
set_option maxRecDepth 100000 in
theorem c_labelOf3 {w : Wd} {o ns tn : Nat} {kp : Int32} {σ tx cm : Nat → Int32} (hM : MW w o ns tn kp σ tx cm) (hW : WS σ) (a b : Nat) (ha : a < 8) (hb : b < 3) : Rd mX8_labelOf 2 [.ref o, .int (nI a), .int (nI b), .int (nI 3)] w (some (.int (labelOfI σ (nI a) (nI b) (nI 3)))) := by
  intro sz
  refine Ev.ofV [some (.ref o), some (.int (nI a)), some (.int (nI b)), some (.int (nI 3)), none] (by decide) (Nat.le_of_ble_eq_true rfl) rfl rfl rfl ?_
  have hga : inB (nI a) 7 = true := by rw [inB_nI (by omega) (by omega)]; simp; omega
  have hgb : inB (nI b) 2 = true := by rw [inB_nI (by omega) (by omega)]; simp; omega
  have hgg : (inB (nI a) 7 && inB (nI b) 2) = true := by rw [hga, hgb]; rfl
  refine v_iload_n dX8_labelOf_0 rfl ?_
  refine v_iload_n dX8_labelOf_1 rfl ?_
  refine u_rS2 oX8_isPair dX8_labelOf_2 ml_X8_72 (c_isPair (nI a) (nI b)) (by decide) (Nat.le_of_ble_eq_true rfl) (Nat.le_refl _) (Nat.le_refl _) ?_
  refine v_if_neB (tgt := 10) dX8_labelOf_5 (by decide) (fun b5 => ?_) (fun b5 => ?_)
  ·
    refine v_iload_n dX8_labelOf_10 rfl ?_
    refine v_iconst (v := nI 0) dX8_labelOf_11 (by decide) ?_
    refine v_iconst (v := nI 4) dX8_labelOf_12 (by decide) ?_
    refine u_rS3 oX8_in dX8_labelOf_13 ml_X8_59 (c_inB (nI 3) 4) (by decide) (Nat.le_of_ble_eq_true rfl) (Nat.le_refl _) (Nat.le_refl _) ?_
    refine v_if_neB (tgt := 22) dX8_labelOf_16 (by decide) (fun b16 => ?_) (fun b16 => ?_)
    ·
      refine v_iload_n dX8_labelOf_22 rfl ?_
      refine v_iload_n dX8_labelOf_23 rfl ?_
      refine u_rS2 oX8_rowOf dX8_labelOf_24 ml_X8_28 (c_rowOf a b) (by decide) (Nat.le_of_ble_eq_true rfl) (Nat.le_refl _) (Nat.le_refl _) ?_
      refine v_istore dX8_labelOf_27 (by decide) rfl ?_
      refine v_aload_n dX8_labelOf_29 rfl ?_
      refine v_get 0 dX8_labelOf_30 FTX8 (by decide) rfl fl_X8_7 hM.1 rfl ?_
      refine v_iload dX8_labelOf_33 rfl ?_
      refine v_ialdN _ dX8_labelOf_35 hM.2.1 rfl (by omega) (by decide) ((hW.2.2.2.2.2.1 (3 * a + b) (by omega)).1).1 ?_
      refine v_if_neN (tgt := 42) dX8_labelOf_36 (by decide) (by have := ((hW.2.2.2.2.2.1 (3 * a + b) (by omega)).1).2; omega) (fun b36 => ?_) (fun b36 => ?_)
      ·
        refine v_iload_n dX8_labelOf_42 rfl ?_
        refine v_tableOut (tgt := 110) dX8_labelOf_43 (by decide) (by decide) ?_
        refine v_aload_n dX8_labelOf_110 rfl ?_
        refine v_get 0 dX8_labelOf_111 FTX8 (by decide) rfl fl_X8_7 hM.1 rfl ?_
        refine v_iload dX8_labelOf_114 rfl ?_
        refine v_iload_n dX8_labelOf_116 rfl ?_
        refine v_iaddN dX8_labelOf_117 ?_
        refine v_iconst (v := nI 1) dX8_labelOf_118 (by decide) ?_
        refine v_isubN dX8_labelOf_119 (by omega) ?_
        refine v_iald _ dX8_labelOf_120 hM.2.1 rfl (by omega) (by decide) ?_
        refine v_iret dX8_labelOf_121 rfl (Nat.le_refl _) (Nat.le_refl _) ?_
        exact ⟨by unfold labelOfI; rw [if_pos hgg, if_pos (by decide), nt_nI (by omega), nt_nI (by omega), nt_nI (by omega), if_neg (by unfold ln; exact b36)] <;> rfl, rfl, rfl⟩
      ·
        refine v_bipush (v := -5) dX8_labelOf_39 (by decide) ?_
        refine v_iret dX8_labelOf_41 rfl (Nat.le_refl _) (Nat.le_refl _) ?_
        exact ⟨by unfold labelOfI; rw [if_pos hgg, if_pos (by decide), nt_nI (by omega), nt_nI (by omega), nt_nI (by omega), if_pos (by unfold ln; exact b36)], rfl, rfl⟩
    ·
      exact absurd b16 (by decide)
  ·
    exact absurd hgg (by rw [b5]; decide)
set_option maxHeartbeats 4000000 in
set_option maxRecDepth 100000 in
theorem c_labelOf4 {w : Wd} {o ns tn : Nat} {kp : Int32} {σ tx cm : Nat → Int32} (hM : MW w o ns tn kp σ tx cm) (hW : WS σ) (a b : Nat) (ha : a < 8) (hb : b < 3) : Rd mX8_labelOf 2 [.ref o, .int (nI a), .int (nI b), .int (nI 4)] w (some (.int (labelOfI σ (nI a) (nI b) (nI 4)))) := by
  intro sz
  refine Ev.ofV [some (.ref o), some (.int (nI a)), some (.int (nI b)), some (.int (nI 4)), none] (by decide) (Nat.le_of_ble_eq_true rfl) rfl rfl rfl ?_
  have hga : inB (nI a) 7 = true := by rw [inB_nI (by omega) (by omega)]; simp; omega
  have hgb : inB (nI b) 2 = true := by rw [inB_nI (by omega) (by omega)]; simp; omega
  have hgg : (inB (nI a) 7 && inB (nI b) 2) = true := by rw [hga, hgb]; rfl
  refine v_iload_n dX8_labelOf_0 rfl ?_
  refine v_iload_n dX8_labelOf_1 rfl ?_
  refine u_rS2 oX8_isPair dX8_labelOf_2 ml_X8_72 (c_isPair (nI a) (nI b)) (by decide) (Nat.le_of_ble_eq_true rfl) (Nat.le_refl _) (Nat.le_refl _) ?_
  refine v_if_neB (tgt := 10) dX8_labelOf_5 (by decide) (fun b5 => ?_) (fun b5 => ?_)
  ·
    refine v_iload_n dX8_labelOf_10 rfl ?_
    refine v_iconst (v := nI 0) dX8_labelOf_11 (by decide) ?_
    refine v_iconst (v := nI 4) dX8_labelOf_12 (by decide) ?_
    refine u_rS3 oX8_in dX8_labelOf_13 ml_X8_59 (c_inB (nI 4) 4) (by decide) (Nat.le_of_ble_eq_true rfl) (Nat.le_refl _) (Nat.le_refl _) ?_
    refine v_if_neB (tgt := 22) dX8_labelOf_16 (by decide) (fun b16 => ?_) (fun b16 => ?_)
    ·
      refine v_iload_n dX8_labelOf_22 rfl ?_
      refine v_iload_n dX8_labelOf_23 rfl ?_
      refine u_rS2 oX8_rowOf dX8_labelOf_24 ml_X8_28 (c_rowOf a b) (by decide) (Nat.le_of_ble_eq_true rfl) (Nat.le_refl _) (Nat.le_refl _) ?_
      refine v_istore dX8_labelOf_27 (by decide) rfl ?_
      refine v_aload_n dX8_labelOf_29 rfl ?_
      refine v_get 0 dX8_labelOf_30 FTX8 (by decide) rfl fl_X8_7 hM.1 rfl ?_
      refine v_iload dX8_labelOf_33 rfl ?_
      refine v_ialdN _ dX8_labelOf_35 hM.2.1 rfl (by omega) (by decide) ((hW.2.2.2.2.2.1 (3 * a + b) (by omega)).1).1 ?_
      refine v_if_neN (tgt := 42) dX8_labelOf_36 (by decide) (by have := ((hW.2.2.2.2.2.1 (3 * a + b) (by omega)).1).2; omega) (fun b36 => ?_) (fun b36 => ?_)
      ·
        refine v_iload_n dX8_labelOf_42 rfl ?_
        refine v_tableOut (tgt := 110) dX8_labelOf_43 (by decide) (by decide) ?_
        refine v_aload_n dX8_labelOf_110 rfl ?_
        refine v_get 0 dX8_labelOf_111 FTX8 (by decide) rfl fl_X8_7 hM.1 rfl ?_
        refine v_iload dX8_labelOf_114 rfl ?_
        refine v_iload_n dX8_labelOf_116 rfl ?_
        refine v_iaddN dX8_labelOf_117 ?_
        refine v_iconst (v := nI 1) dX8_labelOf_118 (by decide) ?_
        refine v_isubN dX8_labelOf_119 (by omega) ?_
        refine v_iald _ dX8_labelOf_120 hM.2.1 rfl (by omega) (by decide) ?_
        refine v_iret dX8_labelOf_121 rfl (Nat.le_refl _) (Nat.le_refl _) ?_
        exact ⟨by unfold labelOfI; rw [if_pos hgg, if_pos (by decide), nt_nI (by omega), nt_nI (by omega), nt_nI (by omega), if_neg (by unfold ln; exact b36)] <;> rfl, rfl, rfl⟩
      ·
        refine v_bipush (v := -5) dX8_labelOf_39 (by decide) ?_
        refine v_iret dX8_labelOf_41 rfl (Nat.le_refl _) (Nat.le_refl _) ?_
        exact ⟨by unfold labelOfI; rw [if_pos hgg, if_pos (by decide), nt_nI (by omega), nt_nI (by omega), nt_nI (by omega), if_pos (by unfold ln; exact b36)], rfl, rfl⟩
    ·
      exact absurd b16 (by decide)
  ·
    exact absurd hgg (by rw [b5]; decide)
theorem c_labelOf {w : Wd} {o ns tn : Nat} {kp : Int32} {σ tx cm : Nat → Int32} (hM : MW w o ns tn kp σ tx cm) (hW : WS σ) (x y z : Int32) : Rd mX8_labelOf 2 [.ref o, .int x, .int y, .int z] w (some (.int (labelOfI σ x y z))) := by
  by_cases h : (inB x 7 && inB y 2) = false
  · exact c_labelOf_no hM x y z h
  · have h2 := bfalse h
    simp only [Bool.and_eq_true] at h2
    have hx := inB_ub (by omega) h2.1
    have hy := inB_ub (by omega) h2.2
    rw [hx.1, hy.1]
    by_cases h3 : inB z 4 = false
    · exact c_labelOf_out hM (nt x) (nt y) hx.2 hy.2 z h3
    · have hz := inB_ub (by omega) (bfalse h3)
      have hz2 := hz.2
      rw [hz.1]
      generalize nt z = c at hz2 ⊢
      match c, hz2 with
      | 0, _ => exact c_labelOf0 hM hW (nt x) (nt y) hx.2 hy.2
      | 1, _ => exact c_labelOf1 hM hW (nt x) (nt y) hx.2 hy.2
      | 2, _ => exact c_labelOf2 hM hW (nt x) (nt y) hx.2 hy.2
      | 3, _ => exact c_labelOf3 hM hW (nt x) (nt y) hx.2 hy.2
      | 4, _ => exact c_labelOf4 hM hW (nt x) (nt y) hx.2 hy.2
theorem flt_ok {f : Nat → Int32} {n : Nat} (hn : n < 2147483648) (h : flt f n < 0) : okT f n := by
  unfold flt at h
  have h0 := fst_le (fun k => !okc f k) n
  by_cases h1 : fst (fun k => !okc f k) n < n
  · rw [if_pos h1] at h
    exact absurd h (nI_nlt0 (by omega))
  · rw [if_neg h1] at h
    by_cases h2 : isw f n = true
    · refine ⟨?_, fun k hk => ?_, h2⟩
      · cases n with
        | zero => simp [isw] at h2
        | succ n => omega
      · have := fst_no (fun k => !okc f k) n k (by omega)
        simpa using this
    · rw [if_neg h2] at h
      exact absurd h (nI_nlt0 hn)
def lwB (σ : Nat → Int32) (tx : Nat → Int32) (tn b a : Nat) : Bool := hsT (sft σ (272 + 64 * (3 * a + b) + 4)) (ln σ (3 * a + b)) tx tn
def labelsWithI (σ : Nat → Int32) (tx : Nat → Int32) (tn : Nat) (y : Int32) : Int32 := if inB y 2 = true then (if flt tx tn < 0 then nI (cnt (lwB σ tx tn (nt y)) 8) else -100 - flt tx tn) else -1
set_option maxHeartbeats 4000000 in
set_option maxRecDepth 100000 in
theorem c_labelsWith_no {w : Wd} {o ns tn : Nat} {kp : Int32} {σ tx cm : Nat → Int32} (hM : MW w o ns tn kp σ tx cm) (y : Int32) (h : inB y 2 = false) : Rd mX8_labelsWith 2 [.ref o, .int y] w (some (.int (labelsWithI σ tx tn y))) := by
  intro sz
  refine Ev.ofV [some (.ref o), some (.int y), none, none] (by decide) (Nat.le_of_ble_eq_true rfl) rfl rfl rfl ?_
  refine v_iload_n dX8_labelsWith_0 rfl ?_
  refine v_iconst (v := nI 0) dX8_labelsWith_1 (by decide) ?_
  refine v_iconst (v := nI 2) dX8_labelsWith_2 (by decide) ?_
  refine u_rS3 oX8_in dX8_labelsWith_3 ml_X8_59 (c_inB y 2) (by decide) (Nat.le_of_ble_eq_true rfl) (Nat.le_refl _) (Nat.le_refl _) ?_
  refine v_if_neB (tgt := 11) dX8_labelsWith_6 (by decide) (fun b6 => ?_) (fun b6 => ?_)
  ·
    exact absurd b6 (by rw [h]; decide)
  ·
    refine v_iconst (v := -1) dX8_labelsWith_9 (by decide) ?_
    refine v_iret dX8_labelsWith_10 rfl (Nat.le_refl _) (Nat.le_refl _) ?_
    exact ⟨by unfold labelsWithI; rw [if_neg (by rw [h]; decide)], rfl, rfl⟩
set_option maxHeartbeats 4000000 in
set_option maxRecDepth 100000 in
theorem c_labelsWithN {w : Wd} {o ns tn : Nat} {kp : Int32} {σ tx cm : Nat → Int32} (hM : MW w o ns tn kp σ tx cm) (hW : WS σ) (ht : tn ≤ 60) (b : Nat) (hb : b < 3) : Rd mX8_labelsWith 2 [.ref o, .int (nI b)] w (some (.int (labelsWithI σ tx tn (nI b)))) := by
  intro sz
  refine Ev.ofV [some (.ref o), some (.int (nI b)), none, none] (by decide) (Nat.le_of_ble_eq_true rfl) rfl rfl rfl ?_
  have hgb : inB (nI b) 2 = true := by rw [inB_nI (by omega) (by omega)]; simp; omega
  refine v_iload_n dX8_labelsWith_0 rfl ?_
  refine v_iconst (v := nI 0) dX8_labelsWith_1 (by decide) ?_
  refine v_iconst (v := nI 2) dX8_labelsWith_2 (by decide) ?_
  refine u_rS3 oX8_in dX8_labelsWith_3 ml_X8_59 (c_inB (nI b) 2) (by decide) (Nat.le_of_ble_eq_true rfl) (Nat.le_refl _) (Nat.le_refl _) ?_
  refine v_if_neB (tgt := 11) dX8_labelsWith_6 (by decide) (fun b6 => ?_) (fun b6 => ?_)
  ·
    refine v_aload_n dX8_labelsWith_11 rfl ?_
    refine u_rV0 oX8_fault dX8_labelsWith_12 ml_X8_78 (c_fault hM ht) hM.1 (by decide) (Nat.le_of_ble_eq_true rfl) (Nat.le_refl _) (Nat.le_refl _) ?_
    refine v_if_lt (tgt := 26) dX8_labelsWith_15 (by decide) (fun b15 => ?_) (fun b15 => ?_)
    ·
      have hok := flt_ok (by omega) b15
      refine v_iconst (v := nI 0) dX8_labelsWith_26 (by decide) ?_
      refine v_istore_n dX8_labelsWith_27 (by decide) rfl ?_
      refine v_iconst (v := nI 0) dX8_labelsWith_28 (by decide) ?_
      refine v_istore_n dX8_labelsWith_29 (by decide) rfl ?_
      have LP30 : ∀ i, i ≤ 8 → V mX8_labelsWith 2 0 0 (fun r' w' zz => r' = some (.int (labelsWithI σ tx tn (nI b))) ∧ w' = w ∧ zz = sz) (w) (sz) (0) (0) [some (.ref o), some (.int (nI b)), some (.int (nI (cnt (lwB σ tx tn b) i))), some (.int (nI i))] [] 30 := by
        refine dn (fun i hi ih => ?_)
        refine v_iload_n dX8_labelsWith_30 rfl ?_
        refine v_bipush (v := nI 8) dX8_labelsWith_31 (by decide) ?_
        refine v_icmp_geN (tgt := 62) dX8_labelsWith_33 (by decide) (by omega) (by omega) (fun b33 => ?_) (fun b33 => ?_)
        ·
          have e8 : i = 8 := by omega
          subst e8
          refine v_iload_n dX8_labelsWith_62 rfl ?_
          refine v_iret dX8_labelsWith_63 rfl (Nat.le_refl _) (Nat.le_refl _) ?_
          exact ⟨by unfold labelsWithI; rw [if_pos hgb, if_pos b15, nt_nI (by omega)], rfl, rfl⟩
        ·
          refine v_iload_n dX8_labelsWith_36 rfl ?_
          refine v_aload_n dX8_labelsWith_37 rfl ?_
          refine v_iload_n dX8_labelsWith_38 rfl ?_
          refine v_iload_n dX8_labelsWith_39 rfl ?_
          refine u_rS2 oX8_rowOf dX8_labelsWith_40 ml_X8_28 (c_rowOf i b) (by decide) (Nat.le_of_ble_eq_true rfl) (Nat.le_refl _) (Nat.le_refl _) ?_
          refine u_rV1 oX8_hasTold dX8_labelsWith_43 ml_X8_137 (show Rd mX8_hasTold 0 _ w (some (.int (b2i (lwB σ tx tn b i)))) from c_hasTold hM (272 + 64 * (3 * i + b)) (ln σ (3 * i + b)) hok ht ⟨(hW.2.2.2.2.2.1 (3 * i + b) (by omega)).1, rfl⟩ (by omega)) hM.1 (by decide) (Nat.le_of_ble_eq_true rfl) (Nat.le_refl _) (Nat.le_refl _) ?_
          refine v_if_eqB (tgt := 53) dX8_labelsWith_46 (by decide) (fun b46 => ?_) (fun b46 => ?_)
          ·
            have q := cn0 (p := lwB σ tx tn b) (i := i) b46
            refine v_iconst (v := nI 0) dX8_labelsWith_53 (by decide) ?_
            refine v_iaddN dX8_labelsWith_54 ?_
            refine v_istore_n dX8_labelsWith_55 (by decide) rfl ?_
            refine v_iincN dX8_labelsWith_56 (by decide) rfl rfl rfl ?_
            refine v_goto (tgt := 30) dX8_labelsWith_59 (by decide) ?_
            refine v_eqL ?_ (ih (by omega))
            rw [← q]
            rfl
          ·
            have q := cn1 (p := lwB σ tx tn b) (i := i) b46
            refine v_iconst (v := nI 1) dX8_labelsWith_49 (by decide) ?_
            refine v_goto (tgt := 54) dX8_labelsWith_50 (by decide) ?_
            refine v_iaddN dX8_labelsWith_54 ?_
            refine v_istore_n dX8_labelsWith_55 (by decide) rfl ?_
            refine v_iincN dX8_labelsWith_56 (by decide) rfl rfl rfl ?_
            refine v_goto (tgt := 30) dX8_labelsWith_59 (by decide) ?_
            refine v_eqL ?_ (ih (by omega))
            rw [← q]
            rfl
      exact LP30 0 (Nat.zero_le _)
    ·
      refine v_bipush (v := -100) dX8_labelsWith_18 (by decide) ?_
      refine v_aload_n dX8_labelsWith_20 rfl ?_
      refine u_rV0 oX8_fault dX8_labelsWith_21 ml_X8_78 (c_fault hM ht) hM.1 (by decide) (Nat.le_of_ble_eq_true rfl) (Nat.le_refl _) (Nat.le_refl _) ?_
      refine v_isub dX8_labelsWith_24 ?_
      refine v_iret dX8_labelsWith_25 rfl (Nat.le_refl _) (Nat.le_refl _) ?_
      exact ⟨by unfold labelsWithI; rw [if_pos hgb, if_neg b15], rfl, rfl⟩
  ·
    exact absurd hgb (by rw [b6]; decide)
theorem c_labelsWith {w : Wd} {o ns tn : Nat} {kp : Int32} {σ tx cm : Nat → Int32} (hM : MW w o ns tn kp σ tx cm) (hW : WS σ) (ht : tn ≤ 60) (y : Int32) : Rd mX8_labelsWith 2 [.ref o, .int y] w (some (.int (labelsWithI σ tx tn y))) := by
  by_cases h : inB y 2 = false
  · exact c_labelsWith_no hM y h
  · have hy := inB_ub (by omega) (bfalse h)
    rw [hy.1]
    exact c_labelsWithN hM hW ht (nt y) hy.2
end
section
/-- where the rewrite of the number x is -/
def plO (σ : Nat → Int32) (x : Int32) : Option Nat := lsO (fun k => decide (0 ≤ x) && σ (1808 + 65 * k) == x) 16
theorem c_plO {w : Wd} {o ns tn : Nat} {kp : Int32} {σ tx cm : Nat → Int32} (hM : MW w o ns tn kp σ tx cm) (x : Int32) : Rd mX8_placeOf 1 [.ref o, .int x] w (some (.int (oI (plO σ x)))) := by
  have c := c_placeOf hM x
  rw [lst_eq] at c
  exact c
theorem plO_some {σ : Nat → Int32} {x : Int32} {k : Nat} (h : plO σ x = some k) : k < 16 ∧ 0 ≤ x ∧ σ (1808 + 65 * k) = x := by
  have h1 := lsO_some h
  have h2 := h1.2
  simp at h2
  exact ⟨h1.1, h2.1, h2.2⟩
theorem WS.rw {σ : Nat → Int32} {k : Nat} (h : WS σ) (hk : k < 16) (h0 : 0 ≤ σ (1808 + 65 * k)) : rwk σ k := by
  rcases h.2.2.2.2.2.2 k hk with e | e
  · rw [e] at h0
    exact absurd h0 (by decide)
  · exact e
/-- the vote cell of the visitor v for the rewrite in place k -/
def vcl (σ : Nat → Int32) (v k : Nat) : Nat := 32 + 24 * v + nt (σ (1808 + 65 * k + 1))
def voteR (σ : Nat → Int32) (ns : Nat) (v x : Int32) (t : Bool) : An := if inB v 9 = true then
    match plO σ x with
    | none => (-1, ns, σ)
    | some k => if σ (1808 + 65 * k + 2) = v then (-4, ns, σ) else if decide (σ (vcl σ (nt v) k) = x) = t then (-5, ns, σ) else (nI (vf (upd (rcS σ ns) (vcl σ (nt v) k) (if t = true then x else -1)) x), rcn ns, upd (rcS σ ns) (vcl σ (nt v) k) (if t = true then x else -1)) else (-1, ns, σ)
set_option maxHeartbeats 4000000 in
set_option maxRecDepth 100000 in
theorem c_vote0 {w : Wd} {o ns tn : Nat} {kp : Int32} {σ tx cm : Nat → Int32} (hM : MW w o ns tn kp σ tx cm) (v x : Int32) (t : Bool) (h : inB v 9 = false) : Wr mX8_vote 2 [.ref o, .int v, .int x, .int (b2i t)] w (AnQ w o tn kp tx cm (voteR σ ns v x t)) := by
  intro sz
  refine Ev.ofV [some (.ref o), some (.int v), some (.int x), some (.int (b2i t)), none, none, none] (by decide) (Nat.le_of_ble_eq_true rfl) rfl rfl rfl ?_
  refine v_aload_n dX8_vote_0 rfl ?_
  refine v_iload_n dX8_vote_1 rfl ?_
  refine u_rV1 oX8_placeOf dX8_vote_2 ml_X8_101 (c_plO hM x) hM.1 (by decide) (Nat.le_of_ble_eq_true rfl) (Nat.le_refl _) (Nat.le_refl _) ?_
  refine v_istore dX8_vote_5 (by decide) rfl ?_
  refine v_iload_n dX8_vote_7 rfl ?_
  refine v_iconst (v := nI 0) dX8_vote_8 (by decide) ?_
  refine v_bipush (v := nI 9) dX8_vote_9 (by decide) ?_
  refine u_rS3 oX8_in dX8_vote_11 ml_X8_59 (c_inB v 9) (by decide) (Nat.le_of_ble_eq_true rfl) (Nat.le_refl _) (Nat.le_refl _) ?_
  refine v_if_eqB (tgt := 22) dX8_vote_14 (by decide) (fun b14 => ?_) (fun b14 => ?_)
  ·
    refine v_iconst (v := -1) dX8_vote_22 (by decide) ?_
    refine v_iret dX8_vote_23 rfl (Nat.le_refl _) (Nat.le_refl _) ?_
    have e : voteR σ ns v x t = (-1, ns, σ) := by
      unfold voteR
      rw [if_neg (by rw [h]; decide)]
    rw [e]
    exact ⟨rfl, rfl, hM, frO.rf o w⟩
  ·
    exact absurd b14 (by rw [h]; decide)
set_option maxHeartbeats 4000000 in
set_option maxRecDepth 100000 in
theorem c_voteN0 {w : Wd} {o ns tn : Nat} {kp : Int32} {σ tx cm : Nat → Int32} (hM : MW w o ns tn kp σ tx cm) (a : Nat) (ha : a < 10) (x : Int32) (t : Bool) (hp : plO σ x = none) : Wr mX8_vote 2 [.ref o, .int (nI a), .int x, .int (b2i t)] w (AnQ w o tn kp tx cm (voteR σ ns (nI a) x t)) := by
  intro sz
  refine Ev.ofV [some (.ref o), some (.int (nI a)), some (.int x), some (.int (b2i t)), none, none, none] (by decide) (Nat.le_of_ble_eq_true rfl) rfl rfl rfl ?_
  have hga : inB (nI a) 9 = true := by rw [inB_nI (by omega) (by omega)]; simp; omega
  have cp := c_plO hM x
  rw [hp] at cp
  have cp : Rd mX8_placeOf 1 [.ref o, .int x] w (some (.int (-1))) := cp
  refine v_aload_n dX8_vote_0 rfl ?_
  refine v_iload_n dX8_vote_1 rfl ?_
  refine u_rV1 oX8_placeOf dX8_vote_2 ml_X8_101 cp hM.1 (by decide) (Nat.le_of_ble_eq_true rfl) (Nat.le_refl _) (Nat.le_refl _) ?_
  refine v_istore dX8_vote_5 (by decide) rfl ?_
  refine v_iload_n dX8_vote_7 rfl ?_
  refine v_iconst (v := nI 0) dX8_vote_8 (by decide) ?_
  refine v_bipush (v := nI 9) dX8_vote_9 (by decide) ?_
  refine u_rS3 oX8_in dX8_vote_11 ml_X8_59 (c_inB (nI a) 9) (by decide) (Nat.le_of_ble_eq_true rfl) (Nat.le_refl _) (Nat.le_refl _) ?_
  refine v_if_eqB (tgt := 22) dX8_vote_14 (by decide) (fun b14 => ?_) (fun b14 => ?_)
  ·
    exact absurd hga (by rw [b14]; decide)
  ·
    refine v_iload dX8_vote_17 rfl ?_
    refine v_if_ge (tgt := 24) dX8_vote_19 (by decide) (fun b19 => ?_) (fun b19 => ?_)
    ·
      exact absurd b19 (by decide)
    ·
      refine v_iconst (v := -1) dX8_vote_22 (by decide) ?_
      refine v_iret dX8_vote_23 rfl (Nat.le_refl _) (Nat.le_refl _) ?_
      have e : voteR σ ns (nI a) x t = (-1, ns, σ) := by
        unfold voteR
        rw [if_pos hga, hp]
      rw [e]
      exact ⟨rfl, rfl, hM, frO.rf o w⟩
set_option maxHeartbeats 4000000 in
set_option maxRecDepth 100000 in
theorem c_voteN1 {w : Wd} {o ns tn : Nat} {kp : Int32} {σ tx cm : Nat → Int32} (hM : MW w o ns tn kp σ tx cm) (hns : ns ≤ 4) (hW : WS σ) (a : Nat) (ha : a < 10) (x : Int32) (t : Bool) (k : Nat) (hp : plO σ x = some k) : Wr mX8_vote 2 [.ref o, .int (nI a), .int x, .int (b2i t)] w (AnQ w o tn kp tx cm (voteR σ ns (nI a) x t)) := by
  intro sz
  refine Ev.ofV [some (.ref o), some (.int (nI a)), some (.int x), some (.int (b2i t)), none, none, none] (by decide) (Nat.le_of_ble_eq_true rfl) rfl rfl rfl ?_
  have hga : inB (nI a) 9 = true := by rw [inB_nI (by omega) (by omega)]; simp; omega
  have hps := plO_some hp
  have hr := hW.rw hps.1 (by rw [hps.2.2]; exact hps.2.1)
  have hk := hps.1
  have cp := c_plO hM x
  rw [hp] at cp
  have cp : Rd mX8_placeOf 1 [.ref o, .int x] w (some (.int (nI k))) := cp
  refine v_aload_n dX8_vote_0 rfl ?_
  refine v_iload_n dX8_vote_1 rfl ?_
  refine u_rV1 oX8_placeOf dX8_vote_2 ml_X8_101 cp hM.1 (by decide) (Nat.le_of_ble_eq_true rfl) (Nat.le_refl _) (Nat.le_refl _) ?_
  refine v_istore dX8_vote_5 (by decide) rfl ?_
  refine v_iload_n dX8_vote_7 rfl ?_
  refine v_iconst (v := nI 0) dX8_vote_8 (by decide) ?_
  refine v_bipush (v := nI 9) dX8_vote_9 (by decide) ?_
  refine u_rS3 oX8_in dX8_vote_11 ml_X8_59 (c_inB (nI a) 9) (by decide) (Nat.le_of_ble_eq_true rfl) (Nat.le_refl _) (Nat.le_refl _) ?_
  refine v_if_eqB (tgt := 22) dX8_vote_14 (by decide) (fun b14 => ?_) (fun b14 => ?_)
  ·
    exact absurd hga (by rw [b14]; decide)
  ·
    refine v_iload dX8_vote_17 rfl ?_
    refine v_if_geN (tgt := 24) dX8_vote_19 (by decide) (by omega) ?_
    refine v_iload dX8_vote_24 rfl ?_
    refine u_rS1 oX8_paper dX8_vote_26 ml_X8_49 (c_paper k) (by decide) (Nat.le_of_ble_eq_true rfl) (Nat.le_refl _) (Nat.le_refl _) ?_
    refine v_istore dX8_vote_29 (by decide) rfl ?_
    refine v_aload_n dX8_vote_31 rfl ?_
    refine v_get 0 dX8_vote_32 FTX8 (by decide) rfl fl_X8_7 hM.1 rfl ?_
    refine v_iload dX8_vote_35 rfl ?_
    refine v_iconst (v := nI 2) dX8_vote_37 (by decide) ?_
    refine v_iaddN dX8_vote_38 ?_
    refine v_iald _ dX8_vote_39 hM.2.1 rfl (by omega) (by decide) ?_
    refine v_iload_n dX8_vote_40 rfl ?_
    refine v_icmp_ne (tgt := 47) dX8_vote_41 (by decide) (fun b41 => ?_) (fun b41 => ?_)
    ·
      refine v_bipush (v := nI 32) dX8_vote_47 (by decide) ?_
      refine v_bipush (v := nI 24) dX8_vote_49 (by decide) ?_
      refine v_iload_n dX8_vote_51 rfl ?_
      refine v_imulN dX8_vote_52 ?_
      refine v_iaddN dX8_vote_53 ?_
      refine v_aload_n dX8_vote_54 rfl ?_
      refine v_get 0 dX8_vote_55 FTX8 (by decide) rfl fl_X8_7 hM.1 rfl ?_
      refine v_iload dX8_vote_58 rfl ?_
      refine v_iconst (v := nI 1) dX8_vote_60 (by decide) ?_
      refine v_iaddN dX8_vote_61 ?_
      refine v_ialdN _ dX8_vote_62 hM.2.1 rfl (by omega) (by decide) hr.2.1.1 ?_
      refine v_iaddN dX8_vote_63 ?_
      refine v_istore dX8_vote_64 (by decide) rfl ?_
      refine v_aload_n dX8_vote_66 rfl ?_
      refine v_get 0 dX8_vote_67 FTX8 (by decide) rfl fl_X8_7 hM.1 rfl ?_
      refine v_iload dX8_vote_70 rfl ?_
      refine v_iald _ dX8_vote_72 hM.2.1 rfl (by have := hr.2.1.2; omega) (by decide) ?_
      refine v_iload_n dX8_vote_73 rfl ?_
      refine v_icmp_ne (tgt := 81) dX8_vote_74 (by decide) (fun b74 => ?_) (fun b74 => ?_)
      ·
        have g1 : decide (σ (32 + 24 * a + nt (σ (1808 + 65 * k + 1))) = x) = false := by simp [b74]
        refine v_iconst (v := nI 0) dX8_vote_81 (by decide) ?_
        refine v_iload_n dX8_vote_82 rfl ?_
        refine v_icmp_ne (tgt := 89) dX8_vote_83 (by decide) (fun b83 => ?_) (fun b83 => ?_)
        ·
          have g2 : ¬ decide (σ (vcl σ a k) = x) = t := by
            intro h9
            apply b83
            show _ = b2i t
            rw [← h9]
            show _ = b2i (decide (σ (32 + 24 * a + nt (σ (1808 + 65 * k + 1))) = x))
            rw [g1]
            rfl
          refine v_aload_n dX8_vote_89 rfl ?_
          refine v_wV0 oX8_records dX8_vote_90 ml_X8_63 (c_records hM hns) hM.1 (by decide) (Nat.le_of_ble_eq_true rfl) (Nat.le_refl _) (Nat.le_refl _) (fun r' w1 hq => ?_)
          obtain ⟨rfl, h1, f1⟩ := hq
          obtain ⟨σ1, es⟩ : ∃ s, s = rcS σ ns := ⟨_, rfl⟩
          rw [← es] at h1
          refine v_eqw h1.self ?_
          refine v_aload_n dX8_vote_93 rfl ?_
          refine v_get 0 dX8_vote_94 FTX8 (by decide) rfl fl_X8_7 (h1.st _).1 rfl ?_
          refine v_iload dX8_vote_97 rfl ?_
          refine v_iload_n dX8_vote_99 rfl ?_
          refine v_if_eqB (tgt := 107) dX8_vote_100 (by decide) (fun b100 => ?_) (fun b100 => ?_)
          ·
            have hval : upd σ1 (vcl σ a k) (-1) = upd σ1 (vcl σ a k) (if t = true then x else -1) := by rw [if_neg (by rw [b100]; decide)]
            refine v_iconst (v := -1) dX8_vote_107 (by decide) ?_
            refine v_iast _ dX8_vote_108 (h1.st _).2.1 rfl (by have := hr.2.1.2; omega) (by decide) ?_
            refine v_eqw (wu_wu _ _ _ _).symm ?_
            refine v_sg hval.symm ?_
            refine v_aload_n dX8_vote_109 rfl ?_
            refine v_iload_n dX8_vote_110 rfl ?_
            refine u_rV1 oX8_votesFor dX8_vote_111 ml_X8_53 (show Rd mX8_votesFor 0 _ _ (some (.int (nI (vf (upd σ1 (vcl σ a k) (if t = true then x else -1)) x)))) from c_votesFor (h1.st _) x) (h1.st _).1 (by decide) (Nat.le_of_ble_eq_true rfl) (Nat.le_refl _) (Nat.le_refl _) ?_
            refine v_iret dX8_vote_114 rfl (Nat.le_refl _) (Nat.le_refl _) ?_
            have e : voteR σ ns (nI a) x t = (nI (vf (upd σ1 (vcl σ a k) (if t = true then x else -1)) x), rcn ns, upd σ1 (vcl σ a k) (if t = true then x else -1)) := by
              subst es
              unfold voteR
              rw [if_pos hga, hp, nt_nI (by omega)]
              show (if _ then _ else _) = _
              rw [if_neg b41, if_neg g2]
            rw [e]
            exact ⟨rfl, rfl, h1.st _, f1.wu _ (by omega) (by omega)⟩
          ·
            have hval : upd σ1 (vcl σ a k) x = upd σ1 (vcl σ a k) (if t = true then x else -1) := by rw [if_pos b100]
            refine v_iload_n dX8_vote_103 rfl ?_
            refine v_goto (tgt := 108) dX8_vote_104 (by decide) ?_
            refine v_iast _ dX8_vote_108 (h1.st _).2.1 rfl (by have := hr.2.1.2; omega) (by decide) ?_
            refine v_eqw (wu_wu _ _ _ _).symm ?_
            refine v_sg hval.symm ?_
            refine v_aload_n dX8_vote_109 rfl ?_
            refine v_iload_n dX8_vote_110 rfl ?_
            refine u_rV1 oX8_votesFor dX8_vote_111 ml_X8_53 (show Rd mX8_votesFor 0 _ _ (some (.int (nI (vf (upd σ1 (vcl σ a k) (if t = true then x else -1)) x)))) from c_votesFor (h1.st _) x) (h1.st _).1 (by decide) (Nat.le_of_ble_eq_true rfl) (Nat.le_refl _) (Nat.le_refl _) ?_
            refine v_iret dX8_vote_114 rfl (Nat.le_refl _) (Nat.le_refl _) ?_
            have e : voteR σ ns (nI a) x t = (nI (vf (upd σ1 (vcl σ a k) (if t = true then x else -1)) x), rcn ns, upd σ1 (vcl σ a k) (if t = true then x else -1)) := by
              subst es
              unfold voteR
              rw [if_pos hga, hp, nt_nI (by omega)]
              show (if _ then _ else _) = _
              rw [if_neg b41, if_neg g2]
            rw [e]
            exact ⟨rfl, rfl, h1.st _, f1.wu _ (by omega) (by omega)⟩
        ·
          have g2 : decide (σ (vcl σ a k) = x) = t := by
            apply b2i_inj
            rw [← b83]
            show b2i (decide (σ (32 + 24 * a + nt (σ (1808 + 65 * k + 1))) = x)) = _
            rw [g1]
            rfl
          refine v_bipush (v := -5) dX8_vote_86 (by decide) ?_
          refine v_iret dX8_vote_88 rfl (Nat.le_refl _) (Nat.le_refl _) ?_
          have e : voteR σ ns (nI a) x t = (-5, ns, σ) := by
            unfold voteR
            rw [if_pos hga, hp, nt_nI (by omega)]
            show (if _ then _ else _) = _
            rw [if_neg b41, if_pos g2]
          rw [e]
          exact ⟨rfl, rfl, hM, frO.rf o w⟩
      ·
        have g1 : decide (σ (32 + 24 * a + nt (σ (1808 + 65 * k + 1))) = x) = true := by simp [b74]
        refine v_iconst (v := nI 1) dX8_vote_77 (by decide) ?_
        refine v_goto (tgt := 82) dX8_vote_78 (by decide) ?_
        refine v_iload_n dX8_vote_82 rfl ?_
        refine v_icmp_ne (tgt := 89) dX8_vote_83 (by decide) (fun b83 => ?_) (fun b83 => ?_)
        ·
          have g2 : ¬ decide (σ (vcl σ a k) = x) = t := by
            intro h9
            apply b83
            show _ = b2i t
            rw [← h9]
            show _ = b2i (decide (σ (32 + 24 * a + nt (σ (1808 + 65 * k + 1))) = x))
            rw [g1]
            rfl
          refine v_aload_n dX8_vote_89 rfl ?_
          refine v_wV0 oX8_records dX8_vote_90 ml_X8_63 (c_records hM hns) hM.1 (by decide) (Nat.le_of_ble_eq_true rfl) (Nat.le_refl _) (Nat.le_refl _) (fun r' w1 hq => ?_)
          obtain ⟨rfl, h1, f1⟩ := hq
          obtain ⟨σ1, es⟩ : ∃ s, s = rcS σ ns := ⟨_, rfl⟩
          rw [← es] at h1
          refine v_eqw h1.self ?_
          refine v_aload_n dX8_vote_93 rfl ?_
          refine v_get 0 dX8_vote_94 FTX8 (by decide) rfl fl_X8_7 (h1.st _).1 rfl ?_
          refine v_iload dX8_vote_97 rfl ?_
          refine v_iload_n dX8_vote_99 rfl ?_
          refine v_if_eqB (tgt := 107) dX8_vote_100 (by decide) (fun b100 => ?_) (fun b100 => ?_)
          ·
            have hval : upd σ1 (vcl σ a k) (-1) = upd σ1 (vcl σ a k) (if t = true then x else -1) := by rw [if_neg (by rw [b100]; decide)]
            refine v_iconst (v := -1) dX8_vote_107 (by decide) ?_
            refine v_iast _ dX8_vote_108 (h1.st _).2.1 rfl (by have := hr.2.1.2; omega) (by decide) ?_
            refine v_eqw (wu_wu _ _ _ _).symm ?_
            refine v_sg hval.symm ?_
            refine v_aload_n dX8_vote_109 rfl ?_
            refine v_iload_n dX8_vote_110 rfl ?_
            refine u_rV1 oX8_votesFor dX8_vote_111 ml_X8_53 (show Rd mX8_votesFor 0 _ _ (some (.int (nI (vf (upd σ1 (vcl σ a k) (if t = true then x else -1)) x)))) from c_votesFor (h1.st _) x) (h1.st _).1 (by decide) (Nat.le_of_ble_eq_true rfl) (Nat.le_refl _) (Nat.le_refl _) ?_
            refine v_iret dX8_vote_114 rfl (Nat.le_refl _) (Nat.le_refl _) ?_
            have e : voteR σ ns (nI a) x t = (nI (vf (upd σ1 (vcl σ a k) (if t = true then x else -1)) x), rcn ns, upd σ1 (vcl σ a k) (if t = true then x else -1)) := by
              subst es
              unfold voteR
              rw [if_pos hga, hp, nt_nI (by omega)]
              show (if _ then _ else _) = _
              rw [if_neg b41, if_neg g2]
            rw [e]
            exact ⟨rfl, rfl, h1.st _, f1.wu _ (by omega) (by omega)⟩
          ·
            have hval : upd σ1 (vcl σ a k) x = upd σ1 (vcl σ a k) (if t = true then x else -1) := by rw [if_pos b100]
            refine v_iload_n dX8_vote_103 rfl ?_
            refine v_goto (tgt := 108) dX8_vote_104 (by decide) ?_
            refine v_iast _ dX8_vote_108 (h1.st _).2.1 rfl (by have := hr.2.1.2; omega) (by decide) ?_
            refine v_eqw (wu_wu _ _ _ _).symm ?_
            refine v_sg hval.symm ?_
            refine v_aload_n dX8_vote_109 rfl ?_
            refine v_iload_n dX8_vote_110 rfl ?_
            refine u_rV1 oX8_votesFor dX8_vote_111 ml_X8_53 (show Rd mX8_votesFor 0 _ _ (some (.int (nI (vf (upd σ1 (vcl σ a k) (if t = true then x else -1)) x)))) from c_votesFor (h1.st _) x) (h1.st _).1 (by decide) (Nat.le_of_ble_eq_true rfl) (Nat.le_refl _) (Nat.le_refl _) ?_
            refine v_iret dX8_vote_114 rfl (Nat.le_refl _) (Nat.le_refl _) ?_
            have e : voteR σ ns (nI a) x t = (nI (vf (upd σ1 (vcl σ a k) (if t = true then x else -1)) x), rcn ns, upd σ1 (vcl σ a k) (if t = true then x else -1)) := by
              subst es
              unfold voteR
              rw [if_pos hga, hp, nt_nI (by omega)]
              show (if _ then _ else _) = _
              rw [if_neg b41, if_neg g2]
            rw [e]
            exact ⟨rfl, rfl, h1.st _, f1.wu _ (by omega) (by omega)⟩
        ·
          have g2 : decide (σ (vcl σ a k) = x) = t := by
            apply b2i_inj
            rw [← b83]
            show b2i (decide (σ (32 + 24 * a + nt (σ (1808 + 65 * k + 1))) = x)) = _
            rw [g1]
            rfl
          refine v_bipush (v := -5) dX8_vote_86 (by decide) ?_
          refine v_iret dX8_vote_88 rfl (Nat.le_refl _) (Nat.le_refl _) ?_
          have e : voteR σ ns (nI a) x t = (-5, ns, σ) := by
            unfold voteR
            rw [if_pos hga, hp, nt_nI (by omega)]
            show (if _ then _ else _) = _
            rw [if_neg b41, if_pos g2]
          rw [e]
          exact ⟨rfl, rfl, hM, frO.rf o w⟩
    ·
      refine v_bipush (v := -4) dX8_vote_44 (by decide) ?_
      refine v_iret dX8_vote_46 rfl (Nat.le_refl _) (Nat.le_refl _) ?_
      have e : voteR σ ns (nI a) x t = (-4, ns, σ) := by
        unfold voteR
        rw [if_pos hga, hp, nt_nI (by omega)]
        show (if _ then _ else _) = _
        rw [if_pos b41]
      rw [e]
      exact ⟨rfl, rfl, hM, frO.rf o w⟩
theorem c_vote {w : Wd} {o ns tn : Nat} {kp : Int32} {σ tx cm : Nat → Int32} (hM : MW w o ns tn kp σ tx cm) (hns : ns ≤ 4) (hW : WS σ) (v x : Int32) (t : Bool) : Wr mX8_vote 2 [.ref o, .int v, .int x, .int (b2i t)] w (AnQ w o tn kp tx cm (voteR σ ns v x t)) := by
  by_cases h : inB v 9 = false
  · exact c_vote0 hM v x t h
  · have hx := inB_ub (by omega) (bfalse h)
    rw [hx.1]
    cases hp : plO σ x with
    | none => exact c_voteN0 hM (nt v) hx.2 x t hp
    | some k => exact c_voteN1 hM hns hW (nt v) hx.2 x t k hp
end
section
theorem AnQ.mk {w w' : Wd} {o tn n : Nat} {kp x : Int32} {tx cm s : Nat → Int32} (h : MW w' o n tn kp s tx cm) (f : frO o w w') : AnQ w o tn kp tx cm (x, n, s) (some (.int x)) w' := ⟨rfl, h, f⟩
set_option maxHeartbeats 400000 in
set_option maxRecDepth 100000 in
theorem c_bring0 {w : Wd} {o ns tn : Nat} {kp : Int32} {σ tx cm : Nat → Int32} (hM : MW w o ns tn kp σ tx cm) (x y : Int32) (h : (inB x 7 && inB y 3) = false) : Wr mX8_bring 4 [.ref o, .int x, .int y] w (AnQ w o tn kp tx cm (bringR σ ns x y)) := by
  intro sz
  refine Ev.ofV [some (.ref o), some (.int x), some (.int y)] (by decide) (Nat.le_of_ble_eq_true rfl) rfl rfl rfl ?_
  refine v_iload_n dX8_bring_0 rfl ?_
  refine v_iconst (v := nI 0) dX8_bring_1 (by decide) ?_
  refine v_bipush (v := nI 7) dX8_bring_2 (by decide) ?_
  refine u_rS3 oX8_in dX8_bring_4 ml_X8_59 (c_inB x 7) (by decide) (Nat.le_of_ble_eq_true rfl) (Nat.le_refl _) (Nat.le_refl _) ?_
  refine v_if_eqB (tgt := 19) dX8_bring_7 (by decide) (fun b7 => ?_) (fun b7 => ?_)
  ·
    refine v_iconst (v := -1) dX8_bring_19 (by decide) ?_
    refine v_iret dX8_bring_20 rfl (Nat.le_refl _) (Nat.le_refl _) ?_
    have e : bringR σ ns x y = (-1, ns, σ) := by
      unfold bringR
      rw [if_neg (by rw [h]; decide)]
    rw [e]
    exact ⟨rfl, rfl, hM, frO.rf o w⟩
  ·
    refine v_iload_n dX8_bring_10 rfl ?_
    refine v_iconst (v := nI 0) dX8_bring_11 (by decide) ?_
    refine v_iconst (v := nI 3) dX8_bring_12 (by decide) ?_
    refine u_rS3 oX8_in dX8_bring_13 ml_X8_59 (c_inB y 3) (by decide) (Nat.le_of_ble_eq_true rfl) (Nat.le_refl _) (Nat.le_refl _) ?_
    refine v_if_neB (tgt := 21) dX8_bring_16 (by decide) (fun b16 => ?_) (fun b16 => ?_)
    ·
      exact absurd h (by rw [b7, b16]; decide)
    ·
      refine v_iconst (v := -1) dX8_bring_19 (by decide) ?_
      refine v_iret dX8_bring_20 rfl (Nat.le_refl _) (Nat.le_refl _) ?_
      have e : bringR σ ns x y = (-1, ns, σ) := by
        unfold bringR
        rw [if_neg (by rw [h]; decide)]
      rw [e]
      exact ⟨rfl, rfl, hM, frO.rf o w⟩
set_option maxHeartbeats 400000 in
set_option maxRecDepth 100000 in
theorem c_bringN {w : Wd} {o ns tn : Nat} {kp : Int32} {σ tx cm : Nat → Int32} (hM : MW w o ns tn kp σ tx cm) (hns : ns ≤ 4) (hW : WS σ) (a b : Nat) (ha : a < 8) (hb : b < 4) : Wr mX8_bring 4 [.ref o, .int (nI a), .int (nI b)] w (AnQ w o tn kp tx cm (bringR σ ns (nI a) (nI b))) := by
  intro sz
  refine Ev.ofV [some (.ref o), some (.int (nI a)), some (.int (nI b))] (by decide) (Nat.le_of_ble_eq_true rfl) rfl rfl rfl ?_
  have hga : inB (nI a) 7 = true := by rw [inB_nI (by omega) (by omega)]; simp; omega
  have hgb : inB (nI b) 3 = true := by rw [inB_nI (by omega) (by omega)]; simp; omega
  have hgg : (inB (nI a) 7 && inB (nI b) 3) = true := by rw [hga, hgb]; rfl
  refine v_iload_n dX8_bring_0 rfl ?_
  refine v_iconst (v := nI 0) dX8_bring_1 (by decide) ?_
  refine v_bipush (v := nI 7) dX8_bring_2 (by decide) ?_
  refine u_rS3 oX8_in dX8_bring_4 ml_X8_59 (c_inB (nI a) 7) (by decide) (Nat.le_of_ble_eq_true rfl) (Nat.le_refl _) (Nat.le_refl _) ?_
  refine v_if_eqB (tgt := 19) dX8_bring_7 (by decide) (fun b7 => ?_) (fun b7 => ?_)
  ·
    exact absurd hga (by rw [b7]; decide)
  ·
    refine v_iload_n dX8_bring_10 rfl ?_
    refine v_iconst (v := nI 0) dX8_bring_11 (by decide) ?_
    refine v_iconst (v := nI 3) dX8_bring_12 (by decide) ?_
    refine u_rS3 oX8_in dX8_bring_13 ml_X8_59 (c_inB (nI b) 3) (by decide) (Nat.le_of_ble_eq_true rfl) (Nat.le_refl _) (Nat.le_refl _) ?_
    refine v_if_neB (tgt := 21) dX8_bring_16 (by decide) (fun b16 => ?_) (fun b16 => ?_)
    ·
      refine v_aload_n dX8_bring_21 rfl ?_
      refine v_get 0 dX8_bring_22 FTX8 (by decide) rfl fl_X8_7 hM.1 rfl ?_
      refine v_iload_n dX8_bring_25 rfl ?_
      refine v_iald _ dX8_bring_26 hM.2.1 rfl (by omega) (by decide) ?_
      refine v_iload_n dX8_bring_27 rfl ?_
      refine v_icmp_ne (tgt := 34) dX8_bring_28 (by decide) (fun b28 => ?_) (fun b28 => ?_)
      ·
        refine v_aload_n dX8_bring_34 rfl ?_
        refine v_wV0 oX8_records dX8_bring_35 ml_X8_63 (c_records hM hns) hM.1 (by decide) (Nat.le_of_ble_eq_true rfl) (Nat.le_refl _) (Nat.le_refl _) (fun r' w1 hq => ?_)
        obtain ⟨rfl, h1, f1⟩ := hq
        obtain ⟨σ1, es⟩ : ∃ s, s = rcS σ ns := ⟨_, rfl⟩
        rw [← es] at h1
        refine v_eqw h1.self ?_
        refine v_aload_n dX8_bring_38 rfl ?_
        refine v_get 0 dX8_bring_39 FTX8 (by decide) rfl fl_X8_7 (h1.st _).1 rfl ?_
        refine v_iload_n dX8_bring_42 rfl ?_
        refine v_iload_n dX8_bring_43 rfl ?_
        refine v_iast _ dX8_bring_44 (h1.st _).2.1 rfl (by omega) (by decide) ?_
        refine v_eqw (wu_wu _ _ _ _).symm ?_
        have hW1 : WS σ1 := by rw [es]; exact hW.rc
        have e1 : upd σ1 a (nI b) a = nI b := up_eq _ _ _
        have e2 : upd σ1 a (nI b) (12 + b) = σ1 (12 + b) := up_ne _ _ (by omega)
        have cc := c_cutsAll0 (h1.st (upd σ1 a (nI b))) a (nt (σ1 (12 + b))) ha (by rw [e1]; exact ub_nI hb (by omega)) (by rw [e1, nt_nI (by omega), e2]; exact hW1.2.2.1 b hb) (by rw [e1, nt_nI (by omega), e2]) (fun b hb => by rw [up_ne _ _ (by omega)]; exact (hW1.2.2.2.2.2.1 _ (by omega)).1)
        simp only [wu_wu] at cc
        refine v_aload_n dX8_bring_45 rfl ?_
        refine v_iload_n dX8_bring_46 rfl ?_
        refine u_wV1 oX8_cutsAll dX8_bring_47 ml_X8_66 cc (h1.st _).1 (by decide) (Nat.le_of_ble_eq_true rfl) (Nat.le_refl _) (Nat.le_refl _) ?_
        refine v_iret dX8_bring_50 rfl (Nat.le_refl _) (Nat.le_refl _) ?_
        have e : bringR σ ns (nI a) (nI b) = (nI (caN (upd σ1 a (nI b)) a (nt (σ1 (12 + b))) 3), rcn ns, caS (upd σ1 a (nI b)) a (nt (σ1 (12 + b))) 3) := by
          subst es
          unfold bringR
          rw [if_pos hgg, nt_nI (by omega), nt_nI (by omega), if_neg b28]
        rw [e]
        have z1 := h1.st (caS (upd σ1 a (nI b)) a (nt (σ1 (12 + b))) 3)
        have z2 := f1.wu (ia 1 17088 (caS (upd σ1 a (nI b)) a (nt (σ1 (12 + b))) 3)) (show o ≤ o + 1 by omega) (show o + 1 < o + 4 by omega)
        exact ⟨rfl, AnQ.mk z1 z2⟩
      ·
        refine v_bipush (v := -5) dX8_bring_31 (by decide) ?_
        refine v_iret dX8_bring_33 rfl (Nat.le_refl _) (Nat.le_refl _) ?_
        have e : bringR σ ns (nI a) (nI b) = (-5, ns, σ) := by
          unfold bringR
          rw [if_pos hgg, nt_nI (by omega), nt_nI (by omega), if_pos b28]
        rw [e]
        exact ⟨rfl, rfl, hM, frO.rf o w⟩
    ·
      exact absurd hgb (by rw [b16]; decide)
theorem c_bring {w : Wd} {o ns tn : Nat} {kp : Int32} {σ tx cm : Nat → Int32} (hM : MW w o ns tn kp σ tx cm) (hns : ns ≤ 4) (hW : WS σ) (x y : Int32) : Wr mX8_bring 4 [.ref o, .int x, .int y] w (AnQ w o tn kp tx cm (bringR σ ns x y)) := by
  by_cases h : (inB x 7 && inB y 3) = false
  · exact c_bring0 hM x y h
  · have h1 : (inB x 7 && inB y 3) = true := by
      cases e : (inB x 7 && inB y 3)
      · exact absurd e h
      · rfl
    have h2 := h1
    simp only [Bool.and_eq_true] at h2
    have hx := inB_ub (by omega) h2.1
    have hy := inB_ub (by omega) h2.2
    rw [hx.1, hy.1]
    exact c_bringN hM hns hW (nt x) (nt y) hx.2 hy.2
end
section
theorem nI_div3 {p : Nat} (h : p < 24) : nI p / nI 3 = nI (p / 3) := by
  have : ∀ p : Fin 24, nI p.val / nI 3 = nI (p.val / 3) := by decide
  exact this ⟨p, h⟩
theorem nI_mod3 {p : Nat} (h : p < 24) : nI p - nI p / nI 3 * nI 3 = nI (p % 3) := by
  have : ∀ p : Fin 24, nI p.val - nI p.val / nI 3 * nI 3 = nI (p.val % 3) := by decide
  exact this ⟨p, h⟩
def rwO (σ : Nat → Int32) (k : Nat) (x : Int32) : Nat → Int32
  | 0 => σ (1808 + 65 * k + 1) / nI 3
  | 1 => σ (1808 + 65 * k + 1) - σ (1808 + 65 * k + 1) / nI 3 * nI 3
  | 2 => σ (1808 + 65 * k + 2)
  | 3 => nI (nwr σ k)
  | 4 => nI (vf σ x)
  | 5 => σ (1808 + 65 * k + 3)
  | 6 => aprt (sft σ (1808 + 65 * k + 5)) (sft σ (272 + 64 * nt (σ (1808 + 65 * k + 1)) + 4)) (nt (σ (1808 + 65 * k + 4))) (ln σ (nt (σ (1808 + 65 * k + 1))))
  | _ => b2i (decide (oI (bst σ (nt (σ (1808 + 65 * k + 1))) (nt (σ 16)) (limW σ (nt (σ (1808 + 65 * k + 1)) / 3)) 16) = nI k))
def rewriteOfI (σ : Nat → Int32) (x z : Int32) : Int32 := match plO σ x with
  | none => -1
  | some k => if inB z 7 = true then rwO σ k x (nt z) else -2
theorem okT_nw {f : Nat → Int32} {n : Nat} (h : okT f n) : 2 * nw f n ≤ n + 1 := by
  have key : ∀ m, m ≤ n → 2 * cnt (bl f) m ≤ m ∧ (isw f m = false → 0 < m → 2 * cnt (bl f) m ≤ m) ∧ (isw f m = true → 2 * cnt (bl f) m + 1 ≤ m) := by
    intro m
    induction m with
    | zero => intro _; exact ⟨by simp [cnt], fun _ h => absurd h (Nat.lt_irrefl _), fun h => by simp [isw] at h⟩
    | succ m ih =>
      intro hm
      have i := ih (by omega)
      have ho := h.2.1 m (by omega)
      simp only [okc, Bool.or_eq_true, Bool.and_eq_true] at ho
      cases e : bl f m
      · have e1 : cnt (bl f) (m + 1) = cnt (bl f) m := by simp [cnt, e]
        rw [e1]
        refine ⟨by omega, fun _ _ => by omega, fun _ => ?_⟩
        omega
      · have e1 : cnt (bl f) (m + 1) = cnt (bl f) m + 1 := by simp [cnt, e]
        have e2 : ltr (f m) = false := by
          have : f m = nI 32 := by simpa [bl] using e
          rw [this]
          decide
        have e3 : isw f m = true := by
          rcases ho with h1 | h1
          · rw [e2] at h1
            cases h1
          · exact h1.2
        have i3 := i.2.2 e3
        rw [e1]
        refine ⟨by omega, fun _ _ => by omega, fun h1 => ?_⟩
        simp only [isw] at h1
        rw [e2] at h1
        cases h1
  have := (key n (Nat.le_refl _)).2.2 h.2.2
  unfold nw
  rw [if_pos h.1]
  omega
set_option maxHeartbeats 1000000 in
set_option maxRecDepth 100000 in
theorem c_rewriteOf_no {w : Wd} {o ns tn : Nat} {kp : Int32} {σ tx cm : Nat → Int32} (hM : MW w o ns tn kp σ tx cm) (x z : Int32) (hp : plO σ x = none) : Wr mX8_rewriteOf 3 [.ref o, .int x, .int z] w (fun r' w' => r' = some (.int (rewriteOfI σ x z)) ∧ ∃ cm', MW w' o ns tn kp σ tx cm' ∧ frO o w w') := by
  intro sz
  refine Ev.ofV [some (.ref o), some (.int x), some (.int z), none, none, none] (by decide) (Nat.le_of_ble_eq_true rfl) rfl rfl rfl ?_
  have cp := c_plO hM x
  rw [hp] at cp
  have cp : Rd mX8_placeOf 1 [.ref o, .int x] w (some (.int (-1))) := cp
  refine v_aload_n dX8_rewriteOf_0 rfl ?_
  refine v_iload_n dX8_rewriteOf_1 rfl ?_
  refine u_rV1 oX8_placeOf dX8_rewriteOf_2 ml_X8_101 cp hM.1 (by decide) (Nat.le_of_ble_eq_true rfl) (Nat.le_refl _) (Nat.le_refl _) ?_
  refine v_istore_n dX8_rewriteOf_5 (by decide) rfl ?_
  refine v_iload_n dX8_rewriteOf_6 rfl ?_
  refine v_if_ge (tgt := 12) dX8_rewriteOf_7 (by decide) (fun b7 => ?_) (fun b7 => ?_)
  ·
    exact absurd b7 (by decide)
  ·
    refine v_iconst (v := -1) dX8_rewriteOf_10 (by decide) ?_
    refine v_iret dX8_rewriteOf_11 rfl (Nat.le_refl _) (Nat.le_refl _) ?_
    exact ⟨rfl, by unfold rewriteOfI; rw [hp], cm, hM, frO.rf o w⟩
set_option maxHeartbeats 1000000 in
set_option maxRecDepth 100000 in
theorem c_rewriteOf_out {w : Wd} {o ns tn : Nat} {kp : Int32} {σ tx cm : Nat → Int32} (hM : MW w o ns tn kp σ tx cm) (hW : WS σ) (x z : Int32) (k : Nat) (hp : plO σ x = some k) (hz : inB z 7 = false) : Wr mX8_rewriteOf 3 [.ref o, .int x, .int z] w (fun r' w' => r' = some (.int (rewriteOfI σ x z)) ∧ ∃ cm', MW w' o ns tn kp σ tx cm' ∧ frO o w w') := by
  intro sz
  refine Ev.ofV [some (.ref o), some (.int x), some (.int z), none, none, none] (by decide) (Nat.le_of_ble_eq_true rfl) rfl rfl rfl ?_
  have cp := c_plO hM x
  rw [hp] at cp
  have cp : Rd mX8_placeOf 1 [.ref o, .int x] w (some (.int (nI k))) := cp
  have hps := plO_some hp
  have hr := hW.rw hps.1 (by rw [hps.2.2]; exact hps.2.1)
  have hk := hps.1
  refine v_aload_n dX8_rewriteOf_0 rfl ?_
  refine v_iload_n dX8_rewriteOf_1 rfl ?_
  refine u_rV1 oX8_placeOf dX8_rewriteOf_2 ml_X8_101 cp hM.1 (by decide) (Nat.le_of_ble_eq_true rfl) (Nat.le_refl _) (Nat.le_refl _) ?_
  refine v_istore_n dX8_rewriteOf_5 (by decide) rfl ?_
  refine v_iload_n dX8_rewriteOf_6 rfl ?_
  refine v_if_geN (tgt := 12) dX8_rewriteOf_7 (by decide) (by omega) ?_
  refine v_iload_n dX8_rewriteOf_12 rfl ?_
  refine v_iconst (v := nI 0) dX8_rewriteOf_13 (by decide) ?_
  refine v_bipush (v := nI 7) dX8_rewriteOf_14 (by decide) ?_
  refine u_rS3 oX8_in dX8_rewriteOf_16 ml_X8_59 (c_inB z 7) (by decide) (Nat.le_of_ble_eq_true rfl) (Nat.le_refl _) (Nat.le_refl _) ?_
  refine v_if_neB (tgt := 25) dX8_rewriteOf_19 (by decide) (fun b19 => ?_) (fun b19 => ?_)
  ·
    exact absurd b19 (by rw [hz]; decide)
  ·
    refine v_bipush (v := -2) dX8_rewriteOf_22 (by decide) ?_
    refine v_iret dX8_rewriteOf_24 rfl (Nat.le_refl _) (Nat.le_refl _) ?_
    exact ⟨rfl, by unfold rewriteOfI; rw [hp]; show some (Value.int (-2)) = some (Value.int (if _ then _ else _)); rw [if_neg (by rw [hz]; decide)], cm, hM, frO.rf o w⟩
set_option maxHeartbeats 1000000 in
set_option maxRecDepth 100000 in
theorem c_rewriteOf0 {w : Wd} {o ns tn : Nat} {kp : Int32} {σ tx cm : Nat → Int32} (hM : MW w o ns tn kp σ tx cm) (hW : WS σ) (x : Int32) (k : Nat) (hp : plO σ x = some k) : Wr mX8_rewriteOf 3 [.ref o, .int x, .int (nI 0)] w (fun r' w' => r' = some (.int (rewriteOfI σ x (nI 0))) ∧ ∃ cm', MW w' o ns tn kp σ tx cm' ∧ frO o w w') := by
  intro sz
  refine Ev.ofV [some (.ref o), some (.int x), some (.int (nI 0)), none, none, none] (by decide) (Nat.le_of_ble_eq_true rfl) rfl rfl rfl ?_
  have cp := c_plO hM x
  rw [hp] at cp
  have cp : Rd mX8_placeOf 1 [.ref o, .int x] w (some (.int (nI k))) := cp
  have hps := plO_some hp
  have hr := hW.rw hps.1 (by rw [hps.2.2]; exact hps.2.1)
  have hk := hps.1
  refine v_aload_n dX8_rewriteOf_0 rfl ?_
  refine v_iload_n dX8_rewriteOf_1 rfl ?_
  refine u_rV1 oX8_placeOf dX8_rewriteOf_2 ml_X8_101 cp hM.1 (by decide) (Nat.le_of_ble_eq_true rfl) (Nat.le_refl _) (Nat.le_refl _) ?_
  refine v_istore_n dX8_rewriteOf_5 (by decide) rfl ?_
  refine v_iload_n dX8_rewriteOf_6 rfl ?_
  refine v_if_geN (tgt := 12) dX8_rewriteOf_7 (by decide) (by omega) ?_
  refine v_iload_n dX8_rewriteOf_12 rfl ?_
  refine v_iconst (v := nI 0) dX8_rewriteOf_13 (by decide) ?_
  refine v_bipush (v := nI 7) dX8_rewriteOf_14 (by decide) ?_
  refine u_rS3 oX8_in dX8_rewriteOf_16 ml_X8_59 (c_inB (nI 0) 7) (by decide) (Nat.le_of_ble_eq_true rfl) (Nat.le_refl _) (Nat.le_refl _) ?_
  refine v_if_neB (tgt := 25) dX8_rewriteOf_19 (by decide) (fun b19 => ?_) (fun b19 => ?_)
  ·
    refine v_iload_n dX8_rewriteOf_25 rfl ?_
    refine u_rS1 oX8_paper dX8_rewriteOf_26 ml_X8_49 (c_paper k) (by decide) (Nat.le_of_ble_eq_true rfl) (Nat.le_refl _) (Nat.le_refl _) ?_
    refine v_istore dX8_rewriteOf_29 (by decide) rfl ?_
    refine v_sipush (v := nI 272) dX8_rewriteOf_31 (by decide) ?_
    refine v_bipush (v := nI 64) dX8_rewriteOf_34 (by decide) ?_
    refine v_aload_n dX8_rewriteOf_36 rfl ?_
    refine v_get 0 dX8_rewriteOf_37 FTX8 (by decide) rfl fl_X8_7 hM.1 rfl ?_
    refine v_iload dX8_rewriteOf_40 rfl ?_
    refine v_iconst (v := nI 1) dX8_rewriteOf_42 (by decide) ?_
    refine v_iaddN dX8_rewriteOf_43 ?_
    refine v_ialdN _ dX8_rewriteOf_44 hM.2.1 rfl (by omega) (by decide) hr.2.1.1 ?_
    refine v_imulN dX8_rewriteOf_45 ?_
    refine v_iaddN dX8_rewriteOf_46 ?_
    refine v_istore dX8_rewriteOf_47 (by decide) rfl ?_
    refine v_iload_n dX8_rewriteOf_49 rfl ?_
    refine v_tableIn (tgt := 92) (off := 42) dX8_rewriteOf_50 (by decide) (by decide) (by decide) (by decide) ?_
    refine v_aload_n dX8_rewriteOf_92 rfl ?_
    refine v_get 0 dX8_rewriteOf_93 FTX8 (by decide) rfl fl_X8_7 hM.1 rfl ?_
    refine v_iload dX8_rewriteOf_96 rfl ?_
    refine v_iconst (v := nI 1) dX8_rewriteOf_98 (by decide) ?_
    refine v_iaddN dX8_rewriteOf_99 ?_
    refine v_iald _ dX8_rewriteOf_100 hM.2.1 rfl (by omega) (by decide) ?_
    refine v_iconst (v := nI 3) dX8_rewriteOf_101 (by decide) ?_
    refine v_idiv dX8_rewriteOf_102 (by decide) ?_
    refine v_iret dX8_rewriteOf_103 rfl (Nat.le_refl _) (Nat.le_refl _) ?_
    exact ⟨rfl, by unfold rewriteOfI; rw [hp]; show _ = some (Value.int (if _ then _ else _)); rw [if_pos (by decide), nt_nI (by omega)]; rfl, cm, hM, frO.rf o w⟩
  ·
    exact absurd b19 (by decide)
set_option maxHeartbeats 1000000 in
set_option maxRecDepth 100000 in
theorem c_rewriteOf1 {w : Wd} {o ns tn : Nat} {kp : Int32} {σ tx cm : Nat → Int32} (hM : MW w o ns tn kp σ tx cm) (hW : WS σ) (x : Int32) (k : Nat) (hp : plO σ x = some k) : Wr mX8_rewriteOf 3 [.ref o, .int x, .int (nI 1)] w (fun r' w' => r' = some (.int (rewriteOfI σ x (nI 1))) ∧ ∃ cm', MW w' o ns tn kp σ tx cm' ∧ frO o w w') := by
  intro sz
  refine Ev.ofV [some (.ref o), some (.int x), some (.int (nI 1)), none, none, none] (by decide) (Nat.le_of_ble_eq_true rfl) rfl rfl rfl ?_
  have cp := c_plO hM x
  rw [hp] at cp
  have cp : Rd mX8_placeOf 1 [.ref o, .int x] w (some (.int (nI k))) := cp
  have hps := plO_some hp
  have hr := hW.rw hps.1 (by rw [hps.2.2]; exact hps.2.1)
  have hk := hps.1
  refine v_aload_n dX8_rewriteOf_0 rfl ?_
  refine v_iload_n dX8_rewriteOf_1 rfl ?_
  refine u_rV1 oX8_placeOf dX8_rewriteOf_2 ml_X8_101 cp hM.1 (by decide) (Nat.le_of_ble_eq_true rfl) (Nat.le_refl _) (Nat.le_refl _) ?_
  refine v_istore_n dX8_rewriteOf_5 (by decide) rfl ?_
  refine v_iload_n dX8_rewriteOf_6 rfl ?_
  refine v_if_geN (tgt := 12) dX8_rewriteOf_7 (by decide) (by omega) ?_
  refine v_iload_n dX8_rewriteOf_12 rfl ?_
  refine v_iconst (v := nI 0) dX8_rewriteOf_13 (by decide) ?_
  refine v_bipush (v := nI 7) dX8_rewriteOf_14 (by decide) ?_
  refine u_rS3 oX8_in dX8_rewriteOf_16 ml_X8_59 (c_inB (nI 1) 7) (by decide) (Nat.le_of_ble_eq_true rfl) (Nat.le_refl _) (Nat.le_refl _) ?_
  refine v_if_neB (tgt := 25) dX8_rewriteOf_19 (by decide) (fun b19 => ?_) (fun b19 => ?_)
  ·
    refine v_iload_n dX8_rewriteOf_25 rfl ?_
    refine u_rS1 oX8_paper dX8_rewriteOf_26 ml_X8_49 (c_paper k) (by decide) (Nat.le_of_ble_eq_true rfl) (Nat.le_refl _) (Nat.le_refl _) ?_
    refine v_istore dX8_rewriteOf_29 (by decide) rfl ?_
    refine v_sipush (v := nI 272) dX8_rewriteOf_31 (by decide) ?_
    refine v_bipush (v := nI 64) dX8_rewriteOf_34 (by decide) ?_
    refine v_aload_n dX8_rewriteOf_36 rfl ?_
    refine v_get 0 dX8_rewriteOf_37 FTX8 (by decide) rfl fl_X8_7 hM.1 rfl ?_
    refine v_iload dX8_rewriteOf_40 rfl ?_
    refine v_iconst (v := nI 1) dX8_rewriteOf_42 (by decide) ?_
    refine v_iaddN dX8_rewriteOf_43 ?_
    refine v_ialdN _ dX8_rewriteOf_44 hM.2.1 rfl (by omega) (by decide) hr.2.1.1 ?_
    refine v_imulN dX8_rewriteOf_45 ?_
    refine v_iaddN dX8_rewriteOf_46 ?_
    refine v_istore dX8_rewriteOf_47 (by decide) rfl ?_
    refine v_iload_n dX8_rewriteOf_49 rfl ?_
    refine v_tableIn (tgt := 104) (off := 54) dX8_rewriteOf_50 (by decide) (by decide) (by decide) (by decide) ?_
    refine v_aload_n dX8_rewriteOf_104 rfl ?_
    refine v_get 0 dX8_rewriteOf_105 FTX8 (by decide) rfl fl_X8_7 hM.1 rfl ?_
    refine v_iload dX8_rewriteOf_108 rfl ?_
    refine v_iconst (v := nI 1) dX8_rewriteOf_110 (by decide) ?_
    refine v_iaddN dX8_rewriteOf_111 ?_
    refine v_iald _ dX8_rewriteOf_112 hM.2.1 rfl (by omega) (by decide) ?_
    refine v_iconst (v := nI 3) dX8_rewriteOf_113 (by decide) ?_
    refine v_irem dX8_rewriteOf_114 (by decide) ?_
    refine v_iret dX8_rewriteOf_115 rfl (Nat.le_refl _) (Nat.le_refl _) ?_
    exact ⟨rfl, by unfold rewriteOfI; rw [hp]; show _ = some (Value.int (if _ then _ else _)); rw [if_pos (by decide), nt_nI (by omega)]; rfl, cm, hM, frO.rf o w⟩
  ·
    exact absurd b19 (by decide)
set_option maxHeartbeats 1000000 in
set_option maxRecDepth 100000 in
theorem c_rewriteOf2 {w : Wd} {o ns tn : Nat} {kp : Int32} {σ tx cm : Nat → Int32} (hM : MW w o ns tn kp σ tx cm) (hW : WS σ) (x : Int32) (k : Nat) (hp : plO σ x = some k) : Wr mX8_rewriteOf 3 [.ref o, .int x, .int (nI 2)] w (fun r' w' => r' = some (.int (rewriteOfI σ x (nI 2))) ∧ ∃ cm', MW w' o ns tn kp σ tx cm' ∧ frO o w w') := by
  intro sz
  refine Ev.ofV [some (.ref o), some (.int x), some (.int (nI 2)), none, none, none] (by decide) (Nat.le_of_ble_eq_true rfl) rfl rfl rfl ?_
  have cp := c_plO hM x
  rw [hp] at cp
  have cp : Rd mX8_placeOf 1 [.ref o, .int x] w (some (.int (nI k))) := cp
  have hps := plO_some hp
  have hr := hW.rw hps.1 (by rw [hps.2.2]; exact hps.2.1)
  have hk := hps.1
  refine v_aload_n dX8_rewriteOf_0 rfl ?_
  refine v_iload_n dX8_rewriteOf_1 rfl ?_
  refine u_rV1 oX8_placeOf dX8_rewriteOf_2 ml_X8_101 cp hM.1 (by decide) (Nat.le_of_ble_eq_true rfl) (Nat.le_refl _) (Nat.le_refl _) ?_
  refine v_istore_n dX8_rewriteOf_5 (by decide) rfl ?_
  refine v_iload_n dX8_rewriteOf_6 rfl ?_
  refine v_if_geN (tgt := 12) dX8_rewriteOf_7 (by decide) (by omega) ?_
  refine v_iload_n dX8_rewriteOf_12 rfl ?_
  refine v_iconst (v := nI 0) dX8_rewriteOf_13 (by decide) ?_
  refine v_bipush (v := nI 7) dX8_rewriteOf_14 (by decide) ?_
  refine u_rS3 oX8_in dX8_rewriteOf_16 ml_X8_59 (c_inB (nI 2) 7) (by decide) (Nat.le_of_ble_eq_true rfl) (Nat.le_refl _) (Nat.le_refl _) ?_
  refine v_if_neB (tgt := 25) dX8_rewriteOf_19 (by decide) (fun b19 => ?_) (fun b19 => ?_)
  ·
    refine v_iload_n dX8_rewriteOf_25 rfl ?_
    refine u_rS1 oX8_paper dX8_rewriteOf_26 ml_X8_49 (c_paper k) (by decide) (Nat.le_of_ble_eq_true rfl) (Nat.le_refl _) (Nat.le_refl _) ?_
    refine v_istore dX8_rewriteOf_29 (by decide) rfl ?_
    refine v_sipush (v := nI 272) dX8_rewriteOf_31 (by decide) ?_
    refine v_bipush (v := nI 64) dX8_rewriteOf_34 (by decide) ?_
    refine v_aload_n dX8_rewriteOf_36 rfl ?_
    refine v_get 0 dX8_rewriteOf_37 FTX8 (by decide) rfl fl_X8_7 hM.1 rfl ?_
    refine v_iload dX8_rewriteOf_40 rfl ?_
    refine v_iconst (v := nI 1) dX8_rewriteOf_42 (by decide) ?_
    refine v_iaddN dX8_rewriteOf_43 ?_
    refine v_ialdN _ dX8_rewriteOf_44 hM.2.1 rfl (by omega) (by decide) hr.2.1.1 ?_
    refine v_imulN dX8_rewriteOf_45 ?_
    refine v_iaddN dX8_rewriteOf_46 ?_
    refine v_istore dX8_rewriteOf_47 (by decide) rfl ?_
    refine v_iload_n dX8_rewriteOf_49 rfl ?_
    refine v_tableIn (tgt := 116) (off := 66) dX8_rewriteOf_50 (by decide) (by decide) (by decide) (by decide) ?_
    refine v_aload_n dX8_rewriteOf_116 rfl ?_
    refine v_get 0 dX8_rewriteOf_117 FTX8 (by decide) rfl fl_X8_7 hM.1 rfl ?_
    refine v_iload dX8_rewriteOf_120 rfl ?_
    refine v_iconst (v := nI 2) dX8_rewriteOf_122 (by decide) ?_
    refine v_iaddN dX8_rewriteOf_123 ?_
    refine v_iald _ dX8_rewriteOf_124 hM.2.1 rfl (by omega) (by decide) ?_
    refine v_iret dX8_rewriteOf_125 rfl (Nat.le_refl _) (Nat.le_refl _) ?_
    exact ⟨rfl, by unfold rewriteOfI; rw [hp]; show _ = some (Value.int (if _ then _ else _)); rw [if_pos (by decide), nt_nI (by omega)]; rfl, cm, hM, frO.rf o w⟩
  ·
    exact absurd b19 (by decide)
set_option maxHeartbeats 1000000 in
set_option maxRecDepth 100000 in
theorem c_rewriteOf3 {w : Wd} {o ns tn : Nat} {kp : Int32} {σ tx cm : Nat → Int32} (hM : MW w o ns tn kp σ tx cm) (hW : WS σ) (x : Int32) (k : Nat) (hp : plO σ x = some k) : Wr mX8_rewriteOf 3 [.ref o, .int x, .int (nI 3)] w (fun r' w' => r' = some (.int (rewriteOfI σ x (nI 3))) ∧ ∃ cm', MW w' o ns tn kp σ tx cm' ∧ frO o w w') := by
  intro sz
  refine Ev.ofV [some (.ref o), some (.int x), some (.int (nI 3)), none, none, none] (by decide) (Nat.le_of_ble_eq_true rfl) rfl rfl rfl ?_
  have cp := c_plO hM x
  rw [hp] at cp
  have cp : Rd mX8_placeOf 1 [.ref o, .int x] w (some (.int (nI k))) := cp
  have hps := plO_some hp
  have hr := hW.rw hps.1 (by rw [hps.2.2]; exact hps.2.1)
  have hk := hps.1
  refine v_aload_n dX8_rewriteOf_0 rfl ?_
  refine v_iload_n dX8_rewriteOf_1 rfl ?_
  refine u_rV1 oX8_placeOf dX8_rewriteOf_2 ml_X8_101 cp hM.1 (by decide) (Nat.le_of_ble_eq_true rfl) (Nat.le_refl _) (Nat.le_refl _) ?_
  refine v_istore_n dX8_rewriteOf_5 (by decide) rfl ?_
  refine v_iload_n dX8_rewriteOf_6 rfl ?_
  refine v_if_geN (tgt := 12) dX8_rewriteOf_7 (by decide) (by omega) ?_
  refine v_iload_n dX8_rewriteOf_12 rfl ?_
  refine v_iconst (v := nI 0) dX8_rewriteOf_13 (by decide) ?_
  refine v_bipush (v := nI 7) dX8_rewriteOf_14 (by decide) ?_
  refine u_rS3 oX8_in dX8_rewriteOf_16 ml_X8_59 (c_inB (nI 3) 7) (by decide) (Nat.le_of_ble_eq_true rfl) (Nat.le_refl _) (Nat.le_refl _) ?_
  refine v_if_neB (tgt := 25) dX8_rewriteOf_19 (by decide) (fun b19 => ?_) (fun b19 => ?_)
  ·
    refine v_iload_n dX8_rewriteOf_25 rfl ?_
    refine u_rS1 oX8_paper dX8_rewriteOf_26 ml_X8_49 (c_paper k) (by decide) (Nat.le_of_ble_eq_true rfl) (Nat.le_refl _) (Nat.le_refl _) ?_
    refine v_istore dX8_rewriteOf_29 (by decide) rfl ?_
    refine v_sipush (v := nI 272) dX8_rewriteOf_31 (by decide) ?_
    refine v_bipush (v := nI 64) dX8_rewriteOf_34 (by decide) ?_
    refine v_aload_n dX8_rewriteOf_36 rfl ?_
    refine v_get 0 dX8_rewriteOf_37 FTX8 (by decide) rfl fl_X8_7 hM.1 rfl ?_
    refine v_iload dX8_rewriteOf_40 rfl ?_
    refine v_iconst (v := nI 1) dX8_rewriteOf_42 (by decide) ?_
    refine v_iaddN dX8_rewriteOf_43 ?_
    refine v_ialdN _ dX8_rewriteOf_44 hM.2.1 rfl (by omega) (by decide) hr.2.1.1 ?_
    refine v_imulN dX8_rewriteOf_45 ?_
    refine v_iaddN dX8_rewriteOf_46 ?_
    refine v_istore dX8_rewriteOf_47 (by decide) rfl ?_
    refine v_iload_n dX8_rewriteOf_49 rfl ?_
    refine v_tableIn (tgt := 126) (off := 76) dX8_rewriteOf_50 (by decide) (by decide) (by decide) (by decide) ?_
    refine v_aload_n dX8_rewriteOf_126 rfl ?_
    refine v_iload dX8_rewriteOf_127 rfl ?_
    refine v_iconst (v := nI 5) dX8_rewriteOf_129 (by decide) ?_
    refine v_iaddN dX8_rewriteOf_130 ?_
    refine v_aload_n dX8_rewriteOf_131 rfl ?_
    refine v_get 0 dX8_rewriteOf_132 FTX8 (by decide) rfl fl_X8_7 hM.1 rfl ?_
    refine v_iload dX8_rewriteOf_135 rfl ?_
    refine v_iconst (v := nI 4) dX8_rewriteOf_137 (by decide) ?_
    refine v_iaddN dX8_rewriteOf_138 ?_
    refine v_ialdN _ dX8_rewriteOf_139 hM.2.1 rfl (by omega) (by decide) hr.2.2.2.2.1.1 ?_
    refine u_rV2 oX8_words dX8_rewriteOf_140 ml_X8_32 (show Rd mX8_words 0 _ w (some (.int (nI (nwr σ k)))) from c_words hM _ _ (by have := hr.2.2.2.2.1.2; omega)) hM.1 (by decide) (Nat.le_of_ble_eq_true rfl) (Nat.le_refl _) (Nat.le_refl _) ?_
    refine v_iret dX8_rewriteOf_143 rfl (Nat.le_refl _) (Nat.le_refl _) ?_
    exact ⟨rfl, by unfold rewriteOfI; rw [hp]; show _ = some (Value.int (if _ then _ else _)); rw [if_pos (by decide), nt_nI (by omega)]; rfl, cm, hM, frO.rf o w⟩
  ·
    exact absurd b19 (by decide)
set_option maxHeartbeats 1000000 in
set_option maxRecDepth 100000 in
theorem c_rewriteOf4 {w : Wd} {o ns tn : Nat} {kp : Int32} {σ tx cm : Nat → Int32} (hM : MW w o ns tn kp σ tx cm) (hW : WS σ) (x : Int32) (k : Nat) (hp : plO σ x = some k) : Wr mX8_rewriteOf 3 [.ref o, .int x, .int (nI 4)] w (fun r' w' => r' = some (.int (rewriteOfI σ x (nI 4))) ∧ ∃ cm', MW w' o ns tn kp σ tx cm' ∧ frO o w w') := by
  intro sz
  refine Ev.ofV [some (.ref o), some (.int x), some (.int (nI 4)), none, none, none] (by decide) (Nat.le_of_ble_eq_true rfl) rfl rfl rfl ?_
  have cp := c_plO hM x
  rw [hp] at cp
  have cp : Rd mX8_placeOf 1 [.ref o, .int x] w (some (.int (nI k))) := cp
  have hps := plO_some hp
  have hr := hW.rw hps.1 (by rw [hps.2.2]; exact hps.2.1)
  have hk := hps.1
  refine v_aload_n dX8_rewriteOf_0 rfl ?_
  refine v_iload_n dX8_rewriteOf_1 rfl ?_
  refine u_rV1 oX8_placeOf dX8_rewriteOf_2 ml_X8_101 cp hM.1 (by decide) (Nat.le_of_ble_eq_true rfl) (Nat.le_refl _) (Nat.le_refl _) ?_
  refine v_istore_n dX8_rewriteOf_5 (by decide) rfl ?_
  refine v_iload_n dX8_rewriteOf_6 rfl ?_
  refine v_if_geN (tgt := 12) dX8_rewriteOf_7 (by decide) (by omega) ?_
  refine v_iload_n dX8_rewriteOf_12 rfl ?_
  refine v_iconst (v := nI 0) dX8_rewriteOf_13 (by decide) ?_
  refine v_bipush (v := nI 7) dX8_rewriteOf_14 (by decide) ?_
  refine u_rS3 oX8_in dX8_rewriteOf_16 ml_X8_59 (c_inB (nI 4) 7) (by decide) (Nat.le_of_ble_eq_true rfl) (Nat.le_refl _) (Nat.le_refl _) ?_
  refine v_if_neB (tgt := 25) dX8_rewriteOf_19 (by decide) (fun b19 => ?_) (fun b19 => ?_)
  ·
    refine v_iload_n dX8_rewriteOf_25 rfl ?_
    refine u_rS1 oX8_paper dX8_rewriteOf_26 ml_X8_49 (c_paper k) (by decide) (Nat.le_of_ble_eq_true rfl) (Nat.le_refl _) (Nat.le_refl _) ?_
    refine v_istore dX8_rewriteOf_29 (by decide) rfl ?_
    refine v_sipush (v := nI 272) dX8_rewriteOf_31 (by decide) ?_
    refine v_bipush (v := nI 64) dX8_rewriteOf_34 (by decide) ?_
    refine v_aload_n dX8_rewriteOf_36 rfl ?_
    refine v_get 0 dX8_rewriteOf_37 FTX8 (by decide) rfl fl_X8_7 hM.1 rfl ?_
    refine v_iload dX8_rewriteOf_40 rfl ?_
    refine v_iconst (v := nI 1) dX8_rewriteOf_42 (by decide) ?_
    refine v_iaddN dX8_rewriteOf_43 ?_
    refine v_ialdN _ dX8_rewriteOf_44 hM.2.1 rfl (by omega) (by decide) hr.2.1.1 ?_
    refine v_imulN dX8_rewriteOf_45 ?_
    refine v_iaddN dX8_rewriteOf_46 ?_
    refine v_istore dX8_rewriteOf_47 (by decide) rfl ?_
    refine v_iload_n dX8_rewriteOf_49 rfl ?_
    refine v_tableIn (tgt := 144) (off := 94) dX8_rewriteOf_50 (by decide) (by decide) (by decide) (by decide) ?_
    refine v_aload_n dX8_rewriteOf_144 rfl ?_
    refine v_iload_n dX8_rewriteOf_145 rfl ?_
    refine u_rV1 oX8_votesFor dX8_rewriteOf_146 ml_X8_53 (c_votesFor hM x) hM.1 (by decide) (Nat.le_of_ble_eq_true rfl) (Nat.le_refl _) (Nat.le_refl _) ?_
    refine v_iret dX8_rewriteOf_149 rfl (Nat.le_refl _) (Nat.le_refl _) ?_
    exact ⟨rfl, by unfold rewriteOfI; rw [hp]; show _ = some (Value.int (if _ then _ else _)); rw [if_pos (by decide), nt_nI (by omega)]; rfl, cm, hM, frO.rf o w⟩
  ·
    exact absurd b19 (by decide)
set_option maxHeartbeats 1000000 in
set_option maxRecDepth 100000 in
theorem c_rewriteOf5 {w : Wd} {o ns tn : Nat} {kp : Int32} {σ tx cm : Nat → Int32} (hM : MW w o ns tn kp σ tx cm) (hW : WS σ) (x : Int32) (k : Nat) (hp : plO σ x = some k) : Wr mX8_rewriteOf 3 [.ref o, .int x, .int (nI 5)] w (fun r' w' => r' = some (.int (rewriteOfI σ x (nI 5))) ∧ ∃ cm', MW w' o ns tn kp σ tx cm' ∧ frO o w w') := by
  intro sz
  refine Ev.ofV [some (.ref o), some (.int x), some (.int (nI 5)), none, none, none] (by decide) (Nat.le_of_ble_eq_true rfl) rfl rfl rfl ?_
  have cp := c_plO hM x
  rw [hp] at cp
  have cp : Rd mX8_placeOf 1 [.ref o, .int x] w (some (.int (nI k))) := cp
  have hps := plO_some hp
  have hr := hW.rw hps.1 (by rw [hps.2.2]; exact hps.2.1)
  have hk := hps.1
  refine v_aload_n dX8_rewriteOf_0 rfl ?_
  refine v_iload_n dX8_rewriteOf_1 rfl ?_
  refine u_rV1 oX8_placeOf dX8_rewriteOf_2 ml_X8_101 cp hM.1 (by decide) (Nat.le_of_ble_eq_true rfl) (Nat.le_refl _) (Nat.le_refl _) ?_
  refine v_istore_n dX8_rewriteOf_5 (by decide) rfl ?_
  refine v_iload_n dX8_rewriteOf_6 rfl ?_
  refine v_if_geN (tgt := 12) dX8_rewriteOf_7 (by decide) (by omega) ?_
  refine v_iload_n dX8_rewriteOf_12 rfl ?_
  refine v_iconst (v := nI 0) dX8_rewriteOf_13 (by decide) ?_
  refine v_bipush (v := nI 7) dX8_rewriteOf_14 (by decide) ?_
  refine u_rS3 oX8_in dX8_rewriteOf_16 ml_X8_59 (c_inB (nI 5) 7) (by decide) (Nat.le_of_ble_eq_true rfl) (Nat.le_refl _) (Nat.le_refl _) ?_
  refine v_if_neB (tgt := 25) dX8_rewriteOf_19 (by decide) (fun b19 => ?_) (fun b19 => ?_)
  ·
    refine v_iload_n dX8_rewriteOf_25 rfl ?_
    refine u_rS1 oX8_paper dX8_rewriteOf_26 ml_X8_49 (c_paper k) (by decide) (Nat.le_of_ble_eq_true rfl) (Nat.le_refl _) (Nat.le_refl _) ?_
    refine v_istore dX8_rewriteOf_29 (by decide) rfl ?_
    refine v_sipush (v := nI 272) dX8_rewriteOf_31 (by decide) ?_
    refine v_bipush (v := nI 64) dX8_rewriteOf_34 (by decide) ?_
    refine v_aload_n dX8_rewriteOf_36 rfl ?_
    refine v_get 0 dX8_rewriteOf_37 FTX8 (by decide) rfl fl_X8_7 hM.1 rfl ?_
    refine v_iload dX8_rewriteOf_40 rfl ?_
    refine v_iconst (v := nI 1) dX8_rewriteOf_42 (by decide) ?_
    refine v_iaddN dX8_rewriteOf_43 ?_
    refine v_ialdN _ dX8_rewriteOf_44 hM.2.1 rfl (by omega) (by decide) hr.2.1.1 ?_
    refine v_imulN dX8_rewriteOf_45 ?_
    refine v_iaddN dX8_rewriteOf_46 ?_
    refine v_istore dX8_rewriteOf_47 (by decide) rfl ?_
    refine v_iload_n dX8_rewriteOf_49 rfl ?_
    refine v_tableIn (tgt := 150) (off := 100) dX8_rewriteOf_50 (by decide) (by decide) (by decide) (by decide) ?_
    refine v_aload_n dX8_rewriteOf_150 rfl ?_
    refine v_get 0 dX8_rewriteOf_151 FTX8 (by decide) rfl fl_X8_7 hM.1 rfl ?_
    refine v_iload dX8_rewriteOf_154 rfl ?_
    refine v_iconst (v := nI 3) dX8_rewriteOf_156 (by decide) ?_
    refine v_iaddN dX8_rewriteOf_157 ?_
    refine v_iald _ dX8_rewriteOf_158 hM.2.1 rfl (by omega) (by decide) ?_
    refine v_iret dX8_rewriteOf_159 rfl (Nat.le_refl _) (Nat.le_refl _) ?_
    exact ⟨rfl, by unfold rewriteOfI; rw [hp]; show _ = some (Value.int (if _ then _ else _)); rw [if_pos (by decide), nt_nI (by omega)]; rfl, cm, hM, frO.rf o w⟩
  ·
    exact absurd b19 (by decide)
set_option maxHeartbeats 1000000 in
set_option maxRecDepth 100000 in
theorem c_rewriteOf6 {w : Wd} {o ns tn : Nat} {kp : Int32} {σ tx cm : Nat → Int32} (hM : MW w o ns tn kp σ tx cm) (hW : WS σ) (x : Int32) (k : Nat) (hp : plO σ x = some k) : Wr mX8_rewriteOf 3 [.ref o, .int x, .int (nI 6)] w (fun r' w' => r' = some (.int (rewriteOfI σ x (nI 6))) ∧ ∃ cm', MW w' o ns tn kp σ tx cm' ∧ frO o w w') := by
  intro sz
  refine Ev.ofV [some (.ref o), some (.int x), some (.int (nI 6)), none, none, none] (by decide) (Nat.le_of_ble_eq_true rfl) rfl rfl rfl ?_
  have cp := c_plO hM x
  rw [hp] at cp
  have cp : Rd mX8_placeOf 1 [.ref o, .int x] w (some (.int (nI k))) := cp
  have hps := plO_some hp
  have hr := hW.rw hps.1 (by rw [hps.2.2]; exact hps.2.1)
  have hk := hps.1
  have hlb := hW.2.2.2.2.2.1 (nt (σ (1808 + 65 * k + 1))) hr.2.1.2
  have hp24 := hr.2.1.2
  have hl4 := hr.2.2.2.2.1.2
  have hl5 := hlb.1.2
  have n1 := okT_nw hr.2.2.2.2.2
  have n2 : nw (sft σ (272 + 64 * (nt (σ (1808 + 65 * k + 1))) + 4)) (nt (σ (272 + 64 * (nt (σ (1808 + 65 * k + 1)))))) ≤ 30 := by
    rcases hlb.2 with h0 | h0
    · rw [h0]; simp [nw, cnt]
    · have := okT_nw h0; omega
  have ca := c_apart hM (1808 + 65 * k + 5) (nt (σ (1808 + 65 * k + 4))) (272 + 64 * (nt (σ (1808 + 65 * k + 1))) + 4) (nt (σ (272 + 64 * (nt (σ (1808 + 65 * k + 1)))))) (by omega) (by omega) (by omega) n2
  refine v_aload_n dX8_rewriteOf_0 rfl ?_
  refine v_iload_n dX8_rewriteOf_1 rfl ?_
  refine u_rV1 oX8_placeOf dX8_rewriteOf_2 ml_X8_101 cp hM.1 (by decide) (Nat.le_of_ble_eq_true rfl) (Nat.le_refl _) (Nat.le_refl _) ?_
  refine v_istore_n dX8_rewriteOf_5 (by decide) rfl ?_
  refine v_iload_n dX8_rewriteOf_6 rfl ?_
  refine v_if_geN (tgt := 12) dX8_rewriteOf_7 (by decide) (by omega) ?_
  refine v_iload_n dX8_rewriteOf_12 rfl ?_
  refine v_iconst (v := nI 0) dX8_rewriteOf_13 (by decide) ?_
  refine v_bipush (v := nI 7) dX8_rewriteOf_14 (by decide) ?_
  refine u_rS3 oX8_in dX8_rewriteOf_16 ml_X8_59 (c_inB (nI 6) 7) (by decide) (Nat.le_of_ble_eq_true rfl) (Nat.le_refl _) (Nat.le_refl _) ?_
  refine v_if_neB (tgt := 25) dX8_rewriteOf_19 (by decide) (fun b19 => ?_) (fun b19 => ?_)
  ·
    refine v_iload_n dX8_rewriteOf_25 rfl ?_
    refine u_rS1 oX8_paper dX8_rewriteOf_26 ml_X8_49 (c_paper k) (by decide) (Nat.le_of_ble_eq_true rfl) (Nat.le_refl _) (Nat.le_refl _) ?_
    refine v_istore dX8_rewriteOf_29 (by decide) rfl ?_
    refine v_sipush (v := nI 272) dX8_rewriteOf_31 (by decide) ?_
    refine v_bipush (v := nI 64) dX8_rewriteOf_34 (by decide) ?_
    refine v_aload_n dX8_rewriteOf_36 rfl ?_
    refine v_get 0 dX8_rewriteOf_37 FTX8 (by decide) rfl fl_X8_7 hM.1 rfl ?_
    refine v_iload dX8_rewriteOf_40 rfl ?_
    refine v_iconst (v := nI 1) dX8_rewriteOf_42 (by decide) ?_
    refine v_iaddN dX8_rewriteOf_43 ?_
    refine v_ialdN _ dX8_rewriteOf_44 hM.2.1 rfl (by omega) (by decide) hr.2.1.1 ?_
    refine v_imulN dX8_rewriteOf_45 ?_
    refine v_iaddN dX8_rewriteOf_46 ?_
    refine v_istore dX8_rewriteOf_47 (by decide) rfl ?_
    refine v_iload_n dX8_rewriteOf_49 rfl ?_
    refine v_tableIn (tgt := 160) (off := 110) dX8_rewriteOf_50 (by decide) (by decide) (by decide) (by decide) ?_
    refine v_aload_n dX8_rewriteOf_160 rfl ?_
    refine v_iload dX8_rewriteOf_161 rfl ?_
    refine v_iconst (v := nI 5) dX8_rewriteOf_163 (by decide) ?_
    refine v_iaddN dX8_rewriteOf_164 ?_
    refine v_aload_n dX8_rewriteOf_165 rfl ?_
    refine v_get 0 dX8_rewriteOf_166 FTX8 (by decide) rfl fl_X8_7 hM.1 rfl ?_
    refine v_iload dX8_rewriteOf_169 rfl ?_
    refine v_iconst (v := nI 4) dX8_rewriteOf_171 (by decide) ?_
    refine v_iaddN dX8_rewriteOf_172 ?_
    refine v_ialdN _ dX8_rewriteOf_173 hM.2.1 rfl (by omega) (by decide) hr.2.2.2.2.1.1 ?_
    refine v_iload dX8_rewriteOf_174 rfl ?_
    refine v_iconst (v := nI 4) dX8_rewriteOf_176 (by decide) ?_
    refine v_iaddN dX8_rewriteOf_177 ?_
    refine v_aload_n dX8_rewriteOf_178 rfl ?_
    refine v_get 0 dX8_rewriteOf_179 FTX8 (by decide) rfl fl_X8_7 hM.1 rfl ?_
    refine v_iload dX8_rewriteOf_182 rfl ?_
    refine v_ialdN _ dX8_rewriteOf_184 hM.2.1 rfl (by have := hr.2.1.2; omega) (by decide) (hW.2.2.2.2.2.1 (nt (σ (1808 + 65 * k + 1))) hr.2.1.2).1.1 ?_
    refine v_wV4 oX8_apart dX8_rewriteOf_185 ml_X8_118 ca hM.1 (by decide) (Nat.le_of_ble_eq_true rfl) (Nat.le_refl _) (Nat.le_refl _) (fun r' w1 hq => ?_)
    obtain ⟨rfl, cm1, rfl⟩ := hq
    refine v_eqs (stk' := [.int (rwO σ k x 6)]) rfl ?_
    refine v_iret dX8_rewriteOf_188 rfl (Nat.le_refl _) (Nat.le_refl _) ?_
    exact ⟨rfl, by unfold rewriteOfI; rw [hp]; show _ = some (Value.int (if _ then _ else _)); rw [if_pos (by decide), nt_nI (by omega)], cm1, hM.cm cm1, (frO.rf o w).wu _ (by omega) (by omega)⟩
  ·
    exact absurd b19 (by decide)
set_option maxHeartbeats 1000000 in
set_option maxRecDepth 100000 in
theorem c_rewriteOf7 {w : Wd} {o ns tn : Nat} {kp : Int32} {σ tx cm : Nat → Int32} (hM : MW w o ns tn kp σ tx cm) (hW : WS σ) (x : Int32) (k : Nat) (hp : plO σ x = some k) : Wr mX8_rewriteOf 3 [.ref o, .int x, .int (nI 7)] w (fun r' w' => r' = some (.int (rewriteOfI σ x (nI 7))) ∧ ∃ cm', MW w' o ns tn kp σ tx cm' ∧ frO o w w') := by
  intro sz
  refine Ev.ofV [some (.ref o), some (.int x), some (.int (nI 7)), none, none, none] (by decide) (Nat.le_of_ble_eq_true rfl) rfl rfl rfl ?_
  have cp := c_plO hM x
  rw [hp] at cp
  have cp : Rd mX8_placeOf 1 [.ref o, .int x] w (some (.int (nI k))) := cp
  have hps := plO_some hp
  have hr := hW.rw hps.1 (by rw [hps.2.2]; exact hps.2.1)
  have hk := hps.1
  have hp24 := hr.2.1.2
  have cb : Rd mX8_best 2 [.ref o, .int (nI ((nt (σ (1808 + 65 * k + 1))) / 3)), .int (nI ((nt (σ (1808 + 65 * k + 1))) % 3))] w (some (.int (oI (bst σ (nt (σ (1808 + 65 * k + 1))) (nt (σ 16)) (limW σ ((nt (σ (1808 + 65 * k + 1))) / 3)) 16)))) := by
    have c := c_best hM ((nt (σ (1808 + 65 * k + 1))) / 3) ((nt (σ (1808 + 65 * k + 1))) % 3) ⟨by omega, by omega⟩ (hW.1 _ (by omega)) (hW.2.2.1 _ (hW.1 _ (by omega)).2) hW.2.2.2.1.1 (fun j hj h0 => (hW.rw hj h0).2.2.2.2.1)
    rw [show 3 * ((nt (σ (1808 + 65 * k + 1))) / 3) + (nt (σ (1808 + 65 * k + 1))) % 3 = (nt (σ (1808 + 65 * k + 1))) by omega] at c
    exact c
  refine v_aload_n dX8_rewriteOf_0 rfl ?_
  refine v_iload_n dX8_rewriteOf_1 rfl ?_
  refine u_rV1 oX8_placeOf dX8_rewriteOf_2 ml_X8_101 cp hM.1 (by decide) (Nat.le_of_ble_eq_true rfl) (Nat.le_refl _) (Nat.le_refl _) ?_
  refine v_istore_n dX8_rewriteOf_5 (by decide) rfl ?_
  refine v_iload_n dX8_rewriteOf_6 rfl ?_
  refine v_if_geN (tgt := 12) dX8_rewriteOf_7 (by decide) (by omega) ?_
  refine v_iload_n dX8_rewriteOf_12 rfl ?_
  refine v_iconst (v := nI 0) dX8_rewriteOf_13 (by decide) ?_
  refine v_bipush (v := nI 7) dX8_rewriteOf_14 (by decide) ?_
  refine u_rS3 oX8_in dX8_rewriteOf_16 ml_X8_59 (c_inB (nI 7) 7) (by decide) (Nat.le_of_ble_eq_true rfl) (Nat.le_refl _) (Nat.le_refl _) ?_
  refine v_if_neB (tgt := 25) dX8_rewriteOf_19 (by decide) (fun b19 => ?_) (fun b19 => ?_)
  ·
    refine v_iload_n dX8_rewriteOf_25 rfl ?_
    refine u_rS1 oX8_paper dX8_rewriteOf_26 ml_X8_49 (c_paper k) (by decide) (Nat.le_of_ble_eq_true rfl) (Nat.le_refl _) (Nat.le_refl _) ?_
    refine v_istore dX8_rewriteOf_29 (by decide) rfl ?_
    refine v_sipush (v := nI 272) dX8_rewriteOf_31 (by decide) ?_
    refine v_bipush (v := nI 64) dX8_rewriteOf_34 (by decide) ?_
    refine v_aload_n dX8_rewriteOf_36 rfl ?_
    refine v_get 0 dX8_rewriteOf_37 FTX8 (by decide) rfl fl_X8_7 hM.1 rfl ?_
    refine v_iload dX8_rewriteOf_40 rfl ?_
    refine v_iconst (v := nI 1) dX8_rewriteOf_42 (by decide) ?_
    refine v_iaddN dX8_rewriteOf_43 ?_
    refine v_ialdN _ dX8_rewriteOf_44 hM.2.1 rfl (by omega) (by decide) hr.2.1.1 ?_
    refine v_imulN dX8_rewriteOf_45 ?_
    refine v_iaddN dX8_rewriteOf_46 ?_
    refine v_istore dX8_rewriteOf_47 (by decide) rfl ?_
    refine v_iload_n dX8_rewriteOf_49 rfl ?_
    refine v_tableOut (tgt := 189) dX8_rewriteOf_50 (by decide) (by decide) ?_
    refine v_aload_n dX8_rewriteOf_189 rfl ?_
    refine v_aload_n dX8_rewriteOf_190 rfl ?_
    refine v_get 0 dX8_rewriteOf_191 FTX8 (by decide) rfl fl_X8_7 hM.1 rfl ?_
    refine v_iload dX8_rewriteOf_194 rfl ?_
    refine v_iconst (v := nI 1) dX8_rewriteOf_196 (by decide) ?_
    refine v_iaddN dX8_rewriteOf_197 ?_
    refine v_ialdN _ dX8_rewriteOf_198 hM.2.1 rfl (by omega) (by decide) hr.2.1.1 ?_
    refine v_iconst (v := nI 3) dX8_rewriteOf_199 (by decide) ?_
    refine v_idiv dX8_rewriteOf_200 (by decide) ?_
    rw [nI_div3 hr.2.1.2]
    refine v_aload_n dX8_rewriteOf_201 rfl ?_
    refine v_get 0 dX8_rewriteOf_202 FTX8 (by decide) rfl fl_X8_7 hM.1 rfl ?_
    refine v_iload dX8_rewriteOf_205 rfl ?_
    refine v_iconst (v := nI 1) dX8_rewriteOf_207 (by decide) ?_
    refine v_iaddN dX8_rewriteOf_208 ?_
    refine v_ialdN _ dX8_rewriteOf_209 hM.2.1 rfl (by omega) (by decide) hr.2.1.1 ?_
    refine v_iconst (v := nI 3) dX8_rewriteOf_210 (by decide) ?_
    refine v_irem dX8_rewriteOf_211 (by decide) ?_
    rw [nI_mod3 hr.2.1.2]
    refine u_rV2 oX8_best dX8_rewriteOf_212 ml_X8_104 cb hM.1 (by decide) (Nat.le_of_ble_eq_true rfl) (Nat.le_refl _) (Nat.le_refl _) ?_
    refine v_iload_n dX8_rewriteOf_215 rfl ?_
    refine v_icmp_ne (tgt := 223) dX8_rewriteOf_216 (by decide) (fun b216 => ?_) (fun b216 => ?_)
    ·
      refine v_iconst (v := nI 0) dX8_rewriteOf_223 (by decide) ?_
      refine v_iret dX8_rewriteOf_224 rfl (Nat.le_refl _) (Nat.le_refl _) ?_
      exact ⟨rfl, by unfold rewriteOfI; rw [hp]; show _ = some (Value.int (if _ then _ else _)); rw [if_pos (by decide), nt_nI (by omega)]; show _ = some (Value.int (b2i (decide _))); rw [decide_eq_false b216]; rfl, cm, hM, frO.rf o w⟩
    ·
      refine v_iconst (v := nI 1) dX8_rewriteOf_219 (by decide) ?_
      refine v_goto (tgt := 224) dX8_rewriteOf_220 (by decide) ?_
      refine v_iret dX8_rewriteOf_224 rfl (Nat.le_refl _) (Nat.le_refl _) ?_
      exact ⟨rfl, by unfold rewriteOfI; rw [hp]; show _ = some (Value.int (if _ then _ else _)); rw [if_pos (by decide), nt_nI (by omega)]; show _ = some (Value.int (b2i (decide _))); rw [decide_eq_true b216]; rfl, cm, hM, frO.rf o w⟩
  ·
    exact absurd b19 (by decide)
theorem c_rewriteOf {w : Wd} {o ns tn : Nat} {kp : Int32} {σ tx cm : Nat → Int32} (hM : MW w o ns tn kp σ tx cm) (hW : WS σ) (x z : Int32) : Wr mX8_rewriteOf 3 [.ref o, .int x, .int z] w (fun r' w' => r' = some (.int (rewriteOfI σ x z)) ∧ ∃ cm', MW w' o ns tn kp σ tx cm' ∧ frO o w w') := by
  cases hp : plO σ x with
  | none => exact c_rewriteOf_no hM x z hp
  | some k =>
    by_cases h2 : inB z 7 = false
    · exact c_rewriteOf_out hM hW x z k hp h2
    · have hz := inB_ub (by omega) (bfalse h2)
      have hz2 := hz.2
      rw [hz.1]
      generalize nt z = c at hz2 ⊢
      match c, hz2 with
      | 0, _ => exact c_rewriteOf0 hM hW x k hp
      | 1, _ => exact c_rewriteOf1 hM hW x k hp
      | 2, _ => exact c_rewriteOf2 hM hW x k hp
      | 3, _ => exact c_rewriteOf3 hM hW x k hp
      | 4, _ => exact c_rewriteOf4 hM hW x k hp
      | 5, _ => exact c_rewriteOf5 hM hW x k hp
      | 6, _ => exact c_rewriteOf6 hM hW x k hp
      | 7, _ => exact c_rewriteOf7 hM hW x k hp
end
section
def ownP (σ : Nat → Int32) (v p : Nat) : Nat → Bool := fun k => decide (0 ≤ σ (1808 + 65 * k)) && σ (1808 + 65 * k + 1) == nI p && σ (1808 + 65 * k + 2) == nI v
def befO (σ : Nat → Int32) (v p : Nat) : Option Nat := lsO (ownP σ v p) 16
def freP (σ : Nat → Int32) : Nat → Bool := fun k => decide (σ (1808 + 65 * k) < 0)
def dnO (p : Nat → Bool) : Nat → Option Nat
  | 0 => none
  | i + 1 => if p (15 - i) = true then some (15 - i) else dnO p i
theorem dnI_eq (p : Nat → Bool) : ∀ n, dnI p n = oI (dnO p n)
  | 0 => rfl
  | n + 1 => by
    simp only [dnI, dnO]
    split
    · rfl
    · exact dnI_eq p n
theorem dnO_some {p : Nat → Bool} {k : Nat} : ∀ {n}, dnO p n = some k → k < 16 ∧ p k = true
  | 0, h => by simp [dnO] at h
  | n + 1, h => by
    by_cases e : p (15 - n) = true
    · simp only [dnO, if_pos e] at h
      cases h
      exact ⟨by omega, e⟩
    · simp only [dnO, if_neg e] at h
      exact dnO_some h
/-- the rewrite of the number n is laid into place k -/
def rwtS (s : Nat → Int32) (k p v : Nat) (n : Int32) (tx : Nat → Int32) (tn : Nat) : Nat → Int32 := upd (lay (upd (upd (upd (upd (upd s (1808 + 65 * k) n) (1808 + 65 * k + 1) (nI p)) (1808 + 65 * k + 2) (nI v)) (1808 + 65 * k + 3) (nI 0)) (1808 + 65 * k + 4) (nI tn)) tx (1808 + 65 * k + 5) tn) 18 (n + nI 1)
def rwtR (σ : Nat → Int32) (ns : Nat) (tx : Nat → Int32) (tn v p : Nat) : An := if σ 18 = nI 200 then (-3, ns, σ) else
  match befO σ v p with
  | some b => (σ 18, rcn ns, rwtS (gone (rcS σ ns) b) b p v (σ 18) tx tn)
  | none => match dnO (freP σ) 16 with
    | some k => (σ 18, rcn ns, rwtS (rcS σ ns) k p v (σ 18) tx tn)
    | none => (-3, ns, σ)
def rewriteR (σ : Nat → Int32) (ns : Nat) (tx : Nat → Int32) (tn : Nat) (v x y : Int32) : An := if (inB v 9 && (inB x 7 && inB y 2)) = true then (if flt tx tn < 0 then (if 1 + cnt (bl tx) tn ≤ limW σ (nt x) then (if told (sft σ (272 + 64 * (3 * nt x + nt y) + 4)) tx (ln σ (3 * nt x + nt y)) tn = true then (-4, ns, σ) else rwtR σ ns tx tn (nt v) (3 * nt x + nt y)) else (-6, ns, σ)) else (-100 - flt tx tn, ns, σ)) else (-1, ns, σ)
theorem gone_lo {σ : Nat → Int32} {k q : Nat} (h : q < 32) : gone σ k q = σ q := by
  unfold gone
  rw [up_ne _ _ (by omega)]
  unfold gv
  rw [if_neg (by omega)]
set_option maxHeartbeats 1000000 in
set_option maxRecDepth 100000 in
theorem c_rewrite0 {w : Wd} {o ns tn : Nat} {kp : Int32} {σ tx cm : Nat → Int32} (hM : MW w o ns tn kp σ tx cm) (v x y : Int32) (h : (inB v 9 && (inB x 7 && inB y 2)) = false) : Wr mX8_rewrite 2 [.ref o, .int v, .int x, .int y] w (AnQ w o tn kp tx cm (rewriteR σ ns tx tn v x y)) := by
  intro sz
  refine Ev.ofV [some (.ref o), some (.int v), some (.int x), some (.int y), none, none, none, none] (by decide) (Nat.le_of_ble_eq_true rfl) rfl rfl rfl ?_
  refine v_iload_n dX8_rewrite_0 rfl ?_
  refine v_iconst (v := nI 0) dX8_rewrite_1 (by decide) ?_
  refine v_bipush (v := nI 9) dX8_rewrite_2 (by decide) ?_
  refine u_rS3 oX8_in dX8_rewrite_4 ml_X8_59 (c_inB v 9) (by decide) (Nat.le_of_ble_eq_true rfl) (Nat.le_refl _) (Nat.le_refl _) ?_
  refine v_if_eqB (tgt := 18) dX8_rewrite_7 (by decide) (fun b7 => ?_) (fun b7 => ?_)
  ·
    refine v_iconst (v := -1) dX8_rewrite_18 (by decide) ?_
    refine v_iret dX8_rewrite_19 rfl (Nat.le_refl _) (Nat.le_refl _) ?_
    have e : rewriteR σ ns tx tn v x y = (-1, ns, σ) := by
      unfold rewriteR
      rw [if_neg (by rw [h]; decide)]
    rw [e]
    exact ⟨rfl, rfl, hM, frO.rf o w⟩
  ·
    refine v_iload_n dX8_rewrite_10 rfl ?_
    refine v_iload_n dX8_rewrite_11 rfl ?_
    refine u_rS2 oX8_isPair dX8_rewrite_12 ml_X8_72 (c_isPair x y) (by decide) (Nat.le_of_ble_eq_true rfl) (Nat.le_refl _) (Nat.le_refl _) ?_
    refine v_if_neB (tgt := 20) dX8_rewrite_15 (by decide) (fun b15 => ?_) (fun b15 => ?_)
    ·
      exact absurd h (by rw [b7, b15]; decide)
    ·
      refine v_iconst (v := -1) dX8_rewrite_18 (by decide) ?_
      refine v_iret dX8_rewrite_19 rfl (Nat.le_refl _) (Nat.le_refl _) ?_
      have e : rewriteR σ ns tx tn v x y = (-1, ns, σ) := by
        unfold rewriteR
        rw [if_neg (by rw [h]; decide)]
      rw [e]
      exact ⟨rfl, rfl, hM, frO.rf o w⟩
set_option maxHeartbeats 1000000 in
set_option maxRecDepth 100000 in
theorem c_rewriteA {w : Wd} {o ns tn : Nat} {kp : Int32} {σ tx cm : Nat → Int32} (hM : MW w o ns tn kp σ tx cm) (hns : ns ≤ 4) (hW : WS σ) (ht : tn ≤ 60) (c a b : Nat) (hc : c < 10) (ha : a < 8) (hb : b < 3) (k : Nat) (hq : befO σ c (3 * a + b) = some k) : Wr mX8_rewrite 2 [.ref o, .int (nI c), .int (nI a), .int (nI b)] w (AnQ w o tn kp tx cm (rewriteR σ ns tx tn (nI c) (nI a) (nI b))) := by
  intro sz
  refine Ev.ofV [some (.ref o), some (.int (nI c)), some (.int (nI a)), some (.int (nI b)), none, none, none, none] (by decide) (Nat.le_of_ble_eq_true rfl) rfl rfl rfl ?_
  have hgc : inB (nI c) 9 = true := by rw [inB_nI (by omega) (by omega)]; simp; omega
  have hgp : (inB (nI a) 7 && inB (nI b) 2) = true := by rw [inB_nI (by omega) (by omega), inB_nI (by omega) (by omega)]; simp; omega
  have hgg : (inB (nI c) 9 && (inB (nI a) 7 && inB (nI b) 2)) = true := by rw [hgc, hgp]; rfl
  have hN := hW.2.2.2.2.1.2
  have co : Rd mX8_own 1 [.ref o, .int (nI c), .int (nI (3 * a + b))] w (some (.int (oI (befO σ c (3 * a + b))))) := by
    have c0 := c_own hM c (3 * a + b)
    rw [lst_eq] at c0
    exact c0
  rw [hq] at co
  have co : Rd mX8_own 1 [.ref o, .int (nI c), .int (nI (3 * a + b))] w (some (.int (nI k))) := co
  have hk : k < 16 := (lsO_some hq).1
  refine v_iload_n dX8_rewrite_0 rfl ?_
  refine v_iconst (v := nI 0) dX8_rewrite_1 (by decide) ?_
  refine v_bipush (v := nI 9) dX8_rewrite_2 (by decide) ?_
  refine u_rS3 oX8_in dX8_rewrite_4 ml_X8_59 (c_inB (nI c) 9) (by decide) (Nat.le_of_ble_eq_true rfl) (Nat.le_refl _) (Nat.le_refl _) ?_
  refine v_if_eqB (tgt := 18) dX8_rewrite_7 (by decide) (fun b7 => ?_) (fun b7 => ?_)
  ·
    exact absurd hgc (by rw [b7]; decide)
  ·
    refine v_iload_n dX8_rewrite_10 rfl ?_
    refine v_iload_n dX8_rewrite_11 rfl ?_
    refine u_rS2 oX8_isPair dX8_rewrite_12 ml_X8_72 (c_isPair (nI a) (nI b)) (by decide) (Nat.le_of_ble_eq_true rfl) (Nat.le_refl _) (Nat.le_refl _) ?_
    refine v_if_neB (tgt := 20) dX8_rewrite_15 (by decide) (fun b15 => ?_) (fun b15 => ?_)
    ·
      refine v_aload_n dX8_rewrite_20 rfl ?_
      refine u_rV0 oX8_fault dX8_rewrite_21 ml_X8_78 (c_fault hM ht) hM.1 (by decide) (Nat.le_of_ble_eq_true rfl) (Nat.le_refl _) (Nat.le_refl _) ?_
      refine v_if_lt (tgt := 35) dX8_rewrite_24 (by decide) (fun b24 => ?_) (fun b24 => ?_)
      ·
        refine v_aload_n dX8_rewrite_35 rfl ?_
        refine u_rV0 oX8_wordsTold dX8_rewrite_36 ml_X8_82 (c_wordsTold hM ht) hM.1 (by decide) (Nat.le_of_ble_eq_true rfl) (Nat.le_refl _) (Nat.le_refl _) ?_
        refine v_aload_n dX8_rewrite_39 rfl ?_
        refine v_get 0 dX8_rewrite_40 FTX8 (by decide) rfl fl_X8_7 hM.1 rfl ?_
        refine v_bipush (v := nI 12) dX8_rewrite_43 (by decide) ?_
        refine v_aload_n dX8_rewrite_45 rfl ?_
        refine v_get 0 dX8_rewrite_46 FTX8 (by decide) rfl fl_X8_7 hM.1 rfl ?_
        refine v_iload_n dX8_rewrite_49 rfl ?_
        refine v_ialdN _ dX8_rewrite_50 hM.2.1 rfl (by omega) (by decide) (hW.1 a ha).1 ?_
        refine v_iaddN dX8_rewrite_51 ?_
        refine v_ialdN _ dX8_rewrite_52 hM.2.1 rfl (by have := (hW.1 a ha).2; omega) (by decide) (hW.2.2.1 _ (hW.1 a ha).2).1.1 ?_
        refine v_icmp_leN (tgt := 59) dX8_rewrite_53 (by decide) (by have := cnt_le (bl tx) tn; omega) (by have := (hW.2.2.1 _ (hW.1 a ha).2).1.2; omega) (fun b53 => ?_) (fun b53 => ?_)
        ·
          have b53 : 1 + cnt (bl tx) tn ≤ limW σ a := b53
          refine v_iload_n dX8_rewrite_59 rfl ?_
          refine v_iload_n dX8_rewrite_60 rfl ?_
          refine u_rS2 oX8_rowOf dX8_rewrite_61 ml_X8_28 (c_rowOf a b) (by decide) (Nat.le_of_ble_eq_true rfl) (Nat.le_refl _) (Nat.le_refl _) ?_
          refine v_istore dX8_rewrite_64 (by decide) rfl ?_
          refine v_aload_n dX8_rewrite_66 rfl ?_
          refine v_iload dX8_rewrite_67 rfl ?_
          refine v_iconst (v := nI 4) dX8_rewrite_69 (by decide) ?_
          refine v_iaddN dX8_rewrite_70 ?_
          refine v_aload_n dX8_rewrite_71 rfl ?_
          refine v_get 0 dX8_rewrite_72 FTX8 (by decide) rfl fl_X8_7 hM.1 rfl ?_
          refine v_iload dX8_rewrite_75 rfl ?_
          refine v_ialdN _ dX8_rewrite_77 hM.2.1 rfl (by omega) (by decide) ((hW.2.2.2.2.2.1 (3 * a + b) (by omega)).1).1 ?_
          refine u_rV2 oX8_isTold dX8_rewrite_78 ml_X8_85 (c_isTold hM (272 + 64 * (3 * a + b) + 4) (ln σ (3 * a + b)) (by omega) (by have := ((hW.2.2.2.2.2.1 (3 * a + b) (by omega)).1).2; unfold ln; omega) ht) hM.1 (by decide) (Nat.le_of_ble_eq_true rfl) (Nat.le_refl _) (Nat.le_refl _) ?_
          refine v_if_eqB (tgt := 87) dX8_rewrite_81 (by decide) (fun b81 => ?_) (fun b81 => ?_)
          ·
            refine v_aload_n dX8_rewrite_87 rfl ?_
            refine v_iload_n dX8_rewrite_88 rfl ?_
            refine v_iconst (v := nI 3) dX8_rewrite_89 (by decide) ?_
            refine v_iload_n dX8_rewrite_90 rfl ?_
            refine v_imulN dX8_rewrite_91 ?_
            refine v_iload_n dX8_rewrite_92 rfl ?_
            refine v_iaddN dX8_rewrite_93 ?_
            refine u_rV2 oX8_own dX8_rewrite_94 ml_X8_92 co hM.1 (by decide) (Nat.le_of_ble_eq_true rfl) (Nat.le_refl _) (Nat.le_refl _) ?_
            refine v_istore dX8_rewrite_97 (by decide) rfl ?_
            refine v_iload dX8_rewrite_99 rfl ?_
            refine v_if_ltN (tgt := 109) dX8_rewrite_101 (by decide) (by omega) ?_
            refine v_iload dX8_rewrite_104 rfl ?_
            refine v_goto (tgt := 113) dX8_rewrite_106 (by decide) ?_
            refine v_istore dX8_rewrite_113 (by decide) rfl ?_
            refine v_iload dX8_rewrite_115 rfl ?_
            refine v_if_ltN (tgt := 133) dX8_rewrite_117 (by decide) (by omega) ?_
            refine v_aload_n dX8_rewrite_120 rfl ?_
            refine v_get 0 dX8_rewrite_121 FTX8 (by decide) rfl fl_X8_7 hM.1 rfl ?_
            refine v_bipush (v := nI 18) dX8_rewrite_124 (by decide) ?_
            refine v_ialdN _ dX8_rewrite_126 hM.2.1 rfl (by omega) (by decide) hW.2.2.2.2.1.1 ?_
            refine v_sipush (v := nI 200) dX8_rewrite_127 (by decide) ?_
            refine v_icmp_neN (tgt := 136) dX8_rewrite_130 (by decide) (by have := hW.2.2.2.2.1.2; omega) (by decide) (fun b130 => ?_) (fun b130 => ?_)
            ·
              have h200 : ¬ σ 18 = nI 200 := by
                intro h9
                rw [hW.2.2.2.2.1.1] at h9
                exact b130 (nI_inj (by have := hW.2.2.2.2.1.2; omega) (by decide) h9)
              refine v_aload_n dX8_rewrite_136 rfl ?_
              refine v_wV0 oX8_records dX8_rewrite_137 ml_X8_63 (c_records hM hns) hM.1 (by decide) (Nat.le_of_ble_eq_true rfl) (Nat.le_refl _) (Nat.le_refl _) (fun r' w1 hq => ?_)
              obtain ⟨rfl, h1, f1⟩ := hq
              obtain ⟨σ1, es⟩ : ∃ s, s = rcS σ ns := ⟨_, rfl⟩
              rw [← es] at h1
              refine v_eqw h1.self ?_
              refine v_iload dX8_rewrite_140 rfl ?_
              refine v_if_ltN (tgt := 151) dX8_rewrite_142 (by decide) (by omega) ?_
              refine v_aload_n dX8_rewrite_145 rfl ?_
              refine v_iload dX8_rewrite_146 rfl ?_
              refine n_wV1 oX8_goes dX8_rewrite_148 ml_X8_98 (c_goes (h1.st _) k hk) (h1.st _).1 (by decide) (Nat.le_of_ble_eq_true rfl) (Nat.le_refl _) (Nat.le_refl _) ?_
              refine v_eqw (wu_wu _ _ _ _).symm ?_
              have h18 : gone σ1 k 18 = σ 18 := by rw [gone_lo (by omega), es]; exact rcS_0 (by omega)
              refine v_iload dX8_rewrite_151 rfl ?_
              refine u_rS1 oX8_paper dX8_rewrite_153 ml_X8_49 (c_paper k) (by decide) (Nat.le_of_ble_eq_true rfl) (Nat.le_refl _) (Nat.le_refl _) ?_
              refine v_istore dX8_rewrite_156 (by decide) rfl ?_
              refine v_aload_n dX8_rewrite_158 rfl ?_
              refine v_get 0 dX8_rewrite_159 FTX8 (by decide) rfl fl_X8_7 (h1.st _).1 rfl ?_
              refine v_iload dX8_rewrite_162 rfl ?_
              refine v_aload_n dX8_rewrite_164 rfl ?_
              refine v_get 0 dX8_rewrite_165 FTX8 (by decide) rfl fl_X8_7 (h1.st _).1 rfl ?_
              refine v_bipush (v := nI 18) dX8_rewrite_168 (by decide) ?_
              refine v_ialdE _ dX8_rewrite_170 (h1.st _).2.1 rfl (by omega) (by decide) h18 ?_
              refine v_iast _ dX8_rewrite_171 (h1.st _).2.1 rfl (by omega) (by decide) ?_
              refine v_eqw (wu_wu _ _ _ _).symm ?_
              refine v_aload_n dX8_rewrite_172 rfl ?_
              refine v_get 0 dX8_rewrite_173 FTX8 (by decide) rfl fl_X8_7 (h1.st _).1 rfl ?_
              refine v_iload dX8_rewrite_176 rfl ?_
              refine v_iconst (v := nI 1) dX8_rewrite_178 (by decide) ?_
              refine v_iaddN dX8_rewrite_179 ?_
              refine v_iconst (v := nI 3) dX8_rewrite_180 (by decide) ?_
              refine v_iload_n dX8_rewrite_181 rfl ?_
              refine v_imulN dX8_rewrite_182 ?_
              refine v_iload_n dX8_rewrite_183 rfl ?_
              refine v_iaddN dX8_rewrite_184 ?_
              refine v_iast _ dX8_rewrite_185 (h1.st _).2.1 rfl (by omega) (by decide) ?_
              refine v_eqw (wu_wu _ _ _ _).symm ?_
              refine v_aload_n dX8_rewrite_186 rfl ?_
              refine v_get 0 dX8_rewrite_187 FTX8 (by decide) rfl fl_X8_7 (h1.st _).1 rfl ?_
              refine v_iload dX8_rewrite_190 rfl ?_
              refine v_iconst (v := nI 2) dX8_rewrite_192 (by decide) ?_
              refine v_iaddN dX8_rewrite_193 ?_
              refine v_iload_n dX8_rewrite_194 rfl ?_
              refine v_iast _ dX8_rewrite_195 (h1.st _).2.1 rfl (by omega) (by decide) ?_
              refine v_eqw (wu_wu _ _ _ _).symm ?_
              refine v_aload_n dX8_rewrite_196 rfl ?_
              refine v_get 0 dX8_rewrite_197 FTX8 (by decide) rfl fl_X8_7 (h1.st _).1 rfl ?_
              refine v_iload dX8_rewrite_200 rfl ?_
              refine v_iconst (v := nI 3) dX8_rewrite_202 (by decide) ?_
              refine v_iaddN dX8_rewrite_203 ?_
              refine v_iconst (v := nI 0) dX8_rewrite_204 (by decide) ?_
              refine v_iast _ dX8_rewrite_205 (h1.st _).2.1 rfl (by omega) (by decide) ?_
              refine v_eqw (wu_wu _ _ _ _).symm ?_
              refine v_aload_n dX8_rewrite_206 rfl ?_
              refine v_get 0 dX8_rewrite_207 FTX8 (by decide) rfl fl_X8_7 (h1.st _).1 rfl ?_
              refine v_iload dX8_rewrite_210 rfl ?_
              refine v_iconst (v := nI 4) dX8_rewrite_212 (by decide) ?_
              refine v_iaddN dX8_rewrite_213 ?_
              refine v_aload_n dX8_rewrite_214 rfl ?_
              refine v_get 4 dX8_rewrite_215 FTX8 (by decide) rfl fl_X8_56 (h1.st _).1 rfl ?_
              refine v_iast _ dX8_rewrite_218 (h1.st _).2.1 rfl (by omega) (by decide) ?_
              refine v_eqw (wu_wu _ _ _ _).symm ?_
              refine v_aload_n dX8_rewrite_219 rfl ?_
              refine v_iload dX8_rewrite_220 rfl ?_
              refine v_iconst (v := nI 5) dX8_rewrite_222 (by decide) ?_
              refine v_iaddN dX8_rewrite_223 ?_
              refine n_wV1 oX8_lays dX8_rewrite_224 ml_X8_88 (c_lays (h1.st _) (1808 + 65 * k + 5) (by omega) ht) (h1.st _).1 (by decide) (Nat.le_of_ble_eq_true rfl) (Nat.le_refl _) (Nat.le_refl _) ?_
              refine v_eqw (wu_wu _ _ _ _).symm ?_
              refine v_aload_n dX8_rewrite_227 rfl ?_
              refine v_get 0 dX8_rewrite_228 FTX8 (by decide) rfl fl_X8_7 (h1.st _).1 rfl ?_
              refine v_bipush (v := nI 18) dX8_rewrite_231 (by decide) ?_
              refine v_dup2 dX8_rewrite_233 rfl rfl ?_
              refine v_ialdE _ dX8_rewrite_234 (h1.st _).2.1 rfl (by omega) (by decide) ((lay_out (by omega)).trans ((up_ne _ _ (by omega)).trans ((up_ne _ _ (by omega)).trans ((up_ne _ _ (by omega)).trans ((up_ne _ _ (by omega)).trans ((up_ne _ _ (by omega)).trans h18)))))) ?_
              refine v_iconst (v := nI 1) dX8_rewrite_235 (by decide) ?_
              refine v_iadd dX8_rewrite_236 ?_
              refine v_iast _ dX8_rewrite_237 (h1.st _).2.1 rfl (by omega) (by decide) ?_
              refine v_eqw (wu_wu _ _ _ _).symm ?_
              refine v_aload_n dX8_rewrite_238 rfl ?_
              refine v_get 0 dX8_rewrite_239 FTX8 (by decide) rfl fl_X8_7 (h1.st _).1 rfl ?_
              refine v_iload dX8_rewrite_242 rfl ?_
              refine v_ialdE _ dX8_rewrite_244 (h1.st _).2.1 rfl (by omega) (by decide) ((up_ne _ _ (by omega)).trans ((lay_out (by omega)).trans ((up_ne _ _ (by omega)).trans ((up_ne _ _ (by omega)).trans ((up_ne _ _ (by omega)).trans ((up_ne _ _ (by omega)).trans (up_eq _ _ _))))))) ?_
              refine v_iret dX8_rewrite_245 rfl (Nat.le_refl _) (Nat.le_refl _) ?_
              have e : rewriteR σ ns tx tn (nI c) (nI a) (nI b) = (σ 18, rcn ns, rwtS (gone σ1 k) k (3 * a + b) c (σ 18) tx tn) := by
                subst es
                unfold rewriteR
                rw [if_pos hgg, nt_nI (n := a) (by omega), nt_nI (n := b) (by omega), nt_nI (n := c) (by omega), if_pos b24, if_pos b53, if_neg (by rw [b81]; decide)]
                unfold rwtR
                rw [if_neg h200]
                rw [hq]
              rw [e]
              exact ⟨rfl, AnQ.mk (h1.st _) (f1.wu _ (by omega) (by omega))⟩
            ·
              refine v_bipush (v := -3) dX8_rewrite_133 (by decide) ?_
              refine v_iret dX8_rewrite_135 rfl (Nat.le_refl _) (Nat.le_refl _) ?_
              have e : rewriteR σ ns tx tn (nI c) (nI a) (nI b) = (-3, ns, σ) := by
                unfold rewriteR
                rw [if_pos hgg, nt_nI (n := a) (by omega), nt_nI (n := b) (by omega), nt_nI (n := c) (by omega), if_pos b24, if_pos b53, if_neg (by rw [b81]; decide)]
                unfold rwtR
                rw [if_pos (by rw [hW.2.2.2.2.1.1, b130])]
              rw [e]
              exact ⟨rfl, rfl, hM, frO.rf o w⟩
          ·
            refine v_bipush (v := -4) dX8_rewrite_84 (by decide) ?_
            refine v_iret dX8_rewrite_86 rfl (Nat.le_refl _) (Nat.le_refl _) ?_
            have e : rewriteR σ ns tx tn (nI c) (nI a) (nI b) = (-4, ns, σ) := by
              unfold rewriteR
              rw [if_pos hgg, nt_nI (n := a) (by omega), nt_nI (n := b) (by omega), nt_nI (n := c) (by omega), if_pos b24, if_pos b53, if_pos b81]
            rw [e]
            exact ⟨rfl, rfl, hM, frO.rf o w⟩
        ·
          have b53 : ¬ 1 + cnt (bl tx) tn ≤ limW σ a := b53
          refine v_bipush (v := -6) dX8_rewrite_56 (by decide) ?_
          refine v_iret dX8_rewrite_58 rfl (Nat.le_refl _) (Nat.le_refl _) ?_
          have e : rewriteR σ ns tx tn (nI c) (nI a) (nI b) = (-6, ns, σ) := by
            unfold rewriteR
            rw [if_pos hgg, nt_nI (n := a) (by omega), nt_nI (n := b) (by omega), nt_nI (n := c) (by omega), if_pos b24, if_neg b53]
          rw [e]
          exact ⟨rfl, rfl, hM, frO.rf o w⟩
      ·
        refine v_bipush (v := -100) dX8_rewrite_27 (by decide) ?_
        refine v_aload_n dX8_rewrite_29 rfl ?_
        refine u_rV0 oX8_fault dX8_rewrite_30 ml_X8_78 (c_fault hM ht) hM.1 (by decide) (Nat.le_of_ble_eq_true rfl) (Nat.le_refl _) (Nat.le_refl _) ?_
        refine v_isub dX8_rewrite_33 ?_
        refine v_iret dX8_rewrite_34 rfl (Nat.le_refl _) (Nat.le_refl _) ?_
        have e : rewriteR σ ns tx tn (nI c) (nI a) (nI b) = (-100 - flt tx tn, ns, σ) := by
          unfold rewriteR
          rw [if_pos hgg, nt_nI (n := a) (by omega), nt_nI (n := b) (by omega), nt_nI (n := c) (by omega), if_neg b24]
        rw [e]
        exact ⟨rfl, rfl, hM, frO.rf o w⟩
    ·
      exact absurd hgp (by rw [b15]; decide)
set_option maxHeartbeats 1000000 in
set_option maxRecDepth 100000 in
theorem c_rewriteB {w : Wd} {o ns tn : Nat} {kp : Int32} {σ tx cm : Nat → Int32} (hM : MW w o ns tn kp σ tx cm) (hns : ns ≤ 4) (hW : WS σ) (ht : tn ≤ 60) (c a b : Nat) (hc : c < 10) (ha : a < 8) (hb : b < 3) (k : Nat) (hq : befO σ c (3 * a + b) = none) (hf : dnO (freP σ) 16 = some k) : Wr mX8_rewrite 2 [.ref o, .int (nI c), .int (nI a), .int (nI b)] w (AnQ w o tn kp tx cm (rewriteR σ ns tx tn (nI c) (nI a) (nI b))) := by
  intro sz
  refine Ev.ofV [some (.ref o), some (.int (nI c)), some (.int (nI a)), some (.int (nI b)), none, none, none, none] (by decide) (Nat.le_of_ble_eq_true rfl) rfl rfl rfl ?_
  have hgc : inB (nI c) 9 = true := by rw [inB_nI (by omega) (by omega)]; simp; omega
  have hgp : (inB (nI a) 7 && inB (nI b) 2) = true := by rw [inB_nI (by omega) (by omega), inB_nI (by omega) (by omega)]; simp; omega
  have hgg : (inB (nI c) 9 && (inB (nI a) 7 && inB (nI b) 2)) = true := by rw [hgc, hgp]; rfl
  have hN := hW.2.2.2.2.1.2
  have co : Rd mX8_own 1 [.ref o, .int (nI c), .int (nI (3 * a + b))] w (some (.int (oI (befO σ c (3 * a + b))))) := by
    have c0 := c_own hM c (3 * a + b)
    rw [lst_eq] at c0
    exact c0
  rw [hq] at co
  have co : Rd mX8_own 1 [.ref o, .int (nI c), .int (nI (3 * a + b))] w (some (.int (-1))) := co
  have cf : Rd mX8_free 1 [.ref o] w (some (.int (oI (dnO (freP σ) 16)))) := by
    have c0 := c_free hM
    rw [dnI_eq] at c0
    exact c0
  rw [hf] at cf
  have cf : Rd mX8_free 1 [.ref o] w (some (.int (nI k))) := cf
  have hk : k < 16 := (dnO_some hf).1
  refine v_iload_n dX8_rewrite_0 rfl ?_
  refine v_iconst (v := nI 0) dX8_rewrite_1 (by decide) ?_
  refine v_bipush (v := nI 9) dX8_rewrite_2 (by decide) ?_
  refine u_rS3 oX8_in dX8_rewrite_4 ml_X8_59 (c_inB (nI c) 9) (by decide) (Nat.le_of_ble_eq_true rfl) (Nat.le_refl _) (Nat.le_refl _) ?_
  refine v_if_eqB (tgt := 18) dX8_rewrite_7 (by decide) (fun b7 => ?_) (fun b7 => ?_)
  ·
    exact absurd hgc (by rw [b7]; decide)
  ·
    refine v_iload_n dX8_rewrite_10 rfl ?_
    refine v_iload_n dX8_rewrite_11 rfl ?_
    refine u_rS2 oX8_isPair dX8_rewrite_12 ml_X8_72 (c_isPair (nI a) (nI b)) (by decide) (Nat.le_of_ble_eq_true rfl) (Nat.le_refl _) (Nat.le_refl _) ?_
    refine v_if_neB (tgt := 20) dX8_rewrite_15 (by decide) (fun b15 => ?_) (fun b15 => ?_)
    ·
      refine v_aload_n dX8_rewrite_20 rfl ?_
      refine u_rV0 oX8_fault dX8_rewrite_21 ml_X8_78 (c_fault hM ht) hM.1 (by decide) (Nat.le_of_ble_eq_true rfl) (Nat.le_refl _) (Nat.le_refl _) ?_
      refine v_if_lt (tgt := 35) dX8_rewrite_24 (by decide) (fun b24 => ?_) (fun b24 => ?_)
      ·
        refine v_aload_n dX8_rewrite_35 rfl ?_
        refine u_rV0 oX8_wordsTold dX8_rewrite_36 ml_X8_82 (c_wordsTold hM ht) hM.1 (by decide) (Nat.le_of_ble_eq_true rfl) (Nat.le_refl _) (Nat.le_refl _) ?_
        refine v_aload_n dX8_rewrite_39 rfl ?_
        refine v_get 0 dX8_rewrite_40 FTX8 (by decide) rfl fl_X8_7 hM.1 rfl ?_
        refine v_bipush (v := nI 12) dX8_rewrite_43 (by decide) ?_
        refine v_aload_n dX8_rewrite_45 rfl ?_
        refine v_get 0 dX8_rewrite_46 FTX8 (by decide) rfl fl_X8_7 hM.1 rfl ?_
        refine v_iload_n dX8_rewrite_49 rfl ?_
        refine v_ialdN _ dX8_rewrite_50 hM.2.1 rfl (by omega) (by decide) (hW.1 a ha).1 ?_
        refine v_iaddN dX8_rewrite_51 ?_
        refine v_ialdN _ dX8_rewrite_52 hM.2.1 rfl (by have := (hW.1 a ha).2; omega) (by decide) (hW.2.2.1 _ (hW.1 a ha).2).1.1 ?_
        refine v_icmp_leN (tgt := 59) dX8_rewrite_53 (by decide) (by have := cnt_le (bl tx) tn; omega) (by have := (hW.2.2.1 _ (hW.1 a ha).2).1.2; omega) (fun b53 => ?_) (fun b53 => ?_)
        ·
          have b53 : 1 + cnt (bl tx) tn ≤ limW σ a := b53
          refine v_iload_n dX8_rewrite_59 rfl ?_
          refine v_iload_n dX8_rewrite_60 rfl ?_
          refine u_rS2 oX8_rowOf dX8_rewrite_61 ml_X8_28 (c_rowOf a b) (by decide) (Nat.le_of_ble_eq_true rfl) (Nat.le_refl _) (Nat.le_refl _) ?_
          refine v_istore dX8_rewrite_64 (by decide) rfl ?_
          refine v_aload_n dX8_rewrite_66 rfl ?_
          refine v_iload dX8_rewrite_67 rfl ?_
          refine v_iconst (v := nI 4) dX8_rewrite_69 (by decide) ?_
          refine v_iaddN dX8_rewrite_70 ?_
          refine v_aload_n dX8_rewrite_71 rfl ?_
          refine v_get 0 dX8_rewrite_72 FTX8 (by decide) rfl fl_X8_7 hM.1 rfl ?_
          refine v_iload dX8_rewrite_75 rfl ?_
          refine v_ialdN _ dX8_rewrite_77 hM.2.1 rfl (by omega) (by decide) ((hW.2.2.2.2.2.1 (3 * a + b) (by omega)).1).1 ?_
          refine u_rV2 oX8_isTold dX8_rewrite_78 ml_X8_85 (c_isTold hM (272 + 64 * (3 * a + b) + 4) (ln σ (3 * a + b)) (by omega) (by have := ((hW.2.2.2.2.2.1 (3 * a + b) (by omega)).1).2; unfold ln; omega) ht) hM.1 (by decide) (Nat.le_of_ble_eq_true rfl) (Nat.le_refl _) (Nat.le_refl _) ?_
          refine v_if_eqB (tgt := 87) dX8_rewrite_81 (by decide) (fun b81 => ?_) (fun b81 => ?_)
          ·
            refine v_aload_n dX8_rewrite_87 rfl ?_
            refine v_iload_n dX8_rewrite_88 rfl ?_
            refine v_iconst (v := nI 3) dX8_rewrite_89 (by decide) ?_
            refine v_iload_n dX8_rewrite_90 rfl ?_
            refine v_imulN dX8_rewrite_91 ?_
            refine v_iload_n dX8_rewrite_92 rfl ?_
            refine v_iaddN dX8_rewrite_93 ?_
            refine u_rV2 oX8_own dX8_rewrite_94 ml_X8_92 co hM.1 (by decide) (Nat.le_of_ble_eq_true rfl) (Nat.le_refl _) (Nat.le_refl _) ?_
            refine v_istore dX8_rewrite_97 (by decide) rfl ?_
            refine v_iload dX8_rewrite_99 rfl ?_
            refine v_if_lt (tgt := 109) dX8_rewrite_101 (by decide) (fun b101 => ?_) (fun b101 => ?_)
            ·
              refine v_aload_n dX8_rewrite_109 rfl ?_
              refine u_rV0 oX8_free dX8_rewrite_110 ml_X8_95 cf hM.1 (by decide) (Nat.le_of_ble_eq_true rfl) (Nat.le_refl _) (Nat.le_refl _) ?_
              refine v_istore dX8_rewrite_113 (by decide) rfl ?_
              refine v_iload dX8_rewrite_115 rfl ?_
              refine v_if_ltN (tgt := 133) dX8_rewrite_117 (by decide) (by omega) ?_
              refine v_aload_n dX8_rewrite_120 rfl ?_
              refine v_get 0 dX8_rewrite_121 FTX8 (by decide) rfl fl_X8_7 hM.1 rfl ?_
              refine v_bipush (v := nI 18) dX8_rewrite_124 (by decide) ?_
              refine v_ialdN _ dX8_rewrite_126 hM.2.1 rfl (by omega) (by decide) hW.2.2.2.2.1.1 ?_
              refine v_sipush (v := nI 200) dX8_rewrite_127 (by decide) ?_
              refine v_icmp_neN (tgt := 136) dX8_rewrite_130 (by decide) (by have := hW.2.2.2.2.1.2; omega) (by decide) (fun b130 => ?_) (fun b130 => ?_)
              ·
                have h200 : ¬ σ 18 = nI 200 := by
                  intro h9
                  rw [hW.2.2.2.2.1.1] at h9
                  exact b130 (nI_inj (by have := hW.2.2.2.2.1.2; omega) (by decide) h9)
                refine v_aload_n dX8_rewrite_136 rfl ?_
                refine v_wV0 oX8_records dX8_rewrite_137 ml_X8_63 (c_records hM hns) hM.1 (by decide) (Nat.le_of_ble_eq_true rfl) (Nat.le_refl _) (Nat.le_refl _) (fun r' w1 hq => ?_)
                obtain ⟨rfl, h1, f1⟩ := hq
                obtain ⟨σ1, es⟩ : ∃ s, s = rcS σ ns := ⟨_, rfl⟩
                rw [← es] at h1
                refine v_eqw h1.self ?_
                have h18 : σ1 18 = σ 18 := by rw [es]; exact rcS_0 (by omega)
                refine v_iload dX8_rewrite_140 rfl ?_
                refine v_if_lt (tgt := 151) dX8_rewrite_142 (by decide) (fun b142 => ?_) (fun b142 => ?_)
                ·
                  refine v_iload dX8_rewrite_151 rfl ?_
                  refine u_rS1 oX8_paper dX8_rewrite_153 ml_X8_49 (c_paper k) (by decide) (Nat.le_of_ble_eq_true rfl) (Nat.le_refl _) (Nat.le_refl _) ?_
                  refine v_istore dX8_rewrite_156 (by decide) rfl ?_
                  refine v_aload_n dX8_rewrite_158 rfl ?_
                  refine v_get 0 dX8_rewrite_159 FTX8 (by decide) rfl fl_X8_7 (h1.st _).1 rfl ?_
                  refine v_iload dX8_rewrite_162 rfl ?_
                  refine v_aload_n dX8_rewrite_164 rfl ?_
                  refine v_get 0 dX8_rewrite_165 FTX8 (by decide) rfl fl_X8_7 (h1.st _).1 rfl ?_
                  refine v_bipush (v := nI 18) dX8_rewrite_168 (by decide) ?_
                  refine v_ialdE _ dX8_rewrite_170 (h1.st _).2.1 rfl (by omega) (by decide) h18 ?_
                  refine v_iast _ dX8_rewrite_171 (h1.st _).2.1 rfl (by omega) (by decide) ?_
                  refine v_eqw (wu_wu _ _ _ _).symm ?_
                  refine v_aload_n dX8_rewrite_172 rfl ?_
                  refine v_get 0 dX8_rewrite_173 FTX8 (by decide) rfl fl_X8_7 (h1.st _).1 rfl ?_
                  refine v_iload dX8_rewrite_176 rfl ?_
                  refine v_iconst (v := nI 1) dX8_rewrite_178 (by decide) ?_
                  refine v_iaddN dX8_rewrite_179 ?_
                  refine v_iconst (v := nI 3) dX8_rewrite_180 (by decide) ?_
                  refine v_iload_n dX8_rewrite_181 rfl ?_
                  refine v_imulN dX8_rewrite_182 ?_
                  refine v_iload_n dX8_rewrite_183 rfl ?_
                  refine v_iaddN dX8_rewrite_184 ?_
                  refine v_iast _ dX8_rewrite_185 (h1.st _).2.1 rfl (by omega) (by decide) ?_
                  refine v_eqw (wu_wu _ _ _ _).symm ?_
                  refine v_aload_n dX8_rewrite_186 rfl ?_
                  refine v_get 0 dX8_rewrite_187 FTX8 (by decide) rfl fl_X8_7 (h1.st _).1 rfl ?_
                  refine v_iload dX8_rewrite_190 rfl ?_
                  refine v_iconst (v := nI 2) dX8_rewrite_192 (by decide) ?_
                  refine v_iaddN dX8_rewrite_193 ?_
                  refine v_iload_n dX8_rewrite_194 rfl ?_
                  refine v_iast _ dX8_rewrite_195 (h1.st _).2.1 rfl (by omega) (by decide) ?_
                  refine v_eqw (wu_wu _ _ _ _).symm ?_
                  refine v_aload_n dX8_rewrite_196 rfl ?_
                  refine v_get 0 dX8_rewrite_197 FTX8 (by decide) rfl fl_X8_7 (h1.st _).1 rfl ?_
                  refine v_iload dX8_rewrite_200 rfl ?_
                  refine v_iconst (v := nI 3) dX8_rewrite_202 (by decide) ?_
                  refine v_iaddN dX8_rewrite_203 ?_
                  refine v_iconst (v := nI 0) dX8_rewrite_204 (by decide) ?_
                  refine v_iast _ dX8_rewrite_205 (h1.st _).2.1 rfl (by omega) (by decide) ?_
                  refine v_eqw (wu_wu _ _ _ _).symm ?_
                  refine v_aload_n dX8_rewrite_206 rfl ?_
                  refine v_get 0 dX8_rewrite_207 FTX8 (by decide) rfl fl_X8_7 (h1.st _).1 rfl ?_
                  refine v_iload dX8_rewrite_210 rfl ?_
                  refine v_iconst (v := nI 4) dX8_rewrite_212 (by decide) ?_
                  refine v_iaddN dX8_rewrite_213 ?_
                  refine v_aload_n dX8_rewrite_214 rfl ?_
                  refine v_get 4 dX8_rewrite_215 FTX8 (by decide) rfl fl_X8_56 (h1.st _).1 rfl ?_
                  refine v_iast _ dX8_rewrite_218 (h1.st _).2.1 rfl (by omega) (by decide) ?_
                  refine v_eqw (wu_wu _ _ _ _).symm ?_
                  refine v_aload_n dX8_rewrite_219 rfl ?_
                  refine v_iload dX8_rewrite_220 rfl ?_
                  refine v_iconst (v := nI 5) dX8_rewrite_222 (by decide) ?_
                  refine v_iaddN dX8_rewrite_223 ?_
                  refine n_wV1 oX8_lays dX8_rewrite_224 ml_X8_88 (c_lays (h1.st _) (1808 + 65 * k + 5) (by omega) ht) (h1.st _).1 (by decide) (Nat.le_of_ble_eq_true rfl) (Nat.le_refl _) (Nat.le_refl _) ?_
                  refine v_eqw (wu_wu _ _ _ _).symm ?_
                  refine v_aload_n dX8_rewrite_227 rfl ?_
                  refine v_get 0 dX8_rewrite_228 FTX8 (by decide) rfl fl_X8_7 (h1.st _).1 rfl ?_
                  refine v_bipush (v := nI 18) dX8_rewrite_231 (by decide) ?_
                  refine v_dup2 dX8_rewrite_233 rfl rfl ?_
                  refine v_ialdE _ dX8_rewrite_234 (h1.st _).2.1 rfl (by omega) (by decide) ((lay_out (by omega)).trans ((up_ne _ _ (by omega)).trans ((up_ne _ _ (by omega)).trans ((up_ne _ _ (by omega)).trans ((up_ne _ _ (by omega)).trans ((up_ne _ _ (by omega)).trans h18)))))) ?_
                  refine v_iconst (v := nI 1) dX8_rewrite_235 (by decide) ?_
                  refine v_iadd dX8_rewrite_236 ?_
                  refine v_iast _ dX8_rewrite_237 (h1.st _).2.1 rfl (by omega) (by decide) ?_
                  refine v_eqw (wu_wu _ _ _ _).symm ?_
                  refine v_aload_n dX8_rewrite_238 rfl ?_
                  refine v_get 0 dX8_rewrite_239 FTX8 (by decide) rfl fl_X8_7 (h1.st _).1 rfl ?_
                  refine v_iload dX8_rewrite_242 rfl ?_
                  refine v_ialdE _ dX8_rewrite_244 (h1.st _).2.1 rfl (by omega) (by decide) ((up_ne _ _ (by omega)).trans ((lay_out (by omega)).trans ((up_ne _ _ (by omega)).trans ((up_ne _ _ (by omega)).trans ((up_ne _ _ (by omega)).trans ((up_ne _ _ (by omega)).trans (up_eq _ _ _))))))) ?_
                  refine v_iret dX8_rewrite_245 rfl (Nat.le_refl _) (Nat.le_refl _) ?_
                  have e : rewriteR σ ns tx tn (nI c) (nI a) (nI b) = (σ 18, rcn ns, rwtS σ1 k (3 * a + b) c (σ 18) tx tn) := by
                    subst es
                    unfold rewriteR
                    rw [if_pos hgg, nt_nI (n := a) (by omega), nt_nI (n := b) (by omega), nt_nI (n := c) (by omega), if_pos b24, if_pos b53, if_neg (by rw [b81]; decide)]
                    unfold rwtR
                    rw [if_neg h200]
                    rw [hq, hf]
                  rw [e]
                  exact ⟨rfl, AnQ.mk (h1.st _) (f1.wu _ (by omega) (by omega))⟩
                ·
                  exact absurd (by decide) b142
              ·
                refine v_bipush (v := -3) dX8_rewrite_133 (by decide) ?_
                refine v_iret dX8_rewrite_135 rfl (Nat.le_refl _) (Nat.le_refl _) ?_
                have e : rewriteR σ ns tx tn (nI c) (nI a) (nI b) = (-3, ns, σ) := by
                  unfold rewriteR
                  rw [if_pos hgg, nt_nI (n := a) (by omega), nt_nI (n := b) (by omega), nt_nI (n := c) (by omega), if_pos b24, if_pos b53, if_neg (by rw [b81]; decide)]
                  unfold rwtR
                  rw [if_pos (by rw [hW.2.2.2.2.1.1, b130])]
                rw [e]
                exact ⟨rfl, rfl, hM, frO.rf o w⟩
            ·
              exact absurd (by decide) b101
          ·
            refine v_bipush (v := -4) dX8_rewrite_84 (by decide) ?_
            refine v_iret dX8_rewrite_86 rfl (Nat.le_refl _) (Nat.le_refl _) ?_
            have e : rewriteR σ ns tx tn (nI c) (nI a) (nI b) = (-4, ns, σ) := by
              unfold rewriteR
              rw [if_pos hgg, nt_nI (n := a) (by omega), nt_nI (n := b) (by omega), nt_nI (n := c) (by omega), if_pos b24, if_pos b53, if_pos b81]
            rw [e]
            exact ⟨rfl, rfl, hM, frO.rf o w⟩
        ·
          have b53 : ¬ 1 + cnt (bl tx) tn ≤ limW σ a := b53
          refine v_bipush (v := -6) dX8_rewrite_56 (by decide) ?_
          refine v_iret dX8_rewrite_58 rfl (Nat.le_refl _) (Nat.le_refl _) ?_
          have e : rewriteR σ ns tx tn (nI c) (nI a) (nI b) = (-6, ns, σ) := by
            unfold rewriteR
            rw [if_pos hgg, nt_nI (n := a) (by omega), nt_nI (n := b) (by omega), nt_nI (n := c) (by omega), if_pos b24, if_neg b53]
          rw [e]
          exact ⟨rfl, rfl, hM, frO.rf o w⟩
      ·
        refine v_bipush (v := -100) dX8_rewrite_27 (by decide) ?_
        refine v_aload_n dX8_rewrite_29 rfl ?_
        refine u_rV0 oX8_fault dX8_rewrite_30 ml_X8_78 (c_fault hM ht) hM.1 (by decide) (Nat.le_of_ble_eq_true rfl) (Nat.le_refl _) (Nat.le_refl _) ?_
        refine v_isub dX8_rewrite_33 ?_
        refine v_iret dX8_rewrite_34 rfl (Nat.le_refl _) (Nat.le_refl _) ?_
        have e : rewriteR σ ns tx tn (nI c) (nI a) (nI b) = (-100 - flt tx tn, ns, σ) := by
          unfold rewriteR
          rw [if_pos hgg, nt_nI (n := a) (by omega), nt_nI (n := b) (by omega), nt_nI (n := c) (by omega), if_neg b24]
        rw [e]
        exact ⟨rfl, rfl, hM, frO.rf o w⟩
    ·
      exact absurd hgp (by rw [b15]; decide)
set_option maxHeartbeats 1000000 in
set_option maxRecDepth 100000 in
theorem c_rewriteC {w : Wd} {o ns tn : Nat} {kp : Int32} {σ tx cm : Nat → Int32} (hM : MW w o ns tn kp σ tx cm) (hns : ns ≤ 4) (hW : WS σ) (ht : tn ≤ 60) (c a b : Nat) (hc : c < 10) (ha : a < 8) (hb : b < 3) (hq : befO σ c (3 * a + b) = none) (hf : dnO (freP σ) 16 = none) : Wr mX8_rewrite 2 [.ref o, .int (nI c), .int (nI a), .int (nI b)] w (AnQ w o tn kp tx cm (rewriteR σ ns tx tn (nI c) (nI a) (nI b))) := by
  intro sz
  refine Ev.ofV [some (.ref o), some (.int (nI c)), some (.int (nI a)), some (.int (nI b)), none, none, none, none] (by decide) (Nat.le_of_ble_eq_true rfl) rfl rfl rfl ?_
  have hgc : inB (nI c) 9 = true := by rw [inB_nI (by omega) (by omega)]; simp; omega
  have hgp : (inB (nI a) 7 && inB (nI b) 2) = true := by rw [inB_nI (by omega) (by omega), inB_nI (by omega) (by omega)]; simp; omega
  have hgg : (inB (nI c) 9 && (inB (nI a) 7 && inB (nI b) 2)) = true := by rw [hgc, hgp]; rfl
  have hN := hW.2.2.2.2.1.2
  have co : Rd mX8_own 1 [.ref o, .int (nI c), .int (nI (3 * a + b))] w (some (.int (oI (befO σ c (3 * a + b))))) := by
    have c0 := c_own hM c (3 * a + b)
    rw [lst_eq] at c0
    exact c0
  rw [hq] at co
  have co : Rd mX8_own 1 [.ref o, .int (nI c), .int (nI (3 * a + b))] w (some (.int (-1))) := co
  have cf : Rd mX8_free 1 [.ref o] w (some (.int (oI (dnO (freP σ) 16)))) := by
    have c0 := c_free hM
    rw [dnI_eq] at c0
    exact c0
  rw [hf] at cf
  have cf : Rd mX8_free 1 [.ref o] w (some (.int (-1))) := cf
  refine v_iload_n dX8_rewrite_0 rfl ?_
  refine v_iconst (v := nI 0) dX8_rewrite_1 (by decide) ?_
  refine v_bipush (v := nI 9) dX8_rewrite_2 (by decide) ?_
  refine u_rS3 oX8_in dX8_rewrite_4 ml_X8_59 (c_inB (nI c) 9) (by decide) (Nat.le_of_ble_eq_true rfl) (Nat.le_refl _) (Nat.le_refl _) ?_
  refine v_if_eqB (tgt := 18) dX8_rewrite_7 (by decide) (fun b7 => ?_) (fun b7 => ?_)
  ·
    exact absurd hgc (by rw [b7]; decide)
  ·
    refine v_iload_n dX8_rewrite_10 rfl ?_
    refine v_iload_n dX8_rewrite_11 rfl ?_
    refine u_rS2 oX8_isPair dX8_rewrite_12 ml_X8_72 (c_isPair (nI a) (nI b)) (by decide) (Nat.le_of_ble_eq_true rfl) (Nat.le_refl _) (Nat.le_refl _) ?_
    refine v_if_neB (tgt := 20) dX8_rewrite_15 (by decide) (fun b15 => ?_) (fun b15 => ?_)
    ·
      refine v_aload_n dX8_rewrite_20 rfl ?_
      refine u_rV0 oX8_fault dX8_rewrite_21 ml_X8_78 (c_fault hM ht) hM.1 (by decide) (Nat.le_of_ble_eq_true rfl) (Nat.le_refl _) (Nat.le_refl _) ?_
      refine v_if_lt (tgt := 35) dX8_rewrite_24 (by decide) (fun b24 => ?_) (fun b24 => ?_)
      ·
        refine v_aload_n dX8_rewrite_35 rfl ?_
        refine u_rV0 oX8_wordsTold dX8_rewrite_36 ml_X8_82 (c_wordsTold hM ht) hM.1 (by decide) (Nat.le_of_ble_eq_true rfl) (Nat.le_refl _) (Nat.le_refl _) ?_
        refine v_aload_n dX8_rewrite_39 rfl ?_
        refine v_get 0 dX8_rewrite_40 FTX8 (by decide) rfl fl_X8_7 hM.1 rfl ?_
        refine v_bipush (v := nI 12) dX8_rewrite_43 (by decide) ?_
        refine v_aload_n dX8_rewrite_45 rfl ?_
        refine v_get 0 dX8_rewrite_46 FTX8 (by decide) rfl fl_X8_7 hM.1 rfl ?_
        refine v_iload_n dX8_rewrite_49 rfl ?_
        refine v_ialdN _ dX8_rewrite_50 hM.2.1 rfl (by omega) (by decide) (hW.1 a ha).1 ?_
        refine v_iaddN dX8_rewrite_51 ?_
        refine v_ialdN _ dX8_rewrite_52 hM.2.1 rfl (by have := (hW.1 a ha).2; omega) (by decide) (hW.2.2.1 _ (hW.1 a ha).2).1.1 ?_
        refine v_icmp_leN (tgt := 59) dX8_rewrite_53 (by decide) (by have := cnt_le (bl tx) tn; omega) (by have := (hW.2.2.1 _ (hW.1 a ha).2).1.2; omega) (fun b53 => ?_) (fun b53 => ?_)
        ·
          have b53 : 1 + cnt (bl tx) tn ≤ limW σ a := b53
          refine v_iload_n dX8_rewrite_59 rfl ?_
          refine v_iload_n dX8_rewrite_60 rfl ?_
          refine u_rS2 oX8_rowOf dX8_rewrite_61 ml_X8_28 (c_rowOf a b) (by decide) (Nat.le_of_ble_eq_true rfl) (Nat.le_refl _) (Nat.le_refl _) ?_
          refine v_istore dX8_rewrite_64 (by decide) rfl ?_
          refine v_aload_n dX8_rewrite_66 rfl ?_
          refine v_iload dX8_rewrite_67 rfl ?_
          refine v_iconst (v := nI 4) dX8_rewrite_69 (by decide) ?_
          refine v_iaddN dX8_rewrite_70 ?_
          refine v_aload_n dX8_rewrite_71 rfl ?_
          refine v_get 0 dX8_rewrite_72 FTX8 (by decide) rfl fl_X8_7 hM.1 rfl ?_
          refine v_iload dX8_rewrite_75 rfl ?_
          refine v_ialdN _ dX8_rewrite_77 hM.2.1 rfl (by omega) (by decide) ((hW.2.2.2.2.2.1 (3 * a + b) (by omega)).1).1 ?_
          refine u_rV2 oX8_isTold dX8_rewrite_78 ml_X8_85 (c_isTold hM (272 + 64 * (3 * a + b) + 4) (ln σ (3 * a + b)) (by omega) (by have := ((hW.2.2.2.2.2.1 (3 * a + b) (by omega)).1).2; unfold ln; omega) ht) hM.1 (by decide) (Nat.le_of_ble_eq_true rfl) (Nat.le_refl _) (Nat.le_refl _) ?_
          refine v_if_eqB (tgt := 87) dX8_rewrite_81 (by decide) (fun b81 => ?_) (fun b81 => ?_)
          ·
            refine v_aload_n dX8_rewrite_87 rfl ?_
            refine v_iload_n dX8_rewrite_88 rfl ?_
            refine v_iconst (v := nI 3) dX8_rewrite_89 (by decide) ?_
            refine v_iload_n dX8_rewrite_90 rfl ?_
            refine v_imulN dX8_rewrite_91 ?_
            refine v_iload_n dX8_rewrite_92 rfl ?_
            refine v_iaddN dX8_rewrite_93 ?_
            refine u_rV2 oX8_own dX8_rewrite_94 ml_X8_92 co hM.1 (by decide) (Nat.le_of_ble_eq_true rfl) (Nat.le_refl _) (Nat.le_refl _) ?_
            refine v_istore dX8_rewrite_97 (by decide) rfl ?_
            refine v_iload dX8_rewrite_99 rfl ?_
            refine v_if_lt (tgt := 109) dX8_rewrite_101 (by decide) (fun b101 => ?_) (fun b101 => ?_)
            ·
              refine v_aload_n dX8_rewrite_109 rfl ?_
              refine u_rV0 oX8_free dX8_rewrite_110 ml_X8_95 cf hM.1 (by decide) (Nat.le_of_ble_eq_true rfl) (Nat.le_refl _) (Nat.le_refl _) ?_
              refine v_istore dX8_rewrite_113 (by decide) rfl ?_
              refine v_iload dX8_rewrite_115 rfl ?_
              refine v_if_lt (tgt := 133) dX8_rewrite_117 (by decide) (fun b117 => ?_) (fun b117 => ?_)
              ·
                refine v_bipush (v := -3) dX8_rewrite_133 (by decide) ?_
                refine v_iret dX8_rewrite_135 rfl (Nat.le_refl _) (Nat.le_refl _) ?_
                have e : rewriteR σ ns tx tn (nI c) (nI a) (nI b) = (-3, ns, σ) := by
                  unfold rewriteR
                  rw [if_pos hgg, nt_nI (n := a) (by omega), nt_nI (n := b) (by omega), nt_nI (n := c) (by omega), if_pos b24, if_pos b53, if_neg (by rw [b81]; decide)]
                  unfold rwtR
                  rw [hq, hf]
                  split <;> rfl
                rw [e]
                exact ⟨rfl, rfl, hM, frO.rf o w⟩
              ·
                exact absurd (by decide) b117
            ·
              exact absurd (by decide) b101
          ·
            refine v_bipush (v := -4) dX8_rewrite_84 (by decide) ?_
            refine v_iret dX8_rewrite_86 rfl (Nat.le_refl _) (Nat.le_refl _) ?_
            have e : rewriteR σ ns tx tn (nI c) (nI a) (nI b) = (-4, ns, σ) := by
              unfold rewriteR
              rw [if_pos hgg, nt_nI (n := a) (by omega), nt_nI (n := b) (by omega), nt_nI (n := c) (by omega), if_pos b24, if_pos b53, if_pos b81]
            rw [e]
            exact ⟨rfl, rfl, hM, frO.rf o w⟩
        ·
          have b53 : ¬ 1 + cnt (bl tx) tn ≤ limW σ a := b53
          refine v_bipush (v := -6) dX8_rewrite_56 (by decide) ?_
          refine v_iret dX8_rewrite_58 rfl (Nat.le_refl _) (Nat.le_refl _) ?_
          have e : rewriteR σ ns tx tn (nI c) (nI a) (nI b) = (-6, ns, σ) := by
            unfold rewriteR
            rw [if_pos hgg, nt_nI (n := a) (by omega), nt_nI (n := b) (by omega), nt_nI (n := c) (by omega), if_pos b24, if_neg b53]
          rw [e]
          exact ⟨rfl, rfl, hM, frO.rf o w⟩
      ·
        refine v_bipush (v := -100) dX8_rewrite_27 (by decide) ?_
        refine v_aload_n dX8_rewrite_29 rfl ?_
        refine u_rV0 oX8_fault dX8_rewrite_30 ml_X8_78 (c_fault hM ht) hM.1 (by decide) (Nat.le_of_ble_eq_true rfl) (Nat.le_refl _) (Nat.le_refl _) ?_
        refine v_isub dX8_rewrite_33 ?_
        refine v_iret dX8_rewrite_34 rfl (Nat.le_refl _) (Nat.le_refl _) ?_
        have e : rewriteR σ ns tx tn (nI c) (nI a) (nI b) = (-100 - flt tx tn, ns, σ) := by
          unfold rewriteR
          rw [if_pos hgg, nt_nI (n := a) (by omega), nt_nI (n := b) (by omega), nt_nI (n := c) (by omega), if_neg b24]
        rw [e]
        exact ⟨rfl, rfl, hM, frO.rf o w⟩
    ·
      exact absurd hgp (by rw [b15]; decide)
theorem c_rewrite {w : Wd} {o ns tn : Nat} {kp : Int32} {σ tx cm : Nat → Int32} (hM : MW w o ns tn kp σ tx cm) (hns : ns ≤ 4) (hW : WS σ) (ht : tn ≤ 60) (v x y : Int32) : Wr mX8_rewrite 2 [.ref o, .int v, .int x, .int y] w (AnQ w o tn kp tx cm (rewriteR σ ns tx tn v x y)) := by
  by_cases h : (inB v 9 && (inB x 7 && inB y 2)) = false
  · exact c_rewrite0 hM v x y h
  · have h1 : (inB v 9 && (inB x 7 && inB y 2)) = true := by
      cases e : (inB v 9 && (inB x 7 && inB y 2))
      · exact absurd e h
      · rfl
    have h2 := h1
    simp only [Bool.and_eq_true] at h2
    have hv := inB_ub (by omega) h2.1
    have hx := inB_ub (by omega) h2.2.1
    have hy := inB_ub (by omega) h2.2.2
    rw [hv.1, hx.1, hy.1]
    cases hq : befO σ (nt v) (3 * nt x + nt y) with
    | some k => exact c_rewriteA hM hns hW ht (nt v) (nt x) (nt y) hv.2 hx.2 hy.2 k hq
    | none =>
      cases hf : dnO (freP σ) 16 with
      | some k => exact c_rewriteB hM hns hW ht (nt v) (nt x) (nt y) hv.2 hx.2 hy.2 k hq hf
      | none => exact c_rewriteC hM hns hW ht (nt v) (nt x) (nt y) hv.2 hx.2 hy.2 hq hf
end
