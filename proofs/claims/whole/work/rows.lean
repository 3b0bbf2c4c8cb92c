section
-- ===== PART A: goes FIRST, ahead of the names: the tables' words, and 'selects' of the private methods out of them =====
/-- a private method of a class that the tables say can be made, by its rows of tables_1 -/
def lw_okq (q : MethodName × Nat) : Prop := (q.1.cls ≠ "java/lang/invoke/MethodHandle" ∧ q.1.cls ≠ "java/lang/invoke/VarHandle") ∧ Cond.instantiable q.1.cls q.2 ∈ tables_1 ∧ Cond.privateMethod q.1 ∈ tables_1 ∧ Cond.instanceMethod q.1 ∈ tables_1
theorem lw_p0 : lw_okq (⟨"VotedLabels", "readTextFor", "(I)I"⟩, 7) := ⟨⟨by decide +kernel, by decide +kernel⟩, List.mem_of_getElem? (i := 15) (by decide +kernel), List.mem_of_getElem? (i := 338) (by decide +kernel), List.mem_of_getElem? (i := 339) (by decide +kernel)⟩
theorem lw_p1 : lw_okq (⟨"VotedLabels", "readText", "()I"⟩, 7) := ⟨⟨by decide +kernel, by decide +kernel⟩, List.mem_of_getElem? (i := 15) (by decide +kernel), List.mem_of_getElem? (i := 342) (by decide +kernel), List.mem_of_getElem? (i := 343) (by decide +kernel)⟩
theorem lw_p2 : lw_okq (⟨"VotedLabels$Rewrites", "indexBy", "(II)I"⟩, 3) := ⟨⟨by decide +kernel, by decide +kernel⟩, List.mem_of_getElem? (i := 76) (by decide +kernel), List.mem_of_getElem? (i := 391) (by decide +kernel), List.mem_of_getElem? (i := 392) (by decide +kernel)⟩
theorem lw_p3 : lw_okq (⟨"VotedLabels$Rewrites", "removeAt", "(I)V"⟩, 3) := ⟨⟨by decide +kernel, by decide +kernel⟩, List.mem_of_getElem? (i := 76) (by decide +kernel), List.mem_of_getElem? (i := 399) (by decide +kernel), List.mem_of_getElem? (i := 400) (by decide +kernel)⟩
theorem lw_p4 : lw_okq (⟨"VotedLabels$State", "accept", "(LVotedLabels$Rewrite;)V"⟩, 11) := ⟨⟨by decide +kernel, by decide +kernel⟩, List.mem_of_getElem? (i := 68) (by decide +kernel), List.mem_of_getElem? (i := 450) (by decide +kernel), List.mem_of_getElem? (i := 451) (by decide +kernel)⟩
theorem lw_p5 : lw_okq (⟨"VotedLabels$Words", "mostInCommon", "(LVotedLabels$Words;[I)I"⟩, 4) := ⟨⟨by decide +kernel, by decide +kernel⟩, List.mem_of_getElem? (i := 40) (by decide +kernel), List.mem_of_getElem? (i := 517) (by decide +kernel), List.mem_of_getElem? (i := 518) (by decide +kernel)⟩
theorem lw_p6 : lw_okq (⟨"VotedLabels$Rewrites", "aheadOf", "(LVotedLabels$Rewrite;)I"⟩, 3) := ⟨⟨by decide +kernel, by decide +kernel⟩, List.mem_of_getElem? (i := 76) (by decide +kernel), List.mem_of_getElem? (i := 538) (by decide +kernel), List.mem_of_getElem? (i := 539) (by decide +kernel)⟩
theorem lw_p7 : lw_okq (⟨"VotedLabelsModel", "records", "()V"⟩, 6) := ⟨⟨by decide +kernel, by decide +kernel⟩, List.mem_of_getElem? (i := 613) (by decide +kernel), List.mem_of_getElem? (i := 645) (by decide +kernel), List.mem_of_getElem? (i := 646) (by decide +kernel)⟩
theorem lw_p8 : lw_okq (⟨"VotedLabelsModel", "copies", "(II)V"⟩, 6) := ⟨⟨by decide +kernel, by decide +kernel⟩, List.mem_of_getElem? (i := 613) (by decide +kernel), List.mem_of_getElem? (i := 649) (by decide +kernel), List.mem_of_getElem? (i := 650) (by decide +kernel)⟩
theorem lw_p9 : lw_okq (⟨"VotedLabelsModel", "cutsAll", "(I)I"⟩, 6) := ⟨⟨by decide +kernel, by decide +kernel⟩, List.mem_of_getElem? (i := 613) (by decide +kernel), List.mem_of_getElem? (i := 653) (by decide +kernel), List.mem_of_getElem? (i := 654) (by decide +kernel)⟩
theorem lw_p10 : lw_okq (⟨"VotedLabelsModel", "cuts", "(II)Z"⟩, 6) := ⟨⟨by decide +kernel, by decide +kernel⟩, List.mem_of_getElem? (i := 613) (by decide +kernel), List.mem_of_getElem? (i := 657) (by decide +kernel), List.mem_of_getElem? (i := 658) (by decide +kernel)⟩
theorem lw_p11 : lw_okq (⟨"VotedLabelsModel", "wordsOf", "(II)I"⟩, 6) := ⟨⟨by decide +kernel, by decide +kernel⟩, List.mem_of_getElem? (i := 613) (by decide +kernel), List.mem_of_getElem? (i := 664) (by decide +kernel), List.mem_of_getElem? (i := 665) (by decide +kernel)⟩
theorem lw_p12 : lw_okq (⟨"VotedLabelsModel", "words", "(II)I"⟩, 6) := ⟨⟨by decide +kernel, by decide +kernel⟩, List.mem_of_getElem? (i := 613) (by decide +kernel), List.mem_of_getElem? (i := 668) (by decide +kernel), List.mem_of_getElem? (i := 669) (by decide +kernel)⟩
theorem lw_p13 : lw_okq (⟨"VotedLabelsModel", "begin", "(III)I"⟩, 6) := ⟨⟨by decide +kernel, by decide +kernel⟩, List.mem_of_getElem? (i := 613) (by decide +kernel), List.mem_of_getElem? (i := 672) (by decide +kernel), List.mem_of_getElem? (i := 673) (by decide +kernel)⟩
theorem lw_p14 : lw_okq (⟨"VotedLabelsModel", "isLabel", "(II)Z"⟩, 6) := ⟨⟨by decide +kernel, by decide +kernel⟩, List.mem_of_getElem? (i := 613) (by decide +kernel), List.mem_of_getElem? (i := 694) (by decide +kernel), List.mem_of_getElem? (i := 695) (by decide +kernel)⟩
theorem lw_p15 : lw_okq (⟨"VotedLabelsModel", "fault", "()I"⟩, 6) := ⟨⟨by decide +kernel, by decide +kernel⟩, List.mem_of_getElem? (i := 613) (by decide +kernel), List.mem_of_getElem? (i := 706) (by decide +kernel), List.mem_of_getElem? (i := 707) (by decide +kernel)⟩
def lw_privs_1 : List (MethodName × Nat) := [(⟨"VotedLabels", "readTextFor", "(I)I"⟩, 7), (⟨"VotedLabels", "readText", "()I"⟩, 7), (⟨"VotedLabels$Rewrites", "indexBy", "(II)I"⟩, 3), (⟨"VotedLabels$Rewrites", "removeAt", "(I)V"⟩, 3), (⟨"VotedLabels$State", "accept", "(LVotedLabels$Rewrite;)V"⟩, 11), (⟨"VotedLabels$Words", "mostInCommon", "(LVotedLabels$Words;[I)I"⟩, 4), (⟨"VotedLabels$Rewrites", "aheadOf", "(LVotedLabels$Rewrite;)I"⟩, 3), (⟨"VotedLabelsModel", "records", "()V"⟩, 6), (⟨"VotedLabelsModel", "copies", "(II)V"⟩, 6), (⟨"VotedLabelsModel", "cutsAll", "(I)I"⟩, 6), (⟨"VotedLabelsModel", "cuts", "(II)Z"⟩, 6), (⟨"VotedLabelsModel", "wordsOf", "(II)I"⟩, 6), (⟨"VotedLabelsModel", "words", "(II)I"⟩, 6), (⟨"VotedLabelsModel", "begin", "(III)I"⟩, 6), (⟨"VotedLabelsModel", "isLabel", "(II)Z"⟩, 6), (⟨"VotedLabelsModel", "fault", "()I"⟩, 6)]
theorem lw_r1 : ∀ q ∈ lw_privs_1, lw_okq q := List.forall_mem_cons.mpr ⟨lw_p0, List.forall_mem_cons.mpr ⟨lw_p1, List.forall_mem_cons.mpr ⟨lw_p2, List.forall_mem_cons.mpr ⟨lw_p3, List.forall_mem_cons.mpr ⟨lw_p4, List.forall_mem_cons.mpr ⟨lw_p5, List.forall_mem_cons.mpr ⟨lw_p6, List.forall_mem_cons.mpr ⟨lw_p7, List.forall_mem_cons.mpr ⟨lw_p8, List.forall_mem_cons.mpr ⟨lw_p9, List.forall_mem_cons.mpr ⟨lw_p10, List.forall_mem_cons.mpr ⟨lw_p11, List.forall_mem_cons.mpr ⟨lw_p12, List.forall_mem_cons.mpr ⟨lw_p13, List.forall_mem_cons.mpr ⟨lw_p14, List.forall_mem_cons.mpr ⟨lw_p15, fun _ h => absurd h List.not_mem_nil⟩⟩⟩⟩⟩⟩⟩⟩⟩⟩⟩⟩⟩⟩⟩⟩
theorem lw_p16 : lw_okq (⟨"VotedLabelsModel", "wordsTold", "()I"⟩, 6) := ⟨⟨by decide +kernel, by decide +kernel⟩, List.mem_of_getElem? (i := 613) (by decide +kernel), List.mem_of_getElem? (i := 710) (by decide +kernel), List.mem_of_getElem? (i := 711) (by decide +kernel)⟩
theorem lw_p17 : lw_okq (⟨"VotedLabelsModel", "isTold", "(II)Z"⟩, 6) := ⟨⟨by decide +kernel, by decide +kernel⟩, List.mem_of_getElem? (i := 613) (by decide +kernel), List.mem_of_getElem? (i := 714) (by decide +kernel), List.mem_of_getElem? (i := 715) (by decide +kernel)⟩
theorem lw_p18 : lw_okq (⟨"VotedLabelsModel", "lays", "(I)V"⟩, 6) := ⟨⟨by decide +kernel, by decide +kernel⟩, List.mem_of_getElem? (i := 613) (by decide +kernel), List.mem_of_getElem? (i := 718) (by decide +kernel), List.mem_of_getElem? (i := 719) (by decide +kernel)⟩
theorem lw_p19 : lw_okq (⟨"VotedLabelsModel", "own", "(II)I"⟩, 6) := ⟨⟨by decide +kernel, by decide +kernel⟩, List.mem_of_getElem? (i := 613) (by decide +kernel), List.mem_of_getElem? (i := 726) (by decide +kernel), List.mem_of_getElem? (i := 727) (by decide +kernel)⟩
theorem lw_p20 : lw_okq (⟨"VotedLabelsModel", "free", "()I"⟩, 6) := ⟨⟨by decide +kernel, by decide +kernel⟩, List.mem_of_getElem? (i := 613) (by decide +kernel), List.mem_of_getElem? (i := 733) (by decide +kernel), List.mem_of_getElem? (i := 734) (by decide +kernel)⟩
theorem lw_p21 : lw_okq (⟨"VotedLabelsModel", "goes", "(I)V"⟩, 6) := ⟨⟨by decide +kernel, by decide +kernel⟩, List.mem_of_getElem? (i := 613) (by decide +kernel), List.mem_of_getElem? (i := 737) (by decide +kernel), List.mem_of_getElem? (i := 738) (by decide +kernel)⟩
theorem lw_p22 : lw_okq (⟨"VotedLabelsModel", "placeOf", "(I)I"⟩, 6) := ⟨⟨by decide +kernel, by decide +kernel⟩, List.mem_of_getElem? (i := 613) (by decide +kernel), List.mem_of_getElem? (i := 745) (by decide +kernel), List.mem_of_getElem? (i := 746) (by decide +kernel)⟩
theorem lw_p23 : lw_okq (⟨"VotedLabelsModel", "votesFor", "(I)I"⟩, 6) := ⟨⟨by decide +kernel, by decide +kernel⟩, List.mem_of_getElem? (i := 613) (by decide +kernel), List.mem_of_getElem? (i := 749) (by decide +kernel), List.mem_of_getElem? (i := 750) (by decide +kernel)⟩
theorem lw_p24 : lw_okq (⟨"VotedLabelsModel", "best", "(II)I"⟩, 6) := ⟨⟨by decide +kernel, by decide +kernel⟩, List.mem_of_getElem? (i := 613) (by decide +kernel), List.mem_of_getElem? (i := 757) (by decide +kernel), List.mem_of_getElem? (i := 758) (by decide +kernel)⟩
theorem lw_p25 : lw_okq (⟨"VotedLabelsModel", "labels", "()I"⟩, 6) := ⟨⟨by decide +kernel, by decide +kernel⟩, List.mem_of_getElem? (i := 613) (by decide +kernel), List.mem_of_getElem? (i := 777) (by decide +kernel), List.mem_of_getElem? (i := 778) (by decide +kernel)⟩
theorem lw_p26 : lw_okq (⟨"VotedLabelsModel", "apart", "(IIII)I"⟩, 6) := ⟨⟨by decide +kernel, by decide +kernel⟩, List.mem_of_getElem? (i := 613) (by decide +kernel), List.mem_of_getElem? (i := 797) (by decide +kernel), List.mem_of_getElem? (i := 798) (by decide +kernel)⟩
theorem lw_p27 : lw_okq (⟨"VotedLabelsModel", "areAlike", "(IIIIII)Z"⟩, 6) := ⟨⟨by decide +kernel, by decide +kernel⟩, List.mem_of_getElem? (i := 613) (by decide +kernel), List.mem_of_getElem? (i := 801) (by decide +kernel), List.mem_of_getElem? (i := 802) (by decide +kernel)⟩
theorem lw_p28 : lw_okq (⟨"VotedLabelsModel", "end", "(III)I"⟩, 6) := ⟨⟨by decide +kernel, by decide +kernel⟩, List.mem_of_getElem? (i := 613) (by decide +kernel), List.mem_of_getElem? (i := 805) (by decide +kernel), List.mem_of_getElem? (i := 806) (by decide +kernel)⟩
theorem lw_p29 : lw_okq (⟨"VotedLabelsModel", "worksOf", "(I)I"⟩, 6) := ⟨⟨by decide +kernel, by decide +kernel⟩, List.mem_of_getElem? (i := 613) (by decide +kernel), List.mem_of_getElem? (i := 817) (by decide +kernel), List.mem_of_getElem? (i := 818) (by decide +kernel)⟩
theorem lw_p30 : lw_okq (⟨"VotedLabelsModel", "labelsOf", "(II)I"⟩, 6) := ⟨⟨by decide +kernel, by decide +kernel⟩, List.mem_of_getElem? (i := 613) (by decide +kernel), List.mem_of_getElem? (i := 821) (by decide +kernel), List.mem_of_getElem? (i := 822) (by decide +kernel)⟩
theorem lw_p31 : lw_okq (⟨"VotedLabelsModel", "rewritesOf", "(I)I"⟩, 6) := ⟨⟨by decide +kernel, by decide +kernel⟩, List.mem_of_getElem? (i := 613) (by decide +kernel), List.mem_of_getElem? (i := 829) (by decide +kernel), List.mem_of_getElem? (i := 830) (by decide +kernel)⟩
def lw_privs_2 : List (MethodName × Nat) := [(⟨"VotedLabelsModel", "wordsTold", "()I"⟩, 6), (⟨"VotedLabelsModel", "isTold", "(II)Z"⟩, 6), (⟨"VotedLabelsModel", "lays", "(I)V"⟩, 6), (⟨"VotedLabelsModel", "own", "(II)I"⟩, 6), (⟨"VotedLabelsModel", "free", "()I"⟩, 6), (⟨"VotedLabelsModel", "goes", "(I)V"⟩, 6), (⟨"VotedLabelsModel", "placeOf", "(I)I"⟩, 6), (⟨"VotedLabelsModel", "votesFor", "(I)I"⟩, 6), (⟨"VotedLabelsModel", "best", "(II)I"⟩, 6), (⟨"VotedLabelsModel", "labels", "()I"⟩, 6), (⟨"VotedLabelsModel", "apart", "(IIII)I"⟩, 6), (⟨"VotedLabelsModel", "areAlike", "(IIIIII)Z"⟩, 6), (⟨"VotedLabelsModel", "end", "(III)I"⟩, 6), (⟨"VotedLabelsModel", "worksOf", "(I)I"⟩, 6), (⟨"VotedLabelsModel", "labelsOf", "(II)I"⟩, 6), (⟨"VotedLabelsModel", "rewritesOf", "(I)I"⟩, 6)]
theorem lw_r2 : ∀ q ∈ lw_privs_2, lw_okq q := List.forall_mem_cons.mpr ⟨lw_p16, List.forall_mem_cons.mpr ⟨lw_p17, List.forall_mem_cons.mpr ⟨lw_p18, List.forall_mem_cons.mpr ⟨lw_p19, List.forall_mem_cons.mpr ⟨lw_p20, List.forall_mem_cons.mpr ⟨lw_p21, List.forall_mem_cons.mpr ⟨lw_p22, List.forall_mem_cons.mpr ⟨lw_p23, List.forall_mem_cons.mpr ⟨lw_p24, List.forall_mem_cons.mpr ⟨lw_p25, List.forall_mem_cons.mpr ⟨lw_p26, List.forall_mem_cons.mpr ⟨lw_p27, List.forall_mem_cons.mpr ⟨lw_p28, List.forall_mem_cons.mpr ⟨lw_p29, List.forall_mem_cons.mpr ⟨lw_p30, List.forall_mem_cons.mpr ⟨lw_p31, fun _ h => absurd h List.not_mem_nil⟩⟩⟩⟩⟩⟩⟩⟩⟩⟩⟩⟩⟩⟩⟩⟩
theorem lw_p32 : lw_okq (⟨"VotedLabelsModel", "votesOf", "(I)I"⟩, 6) := ⟨⟨by decide +kernel, by decide +kernel⟩, List.mem_of_getElem? (i := 613) (by decide +kernel), List.mem_of_getElem? (i := 833) (by decide +kernel), List.mem_of_getElem? (i := 834) (by decide +kernel)⟩
theorem lw_p33 : lw_okq (⟨"VotedLabelsModel", "standing", "(I)I"⟩, 6) := ⟨⟨by decide +kernel, by decide +kernel⟩, List.mem_of_getElem? (i := 613) (by decide +kernel), List.mem_of_getElem? (i := 837) (by decide +kernel), List.mem_of_getElem? (i := 838) (by decide +kernel)⟩
theorem lw_p34 : lw_okq (⟨"VotedLabelsModel", "hasTold", "(I)Z"⟩, 6) := ⟨⟨by decide +kernel, by decide +kernel⟩, List.mem_of_getElem? (i := 613) (by decide +kernel), List.mem_of_getElem? (i := 845) (by decide +kernel), List.mem_of_getElem? (i := 846) (by decide +kernel)⟩
theorem lw_p35 : lw_okq (⟨"VotedLabelsModel", "allVotes", "()I"⟩, 6) := ⟨⟨by decide +kernel, by decide +kernel⟩, List.mem_of_getElem? (i := 613) (by decide +kernel), List.mem_of_getElem? (i := 853) (by decide +kernel), List.mem_of_getElem? (i := 854) (by decide +kernel)⟩
def lw_privs_3 : List (MethodName × Nat) := [(⟨"VotedLabelsModel", "votesOf", "(I)I"⟩, 6), (⟨"VotedLabelsModel", "standing", "(I)I"⟩, 6), (⟨"VotedLabelsModel", "hasTold", "(I)Z"⟩, 6), (⟨"VotedLabelsModel", "allVotes", "()I"⟩, 6)]
theorem lw_r3 : ∀ q ∈ lw_privs_3, lw_okq q := List.forall_mem_cons.mpr ⟨lw_p32, List.forall_mem_cons.mpr ⟨lw_p33, List.forall_mem_cons.mpr ⟨lw_p34, List.forall_mem_cons.mpr ⟨lw_p35, fun _ h => absurd h List.not_mem_nil⟩⟩⟩⟩
def lw_privs : List (MethodName × Nat) := lw_privs_1 ++ (lw_privs_2 ++ (lw_privs_3))
def lw_tbl : List Cond := k2_sels lw_privs ++ tables_1
theorem lw_privs_ok : ∀ q ∈ lw_privs, lw_okq q := by
  show ∀ q ∈ lw_privs_1 ++ (lw_privs_2 ++ (lw_privs_3)), lw_okq q
  exact List.forall_mem_append.mpr ⟨lw_r1, List.forall_mem_append.mpr ⟨lw_r2, lw_r3⟩⟩
/-! ===== END ===== -/

/-! ===== BEGIN printed: names, fields, word lists, decode rows ===== -/
def RX0 : String := "VotedLabels$History"
def TX0 : u_T := fun k => match k with
  | 0 => ("VotedLabels$History", "states", "[LVotedLabels$State;", true)
  | 1 => ("VotedLabels$History", "size", "I", false)
  | _ => ("VotedLabels$History", "next", "I", false)
def tyX0 : Nat → FieldType := fun k => match k with
  | 0 => .array (.object "VotedLabels$State")
  | 1 => .int
  | _ => .int
abbrev wsX00 : List Cond := u_ws RX0 TX0 3
theorem nmX0 : ∀ a, a < 3 → ∀ b, b < 3 → a ≠ b → (TX0 a).2.1 ≠ (TX0 b).2.1 := by decide +kernel
theorem tyX0_ok : ∀ k, k < 3 → parseFieldDescriptor (TX0 k).2.2.1 = some (tyX0 k) := by decide +kernel
abbrev cX0_init : ByteArray := prog_2_method_1_code
def yX0_init : MethodName := ⟨RX0, "<init>", "()V"⟩
abbrev cX0_push : ByteArray := prog_2_method_2_code
def yX0_push : MethodName := ⟨RX0, "push", "(LVotedLabels$State;)V"⟩
abbrev cX0_popInto : ByteArray := prog_2_method_3_code
def yX0_popInto : MethodName := ⟨RX0, "popInto", "(LVotedLabels$State;)V"⟩
def RX1 : String := "VotedLabels$Label"
def TX1 : u_T := fun k => match k with
  | 0 => ("VotedLabels$Label", "words", "LVotedLabels$Words;", true)
  | 1 => ("VotedLabels$Label", "visitor", "I", false)
  | 2 => ("VotedLabels$Label", "week", "I", false)
  | _ => ("VotedLabels$Label", "cuts", "I", false)
def tyX1 : Nat → FieldType := fun k => match k with
  | 0 => .object "VotedLabels$Words"
  | 1 => .int
  | 2 => .int
  | _ => .int
abbrev wsX10 : List Cond := u_ws RX1 TX1 4
theorem nmX1 : ∀ a, a < 4 → ∀ b, b < 4 → a ≠ b → (TX1 a).2.1 ≠ (TX1 b).2.1 := by decide +kernel
theorem tyX1_ok : ∀ k, k < 4 → parseFieldDescriptor (TX1 k).2.2.1 = some (tyX1 k) := by decide +kernel
abbrev cX1_init : ByteArray := prog_3_method_1_code
def yX1_init : MethodName := ⟨RX1, "<init>", "()V"⟩
abbrev cX1_stands : ByteArray := prog_3_method_2_code
def yX1_stands : MethodName := ⟨RX1, "stands", "()Z"⟩
abbrev cX1_become : ByteArray := prog_3_method_3_code
def yX1_become : MethodName := ⟨RX1, "become", "(LVotedLabels$Words;II)V"⟩
abbrev cX1_copyFrom : ByteArray := prog_3_method_4_code
def yX1_copyFrom : MethodName := ⟨RX1, "copyFrom", "(LVotedLabels$Label;)V"⟩
abbrev cX1_cutTo : ByteArray := prog_3_method_5_code
def yX1_cutTo : MethodName := ⟨RX1, "cutTo", "(I)Z"⟩
abbrev cX1_told : ByteArray := prog_3_method_6_code
def yX1_told : MethodName := ⟨RX1, "told", "(I)I"⟩
def RX2 : String := "VotedLabels$Rewrite"
def TX2 : u_T := fun k => match k with
  | 0 => ("VotedLabels$Rewrite", "words", "LVotedLabels$Words;", true)
  | 1 => ("VotedLabels$Rewrite", "number", "I", false)
  | 2 => ("VotedLabels$Rewrite", "place", "I", false)
  | 3 => ("VotedLabels$Rewrite", "visitor", "I", false)
  | 4 => ("VotedLabels$Rewrite", "age", "I", false)
  | _ => ("VotedLabels$Rewrite", "voters", "I", false)
def tyX2 : Nat → FieldType := fun k => match k with
  | 0 => .object "VotedLabels$Words"
  | 1 => .int
  | 2 => .int
  | 3 => .int
  | 4 => .int
  | _ => .int
abbrev wsX20 : List Cond := u_ws RX2 TX2 6
theorem nmX2 : ∀ a, a < 6 → ∀ b, b < 6 → a ≠ b → (TX2 a).2.1 ≠ (TX2 b).2.1 := by decide +kernel
theorem tyX2_ok : ∀ k, k < 6 → parseFieldDescriptor (TX2 k).2.2.1 = some (tyX2 k) := by decide +kernel
abbrev cX2_init : ByteArray := prog_4_method_1_code
def yX2_init : MethodName := ⟨RX2, "<init>", "()V"⟩
abbrev cX2_become : ByteArray := prog_4_method_2_code
def yX2_become : MethodName := ⟨RX2, "become", "(IIILVotedLabels$Words;)V"⟩
abbrev cX2_copyFrom : ByteArray := prog_4_method_3_code
def yX2_copyFrom : MethodName := ⟨RX2, "copyFrom", "(LVotedLabels$Rewrite;)V"⟩
abbrev cX2_hasVoteOf : ByteArray := prog_4_method_4_code
def yX2_hasVoteOf : MethodName := ⟨RX2, "hasVoteOf", "(I)Z"⟩
abbrev cX2_votes : ByteArray := prog_4_method_5_code
def yX2_votes : MethodName := ⟨RX2, "votes", "()I"⟩
abbrev cX2_hasMoreVotesOrLowerNumber : ByteArray := prog_4_method_6_code
def yX2_hasMoreVotesOrLowerNumber : MethodName := ⟨RX2, "hasMoreVotesOrLowerNumber", "(LVotedLabels$Rewrite;)Z"⟩
abbrev cX2_hasMoreVotesOrFewerWords : ByteArray := prog_4_method_7_code
def yX2_hasMoreVotesOrFewerWords : MethodName := ⟨RX2, "hasMoreVotesOrFewerWords", "(LVotedLabels$Rewrite;)Z"⟩
def RX3 : String := "VotedLabels$Rewrites"
def TX3 : u_T := fun k => match k with
  | 0 => ("VotedLabels$Rewrites", "rows", "[LVotedLabels$Rewrite;", true)
  | 1 => ("VotedLabels$Rewrites", "size", "I", false)
  | _ => ("VotedLabels$Rewrites", "soFar", "I", false)
def tyX3 : Nat → FieldType := fun k => match k with
  | 0 => .array (.object "VotedLabels$Rewrite")
  | 1 => .int
  | _ => .int
abbrev wsX30 : List Cond := u_ws RX3 TX3 3
theorem nmX3 : ∀ a, a < 3 → ∀ b, b < 3 → a ≠ b → (TX3 a).2.1 ≠ (TX3 b).2.1 := by decide +kernel
theorem tyX3_ok : ∀ k, k < 3 → parseFieldDescriptor (TX3 k).2.2.1 = some (tyX3 k) := by decide +kernel
abbrev cX3_init : ByteArray := prog_5_method_1_code
def yX3_init : MethodName := ⟨RX3, "<init>", "()V"⟩
abbrev cX3_copyFrom : ByteArray := prog_5_method_2_code
def yX3_copyFrom : MethodName := ⟨RX3, "copyFrom", "(LVotedLabels$Rewrites;)V"⟩
abbrev cX3_withNumber : ByteArray := prog_5_method_3_code
def yX3_withNumber : MethodName := ⟨RX3, "withNumber", "(I)LVotedLabels$Rewrite;"⟩
abbrev cX3_hasRoomFor : ByteArray := prog_5_method_4_code
def yX3_hasRoomFor : MethodName := ⟨RX3, "hasRoomFor", "(II)Z"⟩
abbrev cX3_handIn : ByteArray := prog_5_method_5_code
def yX3_handIn : MethodName := ⟨RX3, "handIn", "(IILVotedLabels$Words;)I"⟩
abbrev cX3_indexBy : ByteArray := prog_5_method_6_code
def yX3_indexBy : MethodName := ⟨RX3, "indexBy", "(II)I"⟩
abbrev cX3_removeAt : ByteArray := prog_5_method_7_code
def yX3_removeAt : MethodName := ⟨RX3, "removeAt", "(I)V"⟩
abbrev cX3_remove : ByteArray := prog_5_method_8_code
def yX3_remove : MethodName := ⟨RX3, "remove", "(LVotedLabels$Rewrite;)V"⟩
abbrev cX3_takeVoteBack : ByteArray := prog_5_method_9_code
def yX3_takeVoteBack : MethodName := ⟨RX3, "takeVoteBack", "(II)V"⟩
abbrev cX3_bestFor : ByteArray := prog_5_method_10_code
def yX3_bestFor : MethodName := ⟨RX3, "bestFor", "(III)LVotedLabels$Rewrite;"⟩
abbrev cX3_atRank : ByteArray := prog_5_method_11_code
def yX3_atRank : MethodName := ⟨RX3, "atRank", "(II)LVotedLabels$Rewrite;"⟩
abbrev cX3_aheadOf : ByteArray := prog_5_method_12_code
def yX3_aheadOf : MethodName := ⟨RX3, "aheadOf", "(LVotedLabels$Rewrite;)I"⟩
abbrev cX3_growOlder : ByteArray := prog_5_method_13_code
def yX3_growOlder : MethodName := ⟨RX3, "growOlder", "()I"⟩
abbrev cX3_handedInBy : ByteArray := prog_5_method_14_code
def yX3_handedInBy : MethodName := ⟨RX3, "handedInBy", "(I)I"⟩
abbrev cX3_votesOf : ByteArray := prog_5_method_15_code
def yX3_votesOf : MethodName := ⟨RX3, "votesOf", "(I)I"⟩
abbrev cX3_allVotes : ByteArray := prog_5_method_16_code
def yX3_allVotes : MethodName := ⟨RX3, "allVotes", "()I"⟩
def RX4 : String := "VotedLabels$State"
def TX4 : u_T := fun k => match k with
  | 0 => ("VotedLabels$State", "limits", "[I", true)
  | 1 => ("VotedLabels$State", "asked", "[I", true)
  | 2 => ("VotedLabels$State", "roomOf", "[I", true)
  | 3 => ("VotedLabels$State", "accepted", "[I", true)
  | 4 => ("VotedLabels$State", "labels", "[LVotedLabels$Label;", true)
  | 5 => ("VotedLabels$State", "rewrites", "LVotedLabels$Rewrites;", true)
  | 6 => ("VotedLabels$State", "needed", "I", false)
  | 7 => ("VotedLabels$State", "weeks", "I", false)
  | 8 => ("VotedLabels$State", "rewritten", "I", false)
  | 9 => ("VotedLabels$State", "fallen", "I", false)
  | _ => ("VotedLabels$State", "cut", "I", false)
def tyX4 : Nat → FieldType := fun k => match k with
  | 0 => .array .int
  | 1 => .array .int
  | 2 => .array .int
  | 3 => .array .int
  | 4 => .array (.object "VotedLabels$Label")
  | 5 => .object "VotedLabels$Rewrites"
  | 6 => .int
  | 7 => .int
  | 8 => .int
  | 9 => .int
  | _ => .int
abbrev wsX40 : List Cond := u_ws RX4 TX4 11
theorem nmX4 : ∀ a, a < 11 → ∀ b, b < 11 → a ≠ b → (TX4 a).2.1 ≠ (TX4 b).2.1 := by decide +kernel
theorem tyX4_ok : ∀ k, k < 11 → parseFieldDescriptor (TX4 k).2.2.1 = some (tyX4 k) := by decide +kernel
abbrev cX4_init : ByteArray := prog_6_method_1_code
def yX4_init : MethodName := ⟨RX4, "<init>", "()V"⟩
abbrev cX4_copyFrom : ByteArray := prog_6_method_2_code
def yX4_copyFrom : MethodName := ⟨RX4, "copyFrom", "(LVotedLabels$State;)V"⟩
abbrev cX4_limitOf : ByteArray := prog_6_method_3_code
def yX4_limitOf : MethodName := ⟨RX4, "limitOf", "(I)I"⟩
abbrev cX4_asksFor : ByteArray := prog_6_method_4_code
def yX4_asksFor : MethodName := ⟨RX4, "asksFor", "(II)Z"⟩
abbrev cX4_changeLimit : ByteArray := prog_6_method_5_code
def yX4_changeLimit : MethodName := ⟨RX4, "changeLimit", "(II)I"⟩
abbrev cX4_cutLabelsOf : ByteArray := prog_6_method_6_code
def yX4_cutLabelsOf : MethodName := ⟨RX4, "cutLabelsOf", "(I)I"⟩
abbrev cX4_bestRewriteFor : ByteArray := prog_6_method_7_code
def yX4_bestRewriteFor : MethodName := ⟨RX4, "bestRewriteFor", "(I)LVotedLabels$Rewrite;"⟩
abbrev cX4_passWeek : ByteArray := prog_6_method_8_code
def yX4_passWeek : MethodName := ⟨RX4, "passWeek", "()I"⟩
abbrev cX4_accept : ByteArray := prog_6_method_9_code
def yX4_accept : MethodName := ⟨RX4, "accept", "(LVotedLabels$Rewrite;)V"⟩
abbrev cX4_allLabels : ByteArray := prog_6_method_10_code
def yX4_allLabels : MethodName := ⟨RX4, "allLabels", "()I"⟩
abbrev cX4_labelsBy : ByteArray := prog_6_method_11_code
def yX4_labelsBy : MethodName := ⟨RX4, "labelsBy", "(I)I"⟩
abbrev cX4_labelsSharing : ByteArray := prog_6_method_12_code
def yX4_labelsSharing : MethodName := ⟨RX4, "labelsSharing", "(ILVotedLabels$Words;)I"⟩
abbrev cX4_worksIn : ByteArray := prog_6_method_13_code
def yX4_worksIn : MethodName := ⟨RX4, "worksIn", "(I)I"⟩
abbrev cX4_labelsIn : ByteArray := prog_6_method_14_code
def yX4_labelsIn : MethodName := ⟨RX4, "labelsIn", "(IZ)I"⟩
abbrev cX4_missingIn : ByteArray := prog_6_method_15_code
def yX4_missingIn : MethodName := ⟨RX4, "missingIn", "(I)I"⟩
abbrev cX4_allMissing : ByteArray := prog_6_method_16_code
def yX4_allMissing : MethodName := ⟨RX4, "allMissing", "()I"⟩
abbrev cX4_longestIn : ByteArray := prog_6_method_17_code
def yX4_longestIn : MethodName := ⟨RX4, "longestIn", "(I)I"⟩
def RX5 : String := "VotedLabels$Text"
def TX5 : u_T := fun k => match k with
  | 0 => ("VotedLabels$Text", "characters", "[C", true)
  | _ => ("VotedLabels$Text", "length", "I", false)
def tyX5 : Nat → FieldType := fun k => match k with
  | 0 => .array .char
  | _ => .int
abbrev wsX50 : List Cond := u_ws RX5 TX5 2
theorem nmX5 : ∀ a, a < 2 → ∀ b, b < 2 → a ≠ b → (TX5 a).2.1 ≠ (TX5 b).2.1 := by decide +kernel
theorem tyX5_ok : ∀ k, k < 2 → parseFieldDescriptor (TX5 k).2.2.1 = some (tyX5 k) := by decide +kernel
abbrev cX5_init : ByteArray := prog_7_method_1_code
def yX5_init : MethodName := ⟨RX5, "<init>", "()V"⟩
abbrev cX5_add : ByteArray := prog_7_method_2_code
def yX5_add : MethodName := ⟨RX5, "add", "(C)Z"⟩
abbrev cX5_fault : ByteArray := prog_7_method_3_code
def yX5_fault : MethodName := ⟨RX5, "fault", "()I"⟩
def RX6 : String := "VotedLabels$Words"
def TX6 : u_T := fun k => match k with
  | 0 => ("VotedLabels$Words", "letters", "[C", true)
  | 1 => ("VotedLabels$Words", "length", "I", false)
  | 2 => ("VotedLabels$Words", "starts", "[I", true)
  | _ => ("VotedLabels$Words", "size", "I", false)
def tyX6 : Nat → FieldType := fun k => match k with
  | 0 => .array .char
  | 1 => .int
  | 2 => .array .int
  | _ => .int
abbrev wsX60 : List Cond := u_ws RX6 TX6 4
theorem nmX6 : ∀ a, a < 4 → ∀ b, b < 4 → a ≠ b → (TX6 a).2.1 ≠ (TX6 b).2.1 := by decide +kernel
theorem tyX6_ok : ∀ k, k < 4 → parseFieldDescriptor (TX6 k).2.2.1 = some (tyX6 k) := by decide +kernel
abbrev cX6_init : ByteArray := prog_8_method_1_code
def yX6_init : MethodName := ⟨RX6, "<init>", "()V"⟩
abbrev cX6_empty : ByteArray := prog_8_method_2_code
def yX6_empty : MethodName := ⟨RX6, "empty", "()V"⟩
abbrev cX6_readFrom : ByteArray := prog_8_method_3_code
def yX6_readFrom : MethodName := ⟨RX6, "readFrom", "(LVotedLabels$Text;)V"⟩
abbrev cX6_copyFrom : ByteArray := prog_8_method_4_code
def yX6_copyFrom : MethodName := ⟨RX6, "copyFrom", "(LVotedLabels$Words;)V"⟩
abbrev cX6_cutTo : ByteArray := prog_8_method_5_code
def yX6_cutTo : MethodName := ⟨RX6, "cutTo", "(I)V"⟩
abbrev cX6_isLike : ByteArray := prog_8_method_6_code
def yX6_isLike : MethodName := ⟨RX6, "isLike", "(LVotedLabels$Words;)Z"⟩
abbrev cX6_hasSameWord : ByteArray := prog_8_method_7_code
def yX6_hasSameWord : MethodName := ⟨RX6, "hasSameWord", "(ILVotedLabels$Words;I)Z"⟩
abbrev cX6_sharesWordWith : ByteArray := prog_8_method_8_code
def yX6_sharesWordWith : MethodName := ⟨RX6, "sharesWordWith", "(LVotedLabels$Words;)Z"⟩
abbrev cX6_distanceTo : ByteArray := prog_8_method_9_code
def yX6_distanceTo : MethodName := ⟨RX6, "distanceTo", "(LVotedLabels$Words;[I)I"⟩
abbrev cX6_mostInCommon : ByteArray := prog_8_method_10_code
def yX6_mostInCommon : MethodName := ⟨RX6, "mostInCommon", "(LVotedLabels$Words;[I)I"⟩
def RX7 : String := "VotedLabels"
def TX7 : u_T := fun k => match k with
  | 0 => ("VotedLabels", "text", "LVotedLabels$Text;", true)
  | 1 => ("VotedLabels", "typed", "LVotedLabels$Words;", true)
  | 2 => ("VotedLabels", "state", "LVotedLabels$State;", true)
  | 3 => ("VotedLabels", "history", "LVotedLabels$History;", true)
  | 4 => ("VotedLabels", "snapshot", "LVotedLabels$State;", true)
  | 5 => ("VotedLabels", "hasSnapshot", "Z", false)
  | _ => ("VotedLabels", "commonRow", "[I", true)
def tyX7 : Nat → FieldType := fun k => match k with
  | 0 => .object "VotedLabels$Text"
  | 1 => .object "VotedLabels$Words"
  | 2 => .object "VotedLabels$State"
  | 3 => .object "VotedLabels$History"
  | 4 => .object "VotedLabels$State"
  | 5 => .boolean
  | _ => .array .int
abbrev wsX70 : List Cond := u_ws RX7 TX7 7
theorem nmX7 : ∀ a, a < 7 → ∀ b, b < 7 → a ≠ b → (TX7 a).2.1 ≠ (TX7 b).2.1 := by decide +kernel
theorem tyX7_ok : ∀ k, k < 7 → parseFieldDescriptor (TX7 k).2.2.1 = some (tyX7 k) := by decide +kernel
abbrev cX7_init : ByteArray := prog_1_method_1_code
def yX7_init : MethodName := ⟨RX7, "<init>", "()V"⟩
abbrev cX7_setLimit : ByteArray := prog_1_method_2_code
def yX7_setLimit : MethodName := ⟨RX7, "setLimit", "(II)I"⟩
abbrev cX7_ask : ByteArray := prog_1_method_3_code
def yX7_ask : MethodName := ⟨RX7, "ask", "(IIZ)I"⟩
abbrev cX7_bring : ByteArray := prog_1_method_4_code
def yX7_bring : MethodName := ⟨RX7, "bring", "(II)I"⟩
abbrev cX7_label : ByteArray := prog_1_method_5_code
def yX7_label : MethodName := ⟨RX7, "label", "(II)I"⟩
abbrev cX7_takeDown : ByteArray := prog_1_method_6_code
def yX7_takeDown : MethodName := ⟨RX7, "takeDown", "(II)I"⟩
abbrev cX7_setNeeded : ByteArray := prog_1_method_7_code
def yX7_setNeeded : MethodName := ⟨RX7, "setNeeded", "(I)I"⟩
abbrev cX7_rewrite : ByteArray := prog_1_method_8_code
def yX7_rewrite : MethodName := ⟨RX7, "rewrite", "(III)I"⟩
abbrev cX7_vote : ByteArray := prog_1_method_9_code
def yX7_vote : MethodName := ⟨RX7, "vote", "(IIZ)I"⟩
abbrev cX7_endWeek : ByteArray := prog_1_method_10_code
def yX7_endWeek : MethodName := ⟨RX7, "endWeek", "()I"⟩
abbrev cX7_type : ByteArray := prog_1_method_11_code
def yX7_type : MethodName := ⟨RX7, "type", "(C)I"⟩
abbrev cX7_clearText : ByteArray := prog_1_method_12_code
def yX7_clearText : MethodName := ⟨RX7, "clearText", "()I"⟩
abbrev cX7_undo : ByteArray := prog_1_method_13_code
def yX7_undo : MethodName := ⟨RX7, "undo", "()I"⟩
abbrev cX7_keep : ByteArray := prog_1_method_14_code
def yX7_keep : MethodName := ⟨RX7, "keep", "()I"⟩
abbrev cX7_restore : ByteArray := prog_1_method_15_code
def yX7_restore : MethodName := ⟨RX7, "restore", "()I"⟩
abbrev cX7_labelOf : ByteArray := prog_1_method_16_code
def yX7_labelOf : MethodName := ⟨RX7, "labelOf", "(III)I"⟩
abbrev cX7_letter : ByteArray := prog_1_method_17_code
def yX7_letter : MethodName := ⟨RX7, "letter", "(III)I"⟩
abbrev cX7_rewriteOf : ByteArray := prog_1_method_18_code
def yX7_rewriteOf : MethodName := ⟨RX7, "rewriteOf", "(II)I"⟩
abbrev cX7_ranked : ByteArray := prog_1_method_19_code
def yX7_ranked : MethodName := ⟨RX7, "ranked", "(III)I"⟩
abbrev cX7_room : ByteArray := prog_1_method_20_code
def yX7_room : MethodName := ⟨RX7, "room", "(II)I"⟩
abbrev cX7_visitor : ByteArray := prog_1_method_21_code
def yX7_visitor : MethodName := ⟨RX7, "visitor", "(II)I"⟩
abbrev cX7_labelsWith : ByteArray := prog_1_method_22_code
def yX7_labelsWith : MethodName := ⟨RX7, "labelsWith", "(I)I"⟩
abbrev cX7_count : ByteArray := prog_1_method_23_code
def yX7_count : MethodName := ⟨RX7, "count", "(I)I"⟩
abbrev cX7_isWork : ByteArray := prog_1_method_24_code
def yX7_isWork : MethodName := ⟨RX7, "isWork", "(I)Z"⟩
abbrev cX7_isRoom : ByteArray := prog_1_method_25_code
def yX7_isRoom : MethodName := ⟨RX7, "isRoom", "(I)Z"⟩
abbrev cX7_isTongue : ByteArray := prog_1_method_26_code
def yX7_isTongue : MethodName := ⟨RX7, "isTongue", "(I)Z"⟩
abbrev cX7_isVisitor : ByteArray := prog_1_method_27_code
def yX7_isVisitor : MethodName := ⟨RX7, "isVisitor", "(I)Z"⟩
abbrev cX7_placeOf : ByteArray := prog_1_method_28_code
def yX7_placeOf : MethodName := ⟨RX7, "placeOf", "(II)I"⟩
abbrev cX7_readText : ByteArray := prog_1_method_29_code
def yX7_readText : MethodName := ⟨RX7, "readText", "()I"⟩
abbrev cX7_readTextFor : ByteArray := prog_1_method_30_code
def yX7_readTextFor : MethodName := ⟨RX7, "readTextFor", "(I)I"⟩
def RX8 : String := "VotedLabelsModel"
def TX8 : u_T := fun k => match k with
  | 0 => ("VotedLabelsModel", "s", "[I", true)
  | 1 => ("VotedLabelsModel", "states", "I", false)
  | 2 => ("VotedLabelsModel", "isKept", "Z", false)
  | 3 => ("VotedLabelsModel", "text", "[C", true)
  | 4 => ("VotedLabelsModel", "typed", "I", false)
  | _ => ("VotedLabelsModel", "common", "[I", true)
def tyX8 : Nat → FieldType := fun k => match k with
  | 0 => .array .int
  | 1 => .int
  | 2 => .boolean
  | 3 => .array .char
  | 4 => .int
  | _ => .array .int
abbrev wsX80 : List Cond := u_ws RX8 TX8 6
theorem nmX8 : ∀ a, a < 6 → ∀ b, b < 6 → a ≠ b → (TX8 a).2.1 ≠ (TX8 b).2.1 := by decide +kernel
theorem tyX8_ok : ∀ k, k < 6 → parseFieldDescriptor (TX8 k).2.2.1 = some (tyX8 k) := by decide +kernel
abbrev cX8_init : ByteArray := prog_10_method_1_code
def yX8_init : MethodName := ⟨RX8, "<init>", "()V"⟩
abbrev cX8_in : ByteArray := prog_10_method_2_code
def yX8_in : MethodName := ⟨RX8, "in", "(III)Z"⟩
abbrev cX8_copies : ByteArray := prog_10_method_3_code
def yX8_copies : MethodName := ⟨RX8, "copies", "(II)V"⟩
abbrev cX8_records : ByteArray := prog_10_method_4_code
def yX8_records : MethodName := ⟨RX8, "records", "()V"⟩
abbrev cX8_rowOf : ByteArray := prog_10_method_5_code
def yX8_rowOf : MethodName := ⟨RX8, "rowOf", "(II)I"⟩
abbrev cX8_paper : ByteArray := prog_10_method_6_code
def yX8_paper : MethodName := ⟨RX8, "paper", "(I)I"⟩
abbrev cX8_words : ByteArray := prog_10_method_7_code
def yX8_words : MethodName := ⟨RX8, "words", "(II)I"⟩
abbrev cX8_wordsOf : ByteArray := prog_10_method_8_code
def yX8_wordsOf : MethodName := ⟨RX8, "wordsOf", "(II)I"⟩
abbrev cX8_isLabel : ByteArray := prog_10_method_9_code
def yX8_isLabel : MethodName := ⟨RX8, "isLabel", "(II)Z"⟩
abbrev cX8_begin : ByteArray := prog_10_method_10_code
def yX8_begin : MethodName := ⟨RX8, "begin", "(III)I"⟩
abbrev cX8_end : ByteArray := prog_10_method_11_code
def yX8_end : MethodName := ⟨RX8, "end", "(III)I"⟩
abbrev cX8_areAlike : ByteArray := prog_10_method_12_code
def yX8_areAlike : MethodName := ⟨RX8, "areAlike", "(IIIIII)Z"⟩
abbrev cX8_cuts : ByteArray := prog_10_method_13_code
def yX8_cuts : MethodName := ⟨RX8, "cuts", "(II)Z"⟩
abbrev cX8_cutsAll : ByteArray := prog_10_method_14_code
def yX8_cutsAll : MethodName := ⟨RX8, "cutsAll", "(I)I"⟩
abbrev cX8_placeOf : ByteArray := prog_10_method_15_code
def yX8_placeOf : MethodName := ⟨RX8, "placeOf", "(I)I"⟩
abbrev cX8_votesFor : ByteArray := prog_10_method_16_code
def yX8_votesFor : MethodName := ⟨RX8, "votesFor", "(I)I"⟩
abbrev cX8_goes : ByteArray := prog_10_method_17_code
def yX8_goes : MethodName := ⟨RX8, "goes", "(I)V"⟩
abbrev cX8_best : ByteArray := prog_10_method_18_code
def yX8_best : MethodName := ⟨RX8, "best", "(II)I"⟩
abbrev cX8_fault : ByteArray := prog_10_method_19_code
def yX8_fault : MethodName := ⟨RX8, "fault", "()I"⟩
abbrev cX8_wordsTold : ByteArray := prog_10_method_20_code
def yX8_wordsTold : MethodName := ⟨RX8, "wordsTold", "()I"⟩
abbrev cX8_isTold : ByteArray := prog_10_method_21_code
def yX8_isTold : MethodName := ⟨RX8, "isTold", "(II)Z"⟩
abbrev cX8_lays : ByteArray := prog_10_method_22_code
def yX8_lays : MethodName := ⟨RX8, "lays", "(I)V"⟩
abbrev cX8_setLimit : ByteArray := prog_10_method_23_code
def yX8_setLimit : MethodName := ⟨RX8, "setLimit", "(II)I"⟩
abbrev cX8_bits : ByteArray := prog_10_method_24_code
def yX8_bits : MethodName := ⟨RX8, "bits", "(I)I"⟩
abbrev cX8_ask : ByteArray := prog_10_method_25_code
def yX8_ask : MethodName := ⟨RX8, "ask", "(IIZ)I"⟩
abbrev cX8_bring : ByteArray := prog_10_method_26_code
def yX8_bring : MethodName := ⟨RX8, "bring", "(II)I"⟩
abbrev cX8_isPair : ByteArray := prog_10_method_27_code
def yX8_isPair : MethodName := ⟨RX8, "isPair", "(II)Z"⟩
abbrev cX8_takeDown : ByteArray := prog_10_method_28_code
def yX8_takeDown : MethodName := ⟨RX8, "takeDown", "(II)I"⟩
abbrev cX8_setNeeded : ByteArray := prog_10_method_29_code
def yX8_setNeeded : MethodName := ⟨RX8, "setNeeded", "(I)I"⟩
abbrev cX8_label : ByteArray := prog_10_method_30_code
def yX8_label : MethodName := ⟨RX8, "label", "(II)I"⟩
abbrev cX8_own : ByteArray := prog_10_method_31_code
def yX8_own : MethodName := ⟨RX8, "own", "(II)I"⟩
abbrev cX8_free : ByteArray := prog_10_method_32_code
def yX8_free : MethodName := ⟨RX8, "free", "()I"⟩
abbrev cX8_rewrite : ByteArray := prog_10_method_33_code
def yX8_rewrite : MethodName := ⟨RX8, "rewrite", "(III)I"⟩
abbrev cX8_vote : ByteArray := prog_10_method_34_code
def yX8_vote : MethodName := ⟨RX8, "vote", "(IIZ)I"⟩
abbrev cX8_endWeek : ByteArray := prog_10_method_35_code
def yX8_endWeek : MethodName := ⟨RX8, "endWeek", "()I"⟩
abbrev cX8_type : ByteArray := prog_10_method_36_code
def yX8_type : MethodName := ⟨RX8, "type", "(C)I"⟩
abbrev cX8_clearText : ByteArray := prog_10_method_37_code
def yX8_clearText : MethodName := ⟨RX8, "clearText", "()I"⟩
abbrev cX8_labels : ByteArray := prog_10_method_38_code
def yX8_labels : MethodName := ⟨RX8, "labels", "()I"⟩
abbrev cX8_undo : ByteArray := prog_10_method_39_code
def yX8_undo : MethodName := ⟨RX8, "undo", "()I"⟩
abbrev cX8_keep : ByteArray := prog_10_method_40_code
def yX8_keep : MethodName := ⟨RX8, "keep", "()I"⟩
abbrev cX8_restore : ByteArray := prog_10_method_41_code
def yX8_restore : MethodName := ⟨RX8, "restore", "()I"⟩
abbrev cX8_labelOf : ByteArray := prog_10_method_42_code
def yX8_labelOf : MethodName := ⟨RX8, "labelOf", "(III)I"⟩
abbrev cX8_letter : ByteArray := prog_10_method_43_code
def yX8_letter : MethodName := ⟨RX8, "letter", "(III)I"⟩
abbrev cX8_apart : ByteArray := prog_10_method_44_code
def yX8_apart : MethodName := ⟨RX8, "apart", "(IIII)I"⟩
abbrev cX8_rewriteOf : ByteArray := prog_10_method_45_code
def yX8_rewriteOf : MethodName := ⟨RX8, "rewriteOf", "(II)I"⟩
abbrev cX8_ranked : ByteArray := prog_10_method_46_code
def yX8_ranked : MethodName := ⟨RX8, "ranked", "(III)I"⟩
abbrev cX8_labelsOf : ByteArray := prog_10_method_47_code
def yX8_labelsOf : MethodName := ⟨RX8, "labelsOf", "(II)I"⟩
abbrev cX8_worksOf : ByteArray := prog_10_method_48_code
def yX8_worksOf : MethodName := ⟨RX8, "worksOf", "(I)I"⟩
abbrev cX8_room : ByteArray := prog_10_method_49_code
def yX8_room : MethodName := ⟨RX8, "room", "(II)I"⟩
abbrev cX8_rewritesOf : ByteArray := prog_10_method_50_code
def yX8_rewritesOf : MethodName := ⟨RX8, "rewritesOf", "(I)I"⟩
abbrev cX8_votesOf : ByteArray := prog_10_method_51_code
def yX8_votesOf : MethodName := ⟨RX8, "votesOf", "(I)I"⟩
abbrev cX8_standing : ByteArray := prog_10_method_52_code
def yX8_standing : MethodName := ⟨RX8, "standing", "(I)I"⟩
abbrev cX8_visitor : ByteArray := prog_10_method_53_code
def yX8_visitor : MethodName := ⟨RX8, "visitor", "(II)I"⟩
abbrev cX8_hasTold : ByteArray := prog_10_method_54_code
def yX8_hasTold : MethodName := ⟨RX8, "hasTold", "(I)Z"⟩
abbrev cX8_labelsWith : ByteArray := prog_10_method_55_code
def yX8_labelsWith : MethodName := ⟨RX8, "labelsWith", "(I)I"⟩
abbrev cX8_count : ByteArray := prog_10_method_56_code
def yX8_count : MethodName := ⟨RX8, "count", "(I)I"⟩
abbrev cX8_allVotes : ByteArray := prog_10_method_57_code
def yX8_allVotes : MethodName := ⟨RX8, "allVotes", "()I"⟩
def RJ6 : String := "java/lang/Integer"
def TJ6 : u_T := fun k => match k with
  | _ => ("", "", "", false)
def tyJ6 : Nat → FieldType := fun k => match k with
  | _ => .int
abbrev wsJ60 : List Cond := u_ws RJ6 TJ6 0
theorem nmJ6 : ∀ a, a < 0 → ∀ b, b < 0 → a ≠ b → (TJ6 a).2.1 ≠ (TJ6 b).2.1 := by decide +kernel
theorem tyJ6_ok : ∀ k, k < 0 → parseFieldDescriptor (TJ6 k).2.2.1 = some (tyJ6 k) := by decide +kernel
abbrev cJ6_bitCount_0f7a4 : ByteArray := prog_11_method_49_code
def yJ6_bitCount_0f7a4 : MethodName := ⟨RJ6, "bitCount", "(I)I"⟩
def RJ9 : String := "java/lang/Math"
def TJ9 : u_T := fun k => match k with
  | _ => ("", "", "", false)
def tyJ9 : Nat → FieldType := fun k => match k with
  | _ => .int
abbrev wsJ90 : List Cond := u_ws RJ9 TJ9 0
theorem nmJ9 : ∀ a, a < 0 → ∀ b, b < 0 → a ≠ b → (TJ9 a).2.1 ≠ (TJ9 b).2.1 := by decide +kernel
theorem tyJ9_ok : ∀ k, k < 0 → parseFieldDescriptor (TJ9 k).2.2.1 = some (tyJ9 k) := by decide +kernel
abbrev cJ9_max_7cf53 : ByteArray := prog_12_method_65_code
def yJ9_max_7cf53 : MethodName := ⟨RJ9, "max", "(II)I"⟩
def RJ10 : String := "java/lang/System"
def TJ10 : u_T := fun k => match k with
  | _ => ("", "", "", false)
def tyJ10 : Nat → FieldType := fun k => match k with
  | _ => .int
abbrev wsJ100 : List Cond := u_ws RJ10 TJ10 0
theorem nmJ10 : ∀ a, a < 0 → ∀ b, b < 0 → a ≠ b → (TJ10 a).2.1 ≠ (TJ10 b).2.1 := by decide +kernel
theorem tyJ10_ok : ∀ k, k < 0 → parseFieldDescriptor (TJ10 k).2.2.1 = some (tyJ10 k) := by decide +kernel
def RJ7 : String := "java/util/Arrays"
def TJ7 : u_T := fun k => match k with
  | _ => ("", "", "", false)
def tyJ7 : Nat → FieldType := fun k => match k with
  | _ => .int
abbrev wsJ70 : List Cond := u_ws RJ7 TJ7 0
theorem nmJ7 : ∀ a, a < 0 → ∀ b, b < 0 → a ≠ b → (TJ7 a).2.1 ≠ (TJ7 b).2.1 := by decide +kernel
theorem tyJ7_ok : ∀ k, k < 0 → parseFieldDescriptor (TJ7 k).2.2.1 = some (tyJ7 k) := by decide +kernel
abbrev cJ7_fill_53178 : ByteArray := prog_14_method_103_code
def yJ7_fill_53178 : MethodName := ⟨RJ7, "fill", "([II)V"⟩
def RL : String := "VotedLabelsLaw"
abbrev cL_law : ByteArray := code
def yL_law : MethodName := ⟨RL, "law", "([I)Z"⟩
theorem inX0 : ∀ w ∈ wsX00, w ∈ lw_tbl := by decide +kernel
theorem inX1 : ∀ w ∈ wsX10, w ∈ lw_tbl := by decide +kernel
theorem inX2 : ∀ w ∈ wsX20, w ∈ lw_tbl := by decide +kernel
theorem inX3 : ∀ w ∈ wsX30, w ∈ lw_tbl := by decide +kernel
theorem inX4 : ∀ w ∈ wsX40, w ∈ lw_tbl := by decide +kernel
theorem inX5 : ∀ w ∈ wsX50, w ∈ lw_tbl := by decide +kernel
theorem inX6 : ∀ w ∈ wsX60, w ∈ lw_tbl := by decide +kernel
theorem inX7 : ∀ w ∈ wsX70, w ∈ lw_tbl := by decide +kernel
theorem inX8 : ∀ w ∈ wsX80, w ∈ lw_tbl := by decide +kernel
theorem inJ6 : ∀ w ∈ wsJ60, w ∈ lw_tbl := by decide +kernel
theorem inJ9 : ∀ w ∈ wsJ90, w ∈ lw_tbl := by decide +kernel
theorem inJ10 : ∀ w ∈ wsJ100, w ∈ lw_tbl := by decide +kernel
theorem inJ7 : ∀ w ∈ wsJ70, w ∈ lw_tbl := by decide +kernel
abbrev vwCl : List vw_C := [(RX0, TX0, 3), (RX1, TX1, 4), (RX2, TX2, 6), (RX3, TX3, 3), (RX4, TX4, 11), (RX5, TX5, 2), (RX6, TX6, 4), (RX7, TX7, 7), (RX8, TX8, 6)]
end
section
/-! ===== the words, all good ones ===== -/
def lw_tb : List Cond := lw_tbl.filter goodWord
theorem in_tb {w : Cond} (h : w ∈ lw_tbl) (g : goodWord w = true) : w ∈ lw_tb := List.mem_filter.mpr ⟨h, g⟩
theorem tb_in {w : Cond} (h : w ∈ lw_tb) : w ∈ lw_tbl ∧ goodWord w = true := List.mem_filter.mp h
/-! ===== worlds as functions from addresses to cells ===== -/
abbrev Cl : Type := (Nat × List Value) ⊕ ((Nat × Nat × (Nat → Int32)) ⊕ (Nat × Nat × (Nat → Option Nat)))
abbrev Wd : Type := Nat → Option Cl
abbrev ob (k : Nat) (fs : List Value) : Cl := .inl (k, fs)
abbrev ia (t n : Nat) (f : Nat → Int32) : Cl := .inr (.inl (t, n, f))
abbrev ra (t n : Nat) (f : Nat → Option Nat) : Cl := .inr (.inr (t, n, f))
def cE (cy : Nat → ClassId) (x : Cl) : va_E := match x with
  | .inl q => .inr q
  | .inr (.inl q) => .inl (cy q.1, q.2.1, .inl q.2.2)
  | .inr (.inr q) => .inl (cy q.1, q.2.1, .inr (.inr (.inr (.inr q.2.2))))
def tyA (t : Nat) : FieldType := match t with
  | 0 => .char
  | 1 => .int
  | 2 => .object "VotedLabels$Label"
  | 3 => .object "VotedLabels$Rewrite"
  | _ => .object "VotedLabels$State"
def tys5 (cy : Nat → ClassId) : List (ClassId × FieldType) := [(cy 0, tyA 0), (cy 1, tyA 1), (cy 2, tyA 2), (cy 3, tyA 3), (cy 4, tyA 4)]
def hW (D : va_G) (cy : Nat → ClassId) (lo : Nat) (w : Wd) (H : Heap) : Prop := ∀ (q : Nat) (x : Cl), w q = some x → lo ≤ q ∧ va_at D vwCl (q, cE cy x) H
def wu (w : Wd) (a : Nat) (x : Cl) : Wd := fun q => if q = a then some x else w q
theorem wu_eq (w : Wd) (a : Nat) (x : Cl) : wu w a x a = some x := by simp [wu]
theorem wu_ne (w : Wd) {a q : Nat} (x : Cl) (h : q ≠ a) : wu w a x q = w q := by simp [wu, h]
theorem hW.put {D : va_G} {cy : Nat → ClassId} {lo a : Nat} {w : Wd} {x : Cl} {H H1 : Heap} (h : hW D cy lo w H) (ha : lo ≤ a) (he : va_at D vwCl (a, cE cy x) H1) (oq : ∀ q, q ≠ a → H1[q]? = H[q]?) : hW D cy lo (wu w a x) H1 := by
  intro q x' hq
  by_cases e : q = a
  · subst e
    rw [wu_eq] at hq
    cases hq
    exact ⟨ha, he⟩
  · rw [wu_ne w x e] at hq
    exact ⟨(h q x' hq).1, (h q x' hq).2.kept (oq q e)⟩
theorem hW.lt {D : va_G} {cy : Nat → ClassId} {lo q : Nat} {w : Wd} {x : Cl} {H : Heap} (h : hW D cy lo w H) (hq : w q = some x) : q < H.size := (h q x hq).2.lt
theorem hW.pu {D : va_G} {cy : Nat → ClassId} {lo : Nat} {w : Wd} {x : Cl} {H H1 : Heap} (h : hW D cy lo w H) (ha : lo ≤ H.size) (he : va_at D vwCl (H.size, cE cy x) H1) (oq : ∀ q, q < H.size → H1[q]? = H[q]?) : hW D cy lo (wu w H.size x) H1 := by
  intro q x' hq
  by_cases e : q = H.size
  · subst e
    rw [wu_eq] at hq
    cases hq
    exact ⟨ha, he⟩
  · rw [wu_ne w x e] at hq
    exact ⟨(h q x' hq).1, (h q x' hq).2.kept (oq q (h.lt hq))⟩
theorem hW.P {D : va_G} {cy : Nat → ClassId} {lo q : Nat} {w : Wd} {x : Cl} {H : Heap} (h : hW D cy lo w H) (hq : w q = some x) : va_P D vwCl [(q, cE cy x)] H := by
  intro k z hz
  cases k with
  | zero => cases hz; exact (h q x hq).2
  | succ k => simp at hz
/-! ===== locals, by a list with a place for each ===== -/
def lk : List (Option Value) → Nat → Option Value
  | [], _ => none
  | a :: _, 0 => a
  | _ :: l, k + 1 => lk l k
def st : List (Option Value) → Nat → Value → List (Option Value)
  | [], _, _ => []
  | _ :: l, 0, v => some v :: l
  | a :: l, k + 1, v => a :: st l k v
def ent : Nat → List (Option Value) → List (Nat × Value)
  | _, [] => []
  | n, none :: l => ent (n + 1) l
  | n, some v :: l => (n, v) :: ent (n + 1) l
def cat1 : List (Option Value) → Bool
  | [] => true
  | none :: l => cat1 l
  | some v :: l => (v.category == 1) && cat1 l
theorem ent_mem : ∀ (L : List (Option Value)) (n k : Nat) (v : Value), (k, v) ∈ ent n L ↔ ∃ j, k = n + j ∧ lk L j = some v
  | [], n, k, v => by simp [ent, lk]
  | none :: l, n, k, v => by
    rw [ent, ent_mem l (n + 1) k v]
    constructor
    · rintro ⟨j, h1, h2⟩; exact ⟨j + 1, by omega, h2⟩
    · rintro ⟨j, h1, h2⟩
      cases j with
      | zero => simp [lk] at h2
      | succ j => exact ⟨j, by omega, h2⟩
  | some u :: l, n, k, v => by
    rw [ent, List.mem_cons, ent_mem l (n + 1) k v]
    constructor
    · rintro (h | ⟨j, h1, h2⟩)
      · cases h; exact ⟨0, rfl, rfl⟩
      · exact ⟨j + 1, by omega, h2⟩
    · rintro ⟨j, h1, h2⟩
      cases j with
      | zero => simp [lk] at h2; subst h2; exact Or.inl (by rw [h1]; rfl)
      | succ j => exact Or.inr ⟨j, by omega, h2⟩
theorem lk_st : ∀ (L : List (Option Value)) (i : Nat) (x : Value) (j : Nat) (u : Value), lk (st L i x) j = some u → (j = i ∧ u = x) ∨ (j ≠ i ∧ lk L j = some u)
  | [], i, x, j, u, h => by simp [st, lk] at h
  | a :: l, 0, x, j, u, h => by
    cases j with
    | zero => simp [st, lk] at h; exact Or.inl ⟨rfl, h.symm⟩
    | succ j => exact Or.inr ⟨by omega, h⟩
  | a :: l, i + 1, x, j, u, h => by
    cases j with
    | zero => exact Or.inr ⟨by omega, h⟩
    | succ j =>
      rcases lk_st l i x j u h with ⟨h1, h2⟩ | ⟨h1, h2⟩
      · exact Or.inl ⟨by omega, h2⟩
      · exact Or.inr ⟨by omega, h2⟩
theorem st_len : ∀ (L : List (Option Value)) (i : Nat) (x : Value), (st L i x).length = L.length
  | [], _, _ => rfl
  | _ :: _, 0, _ => rfl
  | _ :: l, i + 1, x => by simp [st, st_len l i x]
theorem cat1_lk : ∀ (L : List (Option Value)), cat1 L = true → ∀ k v, lk L k = some v → v.category = 1
  | [], _, k, v, h => by simp [lk] at h
  | none :: l, hc, k, v, h => by
    cases k with
    | zero => simp [lk] at h
    | succ k => exact cat1_lk l hc k v h
  | some u :: l, hc, k, v, h => by
    simp only [cat1, Bool.and_eq_true, beq_iff_eq] at hc
    cases k with
    | zero => simp [lk] at h; rw [← h]; exact hc.1
    | succ k => exact cat1_lk l hc.2 k v h
def lvs (ls : Array Slot) (nL : Nat) (L : List (Option Value)) : Prop := lv_has ls nL (ent 0 L) ∧ L.length = nL ∧ ∀ k v, lk L k = some v → v.category = 1
theorem lvs.at {ls : Array Slot} {nL k : Nat} {L : List (Option Value)} {v : Value} (h : lvs ls nL L) (hk : lk L k = some v) : ls[k]? = some (.val v) := h.1.2.2 (k, v) ((ent_mem L 0 k v).mpr ⟨k, by omega, hk⟩)
theorem lvs.mem {ls : Array Slot} {nL k : Nat} {L : List (Option Value)} {v : Value} (h : lvs ls nL L) (hk : lk L k = some v) : ∃ j : Nat, (ent 0 L)[j]? = some (k, v) := List.getElem?_of_mem ((ent_mem L 0 k v).mpr ⟨k, by omega, hk⟩)
theorem lvs.st {ls ls' : Array Slot} {nL i : Nat} {L : List (Option Value)} {x : Value} (h : lvs ls nL L) (hc : x.category = 1) (h' : lv_has ls' nL ((i, x) :: (ent 0 L).filter (fun q => !(q.1 == i) && !(q.1 + 1 == i && q.2.category == 2)))) : lvs ls' nL (st L i x) := by
  refine ⟨⟨h'.1, h'.2.1, fun q hq => h'.2.2 q ?_⟩, by rw [st_len]; exact h.2.1, fun k v hk => ?_⟩
  · obtain ⟨j, h1, h2⟩ := (ent_mem _ 0 q.1 q.2).mp hq
    rcases lk_st L i x j q.2 h2 with ⟨h3, h4⟩ | ⟨h3, h4⟩
    · exact List.mem_cons.mpr (Or.inl (Prod.ext (by rw [h1, h3]; omega) h4))
    · refine List.mem_cons.mpr (Or.inr (List.mem_filter.mpr ⟨(ent_mem L 0 q.1 q.2).mpr ⟨j, h1, h4⟩, ?_⟩))
      have h5 := h.2.2 j q.2 h4
      simp [h5]
      omega
  · rcases lk_st L i x k v hk with ⟨-, h4⟩ | ⟨-, h4⟩
    · rw [h4]; exact hc
    · exact h.2.2 k v h4

/-! ===== methods, contracts, the judgement ===== -/
abbrev MI : Type := MethodName × ByteArray × Nat × Option FieldType
def miW (mi : MI) : Cond := Cond.code mi.1 mi.2.1 mi.2.2.1 mi.2.2.2
def miWs (mi : MI) : List Cond := Cond.code mi.1 mi.2.1 mi.2.2.1 mi.2.2.2 :: lw_tb
def rmd (d mc ms : Nat) : Room := { frames := d, cells := mc, slots := ms, locals := 36 * d }
def nests : List (String × Nat × MethodName × String) := [("VotedLabels", 11, ⟨"VotedLabels$Text", "<init>", "()V"⟩, "VotedLabels"), ("VotedLabels", 18, ⟨"VotedLabels$Words", "<init>", "()V"⟩, "VotedLabels"), ("VotedLabels$Rewrites", 17, ⟨"VotedLabels$Rewrite", "<init>", "()V"⟩, "VotedLabels"), ("VotedLabels$Rewrite", 9, ⟨"VotedLabels$Words", "<init>", "()V"⟩, "VotedLabels"), ("VotedLabels$State", 47, ⟨"VotedLabels$Label", "<init>", "()V"⟩, "VotedLabels"), ("VotedLabels$Label", 11, ⟨"VotedLabels$Words", "<init>", "()V"⟩, "VotedLabels"), ("VotedLabels$State", 80, ⟨"VotedLabels", "placeOf", "(II)I"⟩, "VotedLabels")]
/-- what the tables say that is no good word, and the classes -/
def KK (D : va_G) (cy : Nat → ClassId) (U : State) : Prop := va_K D vwCl (tys5 cy) U ∧ (∀ q ∈ nests, va_Nw (.methodLinkNest q.1 q.2.1 q.2.2.1 q.2.2.2) U) ∧ va_AO "VotedLabels$Label" U ∧ va_AO "VotedLabels$Rewrite" U ∧ va_AO "VotedLabels$State" U
theorem KK.warm {D : va_G} {cy : Nat → ClassId} {s U : State} (h : KK D cy s) (hW : s.WarmedH U.vm) : KK D cy U := ⟨va_K.moved hW.alike h.1, fun q hq => va_Nw.warmM hW (h.2.1 q hq), va_AO.moved hW.alike h.2.2.1, va_AO.moved hW.alike h.2.2.2.1, va_AO.moved hW.alike h.2.2.2.2⟩
theorem KK.same {D : va_G} {cy : Nat → ClassId} {s U : State} (h : KK D cy s) (e : s.vm = U.vm) : KK D cy U := ⟨va_K.moved (by rw [e]; exact Vm.Alike.refl U.vm) h.1, fun q hq => va_Nw.same rfl e (h.2.1 q hq), va_AO.moved (by rw [e]; exact Vm.Alike.refl U.vm) h.2.2.1, va_AO.moved (by rw [e]; exact Vm.Alike.refl U.vm) h.2.2.2.1, va_AO.moved (by rw [e]; exact Vm.Alike.refl U.vm) h.2.2.2.2⟩
def Qd (Po : Option Value → Wd → Nat → Prop) (D : va_G) (cy : Nat → ClassId) (lo : Nat) : Array Value → State → Outcome → State → Prop := fun _ s oc t =>
  ∃ (r : Option Value) (w' : Wd), oc = .returned r ∧ hW D cy lo w' t.heap ∧ Po r w' t.heap.size ∧ va_F (fun q => lo ≤ q) s t
/-- METHOD mi, called with av in the world w (heap of sz cells): returns r in a world w' of sz' cells with Po r w' sz' -/
def Ev (mi : MI) (d : Nat) (av : List Value) (w : Wd) (sz mc ms : Nat) (Po : Option Value → Wd → Nat → Prop) : Prop :=
  ∀ (l : Launch) (lo : Nat) (D : va_G) (cy : Nat → ClassId), Met l mi.1 (miWs mi) (rmd d mc ms) (va_Pc av (fun U => U.heap.size = sz ∧ lo ≤ sz ∧ hW D cy lo w U.heap ∧ KK D cy U)) (Qd Po D cy lo) mc ms (fun q => lo ≤ q)
def Cx (p : Program) (s : State) (m : MethodId) (args : Array Value) (meth : Method) (c : Code) (mi : MI) (D : va_G) (cy : Nat → ClassId) (lo : Nat) : Prop :=
  p.tables.exec = Jvm.exec ∧ c.code = mi.2.1 ∧ meth.sig.returnType = mi.2.2.2 ∧ c.maxLocals = mi.2.2.1 ∧ s.vm.findClass mi.1.cls = some m.cls ∧ (∀ w ∈ miWs mi, w.before args s = true) ∧ meth.locks = false ∧ KK D cy s ∧ lo ≤ s.heap.size ∧ meth.name = mi.1.name
/-- from pc, with the locals L and the stack stk, in the world w, the method comes to its end with Po -/
def V (mi : MI) (d mc ms : Nat) (Po : Option Value → Wd → Nat → Prop) (w : Wd) (sz cells slots : Nat) (L : List (Option Value)) (stk : List Value) (pc : Nat) : Prop :=
  ∀ (p : Program) (l : Launch) (e : Env) (s : State) (m : MethodId) (args : Array Value) (below : List Frame) (meth : Method) (c : Code) (lo : Nat) (D : va_G) (cy : Nat → ClassId) (H : Heap) (locs : List Loc) (ls : Array Slot),
    Cx p s m args meth c mi D cy lo → hW D cy lo w H → H.size = sz → va_S (fun q => lo ≤ q) s.heap H locs → lvs ls mi.2.2.1 L →
    W p l e (rmd d mc ms) s m args below meth c H locs cells slots (MQ below (Qd Po D cy lo) args s mc ms (fun q => lo ≤ q)) (F0 m pc ls stk)
theorem Ev.mono {mi : MI} {d : Nat} {av : List Value} {w : Wd} {sz mc ms : Nat} {Po Po' : Option Value → Wd → Nat → Prop} (h : Ev mi d av w sz mc ms Po) (k : ∀ r w' z, Po r w' z → Po' r w' z) : Ev mi d av w sz mc ms Po' := by
  intro l lo D cy p e a1 a2 a3 s m args below a4 a5 a6 a7
  obtain ⟨t, o, b1, b2, b3, ⟨r, w', c1, c2, c3, c4⟩, b5⟩ := h l lo D cy p e a1 a2 a3 s m args below a4 a5 a6 a7
  exact ⟨t, o, b1, b2, b3, ⟨r, w', c1, c2, k _ _ _ c3, c4⟩, b5⟩
set_option maxHeartbeats 1000000 in
theorem Ev.ofV {mi : MI} {d : Nat} {av : List Value} {w : Wd} {sz mc ms : Nat} {Po : Option Value → Wd → Nat → Prop} (L : List (Option Value)) (hy : plainName mi.1.cls = true) (hn : (lg_sl av).length ≤ mi.2.2.1) (hL : ent 0 L = lv_args 0 av) (hlen : L.length = mi.2.2.1) (hcat : cat1 L = true) (h : V mi d mc ms Po w sz 0 0 L [] 0) : Ev mi d av w sz mc ms Po := by
  intro l lo D cy
  refine Met.ofW (cc := mi.2.1) (maxL := mi.2.2.1) (ret := mi.2.2.2) (ws' := lw_tb) hy rfl ?_
  intro p e s m args below meth c s₁ B hml hv
  obtain ⟨rfl, hsz, hlo, hw, hK⟩ := hv
  have hts := atoms_spec (ws := miWs mi) B.pre
  have hl := lv_entry av hn
  rw [lg_entry_eq]
  exact h p l e s m av.toArray below meth c lo D cy s.heap [] _ ⟨B.exec, B.bytes, B.returns, hml, findClass_of_methodNamed B.named, hts, B.notSynchronized, hK, by rw [hsz]; exact hlo, (name_of_methodNamed B.named B.method).1⟩ hw hsz va_S.rf ⟨by rw [hL]; exact hl, hlen, cat1_lk L hcat⟩
section VR
variable {mi : MI} {d mc ms : Nat} {Po : Option Value → Wd → Nat → Prop} {w : Wd} {sz cells slots : Nat} {L : List (Option Value)} {stk : List Value} {pc : Nat}
theorem v_eqs {stk' : List Value} (h : stk' = stk) (k : V mi d mc ms Po w sz cells slots L stk' pc) : V mi d mc ms Po w sz cells slots L stk pc := h ▸ k
theorem v_eqL {L' : List (Option Value)} (h : L' = L) (k : V mi d mc ms Po w sz cells slots L' stk pc) : V mi d mc ms Po w sz cells slots L stk pc := h ▸ k
theorem v_eqw {w' : Wd} (h : w' = w) (k : V mi d mc ms Po w' sz cells slots L stk pc) : V mi d mc ms Po w sz cells slots L stk pc := h ▸ k

theorem v_iload_n {i : Fin 4} {x : Int32} (hd : decode mi.2.1 pc = .ok (.iload_n i, 1)) (hl0 : lk L i = some (.int x)) (k : V mi d mc ms Po w sz cells slots L (.int x :: stk) (pc + 1)) : V mi d mc ms Po w sz cells slots L (stk) (pc) := by
  intro p l e s m args below meth c lo D cy H locs ls C hw hz hS hl
  exact lv_iload_n C.1 C.2.1 hd rfl (hl.at hl0) (k p l e s m args below meth c lo D cy H locs ls C hw hz hS hl)
theorem v_iload {i : Nat} {x : Int32} (hd : decode mi.2.1 pc = .ok (.iload i, 2)) (hl0 : lk L i = some (.int x)) (k : V mi d mc ms Po w sz cells slots L (.int x :: stk) (pc + 2)) : V mi d mc ms Po w sz cells slots L (stk) (pc) := by
  intro p l e s m args below meth c lo D cy H locs ls C hw hz hS hl
  exact lv_iload C.1 C.2.1 hd (hl.at hl0) (k p l e s m args below meth c lo D cy H locs ls C hw hz hS hl)
theorem v_aload_n {i : Fin 4} {x : Nat} (hd : decode mi.2.1 pc = .ok (.aload_n i, 1)) (hl0 : lk L i = some (.ref x)) (k : V mi d mc ms Po w sz cells slots L (.ref x :: stk) (pc + 1)) : V mi d mc ms Po w sz cells slots L (stk) (pc) := by
  intro p l e s m args below meth c lo D cy H locs ls C hw hz hS hl
  exact lv_aload_n C.1 C.2.1 hd rfl (hl.at hl0) (k p l e s m args below meth c lo D cy H locs ls C hw hz hS hl)
theorem v_aload {i : Nat} {x : Nat} (hd : decode mi.2.1 pc = .ok (.aload i, 2)) (hl0 : lk L i = some (.ref x)) (k : V mi d mc ms Po w sz cells slots L (.ref x :: stk) (pc + 2)) : V mi d mc ms Po w sz cells slots L (stk) (pc) := by
  intro p l e s m args below meth c lo D cy H locs ls C hw hz hS hl
  exact lv_aload C.1 C.2.1 hd (hl.at hl0) (k p l e s m args below meth c lo D cy H locs ls C hw hz hS hl)
theorem v_aload_nN {i : Fin 4} (hd : decode mi.2.1 pc = .ok (.aload_n i, 1)) (hl0 : lk L i = some .null) (k : V mi d mc ms Po w sz cells slots L (.null :: stk) (pc + 1)) : V mi d mc ms Po w sz cells slots L (stk) (pc) := by
  intro p l e s m args below meth c lo D cy H locs ls C hw hz hS hl
  exact lv_aload_nN C.1 C.2.1 hd rfl (hl.at hl0) (k p l e s m args below meth c lo D cy H locs ls C hw hz hS hl)
theorem v_aloadN {i : Nat} (hd : decode mi.2.1 pc = .ok (.aload i, 2)) (hl0 : lk L i = some .null) (k : V mi d mc ms Po w sz cells slots L (.null :: stk) (pc + 2)) : V mi d mc ms Po w sz cells slots L (stk) (pc) := by
  intro p l e s m args below meth c lo D cy H locs ls C hw hz hS hl
  exact lv_aloadN C.1 C.2.1 hd (hl.at hl0) (k p l e s m args below meth c lo D cy H locs ls C hw hz hS hl)
theorem v_istore_n {i : Fin 4} {x : Int32} {L' : List (Option Value)} (hd : decode mi.2.1 pc = .ok (.istore_n i, 1)) (hi : (i : Nat) < mi.2.2.1) (hL : st L i (.int x) = L') (k : V mi d mc ms Po w sz cells slots L' (stk) (pc + 1)) : V mi d mc ms Po w sz cells slots L (.int x :: stk) (pc) := by
  intro p l e s m args below meth c lo D cy H locs ls C hw hz hS hl
  refine lv_istore_n C.1 C.2.1 hd rfl hl.1 hi rfl (fun ls' h' => ?_)
  exact k p l e s m args below meth c lo D cy H locs ls' C hw hz hS (by rw [← hL]; exact hl.st rfl h')
theorem v_istore {i : Nat} {x : Int32} {L' : List (Option Value)} (hd : decode mi.2.1 pc = .ok (.istore i, 2)) (hi : (i : Nat) < mi.2.2.1) (hL : st L i (.int x) = L') (k : V mi d mc ms Po w sz cells slots L' (stk) (pc + 2)) : V mi d mc ms Po w sz cells slots L (.int x :: stk) (pc) := by
  intro p l e s m args below meth c lo D cy H locs ls C hw hz hS hl
  refine lv_istore C.1 C.2.1 hd hl.1 hi rfl (fun ls' h' => ?_)
  exact k p l e s m args below meth c lo D cy H locs ls' C hw hz hS (by rw [← hL]; exact hl.st rfl h')
theorem v_astore_n {i : Fin 4} {x : Nat} {L' : List (Option Value)} (hd : decode mi.2.1 pc = .ok (.astore_n i, 1)) (hi : (i : Nat) < mi.2.2.1) (hL : st L i (.ref x) = L') (k : V mi d mc ms Po w sz cells slots L' (stk) (pc + 1)) : V mi d mc ms Po w sz cells slots L (.ref x :: stk) (pc) := by
  intro p l e s m args below meth c lo D cy H locs ls C hw hz hS hl
  refine lv_astore_n C.1 C.2.1 hd rfl hl.1 hi rfl (fun ls' h' => ?_)
  exact k p l e s m args below meth c lo D cy H locs ls' C hw hz hS (by rw [← hL]; exact hl.st rfl h')
theorem v_astore {i : Nat} {x : Nat} {L' : List (Option Value)} (hd : decode mi.2.1 pc = .ok (.astore i, 2)) (hi : (i : Nat) < mi.2.2.1) (hL : st L i (.ref x) = L') (k : V mi d mc ms Po w sz cells slots L' (stk) (pc + 2)) : V mi d mc ms Po w sz cells slots L (.ref x :: stk) (pc) := by
  intro p l e s m args below meth c lo D cy H locs ls C hw hz hS hl
  refine lv_astore C.1 C.2.1 hd hl.1 hi rfl (fun ls' h' => ?_)
  exact k p l e s m args below meth c lo D cy H locs ls' C hw hz hS (by rw [← hL]; exact hl.st rfl h')
theorem v_astore_nN {i : Fin 4} {L' : List (Option Value)} (hd : decode mi.2.1 pc = .ok (.astore_n i, 1)) (hi : (i : Nat) < mi.2.2.1) (hL : st L i (.null) = L') (k : V mi d mc ms Po w sz cells slots L' (stk) (pc + 1)) : V mi d mc ms Po w sz cells slots L (.null :: stk) (pc) := by
  intro p l e s m args below meth c lo D cy H locs ls C hw hz hS hl
  refine lv_astore_nN C.1 C.2.1 hd rfl hl.1 hi rfl (fun ls' h' => ?_)
  exact k p l e s m args below meth c lo D cy H locs ls' C hw hz hS (by rw [← hL]; exact hl.st rfl h')
theorem v_astoreN {i : Nat} {L' : List (Option Value)} (hd : decode mi.2.1 pc = .ok (.astore i, 2)) (hi : (i : Nat) < mi.2.2.1) (hL : st L i (.null) = L') (k : V mi d mc ms Po w sz cells slots L' (stk) (pc + 2)) : V mi d mc ms Po w sz cells slots L (.null :: stk) (pc) := by
  intro p l e s m args below meth c lo D cy H locs ls C hw hz hS hl
  refine lv_astoreN C.1 C.2.1 hd hl.1 hi rfl (fun ls' h' => ?_)
  exact k p l e s m args below meth c lo D cy H locs ls' C hw hz hS (by rw [← hL]; exact hl.st rfl h')
theorem v_iinc {i : Nat} {n : Int} {x y : Int32} {L' : List (Option Value)} (hd : decode mi.2.1 pc = .ok (.iinc i n, 3)) (hi : i < mi.2.2.1) (hl0 : lk L i = some (.int x)) (hy : x + Int32.ofInt n = y) (hL : st L i (.int y) = L') (k : V mi d mc ms Po w sz cells slots L' (stk) (pc + 3)) : V mi d mc ms Po w sz cells slots L (stk) (pc) := by
  intro p l e s m args below meth c lo D cy H locs ls C hw hz hS hl
  obtain ⟨j, hj⟩ := hl.mem hl0
  refine lv_iinc C.1 C.2.1 hd hl.1 hj hy hi rfl (fun ls' h' => ?_)
  exact k p l e s m args below meth c lo D cy H locs ls' C hw hz hS (by rw [← hL]; exact hl.st rfl h')
theorem v_iconst {n : Int} {v : Int32} (hd : decode mi.2.1 pc = .ok (.iconst n, 1)) (hv : Int32.ofInt n = v) (k : V mi d mc ms Po w sz cells slots L (.int v :: stk) (pc + 1)) : V mi d mc ms Po w sz cells slots L (stk) (pc) := by
  intro p l e s m args below meth c lo D cy H locs ls C hw hz hS hl
  exact lv_iconst C.1 C.2.1 hd hv (k p l e s m args below meth c lo D cy H locs ls C hw hz hS hl)
theorem v_bipush {n : Int} {v : Int32} (hd : decode mi.2.1 pc = .ok (.bipush n, 2)) (hv : (Int8.ofInt n).toInt32 = v) (k : V mi d mc ms Po w sz cells slots L (.int v :: stk) (pc + 2)) : V mi d mc ms Po w sz cells slots L (stk) (pc) := by
  intro p l e s m args below meth c lo D cy H locs ls C hw hz hS hl
  exact lv_bipush C.1 C.2.1 hd hv (k p l e s m args below meth c lo D cy H locs ls C hw hz hS hl)
theorem v_sipush {n : Int} {v : Int32} (hd : decode mi.2.1 pc = .ok (.sipush n, 3)) (hv : (Int16.ofInt n).toInt32 = v) (k : V mi d mc ms Po w sz cells slots L (.int v :: stk) (pc + 3)) : V mi d mc ms Po w sz cells slots L (stk) (pc) := by
  intro p l e s m args below meth c lo D cy H locs ls C hw hz hS hl
  exact lv_sipush C.1 C.2.1 hd hv (k p l e s m args below meth c lo D cy H locs ls C hw hz hS hl)
theorem v_null  (hd : decode mi.2.1 pc = .ok (.aconst_null, 1))  (k : V mi d mc ms Po w sz cells slots L (.null :: stk) (pc + 1)) : V mi d mc ms Po w sz cells slots L (stk) (pc) := by
  intro p l e s m args below meth c lo D cy H locs ls C hw hz hS hl
  exact lv_null C.1 C.2.1 hd  (k p l e s m args below meth c lo D cy H locs ls C hw hz hS hl)
theorem v_ldc {idx : Nat} {v : Int32} (hd : decode mi.2.1 pc = .ok (.ldc idx, 2)) (hc : Cond.constant mi.1.cls idx v ∈ lw_tb) (k : V mi d mc ms Po w sz cells slots L (.int v :: stk) (pc + 2)) : V mi d mc ms Po w sz cells slots L (stk) (pc) := by
  intro p l e s m args below meth c lo D cy H locs ls C hw hz hS hl
  exact lv_ldc C.1 C.2.1 C.2.2.2.2.1 (C.2.2.2.2.2.1 _ (List.mem_cons_of_mem _ hc)) hd (k p l e s m args below meth c lo D cy H locs ls C hw hz hS hl)
theorem v_iadd {x y : Int32} (hd : decode mi.2.1 pc = .ok (.iadd, 1))  (k : V mi d mc ms Po w sz cells slots L (.int (x + y) :: stk) (pc + 1)) : V mi d mc ms Po w sz cells slots L (.int y :: .int x :: stk) (pc) := by
  intro p l e s m args below meth c lo D cy H locs ls C hw hz hS hl
  exact lv_iadd C.1 C.2.1 hd  (k p l e s m args below meth c lo D cy H locs ls C hw hz hS hl)
theorem v_isub {x y : Int32} (hd : decode mi.2.1 pc = .ok (.isub, 1))  (k : V mi d mc ms Po w sz cells slots L (.int (x - y) :: stk) (pc + 1)) : V mi d mc ms Po w sz cells slots L (.int y :: .int x :: stk) (pc) := by
  intro p l e s m args below meth c lo D cy H locs ls C hw hz hS hl
  exact lv_isub C.1 C.2.1 hd  (k p l e s m args below meth c lo D cy H locs ls C hw hz hS hl)
theorem v_imul {x y : Int32} (hd : decode mi.2.1 pc = .ok (.imul, 1))  (k : V mi d mc ms Po w sz cells slots L (.int (x * y) :: stk) (pc + 1)) : V mi d mc ms Po w sz cells slots L (.int y :: .int x :: stk) (pc) := by
  intro p l e s m args below meth c lo D cy H locs ls C hw hz hS hl
  exact lv_imul C.1 C.2.1 hd  (k p l e s m args below meth c lo D cy H locs ls C hw hz hS hl)
theorem v_iand {x y : Int32} (hd : decode mi.2.1 pc = .ok (.iand, 1))  (k : V mi d mc ms Po w sz cells slots L (.int (x &&& y) :: stk) (pc + 1)) : V mi d mc ms Po w sz cells slots L (.int y :: .int x :: stk) (pc) := by
  intro p l e s m args below meth c lo D cy H locs ls C hw hz hS hl
  exact lv_iand C.1 C.2.1 hd  (k p l e s m args below meth c lo D cy H locs ls C hw hz hS hl)
theorem v_ior {x y : Int32} (hd : decode mi.2.1 pc = .ok (.ior, 1))  (k : V mi d mc ms Po w sz cells slots L (.int (x ||| y) :: stk) (pc + 1)) : V mi d mc ms Po w sz cells slots L (.int y :: .int x :: stk) (pc) := by
  intro p l e s m args below meth c lo D cy H locs ls C hw hz hS hl
  exact lv_ior C.1 C.2.1 hd  (k p l e s m args below meth c lo D cy H locs ls C hw hz hS hl)
theorem v_ixor {x y : Int32} (hd : decode mi.2.1 pc = .ok (.ixor, 1))  (k : V mi d mc ms Po w sz cells slots L (.int (x ^^^ y) :: stk) (pc + 1)) : V mi d mc ms Po w sz cells slots L (.int y :: .int x :: stk) (pc) := by
  intro p l e s m args below meth c lo D cy H locs ls C hw hz hS hl
  exact lv_ixor C.1 C.2.1 hd  (k p l e s m args below meth c lo D cy H locs ls C hw hz hS hl)
theorem v_ishl {x y : Int32} (hd : decode mi.2.1 pc = .ok (.ishl, 1))  (k : V mi d mc ms Po w sz cells slots L (.int (x <<< (y &&& 31)) :: stk) (pc + 1)) : V mi d mc ms Po w sz cells slots L (.int y :: .int x :: stk) (pc) := by
  intro p l e s m args below meth c lo D cy H locs ls C hw hz hS hl
  exact lv_ishl C.1 C.2.1 hd  (k p l e s m args below meth c lo D cy H locs ls C hw hz hS hl)
theorem v_ishr {x y : Int32} (hd : decode mi.2.1 pc = .ok (.ishr, 1))  (k : V mi d mc ms Po w sz cells slots L (.int (x >>> (y &&& 31)) :: stk) (pc + 1)) : V mi d mc ms Po w sz cells slots L (.int y :: .int x :: stk) (pc) := by
  intro p l e s m args below meth c lo D cy H locs ls C hw hz hS hl
  exact lv_ishr C.1 C.2.1 hd  (k p l e s m args below meth c lo D cy H locs ls C hw hz hS hl)
theorem v_iushr {x y v : Int32} (hd : decode mi.2.1 pc = .ok (.iushr, 1)) (hv : (x.toUInt32 >>> (y.toUInt32 &&& Int32.toUInt32 31)).toInt32 = v) (k : V mi d mc ms Po w sz cells slots L (.int v :: stk) (pc + 1)) : V mi d mc ms Po w sz cells slots L (.int y :: .int x :: stk) (pc) := by
  intro p l e s m args below meth c lo D cy H locs ls C hw hz hS hl
  exact lv_iushr C.1 C.2.1 hd hv (k p l e s m args below meth c lo D cy H locs ls C hw hz hS hl)
theorem v_idiv {x y : Int32} (hd : decode mi.2.1 pc = .ok (.idiv, 1)) (hne : ¬ y = 0) (k : V mi d mc ms Po w sz cells slots L (.int (x / y) :: stk) (pc + 1)) : V mi d mc ms Po w sz cells slots L (.int y :: .int x :: stk) (pc) := by
  intro p l e s m args below meth c lo D cy H locs ls C hw hz hS hl
  exact lv_idiv C.1 C.2.1 hd hne (k p l e s m args below meth c lo D cy H locs ls C hw hz hS hl)
theorem v_irem {x y : Int32} (hd : decode mi.2.1 pc = .ok (.irem, 1)) (hne : ¬ y = 0) (k : V mi d mc ms Po w sz cells slots L (.int (x - x / y * y) :: stk) (pc + 1)) : V mi d mc ms Po w sz cells slots L (.int y :: .int x :: stk) (pc) := by
  intro p l e s m args below meth c lo D cy H locs ls C hw hz hS hl
  exact lv_irem C.1 C.2.1 hd hne (k p l e s m args below meth c lo D cy H locs ls C hw hz hS hl)
theorem v_i2c {x v : Int32} (hd : decode mi.2.1 pc = .ok (.i2c, 1)) (hv : (x.toUInt32 % 65536).toInt32 = v) (k : V mi d mc ms Po w sz cells slots L (.int v :: stk) (pc + 1)) : V mi d mc ms Po w sz cells slots L (.int x :: stk) (pc) := by
  intro p l e s m args below meth c lo D cy H locs ls C hw hz hS hl
  exact lv_i2c C.1 C.2.1 hd hv (k p l e s m args below meth c lo D cy H locs ls C hw hz hS hl)
theorem v_dup {va : Value} (hd : decode mi.2.1 pc = .ok (.dup, 1)) (hva : va.category = 1) (k : V mi d mc ms Po w sz cells slots L (va :: va :: stk) (pc + 1)) : V mi d mc ms Po w sz cells slots L (va :: stk) (pc) := by
  intro p l e s m args below meth c lo D cy H locs ls C hw hz hS hl
  exact lv_dup C.1 C.2.1 hd hva (k p l e s m args below meth c lo D cy H locs ls C hw hz hS hl)
theorem v_pop {va : Value} (hd : decode mi.2.1 pc = .ok (.pop, 1)) (hva : va.category = 1) (k : V mi d mc ms Po w sz cells slots L (stk) (pc + 1)) : V mi d mc ms Po w sz cells slots L (va :: stk) (pc) := by
  intro p l e s m args below meth c lo D cy H locs ls C hw hz hS hl
  exact lv_pop C.1 C.2.1 hd hva (k p l e s m args below meth c lo D cy H locs ls C hw hz hS hl)
theorem v_dup2 {va vb : Value} (hd : decode mi.2.1 pc = .ok (.dup2, 1)) (hva : va.category = 1) (hvb : vb.category = 1) (k : V mi d mc ms Po w sz cells slots L (va :: vb :: va :: vb :: stk) (pc + 1)) : V mi d mc ms Po w sz cells slots L (va :: vb :: stk) (pc) := by
  intro p l e s m args below meth c lo D cy H locs ls C hw hz hS hl
  exact lv_dup2_11 C.1 C.2.1 hd hva hvb (k p l e s m args below meth c lo D cy H locs ls C hw hz hS hl)
theorem v_dup_x1 {va vb : Value} (hd : decode mi.2.1 pc = .ok (.dup_x1, 1)) (hva : va.category = 1) (hvb : vb.category = 1) (k : V mi d mc ms Po w sz cells slots L (va :: vb :: va :: stk) (pc + 1)) : V mi d mc ms Po w sz cells slots L (va :: vb :: stk) (pc) := by
  intro p l e s m args below meth c lo D cy H locs ls C hw hz hS hl
  exact lv_dup_x1 C.1 C.2.1 hd hva hvb (k p l e s m args below meth c lo D cy H locs ls C hw hz hS hl)
theorem v_goto {off : Int} {tgt : Nat} (hd : decode mi.2.1 pc = .ok (.goto off, 3)) (ht : (pc : Int) + off = (tgt : Int)) (k : V mi d mc ms Po w sz cells slots L (stk) (tgt)) : V mi d mc ms Po w sz cells slots L (stk) (pc) := by
  intro p l e s m args below meth c lo D cy H locs ls C hw hz hS hl
  exact lv_goto C.1 C.2.1 hd ht (k p l e s m args below meth c lo D cy H locs ls C hw hz hS hl)
theorem v_icmp_eq {x y : Int32} {off : Int} {tgt : Nat} (hd : decode mi.2.1 pc = .ok (.if_icmp .eq off, 3)) (ht : (pc : Int) + off = (tgt : Int)) (kt : x = y → V mi d mc ms Po w sz cells slots L (stk) (tgt)) (kf : ¬ x = y → V mi d mc ms Po w sz cells slots L (stk) (pc + 3)) : V mi d mc ms Po w sz cells slots L (.int y :: .int x :: stk) (pc) := by
  intro p l e s m args below meth c lo D cy H locs ls C hw hz hS hl
  exact lv_icmp_eq C.1 C.2.1 hd ht (fun z => kt z p l e s m args below meth c lo D cy H locs ls C hw hz hS hl) (fun z => kf z p l e s m args below meth c lo D cy H locs ls C hw hz hS hl)
theorem v_icmp_ne {x y : Int32} {off : Int} {tgt : Nat} (hd : decode mi.2.1 pc = .ok (.if_icmp .ne off, 3)) (ht : (pc : Int) + off = (tgt : Int)) (kt : ¬ x = y → V mi d mc ms Po w sz cells slots L (stk) (tgt)) (kf : x = y → V mi d mc ms Po w sz cells slots L (stk) (pc + 3)) : V mi d mc ms Po w sz cells slots L (.int y :: .int x :: stk) (pc) := by
  intro p l e s m args below meth c lo D cy H locs ls C hw hz hS hl
  exact lv_icmp_ne C.1 C.2.1 hd ht (fun z => kt z p l e s m args below meth c lo D cy H locs ls C hw hz hS hl) (fun z => kf z p l e s m args below meth c lo D cy H locs ls C hw hz hS hl)
theorem v_icmp_lt {x y : Int32} {off : Int} {tgt : Nat} (hd : decode mi.2.1 pc = .ok (.if_icmp .lt off, 3)) (ht : (pc : Int) + off = (tgt : Int)) (kt : x < y → V mi d mc ms Po w sz cells slots L (stk) (tgt)) (kf : ¬ x < y → V mi d mc ms Po w sz cells slots L (stk) (pc + 3)) : V mi d mc ms Po w sz cells slots L (.int y :: .int x :: stk) (pc) := by
  intro p l e s m args below meth c lo D cy H locs ls C hw hz hS hl
  exact lv_icmp_lt C.1 C.2.1 hd ht (fun z => kt z p l e s m args below meth c lo D cy H locs ls C hw hz hS hl) (fun z => kf z p l e s m args below meth c lo D cy H locs ls C hw hz hS hl)
theorem v_icmp_ge {x y : Int32} {off : Int} {tgt : Nat} (hd : decode mi.2.1 pc = .ok (.if_icmp .ge off, 3)) (ht : (pc : Int) + off = (tgt : Int)) (kt : y ≤ x → V mi d mc ms Po w sz cells slots L (stk) (tgt)) (kf : ¬ y ≤ x → V mi d mc ms Po w sz cells slots L (stk) (pc + 3)) : V mi d mc ms Po w sz cells slots L (.int y :: .int x :: stk) (pc) := by
  intro p l e s m args below meth c lo D cy H locs ls C hw hz hS hl
  exact lv_icmp_ge C.1 C.2.1 hd ht (fun z => kt z p l e s m args below meth c lo D cy H locs ls C hw hz hS hl) (fun z => kf z p l e s m args below meth c lo D cy H locs ls C hw hz hS hl)
theorem v_icmp_gt {x y : Int32} {off : Int} {tgt : Nat} (hd : decode mi.2.1 pc = .ok (.if_icmp .gt off, 3)) (ht : (pc : Int) + off = (tgt : Int)) (kt : y < x → V mi d mc ms Po w sz cells slots L (stk) (tgt)) (kf : ¬ y < x → V mi d mc ms Po w sz cells slots L (stk) (pc + 3)) : V mi d mc ms Po w sz cells slots L (.int y :: .int x :: stk) (pc) := by
  intro p l e s m args below meth c lo D cy H locs ls C hw hz hS hl
  exact lv_icmp_gt C.1 C.2.1 hd ht (fun z => kt z p l e s m args below meth c lo D cy H locs ls C hw hz hS hl) (fun z => kf z p l e s m args below meth c lo D cy H locs ls C hw hz hS hl)
theorem v_icmp_le {x y : Int32} {off : Int} {tgt : Nat} (hd : decode mi.2.1 pc = .ok (.if_icmp .le off, 3)) (ht : (pc : Int) + off = (tgt : Int)) (kt : x ≤ y → V mi d mc ms Po w sz cells slots L (stk) (tgt)) (kf : ¬ x ≤ y → V mi d mc ms Po w sz cells slots L (stk) (pc + 3)) : V mi d mc ms Po w sz cells slots L (.int y :: .int x :: stk) (pc) := by
  intro p l e s m args below meth c lo D cy H locs ls C hw hz hS hl
  exact lv_icmp_le C.1 C.2.1 hd ht (fun z => kt z p l e s m args below meth c lo D cy H locs ls C hw hz hS hl) (fun z => kf z p l e s m args below meth c lo D cy H locs ls C hw hz hS hl)
theorem v_if_eq {x : Int32} {off : Int} {tgt : Nat} (hd : decode mi.2.1 pc = .ok (.ifCond .eq off, 3)) (ht : (pc : Int) + off = (tgt : Int)) (kt : x = 0 → V mi d mc ms Po w sz cells slots L (stk) (tgt)) (kf : ¬ x = 0 → V mi d mc ms Po w sz cells slots L (stk) (pc + 3)) : V mi d mc ms Po w sz cells slots L (.int x :: stk) (pc) := by
  intro p l e s m args below meth c lo D cy H locs ls C hw hz hS hl
  exact lv_if_eq C.1 C.2.1 hd ht (fun z => kt z p l e s m args below meth c lo D cy H locs ls C hw hz hS hl) (fun z => kf z p l e s m args below meth c lo D cy H locs ls C hw hz hS hl)
theorem v_if_ne {x : Int32} {off : Int} {tgt : Nat} (hd : decode mi.2.1 pc = .ok (.ifCond .ne off, 3)) (ht : (pc : Int) + off = (tgt : Int)) (kt : ¬ x = 0 → V mi d mc ms Po w sz cells slots L (stk) (tgt)) (kf : x = 0 → V mi d mc ms Po w sz cells slots L (stk) (pc + 3)) : V mi d mc ms Po w sz cells slots L (.int x :: stk) (pc) := by
  intro p l e s m args below meth c lo D cy H locs ls C hw hz hS hl
  exact lv_if_ne C.1 C.2.1 hd ht (fun z => kt z p l e s m args below meth c lo D cy H locs ls C hw hz hS hl) (fun z => kf z p l e s m args below meth c lo D cy H locs ls C hw hz hS hl)
theorem v_if_lt {x : Int32} {off : Int} {tgt : Nat} (hd : decode mi.2.1 pc = .ok (.ifCond .lt off, 3)) (ht : (pc : Int) + off = (tgt : Int)) (kt : x < 0 → V mi d mc ms Po w sz cells slots L (stk) (tgt)) (kf : ¬ x < 0 → V mi d mc ms Po w sz cells slots L (stk) (pc + 3)) : V mi d mc ms Po w sz cells slots L (.int x :: stk) (pc) := by
  intro p l e s m args below meth c lo D cy H locs ls C hw hz hS hl
  exact lv_if_lt C.1 C.2.1 hd ht (fun z => kt z p l e s m args below meth c lo D cy H locs ls C hw hz hS hl) (fun z => kf z p l e s m args below meth c lo D cy H locs ls C hw hz hS hl)
theorem v_if_ge {x : Int32} {off : Int} {tgt : Nat} (hd : decode mi.2.1 pc = .ok (.ifCond .ge off, 3)) (ht : (pc : Int) + off = (tgt : Int)) (kt : 0 ≤ x → V mi d mc ms Po w sz cells slots L (stk) (tgt)) (kf : ¬ 0 ≤ x → V mi d mc ms Po w sz cells slots L (stk) (pc + 3)) : V mi d mc ms Po w sz cells slots L (.int x :: stk) (pc) := by
  intro p l e s m args below meth c lo D cy H locs ls C hw hz hS hl
  exact lv_if_ge C.1 C.2.1 hd ht (fun z => kt z p l e s m args below meth c lo D cy H locs ls C hw hz hS hl) (fun z => kf z p l e s m args below meth c lo D cy H locs ls C hw hz hS hl)
theorem v_if_gt {x : Int32} {off : Int} {tgt : Nat} (hd : decode mi.2.1 pc = .ok (.ifCond .gt off, 3)) (ht : (pc : Int) + off = (tgt : Int)) (kt : 0 < x → V mi d mc ms Po w sz cells slots L (stk) (tgt)) (kf : ¬ 0 < x → V mi d mc ms Po w sz cells slots L (stk) (pc + 3)) : V mi d mc ms Po w sz cells slots L (.int x :: stk) (pc) := by
  intro p l e s m args below meth c lo D cy H locs ls C hw hz hS hl
  exact lv_if_gt C.1 C.2.1 hd ht (fun z => kt z p l e s m args below meth c lo D cy H locs ls C hw hz hS hl) (fun z => kf z p l e s m args below meth c lo D cy H locs ls C hw hz hS hl)
theorem v_if_le {x : Int32} {off : Int} {tgt : Nat} (hd : decode mi.2.1 pc = .ok (.ifCond .le off, 3)) (ht : (pc : Int) + off = (tgt : Int)) (kt : x ≤ 0 → V mi d mc ms Po w sz cells slots L (stk) (tgt)) (kf : ¬ x ≤ 0 → V mi d mc ms Po w sz cells slots L (stk) (pc + 3)) : V mi d mc ms Po w sz cells slots L (.int x :: stk) (pc) := by
  intro p l e s m args below meth c lo D cy H locs ls C hw hz hS hl
  exact lv_if_le C.1 C.2.1 hd ht (fun z => kt z p l e s m args below meth c lo D cy H locs ls C hw hz hS hl) (fun z => kf z p l e s m args below meth c lo D cy H locs ls C hw hz hS hl)
theorem v_ifnull {x : Nat} {off : Int} (hd : decode mi.2.1 pc = .ok (.ifnull off, 3)) (k : V mi d mc ms Po w sz cells slots L (stk) (pc + 3)) : V mi d mc ms Po w sz cells slots L (.ref x :: stk) (pc) := by
  intro p l e s m args below meth c lo D cy H locs ls C hw hz hS hl
  exact lv_ifnull C.1 C.2.1 hd (k p l e s m args below meth c lo D cy H locs ls C hw hz hS hl)
theorem v_ifnonnull {x : Nat} {off : Int} {tgt : Nat} (hd : decode mi.2.1 pc = .ok (.ifnonnull off, 3)) (ht : (pc : Int) + off = (tgt : Int)) (k : V mi d mc ms Po w sz cells slots L (stk) (tgt)) : V mi d mc ms Po w sz cells slots L (.ref x :: stk) (pc) := by
  intro p l e s m args below meth c lo D cy H locs ls C hw hz hS hl
  exact lv_ifnonnull C.1 C.2.1 hd ht (k p l e s m args below meth c lo D cy H locs ls C hw hz hS hl)
theorem v_ifnullN {off : Int} {tgt : Nat} (hd : decode mi.2.1 pc = .ok (.ifnull off, 3)) (ht : (pc : Int) + off = (tgt : Int)) (k : V mi d mc ms Po w sz cells slots L (stk) (tgt)) : V mi d mc ms Po w sz cells slots L (.null :: stk) (pc) := by
  intro p l e s m args below meth c lo D cy H locs ls C hw hz hS hl
  exact lv_ifnullN C.1 C.2.1 hd ht (k p l e s m args below meth c lo D cy H locs ls C hw hz hS hl)
theorem v_ifnonnullN {off : Int} (hd : decode mi.2.1 pc = .ok (.ifnonnull off, 3)) (k : V mi d mc ms Po w sz cells slots L (stk) (pc + 3)) : V mi d mc ms Po w sz cells slots L (.null :: stk) (pc) := by
  intro p l e s m args below meth c lo D cy H locs ls C hw hz hS hl
  exact lv_ifnonnullN C.1 C.2.1 hd (k p l e s m args below meth c lo D cy H locs ls C hw hz hS hl)
theorem v_acmp_eq {rx ry : Option Nat} {off : Int} {tgt : Nat} (hd : decode mi.2.1 pc = .ok (.if_acmp .eq off, 3)) (ht : (pc : Int) + off = (tgt : Int)) (kt : rx = ry → V mi d mc ms Po w sz cells slots L (stk) (tgt)) (kf : ¬ rx = ry → V mi d mc ms Po w sz cells slots L (stk) (pc + 3)) : V mi d mc ms Po w sz cells slots L (va_rf ry :: va_rf rx :: stk) (pc) := by
  intro p l e s m args below meth c lo D cy H locs ls C hw hz hS hl
  exact lv_acmp_eq C.1 C.2.1 hd ht (fun z => kt z p l e s m args below meth c lo D cy H locs ls C hw hz hS hl) (fun z => kf z p l e s m args below meth c lo D cy H locs ls C hw hz hS hl)
theorem v_acmp_ne {rx ry : Option Nat} {off : Int} {tgt : Nat} (hd : decode mi.2.1 pc = .ok (.if_acmp .ne off, 3)) (ht : (pc : Int) + off = (tgt : Int)) (kt : ¬ rx = ry → V mi d mc ms Po w sz cells slots L (stk) (tgt)) (kf : rx = ry → V mi d mc ms Po w sz cells slots L (stk) (pc + 3)) : V mi d mc ms Po w sz cells slots L (va_rf ry :: va_rf rx :: stk) (pc) := by
  intro p l e s m args below meth c lo D cy H locs ls C hw hz hS hl
  exact lv_acmp_ne C.1 C.2.1 hd ht (fun z => kt z p l e s m args below meth c lo D cy H locs ls C hw hz hS hl) (fun z => kf z p l e s m args below meth c lo D cy H locs ls C hw hz hS hl)
theorem v_tableIn {dflt lo hi : Int} {offs : Array Int} {len : Nat} {x : Int32} {off : Int} {tgt : Nat} (hd : decode mi.2.1 pc = .ok (.tableswitch dflt lo hi offs, len)) (h1 : ¬ x.toInt < lo) (h2 : ¬ hi < x.toInt) (ho : offs[(x.toInt - lo).toNat]? = some off) (ht : (pc : Int) + off = (tgt : Int)) (k : V mi d mc ms Po w sz cells slots L (stk) (tgt)) : V mi d mc ms Po w sz cells slots L (.int x :: stk) (pc) := by
  intro p l e s m args below meth c lo' D cy H locs ls C hw hz hS hl
  exact lv_tableIn C.1 C.2.1 hd h1 h2 ho ht (k p l e s m args below meth c lo' D cy H locs ls C hw hz hS hl)
theorem v_tableOut {dflt lo hi : Int} {offs : Array Int} {len : Nat} {x : Int32} {tgt : Nat} (hd : decode mi.2.1 pc = .ok (.tableswitch dflt lo hi offs, len)) (h : x.toInt < lo ∨ hi < x.toInt) (ht : (pc : Int) + dflt = (tgt : Int)) (k : V mi d mc ms Po w sz cells slots L (stk) (tgt)) : V mi d mc ms Po w sz cells slots L (.int x :: stk) (pc) := by
  intro p l e s m args below meth c lo' D cy H locs ls C hw hz hS hl
  exact lv_tableOut C.1 C.2.1 hd h ht (k p l e s m args below meth c lo' D cy H locs ls C hw hz hS hl)
theorem v_iret {x : Int32} (hd : decode mi.2.1 pc = .ok (.ireturn, 1)) (hr : mi.2.2.2 = some .int) (hc : cells ≤ mc) (hs : slots ≤ ms) (h : Po (some (.int x)) w sz) : V mi d mc ms Po w sz cells slots L ([.int x]) (pc) := by
  intro p l e s m args below meth c lo D cy H locs ls C hw hz hS hl
  refine W.widen hc hs ?_
  exact W.iret C.1 C.2.1 (C.2.2.1.trans hr) (fun t ht hW => ⟨_, w, rfl, by rw [ht]; exact hw, by rw [ht, hz]; exact h, hS.F ht⟩) hS.2.2 hd (hlocks := C.2.2.2.2.2.2.1)
theorem v_zret {x : Int32} (hd : decode mi.2.1 pc = .ok (.ireturn, 1)) (hr : mi.2.2.2 = some .boolean) (hn : narrow .boolean (.int x) = .int x) (hc : cells ≤ mc) (hs : slots ≤ ms) (h : Po (some (.int x)) w sz) : V mi d mc ms Po w sz cells slots L ([.int x]) (pc) := by
  intro p l e s m args below meth c lo D cy H locs ls C hw hz hS hl
  refine W.widen hc hs ?_
  exact W.zret C.1 C.2.1 (C.2.2.1.trans hr) hn (fun t ht hW => ⟨_, w, rfl, by rw [ht]; exact hw, by rw [ht, hz]; exact h, hS.F ht⟩) hS.2.2 hd (hlocks := C.2.2.2.2.2.2.1)
theorem v_ret (hd : decode mi.2.1 pc = .ok (.return_, 1)) (hr : mi.2.2.2 = none) (hc : cells ≤ mc) (hs : slots ≤ ms) (h : Po none w sz) : V mi d mc ms Po w sz cells slots L ([]) (pc) := by
  intro p l e s m args below meth c lo D cy H locs ls C hw hz hS hl
  refine W.widen hc hs ?_
  exact W.vret C.1 C.2.1 (C.2.2.1.trans hr) (fun t ht hW => ⟨_, w, rfl, by rw [ht]; exact hw, by rw [ht, hz]; exact h, hS.F ht⟩) hS.2.2 hd (hlocks := C.2.2.2.2.2.2.1)
theorem v_aret {v : Value} {n : String} (hd : decode mi.2.1 pc = .ok (.areturn, 1)) (hr : mi.2.2.2 = some (.object n)) (hv : v = .null ∨ ∃ a, v = .ref a) (hc : cells ≤ mc) (hs : slots ≤ ms) (h : Po (some v) w sz) : V mi d mc ms Po w sz cells slots L ([v]) (pc) := by
  intro p l e s m args below meth c lo D cy H locs ls C hw hz hS hl
  refine W.widen hc hs ?_
  exact W.aret C.1 C.2.1 (C.2.2.1.trans hr) (Or.inl ⟨n, rfl⟩) hv (fun t ht hW => ⟨_, w, rfl, by rw [ht]; exact hw, by rw [ht, hz]; exact h, hS.F ht⟩) hS.2.2 hd (hlocks := C.2.2.2.2.2.2.1)
end VR
end
section
section VC0
variable {p : Program} {l : Launch} {e : Env} {R : Room} {s : State} {m : MethodId} {args : Array Value} {below : List Frame} {meth : Method} {c : Code} {H : Heap} {locs : List Loc} {cells slots : Nat} {Q : State → Prop} {D : va_G} {cl : List vw_C} {tys : List (ClassId × FieldType)} {pc : Nat} {ls : Array Slot} {rest : List Value}
theorem v_copy0 {cc : ByteArray} {a : Nat} (hexec : p.tables.exec = Jvm.exec) (hb : c.code = cc) (hml : c.maxLocals = ls.size) {own : String} {index : Nat} (hown : s.vm.findClass own = some m.cls) (hlink : (Cond.methodLink own index arraycopyName).before args s = true) (hnat : (Cond.native arraycopyName).before args s = true) (hstat : (Cond.static arraycopyName).before args s = true) (hini : (Cond.initialized "java/lang/System").before args s = true)
    (hK : va_K D cl tys s) {a0 : Nat} {c0 : ClassId} {t0 : Nat} {n0 n1 : Nat} {f g : Nat → Int32} {ty : FieldType} (hP0 : va_P D cl [(a0, .inl (c0, n0, .inl f))] H) (hP1 : va_P D cl [(a, .inl (c0, n1, .inl g))] H) (ht0 : tys[t0]? = some (c0, ty)) (hprim : refKind ty = false)
    {sp dp n : Int32} (h1 : ¬ sp < 0) (h2 : ¬ dp < 0) (h3 : ¬ n < 0) (h4 : sp.toNatClampNeg + n.toNatClampNeg ≤ n0) (h5 : dp.toNatClampNeg + n.toNatClampNeg ≤ n1) (hfit : ∀ i, i < n.toNatClampNeg → fits ty (.int (f (sp.toNatClampNeg + i))) = true)
    (hframes : 1 ≤ R.frames) (hlocals : (rest.map fun v => v.category).sum + (nativeFrameWords "java/lang/System" "arraycopy" 5 + 11) ≤ R.locals) (hdg : decode cc pc = .ok (.invokestatic index, 3))
    (kk : ∀ (H1 : Heap) (L : List Loc), H1[a]? = some (vp_cell c0 (n1, .inl (va_cpy f g sp.toNatClampNeg dp.toNatClampNeg n.toNatClampNeg))) → H1.size = H.size → (∀ q : Nat, q ≠ a → H1[q]? = H[q]?) → (∀ x ∈ L, x.base = a) → W p l e R s m args below meth c H1 (locs ++ L) cells slots Q (F0 m (pc + 3) ls rest)) : W p l e R s m args below meth c H locs cells slots Q (F0 m pc ls (.int n :: .int dp :: .ref a :: .int sp :: .ref a0 :: rest)) := by
  have nn : ∀ z : Int32, ¬ z < 0 → z.toInt = (z.toNatClampNeg : Int) := by
    intro z hz
    have hz0 : (0 : Int) ≤ z.toInt := by
      have := Int32.not_lt.mp hz
      simpa using Int32.le_iff_toInt_le.mp this
    show z.toInt = ((z.toInt.toNat : Nat) : Int)
    omega
  intro T hT X
  have hc0 : H[a0]? = some (vp_cell c0 (n0, .inl f)) := hP0 0 _ rfl
  have hc1 : H[a]? = some (vp_cell c0 (n1, .inl g)) := hP1 0 _ rfl
  obtain ⟨-, k0, hk0, cm0, hkk0⟩ := (hK.2 t0 _ ht0).1 n0 (fun j => .int (f j))
  obtain ⟨-, k1, hk1, cm1, hkk1⟩ := (hK.2 t0 _ ht0).1 n1 (fun j => .int (g j))
  obtain ⟨vm', X', step⟩ := X.arraycopy hexec hown hlink hnat hstat hini (src := a0) (dst := a) (cs := vp_cell c0 (n0, .inl f)) (cd := vp_cell c0 (n1, .inl g)) (srcPos := sp) (destPos := dp) (n := n) (by rw [hT]; exact hc0) (by rw [hT]; exact hc1)
    (fun _ h => by cases h) (fun _ h => by cases h) (fun h => by cases h) (fun h => by cases h) hk0 hk1 hkk0 hkk1 (by simp [hprim]) h1 h2 h3
    (by rw [nn sp h1, nn n h3]; show ¬ _ > ((arrV c0 n0 (fun j => .int (f j))).slots.size : Int); rw [arrV_size]; omega)
    (by rw [nn dp h2, nn n h3]; show ¬ _ > ((arrV c0 n1 (fun j => .int (g j))).slots.size : Int); rw [arrV_size]; omega)
    (fun vm₁ _ i hi => by
      have e : (vp_cell c0 (n0, .inl f)).slots.getD (sp.toNatClampNeg + i) .null = .int (f (sp.toNatClampNeg + i)) := by
        show (arrV c0 n0 (fun j => .int (f j))).slots.getD _ _ = _
        rw [Array.getD_eq_getD_getElem?, arrV_read _ _ (by omega)]
        rfl
      refine ⟨?_, ?_⟩
      · rw [e]
        exact hfit i hi
      · rw [e]
        exact trivial)
    (g := F0 m pc ls (.int n :: .int dp :: .ref a :: .int sp :: .ref a0 :: rest)) rfl (by rw [hml]) (rest := rest) rfl (by rw [hb]; exact hdg) hframes (by show 2 * 0 + _ + _ ≤ _; omega)
  have e1 : copied (vp_cell c0 (n0, .inl f)) (vp_cell c0 (n1, .inl g)) sp dp n = vp_cell c0 (n1, .inl (va_cpy f g sp.toNatClampNeg dp.toNatClampNeg n.toNatClampNeg)) := va_copied (fun z => .int z) c0 c0 f g h4
  rw [e1] at X' step
  have hl : a < H.size := (Array.getElem?_eq_some_iff.mp hc1).1
  have hheap : ((T.setVm vm').setCell a (vp_cell c0 (n1, .inl (va_cpy f g sp.toNatClampNeg dp.toNatClampNeg n.toNatClampNeg)))).heap = H.setIfInBounds a (vp_cell c0 (n1, .inl (va_cpy f g sp.toNatClampNeg dp.toNatClampNeg n.toNatClampNeg))) := by rw [← hT]; rfl
  have oq : ∀ q : Nat, q ≠ a → (H.setIfInBounds a (vp_cell c0 (n1, .inl (va_cpy f g sp.toNatClampNeg dp.toNatClampNeg n.toNatClampNeg))))[q]? = H[q]? := fun q hq => by simp [Array.getElem?_setIfInBounds, Ne.symm hq]
  obtain ⟨t, a1, b1⟩ := kk _ _ (show (H.setIfInBounds a _)[a]? = some _ by simp [Array.getElem?_setIfInBounds, hl]) (by simp) oq (fun q hq => by
      obtain ⟨z, -, hz⟩ := List.mem_map.mp hq
      rw [← hz]) _ hheap X'
  exact ⟨t, step t a1, b1⟩
end VC0
/-- what the tables say of a class's fields: by the place of the class in vwCl -/
def FT (ci : Nat) (C : String) (T : u_T) (N : Nat) (ty : Nat → FieldType) : Prop := vwCl[ci]? = some (C, T, N) ∧ (∀ w ∈ u_ws C T N, w ∈ lw_tb) ∧ (∀ k, k < N → parseFieldDescriptor (T k).2.2.1 = some (ty k)) ∧ (∀ a, a < N → ∀ b, b < N → a ≠ b → (T a).2.1 ≠ (T b).2.1)
theorem FT.ts {ci : Nat} {C : String} {T : u_T} {N : Nat} {ty : Nat → FieldType} (h : FT ci C T N ty) (mi : MI) : ∀ w ∈ u_ws C T N, w ∈ miWs mi := fun w hw => List.mem_cons_of_mem _ (h.2.1 w hw)
theorem tys5_at (cy : Nat → ClassId) {t : Nat} (h : t < 5) : (tys5 cy)[t]? = some (cy t, tyA t) := by
  match t, h with
  | 0, _ => rfl
  | 1, _ => rfl
  | 2, _ => rfl
  | 3, _ => rfl
  | 4, _ => rfl
theorem hW.ob {D : va_G} {cy : Nat → ClassId} {lo q ci : Nat} {w : Wd} {fs : List Value} {H : Heap} (h : hW D cy lo w H) (hq : w q = some (ob ci fs)) : va_P D vwCl [(q, .inr (ci, fs))] H := h.P hq
theorem hW.ia {D : va_G} {cy : Nat → ClassId} {lo q t n : Nat} {w : Wd} {f : Nat → Int32} {H : Heap} (h : hW D cy lo w H) (hq : w q = some (ia t n f)) : va_P D vwCl [(q, .inl (cy t, n, .inl f))] H := h.P hq
theorem hW.ra {D : va_G} {cy : Nat → ClassId} {lo q t n : Nat} {w : Wd} {f : Nat → Option Nat} {H : Heap} (h : hW D cy lo w H) (hq : w q = some (ra t n f)) : va_P D vwCl [(q, .inl (cy t, n, .inr (.inr (.inr (.inr f)))))] H := h.P hq
theorem inR {k n : Nat} (h : k < n) (hn : n ≤ 2147483647) : vp_in (nI k) n := nI_in h (by omega)
theorem upS {lo a : Nat} {H0 H H1 : Heap} {locs L : List Loc} (hS : va_S (fun q => lo ≤ q) H0 H locs) (ha : lo ≤ a) (z : H1.size = H.size) (oq : ∀ q : Nat, q ≠ a → H1[q]? = H[q]?) (hL : ∀ x ∈ L, x.base = a) : va_S (fun q => lo ≤ q) H0 H1 (locs ++ L) :=
  ⟨by rw [z]; exact hS.1, fun q h1 h2 => by rw [oq q (fun e => h2 (by rw [e]; exact ha))]; exact hS.2.1 q h1 h2, fun x hx => by
    rcases List.mem_append.mp hx with h | h
    · exact hS.2.2 x h
    · rw [hL x h]; exact ha⟩
section VH
variable {mi : MI} {d mc ms : Nat} {Po : Option Value → Wd → Nat → Prop} {w : Wd} {sz cells slots : Nat} {L : List (Option Value)} {stk : List Value} {pc : Nat} {a : Nat}
variable {ci : Nat} {C0 : String} {T : u_T} {N : Nat} {ty : Nat → FieldType}

theorem v_get {idx : Nat} {fs : List Value} {v : Value} (k : Nat) (hd : decode mi.2.1 pc = .ok (.getfield idx, 3)) (hF : FT ci C0 T N ty) (hk : k < N) (ho : (T k).1 = C0) (hlink : Cond.fieldLink mi.1.cls idx C0 (T k).2.1 (T k).2.2.1 ∈ lw_tb) (ha : w a = some (ob ci fs)) (hv : fs[k]? = some v) (kk : V mi d mc ms Po (w) (sz) (cells) (slots) L (v :: stk) (pc + 3)) : V mi d mc ms Po (w) (sz) (cells) (slots) L (.ref a :: stk) (pc) := by
  intro p l e s m args below meth c lo D cy H locs ls C hw hz hS hl
  exact va_get C.1 C.2.1 C.2.2.2.2.2.1 (hF.ts mi) C.2.2.2.2.1 C.2.2.2.2.2.2.2.1.1 (hw.ob ha) 0 rfl hF.1 k hk (C.2.2.2.2.2.1 _ (List.mem_cons_of_mem _ hlink)) (fun x hx => by rw [← ho]; exact hx) hv hd (kk p l e s m args below meth c lo D cy H locs ls C hw hz hS hl)
theorem v_put {idx : Nat} {fs : List Value} {v : Value} (k : Nat) (hd : decode mi.2.1 pc = .ok (.putfield idx, 3)) (hF : FT ci C0 T N ty) (hk : k < N) (ho : (T k).1 = C0) (hlink : Cond.fieldLink mi.1.cls idx C0 (T k).2.1 (T k).2.2.1 ∈ lw_tb) (ha : w a = some (ob ci fs)) (hn : narrow (ty k) v = v) (hfit : fits (ty k) v = true) (hl0 : k < fs.length) (hfin : (T k).2.2.2 = false) (kk : V mi d mc ms Po (wu w a (ob ci (fs.set k v))) (sz) (cells) (slots) L (stk) (pc + 3)) : V mi d mc ms Po (w) (sz) (cells) (slots) L (v :: .ref a :: stk) (pc) := by
  intro p l e s m args below meth c lo D cy H locs ls C hw hz hS hl
  have hts := C.2.2.2.2.2.1
  have hown := C.2.2.2.2.1
  have hK := C.2.2.2.2.2.2.2.1.1
  have hap := va_apart (own := mi.1.cls) hts (hF.ts mi) ty hF.2.2.1 hF.2.2.2 hK hF.1
  obtain ⟨hlo, r, h1, cell, q1, q2, q3, q4⟩ := hw a _ ha
  have hr : r = (C0, T, N) := Option.some.inj (h1.symm.trans hF.1)
  subst hr
  obtain ⟨hSl, hfc, kC, hkC, hkind⟩ := hK.1 ci _ hF.1
  obtain ⟨cf, kf, fi, f, hi, hsl⟩ := hSl k hk
  have hlay := hts _ (hF.ts mi _ (u_in_lay hk))
  unfold u_lay at hlay
  rw [if_neg (by rw [hfin]; decide)] at hlay
  have hst := (u_facts hfc hkC (u_lays hts (hF.ts mi) hk) hi).1
  have h6 := u_store hfc hkC hkind hlay hi (hF.2.2.1 k hk) hn hfit
  refine W.putK C.1 C.2.1 (f := f) ⟨hown, hts _ (List.mem_cons_of_mem _ hlink), ⟨_, _, _, by rw [← ho]; exact hi⟩, hst⟩ (by rw [q2]; exact h6) q1 q3 (by rw [hsl]; exact k2_hasslot (q4 k hk)) rfl rfl hd fun H' e1 e2 e3 => ?_
  rw [hsl] at e1 ⊢
  exact kk p l e s m args below meth c lo D cy H' _ ls C (hw.put hlo ⟨_, hF.1, t_OB.to (V := updV (vp_V fs) k v) ⟨_, e1, q2, q3, t_set q4 hap hk v⟩ (fun j _ => vp_updV_set hl0 v j)⟩ e3) (by rw [e2]; exact hz) (upS hS hlo e2 e3 (fun x hx => by rw [List.mem_singleton] at hx; rw [hx])) hl
theorem v_putF {idx : Nat} {fs : List Value} {v : Value} (k : Nat) (hd : decode mi.2.1 pc = .ok (.putfield idx, 3)) (hF : FT ci C0 T N ty) (hk : k < N) (ho : (T k).1 = C0) (hlink : Cond.fieldLink mi.1.cls idx C0 (T k).2.1 (T k).2.2.1 ∈ lw_tb) (ha : w a = some (ob ci fs)) (hn : narrow (ty k) v = v) (hfit : fits (ty k) v = true) (hl0 : k < fs.length) (hfin : (T k).2.2.2 = true) (hin2 : mi.1.name = "<init>") (hdecl : (T k).1 = mi.1.cls) (kk : V mi d mc ms Po (wu w a (ob ci (fs.set k v))) (sz) (cells) (slots) L (stk) (pc + 3)) : V mi d mc ms Po (w) (sz) (cells) (slots) L (v :: .ref a :: stk) (pc) := by
  intro p l e s m args below meth c lo D cy H locs ls C hw hz hS hl
  have hts := C.2.2.2.2.2.1
  have hown := C.2.2.2.2.1
  have hK := C.2.2.2.2.2.2.2.1.1
  have hap := va_apart (own := mi.1.cls) hts (hF.ts mi) ty hF.2.2.1 hF.2.2.2 hK hF.1
  obtain ⟨hlo, r, h1, cell, q1, q2, q3, q4⟩ := hw a _ ha
  have hr : r = (C0, T, N) := Option.some.inj (h1.symm.trans hF.1)
  subst hr
  obtain ⟨hSl, hfc, kC, hkC, hkind⟩ := hK.1 ci _ hF.1
  obtain ⟨cf, kf, fi, f, hi, hsl⟩ := hSl k hk
  have hlay := hts _ (hF.ts mi _ (u_in_lay hk))
  unfold u_lay at hlay
  rw [if_pos hfin] at hlay
  have hst := (u_facts hfc hkC (u_lays hts (hF.ts mi) hk) hi).1
  have hcf : m.cls = cf := by
    obtain ⟨_, _, c', _, _, _, -, -, hf', -, -, -, hown2, -⟩ := Cond.laysFinal_spec hlay
    have e1 : c' = cf := by have := hi.symm.trans hf'; simp at this; exact this.1.symm
    rw [hdecl] at hown2
    rw [← e1]; exact Option.some.inj (hown.symm.trans hown2)
  have h6 := u_fits hfc hkC hkind (Or.inr hlay) hi (hF.2.2.1 k hk) hn hfit
  refine W.putFinK C.1 C.2.1 hown (hts _ (List.mem_cons_of_mem _ hlink)) (by rw [← ho]; exact hi) hst hcf (C.2.2.2.2.2.2.2.2.2.trans hin2) (by rw [q2]; exact h6) q1 q3 (by rw [hsl]; exact k2_hasslot (q4 k hk)) rfl rfl hd fun H' e1 e2 e3 => ?_
  rw [hsl] at e1 ⊢
  exact kk p l e s m args below meth c lo D cy H' _ ls C (hw.put hlo ⟨_, hF.1, t_OB.to (V := updV (vp_V fs) k v) ⟨_, e1, q2, q3, t_set q4 hap hk v⟩ (fun j _ => vp_updV_set hl0 v j)⟩ e3) (by rw [e2]; exact hz) (upS hS hlo e2 e3 (fun x hx => by rw [List.mem_singleton] at hx; rw [hx])) hl
theorem v_iald {n : Nat} {f : Nat → Int32} {i : Int32} (j : Nat) (hd : decode mi.2.1 pc = .ok (.iaload, 1)) (ha : w a = some (ia 1 n f)) (hj : i = nI j) (hjn : j < n) (hn : n ≤ 2147483647) (kk : V mi d mc ms Po (w) (sz) (cells) (slots) L (.int (f j) :: stk) (pc + 1)) : V mi d mc ms Po (w) (sz) (cells) (slots) L (.int i :: .ref a :: stk) (pc) := by
  intro p l e s m args below meth c lo D cy H locs ls C hw hz hS hl
  subst hj
  refine va_iald C.1 C.2.1 C.2.2.2.2.2.2.2.1.1 (hw.ia ha) 0 1 rfl (tys5_at cy (by decide)) (inR hjn hn) hd ?_
  rw [nI_clamp (by omega)]
  exact kk p l e s m args below meth c lo D cy H locs ls C hw hz hS hl
theorem v_cald {n : Nat} {f : Nat → Int32} {i : Int32} (j : Nat) (hd : decode mi.2.1 pc = .ok (.caload, 1)) (ha : w a = some (ia 0 n f)) (hj : i = nI j) (hjn : j < n) (hn : n ≤ 2147483647) (kk : V mi d mc ms Po (w) (sz) (cells) (slots) L (.int (f j) :: stk) (pc + 1)) : V mi d mc ms Po (w) (sz) (cells) (slots) L (.int i :: .ref a :: stk) (pc) := by
  intro p l e s m args below meth c lo D cy H locs ls C hw hz hS hl
  subst hj
  refine va_cald C.1 C.2.1 C.2.2.2.2.2.2.2.1.1 (hw.ia ha) 0 0 rfl (tys5_at cy (by decide)) (inR hjn hn) hd ?_
  rw [nI_clamp (by omega)]
  exact kk p l e s m args below meth c lo D cy H locs ls C hw hz hS hl
theorem v_aald {n t : Nat} {f : Nat → Option Nat} {i : Int32} {b : Nat} (j : Nat) (ht : t = 2 ∨ t = 3 ∨ t = 4) (hd : decode mi.2.1 pc = .ok (.aaload, 1)) (ha : w a = some (ra t n f)) (hj : i = nI j) (hjn : j < n) (hn : n ≤ 2147483647) (hf : f j = some b) (kk : V mi d mc ms Po (w) (sz) (cells) (slots) L (.ref b :: stk) (pc + 1)) : V mi d mc ms Po (w) (sz) (cells) (slots) L (.int i :: .ref a :: stk) (pc) := by
  intro p l e s m args below meth c lo D cy H locs ls C hw hz hS hl
  subst hj
  have key : W p l e (rmd d mc ms) s m args below meth c H locs cells slots (MQ below (Qd Po D cy lo) args s mc ms (fun q => lo ≤ q)) (F0 m (pc + 1) ls (va_rf (f (nI j).toNatClampNeg) :: stk)) := by
    rw [nI_clamp (by omega), hf]
    exact kk p l e s m args below meth c lo D cy H locs ls C hw hz hS hl
  rcases ht with rfl | rfl | rfl
  · exact va_aldq C.1 C.2.1 C.2.2.2.2.2.2.2.1.1 (hw.ra ha) 0 2 rfl (tys5_at cy (by decide)) (inR hjn hn) hd key
  · exact va_aldq C.1 C.2.1 C.2.2.2.2.2.2.2.1.1 (hw.ra ha) 0 3 rfl (tys5_at cy (by decide)) (inR hjn hn) hd key
  · exact va_aldq C.1 C.2.1 C.2.2.2.2.2.2.2.1.1 (hw.ra ha) 0 4 rfl (tys5_at cy (by decide)) (inR hjn hn) hd key
theorem v_iast {n : Nat} {f : Nat → Int32} {i x : Int32} (j : Nat) (hd : decode mi.2.1 pc = .ok (.iastore, 1)) (ha : w a = some (ia 1 n f)) (hj : i = nI j) (hjn : j < n) (hn : n ≤ 2147483647) (kk : V mi d mc ms Po (wu w a (ia 1 n (upd f j (x)))) (sz) (cells) (slots) L (stk) (pc + 1)) : V mi d mc ms Po (w) (sz) (cells) (slots) L (.int x :: .int i :: .ref a :: stk) (pc) := by
  intro p l e s m args below meth c lo D cy H locs ls C hw hz hS hl
  subst hj
  have hlo := (hw a _ ha).1
  have hat : H[a]? = some (vp_cell (cy 1) (n, .inl f)) := (hw a _ ha).2
  refine W.iast C.1 C.2.1 hat (((C.2.2.2.2.2.2.2.1.1).2 1 _ (tys5_at cy (by decide))).1 n (fun j => .int (f j))) (fun q => by cases q) (by show ¬ (_ < 0 ∨ (arrV _ _ _).slots.size ≤ _); rw [arrV_size]; exact inR hjn hn) rfl rfl hd fun H1 e1 z oq => ?_
  refine kk p l e s m args below meth c lo D cy H1 _ ls C (hw.put hlo ?_ oq) (by rw [z]; exact hz) (upS hS hlo z oq (fun x hx => by rw [List.mem_singleton] at hx; rw [hx])) hl
  show H1[a]? = some (vp_cell (cy 1) (n, .inl (upd f j (x))))
  rw [e1]
  rw [vp_cell_i, vp_cell_i, arrV_store, nI_clamp (by omega)]
  congr 2
  funext q
  by_cases hq : q = j
  · subst hq
    simp [updV, upd, vp_nar]
    try rfl
  · simp [updV, upd, hq]
theorem v_cast {n : Nat} {f : Nat → Int32} {i x : Int32} (j : Nat) (hd : decode mi.2.1 pc = .ok (.castore, 1)) (ha : w a = some (ia 0 n f)) (hj : i = nI j) (hjn : j < n) (hn : n ≤ 2147483647) (kk : V mi d mc ms Po (wu w a (ia 0 n (upd f j (vp_nar .char x)))) (sz) (cells) (slots) L (stk) (pc + 1)) : V mi d mc ms Po (w) (sz) (cells) (slots) L (.int x :: .int i :: .ref a :: stk) (pc) := by
  intro p l e s m args below meth c lo D cy H locs ls C hw hz hS hl
  subst hj
  have hlo := (hw a _ ha).1
  have hat : H[a]? = some (vp_cell (cy 0) (n, .inl f)) := (hw a _ ha).2
  refine W.cast C.1 C.2.1 hat (((C.2.2.2.2.2.2.2.1.1).2 0 _ (tys5_at cy (by decide))).1 n (fun j => .int (f j))) (fun q => by cases q) (by show ¬ (_ < 0 ∨ (arrV _ _ _).slots.size ≤ _); rw [arrV_size]; exact inR hjn hn) rfl rfl hd fun H1 e1 z oq => ?_
  refine kk p l e s m args below meth c lo D cy H1 _ ls C (hw.put hlo ?_ oq) (by rw [z]; exact hz) (upS hS hlo z oq (fun x hx => by rw [List.mem_singleton] at hx; rw [hx])) hl
  show H1[a]? = some (vp_cell (cy 0) (n, .inl (upd f j (vp_nar .char x))))
  rw [e1]
  rw [vp_cell_i, vp_cell_i, arrV_store, nI_clamp (by omega)]
  congr 2
  funext q
  by_cases hq : q = j
  · subst hq
    simp [updV, upd, vp_nar]
    try rfl
  · simp [updV, upd, hq]
theorem v_aast {n t : Nat} {f : Nat → Option Nat} {i : Int32} {b : Nat} {fs : List Value} (j : Nat) (ht : (t = 2 ∧ ci = 1) ∨ (t = 3 ∧ ci = 2) ∨ (t = 4 ∧ ci = 4)) (hd : decode mi.2.1 pc = .ok (.aastore, 1)) (ha : w a = some (ra t n f)) (hb : w b = some (ob ci fs)) (hj : i = nI j) (hjn : j < n) (hn : n ≤ 2147483647) (kk : V mi d mc ms Po (wu w a (ra t n (va_up f j (some b)))) (sz) (cells) (slots) L (stk) (pc + 1)) : V mi d mc ms Po (w) (sz) (cells) (slots) L (.ref b :: .int i :: .ref a :: stk) (pc) := by
  intro p l e s m args below meth c lo D cy H locs ls C hw hz hS hl
  subst hj
  have hlo := (hw a _ ha).1
  have hK := C.2.2.2.2.2.2.2.1.1
  have hat : H[a]? = some (vp_cell (cy t) (n, .inr (.inr (.inr (.inr f))))) := (hw a _ ha).2
  have h0 : ¬ nI j < 0 := nI_pos (by omega)
  obtain ⟨-, r', hr', cellV, g1, g2, g3, -⟩ := hw b _ hb
  have hty : ∃ r : vw_C, vwCl[ci]? = some r ∧ tyA t = .object r.1 ∧ t < 5 := by
    rcases ht with ⟨rfl, rfl⟩ | ⟨rfl, rfl⟩ | ⟨rfl, rfl⟩
    · exact ⟨_, rfl, rfl, by decide⟩
    · exact ⟨_, rfl, rfl, by decide⟩
    · exact ⟨_, rfl, rfl, by decide⟩
  obtain ⟨r, hc, htA, ht5⟩ := hty
  have hcls := (hK.1 ci r hc).2
  have hRA := (hK.2 t _ (tys5_at cy ht5)).2
  rw [htA] at hRA
  obtain ⟨kA, comp, k1, k2, k3, -⟩ := hRA
  have hcomp : comp = D.1 ci := Option.some.inj (k3.symm.trans hcls.1)
  subst hcomp
  obtain ⟨kC, hkC, -⟩ := hcls.2
  refine W.aast C.1 C.2.1 hat (fun q h => by cases h) (fun h => by cases h) k1 k2 rfl hkC ⟨h0, by show _ < (arrV _ _ _).slots.size; rw [arrV_size, nI_clamp (by omega)]; exact hjn⟩ g1 (fun q h => by rw [g3] at h; cases h) (by rw [g2]; exact hkC) (by rw [g2]; exact va_assign hcls) rfl rfl hd fun H1 e1 z oq => ?_
  refine kk p l e s m args below meth c lo D cy H1 _ ls C (hw.put hlo ?_ oq) (by rw [z]; exact hz) (upS hS hlo z oq (fun x hx => by rw [List.mem_singleton] at hx; rw [hx])) hl
  show H1[a]? = some (vp_cell _ (n, _))
  rw [e1]
  rw [vp_cell_q, vp_cell_q, arrV_store, nI_clamp (by omega)]
  congr 2
  funext q
  by_cases hq : q = j
  · subst hq
    simp [updV, va_up, va_rf]
  · simp [updV, va_up, hq]
theorem v_alenI {n t : Nat} {f : Nat → Int32} (ht : t < 5) (hd : decode mi.2.1 pc = .ok (.arraylength, 1)) (ha : w a = some (ia t n f)) (kk : V mi d mc ms Po (w) (sz) (cells) (slots) L (.int (nI n) :: stk) (pc + 1)) : V mi d mc ms Po (w) (sz) (cells) (slots) L (.ref a :: stk) (pc) := by
  intro p l e s m args below meth c lo D cy H locs ls C hw hz hS hl
  exact va_alen C.1 C.2.1 C.2.2.2.2.2.2.2.1.1 (hw.ia ha) 0 t rfl (tys5_at cy ht) rfl hd (kk p l e s m args below meth c lo D cy H locs ls C hw hz hS hl)
theorem v_alenR {n t : Nat} {f : Nat → Option Nat} (ht : t < 5) (hd : decode mi.2.1 pc = .ok (.arraylength, 1)) (ha : w a = some (ra t n f)) (kk : V mi d mc ms Po (w) (sz) (cells) (slots) L (.int (nI n) :: stk) (pc + 1)) : V mi d mc ms Po (w) (sz) (cells) (slots) L (.ref a :: stk) (pc) := by
  intro p l e s m args below meth c lo D cy H locs ls C hw hz hS hl
  exact va_alen C.1 C.2.1 C.2.2.2.2.2.2.2.1.1 (hw.ra ha) 0 t rfl (tys5_at cy ht) rfl hd (kk p l e s m args below meth c lo D cy H locs ls C hw hz hS hl)
theorem v_copy {n0 n1 t a0 idx n : Nat} {f g : Nat → Int32} (ht : t < 2) (hd : decode mi.2.1 pc = .ok (.invokestatic idx, 3)) (hlink : Cond.methodLink mi.1.cls idx arraycopyName ∈ lw_tb) (ha0 : w a0 = some (ia t n0 f)) (ha1 : w a = some (ia t n1 g)) (h4 : n ≤ n0) (h5 : n ≤ n1) (hn : n1 ≤ 2147483647) (hfit : ∀ i, i < n → fits (tyA t) (.int (f i)) = true) (hd1 : 1 ≤ d) (hst : (stk.map fun v => v.category).sum ≤ 4) (kk : V mi d mc ms Po (wu w a (ia t n1 (fun k => if k < n then f k else g k))) (sz) (cells) (slots) L (stk) (pc + 3)) : V mi d mc ms Po (w) (sz) (cells) (slots) L (.int (nI n) :: .int (nI 0) :: .ref a :: .int (nI 0) :: .ref a0 :: stk) (pc) := by
  intro p l e s m args below meth c lo D cy H locs ls C hw hz hS hl
  have hts := C.2.2.2.2.2.1
  have hK := C.2.2.2.2.2.2.2.1.1
  have hlo := (hw a _ ha1).1
  have hprim : refKind (tyA t) = false := by
    match t, ht with
    | 0, _ => rfl
    | 1, _ => rfl
  have e0 : (nI 0).toNatClampNeg = 0 := rfl
  have en : (nI n).toNatClampNeg = n := nI_clamp (by omega)
  refine v_copy0 C.1 C.2.1 (C.2.2.2.1.trans hl.1.1.symm) C.2.2.2.2.1 (hts _ (List.mem_cons_of_mem _ hlink)) (hts _ (List.mem_cons_of_mem _ (in_tb (by decide +kernel) rfl))) (hts _ (List.mem_cons_of_mem _ (in_tb (by decide +kernel) rfl))) (hts _ (List.mem_cons_of_mem _ (in_tb (by decide +kernel) rfl))) hK (hw.ia ha0) (hw.ia ha1) (tys5_at cy (Nat.lt_of_lt_of_le ht (by decide))) hprim (sp := nI 0) (dp := nI 0) (n := nI n) (by decide) (by decide) (nI_pos (by omega)) (by rw [e0, en]; omega) (by rw [e0, en]; omega) (by rw [e0, en]; intro i hi; rw [Nat.zero_add]; exact hfit i hi) hd1 ?_ hd fun H1 L1 e1 z oq hL1 => ?_
  · show _ ≤ 36 * d
    have : nativeFrameWords "java/lang/System" "arraycopy" 5 ≤ 20 := by decide +kernel
    omega
  · refine kk p l e s m args below meth c lo D cy H1 _ ls C (hw.put hlo ?_ oq) (by rw [z]; exact hz) (upS hS hlo z oq hL1) hl
    show H1[a]? = some (vp_cell (cy t) (n1, .inl (fun k => if k < n then f k else g k)))
    rw [e1, e0, en]
    congr 4
    funext k
    simp [va_cpy]
end VH
end
section
section VN
variable {mi : MI} {d mc ms : Nat} {Po : Option Value → Wd → Nat → Prop} {w : Wd} {sz cells slots : Nat} {L : List (Option Value)} {stk : List Value} {pc : Nat} {a : Nat}
variable {ci : Nat} {C0 : String} {T : u_T} {N : Nat} {ty : Nat → FieldType}
theorem newS {lo : Nat} {H0 H H1 : Heap} {locs : List Loc} (hS : va_S (fun q => lo ≤ q) H0 H locs) (z : H1.size = H.size + 1) (oq : ∀ q : Nat, q < H.size → H1[q]? = H[q]?) : va_S (fun q => lo ≤ q) H0 H1 locs :=
  ⟨by rw [z]; exact Nat.le_trans hS.1 (Nat.le_succ _), fun q h1 h2 => by rw [oq q (Nat.lt_of_lt_of_le h1 hS.1)]; exact hS.2.1 q h1 h2, hS.2.2⟩
theorem v_new {idx : Nat} {fs : List Value} (hd : decode mi.2.1 pc = .ok (.new idx, 3)) (hF : FT ci C0 T N ty) (hcl : Cond.classLink mi.1.cls idx C0 ∈ lw_tb) (hinst : Cond.instantiable C0 N ∈ lw_tb) (hini : Cond.initialized C0 ∈ lw_tb) (hfs : ∀ j, j < N → defaultValue (ty j) = vp_V fs j) (hc : cells + 1 ≤ mc) (hs : slots + N ≤ ms) (kk : V mi d mc ms Po (wu w sz (ob ci fs)) (sz + 1) (cells + 1) (slots + N) L (.ref sz :: stk) (pc + 3)) : V mi d mc ms Po (w) (sz) (cells) (slots) L (stk) (pc) := by
  intro p l e s m args below meth c lo D cy H locs ls C hw hz hS hl
  subst hz
  have hts := C.2.2.2.2.2.1
  have hK := C.2.2.2.2.2.2.2.1.1
  have hKn := hK.1 ci _ hF.1
  have hlo : lo ≤ H.size := Nat.le_trans C.2.2.2.2.2.2.2.2.1 hS.1
  refine W.newcK C.1 C.2.1 C.2.2.2.2.1 (hts _ (List.mem_cons_of_mem _ hcl)) (hts _ (List.mem_cons_of_mem _ hinst)) (hts _ (List.mem_cons_of_mem _ hini)) rfl hd hc hs hKn.2.1 rfl fun H1 kC hkC e1 z1 o1 => ?_
  exact kk p l e s m args below meth c lo D cy H1 locs ls C (hw.pu hlo ⟨_, hF.1, (u_born ty hts (hF.ts mi) hKn hkC e1 hF.2.2.1).to hfs⟩ o1) z1 (newS hS z1 o1) hl
theorem v_newarr {t : Nat} {atype : ArrayType} {n : Nat} (ht : t < 2) (hd : decode mi.2.1 pc = .ok (.newarray atype, 2)) (hty : newarray.typeOf atype = tyA t) (hn : n ≤ 100000) (hc : cells + 1 ≤ mc) (hs : slots + n ≤ ms) (kk : V mi d mc ms Po (wu w sz (ia t n (fun _ => 0))) (sz + 1) (cells + 1) (slots + n) L (.ref sz :: stk) (pc + 2)) : V mi d mc ms Po (w) (sz) (cells) (slots) L (.int (nI n) :: stk) (pc) := by
  intro p l e s m args below meth c lo D cy H locs ls C hw hz hS hl
  subst hz
  have hts := C.2.2.2.2.2.1
  have hK := C.2.2.2.2.2.2.2.1.1
  have hlo : lo ≤ H.size := Nat.le_trans C.2.2.2.2.2.2.2.2.1 hS.1
  have en : (nI n).toNatClampNeg = n := nI_clamp (by omega)
  have hcb : componentBytes (newarray.typeOf atype) ≤ 8 ∧ defaultValue (newarray.typeOf atype) = .int 0 ∧ Cond.arrayClass (newarray.typeOf atype) ∈ lw_tb ∧ (∀ (U : State) (cA : ClassId), va_RA U cA (newarray.typeOf atype) = (U.vm.findClass ("[" ++ (newarray.typeOf atype).toString) = some cA)) := by
    rw [hty]
    match t, ht with
    | 0, _ => exact ⟨by decide, rfl, in_tb (by decide +kernel) rfl, fun U cA => rfl⟩
    | 1, _ => exact ⟨by decide, rfl, in_tb (by decide +kernel) rfl, fun U cA => rfl⟩
  obtain ⟨hb8, hdf, har, hRA⟩ := hcb
  refine va_newaK C.1 C.2.1 (hts _ (List.mem_cons_of_mem _ har)) rfl hd rfl (N := n) (nI_pos (by omega)) en (by have := Nat.mul_le_mul_left n hb8; omega) hc hs rfl fun H1 cA e1 z1 o1 hAr hNm => ?_
  have hcA : cA = cy t := by
    have h1 := (hK.2 t _ (tys5_at cy (Nat.lt_of_lt_of_le ht (by decide)))).2
    rw [← hty, hRA] at h1
    exact Option.some.inj (hNm.symm.trans h1)
  subst hcA
  refine kk p l e s m args below meth c lo D cy H1 locs ls C (hw.pu hlo ?_ o1) z1 (newS hS z1 o1) hl
  show H1[H.size]? = some (vp_cell _ _)
  rw [e1, hdf, vp_cell_i]
theorem v_anew {t idx n : Nat} {C1 : String} (ht : (t = 2 ∧ C1 = "VotedLabels$Label") ∨ (t = 3 ∧ C1 = "VotedLabels$Rewrite") ∨ (t = 4 ∧ C1 = "VotedLabels$State")) (hd : decode mi.2.1 pc = .ok (.anewarray idx, 3)) (hcl : Cond.classLink mi.1.cls idx C1 ∈ lw_tb) (hn : n ≤ 100000) (hc : cells + 1 ≤ mc) (hs : slots + n ≤ ms) (kk : V mi d mc ms Po (wu w sz (ra t n (fun _ => none))) (sz + 1) (cells + 1) (slots + n) L (.ref sz :: stk) (pc + 3)) : V mi d mc ms Po (w) (sz) (cells) (slots) L (.int (nI n) :: stk) (pc) := by
  intro p l e s m args below meth c lo D cy H locs ls C hw hz hS hl
  subst hz
  have hts := C.2.2.2.2.2.1
  have hK := C.2.2.2.2.2.2.2.1.1
  have hlo : lo ≤ H.size := Nat.le_trans C.2.2.2.2.2.2.2.2.1 hS.1
  have en : (nI n).toNatClampNeg = n := nI_clamp (by omega)
  have hAO : va_AO C1 s := by
    rcases ht with ⟨-, rfl⟩ | ⟨-, rfl⟩ | ⟨-, rfl⟩
    · exact C.2.2.2.2.2.2.2.1.2.2.1
    · exact C.2.2.2.2.2.2.2.1.2.2.2.1
    · exact C.2.2.2.2.2.2.2.1.2.2.2.2
  have hty : tyA t = .object C1 ∧ t < 5 := by
    rcases ht with ⟨rfl, rfl⟩ | ⟨rfl, rfl⟩ | ⟨rfl, rfl⟩
    · exact ⟨rfl, by decide⟩
    · exact ⟨rfl, by decide⟩
    · exact ⟨rfl, by decide⟩
  refine W.anew C.1 C.2.1 C.2.2.2.2.1 (hts _ (List.mem_cons_of_mem _ hcl)) (va_AO.use hAO) rfl hd rfl (nI_pos (by omega)) (by rw [en]; omega) hc (by rw [en]; exact hs) fun cA kA comp f1 f2 f3 f4 => ?_
  have hcA : cA = cy t := by
    have h1 := (hK.2 t _ (tys5_at cy hty.2)).2
    rw [hty.1] at h1
    obtain ⟨kA', comp', -, -, -, h4⟩ := h1
    exact Option.some.inj (f1.symm.trans h4)
  subst hcA
  rw [en]
  generalize hH1 : H.push ({ cls := cy t, slots := Array.replicate n .null, vm := .none } : Cell) = H1
  have z1 : H1.size = H.size + 1 := by rw [← hH1, Array.size_push]
  have e1 : H1[H.size]? = some (arrV (cy t) n (fun _ => .null)) := by rw [← hH1, Array.getElem?_push_size, ← arrV_new]
  have o1 : ∀ q : Nat, q < H.size → H1[q]? = H[q]? := fun q hq => by rw [← hH1, Array.getElem?_push, if_neg (Nat.ne_of_lt hq)]
  refine kk p l e s m args below meth c lo D cy H1 locs ls C (hw.pu hlo ?_ o1) z1 (newS hS z1 o1) hl
  show H1[H.size]? = some (vp_cell _ _)
  rw [e1, vp_cell_q]
  rfl
theorem v_objInit {idx : Nat} (hd : decode mi.2.1 pc = .ok (.invokespecial idx, 3)) (hlink : Cond.methodLink mi.1.cls idx Lib.objectInit ∈ lw_tb) (hd1 : 1 ≤ d) (hst : (stk.map fun v => v.category).sum ≤ 8) (kk : V mi d mc ms Po (w) (sz) (cells) (slots) L (stk) (pc + 3)) : V mi d mc ms Po (w) (sz) (cells) (slots) L (.ref a :: stk) (pc) := by
  intro p l e s m args below meth c lo D cy H locs ls C hw hz hS hl
  have hts := C.2.2.2.2.2.1
  exact W.objInit C.1 C.2.1 C.2.2.2.2.1 (hts _ (List.mem_cons_of_mem _ hlink)) (hts _ (List.mem_cons_of_mem _ (in_tb (by decide +kernel) rfl))) (hts _ (List.mem_cons_of_mem _ (in_tb (by decide +kernel) rfl))) rfl (hl.1.1.trans C.2.2.2.1.symm) rfl hd hd1 (by show 2 * 0 + _ + 12 ≤ 36 * d; omega) (kk p l e s m args below meth c lo D cy H locs ls C hw hz hS hl)
theorem v_mmax {idx : Nat} {x y : Int32} (hd : decode mi.2.1 pc = .ok (.invokestatic idx, 3)) (hlink : Cond.methodLink mi.1.cls idx Lib.Math.max.name ∈ lw_tb) (hd1 : 1 ≤ d) (hst : (stk.map fun v => v.category).sum ≤ 8) (hc : cells ≤ mc) (hs : slots ≤ ms) (kk : V mi d mc ms Po (w) (sz) (cells) (slots) L (.int (if x < y then y else x) :: stk) (pc + 3)) : V mi d mc ms Po (w) (sz) (cells) (slots) L (.int y :: .int x :: stk) (pc) := by
  intro p l e s m args below meth c lo D cy H locs ls C hw hz hS hl
  have hts := C.2.2.2.2.2.1
  exact va_mmax C.1 C.2.1 (C.2.2.2.1.trans hl.1.1.symm) C.2.2.2.2.1 (hts _ (List.mem_cons_of_mem _ hlink)) (hts _ (List.mem_cons_of_mem _ (in_tb (by decide +kernel) rfl))) (hts _ (List.mem_cons_of_mem _ (in_tb (by decide +kernel) rfl))) (hts _ (List.mem_cons_of_mem _ (in_tb (by decide +kernel) rfl))) hd1 (by show _ + 13 ≤ 36 * d; omega) hc hs hd (kk p l e s m args below meth c lo D cy H locs ls C hw hz hS hl)
end VN
/-! ===== calls ===== -/
theorem goodTb {mi mi' : MI} (h : miW mi' ∈ lw_tb) : GoodIn (miWs mi) (miWs mi') := by
  intro w hw
  have h1 : w ∈ lw_tb := by
    rcases List.mem_cons.mp hw with e | e
    · rw [e]; exact h
    · exact e
  exact ⟨List.mem_cons_of_mem _ h1, good_of_word (tb_in h1).2⟩
/-- a method of the tables: its code word, that it is set up; n: its parameters -/
def MO (mi' : MI) (n : Nat) : Prop := miW mi' ∈ lw_tb ∧ Cond.initialized mi'.1.cls ∈ lw_tb ∧ (mi'.1.cls ≠ "java/lang/invoke/MethodHandle" ∧ mi'.1.cls ≠ "java/lang/invoke/VarHandle") ∧ (parseMethodDescriptor mi'.1.desc).map (fun q => q.parameters.length) = some n ∧ mi'.2.2.1 ≤ 17
def MV (mi' : MI) (n ci : Nat) : Prop := MO mi' n ∧ Cond.instanceMethod mi'.1 ∈ lw_tb ∧ Cond.selects mi'.1.cls mi'.1 mi'.1 ∈ lw_tb ∧ (vwCl[ci]?).map (fun q => q.1) = some mi'.1.cls
def MS (mi' : MI) (n : Nat) : Prop := MO mi' n ∧ Cond.static mi'.1 ∈ lw_tb
def MN (mi' : MI) (n : Nat) : Prop := MO mi' n ∧ Cond.instanceMethod mi'.1 ∈ lw_tb ∧ mi'.1.name = "<init>" ∧ mi'.2.2.2 = none
def Cl0 (Po : Option Value → Wd → Nat → Prop) (mi : MI) (d mc ms : Nat) (w : Wd) (sz cells slots : Nat) (L : List (Option Value)) (stk : List Value) (pc : Nat) : Prop := V mi d mc ms Po w sz cells slots L stk pc
section VCALL
variable {mi : MI} {d mc ms : Nat} {Po : Option Value → Wd → Nat → Prop} {w : Wd} {sz cells slots : Nat} {L : List (Option Value)} {stk : List Value} {pc : Nat}
variable {mi' : MI} {d' idx ci mc' ms' : Nat} {Po' : Option Value → Wd → Nat → Prop}
theorem v_ran {p : Program} {l : Launch} {e : Env} {s : State} {m : MethodId} {args : Array Value} {below : List Frame} {meth : Method} {c : Code} {lo : Nat} {D : va_G} {cy : Nat → ClassId} {H : Heap} {locs : List Loc} {ls : Array Slot} {st0 : List Value} {av : Array Value}
    (hr : va_Run p l e (rmd d mc ms) s m args below meth c H locs cells slots mc' ms' (F0 m pc ls st0) stk (Qd Po' D cy lo av) (fun q => lo ≤ q)) (C : Cx p s m args meth c mi D cy lo) (hS : va_S (fun q => lo ≤ q) s.heap H locs) (hl : lvs ls mi.2.2.1 L)
    (k : ∀ r w' z, Po' r w' z → V mi d mc ms Po w' z (cells + mc') (slots + ms') L (r.toList ++ stk) (pc + 3)) : W p l e (rmd d mc ms) s m args below meth c H locs cells slots (MQ below (Qd Po D cy lo) args s mc ms (fun q => lo ≤ q)) (F0 m pc ls st0) := by
  intro T hT X
  obtain ⟨v, st₀, t, T', L1, h0, X', hL, e1, e2, ⟨r, w', hv, hw', hp, hz, hk⟩, step⟩ := hr T hT X
  cases hv
  rw [h0] at hz hk
  obtain ⟨t2, a1, b1⟩ := k _ w' _ hp p l e s m args below meth c lo D cy T'.heap (locs ++ L1) ls C (by rw [e1]; exact hw') (by rw [e1]) ⟨Nat.le_trans hS.1 (by rw [e1]; exact hz), fun q h1 h2 => by rw [e1, hk q (Nat.lt_of_lt_of_le h1 hS.1) h2]; exact hS.2.1 q h1 h2, fun q hq => by
      rcases List.mem_append.mp hq with h | h
      · exact hS.2.2 q h
      · exact hL q h⟩ hl T' rfl X'
  exact ⟨t2, step t2 a1, b1⟩
theorem pcBlind {av : List Value} {lo : Nat} {D : va_G} {cy : Nat → ClassId} : FrameBlind (va_Pc av (fun U => U.heap.size = sz ∧ lo ≤ sz ∧ hW D cy lo w U.heap ∧ KK D cy U)) := fun a U g mk q => by
  obtain ⟨q0, q1, q2, q3, q4⟩ := q
  exact ⟨q0, q1, q2, q3, KK.same q4 rfl⟩
theorem pcS {av : List Value} {lo : Nat} {D : va_G} {cy : Nat → ClassId} {s : State} {H : Heap} {locs : List Loc} {p : Program} {m : MethodId} {args : Array Value} {meth : Method} {c : Code} (C : Cx p s m args meth c mi D cy lo) (hw : hW D cy lo w H) (hz : H.size = sz) (hS : va_S (fun q => lo ≤ q) s.heap H locs) : ∀ U : State, U.heap = H → s.WarmedH U.vm → va_Pc av (fun U => U.heap.size = sz ∧ lo ≤ sz ∧ hW D cy lo w U.heap ∧ KK D cy U) av.toArray U := fun U hU hW =>
  ⟨rfl, by rw [hU]; exact hz, by rw [← hz]; exact Nat.le_trans C.2.2.2.2.2.2.2.2.1 hS.1, by rw [hU]; exact hw, KK.warm C.2.2.2.2.2.2.2.1 hW⟩
theorem v_callVg {b : Nat} {As fs S : List Value} (hco : MV mi' As.length ci) (hd : decode mi.2.1 pc = .ok (.invokevirtual idx, 3)) (hlink : Cond.methodLink mi.1.cls idx mi'.1 ∈ lw_tb) (hE : Ev mi' d' (.ref b :: As) w sz mc' ms' Po') (hb : w b = some (ob ci fs)) (hstk : S = As.reverse ++ .ref b :: stk) (hdd : d' + 1 ≤ d) (hst : (stk.map fun v => v.category).sum ≤ 8) (hmc : cells + mc' ≤ mc) (hms : slots + ms' ≤ ms) (k : ∀ r w' z, Po' r w' z → V mi d mc ms Po w' z (cells + mc') (slots + ms') L (r.toList ++ stk) (pc + 3)) : V mi d mc ms Po (w) (sz) (cells) (slots) L (S) (pc) := by
  intro p l e s m args below meth c lo D cy H locs ls C hw hz hS hl
  have hts := C.2.2.2.2.2.1
  subst hstk
  have hI : ∀ q, q ∈ lw_tb → q.before args s = true := fun q h => hts _ (List.mem_cons_of_mem _ h)
  obtain ⟨r, hr, hrn⟩ : ∃ r, vwCl[ci]? = some r ∧ r.1 = mi'.1.cls := by
    have := hco.2.2.2
    cases h : vwCl[ci]? with
    | none => rw [h] at this; simp at this
    | some r => rw [h] at this; exact ⟨r, rfl, by simpa using this⟩
  have hrecv := va_recv C.2.2.2.2.2.2.2.1.1 (hw.ob hb) hr (q0 := 0) rfl
  rw [hrn] at hrecv
  refine v_ran (va_runV (As := As) (rest := stk) ⟨C.1, C.2.1, C.2.2.2.1, C.2.2.2.2.1, C.2.2.2.2.2.1⟩ (hE l lo D cy) (cw := ⟨callB_of As.length hts (goodTb hco.1.1) rfl rfl rfl (hI _ hco.1.2.1) (hI _ hlink) ⟨hco.1.2.2.1.1, hco.1.2.2.1.2, hco.1.2.2.2.1⟩ ⟨hdd, by show 8 + (mi'.2.2.1 + 11) + 36 * d' ≤ 36 * d; have := hco.1.2.2.2.2; omega⟩, hI _ hco.2.1, hI _ hco.2.2.1⟩) ⟨pcBlind, hrecv, pcS (av := .ref b :: As) C hw hz hS⟩ rfl rfl hl.1.1 rfl (lv_room hst) hd ⟨hmc, hms⟩) C hS hl k
theorem v_callSg {As S : List Value} (hco : MS mi' As.length) (hd : decode mi.2.1 pc = .ok (.invokestatic idx, 3)) (hlink : Cond.methodLink mi.1.cls idx mi'.1 ∈ lw_tb) (hE : Ev mi' d' As w sz mc' ms' Po') (hstk : S = As.reverse ++ stk) (hdd : d' + 1 ≤ d) (hst : (stk.map fun v => v.category).sum ≤ 8) (hmc : cells + mc' ≤ mc) (hms : slots + ms' ≤ ms) (k : ∀ r w' z, Po' r w' z → V mi d mc ms Po w' z (cells + mc') (slots + ms') L (r.toList ++ stk) (pc + 3)) : V mi d mc ms Po (w) (sz) (cells) (slots) L (S) (pc) := by
  intro p l e s m args below meth c lo D cy H locs ls C hw hz hS hl
  have hts := C.2.2.2.2.2.1
  subst hstk
  have hI : ∀ q, q ∈ lw_tb → q.before args s = true := fun q h => hts _ (List.mem_cons_of_mem _ h)
  refine v_ran (va_runS (As := As) (rest := stk) ⟨C.1, C.2.1, C.2.2.2.1, C.2.2.2.2.1, C.2.2.2.2.2.1⟩ (hE l lo D cy) (cw := ⟨callB_of As.length hts (goodTb hco.1.1) rfl rfl rfl (hI _ hco.1.2.1) (hI _ hlink) ⟨hco.1.2.2.1.1, hco.1.2.2.1.2, hco.1.2.2.2.1⟩ ⟨hdd, by show 8 + (mi'.2.2.1 + 11) + 36 * d' ≤ 36 * d; have := hco.1.2.2.2.2; omega⟩, hI _ hco.2⟩) ⟨pcBlind, pcS C hw hz hS⟩ rfl rfl hl.1.1 rfl (lv_room hst) hd ⟨hmc, hms⟩) C hS hl k
theorem v_callSN {As S : List Value} (hco : MS mi' As.length) (hd : decode mi.2.1 pc = .ok (.invokestatic idx, 3)) (hlink : (mi.1.cls, idx, mi'.1, "VotedLabels") ∈ nests) (hE : Ev mi' d' As w sz mc' ms' Po') (hstk : S = As.reverse ++ stk) (hdd : d' + 1 ≤ d) (hst : (stk.map fun v => v.category).sum ≤ 8) (hmc : cells + mc' ≤ mc) (hms : slots + ms' ≤ ms) (k : ∀ r w' z, Po' r w' z → V mi d mc ms Po w' z (cells + mc') (slots + ms') L (r.toList ++ stk) (pc + 3)) : V mi d mc ms Po (w) (sz) (cells) (slots) L (S) (pc) := by
  intro p l e s m args below meth c lo D cy H locs ls C hw hz hS hl
  have hts := C.2.2.2.2.2.1
  subst hstk
  have hI : ∀ q, q ∈ lw_tb → q.before args s = true := fun q h => hts _ (List.mem_cons_of_mem _ h)
  refine v_ran (va_runSN (As := As) (rest := stk) ⟨C.1, C.2.1, C.2.2.2.1, C.2.2.2.2.1, C.2.2.2.2.2.1⟩ (hE l lo D cy) (cw := ⟨va_cnB As.length hts (goodTb hco.1.1) rfl rfl rfl (C.2.2.2.2.2.2.2.1.2.1 _ hlink) (hI _ hco.1.2.1) ⟨hco.1.2.2.1.1, hco.1.2.2.1.2, hco.1.2.2.2.1⟩ ⟨hdd, by show 8 + (mi'.2.2.1 + 11) + 36 * d' ≤ 36 * d; have := hco.1.2.2.2.2; omega⟩, hI _ hco.2, trivial⟩) ⟨pcBlind, pcS C hw hz hS⟩ rfl rfl hl.1.1 rfl (lv_room hst) hd ⟨hmc, hms⟩) C hS hl k
theorem v_callI {y' : MethodName} {cc' : ByteArray} {n' : Nat} {b : Nat} {As S : List Value} (hco : MN (y', cc', n', none) As.length) (hd : decode mi.2.1 pc = .ok (.invokespecial idx, 3)) (hlink : Cond.methodLink mi.1.cls idx y' ∈ lw_tb) (hE : Ev (y', cc', n', none) d' (.ref b :: As) w sz mc' ms' Po') (hstk : S = As.reverse ++ .ref b :: stk) (hdd : d' + 1 ≤ d) (hst : (stk.map fun v => v.category).sum ≤ 8) (hmc : cells + mc' ≤ mc) (hms : slots + ms' ≤ ms) (k : ∀ r w' z, Po' r w' z → V mi d mc ms Po w' z (cells + mc') (slots + ms') L (r.toList ++ stk) (pc + 3)) : V mi d mc ms Po (w) (sz) (cells) (slots) L (S) (pc) := by
  intro p l e s m args below meth c lo D cy H locs ls C hw hz hS hl
  have hts := C.2.2.2.2.2.1
  subst hstk
  have hI : ∀ q, q ∈ lw_tb → q.before args s = true := fun q h => hts _ (List.mem_cons_of_mem _ h)
  refine v_ran (va_runI (As := As) (rest := stk) ⟨C.1, C.2.1, C.2.2.2.1, C.2.2.2.2.1, C.2.2.2.2.2.1⟩ (hE l lo D cy) (cw := ⟨callB_of As.length hts (goodTb hco.1.1) rfl rfl rfl (hI _ hco.1.2.1) (hI _ hlink) ⟨hco.1.2.2.1.1, hco.1.2.2.1.2, hco.1.2.2.2.1⟩ ⟨hdd, by show 8 + (n' + 11) + 36 * d' ≤ 36 * d; have : n' ≤ 17 := hco.1.2.2.2.2; omega⟩, hco.2.2.1, hI _ hco.2.1⟩) ⟨pcBlind, pcS (av := .ref b :: As) C hw hz hS⟩ rfl rfl hl.1.1 rfl (lv_room hst) hd ⟨hmc, hms⟩) C hS hl k
theorem v_callIN {y' : MethodName} {cc' : ByteArray} {n' : Nat} {b : Nat} {As S : List Value} (hco : MN (y', cc', n', none) As.length) (hd : decode mi.2.1 pc = .ok (.invokespecial idx, 3)) (hlink : (mi.1.cls, idx, y', "VotedLabels") ∈ nests) (hE : Ev (y', cc', n', none) d' (.ref b :: As) w sz mc' ms' Po') (hstk : S = As.reverse ++ .ref b :: stk) (hdd : d' + 1 ≤ d) (hst : (stk.map fun v => v.category).sum ≤ 8) (hmc : cells + mc' ≤ mc) (hms : slots + ms' ≤ ms) (k : ∀ r w' z, Po' r w' z → V mi d mc ms Po w' z (cells + mc') (slots + ms') L (r.toList ++ stk) (pc + 3)) : V mi d mc ms Po (w) (sz) (cells) (slots) L (S) (pc) := by
  intro p l e s m args below meth c lo D cy H locs ls C hw hz hS hl
  have hts := C.2.2.2.2.2.1
  subst hstk
  have hI : ∀ q, q ∈ lw_tb → q.before args s = true := fun q h => hts _ (List.mem_cons_of_mem _ h)
  refine v_ran (va_runIN (As := As) (rest := stk) ⟨C.1, C.2.1, C.2.2.2.1, C.2.2.2.2.1, C.2.2.2.2.2.1⟩ (hE l lo D cy) (cw := ⟨va_cnB As.length hts (goodTb hco.1.1) rfl rfl rfl (C.2.2.2.2.2.2.2.1.2.1 _ hlink) (hI _ hco.1.2.1) ⟨hco.1.2.2.1.1, hco.1.2.2.1.2, hco.1.2.2.2.1⟩ ⟨hdd, by show 8 + (n' + 11) + 36 * d' ≤ 36 * d; have : n' ≤ 17 := hco.1.2.2.2.2; omega⟩, hco.2.2.1, hI _ hco.2.1⟩) ⟨pcBlind, pcS (av := .ref b :: As) C hw hz hS⟩ rfl rfl hl.1.1 rfl (lv_room hst) hd ⟨hmc, hms⟩) C hS hl k
/-- a method that only reads: it answers r, and the world stays -/
def Rd (mi' : MI) (d' : Nat) (av : List Value) (w : Wd) (r : Option Value) : Prop := ∀ sz, Ev mi' d' av w sz 0 0 (fun r' w' z => r' = r ∧ w' = w ∧ z = sz)
/-- a method that makes no cell -/
def Wr (mi' : MI) (d' : Nat) (av : List Value) (w : Wd) (Q : Option Value → Wd → Prop) : Prop := ∀ sz, Ev mi' d' av w sz 0 0 (fun r' w' z => z = sz ∧ Q r' w')
theorem Rd.mk {av : List Value} {r : Option Value} (h : ∀ sz, Ev mi' d' av w sz 0 0 (fun r' w' z => r' = r ∧ w' = w ∧ z = sz)) : Rd mi' d' av w r := h

theorem v_rV0 {b : Nat} {fs : List Value} {r : Option Value} (hco : MV mi' 0 ci) (hd : decode mi.2.1 pc = .ok (.invokevirtual idx, 3)) (hlink : Cond.methodLink mi.1.cls idx mi'.1 ∈ lw_tb) (hE : Rd mi' d' (.ref b :: []) w r) (hb : w b = some (ob ci fs)) (hdd : d' + 1 ≤ d) (hst : (stk.map fun v => v.category).sum ≤ 8) (hmc : cells ≤ mc) (hms : slots ≤ ms) (k : V mi d mc ms Po (w) (sz) (cells) (slots) L (r.toList ++ stk) (pc + 3)) : V mi d mc ms Po (w) (sz) (cells) (slots) L (.ref b :: stk) (pc) :=
  v_callVg (As := []) hco hd hlink (hE sz) hb rfl hdd hst hmc hms (fun _ _ _ h => by obtain ⟨rfl, rfl, rfl⟩ := h; exact k)
theorem v_wV0 {b : Nat} {fs : List Value} {Q : Option Value → Wd → Prop} (hco : MV mi' 0 ci) (hd : decode mi.2.1 pc = .ok (.invokevirtual idx, 3)) (hlink : Cond.methodLink mi.1.cls idx mi'.1 ∈ lw_tb) (hE : Wr mi' d' (.ref b :: []) w Q) (hb : w b = some (ob ci fs)) (hdd : d' + 1 ≤ d) (hst : (stk.map fun v => v.category).sum ≤ 8) (hmc : cells ≤ mc) (hms : slots ≤ ms) (k : ∀ r w', Q r w' → V mi d mc ms Po w' sz cells slots L (r.toList ++ stk) (pc + 3)) : V mi d mc ms Po (w) (sz) (cells) (slots) L (.ref b :: stk) (pc) :=
  v_callVg (As := []) hco hd hlink (hE sz) hb rfl hdd hst hmc hms (fun r w' _ h => by obtain ⟨rfl, hq⟩ := h; exact k r w' hq)
theorem v_rV1 {b : Nat} {x0 : Value} {fs : List Value} {r : Option Value} (hco : MV mi' 1 ci) (hd : decode mi.2.1 pc = .ok (.invokevirtual idx, 3)) (hlink : Cond.methodLink mi.1.cls idx mi'.1 ∈ lw_tb) (hE : Rd mi' d' (.ref b :: [x0]) w r) (hb : w b = some (ob ci fs)) (hdd : d' + 1 ≤ d) (hst : (stk.map fun v => v.category).sum ≤ 8) (hmc : cells ≤ mc) (hms : slots ≤ ms) (k : V mi d mc ms Po (w) (sz) (cells) (slots) L (r.toList ++ stk) (pc + 3)) : V mi d mc ms Po (w) (sz) (cells) (slots) L (x0 :: .ref b :: stk) (pc) :=
  v_callVg (As := [x0]) hco hd hlink (hE sz) hb rfl hdd hst hmc hms (fun _ _ _ h => by obtain ⟨rfl, rfl, rfl⟩ := h; exact k)
theorem v_wV1 {b : Nat} {x0 : Value} {fs : List Value} {Q : Option Value → Wd → Prop} (hco : MV mi' 1 ci) (hd : decode mi.2.1 pc = .ok (.invokevirtual idx, 3)) (hlink : Cond.methodLink mi.1.cls idx mi'.1 ∈ lw_tb) (hE : Wr mi' d' (.ref b :: [x0]) w Q) (hb : w b = some (ob ci fs)) (hdd : d' + 1 ≤ d) (hst : (stk.map fun v => v.category).sum ≤ 8) (hmc : cells ≤ mc) (hms : slots ≤ ms) (k : ∀ r w', Q r w' → V mi d mc ms Po w' sz cells slots L (r.toList ++ stk) (pc + 3)) : V mi d mc ms Po (w) (sz) (cells) (slots) L (x0 :: .ref b :: stk) (pc) :=
  v_callVg (As := [x0]) hco hd hlink (hE sz) hb rfl hdd hst hmc hms (fun r w' _ h => by obtain ⟨rfl, hq⟩ := h; exact k r w' hq)
theorem v_rS1 {x0 : Value} {r : Option Value} (hco : MS mi' 1) (hd : decode mi.2.1 pc = .ok (.invokestatic idx, 3)) (hlink : Cond.methodLink mi.1.cls idx mi'.1 ∈ lw_tb) (hE : Rd mi' d' [x0] w r) (hdd : d' + 1 ≤ d) (hst : (stk.map fun v => v.category).sum ≤ 8) (hmc : cells ≤ mc) (hms : slots ≤ ms) (k : V mi d mc ms Po (w) (sz) (cells) (slots) L (r.toList ++ stk) (pc + 3)) : V mi d mc ms Po (w) (sz) (cells) (slots) L (x0 :: stk) (pc) :=
  v_callSg (As := [x0]) hco hd hlink (hE sz) rfl hdd hst hmc hms (fun _ _ _ h => by obtain ⟨rfl, rfl, rfl⟩ := h; exact k)
theorem v_wS1 {x0 : Value} {Q : Option Value → Wd → Prop} (hco : MS mi' 1) (hd : decode mi.2.1 pc = .ok (.invokestatic idx, 3)) (hlink : Cond.methodLink mi.1.cls idx mi'.1 ∈ lw_tb) (hE : Wr mi' d' [x0] w Q) (hdd : d' + 1 ≤ d) (hst : (stk.map fun v => v.category).sum ≤ 8) (hmc : cells ≤ mc) (hms : slots ≤ ms) (k : ∀ r w', Q r w' → V mi d mc ms Po w' sz cells slots L (r.toList ++ stk) (pc + 3)) : V mi d mc ms Po (w) (sz) (cells) (slots) L (x0 :: stk) (pc) :=
  v_callSg (As := [x0]) hco hd hlink (hE sz) rfl hdd hst hmc hms (fun r w' _ h => by obtain ⟨rfl, hq⟩ := h; exact k r w' hq)
theorem v_rSN1 {x0 : Value} {r : Option Value} (hco : MS mi' 1) (hd : decode mi.2.1 pc = .ok (.invokestatic idx, 3)) (hlink : (mi.1.cls, idx, mi'.1, "VotedLabels") ∈ nests) (hE : Rd mi' d' [x0] w r) (hdd : d' + 1 ≤ d) (hst : (stk.map fun v => v.category).sum ≤ 8) (hmc : cells ≤ mc) (hms : slots ≤ ms) (k : V mi d mc ms Po (w) (sz) (cells) (slots) L (r.toList ++ stk) (pc + 3)) : V mi d mc ms Po (w) (sz) (cells) (slots) L (x0 :: stk) (pc) :=
  v_callSN (As := [x0]) hco hd hlink (hE sz) rfl hdd hst hmc hms (fun _ _ _ h => by obtain ⟨rfl, rfl, rfl⟩ := h; exact k)
theorem v_rV2 {b : Nat} {x0 x1 : Value} {fs : List Value} {r : Option Value} (hco : MV mi' 2 ci) (hd : decode mi.2.1 pc = .ok (.invokevirtual idx, 3)) (hlink : Cond.methodLink mi.1.cls idx mi'.1 ∈ lw_tb) (hE : Rd mi' d' (.ref b :: [x0, x1]) w r) (hb : w b = some (ob ci fs)) (hdd : d' + 1 ≤ d) (hst : (stk.map fun v => v.category).sum ≤ 8) (hmc : cells ≤ mc) (hms : slots ≤ ms) (k : V mi d mc ms Po (w) (sz) (cells) (slots) L (r.toList ++ stk) (pc + 3)) : V mi d mc ms Po (w) (sz) (cells) (slots) L (x1 :: x0 :: .ref b :: stk) (pc) :=
  v_callVg (As := [x0, x1]) hco hd hlink (hE sz) hb rfl hdd hst hmc hms (fun _ _ _ h => by obtain ⟨rfl, rfl, rfl⟩ := h; exact k)
theorem v_wV2 {b : Nat} {x0 x1 : Value} {fs : List Value} {Q : Option Value → Wd → Prop} (hco : MV mi' 2 ci) (hd : decode mi.2.1 pc = .ok (.invokevirtual idx, 3)) (hlink : Cond.methodLink mi.1.cls idx mi'.1 ∈ lw_tb) (hE : Wr mi' d' (.ref b :: [x0, x1]) w Q) (hb : w b = some (ob ci fs)) (hdd : d' + 1 ≤ d) (hst : (stk.map fun v => v.category).sum ≤ 8) (hmc : cells ≤ mc) (hms : slots ≤ ms) (k : ∀ r w', Q r w' → V mi d mc ms Po w' sz cells slots L (r.toList ++ stk) (pc + 3)) : V mi d mc ms Po (w) (sz) (cells) (slots) L (x1 :: x0 :: .ref b :: stk) (pc) :=
  v_callVg (As := [x0, x1]) hco hd hlink (hE sz) hb rfl hdd hst hmc hms (fun r w' _ h => by obtain ⟨rfl, hq⟩ := h; exact k r w' hq)
theorem v_rS2 {x0 x1 : Value} {r : Option Value} (hco : MS mi' 2) (hd : decode mi.2.1 pc = .ok (.invokestatic idx, 3)) (hlink : Cond.methodLink mi.1.cls idx mi'.1 ∈ lw_tb) (hE : Rd mi' d' [x0, x1] w r) (hdd : d' + 1 ≤ d) (hst : (stk.map fun v => v.category).sum ≤ 8) (hmc : cells ≤ mc) (hms : slots ≤ ms) (k : V mi d mc ms Po (w) (sz) (cells) (slots) L (r.toList ++ stk) (pc + 3)) : V mi d mc ms Po (w) (sz) (cells) (slots) L (x1 :: x0 :: stk) (pc) :=
  v_callSg (As := [x0, x1]) hco hd hlink (hE sz) rfl hdd hst hmc hms (fun _ _ _ h => by obtain ⟨rfl, rfl, rfl⟩ := h; exact k)
theorem v_wS2 {x0 x1 : Value} {Q : Option Value → Wd → Prop} (hco : MS mi' 2) (hd : decode mi.2.1 pc = .ok (.invokestatic idx, 3)) (hlink : Cond.methodLink mi.1.cls idx mi'.1 ∈ lw_tb) (hE : Wr mi' d' [x0, x1] w Q) (hdd : d' + 1 ≤ d) (hst : (stk.map fun v => v.category).sum ≤ 8) (hmc : cells ≤ mc) (hms : slots ≤ ms) (k : ∀ r w', Q r w' → V mi d mc ms Po w' sz cells slots L (r.toList ++ stk) (pc + 3)) : V mi d mc ms Po (w) (sz) (cells) (slots) L (x1 :: x0 :: stk) (pc) :=
  v_callSg (As := [x0, x1]) hco hd hlink (hE sz) rfl hdd hst hmc hms (fun r w' _ h => by obtain ⟨rfl, hq⟩ := h; exact k r w' hq)
theorem v_rSN2 {x0 x1 : Value} {r : Option Value} (hco : MS mi' 2) (hd : decode mi.2.1 pc = .ok (.invokestatic idx, 3)) (hlink : (mi.1.cls, idx, mi'.1, "VotedLabels") ∈ nests) (hE : Rd mi' d' [x0, x1] w r) (hdd : d' + 1 ≤ d) (hst : (stk.map fun v => v.category).sum ≤ 8) (hmc : cells ≤ mc) (hms : slots ≤ ms) (k : V mi d mc ms Po (w) (sz) (cells) (slots) L (r.toList ++ stk) (pc + 3)) : V mi d mc ms Po (w) (sz) (cells) (slots) L (x1 :: x0 :: stk) (pc) :=
  v_callSN (As := [x0, x1]) hco hd hlink (hE sz) rfl hdd hst hmc hms (fun _ _ _ h => by obtain ⟨rfl, rfl, rfl⟩ := h; exact k)
theorem v_rV3 {b : Nat} {x0 x1 x2 : Value} {fs : List Value} {r : Option Value} (hco : MV mi' 3 ci) (hd : decode mi.2.1 pc = .ok (.invokevirtual idx, 3)) (hlink : Cond.methodLink mi.1.cls idx mi'.1 ∈ lw_tb) (hE : Rd mi' d' (.ref b :: [x0, x1, x2]) w r) (hb : w b = some (ob ci fs)) (hdd : d' + 1 ≤ d) (hst : (stk.map fun v => v.category).sum ≤ 8) (hmc : cells ≤ mc) (hms : slots ≤ ms) (k : V mi d mc ms Po (w) (sz) (cells) (slots) L (r.toList ++ stk) (pc + 3)) : V mi d mc ms Po (w) (sz) (cells) (slots) L (x2 :: x1 :: x0 :: .ref b :: stk) (pc) :=
  v_callVg (As := [x0, x1, x2]) hco hd hlink (hE sz) hb rfl hdd hst hmc hms (fun _ _ _ h => by obtain ⟨rfl, rfl, rfl⟩ := h; exact k)
theorem v_wV3 {b : Nat} {x0 x1 x2 : Value} {fs : List Value} {Q : Option Value → Wd → Prop} (hco : MV mi' 3 ci) (hd : decode mi.2.1 pc = .ok (.invokevirtual idx, 3)) (hlink : Cond.methodLink mi.1.cls idx mi'.1 ∈ lw_tb) (hE : Wr mi' d' (.ref b :: [x0, x1, x2]) w Q) (hb : w b = some (ob ci fs)) (hdd : d' + 1 ≤ d) (hst : (stk.map fun v => v.category).sum ≤ 8) (hmc : cells ≤ mc) (hms : slots ≤ ms) (k : ∀ r w', Q r w' → V mi d mc ms Po w' sz cells slots L (r.toList ++ stk) (pc + 3)) : V mi d mc ms Po (w) (sz) (cells) (slots) L (x2 :: x1 :: x0 :: .ref b :: stk) (pc) :=
  v_callVg (As := [x0, x1, x2]) hco hd hlink (hE sz) hb rfl hdd hst hmc hms (fun r w' _ h => by obtain ⟨rfl, hq⟩ := h; exact k r w' hq)
theorem v_rS3 {x0 x1 x2 : Value} {r : Option Value} (hco : MS mi' 3) (hd : decode mi.2.1 pc = .ok (.invokestatic idx, 3)) (hlink : Cond.methodLink mi.1.cls idx mi'.1 ∈ lw_tb) (hE : Rd mi' d' [x0, x1, x2] w r) (hdd : d' + 1 ≤ d) (hst : (stk.map fun v => v.category).sum ≤ 8) (hmc : cells ≤ mc) (hms : slots ≤ ms) (k : V mi d mc ms Po (w) (sz) (cells) (slots) L (r.toList ++ stk) (pc + 3)) : V mi d mc ms Po (w) (sz) (cells) (slots) L (x2 :: x1 :: x0 :: stk) (pc) :=
  v_callSg (As := [x0, x1, x2]) hco hd hlink (hE sz) rfl hdd hst hmc hms (fun _ _ _ h => by obtain ⟨rfl, rfl, rfl⟩ := h; exact k)
theorem v_wS3 {x0 x1 x2 : Value} {Q : Option Value → Wd → Prop} (hco : MS mi' 3) (hd : decode mi.2.1 pc = .ok (.invokestatic idx, 3)) (hlink : Cond.methodLink mi.1.cls idx mi'.1 ∈ lw_tb) (hE : Wr mi' d' [x0, x1, x2] w Q) (hdd : d' + 1 ≤ d) (hst : (stk.map fun v => v.category).sum ≤ 8) (hmc : cells ≤ mc) (hms : slots ≤ ms) (k : ∀ r w', Q r w' → V mi d mc ms Po w' sz cells slots L (r.toList ++ stk) (pc + 3)) : V mi d mc ms Po (w) (sz) (cells) (slots) L (x2 :: x1 :: x0 :: stk) (pc) :=
  v_callSg (As := [x0, x1, x2]) hco hd hlink (hE sz) rfl hdd hst hmc hms (fun r w' _ h => by obtain ⟨rfl, hq⟩ := h; exact k r w' hq)
theorem v_rSN3 {x0 x1 x2 : Value} {r : Option Value} (hco : MS mi' 3) (hd : decode mi.2.1 pc = .ok (.invokestatic idx, 3)) (hlink : (mi.1.cls, idx, mi'.1, "VotedLabels") ∈ nests) (hE : Rd mi' d' [x0, x1, x2] w r) (hdd : d' + 1 ≤ d) (hst : (stk.map fun v => v.category).sum ≤ 8) (hmc : cells ≤ mc) (hms : slots ≤ ms) (k : V mi d mc ms Po (w) (sz) (cells) (slots) L (r.toList ++ stk) (pc + 3)) : V mi d mc ms Po (w) (sz) (cells) (slots) L (x2 :: x1 :: x0 :: stk) (pc) :=
  v_callSN (As := [x0, x1, x2]) hco hd hlink (hE sz) rfl hdd hst hmc hms (fun _ _ _ h => by obtain ⟨rfl, rfl, rfl⟩ := h; exact k)
theorem v_rV4 {b : Nat} {x0 x1 x2 x3 : Value} {fs : List Value} {r : Option Value} (hco : MV mi' 4 ci) (hd : decode mi.2.1 pc = .ok (.invokevirtual idx, 3)) (hlink : Cond.methodLink mi.1.cls idx mi'.1 ∈ lw_tb) (hE : Rd mi' d' (.ref b :: [x0, x1, x2, x3]) w r) (hb : w b = some (ob ci fs)) (hdd : d' + 1 ≤ d) (hst : (stk.map fun v => v.category).sum ≤ 8) (hmc : cells ≤ mc) (hms : slots ≤ ms) (k : V mi d mc ms Po (w) (sz) (cells) (slots) L (r.toList ++ stk) (pc + 3)) : V mi d mc ms Po (w) (sz) (cells) (slots) L (x3 :: x2 :: x1 :: x0 :: .ref b :: stk) (pc) :=
  v_callVg (As := [x0, x1, x2, x3]) hco hd hlink (hE sz) hb rfl hdd hst hmc hms (fun _ _ _ h => by obtain ⟨rfl, rfl, rfl⟩ := h; exact k)
theorem v_wV4 {b : Nat} {x0 x1 x2 x3 : Value} {fs : List Value} {Q : Option Value → Wd → Prop} (hco : MV mi' 4 ci) (hd : decode mi.2.1 pc = .ok (.invokevirtual idx, 3)) (hlink : Cond.methodLink mi.1.cls idx mi'.1 ∈ lw_tb) (hE : Wr mi' d' (.ref b :: [x0, x1, x2, x3]) w Q) (hb : w b = some (ob ci fs)) (hdd : d' + 1 ≤ d) (hst : (stk.map fun v => v.category).sum ≤ 8) (hmc : cells ≤ mc) (hms : slots ≤ ms) (k : ∀ r w', Q r w' → V mi d mc ms Po w' sz cells slots L (r.toList ++ stk) (pc + 3)) : V mi d mc ms Po (w) (sz) (cells) (slots) L (x3 :: x2 :: x1 :: x0 :: .ref b :: stk) (pc) :=
  v_callVg (As := [x0, x1, x2, x3]) hco hd hlink (hE sz) hb rfl hdd hst hmc hms (fun r w' _ h => by obtain ⟨rfl, hq⟩ := h; exact k r w' hq)
theorem v_rV5 {b : Nat} {x0 x1 x2 x3 x4 : Value} {fs : List Value} {r : Option Value} (hco : MV mi' 5 ci) (hd : decode mi.2.1 pc = .ok (.invokevirtual idx, 3)) (hlink : Cond.methodLink mi.1.cls idx mi'.1 ∈ lw_tb) (hE : Rd mi' d' (.ref b :: [x0, x1, x2, x3, x4]) w r) (hb : w b = some (ob ci fs)) (hdd : d' + 1 ≤ d) (hst : (stk.map fun v => v.category).sum ≤ 8) (hmc : cells ≤ mc) (hms : slots ≤ ms) (k : V mi d mc ms Po (w) (sz) (cells) (slots) L (r.toList ++ stk) (pc + 3)) : V mi d mc ms Po (w) (sz) (cells) (slots) L (x4 :: x3 :: x2 :: x1 :: x0 :: .ref b :: stk) (pc) :=
  v_callVg (As := [x0, x1, x2, x3, x4]) hco hd hlink (hE sz) hb rfl hdd hst hmc hms (fun _ _ _ h => by obtain ⟨rfl, rfl, rfl⟩ := h; exact k)
theorem v_wV5 {b : Nat} {x0 x1 x2 x3 x4 : Value} {fs : List Value} {Q : Option Value → Wd → Prop} (hco : MV mi' 5 ci) (hd : decode mi.2.1 pc = .ok (.invokevirtual idx, 3)) (hlink : Cond.methodLink mi.1.cls idx mi'.1 ∈ lw_tb) (hE : Wr mi' d' (.ref b :: [x0, x1, x2, x3, x4]) w Q) (hb : w b = some (ob ci fs)) (hdd : d' + 1 ≤ d) (hst : (stk.map fun v => v.category).sum ≤ 8) (hmc : cells ≤ mc) (hms : slots ≤ ms) (k : ∀ r w', Q r w' → V mi d mc ms Po w' sz cells slots L (r.toList ++ stk) (pc + 3)) : V mi d mc ms Po (w) (sz) (cells) (slots) L (x4 :: x3 :: x2 :: x1 :: x0 :: .ref b :: stk) (pc) :=
  v_callVg (As := [x0, x1, x2, x3, x4]) hco hd hlink (hE sz) hb rfl hdd hst hmc hms (fun r w' _ h => by obtain ⟨rfl, hq⟩ := h; exact k r w' hq)
theorem v_rV6 {b : Nat} {x0 x1 x2 x3 x4 x5 : Value} {fs : List Value} {r : Option Value} (hco : MV mi' 6 ci) (hd : decode mi.2.1 pc = .ok (.invokevirtual idx, 3)) (hlink : Cond.methodLink mi.1.cls idx mi'.1 ∈ lw_tb) (hE : Rd mi' d' (.ref b :: [x0, x1, x2, x3, x4, x5]) w r) (hb : w b = some (ob ci fs)) (hdd : d' + 1 ≤ d) (hst : (stk.map fun v => v.category).sum ≤ 8) (hmc : cells ≤ mc) (hms : slots ≤ ms) (k : V mi d mc ms Po (w) (sz) (cells) (slots) L (r.toList ++ stk) (pc + 3)) : V mi d mc ms Po (w) (sz) (cells) (slots) L (x5 :: x4 :: x3 :: x2 :: x1 :: x0 :: .ref b :: stk) (pc) :=
  v_callVg (As := [x0, x1, x2, x3, x4, x5]) hco hd hlink (hE sz) hb rfl hdd hst hmc hms (fun _ _ _ h => by obtain ⟨rfl, rfl, rfl⟩ := h; exact k)
end VCALL
end
