-- ===== PART A: goes FIRST, ahead of the names: the tables' words, and 'selects' of the private methods out of them =====
/-- a private method of a class that the tables say can be made, by its rows of tables_1 -/
def lw_okq (q : MethodName × Nat) : Prop := (q.1.cls ≠ "java/lang/invoke/MethodHandle" ∧ q.1.cls ≠ "java/lang/invoke/VarHandle") ∧ Cond.instantiable q.1.cls q.2 ∈ tables_1 ∧ Cond.privateMethod q.1 ∈ tables_1 ∧ Cond.instanceMethod q.1 ∈ tables_1
theorem lw_p0 : lw_okq (⟨"VotedLabels", "readTextFor", "(I)I"⟩, 7) := ⟨⟨by decide +kernel, by decide +kernel⟩, List.mem_of_getElem? (i := 15) (by decide +kernel), List.mem_of_getElem? (i := 338) (by decide +kernel), List.mem_of_getElem? (i := 339) (by decide +kernel)⟩
theorem lw_p1 : lw_okq (⟨"VotedLabels", "readText", "()I"⟩, 7) := ⟨⟨by decide +kernel, by decide +kernel⟩, List.mem_of_getElem? (i := 15) (by decide +kernel), List.mem_of_getElem? (i := 342) (by decide +kernel), List.mem_of_getElem? (i := 343) (by decide +kernel)⟩
theorem lw_p2 : lw_okq (⟨"VotedLabels$Rewrites", "indexBy", "(II)I"⟩, 3) := ⟨⟨by decide +kernel, by decide +kernel⟩, List.mem_of_getElem? (i := 76) (by decide +kernel), List.mem_of_getElem? (i := 391) (by decide +kernel), List.mem_of_getElem? (i := 392) (by decide +kernel)⟩
theorem lw_p3 : lw_okq (⟨"VotedLabels$Rewrites", "removeAt", "(I)V"⟩, 3) := ⟨⟨by decide +kernel, by decide +kernel⟩, List.mem_of_getElem? (i := 76) (by decide +kernel), List.mem_of_getElem? (i := 399) (by decide +kernel), List.mem_of_getElem? (i := 400) (by decide +kernel)⟩
theorem lw_p4 : lw_okq (⟨"VotedLabels$State", "accept", "(LVotedLabels$Rewrite;)V"⟩, 11) := ⟨⟨by decide +kernel, by decide +kernel⟩, List.mem_of_getElem? (i := 68) (by decide +kernel), List.mem_of_getElem? (i := 450) (by decide +kernel), List.mem_of_getElem? (i := 451) (by decide +kernel)⟩
theorem lw_p5 : lw_okq (⟨"VotedLabels$Words", "mostInCommon", "(LVotedLabels$Words;[I)I"⟩, 4) := ⟨⟨by decide +kernel, by decide +kernel⟩, List.mem_of_getElem? (i := 40) (by decide +kernel), List.mem_of_getElem? (i := 517) (by decide +kernel), List.mem_of_getElem? (i := 518) (by decide +kernel)⟩
theorem lw_p6 : lw_okq (⟨"VotedLabels$Rewrites", "aheadOf", "(LVotedLabels$Rewrite;)I"⟩, 3) := ⟨⟨by decide +kernel, by decide +kernel⟩, List.mem_of_getElem? (i := 76) (by decide +kernel), List.mem_of_getElem? (i := 538) (by decide +kernel), List.mem_of_getElem? (i := 539) (by decide +kernel)⟩
theorem lw_p7 : lw_okq (⟨"VotedLabelsModel", "records", "()V"⟩, 6) := ⟨⟨by decide +kernel, by decide +kernel⟩, List.mem_of_getElem? (i := 613) (by decide +kernel), List.mem_of_getElem? (i := 645) (by decide +kernel), List.mem_of_getElem? (i := 646) (by decide +kernel)⟩
theorem lw_p8 : lw_okq (⟨"VotedLabelsModel", "copies", "(II)V"⟩, 6) := ⟨⟨by decide +kernel, by decide +kernel⟩, List.mem_of_getElem? (i := 613) (by decide +kernel), List.mem_of_getElem? (i := 649) (by decide +kernel), List.mem_of_getElem? (i := 650) (by decide +kernel)⟩
theorem lw_p9 : lw_okq (⟨"VotedLabelsModel", "cutsAll", "(I)I"⟩, 6) := ⟨⟨by decide +kernel, by decide +kernel⟩, List.mem_of_getElem? (i := 613) (by decide +kernel), List.mem_of_getElem? (i := 653) (by decide +kernel), List.mem_of_getElem? (i := 654) (by decide +kernel)⟩
theorem lw_p10 : lw_okq (⟨"VotedLabelsModel", "cuts", "(II)Z"⟩, 6) := ⟨⟨by decide +kernel, by decide +kernel⟩, List.mem_of_getElem? (i := 613) (by decide +kernel), List.mem_of_getElem? (i := 657) (by decide +kernel), List.mem_of_getElem? (i := 658) (by decide +kernel)⟩
theorem lw_p11 : lw_okq (⟨"VotedLabelsModel", "wordsOf", "(II)I"⟩, 6) := ⟨⟨by decide +kernel, by decide +kernel⟩, List.mem_of_getElem? (i := 613) (by decide +kernel), List.mem_of_getElem? (i := 664) (by decide +kernel), List.mem_of_getElem? (i := 665) (by decide +kernel)⟩
theorem lw_p12 : lw_okq (⟨"VotedLabelsModel", "words", "(II)I"⟩, 6) := ⟨⟨by decide +kernel, by decide +kernel⟩, List.mem_of_getElem? (i := 613) (by decide +kernel), List.mem_of_getElem? (i := 668) (by decide +kernel), List.mem_of_getElem? (i := 669) (by decide +kernel)⟩
theorem lw_p13 : lw_okq (⟨"VotedLabelsModel", "begin", "(III)I"⟩, 6) := ⟨⟨by decide +kernel, by decide +kernel⟩, List.mem_of_getElem? (i := 613) (by decide +kernel), List.mem_of_getElem? (i := 672) (by decide +kernel), List.mem_of_getElem? (i := 673) (by decide +kernel)⟩
theorem lw_p14 : lw_okq (⟨"VotedLabelsModel", "isLabel", "(II)Z"⟩, 6) := ⟨⟨by decide +kernel, by decide +kernel⟩, List.mem_of_getElem? (i := 613) (by decide +kernel), List.mem_of_getElem? (i := 694) (by decide +kernel), List.mem_of_getElem? (i := 695) (by decide +kernel)⟩
theorem lw_p15 : lw_okq (⟨"VotedLabelsModel", "fault", "()I"⟩, 6) := ⟨⟨by decide +kernel, by decide +kernel⟩, List.mem_of_getElem? (i := 613) (by decide +kernel), List.mem_of_getElem? (i := 706) (by decide +kernel), List.mem_of_getElem? (i := 707) (by decide +kernel)⟩
def lw_privs_1 : List (MethodName × Nat) := [(⟨"VotedLabels", "readTextFor", "(I)I"⟩, 7), (⟨"VotedLabels", "readText", "()I"⟩, 7), (⟨"VotedLabels$Rewrites", "indexBy", "(II)I"⟩, 3), (⟨"VotedLabels$Rewrites", "removeAt", "(I)V"⟩, 3), (⟨"VotedLabels$State", "accept", "(LVotedLabels$Rewrite;)V"⟩, 11), (⟨"VotedLabels$Words", "mostInCommon", "(LVotedLabels$Words;[I)I"⟩, 4), (⟨"VotedLabels$Rewrites", "aheadOf", "(LVotedLabels$Rewrite;)I"⟩, 3), (⟨"VotedLabelsModel", "records", "()V"⟩, 6), (⟨"VotedLabelsModel", "copies", "(II)V"⟩, 6), (⟨"VotedLabelsModel", "cutsAll", "(I)I"⟩, 6), (⟨"VotedLabelsModel", "cuts", "(II)Z"⟩, 6), (⟨"VotedLabelsModel", "wordsOf", "(II)I"⟩, 6), (⟨"VotedLabelsModel", "words", "(II)I"⟩, 6), (⟨"VotedLabelsModel", "begin", "(III)I"⟩, 6), (⟨"VotedLabelsModel", "isLabel", "(II)Z"⟩, 6), (⟨"VotedLabelsModel", "fault", "()I"⟩, 6)]
theorem lw_r1 : ∀ q ∈ lw_privs_1, lw_okq q := List.forall_mem_cons.mpr ⟨lw_p0, List.forall_mem_cons.mpr ⟨lw_p1, List.forall_mem_cons.mpr ⟨lw_p2, List.forall_mem_cons.mpr ⟨lw_p3, List.forall_mem_cons.mpr ⟨lw_p4, List.forall_mem_cons.mpr ⟨lw_p5, List.forall_mem_cons.mpr ⟨lw_p6, List.forall_mem_cons.mpr ⟨lw_p7, List.forall_mem_cons.mpr ⟨lw_p8, List.forall_mem_cons.mpr ⟨lw_p9, List.forall_mem_cons.mpr ⟨lw_p10, List.forall_mem_cons.mpr ⟨lw_p11, List.forall_mem_cons.mpr ⟨lw_p12, List.forall_mem_cons.mpr ⟨lw_p13, List.forall_mem_cons.mpr ⟨lw_p14, List.forall_mem_cons.mpr ⟨lw_p15, fun _ h => absurd h List.not_mem_nil⟩⟩⟩⟩⟩⟩⟩⟩⟩⟩⟩⟩⟩⟩⟩⟩
theorem lw_p16 : lw_okq (⟨"VotedLabelsModel", "wordsTold", "()I"⟩, 6) := ⟨⟨by decide +kernel, by decide +kernel⟩, List.mem_of_getElem? (i := 613) (by decide +kernel), List.mem_of_getElem? (i := 710) (by decide +kernel), List.mem_of_getElem? (i := 711) (by decide +kernel)⟩
theorem lw_p17 : lw_okq (⟨"VotedLabelsModel", "isTold", "(II)Z"⟩, 6) := ⟨⟨by decide +kernel, by decide +kernel⟩, List.mem_of_getElem? (i := 613) (by decide +kernel), List.mem_of_getElem? (i := 714) (by decide +kernel), List.mem_of_getElem? (i := 715) (by decide +kernel)⟩
theorem lw_p18 : lw_okq (⟨"VotedLabelsModel", "lays", "(I)V"⟩, 6) := ⟨⟨by decide +kernel, by decide +kernel⟩, List.mem_of_getElem? (i := 613) (by decide +kernel), List.mem_of_getElem? (i := 718) (by decide +kernel), List.mem_of_getElem? (i := 719) (by decide +kernel)⟩
theorem lw_p19 : lw_okq (⟨"VotedLabelsModel", "own", "(II)I"⟩, 6) := ⟨⟨by decide +kernel, by decide +kernel⟩, List.mem_of_getElem? (i := 613) (by decide +kernel), List.mem_of_getElem? (i := 726) (by decide +kernel), List.mem_of_getElem? (i := 727) (by decide +kernel)⟩
theorem lw_p20 : lw_okq (⟨"VotedLabelsModel", "free", "()I"⟩, 6) := ⟨⟨by decide +kernel, by decide +kernel⟩, List.mem_of_getElem? (i := 613) (by decide +kernel), List.mem_of_getElem? (i := 733) (by decide +kernel), List.mem_of_getElem? (i := 734) (by decide +kernel)⟩
theorem lw_p21 : lw_okq (⟨"VotedLabelsModel", "goes", "(I)V"⟩, 6) := ⟨⟨by decide +kernel, by decide +kernel⟩, List.mem_of_getElem? (i := 613) (by decide +kernel), List.mem_of_getElem? (i := 737) (by decide +kernel), List.mem_of_getElem? (i := 738) (by decide +kernel)⟩
theorem lw_p22 : lw_okq (⟨"VotedLabelsModel", "placeOf", "(I)I"⟩, 6) := ⟨⟨by decide +kernel, by decide +kernel⟩, List.mem_of_getElem? (i := 613) (by decide +kernel), List.mem_of_getElem? (i := 745) (by decide +kernel), List.mem_of_getElem? (i := 746) (by decide +kernel)⟩
theorem lw_p23 : lw_okq (⟨"VotedLabelsModel", "votesFor", "(I)I"⟩, 6) := ⟨⟨by decide +kernel, by decide +kernel⟩, List.mem_of_getElem? (i := 613) (by decide +kernel), List.mem_of_getElem? (i := 749) (by decide +kernel), List.mem_of_getElem? (i := 750) (by decide +kernel)⟩
theorem lw_p24 : lw_okq (⟨"VotedLabelsModel", "best", "(II)I"⟩, 6) := ⟨⟨by decide +kernel, by decide +kernel⟩, List.mem_of_getElem? (i := 613) (by decide +kernel), List.mem_of_getElem? (i := 757) (by decide +kernel), List.mem_of_getElem? (i := 758) (by decide +kernel)⟩
theorem lw_p25 : lw_okq (⟨"VotedLabelsModel", "labels", "()I"⟩, 6) := ⟨⟨by decide +kernel, by decide +kernel⟩, List.mem_of_getElem? (i := 613) (by decide +kernel), List.mem_of_getElem? (i := 777) (by decide +kernel), List.mem_of_getElem? (i := 778) (by decide +kernel)⟩
theorem lw_p26 : lw_okq (⟨"VotedLabelsModel", "apart", "(IIII)I"⟩, 6) := ⟨⟨by decide +kernel, by decide +kernel⟩, List.mem_of_getElem? (i := 613) (by decide +kernel), List.mem_of_getElem? (i := 797) (by decide +kernel), List.mem_of_getElem? (i := 798) (by decide +kernel)⟩
theorem lw_p27 : lw_okq (⟨"VotedLabelsModel", "areAlike", "(IIIIII)Z"⟩, 6) := ⟨⟨by decide +kernel, by decide +kernel⟩, List.mem_of_getElem? (i := 613) (by decide +kernel), List.mem_of_getElem? (i := 801) (by decide +kernel), List.mem_of_getElem? (i := 802) (by decide +kernel)⟩
theorem lw_p28 : lw_okq (⟨"VotedLabelsModel", "end", "(III)I"⟩, 6) := ⟨⟨by decide +kernel, by decide +kernel⟩, List.mem_of_getElem? (i := 613) (by decide +kernel), List.mem_of_getElem? (i := 805) (by decide +kernel), List.mem_of_getElem? (i := 806) (by decide +kernel)⟩
theorem lw_p29 : lw_okq (⟨"VotedLabelsModel", "worksOf", "(I)I"⟩, 6) := ⟨⟨by decide +kernel, by decide +kernel⟩, List.mem_of_getElem? (i := 613) (by decide +kernel), List.mem_of_getElem? (i := 817) (by decide +kernel), List.mem_of_getElem? (i := 818) (by decide +kernel)⟩
theorem lw_p30 : lw_okq (⟨"VotedLabelsModel", "labelsOf", "(II)I"⟩, 6) := ⟨⟨by decide +kernel, by decide +kernel⟩, List.mem_of_getElem? (i := 613) (by decide +kernel), List.mem_of_getElem? (i := 821) (by decide +kernel), List.mem_of_getElem? (i := 822) (by decide +kernel)⟩
theorem lw_p31 : lw_okq (⟨"VotedLabelsModel", "rewritesOf", "(I)I"⟩, 6) := ⟨⟨by decide +kernel, by decide +kernel⟩, List.mem_of_getElem? (i := 613) (by decide +kernel), List.mem_of_getElem? (i := 829) (by decide +kernel), List.mem_of_getElem? (i := 830) (by decide +kernel)⟩
def lw_privs_2 : List (MethodName × Nat) := [(⟨"VotedLabelsModel", "wordsTold", "()I"⟩, 6), (⟨"VotedLabelsModel", "isTold", "(II)Z"⟩, 6), (⟨"VotedLabelsModel", "lays", "(I)V"⟩, 6), (⟨"VotedLabelsModel", "own", "(II)I"⟩, 6), (⟨"VotedLabelsModel", "free", "()I"⟩, 6), (⟨"VotedLabelsModel", "goes", "(I)V"⟩, 6), (⟨"VotedLabelsModel", "placeOf", "(I)I"⟩, 6), (⟨"VotedLabelsModel", "votesFor", "(I)I"⟩, 6), (⟨"VotedLabelsModel", "best", "(II)I"⟩, 6), (⟨"VotedLabelsModel", "labels", "()I"⟩, 6), (⟨"VotedLabelsModel", "apart", "(IIII)I"⟩, 6), (⟨"VotedLabelsModel", "areAlike", "(IIIIII)Z"⟩, 6), (⟨"VotedLabelsModel", "end", "(III)I"⟩, 6), (⟨"VotedLabelsModel", "worksOf", "(I)I"⟩, 6), (⟨"VotedLabelsModel", "labelsOf", "(II)I"⟩, 6), (⟨"VotedLabelsModel", "rewritesOf", "(I)I"⟩, 6)]
theorem lw_r2 : ∀ q ∈ lw_privs_2, lw_okq q := List.forall_mem_cons.mpr ⟨lw_p16, List.forall_mem_cons.mpr ⟨lw_p17, List.forall_mem_cons.mpr ⟨lw_p18, List.forall_mem_cons.mpr ⟨lw_p19, List.forall_mem_cons.mpr ⟨lw_p20, List.forall_mem_cons.mpr ⟨lw_p21, List.forall_mem_cons.mpr ⟨lw_p22, List.forall_mem_cons.mpr ⟨lw_p23, List.forall_mem_cons.mpr ⟨lw_p24, List.forall_mem_cons.mpr ⟨lw_p25, List.forall_mem_cons.mpr ⟨lw_p26, List.forall_mem_cons.mpr ⟨lw_p27, List.forall_mem_cons.mpr ⟨lw_p28, List.forall_mem_cons.mpr ⟨lw_p29, List.forall_mem_cons.mpr ⟨lw_p30, List.forall_mem_cons.mpr ⟨lw_p31, fun _ h => absurd h List.not_mem_nil⟩⟩⟩⟩⟩⟩⟩⟩⟩⟩⟩⟩⟩⟩⟩⟩
theorem lw_p32 : lw_okq (⟨"VotedLabelsModel", "votesOf", "(I)I"⟩, 6) := ⟨⟨by decide +kernel, by decide +kernel⟩, List.mem_of_getElem? (i := 613) (by decide +kernel), List.mem_of_getElem? (i := 833) (by decide +kernel), List.mem_of_getElem? (i := 834) (by decide +kernel)⟩
theorem lw_p33 : lw_okq (⟨"VotedLabelsModel", "standing", "(I)I"⟩, 6) := ⟨⟨by decide +kernel, by decide +kernel⟩, List.mem_of_getElem? (i := 613) (by decide +kernel), List.mem_of_getElem? (i := 837) (by decide +kernel), List.mem_of_getElem? (i := 838) (by decide +kernel)⟩
theorem lw_p34 : lw_okq (⟨"VotedLabelsModel", "hasTold", "(I)Z"⟩, 6) := ⟨⟨by decide +kernel, by decide +kernel⟩, List.mem_of_getElem? (i := 613) (by decide +kernel), List.mem_of_getElem? (i := 845) (by decide +kernel), List.mem_of_getElem? (i := 846) (by decide +kernel)⟩
theorem lw_p35 : lw_okq (⟨"VotedLabelsModel", "allVotes", "()I"⟩, 6) := ⟨⟨by decide +kernel, by decide +kernel⟩, List.mem_of_getElem? (i := 613) (by decide +kernel), List.mem_of_getElem? (i := 853) (by decide +kernel), List.mem_of_getElem? (i := 854) (by decide +kernel)⟩
def lw_privs_3 : List (MethodName × Nat) := [(⟨"VotedLabelsModel", "votesOf", "(I)I"⟩, 6), (⟨"VotedLabelsModel", "standing", "(I)I"⟩, 6), (⟨"VotedLabelsModel", "hasTold", "(I)Z"⟩, 6), (⟨"VotedLabelsModel", "allVotes", "()I"⟩, 6)]
theorem lw_r3 : ∀ q ∈ lw_privs_3, lw_okq q := List.forall_mem_cons.mpr ⟨lw_p32, List.forall_mem_cons.mpr ⟨lw_p33, List.forall_mem_cons.mpr ⟨lw_p34, List.forall_mem_cons.mpr ⟨lw_p35, fun _ h => absurd h List.not_mem_nil⟩⟩⟩⟩
def lw_privs : List (MethodName × Nat) := lw_privs_1 ++ (lw_privs_2 ++ (lw_privs_3))
def lw_tbl : List Cond := k2_sels lw_privs ++ tables_1
theorem lw_privs_ok : ∀ q ∈ lw_privs, lw_okq q := by
  show ∀ q ∈ lw_privs_1 ++ (lw_privs_2 ++ (lw_privs_3)), lw_okq q
  exact List.forall_mem_append.mpr ⟨lw_r1, List.forall_mem_append.mpr ⟨lw_r2, lw_r3⟩⟩
/-! ===== END ===== -/

/-! ===== BEGIN printed: names, fields, word lists, decode rows ===== -/
def RX0 : String := "VotedLabels$History"
def TX0 : u_T := fun k => match k with
  | 0 => ("VotedLabels$History", "states", "[LVotedLabels$State;", true)
  | 1 => ("VotedLabels$History", "size", "I", false)
  | _ => ("VotedLabels$History", "next", "I", false)
def tyX0 : Nat → FieldType := fun k => match k with
  | 0 => .array (.object "VotedLabels$State")
  | 1 => .int
  | _ => .int
abbrev wsX00 : List Cond := u_ws RX0 TX0 3
theorem nmX0 : ∀ a, a < 3 → ∀ b, b < 3 → a ≠ b → (TX0 a).2.1 ≠ (TX0 b).2.1 := by decide +kernel
theorem tyX0_ok : ∀ k, k < 3 → parseFieldDescriptor (TX0 k).2.2.1 = some (tyX0 k) := by decide +kernel
abbrev cX0_init : ByteArray := prog_2_method_1_code
def yX0_init : MethodName := ⟨RX0, "<init>", "()V"⟩
abbrev cX0_push : ByteArray := prog_2_method_2_code
def yX0_push : MethodName := ⟨RX0, "push", "(LVotedLabels$State;)V"⟩
abbrev cX0_popInto : ByteArray := prog_2_method_3_code
def yX0_popInto : MethodName := ⟨RX0, "popInto", "(LVotedLabels$State;)V"⟩
def RX1 : String := "VotedLabels$Label"
def TX1 : u_T := fun k => match k with
  | 0 => ("VotedLabels$Label", "words", "LVotedLabels$Words;", true)
  | 1 => ("VotedLabels$Label", "visitor", "I", false)
  | 2 => ("VotedLabels$Label", "week", "I", false)
  | _ => ("VotedLabels$Label", "cuts", "I", false)
def tyX1 : Nat → FieldType := fun k => match k with
  | 0 => .object "VotedLabels$Words"
  | 1 => .int
  | 2 => .int
  | _ => .int
abbrev wsX10 : List Cond := u_ws RX1 TX1 4
theorem nmX1 : ∀ a, a < 4 → ∀ b, b < 4 → a ≠ b → (TX1 a).2.1 ≠ (TX1 b).2.1 := by decide +kernel
theorem tyX1_ok : ∀ k, k < 4 → parseFieldDescriptor (TX1 k).2.2.1 = some (tyX1 k) := by decide +kernel
abbrev cX1_init : ByteArray := prog_3_method_1_code
def yX1_init : MethodName := ⟨RX1, "<init>", "()V"⟩
abbrev cX1_stands : ByteArray := prog_3_method_2_code
def yX1_stands : MethodName := ⟨RX1, "stands", "()Z"⟩
abbrev cX1_become : ByteArray := prog_3_method_3_code
def yX1_become : MethodName := ⟨RX1, "become", "(LVotedLabels$Words;II)V"⟩
abbrev cX1_copyFrom : ByteArray := prog_3_method_4_code
def yX1_copyFrom : MethodName := ⟨RX1, "copyFrom", "(LVotedLabels$Label;)V"⟩
abbrev cX1_cutTo : ByteArray := prog_3_method_5_code
def yX1_cutTo : MethodName := ⟨RX1, "cutTo", "(I)Z"⟩
abbrev cX1_told : ByteArray := prog_3_method_6_code
def yX1_told : MethodName := ⟨RX1, "told", "(I)I"⟩
def RX2 : String := "VotedLabels$Rewrite"
def TX2 : u_T := fun k => match k with
  | 0 => ("VotedLabels$Rewrite", "words", "LVotedLabels$Words;", true)
  | 1 => ("VotedLabels$Rewrite", "number", "I", false)
  | 2 => ("VotedLabels$Rewrite", "place", "I", false)
  | 3 => ("VotedLabels$Rewrite", "visitor", "I", false)
  | 4 => ("VotedLabels$Rewrite", "age", "I", false)
  | _ => ("VotedLabels$Rewrite", "voters", "I", false)
def tyX2 : Nat → FieldType := fun k => match k with
  | 0 => .object "VotedLabels$Words"
  | 1 => .int
  | 2 => .int
  | 3 => .int
  | 4 => .int
  | _ => .int
abbrev wsX20 : List Cond := u_ws RX2 TX2 6
theorem nmX2 : ∀ a, a < 6 → ∀ b, b < 6 → a ≠ b → (TX2 a).2.1 ≠ (TX2 b).2.1 := by decide +kernel
theorem tyX2_ok : ∀ k, k < 6 → parseFieldDescriptor (TX2 k).2.2.1 = some (tyX2 k) := by decide +kernel
abbrev cX2_init : ByteArray := prog_4_method_1_code
def yX2_init : MethodName := ⟨RX2, "<init>", "()V"⟩
abbrev cX2_become : ByteArray := prog_4_method_2_code
def yX2_become : MethodName := ⟨RX2, "become", "(IIILVotedLabels$Words;)V"⟩
abbrev cX2_copyFrom : ByteArray := prog_4_method_3_code
def yX2_copyFrom : MethodName := ⟨RX2, "copyFrom", "(LVotedLabels$Rewrite;)V"⟩
abbrev cX2_hasVoteOf : ByteArray := prog_4_method_4_code
def yX2_hasVoteOf : MethodName := ⟨RX2, "hasVoteOf", "(I)Z"⟩
abbrev cX2_votes : ByteArray := prog_4_method_5_code
def yX2_votes : MethodName := ⟨RX2, "votes", "()I"⟩
abbrev cX2_hasMoreVotesOrLowerNumber : ByteArray := prog_4_method_6_code
def yX2_hasMoreVotesOrLowerNumber : MethodName := ⟨RX2, "hasMoreVotesOrLowerNumber", "(LVotedLabels$Rewrite;)Z"⟩
abbrev cX2_hasMoreVotesOrFewerWords : ByteArray := prog_4_method_7_code
def yX2_hasMoreVotesOrFewerWords : MethodName := ⟨RX2, "hasMoreVotesOrFewerWords", "(LVotedLabels$Rewrite;)Z"⟩
def RX3 : String := "VotedLabels$Rewrites"
def TX3 : u_T := fun k => match k with
  | 0 => ("VotedLabels$Rewrites", "rows", "[LVotedLabels$Rewrite;", true)
  | 1 => ("VotedLabels$Rewrites", "size", "I", false)
  | _ => ("VotedLabels$Rewrites", "soFar", "I", false)
def tyX3 : Nat → FieldType := fun k => match k with
  | 0 => .array (.object "VotedLabels$Rewrite")
  | 1 => .int
  | _ => .int
abbrev wsX30 : List Cond := u_ws RX3 TX3 3
theorem nmX3 : ∀ a, a < 3 → ∀ b, b < 3 → a ≠ b → (TX3 a).2.1 ≠ (TX3 b).2.1 := by decide +kernel
theorem tyX3_ok : ∀ k, k < 3 → parseFieldDescriptor (TX3 k).2.2.1 = some (tyX3 k) := by decide +kernel
abbrev cX3_init : ByteArray := prog_5_method_1_code
def yX3_init : MethodName := ⟨RX3, "<init>", "()V"⟩
abbrev cX3_copyFrom : ByteArray := prog_5_method_2_code
def yX3_copyFrom : MethodName := ⟨RX3, "copyFrom", "(LVotedLabels$Rewrites;)V"⟩
abbrev cX3_withNumber : ByteArray := prog_5_method_3_code
def yX3_withNumber : MethodName := ⟨RX3, "withNumber", "(I)LVotedLabels$Rewrite;"⟩
abbrev cX3_hasRoomFor : ByteArray := prog_5_method_4_code
def yX3_hasRoomFor : MethodName := ⟨RX3, "hasRoomFor", "(II)Z"⟩
abbrev cX3_handIn : ByteArray := prog_5_method_5_code
def yX3_handIn : MethodName := ⟨RX3, "handIn", "(IILVotedLabels$Words;)I"⟩
abbrev cX3_indexBy : ByteArray := prog_5_method_6_code
def yX3_indexBy : MethodName := ⟨RX3, "indexBy", "(II)I"⟩
abbrev cX3_removeAt : ByteArray := prog_5_method_7_code
def yX3_removeAt : MethodName := ⟨RX3, "removeAt", "(I)V"⟩
abbrev cX3_remove : ByteArray := prog_5_method_8_code
def yX3_remove : MethodName := ⟨RX3, "remove", "(LVotedLabels$Rewrite;)V"⟩
abbrev cX3_takeVoteBack : ByteArray := prog_5_method_9_code
def yX3_takeVoteBack : MethodName := ⟨RX3, "takeVoteBack", "(II)V"⟩
abbrev cX3_bestFor : ByteArray := prog_5_method_10_code
def yX3_bestFor : MethodName := ⟨RX3, "bestFor", "(III)LVotedLabels$Rewrite;"⟩
abbrev cX3_atRank : ByteArray := prog_5_method_11_code
def yX3_atRank : MethodName := ⟨RX3, "atRank", "(II)LVotedLabels$Rewrite;"⟩
abbrev cX3_aheadOf : ByteArray := prog_5_method_12_code
def yX3_aheadOf : MethodName := ⟨RX3, "aheadOf", "(LVotedLabels$Rewrite;)I"⟩
abbrev cX3_growOlder : ByteArray := prog_5_method_13_code
def yX3_growOlder : MethodName := ⟨RX3, "growOlder", "()I"⟩
abbrev cX3_handedInBy : ByteArray := prog_5_method_14_code
def yX3_handedInBy : MethodName := ⟨RX3, "handedInBy", "(I)I"⟩
abbrev cX3_votesOf : ByteArray := prog_5_method_15_code
def yX3_votesOf : MethodName := ⟨RX3, "votesOf", "(I)I"⟩
abbrev cX3_allVotes : ByteArray := prog_5_method_16_code
def yX3_allVotes : MethodName := ⟨RX3, "allVotes", "()I"⟩
def RX4 : String := "VotedLabels$State"
def TX4 : u_T := fun k => match k with
  | 0 => ("VotedLabels$State", "limits", "[I", true)
  | 1 => ("VotedLabels$State", "asked", "[I", true)
  | 2 => ("VotedLabels$State", "roomOf", "[I", true)
  | 3 => ("VotedLabels$State", "accepted", "[I", true)
  | 4 => ("VotedLabels$State", "labels", "[LVotedLabels$Label;", true)
  | 5 => ("VotedLabels$State", "rewrites", "LVotedLabels$Rewrites;", true)
  | 6 => ("VotedLabels$State", "needed", "I", false)
  | 7 => ("VotedLabels$State", "weeks", "I", false)
  | 8 => ("VotedLabels$State", "rewritten", "I", false)
  | 9 => ("VotedLabels$State", "fallen", "I", false)
  | _ => ("VotedLabels$State", "cut", "I", false)
def tyX4 : Nat → FieldType := fun k => match k with
  | 0 => .array .int
  | 1 => .array .int
  | 2 => .array .int
  | 3 => .array .int
  | 4 => .array (.object "VotedLabels$Label")
  | 5 => .object "VotedLabels$Rewrites"
  | 6 => .int
  | 7 => .int
  | 8 => .int
  | 9 => .int
  | _ => .int
abbrev wsX40 : List Cond := u_ws RX4 TX4 11
theorem nmX4 : ∀ a, a < 11 → ∀ b, b < 11 → a ≠ b → (TX4 a).2.1 ≠ (TX4 b).2.1 := by decide +kernel
theorem tyX4_ok : ∀ k, k < 11 → parseFieldDescriptor (TX4 k).2.2.1 = some (tyX4 k) := by decide +kernel
abbrev cX4_init : ByteArray := prog_6_method_1_code
def yX4_init : MethodName := ⟨RX4, "<init>", "()V"⟩
abbrev cX4_copyFrom : ByteArray := prog_6_method_2_code
def yX4_copyFrom : MethodName := ⟨RX4, "copyFrom", "(LVotedLabels$State;)V"⟩
abbrev cX4_limitOf : ByteArray := prog_6_method_3_code
def yX4_limitOf : MethodName := ⟨RX4, "limitOf", "(I)I"⟩
abbrev cX4_asksFor : ByteArray := prog_6_method_4_code
def yX4_asksFor : MethodName := ⟨RX4, "asksFor", "(II)Z"⟩
abbrev cX4_changeLimit : ByteArray := prog_6_method_5_code
def yX4_changeLimit : MethodName := ⟨RX4, "changeLimit", "(II)I"⟩
abbrev cX4_cutLabelsOf : ByteArray := prog_6_method_6_code
def yX4_cutLabelsOf : MethodName := ⟨RX4, "cutLabelsOf", "(I)I"⟩
abbrev cX4_bestRewriteFor : ByteArray := prog_6_method_7_code
def yX4_bestRewriteFor : MethodName := ⟨RX4, "bestRewriteFor", "(I)LVotedLabels$Rewrite;"⟩
abbrev cX4_passWeek : ByteArray := prog_6_method_8_code
def yX4_passWeek : MethodName := ⟨RX4, "passWeek", "()I"⟩
abbrev cX4_accept : ByteArray := prog_6_method_9_code
def yX4_accept : MethodName := ⟨RX4, "accept", "(LVotedLabels$Rewrite;)V"⟩
abbrev cX4_allLabels : ByteArray := prog_6_method_10_code
def yX4_allLabels : MethodName := ⟨RX4, "allLabels", "()I"⟩
abbrev cX4_labelsBy : ByteArray := prog_6_method_11_code
def yX4_labelsBy : MethodName := ⟨RX4, "labelsBy", "(I)I"⟩
abbrev cX4_labelsSharing : ByteArray := prog_6_method_12_code
def yX4_labelsSharing : MethodName := ⟨RX4, "labelsSharing", "(ILVotedLabels$Words;)I"⟩
abbrev cX4_worksIn : ByteArray := prog_6_method_13_code
def yX4_worksIn : MethodName := ⟨RX4, "worksIn", "(I)I"⟩
abbrev cX4_labelsIn : ByteArray := prog_6_method_14_code
def yX4_labelsIn : MethodName := ⟨RX4, "labelsIn", "(IZ)I"⟩
abbrev cX4_missingIn : ByteArray := prog_6_method_15_code
def yX4_missingIn : MethodName := ⟨RX4, "missingIn", "(I)I"⟩
abbrev cX4_allMissing : ByteArray := prog_6_method_16_code
def yX4_allMissing : MethodName := ⟨RX4, "allMissing", "()I"⟩
abbrev cX4_longestIn : ByteArray := prog_6_method_17_code
def yX4_longestIn : MethodName := ⟨RX4, "longestIn", "(I)I"⟩
def RX5 : String := "VotedLabels$Text"
def TX5 : u_T := fun k => match k with
  | 0 => ("VotedLabels$Text", "characters", "[C", true)
  | _ => ("VotedLabels$Text", "length", "I", false)
def tyX5 : Nat → FieldType := fun k => match k with
  | 0 => .array .char
  | _ => .int
abbrev wsX50 : List Cond := u_ws RX5 TX5 2
theorem nmX5 : ∀ a, a < 2 → ∀ b, b < 2 → a ≠ b → (TX5 a).2.1 ≠ (TX5 b).2.1 := by decide +kernel
theorem tyX5_ok : ∀ k, k < 2 → parseFieldDescriptor (TX5 k).2.2.1 = some (tyX5 k) := by decide +kernel
abbrev cX5_init : ByteArray := prog_7_method_1_code
def yX5_init : MethodName := ⟨RX5, "<init>", "()V"⟩
abbrev cX5_add : ByteArray := prog_7_method_2_code
def yX5_add : MethodName := ⟨RX5, "add", "(C)Z"⟩
abbrev cX5_fault : ByteArray := prog_7_method_3_code
def yX5_fault : MethodName := ⟨RX5, "fault", "()I"⟩
def RX6 : String := "VotedLabels$Words"
def TX6 : u_T := fun k => match k with
  | 0 => ("VotedLabels$Words", "letters", "[C", true)
  | 1 => ("VotedLabels$Words", "length", "I", false)
  | 2 => ("VotedLabels$Words", "starts", "[I", true)
  | _ => ("VotedLabels$Words", "size", "I", false)
def tyX6 : Nat → FieldType := fun k => match k with
  | 0 => .array .char
  | 1 => .int
  | 2 => .array .int
  | _ => .int
abbrev wsX60 : List Cond := u_ws RX6 TX6 4
theorem nmX6 : ∀ a, a < 4 → ∀ b, b < 4 → a ≠ b → (TX6 a).2.1 ≠ (TX6 b).2.1 := by decide +kernel
theorem tyX6_ok : ∀ k, k < 4 → parseFieldDescriptor (TX6 k).2.2.1 = some (tyX6 k) := by decide +kernel
abbrev cX6_init : ByteArray := prog_8_method_1_code
def yX6_init : MethodName := ⟨RX6, "<init>", "()V"⟩
abbrev cX6_empty : ByteArray := prog_8_method_2_code
def yX6_empty : MethodName := ⟨RX6, "empty", "()V"⟩
abbrev cX6_readFrom : ByteArray := prog_8_method_3_code
def yX6_readFrom : MethodName := ⟨RX6, "readFrom", "(LVotedLabels$Text;)V"⟩
abbrev cX6_copyFrom : ByteArray := prog_8_method_4_code
def yX6_copyFrom : MethodName := ⟨RX6, "copyFrom", "(LVotedLabels$Words;)V"⟩
abbrev cX6_cutTo : ByteArray := prog_8_method_5_code
def yX6_cutTo : MethodName := ⟨RX6, "cutTo", "(I)V"⟩
abbrev cX6_isLike : ByteArray := prog_8_method_6_code
def yX6_isLike : MethodName := ⟨RX6, "isLike", "(LVotedLabels$Words;)Z"⟩
abbrev cX6_hasSameWord : ByteArray := prog_8_method_7_code
def yX6_hasSameWord : MethodName := ⟨RX6, "hasSameWord", "(ILVotedLabels$Words;I)Z"⟩
abbrev cX6_sharesWordWith : ByteArray := prog_8_method_8_code
def yX6_sharesWordWith : MethodName := ⟨RX6, "sharesWordWith", "(LVotedLabels$Words;)Z"⟩
abbrev cX6_distanceTo : ByteArray := prog_8_method_9_code
def yX6_distanceTo : MethodName := ⟨RX6, "distanceTo", "(LVotedLabels$Words;[I)I"⟩
abbrev cX6_mostInCommon : ByteArray := prog_8_method_10_code
def yX6_mostInCommon : MethodName := ⟨RX6, "mostInCommon", "(LVotedLabels$Words;[I)I"⟩
def RX7 : String := "VotedLabels"
def TX7 : u_T := fun k => match k with
  | 0 => ("VotedLabels", "text", "LVotedLabels$Text;", true)
  | 1 => ("VotedLabels", "typed", "LVotedLabels$Words;", true)
  | 2 => ("VotedLabels", "state", "LVotedLabels$State;", true)
  | 3 => ("VotedLabels", "history", "LVotedLabels$History;", true)
  | 4 => ("VotedLabels", "snapshot", "LVotedLabels$State;", true)
  | 5 => ("VotedLabels", "hasSnapshot", "Z", false)
  | _ => ("VotedLabels", "commonRow", "[I", true)
def tyX7 : Nat → FieldType := fun k => match k with
  | 0 => .object "VotedLabels$Text"
  | 1 => .object "VotedLabels$Words"
  | 2 => .object "VotedLabels$State"
  | 3 => .object "VotedLabels$History"
  | 4 => .object "VotedLabels$State"
  | 5 => .boolean
  | _ => .array .int
abbrev wsX70 : List Cond := u_ws RX7 TX7 7
theorem nmX7 : ∀ a, a < 7 → ∀ b, b < 7 → a ≠ b → (TX7 a).2.1 ≠ (TX7 b).2.1 := by decide +kernel
theorem tyX7_ok : ∀ k, k < 7 → parseFieldDescriptor (TX7 k).2.2.1 = some (tyX7 k) := by decide +kernel
abbrev cX7_init : ByteArray := prog_1_method_1_code
def yX7_init : MethodName := ⟨RX7, "<init>", "()V"⟩
abbrev cX7_setLimit : ByteArray := prog_1_method_2_code
def yX7_setLimit : MethodName := ⟨RX7, "setLimit", "(II)I"⟩
abbrev cX7_ask : ByteArray := prog_1_method_3_code
def yX7_ask : MethodName := ⟨RX7, "ask", "(IIZ)I"⟩
abbrev cX7_bring : ByteArray := prog_1_method_4_code
def yX7_bring : MethodName := ⟨RX7, "bring", "(II)I"⟩
abbrev cX7_label : ByteArray := prog_1_method_5_code
def yX7_label : MethodName := ⟨RX7, "label", "(II)I"⟩
abbrev cX7_takeDown : ByteArray := prog_1_method_6_code
def yX7_takeDown : MethodName := ⟨RX7, "takeDown", "(II)I"⟩
abbrev cX7_setNeeded : ByteArray := prog_1_method_7_code
def yX7_setNeeded : MethodName := ⟨RX7, "setNeeded", "(I)I"⟩
abbrev cX7_rewrite : ByteArray := prog_1_method_8_code
def yX7_rewrite : MethodName := ⟨RX7, "rewrite", "(III)I"⟩
abbrev cX7_vote : ByteArray := prog_1_method_9_code
def yX7_vote : MethodName := ⟨RX7, "vote", "(IIZ)I"⟩
abbrev cX7_endWeek : ByteArray := prog_1_method_10_code
def yX7_endWeek : MethodName := ⟨RX7, "endWeek", "()I"⟩
abbrev cX7_type : ByteArray := prog_1_method_11_code
def yX7_type : MethodName := ⟨RX7, "type", "(C)I"⟩
abbrev cX7_clearText : ByteArray := prog_1_method_12_code
def yX7_clearText : MethodName := ⟨RX7, "clearText", "()I"⟩
abbrev cX7_undo : ByteArray := prog_1_method_13_code
def yX7_undo : MethodName := ⟨RX7, "undo", "()I"⟩
abbrev cX7_keep : ByteArray := prog_1_method_14_code
def yX7_keep : MethodName := ⟨RX7, "keep", "()I"⟩
abbrev cX7_restore : ByteArray := prog_1_method_15_code
def yX7_restore : MethodName := ⟨RX7, "restore", "()I"⟩
abbrev cX7_labelOf : ByteArray := prog_1_method_16_code
def yX7_labelOf : MethodName := ⟨RX7, "labelOf", "(III)I"⟩
abbrev cX7_letter : ByteArray := prog_1_method_17_code
def yX7_letter : MethodName := ⟨RX7, "letter", "(III)I"⟩
abbrev cX7_rewriteOf : ByteArray := prog_1_method_18_code
def yX7_rewriteOf : MethodName := ⟨RX7, "rewriteOf", "(II)I"⟩
abbrev cX7_ranked : ByteArray := prog_1_method_19_code
def yX7_ranked : MethodName := ⟨RX7, "ranked", "(III)I"⟩
abbrev cX7_room : ByteArray := prog_1_method_20_code
def yX7_room : MethodName := ⟨RX7, "room", "(II)I"⟩
abbrev cX7_visitor : ByteArray := prog_1_method_21_code
def yX7_visitor : MethodName := ⟨RX7, "visitor", "(II)I"⟩
abbrev cX7_labelsWith : ByteArray := prog_1_method_22_code
def yX7_labelsWith : MethodName := ⟨RX7, "labelsWith", "(I)I"⟩
abbrev cX7_count : ByteArray := prog_1_method_23_code
def yX7_count : MethodName := ⟨RX7, "count", "(I)I"⟩
abbrev cX7_isWork : ByteArray := prog_1_method_24_code
def yX7_isWork : MethodName := ⟨RX7, "isWork", "(I)Z"⟩
abbrev cX7_isRoom : ByteArray := prog_1_method_25_code
def yX7_isRoom : MethodName := ⟨RX7, "isRoom", "(I)Z"⟩
abbrev cX7_isTongue : ByteArray := prog_1_method_26_code
def yX7_isTongue : MethodName := ⟨RX7, "isTongue", "(I)Z"⟩
abbrev cX7_isVisitor : ByteArray := prog_1_method_27_code
def yX7_isVisitor : MethodName := ⟨RX7, "isVisitor", "(I)Z"⟩
abbrev cX7_placeOf : ByteArray := prog_1_method_28_code
def yX7_placeOf : MethodName := ⟨RX7, "placeOf", "(II)I"⟩
abbrev cX7_readText : ByteArray := prog_1_method_29_code
def yX7_readText : MethodName := ⟨RX7, "readText", "()I"⟩
abbrev cX7_readTextFor : ByteArray := prog_1_method_30_code
def yX7_readTextFor : MethodName := ⟨RX7, "readTextFor", "(I)I"⟩
def RX8 : String := "VotedLabelsModel"
def TX8 : u_T := fun k => match k with
  | 0 => ("VotedLabelsModel", "s", "[I", true)
  | 1 => ("VotedLabelsModel", "states", "I", false)
  | 2 => ("VotedLabelsModel", "isKept", "Z", false)
  | 3 => ("VotedLabelsModel", "text", "[C", true)
  | 4 => ("VotedLabelsModel", "typed", "I", false)
  | _ => ("VotedLabelsModel", "common", "[I", true)
def tyX8 : Nat → FieldType := fun k => match k with
  | 0 => .array .int
  | 1 => .int
  | 2 => .boolean
  | 3 => .array .char
  | 4 => .int
  | _ => .array .int
abbrev wsX80 : List Cond := u_ws RX8 TX8 6
theorem nmX8 : ∀ a, a < 6 → ∀ b, b < 6 → a ≠ b → (TX8 a).2.1 ≠ (TX8 b).2.1 := by decide +kernel
theorem tyX8_ok : ∀ k, k < 6 → parseFieldDescriptor (TX8 k).2.2.1 = some (tyX8 k) := by decide +kernel
abbrev cX8_init : ByteArray := prog_10_method_1_code
def yX8_init : MethodName := ⟨RX8, "<init>", "()V"⟩
abbrev cX8_in : ByteArray := prog_10_method_2_code
def yX8_in : MethodName := ⟨RX8, "in", "(III)Z"⟩
abbrev cX8_copies : ByteArray := prog_10_method_3_code
def yX8_copies : MethodName := ⟨RX8, "copies", "(II)V"⟩
abbrev cX8_records : ByteArray := prog_10_method_4_code
def yX8_records : MethodName := ⟨RX8, "records", "()V"⟩
abbrev cX8_rowOf : ByteArray := prog_10_method_5_code
def yX8_rowOf : MethodName := ⟨RX8, "rowOf", "(II)I"⟩
abbrev cX8_paper : ByteArray := prog_10_method_6_code
def yX8_paper : MethodName := ⟨RX8, "paper", "(I)I"⟩
abbrev cX8_words : ByteArray := prog_10_method_7_code
def yX8_words : MethodName := ⟨RX8, "words", "(II)I"⟩
abbrev cX8_wordsOf : ByteArray := prog_10_method_8_code
def yX8_wordsOf : MethodName := ⟨RX8, "wordsOf", "(II)I"⟩
abbrev cX8_isLabel : ByteArray := prog_10_method_9_code
def yX8_isLabel : MethodName := ⟨RX8, "isLabel", "(II)Z"⟩
abbrev cX8_begin : ByteArray := prog_10_method_10_code
def yX8_begin : MethodName := ⟨RX8, "begin", "(III)I"⟩
abbrev cX8_end : ByteArray := prog_10_method_11_code
def yX8_end : MethodName := ⟨RX8, "end", "(III)I"⟩
abbrev cX8_areAlike : ByteArray := prog_10_method_12_code
def yX8_areAlike : MethodName := ⟨RX8, "areAlike", "(IIIIII)Z"⟩
abbrev cX8_cuts : ByteArray := prog_10_method_13_code
def yX8_cuts : MethodName := ⟨RX8, "cuts", "(II)Z"⟩
abbrev cX8_cutsAll : ByteArray := prog_10_method_14_code
def yX8_cutsAll : MethodName := ⟨RX8, "cutsAll", "(I)I"⟩
abbrev cX8_placeOf : ByteArray := prog_10_method_15_code
def yX8_placeOf : MethodName := ⟨RX8, "placeOf", "(I)I"⟩
abbrev cX8_votesFor : ByteArray := prog_10_method_16_code
def yX8_votesFor : MethodName := ⟨RX8, "votesFor", "(I)I"⟩
abbrev cX8_goes : ByteArray := prog_10_method_17_code
def yX8_goes : MethodName := ⟨RX8, "goes", "(I)V"⟩
abbrev cX8_best : ByteArray := prog_10_method_18_code
def yX8_best : MethodName := ⟨RX8, "best", "(II)I"⟩
abbrev cX8_fault : ByteArray := prog_10_method_19_code
def yX8_fault : MethodName := ⟨RX8, "fault", "()I"⟩
abbrev cX8_wordsTold : ByteArray := prog_10_method_20_code
def yX8_wordsTold : MethodName := ⟨RX8, "wordsTold", "()I"⟩
abbrev cX8_isTold : ByteArray := prog_10_method_21_code
def yX8_isTold : MethodName := ⟨RX8, "isTold", "(II)Z"⟩
abbrev cX8_lays : ByteArray := prog_10_method_22_code
def yX8_lays : MethodName := ⟨RX8, "lays", "(I)V"⟩
abbrev cX8_setLimit : ByteArray := prog_10_method_23_code
def yX8_setLimit : MethodName := ⟨RX8, "setLimit", "(II)I"⟩
abbrev cX8_bits : ByteArray := prog_10_method_24_code
def yX8_bits : MethodName := ⟨RX8, "bits", "(I)I"⟩
abbrev cX8_ask : ByteArray := prog_10_method_25_code
def yX8_ask : MethodName := ⟨RX8, "ask", "(IIZ)I"⟩
abbrev cX8_bring : ByteArray := prog_10_method_26_code
def yX8_bring : MethodName := ⟨RX8, "bring", "(II)I"⟩
abbrev cX8_isPair : ByteArray := prog_10_method_27_code
def yX8_isPair : MethodName := ⟨RX8, "isPair", "(II)Z"⟩
abbrev cX8_takeDown : ByteArray := prog_10_method_28_code
def yX8_takeDown : MethodName := ⟨RX8, "takeDown", "(II)I"⟩
abbrev cX8_setNeeded : ByteArray := prog_10_method_29_code
def yX8_setNeeded : MethodName := ⟨RX8, "setNeeded", "(I)I"⟩
abbrev cX8_label : ByteArray := prog_10_method_30_code
def yX8_label : MethodName := ⟨RX8, "label", "(II)I"⟩
abbrev cX8_own : ByteArray := prog_10_method_31_code
def yX8_own : MethodName := ⟨RX8, "own", "(II)I"⟩
abbrev cX8_free : ByteArray := prog_10_method_32_code
def yX8_free : MethodName := ⟨RX8, "free", "()I"⟩
abbrev cX8_rewrite : ByteArray := prog_10_method_33_code
def yX8_rewrite : MethodName := ⟨RX8, "rewrite", "(III)I"⟩
abbrev cX8_vote : ByteArray := prog_10_method_34_code
def yX8_vote : MethodName := ⟨RX8, "vote", "(IIZ)I"⟩
abbrev cX8_endWeek : ByteArray := prog_10_method_35_code
def yX8_endWeek : MethodName := ⟨RX8, "endWeek", "()I"⟩
abbrev cX8_type : ByteArray := prog_10_method_36_code
def yX8_type : MethodName := ⟨RX8, "type", "(C)I"⟩
abbrev cX8_clearText : ByteArray := prog_10_method_37_code
def yX8_clearText : MethodName := ⟨RX8, "clearText", "()I"⟩
abbrev cX8_labels : ByteArray := prog_10_method_38_code
def yX8_labels : MethodName := ⟨RX8, "labels", "()I"⟩
abbrev cX8_undo : ByteArray := prog_10_method_39_code
def yX8_undo : MethodName := ⟨RX8, "undo", "()I"⟩
abbrev cX8_keep : ByteArray := prog_10_method_40_code
def yX8_keep : MethodName := ⟨RX8, "keep", "()I"⟩
abbrev cX8_restore : ByteArray := prog_10_method_41_code
def yX8_restore : MethodName := ⟨RX8, "restore", "()I"⟩
abbrev cX8_labelOf : ByteArray := prog_10_method_42_code
def yX8_labelOf : MethodName := ⟨RX8, "labelOf", "(III)I"⟩
abbrev cX8_letter : ByteArray := prog_10_method_43_code
def yX8_letter : MethodName := ⟨RX8, "letter", "(III)I"⟩
abbrev cX8_apart : ByteArray := prog_10_method_44_code
def yX8_apart : MethodName := ⟨RX8, "apart", "(IIII)I"⟩
abbrev cX8_rewriteOf : ByteArray := prog_10_method_45_code
def yX8_rewriteOf : MethodName := ⟨RX8, "rewriteOf", "(II)I"⟩
abbrev cX8_ranked : ByteArray := prog_10_method_46_code
def yX8_ranked : MethodName := ⟨RX8, "ranked", "(III)I"⟩
abbrev cX8_labelsOf : ByteArray := prog_10_method_47_code
def yX8_labelsOf : MethodName := ⟨RX8, "labelsOf", "(II)I"⟩
abbrev cX8_worksOf : ByteArray := prog_10_method_48_code
def yX8_worksOf : MethodName := ⟨RX8, "worksOf", "(I)I"⟩
abbrev cX8_room : ByteArray := prog_10_method_49_code
def yX8_room : MethodName := ⟨RX8, "room", "(II)I"⟩
abbrev cX8_rewritesOf : ByteArray := prog_10_method_50_code
def yX8_rewritesOf : MethodName := ⟨RX8, "rewritesOf", "(I)I"⟩
abbrev cX8_votesOf : ByteArray := prog_10_method_51_code
def yX8_votesOf : MethodName := ⟨RX8, "votesOf", "(I)I"⟩
abbrev cX8_standing : ByteArray := prog_10_method_52_code
def yX8_standing : MethodName := ⟨RX8, "standing", "(I)I"⟩
abbrev cX8_visitor : ByteArray := prog_10_method_53_code
def yX8_visitor : MethodName := ⟨RX8, "visitor", "(II)I"⟩
abbrev cX8_hasTold : ByteArray := prog_10_method_54_code
def yX8_hasTold : MethodName := ⟨RX8, "hasTold", "(I)Z"⟩
abbrev cX8_labelsWith : ByteArray := prog_10_method_55_code
def yX8_labelsWith : MethodName := ⟨RX8, "labelsWith", "(I)I"⟩
abbrev cX8_count : ByteArray := prog_10_method_56_code
def yX8_count : MethodName := ⟨RX8, "count", "(I)I"⟩
abbrev cX8_allVotes : ByteArray := prog_10_method_57_code
def yX8_allVotes : MethodName := ⟨RX8, "allVotes", "()I"⟩
def RJ6 : String := "java/lang/Integer"
def TJ6 : u_T := fun k => match k with
  | _ => ("", "", "", false)
def tyJ6 : Nat → FieldType := fun k => match k with
  | _ => .int
abbrev wsJ60 : List Cond := u_ws RJ6 TJ6 0
theorem nmJ6 : ∀ a, a < 0 → ∀ b, b < 0 → a ≠ b → (TJ6 a).2.1 ≠ (TJ6 b).2.1 := by decide +kernel
theorem tyJ6_ok : ∀ k, k < 0 → parseFieldDescriptor (TJ6 k).2.2.1 = some (tyJ6 k) := by decide +kernel
abbrev cJ6_bitCount_0f7a4 : ByteArray := prog_11_method_49_code
def yJ6_bitCount_0f7a4 : MethodName := ⟨RJ6, "bitCount", "(I)I"⟩
def RJ9 : String := "java/lang/Math"
def TJ9 : u_T := fun k => match k with
  | _ => ("", "", "", false)
def tyJ9 : Nat → FieldType := fun k => match k with
  | _ => .int
abbrev wsJ90 : List Cond := u_ws RJ9 TJ9 0
theorem nmJ9 : ∀ a, a < 0 → ∀ b, b < 0 → a ≠ b → (TJ9 a).2.1 ≠ (TJ9 b).2.1 := by decide +kernel
theorem tyJ9_ok : ∀ k, k < 0 → parseFieldDescriptor (TJ9 k).2.2.1 = some (tyJ9 k) := by decide +kernel
abbrev cJ9_max_7cf53 : ByteArray := prog_12_method_65_code
def yJ9_max_7cf53 : MethodName := ⟨RJ9, "max", "(II)I"⟩
def RJ10 : String := "java/lang/System"
def TJ10 : u_T := fun k => match k with
  | _ => ("", "", "", false)
def tyJ10 : Nat → FieldType := fun k => match k with
  | _ => .int
abbrev wsJ100 : List Cond := u_ws RJ10 TJ10 0
theorem nmJ10 : ∀ a, a < 0 → ∀ b, b < 0 → a ≠ b → (TJ10 a).2.1 ≠ (TJ10 b).2.1 := by decide +kernel
theorem tyJ10_ok : ∀ k, k < 0 → parseFieldDescriptor (TJ10 k).2.2.1 = some (tyJ10 k) := by decide +kernel
def RJ7 : String := "java/util/Arrays"
def TJ7 : u_T := fun k => match k with
  | _ => ("", "", "", false)
def tyJ7 : Nat → FieldType := fun k => match k with
  | _ => .int
abbrev wsJ70 : List Cond := u_ws RJ7 TJ7 0
theorem nmJ7 : ∀ a, a < 0 → ∀ b, b < 0 → a ≠ b → (TJ7 a).2.1 ≠ (TJ7 b).2.1 := by decide +kernel
theorem tyJ7_ok : ∀ k, k < 0 → parseFieldDescriptor (TJ7 k).2.2.1 = some (tyJ7 k) := by decide +kernel
abbrev cJ7_fill_53178 : ByteArray := prog_14_method_103_code
def yJ7_fill_53178 : MethodName := ⟨RJ7, "fill", "([II)V"⟩
def RL : String := "VotedLabelsLaw"
abbrev cL_law : ByteArray := code
def yL_law : MethodName := ⟨RL, "law", "([I)Z"⟩
theorem inX0 : ∀ w ∈ wsX00, w ∈ lw_tbl := by decide +kernel
theorem inX1 : ∀ w ∈ wsX10, w ∈ lw_tbl := by decide +kernel
theorem inX2 : ∀ w ∈ wsX20, w ∈ lw_tbl := by decide +kernel
theorem inX3 : ∀ w ∈ wsX30, w ∈ lw_tbl := by decide +kernel
theorem inX4 : ∀ w ∈ wsX40, w ∈ lw_tbl := by decide +kernel
theorem inX5 : ∀ w ∈ wsX50, w ∈ lw_tbl := by decide +kernel
theorem inX6 : ∀ w ∈ wsX60, w ∈ lw_tbl := by decide +kernel
theorem inX7 : ∀ w ∈ wsX70, w ∈ lw_tbl := by decide +kernel
theorem inX8 : ∀ w ∈ wsX80, w ∈ lw_tbl := by decide +kernel
theorem inJ6 : ∀ w ∈ wsJ60, w ∈ lw_tbl := by decide +kernel
theorem inJ9 : ∀ w ∈ wsJ90, w ∈ lw_tbl := by decide +kernel
theorem inJ10 : ∀ w ∈ wsJ100, w ∈ lw_tbl := by decide +kernel
theorem inJ7 : ∀ w ∈ wsJ70, w ∈ lw_tbl := by decide +kernel
abbrev vwCl : List vw_C := [(RX0, TX0, 3), (RX1, TX1, 4), (RX2, TX2, 6), (RX3, TX3, 3), (RX4, TX4, 11), (RX5, TX5, 2), (RX6, TX6, 4), (RX7, TX7, 7), (RX8, TX8, 6)]

