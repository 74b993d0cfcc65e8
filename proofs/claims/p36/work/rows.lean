section
-- ===== PART A: goes FIRST, ahead of the names: the tables' words, and 'selects' of the private methods out of them =====
/-- a private method of a class that the tables say can be made, by its rows of tables_1 -/
def lw_okq (q : MethodName × Nat) : Prop := (q.1.cls ≠ "java/lang/invoke/MethodHandle" ∧ q.1.cls ≠ "java/lang/invoke/VarHandle") ∧ Cond.instantiable q.1.cls q.2 ∈ tables_1 ∧ Cond.privateMethod q.1 ∈ tables_1 ∧ Cond.instanceMethod q.1 ∈ tables_1
theorem lw_p0 : lw_okq (⟨"java/lang/Throwable", "fillInStackTrace", "(I)Ljava/lang/Throwable;"⟩, 6) := ⟨⟨by decide +kernel, by decide +kernel⟩, List.mem_of_getElem? (i := 300) (by decide +kernel), List.mem_of_getElem? (i := 298) (by decide +kernel), List.mem_of_getElem? (i := 299) (by decide +kernel)⟩
theorem lw_p1 : lw_okq (⟨"MoraineSort", "needRoom", "()V"⟩, 14) := ⟨⟨by decide +kernel, by decide +kernel⟩, List.mem_of_getElem? (i := 18) (by decide +kernel), List.mem_of_getElem? (i := 338) (by decide +kernel), List.mem_of_getElem? (i := 339) (by decide +kernel)⟩
theorem lw_p2 : lw_okq (⟨"MoraineSort", "rowOf", "(I)LMoraineSort$Row;"⟩, 14) := ⟨⟨by decide +kernel, by decide +kernel⟩, List.mem_of_getElem? (i := 18) (by decide +kernel), List.mem_of_getElem? (i := 366) (by decide +kernel), List.mem_of_getElem? (i := 367) (by decide +kernel)⟩
theorem lw_p3 : lw_okq (⟨"MoraineSort", "keysIn", "(LMoraineSort$Row;)I"⟩, 14) := ⟨⟨by decide +kernel, by decide +kernel⟩, List.mem_of_getElem? (i := 18) (by decide +kernel), List.mem_of_getElem? (i := 455) (by decide +kernel), List.mem_of_getElem? (i := 456) (by decide +kernel)⟩
theorem lw_p4 : lw_okq (⟨"MoraineSort$Plan", "runByReplacing", "(LMoraineSort$Row;ZI)V"⟩, 8) := ⟨⟨by decide +kernel, by decide +kernel⟩, List.mem_of_getElem? (i := 28) (by decide +kernel), List.mem_of_getElem? (i := 497) (by decide +kernel), List.mem_of_getElem? (i := 498) (by decide +kernel)⟩
theorem lw_p5 : lw_okq (⟨"MoraineSort$Heap", "sinkFromTop", "(I)V"⟩, 2) := ⟨⟨by decide +kernel, by decide +kernel⟩, List.mem_of_getElem? (i := 48) (by decide +kernel), List.mem_of_getElem? (i := 520) (by decide +kernel), List.mem_of_getElem? (i := 521) (by decide +kernel)⟩
theorem lw_p6 : lw_okq (⟨"MoraineSort$Plan", "runByLoading", "(II)V"⟩, 8) := ⟨⟨by decide +kernel, by decide +kernel⟩, List.mem_of_getElem? (i := 28) (by decide +kernel), List.mem_of_getElem? (i := 529) (by decide +kernel), List.mem_of_getElem? (i := 530) (by decide +kernel)⟩
theorem lw_p7 : lw_okq (⟨"MoraineSort$Plan", "countRuns", "(I)V"⟩, 8) := ⟨⟨by decide +kernel, by decide +kernel⟩, List.mem_of_getElem? (i := 28) (by decide +kernel), List.mem_of_getElem? (i := 536) (by decide +kernel), List.mem_of_getElem? (i := 537) (by decide +kernel)⟩
theorem lw_p8 : lw_okq (⟨"MoraineSort$Plan", "mergeByLeast", "(I)V"⟩, 8) := ⟨⟨by decide +kernel, by decide +kernel⟩, List.mem_of_getElem? (i := 28) (by decide +kernel), List.mem_of_getElem? (i := 556) (by decide +kernel), List.mem_of_getElem? (i := 557) (by decide +kernel)⟩
theorem lw_p9 : lw_okq (⟨"MoraineSort$Plan", "mergeLeast", "(I)V"⟩, 8) := ⟨⟨by decide +kernel, by decide +kernel⟩, List.mem_of_getElem? (i := 28) (by decide +kernel), List.mem_of_getElem? (i := 561) (by decide +kernel), List.mem_of_getElem? (i := 562) (by decide +kernel)⟩
theorem lw_p10 : lw_okq (⟨"MoraineSort$Plan", "noteMerge", "(II)V"⟩, 8) := ⟨⟨by decide +kernel, by decide +kernel⟩, List.mem_of_getElem? (i := 28) (by decide +kernel), List.mem_of_getElem? (i := 573) (by decide +kernel), List.mem_of_getElem? (i := 574) (by decide +kernel)⟩
theorem lw_p11 : lw_okq (⟨"MoraineSort$Plan", "mergeByLevels", "(I)V"⟩, 8) := ⟨⟨by decide +kernel, by decide +kernel⟩, List.mem_of_getElem? (i := 28) (by decide +kernel), List.mem_of_getElem? (i := 577) (by decide +kernel), List.mem_of_getElem? (i := 578) (by decide +kernel)⟩
theorem lw_p12 : lw_okq (⟨"MoraineSort$Plan", "mergeLevel", "(I)V"⟩, 8) := ⟨⟨by decide +kernel, by decide +kernel⟩, List.mem_of_getElem? (i := 28) (by decide +kernel), List.mem_of_getElem? (i := 581) (by decide +kernel), List.mem_of_getElem? (i := 582) (by decide +kernel)⟩
theorem lw_p13 : lw_okq (⟨"MoraineSort", "giveSorted", "(LMoraineSort$Row;Z)V"⟩, 14) := ⟨⟨by decide +kernel, by decide +kernel⟩, List.mem_of_getElem? (i := 18) (by decide +kernel), List.mem_of_getElem? (i := 598) (by decide +kernel), List.mem_of_getElem? (i := 599) (by decide +kernel)⟩
theorem lw_p14 : lw_okq (⟨"MoraineSort", "land", "()I"⟩, 14) := ⟨⟨by decide +kernel, by decide +kernel⟩, List.mem_of_getElem? (i := 18) (by decide +kernel), List.mem_of_getElem? (i := 611) (by decide +kernel), List.mem_of_getElem? (i := 612) (by decide +kernel)⟩
theorem lw_p15 : lw_okq (⟨"MoraineSort$Tournament", "playAt", "(III)I"⟩, 10) := ⟨⟨by decide +kernel, by decide +kernel⟩, List.mem_of_getElem? (i := 93) (by decide +kernel), List.mem_of_getElem? (i := 668) (by decide +kernel), List.mem_of_getElem? (i := 669) (by decide +kernel)⟩
def lw_privs_1 : List (MethodName × Nat) := [(⟨"java/lang/Throwable", "fillInStackTrace", "(I)Ljava/lang/Throwable;"⟩, 6), (⟨"MoraineSort", "needRoom", "()V"⟩, 14), (⟨"MoraineSort", "rowOf", "(I)LMoraineSort$Row;"⟩, 14), (⟨"MoraineSort", "keysIn", "(LMoraineSort$Row;)I"⟩, 14), (⟨"MoraineSort$Plan", "runByReplacing", "(LMoraineSort$Row;ZI)V"⟩, 8), (⟨"MoraineSort$Heap", "sinkFromTop", "(I)V"⟩, 2), (⟨"MoraineSort$Plan", "runByLoading", "(II)V"⟩, 8), (⟨"MoraineSort$Plan", "countRuns", "(I)V"⟩, 8), (⟨"MoraineSort$Plan", "mergeByLeast", "(I)V"⟩, 8), (⟨"MoraineSort$Plan", "mergeLeast", "(I)V"⟩, 8), (⟨"MoraineSort$Plan", "noteMerge", "(II)V"⟩, 8), (⟨"MoraineSort$Plan", "mergeByLevels", "(I)V"⟩, 8), (⟨"MoraineSort$Plan", "mergeLevel", "(I)V"⟩, 8), (⟨"MoraineSort", "giveSorted", "(LMoraineSort$Row;Z)V"⟩, 14), (⟨"MoraineSort", "land", "()I"⟩, 14), (⟨"MoraineSort$Tournament", "playAt", "(III)I"⟩, 10)]
theorem lw_r1 : ∀ q ∈ lw_privs_1, lw_okq q := List.forall_mem_cons.mpr ⟨lw_p0, List.forall_mem_cons.mpr ⟨lw_p1, List.forall_mem_cons.mpr ⟨lw_p2, List.forall_mem_cons.mpr ⟨lw_p3, List.forall_mem_cons.mpr ⟨lw_p4, List.forall_mem_cons.mpr ⟨lw_p5, List.forall_mem_cons.mpr ⟨lw_p6, List.forall_mem_cons.mpr ⟨lw_p7, List.forall_mem_cons.mpr ⟨lw_p8, List.forall_mem_cons.mpr ⟨lw_p9, List.forall_mem_cons.mpr ⟨lw_p10, List.forall_mem_cons.mpr ⟨lw_p11, List.forall_mem_cons.mpr ⟨lw_p12, List.forall_mem_cons.mpr ⟨lw_p13, List.forall_mem_cons.mpr ⟨lw_p14, List.forall_mem_cons.mpr ⟨lw_p15, fun _ h => absurd h List.not_mem_nil⟩⟩⟩⟩⟩⟩⟩⟩⟩⟩⟩⟩⟩⟩⟩⟩
theorem lw_p16 : lw_okq (⟨"MoraineSort$Tournament", "isWinning", "(II)Z"⟩, 10) := ⟨⟨by decide +kernel, by decide +kernel⟩, List.mem_of_getElem? (i := 93) (by decide +kernel), List.mem_of_getElem? (i := 672) (by decide +kernel), List.mem_of_getElem? (i := 673) (by decide +kernel)⟩
theorem lw_p17 : lw_okq (⟨"MoraineSort$Tournament", "isOver", "(I)Z"⟩, 10) := ⟨⟨by decide +kernel, by decide +kernel⟩, List.mem_of_getElem? (i := 93) (by decide +kernel), List.mem_of_getElem? (i := 676) (by decide +kernel), List.mem_of_getElem? (i := 677) (by decide +kernel)⟩
theorem lw_p18 : lw_okq (⟨"MoraineSort$Tournament", "keyOf", "(I)I"⟩, 10) := ⟨⟨by decide +kernel, by decide +kernel⟩, List.mem_of_getElem? (i := 93) (by decide +kernel), List.mem_of_getElem? (i := 681) (by decide +kernel), List.mem_of_getElem? (i := 682) (by decide +kernel)⟩
theorem lw_p19 : lw_okq (⟨"MoraineSort", "needTournament", "()V"⟩, 14) := ⟨⟨by decide +kernel, by decide +kernel⟩, List.mem_of_getElem? (i := 18) (by decide +kernel), List.mem_of_getElem? (i := 694) (by decide +kernel), List.mem_of_getElem? (i := 695) (by decide +kernel)⟩
theorem lw_p20 : lw_okq (⟨"MoraineSort", "joinByMerging", "(LMoraineSort$Row;LMoraineSort$Row;I)V"⟩, 14) := ⟨⟨by decide +kernel, by decide +kernel⟩, List.mem_of_getElem? (i := 18) (by decide +kernel), List.mem_of_getElem? (i := 719) (by decide +kernel), List.mem_of_getElem? (i := 720) (by decide +kernel)⟩
theorem lw_p21 : lw_okq (⟨"MoraineSort", "spill", "(I)I"⟩, 14) := ⟨⟨by decide +kernel, by decide +kernel⟩, List.mem_of_getElem? (i := 18) (by decide +kernel), List.mem_of_getElem? (i := 729) (by decide +kernel), List.mem_of_getElem? (i := 730) (by decide +kernel)⟩
theorem lw_p22 : lw_okq (⟨"MoraineSort", "givePairs", "(LMoraineSort$Row;ILMoraineSort$Row;II)V"⟩, 14) := ⟨⟨by decide +kernel, by decide +kernel⟩, List.mem_of_getElem? (i := 18) (by decide +kernel), List.mem_of_getElem? (i := 733) (by decide +kernel), List.mem_of_getElem? (i := 734) (by decide +kernel)⟩
theorem lw_p23 : lw_okq (⟨"MoraineSort", "needFit", "()V"⟩, 14) := ⟨⟨by decide +kernel, by decide +kernel⟩, List.mem_of_getElem? (i := 18) (by decide +kernel), List.mem_of_getElem? (i := 744) (by decide +kernel), List.mem_of_getElem? (i := 745) (by decide +kernel)⟩
theorem lw_p24 : lw_okq (⟨"MoraineSort", "joinBySplitting", "(LMoraineSort$Row;LMoraineSort$Row;)V"⟩, 14) := ⟨⟨by decide +kernel, by decide +kernel⟩, List.mem_of_getElem? (i := 18) (by decide +kernel), List.mem_of_getElem? (i := 753) (by decide +kernel), List.mem_of_getElem? (i := 754) (by decide +kernel)⟩
theorem lw_p25 : lw_okq (⟨"MoraineSort$Splitting", "fill", "(LMoraineSort$Row;LMoraineSort$Row;II)V"⟩, 5) := ⟨⟨by decide +kernel, by decide +kernel⟩, List.mem_of_getElem? (i := 177) (by decide +kernel), List.mem_of_getElem? (i := 769) (by decide +kernel), List.mem_of_getElem? (i := 770) (by decide +kernel)⟩
theorem lw_p26 : lw_okq (⟨"MoraineSort", "giveGroups", "(LMoraineSort$Row;I)V"⟩, 14) := ⟨⟨by decide +kernel, by decide +kernel⟩, List.mem_of_getElem? (i := 18) (by decide +kernel), List.mem_of_getElem? (i := 791) (by decide +kernel), List.mem_of_getElem? (i := 792) (by decide +kernel)⟩
theorem lw_p27 : lw_okq (⟨"MoraineSort", "costOf", "(LMoraineSort$Row;ZZI)I"⟩, 14) := ⟨⟨by decide +kernel, by decide +kernel⟩, List.mem_of_getElem? (i := 18) (by decide +kernel), List.mem_of_getElem? (i := 805) (by decide +kernel), List.mem_of_getElem? (i := 806) (by decide +kernel)⟩
theorem lw_p28 : lw_okq (⟨"MoraineSort", "foldSort", "(J)J"⟩, 14) := ⟨⟨by decide +kernel, by decide +kernel⟩, List.mem_of_getElem? (i := 18) (by decide +kernel), List.mem_of_getElem? (i := 835) (by decide +kernel), List.mem_of_getElem? (i := 836) (by decide +kernel)⟩
theorem lw_p29 : lw_okq (⟨"MoraineSort", "foldFile", "(JLMoraineSort$Row;)J"⟩, 14) := ⟨⟨by decide +kernel, by decide +kernel⟩, List.mem_of_getElem? (i := 18) (by decide +kernel), List.mem_of_getElem? (i := 840) (by decide +kernel), List.mem_of_getElem? (i := 841) (by decide +kernel)⟩
def lw_privs_2 : List (MethodName × Nat) := [(⟨"MoraineSort$Tournament", "isWinning", "(II)Z"⟩, 10), (⟨"MoraineSort$Tournament", "isOver", "(I)Z"⟩, 10), (⟨"MoraineSort$Tournament", "keyOf", "(I)I"⟩, 10), (⟨"MoraineSort", "needTournament", "()V"⟩, 14), (⟨"MoraineSort", "joinByMerging", "(LMoraineSort$Row;LMoraineSort$Row;I)V"⟩, 14), (⟨"MoraineSort", "spill", "(I)I"⟩, 14), (⟨"MoraineSort", "givePairs", "(LMoraineSort$Row;ILMoraineSort$Row;II)V"⟩, 14), (⟨"MoraineSort", "needFit", "()V"⟩, 14), (⟨"MoraineSort", "joinBySplitting", "(LMoraineSort$Row;LMoraineSort$Row;)V"⟩, 14), (⟨"MoraineSort$Splitting", "fill", "(LMoraineSort$Row;LMoraineSort$Row;II)V"⟩, 5), (⟨"MoraineSort", "giveGroups", "(LMoraineSort$Row;I)V"⟩, 14), (⟨"MoraineSort", "costOf", "(LMoraineSort$Row;ZZI)I"⟩, 14), (⟨"MoraineSort", "foldSort", "(J)J"⟩, 14), (⟨"MoraineSort", "foldFile", "(JLMoraineSort$Row;)J"⟩, 14)]
theorem lw_r2 : ∀ q ∈ lw_privs_2, lw_okq q := List.forall_mem_cons.mpr ⟨lw_p16, List.forall_mem_cons.mpr ⟨lw_p17, List.forall_mem_cons.mpr ⟨lw_p18, List.forall_mem_cons.mpr ⟨lw_p19, List.forall_mem_cons.mpr ⟨lw_p20, List.forall_mem_cons.mpr ⟨lw_p21, List.forall_mem_cons.mpr ⟨lw_p22, List.forall_mem_cons.mpr ⟨lw_p23, List.forall_mem_cons.mpr ⟨lw_p24, List.forall_mem_cons.mpr ⟨lw_p25, List.forall_mem_cons.mpr ⟨lw_p26, List.forall_mem_cons.mpr ⟨lw_p27, List.forall_mem_cons.mpr ⟨lw_p28, List.forall_mem_cons.mpr ⟨lw_p29, fun _ h => absurd h List.not_mem_nil⟩⟩⟩⟩⟩⟩⟩⟩⟩⟩⟩⟩⟩⟩
def lw_privs : List (MethodName × Nat) := lw_privs_1 ++ (lw_privs_2)
def lw_tbl : List Cond := k2_sels lw_privs ++ tables_1
theorem lw_privs_ok : ∀ q ∈ lw_privs, lw_okq q := by
  show ∀ q ∈ lw_privs_1 ++ (lw_privs_2), lw_okq q
  exact List.forall_mem_append.mpr ⟨lw_r1, lw_r2⟩
/-- the streams that the claim lets the run draw from -/
abbrev lw_cs : List Choice := [Jvm.Choice.named "NaN.bits"]
theorem lw_bits : nanBits ∈ lw_cs := by first | decide | exact List.mem_cons_self | simp [lw_cs, nanBits]
-- ===== end of PART A =====
def RX0 : String := "MoraineSort$Heap"
def TX0 : u_T := fun k => match k with
  | 0 => ("MoraineSort$Heap", "held", "[I", true)
  | _ => ("MoraineSort$Heap", "count", "I", false)
def tyX0 : Nat → FieldType := fun k => match k with
  | 0 => .array .int
  | _ => .int
abbrev wsX00 : List Cond := u_ws RX0 TX0 2
theorem nmX0 : ∀ a, a < 2 → ∀ b, b < 2 → a ≠ b → (TX0 a).2.1 ≠ (TX0 b).2.1 := by decide +kernel
theorem tyX0_ok : ∀ k, k < 2 → parseFieldDescriptor (TX0 k).2.2.1 = some (tyX0 k) := by decide +kernel
abbrev cX0_init : ByteArray := prog_2_method_1_code
def yX0_init : MethodName := ⟨RX0, "<init>", "()V"⟩
abbrev cX0_empty : ByteArray := prog_2_method_2_code
def yX0_empty : MethodName := ⟨RX0, "empty", "()V"⟩
abbrev cX0_push : ByteArray := prog_2_method_3_code
def yX0_push : MethodName := ⟨RX0, "push", "(I)V"⟩
abbrev cX0_pull : ByteArray := prog_2_method_4_code
def yX0_pull : MethodName := ⟨RX0, "pull", "()I"⟩
abbrev cX0_sinkFromTop : ByteArray := prog_2_method_5_code
def yX0_sinkFromTop : MethodName := ⟨RX0, "sinkFromTop", "(I)V"⟩
def RX1 : String := "MoraineSort$KeySet"
def TX1 : u_T := fun k => match k with
  | _ => ("MoraineSort$KeySet", "words", "[J", true)
def tyX1 : Nat → FieldType := fun k => match k with
  | _ => .array .long
abbrev wsX10 : List Cond := u_ws RX1 TX1 1
theorem nmX1 : ∀ a, a < 1 → ∀ b, b < 1 → a ≠ b → (TX1 a).2.1 ≠ (TX1 b).2.1 := by decide +kernel
theorem tyX1_ok : ∀ k, k < 1 → parseFieldDescriptor (TX1 k).2.2.1 = some (tyX1 k) := by decide +kernel
abbrev cX1_init : ByteArray := prog_3_method_1_code
def yX1_init : MethodName := ⟨RX1, "<init>", "()V"⟩
abbrev cX1_clear : ByteArray := prog_3_method_2_code
def yX1_clear : MethodName := ⟨RX1, "clear", "()V"⟩
abbrev cX1_has : ByteArray := prog_3_method_3_code
def yX1_has : MethodName := ⟨RX1, "has", "(I)Z"⟩
abbrev cX1_add : ByteArray := prog_3_method_4_code
def yX1_add : MethodName := ⟨RX1, "add", "(I)Z"⟩
abbrev cX1_wordOf : ByteArray := prog_3_method_5_code
def yX1_wordOf : MethodName := ⟨RX1, "wordOf", "(I)I"⟩
abbrev cX1_bitOf : ByteArray := prog_3_method_6_code
def yX1_bitOf : MethodName := ⟨RX1, "bitOf", "(I)J"⟩
def RX2 : String := "MoraineSort$Numbers"
def TX2 : u_T := fun k => match k with
  | 0 => ("MoraineSort$Numbers", "values", "[I", true)
  | _ => ("MoraineSort$Numbers", "count", "I", false)
def tyX2 : Nat → FieldType := fun k => match k with
  | 0 => .array .int
  | _ => .int
abbrev wsX20 : List Cond := u_ws RX2 TX2 2
theorem nmX2 : ∀ a, a < 2 → ∀ b, b < 2 → a ≠ b → (TX2 a).2.1 ≠ (TX2 b).2.1 := by decide +kernel
theorem tyX2_ok : ∀ k, k < 2 → parseFieldDescriptor (TX2 k).2.2.1 = some (tyX2 k) := by decide +kernel
abbrev cX2_init : ByteArray := prog_4_method_1_code
def yX2_init : MethodName := ⟨RX2, "<init>", "()V"⟩
abbrev cX2_empty : ByteArray := prog_4_method_2_code
def yX2_empty : MethodName := ⟨RX2, "empty", "()V"⟩
abbrev cX2_count : ByteArray := prog_4_method_3_code
def yX2_count : MethodName := ⟨RX2, "count", "()I"⟩
abbrev cX2_has : ByteArray := prog_4_method_4_code
def yX2_has : MethodName := ⟨RX2, "has", "(I)Z"⟩
abbrev cX2_valueAt : ByteArray := prog_4_method_5_code
def yX2_valueAt : MethodName := ⟨RX2, "valueAt", "(I)I"⟩
abbrev cX2_add : ByteArray := prog_4_method_6_code
def yX2_add : MethodName := ⟨RX2, "add", "(I)V"⟩
abbrev cX2_addAll : ByteArray := prog_4_method_7_code
def yX2_addAll : MethodName := ⟨RX2, "addAll", "(LMoraineSort$Numbers;)V"⟩
abbrev cX2_set : ByteArray := prog_4_method_8_code
def yX2_set : MethodName := ⟨RX2, "set", "(II)V"⟩
abbrev cX2_cutTo : ByteArray := prog_4_method_9_code
def yX2_cutTo : MethodName := ⟨RX2, "cutTo", "(I)V"⟩
abbrev cX2_takeAt : ByteArray := prog_4_method_10_code
def yX2_takeAt : MethodName := ⟨RX2, "takeAt", "(I)I"⟩
abbrev cX2_leastPlace : ByteArray := prog_4_method_11_code
def yX2_leastPlace : MethodName := ⟨RX2, "leastPlace", "()I"⟩
def RX3 : String := "MoraineSort$Outcome"
def TX3 : u_T := fun k => match k with
  | 0 => ("MoraineSort$Outcome", "out", "LMoraineSort$Row;", true)
  | 1 => ("MoraineSort$Outcome", "made", "I", false)
  | 2 => ("MoraineSort$Outcome", "readPages", "I", false)
  | 3 => ("MoraineSort$Outcome", "writtenPages", "I", false)
  | _ => ("MoraineSort$Outcome", "spiltPages", "I", false)
def tyX3 : Nat → FieldType := fun k => match k with
  | 0 => .object "MoraineSort$Row"
  | 1 => .int
  | 2 => .int
  | 3 => .int
  | _ => .int
abbrev wsX30 : List Cond := u_ws RX3 TX3 5
theorem nmX3 : ∀ a, a < 5 → ∀ b, b < 5 → a ≠ b → (TX3 a).2.1 ≠ (TX3 b).2.1 := by decide +kernel
theorem tyX3_ok : ∀ k, k < 5 → parseFieldDescriptor (TX3 k).2.2.1 = some (tyX3 k) := by decide +kernel
abbrev cX3_init : ByteArray := prog_5_method_1_code
def yX3_init : MethodName := ⟨RX3, "<init>", "()V"⟩
abbrev cX3_clear : ByteArray := prog_5_method_2_code
def yX3_clear : MethodName := ⟨RX3, "clear", "()V"⟩
abbrev cX3_give : ByteArray := prog_5_method_3_code
def yX3_give : MethodName := ⟨RX3, "give", "(II)V"⟩
abbrev cX3_givePair : ByteArray := prog_5_method_4_code
def yX3_givePair : MethodName := ⟨RX3, "givePair", "(LMoraineSort$Row;ILMoraineSort$Row;I)V"⟩
def RX4 : String := "MoraineSort$Plan"
def TX4 : u_T := fun k => match k with
  | 0 => ("MoraineSort$Plan", "runSizes", "LMoraineSort$Numbers;", true)
  | 1 => ("MoraineSort$Plan", "mergeRuns", "LMoraineSort$Numbers;", true)
  | 2 => ("MoraineSort$Plan", "mergeSizes", "LMoraineSort$Numbers;", true)
  | 3 => ("MoraineSort$Plan", "readPages", "I", false)
  | 4 => ("MoraineSort$Plan", "writtenPages", "I", false)
  | 5 => ("MoraineSort$Plan", "row", "LMoraineSort$Numbers;", true)
  | 6 => ("MoraineSort$Plan", "heap", "LMoraineSort$Heap;", true)
  | _ => ("MoraineSort$Plan", "page", "I", false)
def tyX4 : Nat → FieldType := fun k => match k with
  | 0 => .object "MoraineSort$Numbers"
  | 1 => .object "MoraineSort$Numbers"
  | 2 => .object "MoraineSort$Numbers"
  | 3 => .int
  | 4 => .int
  | 5 => .object "MoraineSort$Numbers"
  | 6 => .object "MoraineSort$Heap"
  | _ => .int
abbrev wsX40 : List Cond := u_ws RX4 TX4 8
theorem nmX4 : ∀ a, a < 8 → ∀ b, b < 8 → a ≠ b → (TX4 a).2.1 ≠ (TX4 b).2.1 := by decide +kernel
theorem tyX4_ok : ∀ k, k < 8 → parseFieldDescriptor (TX4 k).2.2.1 = some (tyX4 k) := by decide +kernel
abbrev cX4_init : ByteArray := prog_6_method_1_code
def yX4_init : MethodName := ⟨RX4, "<init>", "()V"⟩
abbrev cX4_make : ByteArray := prog_6_method_2_code
def yX4_make : MethodName := ⟨RX4, "make", "(LMoraineSort$Row;ZZZII)V"⟩
abbrev cX4_runByLoading : ByteArray := prog_6_method_3_code
def yX4_runByLoading : MethodName := ⟨RX4, "runByLoading", "(II)V"⟩
abbrev cX4_runByReplacing : ByteArray := prog_6_method_4_code
def yX4_runByReplacing : MethodName := ⟨RX4, "runByReplacing", "(LMoraineSort$Row;ZI)V"⟩
abbrev cX4_countRuns : ByteArray := prog_6_method_5_code
def yX4_countRuns : MethodName := ⟨RX4, "countRuns", "(I)V"⟩
abbrev cX4_mergeByLevels : ByteArray := prog_6_method_6_code
def yX4_mergeByLevels : MethodName := ⟨RX4, "mergeByLevels", "(I)V"⟩
abbrev cX4_mergeLevel : ByteArray := prog_6_method_7_code
def yX4_mergeLevel : MethodName := ⟨RX4, "mergeLevel", "(I)V"⟩
abbrev cX4_mergeByLeast : ByteArray := prog_6_method_8_code
def yX4_mergeByLeast : MethodName := ⟨RX4, "mergeByLeast", "(I)V"⟩
abbrev cX4_mergeLeast : ByteArray := prog_6_method_9_code
def yX4_mergeLeast : MethodName := ⟨RX4, "mergeLeast", "(I)V"⟩
abbrev cX4_noteMerge : ByteArray := prog_6_method_10_code
def yX4_noteMerge : MethodName := ⟨RX4, "noteMerge", "(II)V"⟩
def RX5 : String := "MoraineSort$Row"
def TX5 : u_T := fun k => match k with
  | 0 => ("MoraineSort$Row", "keys", "[I", true)
  | 1 => ("MoraineSort$Row", "marks", "[I", true)
  | _ => ("MoraineSort$Row", "count", "I", false)
def tyX5 : Nat → FieldType := fun k => match k with
  | 0 => .array .int
  | 1 => .array .int
  | _ => .int
abbrev wsX50 : List Cond := u_ws RX5 TX5 3
theorem nmX5 : ∀ a, a < 3 → ∀ b, b < 3 → a ≠ b → (TX5 a).2.1 ≠ (TX5 b).2.1 := by decide +kernel
theorem tyX5_ok : ∀ k, k < 3 → parseFieldDescriptor (TX5 k).2.2.1 = some (tyX5 k) := by decide +kernel
abbrev cX5_init : ByteArray := prog_7_method_1_code
def yX5_init : MethodName := ⟨RX5, "<init>", "()V"⟩
abbrev cX5_empty : ByteArray := prog_7_method_2_code
def yX5_empty : MethodName := ⟨RX5, "empty", "()V"⟩
abbrev cX5_count : ByteArray := prog_7_method_3_code
def yX5_count : MethodName := ⟨RX5, "count", "()I"⟩
abbrev cX5_has : ByteArray := prog_7_method_4_code
def yX5_has : MethodName := ⟨RX5, "has", "(I)Z"⟩
abbrev cX5_keyAt : ByteArray := prog_7_method_5_code
def yX5_keyAt : MethodName := ⟨RX5, "keyAt", "(I)I"⟩
abbrev cX5_markAt : ByteArray := prog_7_method_6_code
def yX5_markAt : MethodName := ⟨RX5, "markAt", "(I)I"⟩
abbrev cX5_add : ByteArray := prog_7_method_7_code
def yX5_add : MethodName := ⟨RX5, "add", "(II)V"⟩
abbrev cX5_addAll : ByteArray := prog_7_method_8_code
def yX5_addAll : MethodName := ⟨RX5, "addAll", "(LMoraineSort$Row;)V"⟩
abbrev cX5_isUp : ByteArray := prog_7_method_9_code
def yX5_isUp : MethodName := ⟨RX5, "isUp", "()Z"⟩
abbrev cX5_isDown : ByteArray := prog_7_method_10_code
def yX5_isDown : MethodName := ⟨RX5, "isDown", "()Z"⟩
abbrev cX5_placeNotBelow : ByteArray := prog_7_method_11_code
def yX5_placeNotBelow : MethodName := ⟨RX5, "placeNotBelow", "(II)I"⟩
def RX6 : String := "MoraineSort$Splitting"
def TX6 : u_T := fun k => match k with
  | 0 => ("MoraineSort$Splitting", "page", "I", false)
  | 1 => ("MoraineSort$Splitting", "memory", "I", false)
  | 2 => ("MoraineSort$Splitting", "ones", "[LMoraineSort$Row;", true)
  | 3 => ("MoraineSort$Splitting", "others", "[LMoraineSort$Row;", true)
  | _ => ("MoraineSort$Splitting", "spare", "LMoraineSort$Row;", true)
def tyX6 : Nat → FieldType := fun k => match k with
  | 0 => .int
  | 1 => .int
  | 2 => .array (.object "MoraineSort$Row")
  | 3 => .array (.object "MoraineSort$Row")
  | _ => .object "MoraineSort$Row"
abbrev wsX60 : List Cond := u_ws RX6 TX6 5
theorem nmX6 : ∀ a, a < 5 → ∀ b, b < 5 → a ≠ b → (TX6 a).2.1 ≠ (TX6 b).2.1 := by decide +kernel
theorem tyX6_ok : ∀ k, k < 5 → parseFieldDescriptor (TX6 k).2.2.1 = some (tyX6 k) := by decide +kernel
abbrev cX6_init : ByteArray := prog_8_method_1_code
def yX6_init : MethodName := ⟨RX6, "<init>", "()V"⟩
abbrev cX6_fillOne : ByteArray := prog_8_method_2_code
def yX6_fillOne : MethodName := ⟨RX6, "fillOne", "(LMoraineSort$Row;II)LMoraineSort$Row;"⟩
abbrev cX6_fillOther : ByteArray := prog_8_method_3_code
def yX6_fillOther : MethodName := ⟨RX6, "fillOther", "(LMoraineSort$Row;II)LMoraineSort$Row;"⟩
abbrev cX6_fill : ByteArray := prog_8_method_4_code
def yX6_fill : MethodName := ⟨RX6, "fill", "(LMoraineSort$Row;LMoraineSort$Row;II)V"⟩
def RX7 : String := "MoraineSort$Tournament"
def TX7 : u_T := fun k => match k with
  | 0 => ("MoraineSort$Tournament", "isOn", "Z", false)
  | 1 => ("MoraineSort$Tournament", "leafCount", "I", false)
  | 2 => ("MoraineSort$Tournament", "winningLeaf", "I", false)
  | 3 => ("MoraineSort$Tournament", "matchCount", "I", false)
  | 4 => ("MoraineSort$Tournament", "firstFile", "I", false)
  | 5 => ("MoraineSort$Tournament", "rowCount", "I", false)
  | 6 => ("MoraineSort$Tournament", "rows", "[LMoraineSort$Row;", true)
  | 7 => ("MoraineSort$Tournament", "places", "[I", true)
  | 8 => ("MoraineSort$Tournament", "losers", "[I", true)
  | _ => ("MoraineSort$Tournament", "winners", "[I", true)
def tyX7 : Nat → FieldType := fun k => match k with
  | 0 => .boolean
  | 1 => .int
  | 2 => .int
  | 3 => .int
  | 4 => .int
  | 5 => .int
  | 6 => .array (.object "MoraineSort$Row")
  | 7 => .array .int
  | 8 => .array .int
  | _ => .array .int
abbrev wsX70 : List Cond := u_ws RX7 TX7 10
theorem nmX7 : ∀ a, a < 10 → ∀ b, b < 10 → a ≠ b → (TX7 a).2.1 ≠ (TX7 b).2.1 := by decide +kernel
theorem tyX7_ok : ∀ k, k < 10 → parseFieldDescriptor (TX7 k).2.2.1 = some (tyX7 k) := by decide +kernel
abbrev cX7_init : ByteArray := prog_9_method_1_code
def yX7_init : MethodName := ⟨RX7, "<init>", "()V"⟩
abbrev cX7_prepare : ByteArray := prog_9_method_2_code
def yX7_prepare : MethodName := ⟨RX7, "prepare", "(II)V"⟩
abbrev cX7_seat : ByteArray := prog_9_method_3_code
def yX7_seat : MethodName := ⟨RX7, "seat", "(ILMoraineSort$Row;)V"⟩
abbrev cX7_open : ByteArray := prog_9_method_4_code
def yX7_open : MethodName := ⟨RX7, "open", "()V"⟩
abbrev cX7_forget : ByteArray := prog_9_method_5_code
def yX7_forget : MethodName := ⟨RX7, "forget", "(I)V"⟩
abbrev cX7_hasNode : ByteArray := prog_9_method_6_code
def yX7_hasNode : MethodName := ⟨RX7, "hasNode", "(I)Z"⟩
abbrev cX7_loserAt : ByteArray := prog_9_method_7_code
def yX7_loserAt : MethodName := ⟨RX7, "loserAt", "(I)I"⟩
abbrev cX7_give : ByteArray := prog_9_method_8_code
def yX7_give : MethodName := ⟨RX7, "give", "()I"⟩
abbrev cX7_playAt : ByteArray := prog_9_method_9_code
def yX7_playAt : MethodName := ⟨RX7, "playAt", "(III)I"⟩
abbrev cX7_isWinning : ByteArray := prog_9_method_10_code
def yX7_isWinning : MethodName := ⟨RX7, "isWinning", "(II)Z"⟩
abbrev cX7_isOver : ByteArray := prog_9_method_11_code
def yX7_isOver : MethodName := ⟨RX7, "isOver", "(I)Z"⟩
abbrev cX7_keyOf : ByteArray := prog_9_method_12_code
def yX7_keyOf : MethodName := ⟨RX7, "keyOf", "(I)I"⟩
def RX8 : String := "MoraineSort"
def TX8 : u_T := fun k => match k with
  | 0 => ("MoraineSort", "files", "[LMoraineSort$Row;", true)
  | 1 => ("MoraineSort", "fileCount", "I", false)
  | 2 => ("MoraineSort", "page", "I", false)
  | 3 => ("MoraineSort", "memory", "I", false)
  | 4 => ("MoraineSort", "readPages", "I", false)
  | 5 => ("MoraineSort", "writtenPages", "I", false)
  | 6 => ("MoraineSort", "spiltPages", "I", false)
  | 7 => ("MoraineSort", "latest", "LMoraineSort$Plan;", true)
  | 8 => ("MoraineSort", "trial", "LMoraineSort$Plan;", true)
  | 9 => ("MoraineSort", "heap", "LMoraineSort$Heap;", true)
  | 10 => ("MoraineSort", "tournament", "LMoraineSort$Tournament;", true)
  | 11 => ("MoraineSort", "outcome", "LMoraineSort$Outcome;", true)
  | 12 => ("MoraineSort", "splitting", "LMoraineSort$Splitting;", true)
  | _ => ("MoraineSort", "keySet", "LMoraineSort$KeySet;", true)
def tyX8 : Nat → FieldType := fun k => match k with
  | 0 => .array (.object "MoraineSort$Row")
  | 1 => .int
  | 2 => .int
  | 3 => .int
  | 4 => .int
  | 5 => .int
  | 6 => .int
  | 7 => .object "MoraineSort$Plan"
  | 8 => .object "MoraineSort$Plan"
  | 9 => .object "MoraineSort$Heap"
  | 10 => .object "MoraineSort$Tournament"
  | 11 => .object "MoraineSort$Outcome"
  | 12 => .object "MoraineSort$Splitting"
  | _ => .object "MoraineSort$KeySet"
abbrev wsX80 : List Cond := u_ws RX8 TX8 14
theorem nmX8 : ∀ a, a < 14 → ∀ b, b < 14 → a ≠ b → (TX8 a).2.1 ≠ (TX8 b).2.1 := by decide +kernel
theorem tyX8_ok : ∀ k, k < 14 → parseFieldDescriptor (TX8 k).2.2.1 = some (tyX8 k) := by decide +kernel
abbrev cX8_init : ByteArray := prog_1_method_1_code
def yX8_init : MethodName := ⟨RX8, "<init>", "()V"⟩
abbrev cX8_setMemory : ByteArray := prog_1_method_2_code
def yX8_setMemory : MethodName := ⟨RX8, "setMemory", "(II)I"⟩
abbrev cX8_addFile : ByteArray := prog_1_method_3_code
def yX8_addFile : MethodName := ⟨RX8, "addFile", "()I"⟩
abbrev cX8_put : ByteArray := prog_1_method_4_code
def yX8_put : MethodName := ⟨RX8, "put", "(III)I"⟩
abbrev cX8_putRow : ByteArray := prog_1_method_5_code
def yX8_putRow : MethodName := ⟨RX8, "putRow", "(IIIII)I"⟩
abbrev cX8_size : ByteArray := prog_1_method_8_code
def yX8_size : MethodName := ⟨RX8, "size", "(I)I"⟩
abbrev cX8_at : ByteArray := prog_1_method_9_code
def yX8_at : MethodName := ⟨RX8, "at", "(IIZ)I"⟩
abbrev cX8_order : ByteArray := prog_1_method_11_code
def yX8_order : MethodName := ⟨RX8, "order", "(I)I"⟩
abbrev cX8_distinct : ByteArray := prog_1_method_12_code
def yX8_distinct : MethodName := ⟨RX8, "distinct", "(I)I"⟩
abbrev cX8_inversions : ByteArray := prog_1_method_13_code
def yX8_inversions : MethodName := ⟨RX8, "inversions", "(I)I"⟩
abbrev cX8_read : ByteArray := prog_1_method_14_code
def yX8_read : MethodName := ⟨RX8, "read", "()I"⟩
abbrev cX8_written : ByteArray := prog_1_method_15_code
def yX8_written : MethodName := ⟨RX8, "written", "()I"⟩
abbrev cX8_sort : ByteArray := prog_1_method_17_code
def yX8_sort : MethodName := ⟨RX8, "sort", "(IZZZ)I"⟩
abbrev cX8_runs : ByteArray := prog_1_method_18_code
def yX8_runs : MethodName := ⟨RX8, "runs", "()I"⟩
abbrev cX8_runSize : ByteArray := prog_1_method_19_code
def yX8_runSize : MethodName := ⟨RX8, "runSize", "(I)I"⟩
abbrev cX8_merges : ByteArray := prog_1_method_20_code
def yX8_merges : MethodName := ⟨RX8, "merges", "()I"⟩
abbrev cX8_merge : ByteArray := prog_1_method_21_code
def yX8_merge : MethodName := ⟨RX8, "merge", "(II)I"⟩
abbrev cX8_begin : ByteArray := prog_1_method_22_code
def yX8_begin : MethodName := ⟨RX8, "begin", "(II)I"⟩
abbrev cX8_next : ByteArray := prog_1_method_23_code
def yX8_next : MethodName := ⟨RX8, "next", "()I"⟩
abbrev cX8_matches : ByteArray := prog_1_method_26_code
def yX8_matches : MethodName := ⟨RX8, "matches", "()I"⟩
abbrev cX8_join : ByteArray := prog_1_method_27_code
def yX8_join : MethodName := ⟨RX8, "join", "(III)I"⟩
abbrev cX8_split : ByteArray := prog_1_method_28_code
def yX8_split : MethodName := ⟨RX8, "split", "(II)I"⟩
abbrev cX8_group : ByteArray := prog_1_method_29_code
def yX8_group : MethodName := ⟨RX8, "group", "(II)I"⟩
abbrev cX8_sortCost : ByteArray := prog_1_method_30_code
def yX8_sortCost : MethodName := ⟨RX8, "sortCost", "(IZZI)I"⟩
abbrev cX8_memoryFor : ByteArray := prog_1_method_31_code
def yX8_memoryFor : MethodName := ⟨RX8, "memoryFor", "(IZI)I"⟩
abbrev cX8_splitCost : ByteArray := prog_1_method_32_code
def yX8_splitCost : MethodName := ⟨RX8, "splitCost", "(II)I"⟩
abbrev cX8_share : ByteArray := prog_1_method_33_code
def yX8_share : MethodName := ⟨RX8, "share", "(II)D"⟩
abbrev cX8_digest : ByteArray := prog_1_method_34_code
def yX8_digest : MethodName := ⟨RX8, "digest", "()J"⟩
abbrev cX8_fold : ByteArray := prog_1_method_35_code
def yX8_fold : MethodName := ⟨RX8, "fold", "(JJ)J"⟩
abbrev cX8_foldSort : ByteArray := prog_1_method_36_code
def yX8_foldSort : MethodName := ⟨RX8, "foldSort", "(J)J"⟩
abbrev cX8_foldFile : ByteArray := prog_1_method_37_code
def yX8_foldFile : MethodName := ⟨RX8, "foldFile", "(JLMoraineSort$Row;)J"⟩
abbrev cX8_rowOf : ByteArray := prog_1_method_38_code
def yX8_rowOf : MethodName := ⟨RX8, "rowOf", "(I)LMoraineSort$Row;"⟩
abbrev cX8_needRoom : ByteArray := prog_1_method_39_code
def yX8_needRoom : MethodName := ⟨RX8, "needRoom", "()V"⟩
abbrev cX8_needSpace : ByteArray := prog_1_method_40_code
def yX8_needSpace : MethodName := ⟨RX8, "needSpace", "(LMoraineSort$Row;I)V"⟩
abbrev cX8_needMemory : ByteArray := prog_1_method_41_code
def yX8_needMemory : MethodName := ⟨RX8, "needMemory", "(I)V"⟩
abbrev cX8_needHow : ByteArray := prog_1_method_42_code
def yX8_needHow : MethodName := ⟨RX8, "needHow", "(I)V"⟩
abbrev cX8_needUp : ByteArray := prog_1_method_43_code
def yX8_needUp : MethodName := ⟨RX8, "needUp", "(LMoraineSort$Row;)V"⟩
abbrev cX8_needTournament : ByteArray := prog_1_method_44_code
def yX8_needTournament : MethodName := ⟨RX8, "needTournament", "()V"⟩
abbrev cX8_needFit : ByteArray := prog_1_method_45_code
def yX8_needFit : MethodName := ⟨RX8, "needFit", "()V"⟩
abbrev cX8_pagesFor : ByteArray := prog_1_method_46_code
def yX8_pagesFor : MethodName := ⟨RX8, "pagesFor", "(II)I"⟩
abbrev cX8_orderOf : ByteArray := prog_1_method_47_code
def yX8_orderOf : MethodName := ⟨RX8, "orderOf", "(LMoraineSort$Row;)I"⟩
abbrev cX8_keysIn : ByteArray := prog_1_method_48_code
def yX8_keysIn : MethodName := ⟨RX8, "keysIn", "(LMoraineSort$Row;)I"⟩
abbrev cX8_costOf : ByteArray := prog_1_method_49_code
def yX8_costOf : MethodName := ⟨RX8, "costOf", "(LMoraineSort$Row;ZZI)I"⟩
abbrev cX8_weightOf : ByteArray := prog_1_method_50_code
def yX8_weightOf : MethodName := ⟨RX8, "weightOf", "(LMoraineSort$Row;IZ)I"⟩
abbrev cX8_land : ByteArray := prog_1_method_51_code
def yX8_land : MethodName := ⟨RX8, "land", "()I"⟩
abbrev cX8_giveSorted : ByteArray := prog_1_method_52_code
def yX8_giveSorted : MethodName := ⟨RX8, "giveSorted", "(LMoraineSort$Row;Z)V"⟩
abbrev cX8_joinByMerging : ByteArray := prog_1_method_53_code
def yX8_joinByMerging : MethodName := ⟨RX8, "joinByMerging", "(LMoraineSort$Row;LMoraineSort$Row;I)V"⟩
abbrev cX8_spill : ByteArray := prog_1_method_54_code
def yX8_spill : MethodName := ⟨RX8, "spill", "(I)I"⟩
abbrev cX8_givePairs : ByteArray := prog_1_method_55_code
def yX8_givePairs : MethodName := ⟨RX8, "givePairs", "(LMoraineSort$Row;ILMoraineSort$Row;II)V"⟩
abbrev cX8_joinBySplitting : ByteArray := prog_1_method_56_code
def yX8_joinBySplitting : MethodName := ⟨RX8, "joinBySplitting", "(LMoraineSort$Row;LMoraineSort$Row;)V"⟩
abbrev cX8_splitRows : ByteArray := prog_1_method_57_code
def yX8_splitRows : MethodName := ⟨RX8, "splitRows", "(LMoraineSort$Splitting;LMoraineSort$Outcome;LMoraineSort$Row;LMoraineSort$Row;I)V"⟩
abbrev cX8_pairByParts : ByteArray := prog_1_method_58_code
def yX8_pairByParts : MethodName := ⟨RX8, "pairByParts", "(LMoraineSort$Splitting;LMoraineSort$Outcome;LMoraineSort$Row;LMoraineSort$Row;)V"⟩
abbrev cX8_giveGroups : ByteArray := prog_1_method_59_code
def yX8_giveGroups : MethodName := ⟨RX8, "giveGroups", "(LMoraineSort$Row;I)V"⟩
abbrev cX8_startMark : ByteArray := prog_1_method_60_code
def yX8_startMark : MethodName := ⟨RX8, "startMark", "(II)I"⟩
abbrev cX8_moreMark : ByteArray := prog_1_method_61_code
def yX8_moreMark : MethodName := ⟨RX8, "moreMark", "(III)I"⟩
def RJ9 : String := "java/lang/Math"
abbrev cJ9_floorMod_7cf53 : ByteArray := prog_19_method_50_code
def yJ9_floorMod_7cf53 : MethodName := ⟨RJ9, "floorMod", "(II)I"⟩
abbrev cJ9_abs_0f7a4 : ByteArray := prog_19_method_59_code
def yJ9_abs_0f7a4 : MethodName := ⟨RJ9, "abs", "(I)I"⟩
abbrev cJ9_max_7cf53 : ByteArray := prog_19_method_65_code
def yJ9_max_7cf53 : MethodName := ⟨RJ9, "max", "(II)I"⟩
abbrev cJ9_min_7cf53 : ByteArray := prog_19_method_69_code
def yJ9_min_7cf53 : MethodName := ⟨RJ9, "min", "(II)I"⟩
def RL : String := "MoraineSortLaw"
abbrev cL_below : ByteArray := method_2_code
def yL_below : MethodName := ⟨RL, "below", "(II)I"⟩
abbrev cL_cell : ByteArray := method_3_code
def yL_cell : MethodName := ⟨RL, "cell", "([II)I"⟩
abbrev cL_isSame : ByteArray := method_4_code
def yL_isSame : MethodName := ⟨RL, "isSame", "(LMoraineSort;II)Z"⟩
abbrev cL_law : ByteArray := code
def yL_law : MethodName := ⟨RL, "law", "([I)Z"⟩
-- the words that a contract needs: those of the tables that stay (one list for every method)
def tT : List Cond := lw_tbl.filter goodWord
theorem tT_tbl {w : Cond} (h : w ∈ tT) : w ∈ lw_tbl := (List.mem_filter.mp h).1
theorem tT_i {w : Cond} {i : Nat} (h : tables_1[i]? = some w) (g : goodWord w = true) : w ∈ tT := List.mem_filter.mpr ⟨List.mem_append_right _ (List.mem_of_getElem? h), g⟩
theorem tT_p {w : Cond} {i : Nat} (h : (k2_sels lw_privs)[i]? = some w) (g : goodWord w = true) : w ∈ tT := List.mem_filter.mpr ⟨List.mem_append_left _ (List.mem_of_getElem? h), g⟩
theorem tT_good {w : Cond} (h : w ∈ tT) : (w.onTables && w.keeps) = true ∨ ∃ ty, w = .arrayClass ty := good_of_word (List.mem_filter.mp h).2
abbrev tW (y : MethodName) (cc : ByteArray) (n : Nat) (ret : Option FieldType) : List Cond := Cond.code y cc n ret :: tT
theorem tw_0 : Cond.initialized RL ∈ tT := tT_i (i := 0) (by decide +kernel) (by decide +kernel)
theorem tw_1 : Cond.initialized RX8 ∈ tT := tT_i (i := 1) (by decide +kernel) (by decide +kernel)
theorem tw_2 : Cond.initialized RX4 ∈ tT := tT_i (i := 2) (by decide +kernel) (by decide +kernel)
theorem tw_3 : Cond.initialized RX2 ∈ tT := tT_i (i := 3) (by decide +kernel) (by decide +kernel)
theorem tw_4 : Cond.initialized RX0 ∈ tT := tT_i (i := 4) (by decide +kernel) (by decide +kernel)
theorem tw_5 : Cond.initialized RX7 ∈ tT := tT_i (i := 5) (by decide +kernel) (by decide +kernel)
theorem tw_6 : Cond.initialized RX3 ∈ tT := tT_i (i := 6) (by decide +kernel) (by decide +kernel)
theorem tw_7 : Cond.initialized RX5 ∈ tT := tT_i (i := 7) (by decide +kernel) (by decide +kernel)
theorem tw_8 : Cond.initialized RX6 ∈ tT := tT_i (i := 8) (by decide +kernel) (by decide +kernel)
theorem tw_9 : Cond.initialized RX1 ∈ tT := tT_i (i := 9) (by decide +kernel) (by decide +kernel)
theorem tw_16 : Cond.initialized RJ9 ∈ tT := tT_i (i := 16) (by decide +kernel) (by decide +kernel)
theorem tw_17 : Cond.classLink RL 10 RX8 ∈ tT := tT_i (i := 17) (by decide +kernel) (by decide +kernel)
theorem tw_18 : Cond.instantiable RX8 14 ∈ tT := tT_i (i := 18) (by decide +kernel) (by decide +kernel)
theorem tw_19 : Cond.methodLink RL 19 yX8_init ∈ tT := tT_i (i := 19) (by decide +kernel) (by decide +kernel)
theorem tw_20 : Cond.instanceMethod yX8_init ∈ tT := tT_i (i := 20) (by decide +kernel) (by decide +kernel)
theorem tw_21 : Cond.code yX8_init cX8_init 2 none ∈ tT := tT_i (i := 21) (by decide +kernel) (by decide +kernel)
theorem tw_22 : Cond.methodLink RX8 3 objectInit ∈ tT := tT_i (i := 22) (by decide +kernel) (by decide +kernel)
theorem tw_23 : Cond.instanceMethod objectInit ∈ tT := tT_i (i := 23) (by decide +kernel) (by decide +kernel)
theorem tw_25 : Cond.classLink RX8 9 RX5 ∈ tT := tT_i (i := 25) (by decide +kernel) (by decide +kernel)
theorem tw_26 : Cond.arrayOver (.object "MoraineSort$Row") ∈ lw_tbl := List.mem_append_right _ (List.mem_of_getElem? (i := 26) (by decide +kernel))
theorem tw_27 : Cond.classLink RX8 34 RX4 ∈ tT := tT_i (i := 27) (by decide +kernel) (by decide +kernel)
theorem tw_28 : Cond.instantiable RX4 8 ∈ tT := tT_i (i := 28) (by decide +kernel) (by decide +kernel)
theorem tw_29 : Cond.methodLinkNest RX8 36 yX4_init RX8 ∈ lw_tbl := List.mem_append_right _ (List.mem_of_getElem? (i := 29) (by decide +kernel))
theorem tw_30 : Cond.instanceMethod yX4_init ∈ tT := tT_i (i := 30) (by decide +kernel) (by decide +kernel)
theorem tw_31 : Cond.code yX4_init cX4_init 1 none ∈ tT := tT_i (i := 31) (by decide +kernel) (by decide +kernel)
theorem tw_32 : Cond.methodLink RX4 3 objectInit ∈ tT := tT_i (i := 32) (by decide +kernel) (by decide +kernel)
theorem tw_33 : Cond.classLink RX4 9 RX2 ∈ tT := tT_i (i := 33) (by decide +kernel) (by decide +kernel)
theorem tw_34 : Cond.instantiable RX2 2 ∈ tT := tT_i (i := 34) (by decide +kernel) (by decide +kernel)
theorem tw_35 : Cond.methodLinkNest RX4 11 yX2_init RX8 ∈ lw_tbl := List.mem_append_right _ (List.mem_of_getElem? (i := 35) (by decide +kernel))
theorem tw_36 : Cond.instanceMethod yX2_init ∈ tT := tT_i (i := 36) (by decide +kernel) (by decide +kernel)
theorem tw_37 : Cond.code yX2_init cX2_init 1 none ∈ tT := tT_i (i := 37) (by decide +kernel) (by decide +kernel)
theorem tw_38 : Cond.methodLink RX2 3 objectInit ∈ tT := tT_i (i := 38) (by decide +kernel) (by decide +kernel)
theorem tw_39 : Cond.fieldLink RX2 9 "MoraineSort$Numbers" "values" "[I" ∈ tT := tT_i (i := 39) (by decide +kernel) (by decide +kernel)
theorem tw_40 : Cond.fieldLink RX2 15 "MoraineSort$Numbers" "count" "I" ∈ tT := tT_i (i := 40) (by decide +kernel) (by decide +kernel)
theorem tw_41 : Cond.laysFinal RX2 "MoraineSort$Numbers" "values" "[I" ∈ tT := tT_i (i := 41) (by decide +kernel) (by decide +kernel)
theorem tw_43 : Cond.lays RX2 "MoraineSort$Numbers" "count" "I" ∈ tT := tT_i (i := 43) (by decide +kernel) (by decide +kernel)
theorem tw_46 : Cond.arrayClass .int ∈ tT := tT_i (i := 46) (by decide +kernel) (by decide +kernel)
theorem tw_47 : Cond.classLink RX4 34 RX0 ∈ tT := tT_i (i := 47) (by decide +kernel) (by decide +kernel)
theorem tw_48 : Cond.instantiable RX0 2 ∈ tT := tT_i (i := 48) (by decide +kernel) (by decide +kernel)
theorem tw_49 : Cond.methodLinkNest RX4 36 yX0_init RX8 ∈ lw_tbl := List.mem_append_right _ (List.mem_of_getElem? (i := 49) (by decide +kernel))
theorem tw_50 : Cond.instanceMethod yX0_init ∈ tT := tT_i (i := 50) (by decide +kernel) (by decide +kernel)
theorem tw_51 : Cond.code yX0_init cX0_init 1 none ∈ tT := tT_i (i := 51) (by decide +kernel) (by decide +kernel)
theorem tw_52 : Cond.methodLink RX0 3 objectInit ∈ tT := tT_i (i := 52) (by decide +kernel) (by decide +kernel)
theorem tw_53 : Cond.fieldLink RX0 9 "MoraineSort$Heap" "held" "[I" ∈ tT := tT_i (i := 53) (by decide +kernel) (by decide +kernel)
theorem tw_54 : Cond.fieldLink RX0 15 "MoraineSort$Heap" "count" "I" ∈ tT := tT_i (i := 54) (by decide +kernel) (by decide +kernel)
theorem tw_55 : Cond.laysFinal RX0 "MoraineSort$Heap" "held" "[I" ∈ tT := tT_i (i := 55) (by decide +kernel) (by decide +kernel)
theorem tw_57 : Cond.lays RX0 "MoraineSort$Heap" "count" "I" ∈ tT := tT_i (i := 57) (by decide +kernel) (by decide +kernel)
theorem tw_60 : Cond.fieldLink RX4 12 "MoraineSort$Plan" "runSizes" "LMoraineSort$Numbers;" ∈ tT := tT_i (i := 60) (by decide +kernel) (by decide +kernel)
theorem tw_61 : Cond.fieldLink RX8 183 "MoraineSort$Plan" "runSizes" "LMoraineSort$Numbers;" ∈ tT := tT_i (i := 61) (by decide +kernel) (by decide +kernel)
theorem tw_62 : Cond.fieldLink RX4 18 "MoraineSort$Plan" "mergeRuns" "LMoraineSort$Numbers;" ∈ tT := tT_i (i := 62) (by decide +kernel) (by decide +kernel)
theorem tw_63 : Cond.fieldLink RX8 203 "MoraineSort$Plan" "mergeRuns" "LMoraineSort$Numbers;" ∈ tT := tT_i (i := 63) (by decide +kernel) (by decide +kernel)
theorem tw_64 : Cond.fieldLink RX4 21 "MoraineSort$Plan" "mergeSizes" "LMoraineSort$Numbers;" ∈ tT := tT_i (i := 64) (by decide +kernel) (by decide +kernel)
theorem tw_65 : Cond.fieldLink RX8 196 "MoraineSort$Plan" "mergeSizes" "LMoraineSort$Numbers;" ∈ tT := tT_i (i := 65) (by decide +kernel) (by decide +kernel)
theorem tw_66 : Cond.fieldLink RX4 24 "MoraineSort$Plan" "readPages" "I" ∈ tT := tT_i (i := 66) (by decide +kernel) (by decide +kernel)
theorem tw_67 : Cond.fieldLink RX8 172 "MoraineSort$Plan" "readPages" "I" ∈ tT := tT_i (i := 67) (by decide +kernel) (by decide +kernel)
theorem tw_68 : Cond.fieldLink RX4 28 "MoraineSort$Plan" "writtenPages" "I" ∈ tT := tT_i (i := 68) (by decide +kernel) (by decide +kernel)
theorem tw_69 : Cond.fieldLink RX8 174 "MoraineSort$Plan" "writtenPages" "I" ∈ tT := tT_i (i := 69) (by decide +kernel) (by decide +kernel)
theorem tw_70 : Cond.fieldLink RX4 31 "MoraineSort$Plan" "row" "LMoraineSort$Numbers;" ∈ tT := tT_i (i := 70) (by decide +kernel) (by decide +kernel)
theorem tw_71 : Cond.fieldLink RX4 37 "MoraineSort$Plan" "heap" "LMoraineSort$Heap;" ∈ tT := tT_i (i := 71) (by decide +kernel) (by decide +kernel)
theorem tw_72 : Cond.fieldLink RX4 41 "MoraineSort$Plan" "page" "I" ∈ tT := tT_i (i := 72) (by decide +kernel) (by decide +kernel)
theorem tw_73 : Cond.laysFinal RX4 "MoraineSort$Plan" "runSizes" "LMoraineSort$Numbers;" ∈ tT := tT_i (i := 73) (by decide +kernel) (by decide +kernel)
theorem tw_75 : Cond.laysFinal RX4 "MoraineSort$Plan" "mergeRuns" "LMoraineSort$Numbers;" ∈ tT := tT_i (i := 75) (by decide +kernel) (by decide +kernel)
theorem tw_77 : Cond.laysFinal RX4 "MoraineSort$Plan" "mergeSizes" "LMoraineSort$Numbers;" ∈ tT := tT_i (i := 77) (by decide +kernel) (by decide +kernel)
theorem tw_79 : Cond.lays RX4 "MoraineSort$Plan" "readPages" "I" ∈ tT := tT_i (i := 79) (by decide +kernel) (by decide +kernel)
theorem tw_81 : Cond.lays RX4 "MoraineSort$Plan" "writtenPages" "I" ∈ tT := tT_i (i := 81) (by decide +kernel) (by decide +kernel)
theorem tw_83 : Cond.laysFinal RX4 "MoraineSort$Plan" "row" "LMoraineSort$Numbers;" ∈ tT := tT_i (i := 83) (by decide +kernel) (by decide +kernel)
theorem tw_85 : Cond.laysFinal RX4 "MoraineSort$Plan" "heap" "LMoraineSort$Heap;" ∈ tT := tT_i (i := 85) (by decide +kernel) (by decide +kernel)
theorem tw_87 : Cond.lays RX4 "MoraineSort$Plan" "page" "I" ∈ tT := tT_i (i := 87) (by decide +kernel) (by decide +kernel)
theorem tw_90 : Cond.classLink RX8 44 RX0 ∈ tT := tT_i (i := 90) (by decide +kernel) (by decide +kernel)
theorem tw_91 : Cond.methodLinkNest RX8 46 yX0_init RX8 ∈ lw_tbl := List.mem_append_right _ (List.mem_of_getElem? (i := 91) (by decide +kernel))
theorem tw_92 : Cond.classLink RX8 51 RX7 ∈ tT := tT_i (i := 92) (by decide +kernel) (by decide +kernel)
theorem tw_93 : Cond.instantiable RX7 10 ∈ tT := tT_i (i := 93) (by decide +kernel) (by decide +kernel)
theorem tw_94 : Cond.methodLinkNest RX8 53 yX7_init RX8 ∈ lw_tbl := List.mem_append_right _ (List.mem_of_getElem? (i := 94) (by decide +kernel))
theorem tw_95 : Cond.instanceMethod yX7_init ∈ tT := tT_i (i := 95) (by decide +kernel) (by decide +kernel)
theorem tw_96 : Cond.code yX7_init cX7_init 1 none ∈ tT := tT_i (i := 96) (by decide +kernel) (by decide +kernel)
theorem tw_97 : Cond.methodLink RX7 3 objectInit ∈ tT := tT_i (i := 97) (by decide +kernel) (by decide +kernel)
theorem tw_98 : Cond.classLink RX7 31 RX5 ∈ tT := tT_i (i := 98) (by decide +kernel) (by decide +kernel)
theorem tw_99 : Cond.fieldLink RX7 9 "MoraineSort$Tournament" "isOn" "Z" ∈ tT := tT_i (i := 99) (by decide +kernel) (by decide +kernel)
theorem tw_100 : Cond.fieldLink RX8 244 "MoraineSort$Tournament" "isOn" "Z" ∈ tT := tT_i (i := 100) (by decide +kernel) (by decide +kernel)
theorem tw_101 : Cond.fieldLink RX7 15 "MoraineSort$Tournament" "leafCount" "I" ∈ tT := tT_i (i := 101) (by decide +kernel) (by decide +kernel)
theorem tw_102 : Cond.fieldLink RX8 224 "MoraineSort$Tournament" "leafCount" "I" ∈ tT := tT_i (i := 102) (by decide +kernel) (by decide +kernel)
theorem tw_103 : Cond.fieldLink RX7 19 "MoraineSort$Tournament" "winningLeaf" "I" ∈ tT := tT_i (i := 103) (by decide +kernel) (by decide +kernel)
theorem tw_104 : Cond.fieldLink RX7 22 "MoraineSort$Tournament" "matchCount" "I" ∈ tT := tT_i (i := 104) (by decide +kernel) (by decide +kernel)
theorem tw_105 : Cond.fieldLink RX8 248 "MoraineSort$Tournament" "matchCount" "I" ∈ tT := tT_i (i := 105) (by decide +kernel) (by decide +kernel)
theorem tw_106 : Cond.fieldLink RX7 25 "MoraineSort$Tournament" "firstFile" "I" ∈ tT := tT_i (i := 106) (by decide +kernel) (by decide +kernel)
theorem tw_107 : Cond.fieldLink RX7 28 "MoraineSort$Tournament" "rowCount" "I" ∈ tT := tT_i (i := 107) (by decide +kernel) (by decide +kernel)
theorem tw_108 : Cond.fieldLink RX7 33 "MoraineSort$Tournament" "rows" "[LMoraineSort$Row;" ∈ tT := tT_i (i := 108) (by decide +kernel) (by decide +kernel)
theorem tw_109 : Cond.fieldLink RX7 37 "MoraineSort$Tournament" "places" "[I" ∈ tT := tT_i (i := 109) (by decide +kernel) (by decide +kernel)
theorem tw_110 : Cond.fieldLink RX7 41 "MoraineSort$Tournament" "losers" "[I" ∈ tT := tT_i (i := 110) (by decide +kernel) (by decide +kernel)
theorem tw_111 : Cond.fieldLink RX7 44 "MoraineSort$Tournament" "winners" "[I" ∈ tT := tT_i (i := 111) (by decide +kernel) (by decide +kernel)
theorem tw_112 : Cond.lays RX7 "MoraineSort$Tournament" "isOn" "Z" ∈ tT := tT_i (i := 112) (by decide +kernel) (by decide +kernel)
theorem tw_114 : Cond.lays RX7 "MoraineSort$Tournament" "leafCount" "I" ∈ tT := tT_i (i := 114) (by decide +kernel) (by decide +kernel)
theorem tw_116 : Cond.lays RX7 "MoraineSort$Tournament" "winningLeaf" "I" ∈ tT := tT_i (i := 116) (by decide +kernel) (by decide +kernel)
theorem tw_118 : Cond.lays RX7 "MoraineSort$Tournament" "matchCount" "I" ∈ tT := tT_i (i := 118) (by decide +kernel) (by decide +kernel)
theorem tw_120 : Cond.lays RX7 "MoraineSort$Tournament" "firstFile" "I" ∈ tT := tT_i (i := 120) (by decide +kernel) (by decide +kernel)
theorem tw_122 : Cond.lays RX7 "MoraineSort$Tournament" "rowCount" "I" ∈ tT := tT_i (i := 122) (by decide +kernel) (by decide +kernel)
theorem tw_124 : Cond.laysFinal RX7 "MoraineSort$Tournament" "rows" "[LMoraineSort$Row;" ∈ tT := tT_i (i := 124) (by decide +kernel) (by decide +kernel)
theorem tw_126 : Cond.laysFinal RX7 "MoraineSort$Tournament" "places" "[I" ∈ tT := tT_i (i := 126) (by decide +kernel) (by decide +kernel)
theorem tw_128 : Cond.laysFinal RX7 "MoraineSort$Tournament" "losers" "[I" ∈ tT := tT_i (i := 128) (by decide +kernel) (by decide +kernel)
theorem tw_130 : Cond.laysFinal RX7 "MoraineSort$Tournament" "winners" "[I" ∈ tT := tT_i (i := 130) (by decide +kernel) (by decide +kernel)
theorem tw_133 : Cond.classLink RX8 58 RX3 ∈ tT := tT_i (i := 133) (by decide +kernel) (by decide +kernel)
theorem tw_134 : Cond.instantiable RX3 5 ∈ tT := tT_i (i := 134) (by decide +kernel) (by decide +kernel)
theorem tw_135 : Cond.methodLinkNest RX8 60 yX3_init RX8 ∈ lw_tbl := List.mem_append_right _ (List.mem_of_getElem? (i := 135) (by decide +kernel))
theorem tw_136 : Cond.instanceMethod yX3_init ∈ tT := tT_i (i := 136) (by decide +kernel) (by decide +kernel)
theorem tw_137 : Cond.code yX3_init cX3_init 1 none ∈ tT := tT_i (i := 137) (by decide +kernel) (by decide +kernel)
theorem tw_138 : Cond.methodLink RX3 3 objectInit ∈ tT := tT_i (i := 138) (by decide +kernel) (by decide +kernel)
theorem tw_139 : Cond.classLink RX3 9 RX5 ∈ tT := tT_i (i := 139) (by decide +kernel) (by decide +kernel)
theorem tw_140 : Cond.instantiable RX5 3 ∈ tT := tT_i (i := 140) (by decide +kernel) (by decide +kernel)
theorem tw_141 : Cond.methodLinkNest RX3 11 yX5_init RX8 ∈ lw_tbl := List.mem_append_right _ (List.mem_of_getElem? (i := 141) (by decide +kernel))
theorem tw_142 : Cond.instanceMethod yX5_init ∈ tT := tT_i (i := 142) (by decide +kernel) (by decide +kernel)
theorem tw_143 : Cond.code yX5_init cX5_init 1 none ∈ tT := tT_i (i := 143) (by decide +kernel) (by decide +kernel)
theorem tw_144 : Cond.methodLink RX5 3 objectInit ∈ tT := tT_i (i := 144) (by decide +kernel) (by decide +kernel)
theorem tw_145 : Cond.fieldLink RX5 9 "MoraineSort$Row" "keys" "[I" ∈ tT := tT_i (i := 145) (by decide +kernel) (by decide +kernel)
theorem tw_146 : Cond.fieldLink RX5 15 "MoraineSort$Row" "marks" "[I" ∈ tT := tT_i (i := 146) (by decide +kernel) (by decide +kernel)
theorem tw_147 : Cond.fieldLink RX5 18 "MoraineSort$Row" "count" "I" ∈ tT := tT_i (i := 147) (by decide +kernel) (by decide +kernel)
theorem tw_148 : Cond.laysFinal RX5 "MoraineSort$Row" "keys" "[I" ∈ tT := tT_i (i := 148) (by decide +kernel) (by decide +kernel)
theorem tw_150 : Cond.laysFinal RX5 "MoraineSort$Row" "marks" "[I" ∈ tT := tT_i (i := 150) (by decide +kernel) (by decide +kernel)
theorem tw_152 : Cond.lays RX5 "MoraineSort$Row" "count" "I" ∈ tT := tT_i (i := 152) (by decide +kernel) (by decide +kernel)
theorem tw_155 : Cond.fieldLink RX3 12 "MoraineSort$Outcome" "out" "LMoraineSort$Row;" ∈ tT := tT_i (i := 155) (by decide +kernel) (by decide +kernel)
theorem tw_156 : Cond.fieldLink RX8 329 "MoraineSort$Outcome" "out" "LMoraineSort$Row;" ∈ tT := tT_i (i := 156) (by decide +kernel) (by decide +kernel)
theorem tw_157 : Cond.fieldLink RX3 18 "MoraineSort$Outcome" "made" "I" ∈ tT := tT_i (i := 157) (by decide +kernel) (by decide +kernel)
theorem tw_158 : Cond.fieldLink RX8 277 "MoraineSort$Outcome" "made" "I" ∈ tT := tT_i (i := 158) (by decide +kernel) (by decide +kernel)
theorem tw_159 : Cond.fieldLink RX3 22 "MoraineSort$Outcome" "readPages" "I" ∈ tT := tT_i (i := 159) (by decide +kernel) (by decide +kernel)
theorem tw_160 : Cond.fieldLink RX8 173 "MoraineSort$Outcome" "readPages" "I" ∈ tT := tT_i (i := 160) (by decide +kernel) (by decide +kernel)
theorem tw_161 : Cond.fieldLink RX3 25 "MoraineSort$Outcome" "writtenPages" "I" ∈ tT := tT_i (i := 161) (by decide +kernel) (by decide +kernel)
theorem tw_162 : Cond.fieldLink RX8 175 "MoraineSort$Outcome" "writtenPages" "I" ∈ tT := tT_i (i := 162) (by decide +kernel) (by decide +kernel)
theorem tw_163 : Cond.fieldLink RX3 28 "MoraineSort$Outcome" "spiltPages" "I" ∈ tT := tT_i (i := 163) (by decide +kernel) (by decide +kernel)
theorem tw_164 : Cond.fieldLink RX8 325 "MoraineSort$Outcome" "spiltPages" "I" ∈ tT := tT_i (i := 164) (by decide +kernel) (by decide +kernel)
theorem tw_165 : Cond.laysFinal RX3 "MoraineSort$Outcome" "out" "LMoraineSort$Row;" ∈ tT := tT_i (i := 165) (by decide +kernel) (by decide +kernel)
theorem tw_167 : Cond.lays RX3 "MoraineSort$Outcome" "made" "I" ∈ tT := tT_i (i := 167) (by decide +kernel) (by decide +kernel)
theorem tw_169 : Cond.lays RX3 "MoraineSort$Outcome" "readPages" "I" ∈ tT := tT_i (i := 169) (by decide +kernel) (by decide +kernel)
theorem tw_171 : Cond.lays RX3 "MoraineSort$Outcome" "writtenPages" "I" ∈ tT := tT_i (i := 171) (by decide +kernel) (by decide +kernel)
theorem tw_173 : Cond.lays RX3 "MoraineSort$Outcome" "spiltPages" "I" ∈ tT := tT_i (i := 173) (by decide +kernel) (by decide +kernel)
theorem tw_176 : Cond.classLink RX8 65 RX6 ∈ tT := tT_i (i := 176) (by decide +kernel) (by decide +kernel)
theorem tw_177 : Cond.instantiable RX6 5 ∈ tT := tT_i (i := 177) (by decide +kernel) (by decide +kernel)
theorem tw_178 : Cond.methodLink RX8 67 yX6_init ∈ tT := tT_i (i := 178) (by decide +kernel) (by decide +kernel)
theorem tw_179 : Cond.instanceMethod yX6_init ∈ tT := tT_i (i := 179) (by decide +kernel) (by decide +kernel)
theorem tw_180 : Cond.code yX6_init cX6_init 2 none ∈ tT := tT_i (i := 180) (by decide +kernel) (by decide +kernel)
theorem tw_181 : Cond.methodLink RX6 3 objectInit ∈ tT := tT_i (i := 181) (by decide +kernel) (by decide +kernel)
theorem tw_182 : Cond.classLink RX6 18 RX5 ∈ tT := tT_i (i := 182) (by decide +kernel) (by decide +kernel)
theorem tw_183 : Cond.methodLinkNest RX6 27 yX5_init RX8 ∈ lw_tbl := List.mem_append_right _ (List.mem_of_getElem? (i := 183) (by decide +kernel))
theorem tw_184 : Cond.fieldLink RX6 9 "MoraineSort$Splitting" "page" "I" ∈ tT := tT_i (i := 184) (by decide +kernel) (by decide +kernel)
theorem tw_185 : Cond.fieldLink RX8 363 "MoraineSort$Splitting" "page" "I" ∈ tT := tT_i (i := 185) (by decide +kernel) (by decide +kernel)
theorem tw_186 : Cond.fieldLink RX6 15 "MoraineSort$Splitting" "memory" "I" ∈ tT := tT_i (i := 186) (by decide +kernel) (by decide +kernel)
theorem tw_187 : Cond.fieldLink RX8 364 "MoraineSort$Splitting" "memory" "I" ∈ tT := tT_i (i := 187) (by decide +kernel) (by decide +kernel)
theorem tw_188 : Cond.fieldLink RX6 20 "MoraineSort$Splitting" "ones" "[LMoraineSort$Row;" ∈ tT := tT_i (i := 188) (by decide +kernel) (by decide +kernel)
theorem tw_189 : Cond.fieldLink RX6 24 "MoraineSort$Splitting" "others" "[LMoraineSort$Row;" ∈ tT := tT_i (i := 189) (by decide +kernel) (by decide +kernel)
theorem tw_190 : Cond.fieldLink RX6 28 "MoraineSort$Splitting" "spare" "LMoraineSort$Row;" ∈ tT := tT_i (i := 190) (by decide +kernel) (by decide +kernel)
theorem tw_191 : Cond.lays RX6 "MoraineSort$Splitting" "page" "I" ∈ tT := tT_i (i := 191) (by decide +kernel) (by decide +kernel)
theorem tw_193 : Cond.lays RX6 "MoraineSort$Splitting" "memory" "I" ∈ tT := tT_i (i := 193) (by decide +kernel) (by decide +kernel)
theorem tw_195 : Cond.laysFinal RX6 "MoraineSort$Splitting" "ones" "[LMoraineSort$Row;" ∈ tT := tT_i (i := 195) (by decide +kernel) (by decide +kernel)
theorem tw_197 : Cond.laysFinal RX6 "MoraineSort$Splitting" "others" "[LMoraineSort$Row;" ∈ tT := tT_i (i := 197) (by decide +kernel) (by decide +kernel)
theorem tw_199 : Cond.laysFinal RX6 "MoraineSort$Splitting" "spare" "LMoraineSort$Row;" ∈ tT := tT_i (i := 199) (by decide +kernel) (by decide +kernel)
theorem tw_202 : Cond.classLink RX8 72 RX1 ∈ tT := tT_i (i := 202) (by decide +kernel) (by decide +kernel)
theorem tw_203 : Cond.instantiable RX1 1 ∈ tT := tT_i (i := 203) (by decide +kernel) (by decide +kernel)
theorem tw_204 : Cond.methodLinkNest RX8 74 yX1_init RX8 ∈ lw_tbl := List.mem_append_right _ (List.mem_of_getElem? (i := 204) (by decide +kernel))
theorem tw_205 : Cond.instanceMethod yX1_init ∈ tT := tT_i (i := 205) (by decide +kernel) (by decide +kernel)
theorem tw_206 : Cond.code yX1_init cX1_init 1 none ∈ tT := tT_i (i := 206) (by decide +kernel) (by decide +kernel)
theorem tw_207 : Cond.methodLink RX1 3 objectInit ∈ tT := tT_i (i := 207) (by decide +kernel) (by decide +kernel)
theorem tw_208 : Cond.fieldLink RX1 9 "MoraineSort$KeySet" "words" "[J" ∈ tT := tT_i (i := 208) (by decide +kernel) (by decide +kernel)
theorem tw_209 : Cond.laysFinal RX1 "MoraineSort$KeySet" "words" "[J" ∈ tT := tT_i (i := 209) (by decide +kernel) (by decide +kernel)
theorem tw_212 : Cond.arrayClass .long ∈ tT := tT_i (i := 212) (by decide +kernel) (by decide +kernel)
theorem tw_213 : Cond.methodLinkNest RX8 79 yX5_init RX8 ∈ lw_tbl := List.mem_append_right _ (List.mem_of_getElem? (i := 213) (by decide +kernel))
theorem tw_214 : Cond.fieldLink RX8 11 "MoraineSort" "files" "[LMoraineSort$Row;" ∈ tT := tT_i (i := 214) (by decide +kernel) (by decide +kernel)
theorem tw_215 : Cond.fieldLink RX8 15 "MoraineSort" "fileCount" "I" ∈ tT := tT_i (i := 215) (by decide +kernel) (by decide +kernel)
theorem tw_216 : Cond.fieldLink RX8 19 "MoraineSort" "page" "I" ∈ tT := tT_i (i := 216) (by decide +kernel) (by decide +kernel)
theorem tw_217 : Cond.fieldLink RX8 22 "MoraineSort" "memory" "I" ∈ tT := tT_i (i := 217) (by decide +kernel) (by decide +kernel)
theorem tw_218 : Cond.fieldLink RX8 25 "MoraineSort" "readPages" "I" ∈ tT := tT_i (i := 218) (by decide +kernel) (by decide +kernel)
theorem tw_219 : Cond.fieldLink RX8 28 "MoraineSort" "writtenPages" "I" ∈ tT := tT_i (i := 219) (by decide +kernel) (by decide +kernel)
theorem tw_220 : Cond.fieldLink RX8 31 "MoraineSort" "spiltPages" "I" ∈ tT := tT_i (i := 220) (by decide +kernel) (by decide +kernel)
theorem tw_221 : Cond.fieldLink RX8 37 "MoraineSort" "latest" "LMoraineSort$Plan;" ∈ tT := tT_i (i := 221) (by decide +kernel) (by decide +kernel)
theorem tw_222 : Cond.fieldLink RX8 41 "MoraineSort" "trial" "LMoraineSort$Plan;" ∈ tT := tT_i (i := 222) (by decide +kernel) (by decide +kernel)
theorem tw_223 : Cond.fieldLink RX8 47 "MoraineSort" "heap" "LMoraineSort$Heap;" ∈ tT := tT_i (i := 223) (by decide +kernel) (by decide +kernel)
theorem tw_224 : Cond.fieldLink RX8 54 "MoraineSort" "tournament" "LMoraineSort$Tournament;" ∈ tT := tT_i (i := 224) (by decide +kernel) (by decide +kernel)
theorem tw_225 : Cond.fieldLink RX8 61 "MoraineSort" "outcome" "LMoraineSort$Outcome;" ∈ tT := tT_i (i := 225) (by decide +kernel) (by decide +kernel)
theorem tw_226 : Cond.fieldLink RX8 68 "MoraineSort" "splitting" "LMoraineSort$Splitting;" ∈ tT := tT_i (i := 226) (by decide +kernel) (by decide +kernel)
theorem tw_227 : Cond.fieldLink RX8 75 "MoraineSort" "keySet" "LMoraineSort$KeySet;" ∈ tT := tT_i (i := 227) (by decide +kernel) (by decide +kernel)
theorem tw_228 : Cond.laysFinal RX8 "MoraineSort" "files" "[LMoraineSort$Row;" ∈ tT := tT_i (i := 228) (by decide +kernel) (by decide +kernel)
theorem tw_230 : Cond.lays RX8 "MoraineSort" "fileCount" "I" ∈ tT := tT_i (i := 230) (by decide +kernel) (by decide +kernel)
theorem tw_232 : Cond.lays RX8 "MoraineSort" "page" "I" ∈ tT := tT_i (i := 232) (by decide +kernel) (by decide +kernel)
theorem tw_234 : Cond.lays RX8 "MoraineSort" "memory" "I" ∈ tT := tT_i (i := 234) (by decide +kernel) (by decide +kernel)
theorem tw_236 : Cond.lays RX8 "MoraineSort" "readPages" "I" ∈ tT := tT_i (i := 236) (by decide +kernel) (by decide +kernel)
theorem tw_238 : Cond.lays RX8 "MoraineSort" "writtenPages" "I" ∈ tT := tT_i (i := 238) (by decide +kernel) (by decide +kernel)
theorem tw_240 : Cond.lays RX8 "MoraineSort" "spiltPages" "I" ∈ tT := tT_i (i := 240) (by decide +kernel) (by decide +kernel)
theorem tw_242 : Cond.laysFinal RX8 "MoraineSort" "latest" "LMoraineSort$Plan;" ∈ tT := tT_i (i := 242) (by decide +kernel) (by decide +kernel)
theorem tw_244 : Cond.laysFinal RX8 "MoraineSort" "trial" "LMoraineSort$Plan;" ∈ tT := tT_i (i := 244) (by decide +kernel) (by decide +kernel)
theorem tw_246 : Cond.laysFinal RX8 "MoraineSort" "heap" "LMoraineSort$Heap;" ∈ tT := tT_i (i := 246) (by decide +kernel) (by decide +kernel)
theorem tw_248 : Cond.laysFinal RX8 "MoraineSort" "tournament" "LMoraineSort$Tournament;" ∈ tT := tT_i (i := 248) (by decide +kernel) (by decide +kernel)
theorem tw_250 : Cond.laysFinal RX8 "MoraineSort" "outcome" "LMoraineSort$Outcome;" ∈ tT := tT_i (i := 250) (by decide +kernel) (by decide +kernel)
theorem tw_252 : Cond.laysFinal RX8 "MoraineSort" "splitting" "LMoraineSort$Splitting;" ∈ tT := tT_i (i := 252) (by decide +kernel) (by decide +kernel)
theorem tw_254 : Cond.laysFinal RX8 "MoraineSort" "keySet" "LMoraineSort$KeySet;" ∈ tT := tT_i (i := 254) (by decide +kernel) (by decide +kernel)
theorem tw_257 : Cond.methodLink RL 30 yX8_setMemory ∈ tT := tT_i (i := 257) (by decide +kernel) (by decide +kernel)
theorem tw_258 : Cond.instanceMethod yX8_setMemory ∈ tT := tT_i (i := 258) (by decide +kernel) (by decide +kernel)
theorem tw_259 : Cond.selects RX8 yX8_setMemory yX8_setMemory ∈ tT := tT_i (i := 259) (by decide +kernel) (by decide +kernel)
theorem tw_260 : Cond.code yX8_setMemory cX8_setMemory 4 (some .int) ∈ tT := tT_i (i := 260) (by decide +kernel) (by decide +kernel)
theorem tw_328 : Cond.arrayClass .byte ∈ tT := tT_i (i := 328) (by decide +kernel) (by decide +kernel)
theorem tw_329 : Cond.methodLink RX8 87 yX8_needMemory ∈ tT := tT_i (i := 329) (by decide +kernel) (by decide +kernel)
theorem tw_330 : Cond.static yX8_needMemory ∈ tT := tT_i (i := 330) (by decide +kernel) (by decide +kernel)
theorem tw_331 : Cond.code yX8_needMemory cX8_needMemory 1 none ∈ tT := tT_i (i := 331) (by decide +kernel) (by decide +kernel)
theorem tw_333 : Cond.methodLink RL 33 yX8_addFile ∈ tT := tT_i (i := 333) (by decide +kernel) (by decide +kernel)
theorem tw_334 : Cond.instanceMethod yX8_addFile ∈ tT := tT_i (i := 334) (by decide +kernel) (by decide +kernel)
theorem tw_335 : Cond.selects RX8 yX8_addFile yX8_addFile ∈ tT := tT_i (i := 335) (by decide +kernel) (by decide +kernel)
theorem tw_336 : Cond.code yX8_addFile cX8_addFile 2 (some .int) ∈ tT := tT_i (i := 336) (by decide +kernel) (by decide +kernel)
theorem tw_337 : Cond.methodLink RX8 91 yX8_needRoom ∈ tT := tT_i (i := 337) (by decide +kernel) (by decide +kernel)
theorem tw_339 : Cond.instanceMethod yX8_needRoom ∈ tT := tT_i (i := 339) (by decide +kernel) (by decide +kernel)
theorem tw_340 : Cond.code yX8_needRoom cX8_needRoom 1 none ∈ tT := tT_i (i := 340) (by decide +kernel) (by decide +kernel)
theorem tw_357 : Cond.methodLink RX8 94 yX5_empty ∈ tT := tT_i (i := 357) (by decide +kernel) (by decide +kernel)
theorem tw_358 : Cond.instanceMethod yX5_empty ∈ tT := tT_i (i := 358) (by decide +kernel) (by decide +kernel)
theorem tw_359 : Cond.selects RX5 yX5_empty yX5_empty ∈ tT := tT_i (i := 359) (by decide +kernel) (by decide +kernel)
theorem tw_360 : Cond.code yX5_empty cX5_empty 1 none ∈ tT := tT_i (i := 360) (by decide +kernel) (by decide +kernel)
theorem tw_361 : Cond.methodLink RL 37 yX8_put ∈ tT := tT_i (i := 361) (by decide +kernel) (by decide +kernel)
theorem tw_362 : Cond.instanceMethod yX8_put ∈ tT := tT_i (i := 362) (by decide +kernel) (by decide +kernel)
theorem tw_363 : Cond.selects RX8 yX8_put yX8_put ∈ tT := tT_i (i := 363) (by decide +kernel) (by decide +kernel)
theorem tw_364 : Cond.code yX8_put cX8_put 5 (some .int) ∈ tT := tT_i (i := 364) (by decide +kernel) (by decide +kernel)
theorem tw_365 : Cond.methodLink RX8 97 yX8_rowOf ∈ tT := tT_i (i := 365) (by decide +kernel) (by decide +kernel)
theorem tw_367 : Cond.instanceMethod yX8_rowOf ∈ tT := tT_i (i := 367) (by decide +kernel) (by decide +kernel)
theorem tw_368 : Cond.code yX8_rowOf cX8_rowOf 2 (some (.object "MoraineSort$Row")) ∈ tT := tT_i (i := 368) (by decide +kernel) (by decide +kernel)
theorem tw_387 : Cond.methodLink RX8 105 yX8_needSpace ∈ tT := tT_i (i := 387) (by decide +kernel) (by decide +kernel)
theorem tw_388 : Cond.static yX8_needSpace ∈ tT := tT_i (i := 388) (by decide +kernel) (by decide +kernel)
theorem tw_389 : Cond.code yX8_needSpace cX8_needSpace 2 none ∈ tT := tT_i (i := 389) (by decide +kernel) (by decide +kernel)
theorem tw_390 : Cond.methodLink RX8 116 yX5_count ∈ tT := tT_i (i := 390) (by decide +kernel) (by decide +kernel)
theorem tw_391 : Cond.instanceMethod yX5_count ∈ tT := tT_i (i := 391) (by decide +kernel) (by decide +kernel)
theorem tw_392 : Cond.selects RX5 yX5_count yX5_count ∈ tT := tT_i (i := 392) (by decide +kernel) (by decide +kernel)
theorem tw_393 : Cond.code yX5_count cX5_count 1 (some .int) ∈ tT := tT_i (i := 393) (by decide +kernel) (by decide +kernel)
theorem tw_395 : Cond.methodLink RX8 109 yX7_forget ∈ tT := tT_i (i := 395) (by decide +kernel) (by decide +kernel)
theorem tw_396 : Cond.instanceMethod yX7_forget ∈ tT := tT_i (i := 396) (by decide +kernel) (by decide +kernel)
theorem tw_397 : Cond.selects RX7 yX7_forget yX7_forget ∈ tT := tT_i (i := 397) (by decide +kernel) (by decide +kernel)
theorem tw_398 : Cond.code yX7_forget cX7_forget 2 none ∈ tT := tT_i (i := 398) (by decide +kernel) (by decide +kernel)
theorem tw_399 : Cond.methodLink RX8 112 yX5_add ∈ tT := tT_i (i := 399) (by decide +kernel) (by decide +kernel)
theorem tw_400 : Cond.instanceMethod yX5_add ∈ tT := tT_i (i := 400) (by decide +kernel) (by decide +kernel)
theorem tw_401 : Cond.selects RX5 yX5_add yX5_add ∈ tT := tT_i (i := 401) (by decide +kernel) (by decide +kernel)
theorem tw_402 : Cond.code yX5_add cX5_add 3 none ∈ tT := tT_i (i := 402) (by decide +kernel) (by decide +kernel)
theorem tw_403 : Cond.methodLink RL 41 yX8_putRow ∈ tT := tT_i (i := 403) (by decide +kernel) (by decide +kernel)
theorem tw_404 : Cond.instanceMethod yX8_putRow ∈ tT := tT_i (i := 404) (by decide +kernel) (by decide +kernel)
theorem tw_405 : Cond.selects RX8 yX8_putRow yX8_putRow ∈ tT := tT_i (i := 405) (by decide +kernel) (by decide +kernel)
theorem tw_406 : Cond.code yX8_putRow cX8_putRow 8 (some .int) ∈ tT := tT_i (i := 406) (by decide +kernel) (by decide +kernel)
theorem tw_411 : Cond.methodLink RX8 128 yJ9_floorMod_7cf53 ∈ tT := tT_i (i := 411) (by decide +kernel) (by decide +kernel)
theorem tw_412 : Cond.static yJ9_floorMod_7cf53 ∈ tT := tT_i (i := 412) (by decide +kernel) (by decide +kernel)
theorem tw_413 : Cond.code yJ9_floorMod_7cf53 cJ9_floorMod_7cf53 3 (some .int) ∈ tT := tT_i (i := 413) (by decide +kernel) (by decide +kernel)
theorem tw_414 : Cond.methodLink RL 9 yX8_size ∈ tT := tT_i (i := 414) (by decide +kernel) (by decide +kernel)
theorem tw_415 : Cond.instanceMethod yX8_size ∈ tT := tT_i (i := 415) (by decide +kernel) (by decide +kernel)
theorem tw_416 : Cond.selects RX8 yX8_size yX8_size ∈ tT := tT_i (i := 416) (by decide +kernel) (by decide +kernel)
theorem tw_417 : Cond.code yX8_size cX8_size 2 (some .int) ∈ tT := tT_i (i := 417) (by decide +kernel) (by decide +kernel)
theorem tw_418 : Cond.methodLink RL 15 yX8_at ∈ tT := tT_i (i := 418) (by decide +kernel) (by decide +kernel)
theorem tw_419 : Cond.instanceMethod yX8_at ∈ tT := tT_i (i := 419) (by decide +kernel) (by decide +kernel)
theorem tw_420 : Cond.selects RX8 yX8_at yX8_at ∈ tT := tT_i (i := 420) (by decide +kernel) (by decide +kernel)
theorem tw_421 : Cond.code yX8_at cX8_at 5 (some .int) ∈ tT := tT_i (i := 421) (by decide +kernel) (by decide +kernel)
theorem tw_422 : Cond.methodLink RX8 139 yX5_has ∈ tT := tT_i (i := 422) (by decide +kernel) (by decide +kernel)
theorem tw_423 : Cond.instanceMethod yX5_has ∈ tT := tT_i (i := 423) (by decide +kernel) (by decide +kernel)
theorem tw_424 : Cond.selects RX5 yX5_has yX5_has ∈ tT := tT_i (i := 424) (by decide +kernel) (by decide +kernel)
theorem tw_425 : Cond.code yX5_has cX5_has 2 (some .boolean) ∈ tT := tT_i (i := 425) (by decide +kernel) (by decide +kernel)
theorem tw_427 : Cond.methodLink RX8 148 yX5_markAt ∈ tT := tT_i (i := 427) (by decide +kernel) (by decide +kernel)
theorem tw_428 : Cond.instanceMethod yX5_markAt ∈ tT := tT_i (i := 428) (by decide +kernel) (by decide +kernel)
theorem tw_429 : Cond.selects RX5 yX5_markAt yX5_markAt ∈ tT := tT_i (i := 429) (by decide +kernel) (by decide +kernel)
theorem tw_430 : Cond.code yX5_markAt cX5_markAt 2 (some .int) ∈ tT := tT_i (i := 430) (by decide +kernel) (by decide +kernel)
theorem tw_431 : Cond.methodLink RX8 152 yX5_keyAt ∈ tT := tT_i (i := 431) (by decide +kernel) (by decide +kernel)
theorem tw_432 : Cond.instanceMethod yX5_keyAt ∈ tT := tT_i (i := 432) (by decide +kernel) (by decide +kernel)
theorem tw_433 : Cond.selects RX5 yX5_keyAt yX5_keyAt ∈ tT := tT_i (i := 433) (by decide +kernel) (by decide +kernel)
theorem tw_434 : Cond.code yX5_keyAt cX5_keyAt 2 (some .int) ∈ tT := tT_i (i := 434) (by decide +kernel) (by decide +kernel)
theorem tw_435 : Cond.methodLink RL 67 yX8_order ∈ tT := tT_i (i := 435) (by decide +kernel) (by decide +kernel)
theorem tw_436 : Cond.instanceMethod yX8_order ∈ tT := tT_i (i := 436) (by decide +kernel) (by decide +kernel)
theorem tw_437 : Cond.selects RX8 yX8_order yX8_order ∈ tT := tT_i (i := 437) (by decide +kernel) (by decide +kernel)
theorem tw_438 : Cond.code yX8_order cX8_order 2 (some .int) ∈ tT := tT_i (i := 438) (by decide +kernel) (by decide +kernel)
theorem tw_439 : Cond.methodLink RX8 158 yX8_orderOf ∈ tT := tT_i (i := 439) (by decide +kernel) (by decide +kernel)
theorem tw_440 : Cond.static yX8_orderOf ∈ tT := tT_i (i := 440) (by decide +kernel) (by decide +kernel)
theorem tw_441 : Cond.code yX8_orderOf cX8_orderOf 1 (some .int) ∈ tT := tT_i (i := 441) (by decide +kernel) (by decide +kernel)
theorem tw_442 : Cond.methodLink RX8 265 yX5_isUp ∈ tT := tT_i (i := 442) (by decide +kernel) (by decide +kernel)
theorem tw_443 : Cond.instanceMethod yX5_isUp ∈ tT := tT_i (i := 443) (by decide +kernel) (by decide +kernel)
theorem tw_444 : Cond.selects RX5 yX5_isUp yX5_isUp ∈ tT := tT_i (i := 444) (by decide +kernel) (by decide +kernel)
theorem tw_445 : Cond.code yX5_isUp cX5_isUp 2 (some .boolean) ∈ tT := tT_i (i := 445) (by decide +kernel) (by decide +kernel)
theorem tw_446 : Cond.methodLink RX8 269 yX5_isDown ∈ tT := tT_i (i := 446) (by decide +kernel) (by decide +kernel)
theorem tw_447 : Cond.instanceMethod yX5_isDown ∈ tT := tT_i (i := 447) (by decide +kernel) (by decide +kernel)
theorem tw_448 : Cond.selects RX5 yX5_isDown yX5_isDown ∈ tT := tT_i (i := 448) (by decide +kernel) (by decide +kernel)
theorem tw_449 : Cond.code yX5_isDown cX5_isDown 2 (some .boolean) ∈ tT := tT_i (i := 449) (by decide +kernel) (by decide +kernel)
theorem tw_450 : Cond.methodLink RL 111 yX8_distinct ∈ tT := tT_i (i := 450) (by decide +kernel) (by decide +kernel)
theorem tw_451 : Cond.instanceMethod yX8_distinct ∈ tT := tT_i (i := 451) (by decide +kernel) (by decide +kernel)
theorem tw_452 : Cond.selects RX8 yX8_distinct yX8_distinct ∈ tT := tT_i (i := 452) (by decide +kernel) (by decide +kernel)
theorem tw_453 : Cond.code yX8_distinct cX8_distinct 2 (some .int) ∈ tT := tT_i (i := 453) (by decide +kernel) (by decide +kernel)
theorem tw_454 : Cond.methodLink RX8 162 yX8_keysIn ∈ tT := tT_i (i := 454) (by decide +kernel) (by decide +kernel)
theorem tw_456 : Cond.instanceMethod yX8_keysIn ∈ tT := tT_i (i := 456) (by decide +kernel) (by decide +kernel)
theorem tw_457 : Cond.code yX8_keysIn cX8_keysIn 4 (some .int) ∈ tT := tT_i (i := 457) (by decide +kernel) (by decide +kernel)
theorem tw_458 : Cond.methodLink RX8 286 yX1_clear ∈ tT := tT_i (i := 458) (by decide +kernel) (by decide +kernel)
theorem tw_459 : Cond.instanceMethod yX1_clear ∈ tT := tT_i (i := 459) (by decide +kernel) (by decide +kernel)
theorem tw_460 : Cond.selects RX1 yX1_clear yX1_clear ∈ tT := tT_i (i := 460) (by decide +kernel) (by decide +kernel)
theorem tw_461 : Cond.code yX1_clear cX1_clear 2 none ∈ tT := tT_i (i := 461) (by decide +kernel) (by decide +kernel)
theorem tw_462 : Cond.methodLink RX8 287 yX1_add ∈ tT := tT_i (i := 462) (by decide +kernel) (by decide +kernel)
theorem tw_463 : Cond.instanceMethod yX1_add ∈ tT := tT_i (i := 463) (by decide +kernel) (by decide +kernel)
theorem tw_464 : Cond.selects RX1 yX1_add yX1_add ∈ tT := tT_i (i := 464) (by decide +kernel) (by decide +kernel)
theorem tw_465 : Cond.code yX1_add cX1_add 3 (some .boolean) ∈ tT := tT_i (i := 465) (by decide +kernel) (by decide +kernel)
theorem tw_466 : Cond.methodLink RX1 15 yX1_wordOf ∈ tT := tT_i (i := 466) (by decide +kernel) (by decide +kernel)
theorem tw_467 : Cond.static yX1_wordOf ∈ tT := tT_i (i := 467) (by decide +kernel) (by decide +kernel)
theorem tw_468 : Cond.code yX1_wordOf cX1_wordOf 1 (some .int) ∈ tT := tT_i (i := 468) (by decide +kernel) (by decide +kernel)
theorem tw_469 : Cond.methodLink RX1 19 yX1_bitOf ∈ tT := tT_i (i := 469) (by decide +kernel) (by decide +kernel)
theorem tw_470 : Cond.static yX1_bitOf ∈ tT := tT_i (i := 470) (by decide +kernel) (by decide +kernel)
theorem tw_471 : Cond.code yX1_bitOf cX1_bitOf 1 (some .long) ∈ tT := tT_i (i := 471) (by decide +kernel) (by decide +kernel)
theorem tw_472 : Cond.methodLink RL 70 yX8_inversions ∈ tT := tT_i (i := 472) (by decide +kernel) (by decide +kernel)
theorem tw_473 : Cond.instanceMethod yX8_inversions ∈ tT := tT_i (i := 473) (by decide +kernel) (by decide +kernel)
theorem tw_474 : Cond.selects RX8 yX8_inversions yX8_inversions ∈ tT := tT_i (i := 474) (by decide +kernel) (by decide +kernel)
theorem tw_475 : Cond.code yX8_inversions cX8_inversions 6 (some .int) ∈ tT := tT_i (i := 475) (by decide +kernel) (by decide +kernel)
theorem tw_476 : Cond.methodLink RL 53 yX8_read ∈ tT := tT_i (i := 476) (by decide +kernel) (by decide +kernel)
theorem tw_477 : Cond.instanceMethod yX8_read ∈ tT := tT_i (i := 477) (by decide +kernel) (by decide +kernel)
theorem tw_478 : Cond.selects RX8 yX8_read yX8_read ∈ tT := tT_i (i := 478) (by decide +kernel) (by decide +kernel)
theorem tw_479 : Cond.code yX8_read cX8_read 1 (some .int) ∈ tT := tT_i (i := 479) (by decide +kernel) (by decide +kernel)
theorem tw_480 : Cond.methodLink RL 56 yX8_written ∈ tT := tT_i (i := 480) (by decide +kernel) (by decide +kernel)
theorem tw_481 : Cond.instanceMethod yX8_written ∈ tT := tT_i (i := 481) (by decide +kernel) (by decide +kernel)
theorem tw_482 : Cond.selects RX8 yX8_written yX8_written ∈ tT := tT_i (i := 482) (by decide +kernel) (by decide +kernel)
theorem tw_483 : Cond.code yX8_written cX8_written 1 (some .int) ∈ tT := tT_i (i := 483) (by decide +kernel) (by decide +kernel)
theorem tw_484 : Cond.methodLink RL 63 yX8_sort ∈ tT := tT_i (i := 484) (by decide +kernel) (by decide +kernel)
theorem tw_485 : Cond.instanceMethod yX8_sort ∈ tT := tT_i (i := 485) (by decide +kernel) (by decide +kernel)
theorem tw_486 : Cond.selects RX8 yX8_sort yX8_sort ∈ tT := tT_i (i := 486) (by decide +kernel) (by decide +kernel)
theorem tw_487 : Cond.code yX8_sort cX8_sort 6 (some .int) ∈ tT := tT_i (i := 487) (by decide +kernel) (by decide +kernel)
theorem tw_488 : Cond.methodLink RX8 165 yX4_make ∈ tT := tT_i (i := 488) (by decide +kernel) (by decide +kernel)
theorem tw_489 : Cond.instanceMethod yX4_make ∈ tT := tT_i (i := 489) (by decide +kernel) (by decide +kernel)
theorem tw_490 : Cond.selects RX4 yX4_make yX4_make ∈ tT := tT_i (i := 490) (by decide +kernel) (by decide +kernel)
theorem tw_491 : Cond.code yX4_make cX4_make 7 none ∈ tT := tT_i (i := 491) (by decide +kernel) (by decide +kernel)
theorem tw_492 : Cond.methodLink RX4 44 yX2_empty ∈ tT := tT_i (i := 492) (by decide +kernel) (by decide +kernel)
theorem tw_493 : Cond.instanceMethod yX2_empty ∈ tT := tT_i (i := 493) (by decide +kernel) (by decide +kernel)
theorem tw_494 : Cond.selects RX2 yX2_empty yX2_empty ∈ tT := tT_i (i := 494) (by decide +kernel) (by decide +kernel)
theorem tw_495 : Cond.code yX2_empty cX2_empty 1 none ∈ tT := tT_i (i := 495) (by decide +kernel) (by decide +kernel)
theorem tw_496 : Cond.methodLink RX4 47 yX4_runByReplacing ∈ tT := tT_i (i := 496) (by decide +kernel) (by decide +kernel)
theorem tw_498 : Cond.instanceMethod yX4_runByReplacing ∈ tT := tT_i (i := 498) (by decide +kernel) (by decide +kernel)
theorem tw_499 : Cond.code yX4_runByReplacing cX4_runByReplacing 12 none ∈ tT := tT_i (i := 499) (by decide +kernel) (by decide +kernel)
theorem tw_500 : Cond.methodLink RX4 87 yX0_empty ∈ tT := tT_i (i := 500) (by decide +kernel) (by decide +kernel)
theorem tw_501 : Cond.instanceMethod yX0_empty ∈ tT := tT_i (i := 501) (by decide +kernel) (by decide +kernel)
theorem tw_502 : Cond.selects RX0 yX0_empty yX0_empty ∈ tT := tT_i (i := 502) (by decide +kernel) (by decide +kernel)
theorem tw_503 : Cond.code yX0_empty cX0_empty 1 none ∈ tT := tT_i (i := 503) (by decide +kernel) (by decide +kernel)
theorem tw_504 : Cond.methodLink RX4 51 yX5_count ∈ tT := tT_i (i := 504) (by decide +kernel) (by decide +kernel)
theorem tw_505 : Cond.methodLink RX4 81 yJ9_min_7cf53 ∈ tT := tT_i (i := 505) (by decide +kernel) (by decide +kernel)
theorem tw_506 : Cond.static yJ9_min_7cf53 ∈ tT := tT_i (i := 506) (by decide +kernel) (by decide +kernel)
theorem tw_507 : Cond.code yJ9_min_7cf53 cJ9_min_7cf53 2 (some .int) ∈ tT := tT_i (i := 507) (by decide +kernel) (by decide +kernel)
theorem tw_508 : Cond.methodLinkNest RX4 88 yX8_weightOf RX8 ∈ lw_tbl := List.mem_append_right _ (List.mem_of_getElem? (i := 508) (by decide +kernel))
theorem tw_509 : Cond.static yX8_weightOf ∈ tT := tT_i (i := 509) (by decide +kernel) (by decide +kernel)
theorem tw_510 : Cond.code yX8_weightOf cX8_weightOf 4 (some .int) ∈ tT := tT_i (i := 510) (by decide +kernel) (by decide +kernel)
theorem tw_511 : Cond.methodLink RX4 92 yX0_push ∈ tT := tT_i (i := 511) (by decide +kernel) (by decide +kernel)
theorem tw_512 : Cond.instanceMethod yX0_push ∈ tT := tT_i (i := 512) (by decide +kernel) (by decide +kernel)
theorem tw_513 : Cond.selects RX0 yX0_push yX0_push ∈ tT := tT_i (i := 513) (by decide +kernel) (by decide +kernel)
theorem tw_514 : Cond.code yX0_push cX0_push 3 none ∈ tT := tT_i (i := 514) (by decide +kernel) (by decide +kernel)
theorem tw_515 : Cond.methodLink RX4 95 yX0_pull ∈ tT := tT_i (i := 515) (by decide +kernel) (by decide +kernel)
theorem tw_516 : Cond.instanceMethod yX0_pull ∈ tT := tT_i (i := 516) (by decide +kernel) (by decide +kernel)
theorem tw_517 : Cond.selects RX0 yX0_pull yX0_pull ∈ tT := tT_i (i := 517) (by decide +kernel) (by decide +kernel)
theorem tw_518 : Cond.code yX0_pull cX0_pull 2 (some .int) ∈ tT := tT_i (i := 518) (by decide +kernel) (by decide +kernel)
theorem tw_519 : Cond.methodLink RX0 19 yX0_sinkFromTop ∈ tT := tT_i (i := 519) (by decide +kernel) (by decide +kernel)
theorem tw_521 : Cond.instanceMethod yX0_sinkFromTop ∈ tT := tT_i (i := 521) (by decide +kernel) (by decide +kernel)
theorem tw_522 : Cond.code yX0_sinkFromTop cX0_sinkFromTop 5 none ∈ tT := tT_i (i := 522) (by decide +kernel) (by decide +kernel)
theorem tw_523 : Cond.constant RX4 98 239880 ∈ tT := tT_i (i := 523) (by decide +kernel) (by decide +kernel)
theorem tw_524 : Cond.methodLink RX4 84 yX2_add ∈ tT := tT_i (i := 524) (by decide +kernel) (by decide +kernel)
theorem tw_525 : Cond.instanceMethod yX2_add ∈ tT := tT_i (i := 525) (by decide +kernel) (by decide +kernel)
theorem tw_526 : Cond.selects RX2 yX2_add yX2_add ∈ tT := tT_i (i := 526) (by decide +kernel) (by decide +kernel)
theorem tw_527 : Cond.code yX2_add cX2_add 2 none ∈ tT := tT_i (i := 527) (by decide +kernel) (by decide +kernel)
theorem tw_528 : Cond.methodLink RX4 57 yX4_runByLoading ∈ tT := tT_i (i := 528) (by decide +kernel) (by decide +kernel)
theorem tw_530 : Cond.instanceMethod yX4_runByLoading ∈ tT := tT_i (i := 530) (by decide +kernel) (by decide +kernel)
theorem tw_531 : Cond.code yX4_runByLoading cX4_runByLoading 5 none ∈ tT := tT_i (i := 531) (by decide +kernel) (by decide +kernel)
theorem tw_532 : Cond.methodLink RX4 75 yJ9_max_7cf53 ∈ tT := tT_i (i := 532) (by decide +kernel) (by decide +kernel)
theorem tw_533 : Cond.static yJ9_max_7cf53 ∈ tT := tT_i (i := 533) (by decide +kernel) (by decide +kernel)
theorem tw_534 : Cond.code yJ9_max_7cf53 cJ9_max_7cf53 2 (some .int) ∈ tT := tT_i (i := 534) (by decide +kernel) (by decide +kernel)
theorem tw_535 : Cond.methodLink RX4 61 yX4_countRuns ∈ tT := tT_i (i := 535) (by decide +kernel) (by decide +kernel)
theorem tw_537 : Cond.instanceMethod yX4_countRuns ∈ tT := tT_i (i := 537) (by decide +kernel) (by decide +kernel)
theorem tw_538 : Cond.code yX4_countRuns cX4_countRuns 3 none ∈ tT := tT_i (i := 538) (by decide +kernel) (by decide +kernel)
theorem tw_539 : Cond.methodLinkNest RX4 99 yX8_pagesFor RX8 ∈ lw_tbl := List.mem_append_right _ (List.mem_of_getElem? (i := 539) (by decide +kernel))
theorem tw_540 : Cond.static yX8_pagesFor ∈ tT := tT_i (i := 540) (by decide +kernel) (by decide +kernel)
theorem tw_541 : Cond.code yX8_pagesFor cX8_pagesFor 2 (some .int) ∈ tT := tT_i (i := 541) (by decide +kernel) (by decide +kernel)
theorem tw_542 : Cond.methodLink RX4 102 yX2_count ∈ tT := tT_i (i := 542) (by decide +kernel) (by decide +kernel)
theorem tw_543 : Cond.instanceMethod yX2_count ∈ tT := tT_i (i := 543) (by decide +kernel) (by decide +kernel)
theorem tw_544 : Cond.selects RX2 yX2_count yX2_count ∈ tT := tT_i (i := 544) (by decide +kernel) (by decide +kernel)
theorem tw_545 : Cond.code yX2_count cX2_count 1 (some .int) ∈ tT := tT_i (i := 545) (by decide +kernel) (by decide +kernel)
theorem tw_546 : Cond.methodLink RX4 103 yX2_valueAt ∈ tT := tT_i (i := 546) (by decide +kernel) (by decide +kernel)
theorem tw_547 : Cond.instanceMethod yX2_valueAt ∈ tT := tT_i (i := 547) (by decide +kernel) (by decide +kernel)
theorem tw_548 : Cond.selects RX2 yX2_valueAt yX2_valueAt ∈ tT := tT_i (i := 548) (by decide +kernel) (by decide +kernel)
theorem tw_549 : Cond.code yX2_valueAt cX2_valueAt 2 (some .int) ∈ tT := tT_i (i := 549) (by decide +kernel) (by decide +kernel)
theorem tw_550 : Cond.methodLink RX4 65 yX2_addAll ∈ tT := tT_i (i := 550) (by decide +kernel) (by decide +kernel)
theorem tw_551 : Cond.instanceMethod yX2_addAll ∈ tT := tT_i (i := 551) (by decide +kernel) (by decide +kernel)
theorem tw_552 : Cond.selects RX2 yX2_addAll yX2_addAll ∈ tT := tT_i (i := 552) (by decide +kernel) (by decide +kernel)
theorem tw_553 : Cond.code yX2_addAll cX2_addAll 3 none ∈ tT := tT_i (i := 553) (by decide +kernel) (by decide +kernel)
theorem tw_554 : Cond.methodLink RX2 19 yX2_add ∈ tT := tT_i (i := 554) (by decide +kernel) (by decide +kernel)
theorem tw_555 : Cond.methodLink RX4 69 yX4_mergeByLeast ∈ tT := tT_i (i := 555) (by decide +kernel) (by decide +kernel)
theorem tw_557 : Cond.instanceMethod yX4_mergeByLeast ∈ tT := tT_i (i := 557) (by decide +kernel) (by decide +kernel)
theorem tw_558 : Cond.code yX4_mergeByLeast cX4_mergeByLeast 4 none ∈ tT := tT_i (i := 558) (by decide +kernel) (by decide +kernel)
theorem tw_559 : Cond.methodLink RX4 119 yJ9_floorMod_7cf53 ∈ tT := tT_i (i := 559) (by decide +kernel) (by decide +kernel)
theorem tw_560 : Cond.methodLink RX4 122 yX4_mergeLeast ∈ tT := tT_i (i := 560) (by decide +kernel) (by decide +kernel)
theorem tw_562 : Cond.instanceMethod yX4_mergeLeast ∈ tT := tT_i (i := 562) (by decide +kernel) (by decide +kernel)
theorem tw_563 : Cond.code yX4_mergeLeast cX4_mergeLeast 5 none ∈ tT := tT_i (i := 563) (by decide +kernel) (by decide +kernel)
theorem tw_564 : Cond.methodLink RX4 125 yX2_leastPlace ∈ tT := tT_i (i := 564) (by decide +kernel) (by decide +kernel)
theorem tw_565 : Cond.instanceMethod yX2_leastPlace ∈ tT := tT_i (i := 565) (by decide +kernel) (by decide +kernel)
theorem tw_566 : Cond.selects RX2 yX2_leastPlace yX2_leastPlace ∈ tT := tT_i (i := 566) (by decide +kernel) (by decide +kernel)
theorem tw_567 : Cond.code yX2_leastPlace cX2_leastPlace 3 (some .int) ∈ tT := tT_i (i := 567) (by decide +kernel) (by decide +kernel)
theorem tw_568 : Cond.methodLink RX4 128 yX2_takeAt ∈ tT := tT_i (i := 568) (by decide +kernel) (by decide +kernel)
theorem tw_569 : Cond.instanceMethod yX2_takeAt ∈ tT := tT_i (i := 569) (by decide +kernel) (by decide +kernel)
theorem tw_570 : Cond.selects RX2 yX2_takeAt yX2_takeAt ∈ tT := tT_i (i := 570) (by decide +kernel) (by decide +kernel)
theorem tw_571 : Cond.code yX2_takeAt cX2_takeAt 4 (some .int) ∈ tT := tT_i (i := 571) (by decide +kernel) (by decide +kernel)
theorem tw_572 : Cond.methodLink RX4 110 yX4_noteMerge ∈ tT := tT_i (i := 572) (by decide +kernel) (by decide +kernel)
theorem tw_574 : Cond.instanceMethod yX4_noteMerge ∈ tT := tT_i (i := 574) (by decide +kernel) (by decide +kernel)
theorem tw_575 : Cond.code yX4_noteMerge cX4_noteMerge 3 none ∈ tT := tT_i (i := 575) (by decide +kernel) (by decide +kernel)
theorem tw_576 : Cond.methodLink RX4 72 yX4_mergeByLevels ∈ tT := tT_i (i := 576) (by decide +kernel) (by decide +kernel)
theorem tw_578 : Cond.instanceMethod yX4_mergeByLevels ∈ tT := tT_i (i := 578) (by decide +kernel) (by decide +kernel)
theorem tw_579 : Cond.code yX4_mergeByLevels cX4_mergeByLevels 3 none ∈ tT := tT_i (i := 579) (by decide +kernel) (by decide +kernel)
theorem tw_580 : Cond.methodLink RX4 107 yX4_mergeLevel ∈ tT := tT_i (i := 580) (by decide +kernel) (by decide +kernel)
theorem tw_582 : Cond.instanceMethod yX4_mergeLevel ∈ tT := tT_i (i := 582) (by decide +kernel) (by decide +kernel)
theorem tw_583 : Cond.code yX4_mergeLevel cX4_mergeLevel 8 none ∈ tT := tT_i (i := 583) (by decide +kernel) (by decide +kernel)
theorem tw_584 : Cond.methodLink RX4 113 yX2_set ∈ tT := tT_i (i := 584) (by decide +kernel) (by decide +kernel)
theorem tw_585 : Cond.instanceMethod yX2_set ∈ tT := tT_i (i := 585) (by decide +kernel) (by decide +kernel)
theorem tw_586 : Cond.selects RX2 yX2_set yX2_set ∈ tT := tT_i (i := 586) (by decide +kernel) (by decide +kernel)
theorem tw_587 : Cond.code yX2_set cX2_set 3 none ∈ tT := tT_i (i := 587) (by decide +kernel) (by decide +kernel)
theorem tw_588 : Cond.methodLink RX4 116 yX2_cutTo ∈ tT := tT_i (i := 588) (by decide +kernel) (by decide +kernel)
theorem tw_589 : Cond.instanceMethod yX2_cutTo ∈ tT := tT_i (i := 589) (by decide +kernel) (by decide +kernel)
theorem tw_590 : Cond.selects RX2 yX2_cutTo yX2_cutTo ∈ tT := tT_i (i := 590) (by decide +kernel) (by decide +kernel)
theorem tw_591 : Cond.code yX2_cutTo cX2_cutTo 2 none ∈ tT := tT_i (i := 591) (by decide +kernel) (by decide +kernel)
theorem tw_592 : Cond.methodLink RX8 169 yX3_clear ∈ tT := tT_i (i := 592) (by decide +kernel) (by decide +kernel)
theorem tw_593 : Cond.instanceMethod yX3_clear ∈ tT := tT_i (i := 593) (by decide +kernel) (by decide +kernel)
theorem tw_594 : Cond.selects RX3 yX3_clear yX3_clear ∈ tT := tT_i (i := 594) (by decide +kernel) (by decide +kernel)
theorem tw_595 : Cond.code yX3_clear cX3_clear 1 none ∈ tT := tT_i (i := 595) (by decide +kernel) (by decide +kernel)
theorem tw_596 : Cond.methodLink RX3 31 yX5_empty ∈ tT := tT_i (i := 596) (by decide +kernel) (by decide +kernel)
theorem tw_597 : Cond.methodLink RX8 176 yX8_giveSorted ∈ tT := tT_i (i := 597) (by decide +kernel) (by decide +kernel)
theorem tw_599 : Cond.instanceMethod yX8_giveSorted ∈ tT := tT_i (i := 599) (by decide +kernel) (by decide +kernel)
theorem tw_600 : Cond.code yX8_giveSorted cX8_giveSorted 5 none ∈ tT := tT_i (i := 600) (by decide +kernel) (by decide +kernel)
theorem tw_601 : Cond.methodLink RX8 336 yX0_empty ∈ tT := tT_i (i := 601) (by decide +kernel) (by decide +kernel)
theorem tw_602 : Cond.methodLink RX8 337 yX8_weightOf ∈ tT := tT_i (i := 602) (by decide +kernel) (by decide +kernel)
theorem tw_603 : Cond.methodLink RX8 341 yX0_push ∈ tT := tT_i (i := 603) (by decide +kernel) (by decide +kernel)
theorem tw_604 : Cond.methodLink RX8 344 yX0_pull ∈ tT := tT_i (i := 604) (by decide +kernel) (by decide +kernel)
theorem tw_605 : Cond.methodLink RX8 347 yX3_give ∈ tT := tT_i (i := 605) (by decide +kernel) (by decide +kernel)
theorem tw_606 : Cond.instanceMethod yX3_give ∈ tT := tT_i (i := 606) (by decide +kernel) (by decide +kernel)
theorem tw_607 : Cond.selects RX3 yX3_give yX3_give ∈ tT := tT_i (i := 607) (by decide +kernel) (by decide +kernel)
theorem tw_608 : Cond.code yX3_give cX3_give 3 none ∈ tT := tT_i (i := 608) (by decide +kernel) (by decide +kernel)
theorem tw_609 : Cond.methodLink RX3 34 yX5_add ∈ tT := tT_i (i := 609) (by decide +kernel) (by decide +kernel)
theorem tw_610 : Cond.methodLink RX8 180 yX8_land ∈ tT := tT_i (i := 610) (by decide +kernel) (by decide +kernel)
theorem tw_612 : Cond.instanceMethod yX8_land ∈ tT := tT_i (i := 612) (by decide +kernel) (by decide +kernel)
theorem tw_613 : Cond.code yX8_land cX8_land 2 (some .int) ∈ tT := tT_i (i := 613) (by decide +kernel) (by decide +kernel)
theorem tw_614 : Cond.methodLink RX8 326 yX8_addFile ∈ tT := tT_i (i := 614) (by decide +kernel) (by decide +kernel)
theorem tw_615 : Cond.methodLink RX8 333 yX5_addAll ∈ tT := tT_i (i := 615) (by decide +kernel) (by decide +kernel)
theorem tw_616 : Cond.instanceMethod yX5_addAll ∈ tT := tT_i (i := 616) (by decide +kernel) (by decide +kernel)
theorem tw_617 : Cond.selects RX5 yX5_addAll yX5_addAll ∈ tT := tT_i (i := 617) (by decide +kernel) (by decide +kernel)
theorem tw_618 : Cond.code yX5_addAll cX5_addAll 3 none ∈ tT := tT_i (i := 618) (by decide +kernel) (by decide +kernel)
theorem tw_619 : Cond.methodLink RX5 22 yX5_add ∈ tT := tT_i (i := 619) (by decide +kernel) (by decide +kernel)
theorem tw_620 : Cond.methodLink RL 77 yX8_runs ∈ tT := tT_i (i := 620) (by decide +kernel) (by decide +kernel)
theorem tw_621 : Cond.instanceMethod yX8_runs ∈ tT := tT_i (i := 621) (by decide +kernel) (by decide +kernel)
theorem tw_622 : Cond.selects RX8 yX8_runs yX8_runs ∈ tT := tT_i (i := 622) (by decide +kernel) (by decide +kernel)
theorem tw_623 : Cond.code yX8_runs cX8_runs 1 (some .int) ∈ tT := tT_i (i := 623) (by decide +kernel) (by decide +kernel)
theorem tw_624 : Cond.methodLink RX8 187 yX2_count ∈ tT := tT_i (i := 624) (by decide +kernel) (by decide +kernel)
theorem tw_625 : Cond.methodLink RL 80 yX8_runSize ∈ tT := tT_i (i := 625) (by decide +kernel) (by decide +kernel)
theorem tw_626 : Cond.instanceMethod yX8_runSize ∈ tT := tT_i (i := 626) (by decide +kernel) (by decide +kernel)
theorem tw_627 : Cond.selects RX8 yX8_runSize yX8_runSize ∈ tT := tT_i (i := 627) (by decide +kernel) (by decide +kernel)
theorem tw_628 : Cond.code yX8_runSize cX8_runSize 2 (some .int) ∈ tT := tT_i (i := 628) (by decide +kernel) (by decide +kernel)
theorem tw_629 : Cond.methodLink RX8 190 yX2_has ∈ tT := tT_i (i := 629) (by decide +kernel) (by decide +kernel)
theorem tw_630 : Cond.instanceMethod yX2_has ∈ tT := tT_i (i := 630) (by decide +kernel) (by decide +kernel)
theorem tw_631 : Cond.selects RX2 yX2_has yX2_has ∈ tT := tT_i (i := 631) (by decide +kernel) (by decide +kernel)
theorem tw_632 : Cond.code yX2_has cX2_has 2 (some .boolean) ∈ tT := tT_i (i := 632) (by decide +kernel) (by decide +kernel)
theorem tw_634 : Cond.methodLink RX8 193 yX2_valueAt ∈ tT := tT_i (i := 634) (by decide +kernel) (by decide +kernel)
theorem tw_635 : Cond.methodLink RL 83 yX8_merges ∈ tT := tT_i (i := 635) (by decide +kernel) (by decide +kernel)
theorem tw_636 : Cond.instanceMethod yX8_merges ∈ tT := tT_i (i := 636) (by decide +kernel) (by decide +kernel)
theorem tw_637 : Cond.selects RX8 yX8_merges yX8_merges ∈ tT := tT_i (i := 637) (by decide +kernel) (by decide +kernel)
theorem tw_638 : Cond.code yX8_merges cX8_merges 1 (some .int) ∈ tT := tT_i (i := 638) (by decide +kernel) (by decide +kernel)
theorem tw_639 : Cond.methodLink RL 86 yX8_merge ∈ tT := tT_i (i := 639) (by decide +kernel) (by decide +kernel)
theorem tw_640 : Cond.instanceMethod yX8_merge ∈ tT := tT_i (i := 640) (by decide +kernel) (by decide +kernel)
theorem tw_641 : Cond.selects RX8 yX8_merge yX8_merge ∈ tT := tT_i (i := 641) (by decide +kernel) (by decide +kernel)
theorem tw_642 : Cond.code yX8_merge cX8_merge 3 (some .int) ∈ tT := tT_i (i := 642) (by decide +kernel) (by decide +kernel)
theorem tw_645 : Cond.methodLink RL 89 yX8_begin ∈ tT := tT_i (i := 645) (by decide +kernel) (by decide +kernel)
theorem tw_646 : Cond.instanceMethod yX8_begin ∈ tT := tT_i (i := 646) (by decide +kernel) (by decide +kernel)
theorem tw_647 : Cond.selects RX8 yX8_begin yX8_begin ∈ tT := tT_i (i := 647) (by decide +kernel) (by decide +kernel)
theorem tw_648 : Cond.code yX8_begin cX8_begin 4 (some .int) ∈ tT := tT_i (i := 648) (by decide +kernel) (by decide +kernel)
theorem tw_651 : Cond.methodLink RX8 210 yX8_needUp ∈ tT := tT_i (i := 651) (by decide +kernel) (by decide +kernel)
theorem tw_652 : Cond.static yX8_needUp ∈ tT := tT_i (i := 652) (by decide +kernel) (by decide +kernel)
theorem tw_653 : Cond.code yX8_needUp cX8_needUp 1 none ∈ tT := tT_i (i := 653) (by decide +kernel) (by decide +kernel)
theorem tw_655 : Cond.methodLink RX8 214 yX7_prepare ∈ tT := tT_i (i := 655) (by decide +kernel) (by decide +kernel)
theorem tw_656 : Cond.instanceMethod yX7_prepare ∈ tT := tT_i (i := 656) (by decide +kernel) (by decide +kernel)
theorem tw_657 : Cond.selects RX7 yX7_prepare yX7_prepare ∈ tT := tT_i (i := 657) (by decide +kernel) (by decide +kernel)
theorem tw_658 : Cond.code yX7_prepare cX7_prepare 3 none ∈ tT := tT_i (i := 658) (by decide +kernel) (by decide +kernel)
theorem tw_659 : Cond.methodLink RX8 217 yX7_seat ∈ tT := tT_i (i := 659) (by decide +kernel) (by decide +kernel)
theorem tw_660 : Cond.instanceMethod yX7_seat ∈ tT := tT_i (i := 660) (by decide +kernel) (by decide +kernel)
theorem tw_661 : Cond.selects RX7 yX7_seat yX7_seat ∈ tT := tT_i (i := 661) (by decide +kernel) (by decide +kernel)
theorem tw_662 : Cond.code yX7_seat cX7_seat 3 none ∈ tT := tT_i (i := 662) (by decide +kernel) (by decide +kernel)
theorem tw_663 : Cond.methodLink RX8 221 yX7_open ∈ tT := tT_i (i := 663) (by decide +kernel) (by decide +kernel)
theorem tw_664 : Cond.instanceMethod yX7_open ∈ tT := tT_i (i := 664) (by decide +kernel) (by decide +kernel)
theorem tw_665 : Cond.selects RX7 yX7_open yX7_open ∈ tT := tT_i (i := 665) (by decide +kernel) (by decide +kernel)
theorem tw_666 : Cond.code yX7_open cX7_open 2 none ∈ tT := tT_i (i := 666) (by decide +kernel) (by decide +kernel)
theorem tw_667 : Cond.methodLink RX7 47 yX7_playAt ∈ tT := tT_i (i := 667) (by decide +kernel) (by decide +kernel)
theorem tw_669 : Cond.instanceMethod yX7_playAt ∈ tT := tT_i (i := 669) (by decide +kernel) (by decide +kernel)
theorem tw_670 : Cond.code yX7_playAt cX7_playAt 5 (some .int) ∈ tT := tT_i (i := 670) (by decide +kernel) (by decide +kernel)
theorem tw_671 : Cond.methodLink RX7 65 yX7_isWinning ∈ tT := tT_i (i := 671) (by decide +kernel) (by decide +kernel)
theorem tw_673 : Cond.instanceMethod yX7_isWinning ∈ tT := tT_i (i := 673) (by decide +kernel) (by decide +kernel)
theorem tw_674 : Cond.code yX7_isWinning cX7_isWinning 3 (some .boolean) ∈ tT := tT_i (i := 674) (by decide +kernel) (by decide +kernel)
theorem tw_675 : Cond.methodLink RX7 55 yX7_isOver ∈ tT := tT_i (i := 675) (by decide +kernel) (by decide +kernel)
theorem tw_677 : Cond.instanceMethod yX7_isOver ∈ tT := tT_i (i := 677) (by decide +kernel) (by decide +kernel)
theorem tw_678 : Cond.code yX7_isOver cX7_isOver 2 (some .boolean) ∈ tT := tT_i (i := 678) (by decide +kernel) (by decide +kernel)
theorem tw_679 : Cond.methodLink RX7 69 yX5_count ∈ tT := tT_i (i := 679) (by decide +kernel) (by decide +kernel)
theorem tw_680 : Cond.methodLink RX7 58 yX7_keyOf ∈ tT := tT_i (i := 680) (by decide +kernel) (by decide +kernel)
theorem tw_682 : Cond.instanceMethod yX7_keyOf ∈ tT := tT_i (i := 682) (by decide +kernel) (by decide +kernel)
theorem tw_683 : Cond.code yX7_keyOf cX7_keyOf 2 (some .int) ∈ tT := tT_i (i := 683) (by decide +kernel) (by decide +kernel)
theorem tw_684 : Cond.methodLink RX7 73 yX5_keyAt ∈ tT := tT_i (i := 684) (by decide +kernel) (by decide +kernel)
theorem tw_685 : Cond.methodLink RX7 51 yX7_hasNode ∈ tT := tT_i (i := 685) (by decide +kernel) (by decide +kernel)
theorem tw_686 : Cond.instanceMethod yX7_hasNode ∈ tT := tT_i (i := 686) (by decide +kernel) (by decide +kernel)
theorem tw_687 : Cond.selects RX7 yX7_hasNode yX7_hasNode ∈ tT := tT_i (i := 687) (by decide +kernel) (by decide +kernel)
theorem tw_688 : Cond.code yX7_hasNode cX7_hasNode 2 (some .boolean) ∈ tT := tT_i (i := 688) (by decide +kernel) (by decide +kernel)
theorem tw_689 : Cond.methodLink RL 95 yX8_next ∈ tT := tT_i (i := 689) (by decide +kernel) (by decide +kernel)
theorem tw_690 : Cond.instanceMethod yX8_next ∈ tT := tT_i (i := 690) (by decide +kernel) (by decide +kernel)
theorem tw_691 : Cond.selects RX8 yX8_next yX8_next ∈ tT := tT_i (i := 691) (by decide +kernel) (by decide +kernel)
theorem tw_692 : Cond.code yX8_next cX8_next 1 (some .int) ∈ tT := tT_i (i := 692) (by decide +kernel) (by decide +kernel)
theorem tw_693 : Cond.methodLink RX8 227 yX8_needTournament ∈ tT := tT_i (i := 693) (by decide +kernel) (by decide +kernel)
theorem tw_695 : Cond.instanceMethod yX8_needTournament ∈ tT := tT_i (i := 695) (by decide +kernel) (by decide +kernel)
theorem tw_696 : Cond.code yX8_needTournament cX8_needTournament 1 none ∈ tT := tT_i (i := 696) (by decide +kernel) (by decide +kernel)
theorem tw_698 : Cond.methodLink RX8 230 yX7_give ∈ tT := tT_i (i := 698) (by decide +kernel) (by decide +kernel)
theorem tw_699 : Cond.instanceMethod yX7_give ∈ tT := tT_i (i := 699) (by decide +kernel) (by decide +kernel)
theorem tw_700 : Cond.selects RX7 yX7_give yX7_give ∈ tT := tT_i (i := 700) (by decide +kernel) (by decide +kernel)
theorem tw_701 : Cond.code yX7_give cX7_give 4 (some .int) ∈ tT := tT_i (i := 701) (by decide +kernel) (by decide +kernel)
theorem tw_702 : Cond.methodLink RX7 62 yX7_loserAt ∈ tT := tT_i (i := 702) (by decide +kernel) (by decide +kernel)
theorem tw_703 : Cond.instanceMethod yX7_loserAt ∈ tT := tT_i (i := 703) (by decide +kernel) (by decide +kernel)
theorem tw_704 : Cond.selects RX7 yX7_loserAt yX7_loserAt ∈ tT := tT_i (i := 704) (by decide +kernel) (by decide +kernel)
theorem tw_705 : Cond.code yX7_loserAt cX7_loserAt 2 (some .int) ∈ tT := tT_i (i := 705) (by decide +kernel) (by decide +kernel)
theorem tw_706 : Cond.methodLink RL 92 yX8_matches ∈ tT := tT_i (i := 706) (by decide +kernel) (by decide +kernel)
theorem tw_707 : Cond.instanceMethod yX8_matches ∈ tT := tT_i (i := 707) (by decide +kernel) (by decide +kernel)
theorem tw_708 : Cond.selects RX8 yX8_matches yX8_matches ∈ tT := tT_i (i := 708) (by decide +kernel) (by decide +kernel)
theorem tw_709 : Cond.code yX8_matches cX8_matches 1 (some .int) ∈ tT := tT_i (i := 709) (by decide +kernel) (by decide +kernel)
theorem tw_710 : Cond.methodLink RL 108 yX8_join ∈ tT := tT_i (i := 710) (by decide +kernel) (by decide +kernel)
theorem tw_711 : Cond.instanceMethod yX8_join ∈ tT := tT_i (i := 711) (by decide +kernel) (by decide +kernel)
theorem tw_712 : Cond.selects RX8 yX8_join yX8_join ∈ tT := tT_i (i := 712) (by decide +kernel) (by decide +kernel)
theorem tw_713 : Cond.code yX8_join cX8_join 6 (some .int) ∈ tT := tT_i (i := 713) (by decide +kernel) (by decide +kernel)
theorem tw_714 : Cond.methodLink RX8 251 yX8_needHow ∈ tT := tT_i (i := 714) (by decide +kernel) (by decide +kernel)
theorem tw_715 : Cond.static yX8_needHow ∈ tT := tT_i (i := 715) (by decide +kernel) (by decide +kernel)
theorem tw_716 : Cond.code yX8_needHow cX8_needHow 1 none ∈ tT := tT_i (i := 716) (by decide +kernel) (by decide +kernel)
theorem tw_718 : Cond.methodLink RX8 254 yX8_joinByMerging ∈ tT := tT_i (i := 718) (by decide +kernel) (by decide +kernel)
theorem tw_720 : Cond.instanceMethod yX8_joinByMerging ∈ tT := tT_i (i := 720) (by decide +kernel) (by decide +kernel)
theorem tw_721 : Cond.code yX8_joinByMerging cX8_joinByMerging 10 none ∈ tT := tT_i (i := 721) (by decide +kernel) (by decide +kernel)
theorem tw_722 : Cond.methodLink RX8 155 yX8_pagesFor ∈ tT := tT_i (i := 722) (by decide +kernel) (by decide +kernel)
theorem tw_723 : Cond.methodLink RX8 349 yX5_placeNotBelow ∈ tT := tT_i (i := 723) (by decide +kernel) (by decide +kernel)
theorem tw_724 : Cond.instanceMethod yX5_placeNotBelow ∈ tT := tT_i (i := 724) (by decide +kernel) (by decide +kernel)
theorem tw_725 : Cond.selects RX5 yX5_placeNotBelow yX5_placeNotBelow ∈ tT := tT_i (i := 725) (by decide +kernel) (by decide +kernel)
theorem tw_726 : Cond.code yX5_placeNotBelow cX5_placeNotBelow 4 (some .int) ∈ tT := tT_i (i := 726) (by decide +kernel) (by decide +kernel)
theorem tw_727 : Cond.methodLink RX5 26 yJ9_max_7cf53 ∈ tT := tT_i (i := 727) (by decide +kernel) (by decide +kernel)
theorem tw_728 : Cond.methodLink RX8 352 yX8_spill ∈ tT := tT_i (i := 728) (by decide +kernel) (by decide +kernel)
theorem tw_730 : Cond.instanceMethod yX8_spill ∈ tT := tT_i (i := 730) (by decide +kernel) (by decide +kernel)
theorem tw_731 : Cond.code yX8_spill cX8_spill 3 (some .int) ∈ tT := tT_i (i := 731) (by decide +kernel) (by decide +kernel)
theorem tw_732 : Cond.methodLink RX8 355 yX8_givePairs ∈ tT := tT_i (i := 732) (by decide +kernel) (by decide +kernel)
theorem tw_734 : Cond.instanceMethod yX8_givePairs ∈ tT := tT_i (i := 734) (by decide +kernel) (by decide +kernel)
theorem tw_735 : Cond.code yX8_givePairs cX8_givePairs 7 none ∈ tT := tT_i (i := 735) (by decide +kernel) (by decide +kernel)
theorem tw_736 : Cond.methodLink RX8 359 yX3_givePair ∈ tT := tT_i (i := 736) (by decide +kernel) (by decide +kernel)
theorem tw_737 : Cond.instanceMethod yX3_givePair ∈ tT := tT_i (i := 737) (by decide +kernel) (by decide +kernel)
theorem tw_738 : Cond.selects RX3 yX3_givePair yX3_givePair ∈ tT := tT_i (i := 738) (by decide +kernel) (by decide +kernel)
theorem tw_739 : Cond.code yX3_givePair cX3_givePair 5 none ∈ tT := tT_i (i := 739) (by decide +kernel) (by decide +kernel)
theorem tw_740 : Cond.methodLink RX3 38 yX5_keyAt ∈ tT := tT_i (i := 740) (by decide +kernel) (by decide +kernel)
theorem tw_741 : Cond.methodLink RX3 42 yX5_markAt ∈ tT := tT_i (i := 741) (by decide +kernel) (by decide +kernel)
theorem tw_742 : Cond.methodLink RX3 45 yX3_give ∈ tT := tT_i (i := 742) (by decide +kernel) (by decide +kernel)
theorem tw_743 : Cond.methodLink RX8 258 yX8_needFit ∈ tT := tT_i (i := 743) (by decide +kernel) (by decide +kernel)
theorem tw_745 : Cond.instanceMethod yX8_needFit ∈ tT := tT_i (i := 745) (by decide +kernel) (by decide +kernel)
theorem tw_746 : Cond.code yX8_needFit cX8_needFit 1 none ∈ tT := tT_i (i := 746) (by decide +kernel) (by decide +kernel)
theorem tw_748 : Cond.methodLink RL 105 yX8_split ∈ tT := tT_i (i := 748) (by decide +kernel) (by decide +kernel)
theorem tw_749 : Cond.instanceMethod yX8_split ∈ tT := tT_i (i := 749) (by decide +kernel) (by decide +kernel)
theorem tw_750 : Cond.selects RX8 yX8_split yX8_split ∈ tT := tT_i (i := 750) (by decide +kernel) (by decide +kernel)
theorem tw_751 : Cond.code yX8_split cX8_split 5 (some .int) ∈ tT := tT_i (i := 751) (by decide +kernel) (by decide +kernel)
theorem tw_752 : Cond.methodLink RX8 261 yX8_joinBySplitting ∈ tT := tT_i (i := 752) (by decide +kernel) (by decide +kernel)
theorem tw_754 : Cond.instanceMethod yX8_joinBySplitting ∈ tT := tT_i (i := 754) (by decide +kernel) (by decide +kernel)
theorem tw_755 : Cond.code yX8_joinBySplitting cX8_joinBySplitting 3 none ∈ tT := tT_i (i := 755) (by decide +kernel) (by decide +kernel)
theorem tw_756 : Cond.methodLink RX8 365 yX8_splitRows ∈ tT := tT_i (i := 756) (by decide +kernel) (by decide +kernel)
theorem tw_757 : Cond.static yX8_splitRows ∈ tT := tT_i (i := 757) (by decide +kernel) (by decide +kernel)
theorem tw_758 : Cond.code yX8_splitRows cX8_splitRows 9 none ∈ tT := tT_i (i := 758) (by decide +kernel) (by decide +kernel)
theorem tw_759 : Cond.methodLink RX8 369 yX8_pairByParts ∈ tT := tT_i (i := 759) (by decide +kernel) (by decide +kernel)
theorem tw_760 : Cond.static yX8_pairByParts ∈ tT := tT_i (i := 760) (by decide +kernel) (by decide +kernel)
theorem tw_761 : Cond.code yX8_pairByParts cX8_pairByParts 9 none ∈ tT := tT_i (i := 761) (by decide +kernel) (by decide +kernel)
theorem tw_762 : Cond.methodLink RX8 380 yJ9_max_7cf53 ∈ tT := tT_i (i := 762) (by decide +kernel) (by decide +kernel)
theorem tw_763 : Cond.methodLink RX8 383 yJ9_min_7cf53 ∈ tT := tT_i (i := 763) (by decide +kernel) (by decide +kernel)
theorem tw_764 : Cond.methodLink RX8 373 yX6_fillOne ∈ tT := tT_i (i := 764) (by decide +kernel) (by decide +kernel)
theorem tw_765 : Cond.instanceMethod yX6_fillOne ∈ tT := tT_i (i := 765) (by decide +kernel) (by decide +kernel)
theorem tw_766 : Cond.selects RX6 yX6_fillOne yX6_fillOne ∈ tT := tT_i (i := 766) (by decide +kernel) (by decide +kernel)
theorem tw_767 : Cond.code yX6_fillOne cX6_fillOne 5 (some (.object "MoraineSort$Row")) ∈ tT := tT_i (i := 767) (by decide +kernel) (by decide +kernel)
theorem tw_768 : Cond.methodLink RX6 32 yX6_fill ∈ tT := tT_i (i := 768) (by decide +kernel) (by decide +kernel)
theorem tw_770 : Cond.instanceMethod yX6_fill ∈ tT := tT_i (i := 770) (by decide +kernel) (by decide +kernel)
theorem tw_771 : Cond.code yX6_fill cX6_fill 9 none ∈ tT := tT_i (i := 771) (by decide +kernel) (by decide +kernel)
theorem tw_772 : Cond.methodLink RX6 36 yJ9_max_7cf53 ∈ tT := tT_i (i := 772) (by decide +kernel) (by decide +kernel)
theorem tw_773 : Cond.methodLink RX6 42 yX5_empty ∈ tT := tT_i (i := 773) (by decide +kernel) (by decide +kernel)
theorem tw_774 : Cond.methodLink RX6 45 yX5_count ∈ tT := tT_i (i := 774) (by decide +kernel) (by decide +kernel)
theorem tw_775 : Cond.methodLink RX6 49 yX5_keyAt ∈ tT := tT_i (i := 775) (by decide +kernel) (by decide +kernel)
theorem tw_776 : Cond.methodLink RX6 53 yJ9_abs_0f7a4 ∈ tT := tT_i (i := 776) (by decide +kernel) (by decide +kernel)
theorem tw_777 : Cond.static yJ9_abs_0f7a4 ∈ tT := tT_i (i := 777) (by decide +kernel) (by decide +kernel)
theorem tw_778 : Cond.code yJ9_abs_0f7a4 cJ9_abs_0f7a4 1 (some .int) ∈ tT := tT_i (i := 778) (by decide +kernel) (by decide +kernel)
theorem tw_779 : Cond.methodLink RX6 56 yX5_markAt ∈ tT := tT_i (i := 779) (by decide +kernel) (by decide +kernel)
theorem tw_780 : Cond.methodLink RX6 59 yX5_add ∈ tT := tT_i (i := 780) (by decide +kernel) (by decide +kernel)
theorem tw_781 : Cond.methodLink RX8 377 yX6_fillOther ∈ tT := tT_i (i := 781) (by decide +kernel) (by decide +kernel)
theorem tw_782 : Cond.instanceMethod yX6_fillOther ∈ tT := tT_i (i := 782) (by decide +kernel) (by decide +kernel)
theorem tw_783 : Cond.selects RX6 yX6_fillOther yX6_fillOther ∈ tT := tT_i (i := 783) (by decide +kernel) (by decide +kernel)
theorem tw_784 : Cond.code yX6_fillOther cX6_fillOther 5 (some (.object "MoraineSort$Row")) ∈ tT := tT_i (i := 784) (by decide +kernel) (by decide +kernel)
theorem tw_785 : Cond.methodLink RL 114 yX8_group ∈ tT := tT_i (i := 785) (by decide +kernel) (by decide +kernel)
theorem tw_786 : Cond.instanceMethod yX8_group ∈ tT := tT_i (i := 786) (by decide +kernel) (by decide +kernel)
theorem tw_787 : Cond.selects RX8 yX8_group yX8_group ∈ tT := tT_i (i := 787) (by decide +kernel) (by decide +kernel)
theorem tw_788 : Cond.code yX8_group cX8_group 4 (some .int) ∈ tT := tT_i (i := 788) (by decide +kernel) (by decide +kernel)
theorem tw_790 : Cond.methodLink RX8 274 yX8_giveGroups ∈ tT := tT_i (i := 790) (by decide +kernel) (by decide +kernel)
theorem tw_792 : Cond.instanceMethod yX8_giveGroups ∈ tT := tT_i (i := 792) (by decide +kernel) (by decide +kernel)
theorem tw_793 : Cond.code yX8_giveGroups cX8_giveGroups 7 none ∈ tT := tT_i (i := 793) (by decide +kernel) (by decide +kernel)
theorem tw_794 : Cond.methodLink RX8 386 yX8_startMark ∈ tT := tT_i (i := 794) (by decide +kernel) (by decide +kernel)
theorem tw_795 : Cond.static yX8_startMark ∈ tT := tT_i (i := 795) (by decide +kernel) (by decide +kernel)
theorem tw_796 : Cond.code yX8_startMark cX8_startMark 2 (some .int) ∈ tT := tT_i (i := 796) (by decide +kernel) (by decide +kernel)
theorem tw_797 : Cond.methodLink RX8 389 yX8_moreMark ∈ tT := tT_i (i := 797) (by decide +kernel) (by decide +kernel)
theorem tw_798 : Cond.static yX8_moreMark ∈ tT := tT_i (i := 798) (by decide +kernel) (by decide +kernel)
theorem tw_799 : Cond.code yX8_moreMark cX8_moreMark 3 (some .int) ∈ tT := tT_i (i := 799) (by decide +kernel) (by decide +kernel)
theorem tw_800 : Cond.methodLink RL 49 yX8_sortCost ∈ tT := tT_i (i := 800) (by decide +kernel) (by decide +kernel)
theorem tw_801 : Cond.instanceMethod yX8_sortCost ∈ tT := tT_i (i := 801) (by decide +kernel) (by decide +kernel)
theorem tw_802 : Cond.selects RX8 yX8_sortCost yX8_sortCost ∈ tT := tT_i (i := 802) (by decide +kernel) (by decide +kernel)
theorem tw_803 : Cond.code yX8_sortCost cX8_sortCost 6 (some .int) ∈ tT := tT_i (i := 803) (by decide +kernel) (by decide +kernel)
theorem tw_804 : Cond.methodLink RX8 280 yX8_costOf ∈ tT := tT_i (i := 804) (by decide +kernel) (by decide +kernel)
theorem tw_806 : Cond.instanceMethod yX8_costOf ∈ tT := tT_i (i := 806) (by decide +kernel) (by decide +kernel)
theorem tw_807 : Cond.code yX8_costOf cX8_costOf 5 (some .int) ∈ tT := tT_i (i := 807) (by decide +kernel) (by decide +kernel)
theorem tw_808 : Cond.methodLink RL 59 yX8_memoryFor ∈ tT := tT_i (i := 808) (by decide +kernel) (by decide +kernel)
theorem tw_809 : Cond.instanceMethod yX8_memoryFor ∈ tT := tT_i (i := 809) (by decide +kernel) (by decide +kernel)
theorem tw_810 : Cond.selects RX8 yX8_memoryFor yX8_memoryFor ∈ tT := tT_i (i := 810) (by decide +kernel) (by decide +kernel)
theorem tw_811 : Cond.code yX8_memoryFor cX8_memoryFor 6 (some .int) ∈ tT := tT_i (i := 811) (by decide +kernel) (by decide +kernel)
theorem tw_813 : Cond.methodLink RL 102 yX8_splitCost ∈ tT := tT_i (i := 813) (by decide +kernel) (by decide +kernel)
theorem tw_814 : Cond.instanceMethod yX8_splitCost ∈ tT := tT_i (i := 814) (by decide +kernel) (by decide +kernel)
theorem tw_815 : Cond.selects RX8 yX8_splitCost yX8_splitCost ∈ tT := tT_i (i := 815) (by decide +kernel) (by decide +kernel)
theorem tw_816 : Cond.code yX8_splitCost cX8_splitCost 5 (some .int) ∈ tT := tT_i (i := 816) (by decide +kernel) (by decide +kernel)
theorem tw_817 : Cond.methodLink RL 98 yX8_share ∈ tT := tT_i (i := 817) (by decide +kernel) (by decide +kernel)
theorem tw_818 : Cond.instanceMethod yX8_share ∈ tT := tT_i (i := 818) (by decide +kernel) (by decide +kernel)
theorem tw_819 : Cond.selects RX8 yX8_share yX8_share ∈ tT := tT_i (i := 819) (by decide +kernel) (by decide +kernel)
theorem tw_820 : Cond.code yX8_share cX8_share 7 (some .double) ∈ tT := tT_i (i := 820) (by decide +kernel) (by decide +kernel)
theorem tw_821 : Cond.methodLink RX8 289 yX1_has ∈ tT := tT_i (i := 821) (by decide +kernel) (by decide +kernel)
theorem tw_822 : Cond.instanceMethod yX1_has ∈ tT := tT_i (i := 822) (by decide +kernel) (by decide +kernel)
theorem tw_823 : Cond.selects RX1 yX1_has yX1_has ∈ tT := tT_i (i := 823) (by decide +kernel) (by decide +kernel)
theorem tw_824 : Cond.code yX1_has cX1_has 3 (some .boolean) ∈ tT := tT_i (i := 824) (by decide +kernel) (by decide +kernel)
theorem tw_825 : Cond.methodLink RL 45 yX8_digest ∈ tT := tT_i (i := 825) (by decide +kernel) (by decide +kernel)
theorem tw_826 : Cond.instanceMethod yX8_digest ∈ tT := tT_i (i := 826) (by decide +kernel) (by decide +kernel)
theorem tw_827 : Cond.selects RX8 yX8_digest yX8_digest ∈ tT := tT_i (i := 827) (by decide +kernel) (by decide +kernel)
theorem tw_828 : Cond.code yX8_digest cX8_digest 4 (some .long) ∈ tT := tT_i (i := 828) (by decide +kernel) (by decide +kernel)
theorem tw_829 : Cond.constantLong RX8 290 58067 ∈ tT := tT_i (i := 829) (by decide +kernel) (by decide +kernel)
theorem tw_830 : Cond.methodLink RX8 292 yX8_fold ∈ tT := tT_i (i := 830) (by decide +kernel) (by decide +kernel)
theorem tw_831 : Cond.static yX8_fold ∈ tT := tT_i (i := 831) (by decide +kernel) (by decide +kernel)
theorem tw_832 : Cond.code yX8_fold cX8_fold 4 (some .long) ∈ tT := tT_i (i := 832) (by decide +kernel) (by decide +kernel)
theorem tw_833 : Cond.constantLong RX8 307 31 ∈ tT := tT_i (i := 833) (by decide +kernel) (by decide +kernel)
theorem tw_834 : Cond.methodLink RX8 296 yX8_foldSort ∈ tT := tT_i (i := 834) (by decide +kernel) (by decide +kernel)
theorem tw_836 : Cond.instanceMethod yX8_foldSort ∈ tT := tT_i (i := 836) (by decide +kernel) (by decide +kernel)
theorem tw_837 : Cond.code yX8_foldSort cX8_foldSort 6 (some .long) ∈ tT := tT_i (i := 837) (by decide +kernel) (by decide +kernel)
theorem tw_838 : Cond.methodLink RX8 300 yX8_matches ∈ tT := tT_i (i := 838) (by decide +kernel) (by decide +kernel)
theorem tw_839 : Cond.methodLink RX8 303 yX8_foldFile ∈ tT := tT_i (i := 839) (by decide +kernel) (by decide +kernel)
theorem tw_841 : Cond.instanceMethod yX8_foldFile ∈ tT := tT_i (i := 841) (by decide +kernel) (by decide +kernel)
theorem tw_842 : Cond.code yX8_foldFile cX8_foldFile 7 (some .long) ∈ tT := tT_i (i := 842) (by decide +kernel) (by decide +kernel)
theorem tw_843 : Cond.methodLink RL 26 yL_below ∈ tT := tT_i (i := 843) (by decide +kernel) (by decide +kernel)
theorem tw_844 : Cond.static yL_below ∈ tT := tT_i (i := 844) (by decide +kernel) (by decide +kernel)
theorem tw_845 : Cond.code yL_below cL_below 2 (some .int) ∈ tT := tT_i (i := 845) (by decide +kernel) (by decide +kernel)
theorem tw_846 : Cond.constant RL 7 2147483647 ∈ tT := tT_i (i := 846) (by decide +kernel) (by decide +kernel)
theorem tw_847 : Cond.methodLink RL 20 yL_cell ∈ tT := tT_i (i := 847) (by decide +kernel) (by decide +kernel)
theorem tw_848 : Cond.static yL_cell ∈ tT := tT_i (i := 848) (by decide +kernel) (by decide +kernel)
theorem tw_849 : Cond.code yL_cell cL_cell 2 (some .int) ∈ tT := tT_i (i := 849) (by decide +kernel) (by decide +kernel)
theorem tw_850 : Cond.constant RL 8 790386105 ∈ tT := tT_i (i := 850) (by decide +kernel) (by decide +kernel)
theorem tw_851 : Cond.methodLink RL 73 yL_isSame ∈ tT := tT_i (i := 851) (by decide +kernel) (by decide +kernel)
theorem tw_852 : Cond.static yL_isSame ∈ tT := tT_i (i := 852) (by decide +kernel) (by decide +kernel)
theorem tw_853 : Cond.code yL_isSame cL_isSame 4 (some .boolean) ∈ tT := tT_i (i := 853) (by decide +kernel) (by decide +kernel)
theorem tw_24 : Cond.code objectInit ⟨#[0xb1]⟩ 1 none ∈ tT := tT_i (i := 24) (by decide +kernel) (by decide +kernel)
theorem tp_1 : Cond.selects RX8 yX8_needRoom yX8_needRoom ∈ tT := tT_p (i := 1) (by decide +kernel) (by decide +kernel)
theorem tp_2 : Cond.selects RX8 yX8_rowOf yX8_rowOf ∈ tT := tT_p (i := 2) (by decide +kernel) (by decide +kernel)
theorem tp_3 : Cond.selects RX8 yX8_keysIn yX8_keysIn ∈ tT := tT_p (i := 3) (by decide +kernel) (by decide +kernel)
theorem tp_4 : Cond.selects RX4 yX4_runByReplacing yX4_runByReplacing ∈ tT := tT_p (i := 4) (by decide +kernel) (by decide +kernel)
theorem tp_5 : Cond.selects RX0 yX0_sinkFromTop yX0_sinkFromTop ∈ tT := tT_p (i := 5) (by decide +kernel) (by decide +kernel)
theorem tp_6 : Cond.selects RX4 yX4_runByLoading yX4_runByLoading ∈ tT := tT_p (i := 6) (by decide +kernel) (by decide +kernel)
theorem tp_7 : Cond.selects RX4 yX4_countRuns yX4_countRuns ∈ tT := tT_p (i := 7) (by decide +kernel) (by decide +kernel)
theorem tp_8 : Cond.selects RX4 yX4_mergeByLeast yX4_mergeByLeast ∈ tT := tT_p (i := 8) (by decide +kernel) (by decide +kernel)
theorem tp_9 : Cond.selects RX4 yX4_mergeLeast yX4_mergeLeast ∈ tT := tT_p (i := 9) (by decide +kernel) (by decide +kernel)
theorem tp_10 : Cond.selects RX4 yX4_noteMerge yX4_noteMerge ∈ tT := tT_p (i := 10) (by decide +kernel) (by decide +kernel)
theorem tp_11 : Cond.selects RX4 yX4_mergeByLevels yX4_mergeByLevels ∈ tT := tT_p (i := 11) (by decide +kernel) (by decide +kernel)
theorem tp_12 : Cond.selects RX4 yX4_mergeLevel yX4_mergeLevel ∈ tT := tT_p (i := 12) (by decide +kernel) (by decide +kernel)
theorem tp_13 : Cond.selects RX8 yX8_giveSorted yX8_giveSorted ∈ tT := tT_p (i := 13) (by decide +kernel) (by decide +kernel)
theorem tp_14 : Cond.selects RX8 yX8_land yX8_land ∈ tT := tT_p (i := 14) (by decide +kernel) (by decide +kernel)
theorem tp_15 : Cond.selects RX7 yX7_playAt yX7_playAt ∈ tT := tT_p (i := 15) (by decide +kernel) (by decide +kernel)
theorem tp_16 : Cond.selects RX7 yX7_isWinning yX7_isWinning ∈ tT := tT_p (i := 16) (by decide +kernel) (by decide +kernel)
theorem tp_17 : Cond.selects RX7 yX7_isOver yX7_isOver ∈ tT := tT_p (i := 17) (by decide +kernel) (by decide +kernel)
theorem tp_18 : Cond.selects RX7 yX7_keyOf yX7_keyOf ∈ tT := tT_p (i := 18) (by decide +kernel) (by decide +kernel)
theorem tp_19 : Cond.selects RX8 yX8_needTournament yX8_needTournament ∈ tT := tT_p (i := 19) (by decide +kernel) (by decide +kernel)
theorem tp_20 : Cond.selects RX8 yX8_joinByMerging yX8_joinByMerging ∈ tT := tT_p (i := 20) (by decide +kernel) (by decide +kernel)
theorem tp_21 : Cond.selects RX8 yX8_spill yX8_spill ∈ tT := tT_p (i := 21) (by decide +kernel) (by decide +kernel)
theorem tp_22 : Cond.selects RX8 yX8_givePairs yX8_givePairs ∈ tT := tT_p (i := 22) (by decide +kernel) (by decide +kernel)
theorem tp_23 : Cond.selects RX8 yX8_needFit yX8_needFit ∈ tT := tT_p (i := 23) (by decide +kernel) (by decide +kernel)
theorem tp_24 : Cond.selects RX8 yX8_joinBySplitting yX8_joinBySplitting ∈ tT := tT_p (i := 24) (by decide +kernel) (by decide +kernel)
theorem tp_25 : Cond.selects RX6 yX6_fill yX6_fill ∈ tT := tT_p (i := 25) (by decide +kernel) (by decide +kernel)
theorem tp_26 : Cond.selects RX8 yX8_giveGroups yX8_giveGroups ∈ tT := tT_p (i := 26) (by decide +kernel) (by decide +kernel)
theorem tp_27 : Cond.selects RX8 yX8_costOf yX8_costOf ∈ tT := tT_p (i := 27) (by decide +kernel) (by decide +kernel)
theorem tp_28 : Cond.selects RX8 yX8_foldSort yX8_foldSort ∈ tT := tT_p (i := 28) (by decide +kernel) (by decide +kernel)
theorem tp_29 : Cond.selects RX8 yX8_foldFile yX8_foldFile ∈ tT := tT_p (i := 29) (by decide +kernel) (by decide +kernel)
-- a method's own facts: virtual, static
abbrev mV (C : String) (y : MethodName) (cc : ByteArray) (n : Nat) (ret : Option FieldType) : Prop := Cond.code y cc n ret ∈ tT ∧ Cond.instanceMethod y ∈ tT ∧ Cond.selects C y y ∈ tT ∧ Cond.initialized C ∈ tT
abbrev mS (C : String) (y : MethodName) (cc : ByteArray) (n : Nat) (ret : Option FieldType) : Prop := Cond.code y cc n ret ∈ tT ∧ Cond.static y ∈ tT ∧ Cond.initialized C ∈ tT
theorem mfX8_setMemory : mV RX8 yX8_setMemory cX8_setMemory 4 (some .int) := ⟨tw_260, tw_258, tw_259, tw_1⟩
theorem mfX8_needMemory : mS RX8 yX8_needMemory cX8_needMemory 1 none := ⟨tw_331, tw_330, tw_1⟩
theorem mfX8_addFile : mV RX8 yX8_addFile cX8_addFile 2 (some .int) := ⟨tw_336, tw_334, tw_335, tw_1⟩
theorem mfX8_needRoom : mV RX8 yX8_needRoom cX8_needRoom 1 none := ⟨tw_340, tw_339, tp_1, tw_1⟩
theorem mfX5_empty : mV RX5 yX5_empty cX5_empty 1 none := ⟨tw_360, tw_358, tw_359, tw_7⟩
theorem mfX8_put : mV RX8 yX8_put cX8_put 5 (some .int) := ⟨tw_364, tw_362, tw_363, tw_1⟩
theorem mfX8_rowOf : mV RX8 yX8_rowOf cX8_rowOf 2 (some (.object "MoraineSort$Row")) := ⟨tw_368, tw_367, tp_2, tw_1⟩
theorem mfX8_needSpace : mS RX8 yX8_needSpace cX8_needSpace 2 none := ⟨tw_389, tw_388, tw_1⟩
theorem mfX5_count : mV RX5 yX5_count cX5_count 1 (some .int) := ⟨tw_393, tw_391, tw_392, tw_7⟩
theorem mfX7_forget : mV RX7 yX7_forget cX7_forget 2 none := ⟨tw_398, tw_396, tw_397, tw_5⟩
theorem mfX5_add : mV RX5 yX5_add cX5_add 3 none := ⟨tw_402, tw_400, tw_401, tw_7⟩
theorem mfX8_putRow : mV RX8 yX8_putRow cX8_putRow 8 (some .int) := ⟨tw_406, tw_404, tw_405, tw_1⟩
theorem mfJ9_floorMod_7cf53 : mS RJ9 yJ9_floorMod_7cf53 cJ9_floorMod_7cf53 3 (some .int) := ⟨tw_413, tw_412, tw_16⟩
theorem mfX8_size : mV RX8 yX8_size cX8_size 2 (some .int) := ⟨tw_417, tw_415, tw_416, tw_1⟩
theorem mfX8_at : mV RX8 yX8_at cX8_at 5 (some .int) := ⟨tw_421, tw_419, tw_420, tw_1⟩
theorem mfX5_has : mV RX5 yX5_has cX5_has 2 (some .boolean) := ⟨tw_425, tw_423, tw_424, tw_7⟩
theorem mfX5_markAt : mV RX5 yX5_markAt cX5_markAt 2 (some .int) := ⟨tw_430, tw_428, tw_429, tw_7⟩
theorem mfX5_keyAt : mV RX5 yX5_keyAt cX5_keyAt 2 (some .int) := ⟨tw_434, tw_432, tw_433, tw_7⟩
theorem mfX8_order : mV RX8 yX8_order cX8_order 2 (some .int) := ⟨tw_438, tw_436, tw_437, tw_1⟩
theorem mfX8_orderOf : mS RX8 yX8_orderOf cX8_orderOf 1 (some .int) := ⟨tw_441, tw_440, tw_1⟩
theorem mfX5_isUp : mV RX5 yX5_isUp cX5_isUp 2 (some .boolean) := ⟨tw_445, tw_443, tw_444, tw_7⟩
theorem mfX5_isDown : mV RX5 yX5_isDown cX5_isDown 2 (some .boolean) := ⟨tw_449, tw_447, tw_448, tw_7⟩
theorem mfX8_distinct : mV RX8 yX8_distinct cX8_distinct 2 (some .int) := ⟨tw_453, tw_451, tw_452, tw_1⟩
theorem mfX8_keysIn : mV RX8 yX8_keysIn cX8_keysIn 4 (some .int) := ⟨tw_457, tw_456, tp_3, tw_1⟩
theorem mfX1_clear : mV RX1 yX1_clear cX1_clear 2 none := ⟨tw_461, tw_459, tw_460, tw_9⟩
theorem mfX1_add : mV RX1 yX1_add cX1_add 3 (some .boolean) := ⟨tw_465, tw_463, tw_464, tw_9⟩
theorem mfX1_wordOf : mS RX1 yX1_wordOf cX1_wordOf 1 (some .int) := ⟨tw_468, tw_467, tw_9⟩
theorem mfX1_bitOf : mS RX1 yX1_bitOf cX1_bitOf 1 (some .long) := ⟨tw_471, tw_470, tw_9⟩
theorem mfX8_inversions : mV RX8 yX8_inversions cX8_inversions 6 (some .int) := ⟨tw_475, tw_473, tw_474, tw_1⟩
theorem mfX8_read : mV RX8 yX8_read cX8_read 1 (some .int) := ⟨tw_479, tw_477, tw_478, tw_1⟩
theorem mfX8_written : mV RX8 yX8_written cX8_written 1 (some .int) := ⟨tw_483, tw_481, tw_482, tw_1⟩
theorem mfX8_sort : mV RX8 yX8_sort cX8_sort 6 (some .int) := ⟨tw_487, tw_485, tw_486, tw_1⟩
theorem mfX4_make : mV RX4 yX4_make cX4_make 7 none := ⟨tw_491, tw_489, tw_490, tw_2⟩
theorem mfX2_empty : mV RX2 yX2_empty cX2_empty 1 none := ⟨tw_495, tw_493, tw_494, tw_3⟩
theorem mfX4_runByReplacing : mV RX4 yX4_runByReplacing cX4_runByReplacing 12 none := ⟨tw_499, tw_498, tp_4, tw_2⟩
theorem mfX0_empty : mV RX0 yX0_empty cX0_empty 1 none := ⟨tw_503, tw_501, tw_502, tw_4⟩
theorem mfJ9_min_7cf53 : mS RJ9 yJ9_min_7cf53 cJ9_min_7cf53 2 (some .int) := ⟨tw_507, tw_506, tw_16⟩
theorem mfX8_weightOf : mS RX8 yX8_weightOf cX8_weightOf 4 (some .int) := ⟨tw_510, tw_509, tw_1⟩
theorem mfX0_push : mV RX0 yX0_push cX0_push 3 none := ⟨tw_514, tw_512, tw_513, tw_4⟩
theorem mfX0_pull : mV RX0 yX0_pull cX0_pull 2 (some .int) := ⟨tw_518, tw_516, tw_517, tw_4⟩
theorem mfX0_sinkFromTop : mV RX0 yX0_sinkFromTop cX0_sinkFromTop 5 none := ⟨tw_522, tw_521, tp_5, tw_4⟩
theorem mfX2_add : mV RX2 yX2_add cX2_add 2 none := ⟨tw_527, tw_525, tw_526, tw_3⟩
theorem mfX4_runByLoading : mV RX4 yX4_runByLoading cX4_runByLoading 5 none := ⟨tw_531, tw_530, tp_6, tw_2⟩
theorem mfJ9_max_7cf53 : mS RJ9 yJ9_max_7cf53 cJ9_max_7cf53 2 (some .int) := ⟨tw_534, tw_533, tw_16⟩
theorem mfX4_countRuns : mV RX4 yX4_countRuns cX4_countRuns 3 none := ⟨tw_538, tw_537, tp_7, tw_2⟩
theorem mfX8_pagesFor : mS RX8 yX8_pagesFor cX8_pagesFor 2 (some .int) := ⟨tw_541, tw_540, tw_1⟩
theorem mfX2_count : mV RX2 yX2_count cX2_count 1 (some .int) := ⟨tw_545, tw_543, tw_544, tw_3⟩
theorem mfX2_valueAt : mV RX2 yX2_valueAt cX2_valueAt 2 (some .int) := ⟨tw_549, tw_547, tw_548, tw_3⟩
theorem mfX2_addAll : mV RX2 yX2_addAll cX2_addAll 3 none := ⟨tw_553, tw_551, tw_552, tw_3⟩
theorem mfX4_mergeByLeast : mV RX4 yX4_mergeByLeast cX4_mergeByLeast 4 none := ⟨tw_558, tw_557, tp_8, tw_2⟩
theorem mfX4_mergeLeast : mV RX4 yX4_mergeLeast cX4_mergeLeast 5 none := ⟨tw_563, tw_562, tp_9, tw_2⟩
theorem mfX2_leastPlace : mV RX2 yX2_leastPlace cX2_leastPlace 3 (some .int) := ⟨tw_567, tw_565, tw_566, tw_3⟩
theorem mfX2_takeAt : mV RX2 yX2_takeAt cX2_takeAt 4 (some .int) := ⟨tw_571, tw_569, tw_570, tw_3⟩
theorem mfX4_noteMerge : mV RX4 yX4_noteMerge cX4_noteMerge 3 none := ⟨tw_575, tw_574, tp_10, tw_2⟩
theorem mfX4_mergeByLevels : mV RX4 yX4_mergeByLevels cX4_mergeByLevels 3 none := ⟨tw_579, tw_578, tp_11, tw_2⟩
theorem mfX4_mergeLevel : mV RX4 yX4_mergeLevel cX4_mergeLevel 8 none := ⟨tw_583, tw_582, tp_12, tw_2⟩
theorem mfX2_set : mV RX2 yX2_set cX2_set 3 none := ⟨tw_587, tw_585, tw_586, tw_3⟩
theorem mfX2_cutTo : mV RX2 yX2_cutTo cX2_cutTo 2 none := ⟨tw_591, tw_589, tw_590, tw_3⟩
theorem mfX3_clear : mV RX3 yX3_clear cX3_clear 1 none := ⟨tw_595, tw_593, tw_594, tw_6⟩
theorem mfX8_giveSorted : mV RX8 yX8_giveSorted cX8_giveSorted 5 none := ⟨tw_600, tw_599, tp_13, tw_1⟩
theorem mfX3_give : mV RX3 yX3_give cX3_give 3 none := ⟨tw_608, tw_606, tw_607, tw_6⟩
theorem mfX8_land : mV RX8 yX8_land cX8_land 2 (some .int) := ⟨tw_613, tw_612, tp_14, tw_1⟩
theorem mfX5_addAll : mV RX5 yX5_addAll cX5_addAll 3 none := ⟨tw_618, tw_616, tw_617, tw_7⟩
theorem mfX8_runs : mV RX8 yX8_runs cX8_runs 1 (some .int) := ⟨tw_623, tw_621, tw_622, tw_1⟩
theorem mfX8_runSize : mV RX8 yX8_runSize cX8_runSize 2 (some .int) := ⟨tw_628, tw_626, tw_627, tw_1⟩
theorem mfX2_has : mV RX2 yX2_has cX2_has 2 (some .boolean) := ⟨tw_632, tw_630, tw_631, tw_3⟩
theorem mfX8_merges : mV RX8 yX8_merges cX8_merges 1 (some .int) := ⟨tw_638, tw_636, tw_637, tw_1⟩
theorem mfX8_merge : mV RX8 yX8_merge cX8_merge 3 (some .int) := ⟨tw_642, tw_640, tw_641, tw_1⟩
theorem mfX8_begin : mV RX8 yX8_begin cX8_begin 4 (some .int) := ⟨tw_648, tw_646, tw_647, tw_1⟩
theorem mfX8_needUp : mS RX8 yX8_needUp cX8_needUp 1 none := ⟨tw_653, tw_652, tw_1⟩
theorem mfX7_prepare : mV RX7 yX7_prepare cX7_prepare 3 none := ⟨tw_658, tw_656, tw_657, tw_5⟩
theorem mfX7_seat : mV RX7 yX7_seat cX7_seat 3 none := ⟨tw_662, tw_660, tw_661, tw_5⟩
theorem mfX7_open : mV RX7 yX7_open cX7_open 2 none := ⟨tw_666, tw_664, tw_665, tw_5⟩
theorem mfX7_playAt : mV RX7 yX7_playAt cX7_playAt 5 (some .int) := ⟨tw_670, tw_669, tp_15, tw_5⟩
theorem mfX7_isWinning : mV RX7 yX7_isWinning cX7_isWinning 3 (some .boolean) := ⟨tw_674, tw_673, tp_16, tw_5⟩
theorem mfX7_isOver : mV RX7 yX7_isOver cX7_isOver 2 (some .boolean) := ⟨tw_678, tw_677, tp_17, tw_5⟩
theorem mfX7_keyOf : mV RX7 yX7_keyOf cX7_keyOf 2 (some .int) := ⟨tw_683, tw_682, tp_18, tw_5⟩
theorem mfX7_hasNode : mV RX7 yX7_hasNode cX7_hasNode 2 (some .boolean) := ⟨tw_688, tw_686, tw_687, tw_5⟩
theorem mfX8_next : mV RX8 yX8_next cX8_next 1 (some .int) := ⟨tw_692, tw_690, tw_691, tw_1⟩
theorem mfX8_needTournament : mV RX8 yX8_needTournament cX8_needTournament 1 none := ⟨tw_696, tw_695, tp_19, tw_1⟩
theorem mfX7_give : mV RX7 yX7_give cX7_give 4 (some .int) := ⟨tw_701, tw_699, tw_700, tw_5⟩
theorem mfX7_loserAt : mV RX7 yX7_loserAt cX7_loserAt 2 (some .int) := ⟨tw_705, tw_703, tw_704, tw_5⟩
theorem mfX8_matches : mV RX8 yX8_matches cX8_matches 1 (some .int) := ⟨tw_709, tw_707, tw_708, tw_1⟩
theorem mfX8_join : mV RX8 yX8_join cX8_join 6 (some .int) := ⟨tw_713, tw_711, tw_712, tw_1⟩
theorem mfX8_needHow : mS RX8 yX8_needHow cX8_needHow 1 none := ⟨tw_716, tw_715, tw_1⟩
theorem mfX8_joinByMerging : mV RX8 yX8_joinByMerging cX8_joinByMerging 10 none := ⟨tw_721, tw_720, tp_20, tw_1⟩
theorem mfX5_placeNotBelow : mV RX5 yX5_placeNotBelow cX5_placeNotBelow 4 (some .int) := ⟨tw_726, tw_724, tw_725, tw_7⟩
theorem mfX8_spill : mV RX8 yX8_spill cX8_spill 3 (some .int) := ⟨tw_731, tw_730, tp_21, tw_1⟩
theorem mfX8_givePairs : mV RX8 yX8_givePairs cX8_givePairs 7 none := ⟨tw_735, tw_734, tp_22, tw_1⟩
theorem mfX3_givePair : mV RX3 yX3_givePair cX3_givePair 5 none := ⟨tw_739, tw_737, tw_738, tw_6⟩
theorem mfX8_needFit : mV RX8 yX8_needFit cX8_needFit 1 none := ⟨tw_746, tw_745, tp_23, tw_1⟩
theorem mfX8_split : mV RX8 yX8_split cX8_split 5 (some .int) := ⟨tw_751, tw_749, tw_750, tw_1⟩
theorem mfX8_joinBySplitting : mV RX8 yX8_joinBySplitting cX8_joinBySplitting 3 none := ⟨tw_755, tw_754, tp_24, tw_1⟩
theorem mfX8_splitRows : mS RX8 yX8_splitRows cX8_splitRows 9 none := ⟨tw_758, tw_757, tw_1⟩
theorem mfX8_pairByParts : mS RX8 yX8_pairByParts cX8_pairByParts 9 none := ⟨tw_761, tw_760, tw_1⟩
theorem mfX6_fillOne : mV RX6 yX6_fillOne cX6_fillOne 5 (some (.object "MoraineSort$Row")) := ⟨tw_767, tw_765, tw_766, tw_8⟩
theorem mfX6_fill : mV RX6 yX6_fill cX6_fill 9 none := ⟨tw_771, tw_770, tp_25, tw_8⟩
theorem mfJ9_abs_0f7a4 : mS RJ9 yJ9_abs_0f7a4 cJ9_abs_0f7a4 1 (some .int) := ⟨tw_778, tw_777, tw_16⟩
theorem mfX6_fillOther : mV RX6 yX6_fillOther cX6_fillOther 5 (some (.object "MoraineSort$Row")) := ⟨tw_784, tw_782, tw_783, tw_8⟩
theorem mfX8_group : mV RX8 yX8_group cX8_group 4 (some .int) := ⟨tw_788, tw_786, tw_787, tw_1⟩
theorem mfX8_giveGroups : mV RX8 yX8_giveGroups cX8_giveGroups 7 none := ⟨tw_793, tw_792, tp_26, tw_1⟩
theorem mfX8_startMark : mS RX8 yX8_startMark cX8_startMark 2 (some .int) := ⟨tw_796, tw_795, tw_1⟩
theorem mfX8_moreMark : mS RX8 yX8_moreMark cX8_moreMark 3 (some .int) := ⟨tw_799, tw_798, tw_1⟩
theorem mfX8_sortCost : mV RX8 yX8_sortCost cX8_sortCost 6 (some .int) := ⟨tw_803, tw_801, tw_802, tw_1⟩
theorem mfX8_costOf : mV RX8 yX8_costOf cX8_costOf 5 (some .int) := ⟨tw_807, tw_806, tp_27, tw_1⟩
theorem mfX8_memoryFor : mV RX8 yX8_memoryFor cX8_memoryFor 6 (some .int) := ⟨tw_811, tw_809, tw_810, tw_1⟩
theorem mfX8_splitCost : mV RX8 yX8_splitCost cX8_splitCost 5 (some .int) := ⟨tw_816, tw_814, tw_815, tw_1⟩
theorem mfX8_share : mV RX8 yX8_share cX8_share 7 (some .double) := ⟨tw_820, tw_818, tw_819, tw_1⟩
theorem mfX1_has : mV RX1 yX1_has cX1_has 3 (some .boolean) := ⟨tw_824, tw_822, tw_823, tw_9⟩
theorem mfX8_digest : mV RX8 yX8_digest cX8_digest 4 (some .long) := ⟨tw_828, tw_826, tw_827, tw_1⟩
theorem mfX8_fold : mS RX8 yX8_fold cX8_fold 4 (some .long) := ⟨tw_832, tw_831, tw_1⟩
theorem mfX8_foldSort : mV RX8 yX8_foldSort cX8_foldSort 6 (some .long) := ⟨tw_837, tw_836, tp_28, tw_1⟩
theorem mfX8_foldFile : mV RX8 yX8_foldFile cX8_foldFile 7 (some .long) := ⟨tw_842, tw_841, tp_29, tw_1⟩
theorem mfL_below : mS RL yL_below cL_below 2 (some .int) := ⟨tw_845, tw_844, tw_0⟩
theorem mfL_cell : mS RL yL_cell cL_cell 2 (some .int) := ⟨tw_849, tw_848, tw_0⟩
theorem mfL_isSame : mS RL yL_isSame cL_isSame 4 (some .boolean) := ⟨tw_853, tw_852, tw_0⟩
-- the fields of each class
theorem uw_X0 : ∀ w ∈ u_ws RX0 TX0 2, w ∈ tT := List.forall_mem_cons.mpr ⟨tw_55, List.forall_mem_cons.mpr ⟨tw_57, fun _ h => absurd h List.not_mem_nil⟩⟩
theorem uw_X1 : ∀ w ∈ u_ws RX1 TX1 1, w ∈ tT := List.forall_mem_cons.mpr ⟨tw_209, fun _ h => absurd h List.not_mem_nil⟩
theorem uw_X2 : ∀ w ∈ u_ws RX2 TX2 2, w ∈ tT := List.forall_mem_cons.mpr ⟨tw_41, List.forall_mem_cons.mpr ⟨tw_43, fun _ h => absurd h List.not_mem_nil⟩⟩
theorem uw_X3 : ∀ w ∈ u_ws RX3 TX3 5, w ∈ tT := List.forall_mem_cons.mpr ⟨tw_165, List.forall_mem_cons.mpr ⟨tw_167, List.forall_mem_cons.mpr ⟨tw_169, List.forall_mem_cons.mpr ⟨tw_171, List.forall_mem_cons.mpr ⟨tw_173, fun _ h => absurd h List.not_mem_nil⟩⟩⟩⟩⟩
theorem uw_X4 : ∀ w ∈ u_ws RX4 TX4 8, w ∈ tT := List.forall_mem_cons.mpr ⟨tw_73, List.forall_mem_cons.mpr ⟨tw_75, List.forall_mem_cons.mpr ⟨tw_77, List.forall_mem_cons.mpr ⟨tw_79, List.forall_mem_cons.mpr ⟨tw_81, List.forall_mem_cons.mpr ⟨tw_83, List.forall_mem_cons.mpr ⟨tw_85, List.forall_mem_cons.mpr ⟨tw_87, fun _ h => absurd h List.not_mem_nil⟩⟩⟩⟩⟩⟩⟩⟩
theorem uw_X5 : ∀ w ∈ u_ws RX5 TX5 3, w ∈ tT := List.forall_mem_cons.mpr ⟨tw_148, List.forall_mem_cons.mpr ⟨tw_150, List.forall_mem_cons.mpr ⟨tw_152, fun _ h => absurd h List.not_mem_nil⟩⟩⟩
theorem uw_X6 : ∀ w ∈ u_ws RX6 TX6 5, w ∈ tT := List.forall_mem_cons.mpr ⟨tw_191, List.forall_mem_cons.mpr ⟨tw_193, List.forall_mem_cons.mpr ⟨tw_195, List.forall_mem_cons.mpr ⟨tw_197, List.forall_mem_cons.mpr ⟨tw_199, fun _ h => absurd h List.not_mem_nil⟩⟩⟩⟩⟩
theorem uw_X7 : ∀ w ∈ u_ws RX7 TX7 10, w ∈ tT := List.forall_mem_cons.mpr ⟨tw_112, List.forall_mem_cons.mpr ⟨tw_114, List.forall_mem_cons.mpr ⟨tw_116, List.forall_mem_cons.mpr ⟨tw_118, List.forall_mem_cons.mpr ⟨tw_120, List.forall_mem_cons.mpr ⟨tw_122, List.forall_mem_cons.mpr ⟨tw_124, List.forall_mem_cons.mpr ⟨tw_126, List.forall_mem_cons.mpr ⟨tw_128, List.forall_mem_cons.mpr ⟨tw_130, fun _ h => absurd h List.not_mem_nil⟩⟩⟩⟩⟩⟩⟩⟩⟩⟩
theorem uw_X8 : ∀ w ∈ u_ws RX8 TX8 14, w ∈ tT := List.forall_mem_cons.mpr ⟨tw_228, List.forall_mem_cons.mpr ⟨tw_230, List.forall_mem_cons.mpr ⟨tw_232, List.forall_mem_cons.mpr ⟨tw_234, List.forall_mem_cons.mpr ⟨tw_236, List.forall_mem_cons.mpr ⟨tw_238, List.forall_mem_cons.mpr ⟨tw_240, List.forall_mem_cons.mpr ⟨tw_242, List.forall_mem_cons.mpr ⟨tw_244, List.forall_mem_cons.mpr ⟨tw_246, List.forall_mem_cons.mpr ⟨tw_248, List.forall_mem_cons.mpr ⟨tw_250, List.forall_mem_cons.mpr ⟨tw_252, List.forall_mem_cons.mpr ⟨tw_254, fun _ h => absurd h List.not_mem_nil⟩⟩⟩⟩⟩⟩⟩⟩⟩⟩⟩⟩⟩⟩
end
section
/-! The world of one MoraineSort: 97 cells, told by their numbers; what changes in them is a table of integers.
numbers: 3r, 3r+1, 3r+2: row r (0..11 the files, 12 the outcome's, 13..15 and 16..18 those of the splitting, 19 its spare one), its keys, its marks;
60+2n, 61+2n: list n (4p .. 4p+3: run sizes, merge runs, merge sizes, row of plan p), its values; 76+2h, 77+2h: heap h (p: of plan p; 2: the sorter's own);
82+p: plan p (0 latest, 1 trial); 84..88: tournament, its rows, places, losers, winners; 89 outcome; 90..92 splitting, ones, others; 93, 94 key set, its words; 95 the sorter, 96 its files -/
abbrev vwCl : List vw_C := [(RX0, TX0, 2), (RX1, TX1, 1), (RX2, TX2, 2), (RX3, TX3, 5), (RX4, TX4, 8), (RX5, TX5, 3), (RX6, TX6, 5), (RX7, TX7, 10), (RX8, TX8, 14)]
abbrev zM : Type := Nat → Nat → Int
def jI (x : Int) : Int32 := Int32.ofInt x
def jL (x : Int) : Int64 := Int64.ofInt x
/-- one place of the table set -/
def zu (M : zM) (o k : Nat) (v : Int) : zM := va_up M o (va_up (M o) k v)
theorem zu_s (M : zM) (o k : Nat) (v : Int) : zu M o k v o k = v := by simp [zu, va_up]
theorem zu_k (M : zM) (o k : Nat) (v : Int) {k' : Nat} (h : k' ≠ k) : zu M o k v o k' = M o k' := by simp [zu, va_up, h]
theorem zu_o (M : zM) (o k : Nat) (v : Int) {o' : Nat} (h : o' ≠ o) : zu M o k v o' = M o' := by simp [zu, va_up, h]
theorem zu_at (M : zM) (o k : Nat) (v : Int) (o' k' : Nat) : zu M o k v o' k' = if o' = o ∧ k' = k then v else M o' k' := by
  by_cases h : o' = o
  · subst h
    by_cases h2 : k' = k
    · subst h2; simp [zu_s]
    · simp [zu_k _ _ _ _ h2, h2]
  · simp [zu_o _ _ _ _ h, h]
def z_rw (ad : Nat → Nat) (x : Int) : Option Nat := if x < 0 then none else some (ad (3 * x.toNat))
def z_e (ad : Nat → Nat) (cI cJ cO : ClassId) (o : Nat) (m : Nat → Int) : va_E :=
  if o < 60 then
    if o % 3 = 0 then .inr (5, [.ref (ad (o + 1)), .ref (ad (o + 2)), .int (jI (m 2))])
    else .inl (cI, 120, .inl (fun j => jI (m j)))
  else if o < 76 then
    if o % 2 = 0 then .inr (2, [.ref (ad (o + 1)), .int (jI (m 1))])
    else .inl (cI, 120, .inl (fun j => jI (m j)))
  else if o < 82 then
    if o % 2 = 0 then .inr (0, [.ref (ad (o + 1)), .int (jI (m 1))])
    else .inl (cI, 120, .inl (fun j => jI (m j)))
  else if o < 84 then
    .inr (4, [.ref (ad (60 + 2 * (4 * (o - 82)))), .ref (ad (60 + 2 * (4 * (o - 82) + 1))), .ref (ad (60 + 2 * (4 * (o - 82) + 2))), .int (jI (m 3)), .int (jI (m 4)), .ref (ad (60 + 2 * (4 * (o - 82) + 3))), .ref (ad (76 + 2 * (o - 82))), .int (jI (m 7))])
  else if o = 84 then
    .inr (7, [.int (jI (m 0)), .int (jI (m 1)), .int (jI (m 2)), .int (jI (m 3)), .int (jI (m 4)), .int (jI (m 5)), .ref (ad 85), .ref (ad 86), .ref (ad 87), .ref (ad 88)])
  else if o = 85 then .inl (cO, 8, .inr (.inr (.inr (.inr (fun j => z_rw ad (m j))))))
  else if o = 86 then .inl (cI, 8, .inl (fun j => jI (m j)))
  else if o = 87 then .inl (cI, 8, .inl (fun j => jI (m j)))
  else if o = 88 then .inl (cI, 16, .inl (fun j => jI (m j)))
  else if o = 89 then .inr (3, [.ref (ad (3 * 12)), .int (jI (m 1)), .int (jI (m 2)), .int (jI (m 3)), .int (jI (m 4))])
  else if o = 90 then .inr (6, [.int (jI (m 0)), .int (jI (m 1)), .ref (ad 91), .ref (ad 92), .ref (ad (3 * 19))])
  else if o = 91 then .inl (cO, 3, .inr (.inr (.inr (.inr (fun j => some (ad (3 * (13 + j))))))))
  else if o = 92 then .inl (cO, 3, .inr (.inr (.inr (.inr (fun j => some (ad (3 * (16 + j))))))))
  else if o = 93 then .inr (1, [.ref (ad 94)])
  else if o = 94 then .inl (cJ, 32, .inr (.inl (fun j => jL (m j))))
  else if o = 95 then
    .inr (8, [.ref (ad 96), .int (jI (m 1)), .int (jI (m 2)), .int (jI (m 3)), .int (jI (m 4)), .int (jI (m 5)), .int (jI (m 6)), .ref (ad (82 + 0)), .ref (ad (82 + 1)), .ref (ad (76 + 2 * 2)), .ref (ad 84), .ref (ad 89), .ref (ad 90), .ref (ad 93)])
  else .inl (cO, 12, .inr (.inr (.inr (.inr (fun j => some (ad (3 * j)))))))
section
variable {ad : Nat → Nat} {cI cJ cO : ClassId} {m : Nat → Int}
theorem ze_row {r : Nat} (h : r < 20) : z_e ad cI cJ cO (3 * r) m = .inr (5, [.ref (ad (3 * r + 1)), .ref (ad (3 * r + 2)), .int (jI (m 2))]) := by
  unfold z_e; rw [if_pos (by omega), if_pos (by omega)]
theorem ze_keys {r : Nat} (h : r < 20) : z_e ad cI cJ cO (3 * r + 1) m = .inl (cI, 120, .inl (fun j => jI (m j))) := by
  unfold z_e; rw [if_pos (by omega), if_neg (by omega)]
theorem ze_marks {r : Nat} (h : r < 20) : z_e ad cI cJ cO (3 * r + 2) m = .inl (cI, 120, .inl (fun j => jI (m j))) := by
  unfold z_e; rw [if_pos (by omega), if_neg (by omega)]
theorem ze_num {n : Nat} (h : n < 8) : z_e ad cI cJ cO (60 + 2 * n) m = .inr (2, [.ref (ad (61 + 2 * n)), .int (jI (m 1))]) := by
  unfold z_e; rw [if_neg (by omega), if_pos (by omega), if_pos (by omega), show 60 + 2 * n + 1 = 61 + 2 * n by omega]
theorem ze_vals {n : Nat} (h : n < 8) : z_e ad cI cJ cO (61 + 2 * n) m = .inl (cI, 120, .inl (fun j => jI (m j))) := by
  unfold z_e; rw [if_neg (by omega), if_pos (by omega), if_neg (by omega)]
theorem ze_heap {n : Nat} (h : n < 3) : z_e ad cI cJ cO (76 + 2 * n) m = .inr (0, [.ref (ad (77 + 2 * n)), .int (jI (m 1))]) := by
  unfold z_e; rw [if_neg (by omega), if_neg (by omega), if_pos (by omega), if_pos (by omega), show 76 + 2 * n + 1 = 77 + 2 * n by omega]
theorem ze_held {n : Nat} (h : n < 3) : z_e ad cI cJ cO (77 + 2 * n) m = .inl (cI, 120, .inl (fun j => jI (m j))) := by
  unfold z_e; rw [if_neg (by omega), if_neg (by omega), if_pos (by omega), if_neg (by omega)]
theorem ze_plan {p : Nat} (h : p < 2) : z_e ad cI cJ cO (82 + p) m = .inr (4, [.ref (ad (60 + 2 * (4 * p))), .ref (ad (60 + 2 * (4 * p + 1))), .ref (ad (60 + 2 * (4 * p + 2))), .int (jI (m 3)), .int (jI (m 4)), .ref (ad (60 + 2 * (4 * p + 3))), .ref (ad (76 + 2 * p)), .int (jI (m 7))]) := by
  unfold z_e; rw [if_neg (by omega), if_neg (by omega), if_neg (by omega), if_pos (by omega), show 82 + p - 82 = p by omega]
theorem ze_tour : z_e ad cI cJ cO 84 m = .inr (7, [.int (jI (m 0)), .int (jI (m 1)), .int (jI (m 2)), .int (jI (m 3)), .int (jI (m 4)), .int (jI (m 5)), .ref (ad 85), .ref (ad 86), .ref (ad 87), .ref (ad 88)]) := rfl
theorem ze_trows : z_e ad cI cJ cO 85 m = .inl (cO, 8, .inr (.inr (.inr (.inr (fun j => z_rw ad (m j)))))) := rfl
theorem ze_places : z_e ad cI cJ cO 86 m = .inl (cI, 8, .inl (fun j => jI (m j))) := rfl
theorem ze_losers : z_e ad cI cJ cO 87 m = .inl (cI, 8, .inl (fun j => jI (m j))) := rfl
theorem ze_winners : z_e ad cI cJ cO 88 m = .inl (cI, 16, .inl (fun j => jI (m j))) := rfl
theorem ze_out : z_e ad cI cJ cO 89 m = .inr (3, [.ref (ad (3 * 12)), .int (jI (m 1)), .int (jI (m 2)), .int (jI (m 3)), .int (jI (m 4))]) := rfl
theorem ze_spl : z_e ad cI cJ cO 90 m = .inr (6, [.int (jI (m 0)), .int (jI (m 1)), .ref (ad 91), .ref (ad 92), .ref (ad (3 * 19))]) := rfl
theorem ze_ones : z_e ad cI cJ cO 91 m = .inl (cO, 3, .inr (.inr (.inr (.inr (fun j => some (ad (3 * (13 + j)))))))) := rfl
theorem ze_others : z_e ad cI cJ cO 92 m = .inl (cO, 3, .inr (.inr (.inr (.inr (fun j => some (ad (3 * (16 + j)))))))) := rfl
theorem ze_kset : z_e ad cI cJ cO 93 m = .inr (1, [.ref (ad 94)]) := rfl
theorem ze_words : z_e ad cI cJ cO 94 m = .inl (cJ, 32, .inr (.inl (fun j => jL (m j)))) := rfl
theorem ze_ms : z_e ad cI cJ cO 95 m = .inr (8, [.ref (ad 96), .int (jI (m 1)), .int (jI (m 2)), .int (jI (m 3)), .int (jI (m 4)), .int (jI (m 5)), .int (jI (m 6)), .ref (ad (82 + 0)), .ref (ad (82 + 1)), .ref (ad (76 + 2 * 2)), .ref (ad 84), .ref (ad 89), .ref (ad 90), .ref (ad 93)]) := rfl
theorem ze_files : z_e ad cI cJ cO 96 m = .inl (cO, 12, .inr (.inr (.inr (.inr (fun j => some (ad (3 * j))))))) := rfl
end
/-- the cells as a list -/
def z_w (ad : Nat → Nat) (cI cJ cO : ClassId) (M : zM) : va_W := (List.range 97).map (fun o => (ad o, z_e ad cI cJ cO o (M o)))
theorem zw_at {ad : Nat → Nat} {cI cJ cO : ClassId} {M : zM} {o : Nat} (h : o < 97) : (z_w ad cI cJ cO M)[o]? = some (ad o, z_e ad cI cJ cO o (M o)) := by
  simp [z_w, h]
theorem zw_out {ad : Nat → Nat} {cI cJ cO : ClassId} {M : zM} {o : Nat} (h : ¬ o < 97) : (z_w ad cI cJ cO M)[o]? = none := by
  simp [z_w]; omega
theorem zw_set {ad : Nat → Nat} {cI cJ cO : ClassId} {M : zM} {o : Nat} (h : o < 97) (m : Nat → Int) : (z_w ad cI cJ cO M).set o (ad o, z_e ad cI cJ cO o m) = z_w ad cI cJ cO (va_up M o m) := by
  refine List.ext_getElem? fun i => ?_
  by_cases hi : i = o
  · subst hi
    rw [List.getElem?_set_self (by simp [z_w]; exact h), zw_at h]
    simp [va_up]
  · rw [List.getElem?_set_ne (Ne.symm hi)]
    by_cases hb : i < 97
    · rw [zw_at hb, zw_at hb]
      simp [va_up, hi]
    · rw [zw_out hb, zw_out hb]
/-! the locals as a row of places -/
def z_al : Nat → List (Option Value) → List (Nat × Value)
  | _, [] => []
  | i, none :: t => z_al (i + 1) t
  | i, some v :: t => (i, v) :: z_al (i + 1) t
theorem zal_mem {i : Nat} {v : Value} : ∀ (k : Nat) (l : List (Option Value)), (i, v) ∈ z_al k l ↔ k ≤ i ∧ l[i - k]? = some (some v)
  | k, [] => by simp [z_al]
  | k, none :: t => by
    rw [z_al, zal_mem (k + 1) t]
    by_cases h : i = k
    · subst h; simp; omega
    · by_cases h2 : k ≤ i
      · rw [show i - k = (i - (k + 1)) + 1 by omega, List.getElem?_cons_succ]
        constructor
        · rintro ⟨-, h3⟩; exact ⟨h2, h3⟩
        · rintro ⟨-, h3⟩; exact ⟨by omega, h3⟩
      · constructor
        · rintro ⟨h3, -⟩; omega
        · rintro ⟨h3, -⟩; omega
  | k, some w :: t => by
    rw [z_al, List.mem_cons, zal_mem (k + 1) t]
    by_cases h : i = k
    · subst h
      simp
      constructor
      · rintro (h | ⟨h, -⟩)
        · exact h.symm
        · omega
      · intro h; exact Or.inl h.symm
    · by_cases h2 : k ≤ i
      · rw [show i - k = (i - (k + 1)) + 1 by omega, List.getElem?_cons_succ]
        constructor
        · rintro (h3 | ⟨-, h3⟩)
          · exact absurd (congrArg Prod.fst h3) h
          · exact ⟨h2, h3⟩
        · rintro ⟨-, h3⟩; exact Or.inr ⟨by omega, h3⟩
      · constructor
        · rintro (h3 | ⟨h3, -⟩)
          · exact absurd (congrArg Prod.fst h3) h
          · omega
        · rintro ⟨h3, -⟩; omega
theorem zal_get {ls : Array Slot} {n : Nat} {lv : List (Option Value)} (h : lv_has ls n (z_al 0 lv)) {i : Nat} {v : Value} (hi : lv[i]? = some (some v)) : ls[i]? = some (.val v) :=
  h.2.2 (i, v) ((zal_mem 0 lv).mpr ⟨Nat.zero_le _, hi⟩)
def z_c2 : Option (Option Value) → Bool
  | some (some v) => v.category == 2
  | _ => false
/-- a value of one slot stored -/
def z_st (lv : List (Option Value)) (i : Nat) (v : Value) : List (Option Value) := match i with
  | 0 => lv.set 0 (some v)
  | i + 1 => (if z_c2 lv[i]? then lv.set i none else lv).set (i + 1) (some v)
/-- a value of two slots stored -/
def z_st2 (lv : List (Option Value)) (i : Nat) (v : Value) : List (Option Value) := (z_st lv i v).set (i + 1) none
theorem zst_len (lv : List (Option Value)) (i : Nat) (v : Value) : (z_st lv i v).length = lv.length := by
  cases i with
  | zero => simp [z_st]
  | succ i =>
    unfold z_st
    by_cases h : z_c2 lv[i]? <;> simp [h]
theorem zst2_len (lv : List (Option Value)) (i : Nat) (v : Value) : (z_st2 lv i v).length = lv.length := by simp [z_st2, zst_len]
theorem zst_sub {lv : List (Option Value)} {i j : Nat} {v w : Value} (h : (z_st lv i v)[j]? = some (some w)) : (j = i ∧ w = v) ∨ (j ≠ i ∧ lv[j]? = some (some w) ∧ ¬ (j + 1 = i ∧ w.category = 2)) := by
  by_cases hj : j = i
  · subst hj
    refine Or.inl ⟨rfl, ?_⟩
    cases j with
    | zero =>
      simp only [z_st, List.getElem?_set_self'] at h
      cases hq : lv[0]? with
      | none => rw [hq] at h; simp at h
      | some a => rw [hq] at h; simp at h; exact h.symm
    | succ j =>
      simp only [z_st, List.getElem?_set_self'] at h
      cases hq : (if z_c2 lv[j]? = true then lv.set j none else lv)[j + 1]? with
      | none => rw [hq] at h; simp at h
      | some a => rw [hq] at h; simp at h; exact h.symm
  · refine Or.inr ⟨hj, ?_⟩
    cases i with
    | zero =>
      simp only [z_st] at h
      rw [List.getElem?_set_ne (Ne.symm hj)] at h
      exact ⟨h, by omega⟩
    | succ i =>
      simp only [z_st] at h
      rw [List.getElem?_set_ne (Ne.symm hj)] at h
      by_cases hc : z_c2 lv[i]? = true
      · rw [if_pos hc] at h
        by_cases hji : j = i
        · subst hji
          rw [List.getElem?_set_self'] at h
          cases hq : lv[j]? with
          | none => rw [hq] at h; simp at h
          | some a => rw [hq] at h; simp at h
        · rw [List.getElem?_set_ne (Ne.symm hji)] at h
          exact ⟨h, by omega⟩
      · rw [if_neg hc] at h
        refine ⟨h, ?_⟩
        rintro ⟨h1, h2⟩
        have : j = i := by omega
        subst this
        rw [h] at hc
        simp [z_c2, h2] at hc
theorem zst_has {ls : Array Slot} {n i : Nat} {lv : List (Option Value)} {v : Value} (h : lv_has ls n ((i, v) :: (z_al 0 lv).filter (fun q => !(q.1 == i) && !(q.1 + 1 == i && q.2.category == 2)))) : lv_has ls n (z_al 0 (z_st lv i v)) := by
  refine ⟨h.1, h.2.1, fun q hq => ?_⟩
  obtain ⟨j, w⟩ := q
  obtain ⟨-, h2⟩ := (zal_mem 0 _).mp hq
  rw [Nat.sub_zero] at h2
  rcases zst_sub h2 with ⟨rfl, rfl⟩ | ⟨h3, h4, h5⟩
  · exact h.2.2 _ List.mem_cons_self
  · refine h.2.2 _ (List.mem_cons_of_mem _ (List.mem_filter.mpr ⟨(zal_mem 0 lv).mpr ⟨Nat.zero_le _, h4⟩, ?_⟩))
    have h6 : (j == i) = false := by simpa using h3
    by_cases hc : j + 1 = i
    · have : ¬ w.category = 2 := fun q => h5 ⟨hc, q⟩
      simp [h6, this]
    · simp [h6, hc]
theorem zst2_has {ls : Array Slot} {n i : Nat} {lv : List (Option Value)} {v : Value} (h : lv_has ls n ((i, v) :: (z_al 0 lv).filter (fun q => !(q.1 == i) && (!(q.1 == i + 1) && !(q.1 + 1 == i && q.2.category == 2))))) : lv_has ls n (z_al 0 (z_st2 lv i v)) := by
  refine ⟨h.1, h.2.1, fun q hq => ?_⟩
  obtain ⟨j, w⟩ := q
  obtain ⟨-, h2⟩ := (zal_mem 0 _).mp hq
  rw [Nat.sub_zero] at h2
  unfold z_st2 at h2
  by_cases hj1 : j = i + 1
  · subst hj1
    rw [List.getElem?_set_self'] at h2
    cases hq : (z_st lv i v)[i + 1]? with
    | none => rw [hq] at h2; simp at h2
    | some a => rw [hq] at h2; simp at h2
  rw [List.getElem?_set_ne (Ne.symm hj1)] at h2
  rcases zst_sub h2 with ⟨rfl, rfl⟩ | ⟨h3, h4, h5⟩
  · exact h.2.2 _ List.mem_cons_self
  · refine h.2.2 _ (List.mem_cons_of_mem _ (List.mem_filter.mpr ⟨(zal_mem 0 lv).mpr ⟨Nat.zero_le _, h4⟩, ?_⟩))
    have h6 : (j == i) = false := by simpa using h3
    have h7 : (j == i + 1) = false := by simpa using hj1
    by_cases hc : j + 1 = i
    · have : ¬ w.category = 2 := fun q => h5 ⟨hc, q⟩
      simp [h6, h7, this]
    · simp [h6, h7, hc]
/-- fewer places known -/
def z_mk : List Bool → List (Option Value) → List (Option Value)
  | [], _ => []
  | _, [] => []
  | b :: bs, v :: vs => (if b then v else none) :: z_mk bs vs
theorem zmk_len : ∀ (bs : List Bool) (lv : List (Option Value)), bs.length = lv.length → (z_mk bs lv).length = lv.length
  | [], [], _ => rfl
  | b :: bs, v :: vs, h => by simp [z_mk, zmk_len bs vs (by simpa using h)]
  | [], _ :: _, h => by simp at h
  | _ :: _, [], h => by simp at h
theorem zmk_sub : ∀ (bs : List Bool) (lv : List (Option Value)) (j : Nat) (w : Value), (z_mk bs lv)[j]? = some (some w) → lv[j]? = some (some w)
  | [], _, _, _, h => by simp [z_mk] at h
  | _ :: _, [], _, _, h => by simp [z_mk] at h
  | b :: bs, v :: vs, 0, w, h => by
    cases b
    · simp [z_mk] at h
    · simpa [z_mk] using h
  | b :: bs, v :: vs, j + 1, w, h => by
    simp only [z_mk, List.getElem?_cons_succ] at h ⊢
    exact zmk_sub bs vs j w h
theorem zmk_has {ls : Array Slot} {n : Nat} {lv : List (Option Value)} (bs : List Bool) (h : lv_has ls n (z_al 0 lv)) : lv_has ls n (z_al 0 (z_mk bs lv)) := by
  refine ⟨h.1, h.2.1, fun q hq => ?_⟩
  obtain ⟨j, w⟩ := q
  obtain ⟨-, h2⟩ := (zal_mem 0 _).mp hq
  rw [Nat.sub_zero] at h2
  exact h.2.2 _ ((zal_mem 0 lv).mpr ⟨Nat.zero_le _, zmk_sub bs lv j w h2⟩)
end
section
/-! One judgement over the machine, G: the frame at pc with locals lv and operands st, over every heap that holds the table M. -/
abbrev z_tys (cI cJ cO : ClassId) : List (ClassId × FieldType) := [(cI, .int), (cJ, .long), (cO, .object "MoraineSort$Row")]
/-- what else the machine's tables say: two links to private members of the nest's host -/
def z_N (U : State) : Prop := va_Nw (.methodLinkNest RX4 88 yX8_weightOf RX8) U ∧ va_Nw (.methodLinkNest RX4 99 yX8_pagesFor RX8) U
theorem z_N.warm {s U : State} (hW : s.WarmedH U.vm) (h : z_N s) : z_N U := ⟨va_Nw.warmM hW h.1, va_Nw.warmM hW h.2⟩
theorem z_N.same {u U : State} (h : u.vm = U.vm) (h1 : z_N u) : z_N U := ⟨va_Nw.same rfl h h1.1, va_Nw.same rfl h h1.2⟩
/-- everything that stays the same through a method's body -/
abbrev z_X : Type := Program × Launch × Env × Room × State × MethodId × Array Value × List Frame × Method × Code × (State → Prop) × va_G × (Nat → Nat) × (ClassId × ClassId × ClassId) × Nat × Nat × Nat
def zA (X : z_X) : Nat → Nat := X.2.2.2.2.2.2.2.2.2.2.2.2.1
def zL (X : z_X) : Launch := X.2.1
def G (X : z_X) (M : zM) (pc : Nat) (lv : List (Option Value)) (st : List Value) : Prop := match X with
  | (p, l, e, R, s, m, args, below, meth, c, Q, D, ad, (cI, cJ, cO), lo, cs, sl) => ∀ (H : Heap) (locs : List Loc) (ls : Array Slot), va_P D vwCl (z_w ad cI cJ cO M) H → va_S (fun q => lo ≤ q) s.heap H locs → lv_has ls lv.length (z_al 0 lv) → W p l e R s m args below meth c H locs cs sl Q (F0 m pc ls st)
def Cx (cc : ByteArray) (own : String) (ret : Option FieldType) (d n : Nat) (X : z_X) : Prop := match X with
  | (p, l, e, R, s, m, args, below, meth, c, Q, D, ad, (cI, cJ, cO), lo, cs, sl) => p.tables.exec = Jvm.exec ∧ c.code = cc ∧ meth.sig.returnType = ret ∧ c.maxLocals = n ∧ s.vm.findClass own = some m.cls ∧ (∀ w ∈ tT, w.before args s = true) ∧ va_K D vwCl (z_tys cI cJ cO) s ∧ z_N s ∧ (∀ M, va_D (fun q => lo ≤ q) (z_w ad cI cJ cO M)) ∧ meth.locks = false ∧ (d ≤ R.frames ∧ 40 * d ≤ R.locals) ∧ (cs ≤ R.cells ∧ sl ≤ R.slots)
/-- what a contract says of the end -/
def z_Q (D : va_G) (ad : Nat → Nat) (cI cJ cO : ClassId) (lo : Nat) (post : Option Value → zM → Prop) : Array Value → State → Outcome → State → Prop := fun _ st o t => (∃ (v : Option Value) (M' : zM), o = .returned v ∧ post v M' ∧ va_P D vwCl (z_w ad cI cJ cO M') t.heap) ∧ va_F (fun q => lo ≤ q) st t
def Rx (post : (Nat → Nat) → Option Value → zM → Prop) (X : z_X) : Prop := match X with
  | (p, l, e, R, s, m, args, below, meth, c, Q, D, ad, (cI, cJ, cO), lo, cs, sl) => Q = MQ below (z_Q D ad cI cJ cO lo (post ad)) args s cs sl (fun q => lo ≤ q)
def z_B (D : va_G) (ad : Nat → Nat) (cI cJ cO : ClassId) (lo : Nat) (M : zM) (U : State) : Prop := va_P D vwCl (z_w ad cI cJ cO M) U.heap ∧ va_K D vwCl (z_tys cI cJ cO) U ∧ z_N U ∧ ∀ M', va_D (fun q => lo ≤ q) (z_w ad cI cJ cO M')
abbrev z_room (d : Nat) : Room := { frames := d, cells := 0, slots := 0, locals := 40 * d }
/-- a contract: from every heap with the table M, called with these words, it returns, and post holds of the answer and the table -/
def Mt (l : Launch) (d : Nat) (y : MethodName) (cc : ByteArray) (n : Nat) (ret : Option FieldType) (As : (Nat → Nat) → List Value) (M : zM) (post : (Nat → Nat) → Option Value → zM → Prop) : Prop :=
  ∀ (D : va_G) (ad : Nat → Nat) (cI cJ cO : ClassId) (lo : Nat), Met l y (tW y cc n ret) (z_room d) (va_Pc (As ad) (z_B D ad cI cJ cO lo M)) (z_Q D ad cI cJ cO lo (post ad)) 0 0 (fun q => lo ≤ q)
theorem Mt.of {l : Launch} {d : Nat} {y : MethodName} {cc : ByteArray} {n : Nat} {ret : Option FieldType} {As : (Nat → Nat) → List Value} {M : zM} {post : (Nat → Nat) → Option Value → zM → Prop} (lv0 : (Nat → Nat) → List (Option Value))
    (hy : plainName y.cls = true) (h1 : ∀ ad, z_al 0 (lv0 ad) = lv_args 0 (As ad)) (h2 : ∀ ad, (lv0 ad).length = n) (h3 : ∀ ad, (lg_sl (As ad)).length ≤ n)
    (body : ∀ X : z_X, zL X = l → Cx cc y.cls ret d n X → Rx post X → G X M 0 (lv0 (zA X)) []) : Mt l d y cc n ret As M post := by
  intro D ad cI cJ cO lo
  refine Met.ofW (cc := cc) (maxL := n) (ret := ret) hy rfl ?_
  intro p e s m args below meth c s₁ B hml hv
  obtain ⟨rfl, hP, hK, hN, hD⟩ := hv
  have hts : ∀ w ∈ tT, w.before (As ad).toArray s = true := fun w hw => atoms_spec (ws := tW y cc n ret) B.pre w (List.mem_cons_of_mem _ hw)
  have h := body (p, l, e, z_room d, s, m, (As ad).toArray, below, meth, c, MQ below (z_Q D ad cI cJ cO lo (post ad)) (As ad).toArray s 0 0 (fun q => lo ≤ q), D, ad, (cI, cJ, cO), lo, 0, 0) rfl
    ⟨B.exec, B.bytes, B.returns, hml, findClass_of_methodNamed B.named, hts, hK, hN, hD, B.notSynchronized, ⟨Nat.le_refl _, Nat.le_refl _⟩, ⟨Nat.le_refl _, Nat.le_refl _⟩⟩ rfl
  rw [lg_entry_eq]
  refine h s.heap [] _ hP va_S.rf ?_
  show lv_has _ (lv0 ad).length (z_al 0 (lv0 ad))
  rw [h1, h2]
  exact lv_entry (As ad) (h3 ad)
section
variable {X : z_X} {cc : ByteArray} {own : String} {ret : Option FieldType} {d n : Nat} {M : zM} {pc : Nat} {lv : List (Option Value)} {st : List Value}
/-! locals, constants, the stack -/
theorem g_iload (C : Cx cc own ret d n X) {k : Nat} {x : Int32} (hd : decode cc pc = .ok (.iload k, 2)) (hv : lv[k]? = some (some (.int x))) (kk : G X M (pc + 2) lv (.int x :: st)) : G X M pc lv st := by
  obtain ⟨p, l, e, R, s, m, args, below, meth, c, Q, D, ad, ⟨cI, cJ, cO⟩, lo, cs, sl⟩ := X
  obtain ⟨hx, hb, -⟩ := C
  exact fun H locs ls hP hS hl => lv_iload hx hb hd (zal_get hl hv) (kk H locs ls hP hS hl)
theorem g_iload_n (C : Cx cc own ret d n X) {k : Fin 4} {x : Int32} (hd : decode cc pc = .ok (.iload_n k, 1)) (hv : lv[(k : Nat)]? = some (some (.int x))) (kk : G X M (pc + 1) lv (.int x :: st)) : G X M pc lv st := by
  obtain ⟨p, l, e, R, s, m, args, below, meth, c, Q, D, ad, ⟨cI, cJ, cO⟩, lo, cs, sl⟩ := X
  obtain ⟨hx, hb, -⟩ := C
  exact fun H locs ls hP hS hl => lv_iload_n hx hb hd rfl (zal_get hl hv) (kk H locs ls hP hS hl)
theorem g_lload (C : Cx cc own ret d n X) {k : Nat} {x : Int64} (hd : decode cc pc = .ok (.lload k, 2)) (hv : lv[k]? = some (some (.long x))) (kk : G X M (pc + 2) lv (.long x :: st)) : G X M pc lv st := by
  obtain ⟨p, l, e, R, s, m, args, below, meth, c, Q, D, ad, ⟨cI, cJ, cO⟩, lo, cs, sl⟩ := X
  obtain ⟨hx, hb, -⟩ := C
  exact fun H locs ls hP hS hl => lv_lload hx hb hd (zal_get hl hv) (kk H locs ls hP hS hl)
theorem g_lload_n (C : Cx cc own ret d n X) {k : Fin 4} {x : Int64} (hd : decode cc pc = .ok (.lload_n k, 1)) (hv : lv[(k : Nat)]? = some (some (.long x))) (kk : G X M (pc + 1) lv (.long x :: st)) : G X M pc lv st := by
  obtain ⟨p, l, e, R, s, m, args, below, meth, c, Q, D, ad, ⟨cI, cJ, cO⟩, lo, cs, sl⟩ := X
  obtain ⟨hx, hb, -⟩ := C
  exact fun H locs ls hP hS hl => lv_lload_n hx hb hd rfl (zal_get hl hv) (kk H locs ls hP hS hl)
theorem g_aload (C : Cx cc own ret d n X) {k : Nat} {x : Nat} (hd : decode cc pc = .ok (.aload k, 2)) (hv : lv[k]? = some (some (.ref x))) (kk : G X M (pc + 2) lv (.ref x :: st)) : G X M pc lv st := by
  obtain ⟨p, l, e, R, s, m, args, below, meth, c, Q, D, ad, ⟨cI, cJ, cO⟩, lo, cs, sl⟩ := X
  obtain ⟨hx, hb, -⟩ := C
  exact fun H locs ls hP hS hl => lv_aload hx hb hd (zal_get hl hv) (kk H locs ls hP hS hl)
theorem g_aload_n (C : Cx cc own ret d n X) {k : Fin 4} {x : Nat} (hd : decode cc pc = .ok (.aload_n k, 1)) (hv : lv[(k : Nat)]? = some (some (.ref x))) (kk : G X M (pc + 1) lv (.ref x :: st)) : G X M pc lv st := by
  obtain ⟨p, l, e, R, s, m, args, below, meth, c, Q, D, ad, ⟨cI, cJ, cO⟩, lo, cs, sl⟩ := X
  obtain ⟨hx, hb, -⟩ := C
  exact fun H locs ls hP hS hl => lv_aload_n hx hb hd rfl (zal_get hl hv) (kk H locs ls hP hS hl)
theorem g_istore (C : Cx cc own ret d n X) {k : Nat} {x : Int32} (hd : decode cc pc = .ok (.istore k, 2)) (hk : k < lv.length) (kk : G X M (pc + 2) (z_st lv k (.int x)) st) : G X M pc lv (.int x :: st) := by
  obtain ⟨p, l, e, R, s, m, args, below, meth, c, Q, D, ad, ⟨cI, cJ, cO⟩, lo, cs, sl⟩ := X
  obtain ⟨hx, hb, -⟩ := C
  exact fun H locs ls hP hS hl => lv_istore hx hb hd hl hk rfl fun ls' hl' => kk H locs ls' hP hS (by rw [zst_len]; exact zst_has hl')
theorem g_istore_n (C : Cx cc own ret d n X) {k : Fin 4} {x : Int32} (hd : decode cc pc = .ok (.istore_n k, 1)) (hk : (k : Nat) < lv.length) (kk : G X M (pc + 1) (z_st lv k (.int x)) st) : G X M pc lv (.int x :: st) := by
  obtain ⟨p, l, e, R, s, m, args, below, meth, c, Q, D, ad, ⟨cI, cJ, cO⟩, lo, cs, sl⟩ := X
  obtain ⟨hx, hb, -⟩ := C
  exact fun H locs ls hP hS hl => lv_istore_n hx hb hd rfl hl hk rfl fun ls' hl' => kk H locs ls' hP hS (by rw [zst_len]; exact zst_has hl')
theorem g_astore (C : Cx cc own ret d n X) {k : Nat} {x : Nat} (hd : decode cc pc = .ok (.astore k, 2)) (hk : k < lv.length) (kk : G X M (pc + 2) (z_st lv k (.ref x)) st) : G X M pc lv (.ref x :: st) := by
  obtain ⟨p, l, e, R, s, m, args, below, meth, c, Q, D, ad, ⟨cI, cJ, cO⟩, lo, cs, sl⟩ := X
  obtain ⟨hx, hb, -⟩ := C
  exact fun H locs ls hP hS hl => lv_astore hx hb hd hl hk rfl fun ls' hl' => kk H locs ls' hP hS (by rw [zst_len]; exact zst_has hl')
theorem g_astore_n (C : Cx cc own ret d n X) {k : Fin 4} {x : Nat} (hd : decode cc pc = .ok (.astore_n k, 1)) (hk : (k : Nat) < lv.length) (kk : G X M (pc + 1) (z_st lv k (.ref x)) st) : G X M pc lv (.ref x :: st) := by
  obtain ⟨p, l, e, R, s, m, args, below, meth, c, Q, D, ad, ⟨cI, cJ, cO⟩, lo, cs, sl⟩ := X
  obtain ⟨hx, hb, -⟩ := C
  exact fun H locs ls hP hS hl => lv_astore_n hx hb hd rfl hl hk rfl fun ls' hl' => kk H locs ls' hP hS (by rw [zst_len]; exact zst_has hl')
theorem g_lstore (C : Cx cc own ret d n X) {k : Nat} {x : Int64} (hd : decode cc pc = .ok (.lstore k, 2)) (hk : k + 1 < lv.length) (kk : G X M (pc + 2) (z_st2 lv k (.long x)) st) : G X M pc lv (.long x :: st) := by
  obtain ⟨p, l, e, R, s, m, args, below, meth, c, Q, D, ad, ⟨cI, cJ, cO⟩, lo, cs, sl⟩ := X
  obtain ⟨hx, hb, -⟩ := C
  exact fun H locs ls hP hS hl => lv_lstore hx hb hd hl hk rfl fun ls' hl' => kk H locs ls' hP hS (by rw [zst2_len]; exact zst2_has hl')
theorem g_lstore_n (C : Cx cc own ret d n X) {k : Fin 4} {x : Int64} (hd : decode cc pc = .ok (.lstore_n k, 1)) (hk : (k : Nat) + 1 < lv.length) (kk : G X M (pc + 1) (z_st2 lv k (.long x)) st) : G X M pc lv (.long x :: st) := by
  obtain ⟨p, l, e, R, s, m, args, below, meth, c, Q, D, ad, ⟨cI, cJ, cO⟩, lo, cs, sl⟩ := X
  obtain ⟨hx, hb, -⟩ := C
  exact fun H locs ls hP hS hl => lv_lstore_n hx hb hd rfl hl hk rfl fun ls' hl' => kk H locs ls' hP hS (by rw [zst2_len]; exact zst2_has hl')
theorem g_mask (bs : List Bool) (hb : bs.length = lv.length) (kk : G X M pc (z_mk bs lv) st) : G X M pc lv st := by
  obtain ⟨p, l, e, R, s, m, args, below, meth, c, Q, D, ad, ⟨cI, cJ, cO⟩, lo, cs, sl⟩ := X
  exact fun H locs ls hP hS hl => kk H locs ls hP hS (by rw [zmk_len bs lv hb]; exact zmk_has bs hl)
theorem g_iconst (C : Cx cc own ret d n X) {x : Int} (hd : decode cc pc = .ok (.iconst x, 1)) (kk : G X M (pc + 1) lv (.int (jI x) :: st)) : G X M pc lv st := by
  obtain ⟨p, l, e, R, s, m, args, below, meth, c, Q, D, ad, ⟨cI, cJ, cO⟩, lo, cs, sl⟩ := X
  obtain ⟨hx, hb, -⟩ := C
  exact fun H locs ls hP hS hl => lv_iconst hx hb hd rfl (kk H locs ls hP hS hl)
theorem g_bipush (C : Cx cc own ret d n X) {x : Int} (hd : decode cc pc = .ok (.bipush x, 2)) (hx : (Int8.ofInt x).toInt32 = jI x) (kk : G X M (pc + 2) lv (.int (jI x) :: st)) : G X M pc lv st := by
  obtain ⟨p, l, e, R, s, m, args, below, meth, c, Q, D, ad, ⟨cI, cJ, cO⟩, lo, cs, sl⟩ := X
  obtain ⟨hx', hb, -⟩ := C
  exact fun H locs ls hP hS hl => lv_bipush hx' hb hd hx (kk H locs ls hP hS hl)
theorem g_sipush (C : Cx cc own ret d n X) {x : Int} (hd : decode cc pc = .ok (.sipush x, 3)) (hx : (Int16.ofInt x).toInt32 = jI x) (kk : G X M (pc + 3) lv (.int (jI x) :: st)) : G X M pc lv st := by
  obtain ⟨p, l, e, R, s, m, args, below, meth, c, Q, D, ad, ⟨cI, cJ, cO⟩, lo, cs, sl⟩ := X
  obtain ⟨hx', hb, -⟩ := C
  exact fun H locs ls hP hS hl => lv_sipush hx' hb hd hx (kk H locs ls hP hS hl)
theorem g_dup (C : Cx cc own ret d n X) {v : Value} (hd : decode cc pc = .ok (.dup, 1)) (hv : v.category = 1) (kk : G X M (pc + 1) lv (v :: v :: st)) : G X M pc lv (v :: st) := by
  obtain ⟨p, l, e, R, s, m, args, below, meth, c, Q, D, ad, ⟨cI, cJ, cO⟩, lo, cs, sl⟩ := X
  obtain ⟨hx, hb, -⟩ := C
  exact fun H locs ls hP hS hl => lv_dup hx hb hd hv (kk H locs ls hP hS hl)
theorem g_pop (C : Cx cc own ret d n X) {v : Value} (hd : decode cc pc = .ok (.pop, 1)) (hv : v.category = 1) (kk : G X M (pc + 1) lv st) : G X M pc lv (v :: st) := by
  obtain ⟨p, l, e, R, s, m, args, below, meth, c, Q, D, ad, ⟨cI, cJ, cO⟩, lo, cs, sl⟩ := X
  obtain ⟨hx, hb, -⟩ := C
  exact fun H locs ls hP hS hl => lv_pop hx hb hd hv (kk H locs ls hP hS hl)
theorem g_dup2 (C : Cx cc own ret d n X) {v w : Value} (hd : decode cc pc = .ok (.dup2, 1)) (hv : v.category = 1) (hw : w.category = 1) (kk : G X M (pc + 1) lv (v :: w :: v :: w :: st)) : G X M pc lv (v :: w :: st) := by
  obtain ⟨p, l, e, R, s, m, args, below, meth, c, Q, D, ad, ⟨cI, cJ, cO⟩, lo, cs, sl⟩ := X
  obtain ⟨hx, hb, -⟩ := C
  exact fun H locs ls hP hS hl => lv_dup2_11 hx hb hd hv hw (kk H locs ls hP hS hl)
theorem g_goto (C : Cx cc own ret d n X) {off : Int} {tgt : Nat} (hd : decode cc pc = .ok (.goto off, 3)) (ht : (pc : Int) + off = (tgt : Int)) (kk : G X M tgt lv st) : G X M pc lv st := by
  obtain ⟨p, l, e, R, s, m, args, below, meth, c, Q, D, ad, ⟨cI, cJ, cO⟩, lo, cs, sl⟩ := X
  obtain ⟨hx, hb, -⟩ := C
  exact fun H locs ls hP hS hl => lv_goto hx hb hd ht (kk H locs ls hP hS hl)
end
end
section
/-! numbers: every int of the walk is jI of an integer -/
theorem jI_add (x y : Int) : jI x + jI y = jI (x + y) := (Int32.ofInt_add x y).symm
theorem jI_sub (x y : Int) : jI x - jI y = jI (x - y) := (Int32.ofInt_sub x y).symm
theorem jI_mul (x y : Int) : jI x * jI y = jI (x * y) := (Int32.ofInt_mul x y).symm
theorem jI_neg (x : Int) : - jI x = jI (-x) := (Int32.ofInt_neg x).symm
theorem jI_t {x : Int} (h : -2147483648 ≤ x ∧ x ≤ 2147483647) : (jI x).toInt = x := Int32.toInt_ofInt_of_le (by omega) (by omega)
theorem jI_of (x : Int32) : jI x.toInt = x := Int32.ofInt_toInt x
theorem jI_n (a : Nat) : jI (a : Int) = nI a := Int32.ofInt_eq_ofNat
theorem jI_lt {x y : Int} (hx : -2147483648 ≤ x ∧ x ≤ 2147483647) (hy : -2147483648 ≤ y ∧ y ≤ 2147483647) : jI x < jI y ↔ x < y := by rw [Int32.lt_iff_toInt_lt, jI_t hx, jI_t hy]
theorem jI_le {x y : Int} (hx : -2147483648 ≤ x ∧ x ≤ 2147483647) (hy : -2147483648 ≤ y ∧ y ≤ 2147483647) : jI x ≤ jI y ↔ x ≤ y := by rw [Int32.le_iff_toInt_le, jI_t hx, jI_t hy]
theorem jI_eq {x y : Int} (hx : -2147483648 ≤ x ∧ x ≤ 2147483647) (hy : -2147483648 ≤ y ∧ y ≤ 2147483647) : jI x = jI y ↔ x = y := by rw [← Int32.toInt_inj, jI_t hx, jI_t hy]
theorem jI_0 : jI 0 = 0 := rfl
theorem jI_div {x y : Int} (hx : 0 ≤ x ∧ x ≤ 2147483647) (hy : 0 < y ∧ y ≤ 2147483647) : jI x / jI y = jI (x / y) := by
  obtain ⟨a, rfl⟩ := Int.eq_ofNat_of_zero_le hx.1
  obtain ⟨b, rfl⟩ := Int.eq_ofNat_of_zero_le (show 0 ≤ y by omega)
  rw [jI_n, jI_n, pk_div (by omega) (by omega) (by omega), ← jI_n]; rfl
theorem jI_rem {x y : Int} (hx : 0 ≤ x ∧ x ≤ 2147483647) (hy : 0 < y ∧ y ≤ 2147483647) : jI x - jI x / jI y * jI y = jI (x % y) := by
  obtain ⟨a, rfl⟩ := Int.eq_ofNat_of_zero_le hx.1
  obtain ⟨b, rfl⟩ := Int.eq_ofNat_of_zero_le (show 0 ≤ y by omega)
  rw [jI_n, jI_n, pk_rem (by omega) (by omega) (by omega), ← jI_n]; rfl
theorem jI_ne0 {y : Int} (hy : -2147483648 ≤ y ∧ y ≤ 2147483647) (h : y ≠ 0) : ¬ jI y = 0 := fun q => h ((jI_eq hy (by omega)).mp (q.trans jI_0.symm))
theorem jI_in {i N : Nat} (h : i < N) (hN : N < 2 ^ 31) : vp_in (jI (i : Int)) N := by rw [jI_n]; exact vp_in_nI h hN
theorem jI_cl {i : Nat} (h : i < 2 ^ 31) : (jI (i : Int)).toNatClampNeg = i := by rw [jI_n]; exact nI_clamp h
theorem jL_t {x : Int} (h : -9223372036854775808 ≤ x ∧ x ≤ 9223372036854775807) : (jL x).toInt = x := Int64.toInt_ofInt_of_le (by omega) (by omega)
theorem jL_of (x : Int64) : jL x.toInt = x := Int64.ofInt_toInt x
theorem jI_l {x : Int} (h : -2147483648 ≤ x ∧ x ≤ 2147483647) : (jI x).toInt64 = jL x := by
  rw [← Int64.toInt_inj, Int32.toInt_toInt64, jI_t h, jL_t (by omega)]
section
variable {X : z_X} {cc : ByteArray} {own : String} {ret : Option FieldType} {d n : Nat} {M : zM} {pc : Nat} {lv : List (Option Value)} {st : List Value}
theorem g_iadd (C : Cx cc own ret d n X) {x y : Int} (hd : decode cc pc = .ok (.iadd, 1)) (kk : G X M (pc + 1) lv (.int (jI (x + y)) :: st)) : G X M pc lv (.int (jI y) :: .int (jI x) :: st) := by
  obtain ⟨p, l, e, R, s, m, args, below, meth, c, Q, D, ad, ⟨cI, cJ, cO⟩, lo, cs, sl⟩ := X
  obtain ⟨hx, hb, -⟩ := C
  exact fun H locs ls hP hS hl => lv_iadd hx hb hd (by rw [jI_add]; exact kk H locs ls hP hS hl)
theorem g_isub (C : Cx cc own ret d n X) {x y : Int} (hd : decode cc pc = .ok (.isub, 1)) (kk : G X M (pc + 1) lv (.int (jI (x - y)) :: st)) : G X M pc lv (.int (jI y) :: .int (jI x) :: st) := by
  obtain ⟨p, l, e, R, s, m, args, below, meth, c, Q, D, ad, ⟨cI, cJ, cO⟩, lo, cs, sl⟩ := X
  obtain ⟨hx, hb, -⟩ := C
  exact fun H locs ls hP hS hl => lv_isub hx hb hd (by rw [jI_sub]; exact kk H locs ls hP hS hl)
theorem g_imul (C : Cx cc own ret d n X) {x y : Int} (hd : decode cc pc = .ok (.imul, 1)) (kk : G X M (pc + 1) lv (.int (jI (x * y)) :: st)) : G X M pc lv (.int (jI y) :: .int (jI x) :: st) := by
  obtain ⟨p, l, e, R, s, m, args, below, meth, c, Q, D, ad, ⟨cI, cJ, cO⟩, lo, cs, sl⟩ := X
  obtain ⟨hx, hb, -⟩ := C
  exact fun H locs ls hP hS hl => lv_imul hx hb hd (by rw [jI_mul]; exact kk H locs ls hP hS hl)
theorem g_ineg (C : Cx cc own ret d n X) {x : Int} (hd : decode cc pc = .ok (.ineg, 1)) (kk : G X M (pc + 1) lv (.int (jI (-x)) :: st)) : G X M pc lv (.int (jI x) :: st) := by
  obtain ⟨p, l, e, R, s, m, args, below, meth, c, Q, D, ad, ⟨cI, cJ, cO⟩, lo, cs, sl⟩ := X
  obtain ⟨hx, hb, -⟩ := C
  exact fun H locs ls hP hS hl => lv_ineg hx hb hd (by rw [jI_neg]; exact kk H locs ls hP hS hl)
theorem g_idiv (C : Cx cc own ret d n X) {x y : Int} (hd : decode cc pc = .ok (.idiv, 1)) (hX : 0 ≤ x ∧ x ≤ 2147483647) (hY : 0 < y ∧ y ≤ 2147483647) (kk : G X M (pc + 1) lv (.int (jI (x / y)) :: st)) : G X M pc lv (.int (jI y) :: .int (jI x) :: st) := by
  obtain ⟨p, l, e, R, s, m, args, below, meth, c, Q, D, ad, ⟨cI, cJ, cO⟩, lo, cs, sl⟩ := X
  obtain ⟨hx, hb, -⟩ := C
  exact fun H locs ls hP hS hl => lv_idiv hx hb hd (jI_ne0 (by omega) (by omega)) (by rw [jI_div hX hY]; exact kk H locs ls hP hS hl)
theorem g_irem (C : Cx cc own ret d n X) {x y : Int} (hd : decode cc pc = .ok (.irem, 1)) (hX : 0 ≤ x ∧ x ≤ 2147483647) (hY : 0 < y ∧ y ≤ 2147483647) (kk : G X M (pc + 1) lv (.int (jI (x % y)) :: st)) : G X M pc lv (.int (jI y) :: .int (jI x) :: st) := by
  obtain ⟨p, l, e, R, s, m, args, below, meth, c, Q, D, ad, ⟨cI, cJ, cO⟩, lo, cs, sl⟩ := X
  obtain ⟨hx, hb, -⟩ := C
  exact fun H locs ls hP hS hl => lv_irem hx hb hd (jI_ne0 (by omega) (by omega)) (by rw [jI_rem hX hY]; exact kk H locs ls hP hS hl)
theorem g_iremR (C : Cx cc own ret d n X) {x y : Int32} (hd : decode cc pc = .ok (.irem, 1)) (hY : ¬ y = 0) (kk : G X M (pc + 1) lv (.int (x - x / y * y) :: st)) : G X M pc lv (.int y :: .int x :: st) := by
  obtain ⟨p, l, e, R, s, m, args, below, meth, c, Q, D, ad, ⟨cI, cJ, cO⟩, lo, cs, sl⟩ := X
  obtain ⟨hx, hb, -⟩ := C
  exact fun H locs ls hP hS hl => lv_irem hx hb hd hY (kk H locs ls hP hS hl)
theorem g_iand (C : Cx cc own ret d n X) {x y : Int32} (hd : decode cc pc = .ok (.iand, 1)) (kk : G X M (pc + 1) lv (.int (x &&& y) :: st)) : G X M pc lv (.int y :: .int x :: st) := by
  obtain ⟨p, l, e, R, s, m, args, below, meth, c, Q, D, ad, ⟨cI, cJ, cO⟩, lo, cs, sl⟩ := X
  obtain ⟨hx, hb, -⟩ := C
  exact fun H locs ls hP hS hl => lv_iand hx hb hd (kk H locs ls hP hS hl)
theorem g_ixor (C : Cx cc own ret d n X) {x y : Int32} (hd : decode cc pc = .ok (.ixor, 1)) (kk : G X M (pc + 1) lv (.int (x ^^^ y) :: st)) : G X M pc lv (.int y :: .int x :: st) := by
  obtain ⟨p, l, e, R, s, m, args, below, meth, c, Q, D, ad, ⟨cI, cJ, cO⟩, lo, cs, sl⟩ := X
  obtain ⟨hx, hb, -⟩ := C
  exact fun H locs ls hP hS hl => lv_ixor hx hb hd (kk H locs ls hP hS hl)
theorem g_ishr (C : Cx cc own ret d n X) {x y : Int32} (hd : decode cc pc = .ok (.ishr, 1)) (kk : G X M (pc + 1) lv (.int (x >>> (y &&& 31)) :: st)) : G X M pc lv (.int y :: .int x :: st) := by
  obtain ⟨p, l, e, R, s, m, args, below, meth, c, Q, D, ad, ⟨cI, cJ, cO⟩, lo, cs, sl⟩ := X
  obtain ⟨hx, hb, -⟩ := C
  exact fun H locs ls hP hS hl => lv_ishr hx hb hd (kk H locs ls hP hS hl)
theorem g_i2l (C : Cx cc own ret d n X) {x : Int32} (hd : decode cc pc = .ok (.i2l, 1)) (kk : G X M (pc + 1) lv (.long x.toInt64 :: st)) : G X M pc lv (.int x :: st) := by
  obtain ⟨p, l, e, R, s, m, args, below, meth, c, Q, D, ad, ⟨cI, cJ, cO⟩, lo, cs, sl⟩ := X
  obtain ⟨hx, hb, -⟩ := C
  exact fun H locs ls hP hS hl => lv_i2l hx hb hd rfl (kk H locs ls hP hS hl)
theorem g_ladd (C : Cx cc own ret d n X) {x y : Int64} (hd : decode cc pc = .ok (.ladd, 1)) (kk : G X M (pc + 1) lv (.long (x + y) :: st)) : G X M pc lv (.long y :: .long x :: st) := by
  obtain ⟨p, l, e, R, s, m, args, below, meth, c, Q, D, ad, ⟨cI, cJ, cO⟩, lo, cs, sl⟩ := X
  obtain ⟨hx, hb, -⟩ := C
  exact fun H locs ls hP hS hl => lv_ladd hx hb hd (kk H locs ls hP hS hl)
theorem g_lmul (C : Cx cc own ret d n X) {x y : Int64} (hd : decode cc pc = .ok (.lmul, 1)) (kk : G X M (pc + 1) lv (.long (x * y) :: st)) : G X M pc lv (.long y :: .long x :: st) := by
  obtain ⟨p, l, e, R, s, m, args, below, meth, c, Q, D, ad, ⟨cI, cJ, cO⟩, lo, cs, sl⟩ := X
  obtain ⟨hx, hb, -⟩ := C
  exact fun H locs ls hP hS hl => lv_lmul hx hb hd (kk H locs ls hP hS hl)
theorem g_land (C : Cx cc own ret d n X) {x y : Int64} (hd : decode cc pc = .ok (.land, 1)) (kk : G X M (pc + 1) lv (.long (x &&& y) :: st)) : G X M pc lv (.long y :: .long x :: st) := by
  obtain ⟨p, l, e, R, s, m, args, below, meth, c, Q, D, ad, ⟨cI, cJ, cO⟩, lo, cs, sl⟩ := X
  obtain ⟨hx, hb, -⟩ := C
  exact fun H locs ls hP hS hl => lv_land hx hb hd (kk H locs ls hP hS hl)
theorem g_lor (C : Cx cc own ret d n X) {x y : Int64} (hd : decode cc pc = .ok (.lor, 1)) (kk : G X M (pc + 1) lv (.long (x ||| y) :: st)) : G X M pc lv (.long y :: .long x :: st) := by
  obtain ⟨p, l, e, R, s, m, args, below, meth, c, Q, D, ad, ⟨cI, cJ, cO⟩, lo, cs, sl⟩ := X
  obtain ⟨hx, hb, -⟩ := C
  exact fun H locs ls hP hS hl => lv_lor hx hb hd (kk H locs ls hP hS hl)
theorem g_lshl (C : Cx cc own ret d n X) {x : Int64} {y : Int32} (hd : decode cc pc = .ok (.lshl, 1)) (kk : G X M (pc + 1) lv (.long (x <<< (y.toInt64 &&& 63)) :: st)) : G X M pc lv (.int y :: .long x :: st) := by
  obtain ⟨p, l, e, R, s, m, args, below, meth, c, Q, D, ad, ⟨cI, cJ, cO⟩, lo, cs, sl⟩ := X
  obtain ⟨hx, hb, -⟩ := C
  exact fun H locs ls hP hS hl => lv_lshl hx hb hd rfl (kk H locs ls hP hS hl)
theorem g_lconst (C : Cx cc own ret d n X) {k : Fin 2} (hd : decode cc pc = .ok (.lconst k, 1)) (kk : G X M (pc + 1) lv (.long (Int64.ofNat k) :: st)) : G X M pc lv st := by
  obtain ⟨p, l, e, R, s, m, args, below, meth, c, Q, D, ad, ⟨cI, cJ, cO⟩, lo, cs, sl⟩ := X
  obtain ⟨hx, hb, -⟩ := C
  exact fun H locs ls hP hS hl => lv_lconst hx hb hd rfl (kk H locs ls hP hS hl)
theorem g_lcmp (C : Cx cc own ret d n X) {x y : Int64} (hd : decode cc pc = .ok (.lcmp, 1)) (k1 : x = y → G X M (pc + 1) lv (.int (jI 0) :: st)) (k2 : x ≠ y → ∀ z : Int, -1 ≤ z → z ≤ 1 → z ≠ 0 → G X M (pc + 1) lv (.int (jI z) :: st)) : G X M pc lv (.long y :: .long x :: st) := by
  by_cases hq : x = y
  · have e1 : lg_cmp x y = jI 0 := by subst hq; simp [lg_cmp, jI]
    replace k1 := k1 hq
    obtain ⟨p, l, e, R, s, m, args, below, meth, c, Q, D, ad, ⟨cI, cJ, cO⟩, lo, cs, sl⟩ := X
    obtain ⟨hx, hb, -⟩ := C
    exact fun H locs ls hP hS hl => W.lcmp hx hb hd (by rw [e1]; exact k1 H locs ls hP hS hl)
  · obtain ⟨z, e1, z1, z2, z3⟩ : ∃ z : Int, lg_cmp x y = jI z ∧ -1 ≤ z ∧ z ≤ 1 ∧ z ≠ 0 := by
      by_cases h1 : y < x
      · exact ⟨1, by simp [lg_cmp, jI, h1], by omega, by omega, by omega⟩
      · exact ⟨-1, by simp [lg_cmp, jI, h1, hq], by omega, by omega, by omega⟩
    replace k2 := k2 hq z z1 z2 z3
    obtain ⟨p, l, e, R, s, m, args, below, meth, c, Q, D, ad, ⟨cI, cJ, cO⟩, lo, cs, sl⟩ := X
    obtain ⟨hx, hb, -⟩ := C
    exact fun H locs ls hP hS hl => W.lcmp hx hb hd (by rw [e1]; exact k2 H locs ls hP hS hl)
theorem g_dcmp (C : Cx cc own ret d n X) {x y : UInt64} {op : CmpOp} (hd : decode cc pc = .ok (.dcmp op, 1)) (kk : G X M (pc + 1) lv (.int (Op.cmpValue (FP.dcmp x y) op) :: st)) : G X M pc lv (.double y :: .double x :: st) := by
  obtain ⟨p, l, e, R, s, m, args, below, meth, c, Q, D, ad, ⟨cI, cJ, cO⟩, lo, cs, sl⟩ := X
  obtain ⟨hx, hb, -⟩ := C
  exact fun H locs ls hP hS hl => lv_dcmp hx hb hd (kk H locs ls hP hS hl)
theorem g_ddiv (C : Cx cc own ret d n X) {x y : UInt64} (hd : decode cc pc = .ok (.ddiv, 1)) (hn : vf_n64 (FP.ddiv x y)) (kk : G X M (pc + 1) lv (.double (FP.ddiv x y) :: st)) : G X M pc lv (.double y :: .double x :: st) := by
  obtain ⟨p, l, e, R, s, m, args, below, meth, c, Q, D, ad, ⟨cI, cJ, cO⟩, lo, cs, sl⟩ := X
  obtain ⟨hx, hb, -⟩ := C
  exact fun H locs ls hP hS hl => lv_ddiv hx hb hd hn (kk H locs ls hP hS hl)
theorem g_i2d (C : Cx cc own ret d n X) {x : Int32} (hd : decode cc pc = .ok (.i2d, 1)) (kk : G X M (pc + 1) lv (.double (FP.i2d x) :: st)) : G X M pc lv (.int x :: st) := by
  obtain ⟨p, l, e, R, s, m, args, below, meth, c, Q, D, ad, ⟨cI, cJ, cO⟩, lo, cs, sl⟩ := X
  obtain ⟨hx, hb, -⟩ := C
  exact fun H locs ls hP hS hl => lv_i2d hx hb hd (kk H locs ls hP hS hl)
theorem g_dconst0 (C : Cx cc own ret d n X) (hd : decode cc pc = .ok (.dconst 0, 1)) (kk : G X M (pc + 1) lv (.double FP.dconst0 :: st)) : G X M pc lv st := by
  obtain ⟨p, l, e, R, s, m, args, below, meth, c, Q, D, ad, ⟨cI, cJ, cO⟩, lo, cs, sl⟩ := X
  obtain ⟨hx, hb, -⟩ := C
  exact fun H locs ls hP hS hl => lv_dconst0 hx hb hd (kk H locs ls hP hS hl)
theorem g_dconst1 (C : Cx cc own ret d n X) (hd : decode cc pc = .ok (.dconst 1, 1)) (kk : G X M (pc + 1) lv (.double FP.dconst1 :: st)) : G X M pc lv st := by
  obtain ⟨p, l, e, R, s, m, args, below, meth, c, Q, D, ad, ⟨cI, cJ, cO⟩, lo, cs, sl⟩ := X
  obtain ⟨hx, hb, -⟩ := C
  exact fun H locs ls hP hS hl => lv_dconst1 hx hb hd (kk H locs ls hP hS hl)
theorem g_ldc (C : Cx cc own ret d n X) {idx : Nat} {v : Int32} (hl0 : Cond.constant own idx v ∈ tT) (hd : decode cc pc = .ok (.ldc idx, 2)) (kk : G X M (pc + 2) lv (.int v :: st)) : G X M pc lv st := by
  obtain ⟨p, l, e, R, s, m, args, below, meth, c, Q, D, ad, ⟨cI, cJ, cO⟩, lo, cs, sl⟩ := X
  obtain ⟨hx, hb, -, -, ho, hts, -⟩ := C
  exact fun H locs ls hP hS hl => lv_ldc hx hb ho (hts _ hl0) hd (kk H locs ls hP hS hl)
theorem g_ldcw (C : Cx cc own ret d n X) {idx : Nat} {v : Int32} (hl0 : Cond.constant own idx v ∈ tT) (hd : decode cc pc = .ok (.ldc_w idx, 3)) (kk : G X M (pc + 3) lv (.int v :: st)) : G X M pc lv st := by
  obtain ⟨p, l, e, R, s, m, args, below, meth, c, Q, D, ad, ⟨cI, cJ, cO⟩, lo, cs, sl⟩ := X
  obtain ⟨hx, hb, -, -, ho, hts, -⟩ := C
  exact fun H locs ls hP hS hl => lv_ldcw hx hb ho (hts _ hl0) hd (kk H locs ls hP hS hl)
theorem g_ldc2 (C : Cx cc own ret d n X) {idx : Nat} {v : Int64} (hl0 : Cond.constantLong own idx v ∈ tT) (hd : decode cc pc = .ok (.ldc2_w idx, 3)) (kk : G X M (pc + 3) lv (.long v :: st)) : G X M pc lv st := by
  obtain ⟨p, l, e, R, s, m, args, below, meth, c, Q, D, ad, ⟨cI, cJ, cO⟩, lo, cs, sl⟩ := X
  obtain ⟨hx, hb, -, -, ho, hts, -⟩ := C
  exact fun H locs ls hP hS hl => lv_ldc2 hx hb ho (hts _ hl0) hd (kk H locs ls hP hS hl)
theorem g_iinc (C : Cx cc own ret d n X) {k : Nat} {a x : Int} (hd : decode cc pc = .ok (.iinc k a, 3)) (hv : lv[k]? = some (some (.int (jI x)))) (kk : G X M (pc + 3) (z_st lv k (.int (jI (x + a)))) st) : G X M pc lv st := by
  obtain ⟨p, l, e, R, s, m, args, below, meth, c, Q, D, ad, ⟨cI, cJ, cO⟩, lo, cs, sl⟩ := X
  obtain ⟨hx, hb, -⟩ := C
  intro H locs ls hP hS hl
  obtain ⟨q, hq⟩ := List.getElem?_of_mem ((zal_mem 0 lv).mpr ⟨Nat.zero_le _, hv⟩)
  exact lv_iinc hx hb hd hl hq (jI_add x a) (List.getElem?_eq_some_iff.mp hv).1 rfl fun ls' hl' => kk H locs ls' hP hS (by rw [zst_len]; exact zst_has hl')
theorem g_icmp_eq (C : Cx cc own ret d n X) {x y off : Int} {tgt : Nat} (hd : decode cc pc = .ok (.if_icmp .eq off, 3)) (ht : (pc : Int) + off = (tgt : Int)) (hX : -2147483648 ≤ x ∧ x ≤ 2147483647) (hY : -2147483648 ≤ y ∧ y ≤ 2147483647) (k1 : x = y → G X M tgt lv st) (k2 : x ≠ y → G X M (pc + 3) lv st) : G X M pc lv (.int (jI y) :: .int (jI x) :: st) := by
  obtain ⟨p, l, e, R, s, m, args, below, meth, c, Q, D, ad, ⟨cI, cJ, cO⟩, lo, cs, sl⟩ := X
  obtain ⟨hx, hb, -⟩ := C
  exact fun H locs ls hP hS hl => lv_icmp_eq hx hb hd ht (fun q => k1 ((jI_eq hX hY).mp q) H locs ls hP hS hl) (fun q => k2 (fun z => q ((jI_eq hX hY).mpr z)) H locs ls hP hS hl)
theorem g_if_eq (C : Cx cc own ret d n X) {x off : Int} {tgt : Nat} (hd : decode cc pc = .ok (.ifCond .eq off, 3)) (ht : (pc : Int) + off = (tgt : Int)) (hX : -2147483648 ≤ x ∧ x ≤ 2147483647) (k1 : x = 0 → G X M tgt lv st) (k2 : x ≠ 0 → G X M (pc + 3) lv st) : G X M pc lv (.int (jI x) :: st) := by
  obtain ⟨p, l, e, R, s, m, args, below, meth, c, Q, D, ad, ⟨cI, cJ, cO⟩, lo, cs, sl⟩ := X
  obtain ⟨hx, hb, -⟩ := C
  have hY : (-2147483648 : Int) ≤ 0 ∧ (0 : Int) ≤ 2147483647 := by omega
  exact fun H locs ls hP hS hl => lv_if_eq hx hb hd ht (fun q => k1 ((jI_eq hX hY).mp q) H locs ls hP hS hl) (fun q => k2 (fun z => q ((jI_eq hX hY).mpr z)) H locs ls hP hS hl)
theorem g_icmp_ne (C : Cx cc own ret d n X) {x y off : Int} {tgt : Nat} (hd : decode cc pc = .ok (.if_icmp .ne off, 3)) (ht : (pc : Int) + off = (tgt : Int)) (hX : -2147483648 ≤ x ∧ x ≤ 2147483647) (hY : -2147483648 ≤ y ∧ y ≤ 2147483647) (k1 : x ≠ y → G X M tgt lv st) (k2 : x = y → G X M (pc + 3) lv st) : G X M pc lv (.int (jI y) :: .int (jI x) :: st) := by
  obtain ⟨p, l, e, R, s, m, args, below, meth, c, Q, D, ad, ⟨cI, cJ, cO⟩, lo, cs, sl⟩ := X
  obtain ⟨hx, hb, -⟩ := C
  exact fun H locs ls hP hS hl => lv_icmp_ne hx hb hd ht (fun q => k1 (fun z => q ((jI_eq hX hY).mpr z)) H locs ls hP hS hl) (fun q => k2 ((jI_eq hX hY).mp q) H locs ls hP hS hl)
theorem g_if_ne (C : Cx cc own ret d n X) {x off : Int} {tgt : Nat} (hd : decode cc pc = .ok (.ifCond .ne off, 3)) (ht : (pc : Int) + off = (tgt : Int)) (hX : -2147483648 ≤ x ∧ x ≤ 2147483647) (k1 : x ≠ 0 → G X M tgt lv st) (k2 : x = 0 → G X M (pc + 3) lv st) : G X M pc lv (.int (jI x) :: st) := by
  obtain ⟨p, l, e, R, s, m, args, below, meth, c, Q, D, ad, ⟨cI, cJ, cO⟩, lo, cs, sl⟩ := X
  obtain ⟨hx, hb, -⟩ := C
  have hY : (-2147483648 : Int) ≤ 0 ∧ (0 : Int) ≤ 2147483647 := by omega
  exact fun H locs ls hP hS hl => lv_if_ne hx hb hd ht (fun q => k1 (fun z => q ((jI_eq hX hY).mpr z)) H locs ls hP hS hl) (fun q => k2 ((jI_eq hX hY).mp q) H locs ls hP hS hl)
theorem g_icmp_lt (C : Cx cc own ret d n X) {x y off : Int} {tgt : Nat} (hd : decode cc pc = .ok (.if_icmp .lt off, 3)) (ht : (pc : Int) + off = (tgt : Int)) (hX : -2147483648 ≤ x ∧ x ≤ 2147483647) (hY : -2147483648 ≤ y ∧ y ≤ 2147483647) (k1 : x < y → G X M tgt lv st) (k2 : y ≤ x → G X M (pc + 3) lv st) : G X M pc lv (.int (jI y) :: .int (jI x) :: st) := by
  obtain ⟨p, l, e, R, s, m, args, below, meth, c, Q, D, ad, ⟨cI, cJ, cO⟩, lo, cs, sl⟩ := X
  obtain ⟨hx, hb, -⟩ := C
  exact fun H locs ls hP hS hl => lv_icmp_lt hx hb hd ht (fun q => k1 ((jI_lt hX hY).mp q) H locs ls hP hS hl) (fun q => k2 (Int.not_lt.mp fun z => q ((jI_lt hX hY).mpr z)) H locs ls hP hS hl)
theorem g_if_lt (C : Cx cc own ret d n X) {x off : Int} {tgt : Nat} (hd : decode cc pc = .ok (.ifCond .lt off, 3)) (ht : (pc : Int) + off = (tgt : Int)) (hX : -2147483648 ≤ x ∧ x ≤ 2147483647) (k1 : x < 0 → G X M tgt lv st) (k2 : 0 ≤ x → G X M (pc + 3) lv st) : G X M pc lv (.int (jI x) :: st) := by
  obtain ⟨p, l, e, R, s, m, args, below, meth, c, Q, D, ad, ⟨cI, cJ, cO⟩, lo, cs, sl⟩ := X
  obtain ⟨hx, hb, -⟩ := C
  have hY : (-2147483648 : Int) ≤ 0 ∧ (0 : Int) ≤ 2147483647 := by omega
  exact fun H locs ls hP hS hl => lv_if_lt hx hb hd ht (fun q => k1 ((jI_lt hX hY).mp q) H locs ls hP hS hl) (fun q => k2 (Int.not_lt.mp fun z => q ((jI_lt hX hY).mpr z)) H locs ls hP hS hl)
theorem g_icmp_ge (C : Cx cc own ret d n X) {x y off : Int} {tgt : Nat} (hd : decode cc pc = .ok (.if_icmp .ge off, 3)) (ht : (pc : Int) + off = (tgt : Int)) (hX : -2147483648 ≤ x ∧ x ≤ 2147483647) (hY : -2147483648 ≤ y ∧ y ≤ 2147483647) (k1 : y ≤ x → G X M tgt lv st) (k2 : x < y → G X M (pc + 3) lv st) : G X M pc lv (.int (jI y) :: .int (jI x) :: st) := by
  obtain ⟨p, l, e, R, s, m, args, below, meth, c, Q, D, ad, ⟨cI, cJ, cO⟩, lo, cs, sl⟩ := X
  obtain ⟨hx, hb, -⟩ := C
  exact fun H locs ls hP hS hl => lv_icmp_ge hx hb hd ht (fun q => k1 ((jI_le hY hX).mp q) H locs ls hP hS hl) (fun q => k2 (Int.not_le.mp fun z => q ((jI_le hY hX).mpr z)) H locs ls hP hS hl)
theorem g_if_ge (C : Cx cc own ret d n X) {x off : Int} {tgt : Nat} (hd : decode cc pc = .ok (.ifCond .ge off, 3)) (ht : (pc : Int) + off = (tgt : Int)) (hX : -2147483648 ≤ x ∧ x ≤ 2147483647) (k1 : 0 ≤ x → G X M tgt lv st) (k2 : x < 0 → G X M (pc + 3) lv st) : G X M pc lv (.int (jI x) :: st) := by
  obtain ⟨p, l, e, R, s, m, args, below, meth, c, Q, D, ad, ⟨cI, cJ, cO⟩, lo, cs, sl⟩ := X
  obtain ⟨hx, hb, -⟩ := C
  have hY : (-2147483648 : Int) ≤ 0 ∧ (0 : Int) ≤ 2147483647 := by omega
  exact fun H locs ls hP hS hl => lv_if_ge hx hb hd ht (fun q => k1 ((jI_le hY hX).mp q) H locs ls hP hS hl) (fun q => k2 (Int.not_le.mp fun z => q ((jI_le hY hX).mpr z)) H locs ls hP hS hl)
theorem g_icmp_gt (C : Cx cc own ret d n X) {x y off : Int} {tgt : Nat} (hd : decode cc pc = .ok (.if_icmp .gt off, 3)) (ht : (pc : Int) + off = (tgt : Int)) (hX : -2147483648 ≤ x ∧ x ≤ 2147483647) (hY : -2147483648 ≤ y ∧ y ≤ 2147483647) (k1 : y < x → G X M tgt lv st) (k2 : x ≤ y → G X M (pc + 3) lv st) : G X M pc lv (.int (jI y) :: .int (jI x) :: st) := by
  obtain ⟨p, l, e, R, s, m, args, below, meth, c, Q, D, ad, ⟨cI, cJ, cO⟩, lo, cs, sl⟩ := X
  obtain ⟨hx, hb, -⟩ := C
  exact fun H locs ls hP hS hl => lv_icmp_gt hx hb hd ht (fun q => k1 ((jI_lt hY hX).mp q) H locs ls hP hS hl) (fun q => k2 (Int.not_lt.mp fun z => q ((jI_lt hY hX).mpr z)) H locs ls hP hS hl)
theorem g_if_gt (C : Cx cc own ret d n X) {x off : Int} {tgt : Nat} (hd : decode cc pc = .ok (.ifCond .gt off, 3)) (ht : (pc : Int) + off = (tgt : Int)) (hX : -2147483648 ≤ x ∧ x ≤ 2147483647) (k1 : 0 < x → G X M tgt lv st) (k2 : x ≤ 0 → G X M (pc + 3) lv st) : G X M pc lv (.int (jI x) :: st) := by
  obtain ⟨p, l, e, R, s, m, args, below, meth, c, Q, D, ad, ⟨cI, cJ, cO⟩, lo, cs, sl⟩ := X
  obtain ⟨hx, hb, -⟩ := C
  have hY : (-2147483648 : Int) ≤ 0 ∧ (0 : Int) ≤ 2147483647 := by omega
  exact fun H locs ls hP hS hl => lv_if_gt hx hb hd ht (fun q => k1 ((jI_lt hY hX).mp q) H locs ls hP hS hl) (fun q => k2 (Int.not_lt.mp fun z => q ((jI_lt hY hX).mpr z)) H locs ls hP hS hl)
theorem g_icmp_le (C : Cx cc own ret d n X) {x y off : Int} {tgt : Nat} (hd : decode cc pc = .ok (.if_icmp .le off, 3)) (ht : (pc : Int) + off = (tgt : Int)) (hX : -2147483648 ≤ x ∧ x ≤ 2147483647) (hY : -2147483648 ≤ y ∧ y ≤ 2147483647) (k1 : x ≤ y → G X M tgt lv st) (k2 : y < x → G X M (pc + 3) lv st) : G X M pc lv (.int (jI y) :: .int (jI x) :: st) := by
  obtain ⟨p, l, e, R, s, m, args, below, meth, c, Q, D, ad, ⟨cI, cJ, cO⟩, lo, cs, sl⟩ := X
  obtain ⟨hx, hb, -⟩ := C
  exact fun H locs ls hP hS hl => lv_icmp_le hx hb hd ht (fun q => k1 ((jI_le hX hY).mp q) H locs ls hP hS hl) (fun q => k2 (Int.not_le.mp fun z => q ((jI_le hX hY).mpr z)) H locs ls hP hS hl)
theorem g_if_le (C : Cx cc own ret d n X) {x off : Int} {tgt : Nat} (hd : decode cc pc = .ok (.ifCond .le off, 3)) (ht : (pc : Int) + off = (tgt : Int)) (hX : -2147483648 ≤ x ∧ x ≤ 2147483647) (k1 : x ≤ 0 → G X M tgt lv st) (k2 : 0 < x → G X M (pc + 3) lv st) : G X M pc lv (.int (jI x) :: st) := by
  obtain ⟨p, l, e, R, s, m, args, below, meth, c, Q, D, ad, ⟨cI, cJ, cO⟩, lo, cs, sl⟩ := X
  obtain ⟨hx, hb, -⟩ := C
  have hY : (-2147483648 : Int) ≤ 0 ∧ (0 : Int) ≤ 2147483647 := by omega
  exact fun H locs ls hP hS hl => lv_if_le hx hb hd ht (fun q => k1 ((jI_le hX hY).mp q) H locs ls hP hS hl) (fun q => k2 (Int.not_le.mp fun z => q ((jI_le hX hY).mpr z)) H locs ls hP hS hl)
end
end
section
/-! fields, arrays, calls, ends -/
section
variable {X : z_X} {cc : ByteArray} {own : String} {ret : Option FieldType} {d n : Nat} {M : zM} {pc : Nat} {lv : List (Option Value)} {st : List Value}
theorem g_getf (C : Cx cc own ret d n X) {Cn : String} {T : u_T} {N ci o idx k : Nat} {fs : (Nat → Nat) → List Value} {v : (Nat → Nat) → Value} (ho : o < 97) (he : ∀ ad cI cJ cO, z_e ad cI cJ cO o (M o) = .inr (ci, fs ad)) (hc : vwCl[ci]? = some (Cn, T, N)) (hu : ∀ w ∈ u_ws Cn T N, w ∈ tT) (hk : k < N)
    (hl0 : Cond.fieldLink own idx (T k).1 (T k).2.1 (T k).2.2.1 ∈ tT) (hv : ∀ ad, (fs ad)[k]? = some (v ad)) (hd : decode cc pc = .ok (.getfield idx, 3)) (kk : G X M (pc + 3) lv (v (zA X) :: st)) : G X M pc lv (.ref (zA X o) :: st) := by
  obtain ⟨p, l, e, R, s, m, args, below, meth, c, Q, D, ad, ⟨cI, cJ, cO⟩, lo, cs, sl⟩ := X
  obtain ⟨hx, hb, -, -, hown, hts, hK, -⟩ := C
  exact fun H locs ls hP hS hl => va_get hx hb hts hu hown hK hP o (by rw [zw_at ho, he]; rfl) hc k hk (hts _ hl0) (fun _ h => h) (hv ad) hd (kk H locs ls hP hS hl)
theorem g_putf (C : Cx cc own ret d n X) {Cn : String} {T : u_T} {N ci o idx k : Nat} {fs : (Nat → Nat) → List Value} {ty0 : Nat → FieldType} {ty : FieldType} {v : Value} {m' : Nat → Int} (ho : o < 97) (he : ∀ ad cI cJ cO, z_e ad cI cJ cO o (M o) = .inr (ci, fs ad)) (hc : vwCl[ci]? = some (Cn, T, N)) (hu : ∀ w ∈ u_ws Cn T N, w ∈ tT)
    (hty : ∀ k, k < N → parseFieldDescriptor (T k).2.2.1 = some (ty0 k)) (hnm : ∀ a, a < N → ∀ b, b < N → a ≠ b → (T a).2.1 ≠ (T b).2.1) (hk : k < N) (hl0 : Cond.fieldLink own idx (T k).1 (T k).2.1 (T k).2.2.1 ∈ tT) (hfin : (T k).2.2.2 = false) (hd0 : parseFieldDescriptor (T k).2.2.1 = some ty) (hn : narrow ty v = v) (hfit : fits ty v = true) (hlen : ∀ ad, k < (fs ad).length)
    (hset : ∀ ad cI cJ cO, z_e ad cI cJ cO o m' = .inr (ci, (fs ad).set k v)) (hd : decode cc pc = .ok (.putfield idx, 3)) (kk : G X (va_up M o m') (pc + 3) lv st) : G X M pc lv (v :: .ref (zA X o) :: st) := by
  obtain ⟨p, l, e, R, s, m, args, below, meth, c, Q, D, ad, ⟨cI, cJ, cO⟩, lo, cs, sl⟩ := X
  obtain ⟨hx, hb, -, -, hown, hts, hK, -, hD, -⟩ := C
  refine fun H locs ls hP hS hl => va_put hx hb hts hu ty0 hty hnm hown hK hP (hD M) hS o (by rw [zw_at ho, he]; rfl) hc k hk (hts _ hl0) (fun _ h => h) hfin hd0 hn hfit (hlen ad) hd fun H1 locs1 hP1 _ hS1 => ?_
  rw [← hset ad cI cJ cO] at hP1
  change va_P D vwCl ((z_w ad cI cJ cO M).set o (ad o, _)) H1 at hP1
  rw [zw_set ho] at hP1
  exact kk H1 locs1 ls hP1 hS1 hl
theorem z_updI (f : Nat → Int) (i : Nat) (x : Int) : (fun j => jI (va_up f i x j)) = upd (fun j => jI (f j)) i (jI x) := by
  funext j
  by_cases h : j = i <;> simp [va_up, upd, h]
theorem z_updL (f : Nat → Int) (i : Nat) (x : Int) : (fun j => jL (va_up f i x j)) = vp_updL (fun j => jL (f j)) i (jL x) := by
  funext j
  by_cases h : j = i <;> simp [va_up, vp_updL, h]
theorem g_iald (C : Cx cc own ret d n X) {o N i : Nat} {x : Int} (ho : o < 97) (hN : N < 2 ^ 31) (he : ∀ ad cI cJ cO, z_e ad cI cJ cO o (M o) = .inl (cI, N, .inl (fun j => jI (M o j)))) (hi : i < N) (hx : x = (i : Int)) (hd : decode cc pc = .ok (.iaload, 1)) (kk : G X M (pc + 1) lv (.int (jI (M o i)) :: st)) : G X M pc lv (.int (jI x) :: .ref (zA X o) :: st) := by
  obtain ⟨p, l, e, R, s, m, args, below, meth, c, Q, D, ad, ⟨cI, cJ, cO⟩, lo, cs, sl⟩ := X
  obtain ⟨hx', hb, -, -, -, -, hK, -⟩ := C
  subst hx
  refine fun H locs ls hP hS hl => va_iald hx' hb hK hP o 0 (by rw [zw_at ho, he]; rfl) rfl (jI_in hi hN) hd ?_
  rw [jI_cl (by omega)]
  exact kk H locs ls hP hS hl
theorem g_iast (C : Cx cc own ret d n X) {o N i : Nat} {x v : Int} (ho : o < 97) (hN : N < 2 ^ 31) (he : ∀ (f : Nat → Int) ad cI cJ cO, z_e ad cI cJ cO o f = .inl (cI, N, .inl (fun j => jI (f j)))) (hi : i < N) (hx : x = (i : Int)) (hd : decode cc pc = .ok (.iastore, 1)) (kk : G X (zu M o i v) (pc + 1) lv st) : G X M pc lv (.int (jI v) :: .int (jI x) :: .ref (zA X o) :: st) := by
  obtain ⟨p, l, e, R, s, m, args, below, meth, c, Q, D, ad, ⟨cI, cJ, cO⟩, lo, cs, sl⟩ := X
  obtain ⟨hx', hb, -, -, -, -, hK, -, hD, -⟩ := C
  subst hx
  refine fun H locs ls hP hS hl => va_iast hx' hb hK hP (hD M) hS o 0 (by rw [zw_at ho, he]; rfl) rfl (jI_in hi hN) hd fun H1 locs1 hP1 _ hS1 => ?_
  rw [jI_cl (by omega), ← z_updI, ← he (va_up (M o) i v) ad cI cJ cO] at hP1
  change va_P D vwCl ((z_w ad cI cJ cO M).set o (ad o, _)) H1 at hP1
  rw [zw_set ho] at hP1
  exact kk H1 locs1 ls hP1 hS1 hl
theorem g_lald (C : Cx cc own ret d n X) {i : Nat} {x : Int} (hi : i < 32) (hx : x = (i : Int)) (hd : decode cc pc = .ok (.laload, 1)) (kk : G X M (pc + 1) lv (.long (jL (M 94 i)) :: st)) : G X M pc lv (.int (jI x) :: .ref (zA X 94) :: st) := by
  obtain ⟨p, l, e, R, s, m, args, below, meth, c, Q, D, ad, ⟨cI, cJ, cO⟩, lo, cs, sl⟩ := X
  obtain ⟨hx', hb, -, -, -, -, hK, -⟩ := C
  subst hx
  refine fun H locs ls hP hS hl => va_lald (f := fun j => jL (M 94 j)) hx' hb hK hP 94 1 (by rw [zw_at (by omega), ze_words]; rfl) rfl (jI_in hi (by omega)) hd ?_
  rw [jI_cl (by omega)]
  exact kk H locs ls hP hS hl
theorem g_last (C : Cx cc own ret d n X) {i : Nat} {x v : Int} (hi : i < 32) (hx : x = (i : Int)) (hd : decode cc pc = .ok (.lastore, 1)) (kk : G X (zu M 94 i v) (pc + 1) lv st) : G X M pc lv (.long (jL v) :: .int (jI x) :: .ref (zA X 94) :: st) := by
  obtain ⟨p, l, e, R, s, m, args, below, meth, c, Q, D, ad, ⟨cI, cJ, cO⟩, lo, cs, sl⟩ := X
  obtain ⟨hx', hb, -, -, -, -, hK, -, hD, -⟩ := C
  subst hx
  refine fun H locs ls hP hS hl => va_last (f := fun j => jL (M 94 j)) hx' hb hK hP (hD M) hS 94 1 (by rw [zw_at (by omega), ze_words]; rfl) rfl (jI_in hi (by omega)) hd fun H1 locs1 hP1 _ hS1 => ?_
  rw [jI_cl (by omega), ← z_updL, ← ze_words (ad := ad) (cI := cI) (cJ := cJ) (cO := cO) (m := va_up (M 94) i v)] at hP1
  change va_P D vwCl ((z_w ad cI cJ cO M).set 94 (ad 94, _)) H1 at hP1
  rw [zw_set (by omega)] at hP1
  exact kk H1 locs1 ls hP1 hS1 hl
theorem g_alen (C : Cx cc own ret d n X) {o N t0 : Nat} {cA : (ClassId × ClassId × ClassId) → ClassId} {ty : FieldType} {f : (Nat → Nat) → (Nat → Int32) ⊕ (Nat → Int64) ⊕ (Nat → UInt32) ⊕ (Nat → UInt64) ⊕ (Nat → Option Nat)} (ho : o < 97) (he : ∀ ad cI cJ cO, z_e ad cI cJ cO o (M o) = .inl (cA (cI, cJ, cO), N, f ad)) (ht : ∀ cI cJ cO, (z_tys cI cJ cO)[t0]? = some (cA (cI, cJ, cO), ty)) (hd : decode cc pc = .ok (.arraylength, 1)) (kk : G X M (pc + 1) lv (.int (jI (N : Int)) :: st)) : G X M pc lv (.ref (zA X o) :: st) := by
  obtain ⟨p, l, e, R, s, m, args, below, meth, c, Q, D, ad, ⟨cI, cJ, cO⟩, lo, cs, sl⟩ := X
  obtain ⟨hx', hb, -, -, -, -, hK, -⟩ := C
  exact fun H locs ls hP hS hl => va_alen (x := (N, f ad)) hx' hb hK hP o t0 (by rw [zw_at ho, he]; rfl) (ht cI cJ cO) (jI_n N).symm hd (kk H locs ls hP hS hl)
theorem g_aald (C : Cx cc own ret d n X) {o N i : Nat} {x : Int} {f : (Nat → Nat) → Nat → Option Nat} (ho : o < 97) (hN : N < 2 ^ 31) (he : ∀ ad cI cJ cO, z_e ad cI cJ cO o (M o) = .inl (cO, N, .inr (.inr (.inr (.inr (f ad)))))) (hi : i < N) (hx : x = (i : Int)) (hd : decode cc pc = .ok (.aaload, 1)) (kk : G X M (pc + 1) lv (va_rf (f (zA X) i) :: st)) : G X M pc lv (.int (jI x) :: .ref (zA X o) :: st) := by
  obtain ⟨p, l, e, R, s, m, args, below, meth, c, Q, D, ad, ⟨cI, cJ, cO⟩, lo, cs, sl⟩ := X
  obtain ⟨hx', hb, -, -, -, -, hK, -⟩ := C
  subst hx
  refine fun H locs ls hP hS hl => va_aldq hx' hb hK hP o 2 (by rw [zw_at ho, he]; rfl) rfl (jI_in hi hN) hd ?_
  rw [jI_cl (by omega)]
  exact kk H locs ls hP hS hl
theorem z_updR (ad : Nat → Nat) (f : Nat → Int) (i r : Nat) : (fun j => z_rw ad (va_up f i (r : Int) j)) = va_up (fun j => z_rw ad (f j)) i (some (ad (3 * r))) := by
  funext j
  by_cases h : j = i
  · have : ¬ (r : Int) < 0 := by omega
    simp [va_up, h, z_rw, this]
  · simp [va_up, h]
/-- the tournament's row of rows: a place set to row r -/
theorem g_trows (C : Cx cc own ret d n X) {i r : Nat} {x : Int} (hr : r < 20) (hi : i < 8) (hx : x = (i : Int)) (hd : decode cc pc = .ok (.aastore, 1)) (kk : G X (zu M 85 i (r : Int)) (pc + 1) lv st) : G X M pc lv (.ref (zA X (3 * r)) :: .int (jI x) :: .ref (zA X 85) :: st) := by
  obtain ⟨p, l, e, R, s, m, args, below, meth, c, Q, D, ad, ⟨cI, cJ, cO⟩, lo, cs, sl⟩ := X
  obtain ⟨hx', hb, -, -, -, -, hK, -, hD, -⟩ := C
  subst hx
  refine fun H locs ls hP hS hl => va_astq (f := fun j => z_rw ad (M 85 j)) hx' hb hK hP (hD M) hS 85 2 (3 * r) 5 (r := (RX5, TX5, 3)) (by rw [zw_at (by omega), ze_trows]; rfl) rfl (by rw [zw_at (by omega), ze_row hr]; rfl) rfl (jI_in hi (by omega)) hd fun H1 locs1 hP1 _ hS1 => ?_
  rw [jI_cl (by omega)] at hP1
  change va_P D vwCl ((z_w ad cI cJ cO M).set 85 (ad 85, .inl (cO, 8, .inr (.inr (.inr (.inr (va_up (fun j => z_rw ad (M 85 j)) i (some (ad (3 * r)))))))))) H1 at hP1
  rw [← z_updR ad (M 85) i r, ← ze_trows (ad := ad) (cI := cI) (cJ := cJ) (cO := cO) (m := va_up (M 85) i (r : Int)), zw_set (by omega)] at hP1
  exact kk H1 locs1 ls hP1 hS1 hl
/-! calls -/
theorem z_call {p : Program} {l : Launch} {e : Env} {R : Room} {s : State} {m : MethodId} {args : Array Value} {below : List Frame} {meth : Method} {c : Code} {H : Heap} {locs : List Loc} {cells slots : Nat} {Q : State → Prop} {ls : Array Slot} {rest st0 : List Value} {a : Array Value} {H0 : Heap} {D : va_G} {ad : Nat → Nat} {cI cJ cO : ClassId} {lo : Nat} {post : Option Value → zM → Prop}
    (hr : va_Run p l e R s m args below meth c H locs cells slots 0 0 (F0 m pc ls st0) rest (z_Q D ad cI cJ cO lo post a) (fun q => lo ≤ q)) (hS : va_S (fun q => lo ≤ q) H0 H locs)
    (kk : ∀ (v : Option Value) (M' : zM) (H1 : Heap) (locs1 : List Loc), post v M' → va_P D vwCl (z_w ad cI cJ cO M') H1 → va_S (fun q => lo ≤ q) H0 H1 locs1 → W p l e R s m args below meth c H1 locs1 cells slots Q (F0 m (pc + 3) ls (v.toList ++ rest))) : W p l e R s m args below meth c H locs cells slots Q (F0 m pc ls st0) := by
  intro T hT X
  obtain ⟨v, st₀, t, T', L, h0, X', hL, e1, e2, ⟨⟨v2, M', hv, hp, hb⟩, hz, hk⟩, st⟩ := hr T hT X
  cases hv
  rw [h0] at hz hk
  obtain ⟨t2, a1, b1⟩ := kk v M' T'.heap (locs ++ L) hp (by rw [e1]; exact hb)
    ⟨Nat.le_trans hS.1 (by rw [e1]; exact hz), fun q h1 h2 => by rw [e1, hk q (Nat.lt_of_lt_of_le h1 hS.1) h2]; exact hS.2.1 q h1 h2, fun q hq => by
      rcases List.mem_append.mp hq with h | h
      · exact hS.2.2 q h
      · exact hL q h⟩ T' rfl X'
  exact ⟨t2, st t2 a1, b1⟩
theorem z_blind {As : List Value} {D : va_G} {ad : Nat → Nat} {cI cJ cO : ClassId} {lo : Nat} : FrameBlind (va_Pc As (z_B D ad cI cJ cO lo M)) := fun a U g mk h => ⟨h.1, h.2.1, va_K.moved (u := U) (U := U.calling g mk a) (Vm.Alike.refl U.vm) h.2.2.1, z_N.same (u := U) (U := U.calling g mk a) rfl h.2.2.2.1, h.2.2.2.2⟩
theorem z_good {y : MethodName} {cc' : ByteArray} {n' : Nat} {ret' : Option FieldType} (h : Cond.code y cc' n' ret' ∈ tT) : GoodIn tT (tW y cc' n' ret') := fun w hw => by
  rcases List.mem_cons.mp hw with rfl | hw
  · exact ⟨h, tT_good h⟩
  · exact ⟨hw, tT_good hw⟩
theorem g_callV (C : Cx cc own ret d n X) {y : MethodName} {cc' : ByteArray} {n' d' idx k o ci N : Nat} {ret' : Option FieldType} {As : (Nat → Nat) → List Value} {post : (Nat → Nat) → Option Value → zM → Prop} {Cn : String} {T : u_T} {fs : (Nat → Nat) → List Value} {As' rest st0 : List Value}
    (hM : Mt (zL X) d' y cc' n' ret' As M post) (hm : mV Cn y cc' n' ret') (hl0 : Cond.methodLink own idx y ∈ tT) (hy : y.cls = Cn ∧ y.cls ≠ "java/lang/invoke/MethodHandle" ∧ y.cls ≠ "java/lang/invoke/VarHandle" ∧ (parseMethodDescriptor y.desc).map (fun d => d.parameters.length) = some k) (hdep : d' + 1 ≤ d ∧ n' ≤ 20)
    (ho : o < 97) (he : ∀ ad cI cJ cO, z_e ad cI cJ cO o (M o) = .inr (ci, fs ad)) (hc : vwCl[ci]? = some (Cn, T, N)) (hAs : As (zA X) = .ref (zA X o) :: As') (hk : As'.length = k) (hst : st0 = As'.reverse ++ .ref (zA X o) :: rest) (hcat : (rest.map fun v => v.category).sum ≤ 8) (hlen : lv.length = n) (hd : decode cc pc = .ok (.invokevirtual idx, 3))
    (kk : ∀ (v : Option Value) (M' : zM), post (zA X) v M' → G X M' (pc + 3) lv (v.toList ++ rest)) : G X M pc lv st0 := by
  obtain ⟨p, l, e, R, s, m, args, below, meth, c, Q, D, ad, ⟨cI, cJ, cO⟩, lo, cs, sl⟩ := X
  obtain ⟨hx, hb, hr, hml, hown, hts, hK, hN, hD, hlk, ⟨hR1, hR2⟩, hR3⟩ := C
  intro H locs ls hP hS hl
  have hM1 := hM D ad cI cJ cO lo
  have hAs1 : As ad = .ref (ad o) :: As' := hAs
  rw [hAs1] at hM1
  have hobj := zw_at (ad := ad) (cI := cI) (cJ := cJ) (cO := cO) (M := M) ho
  rw [he] at hobj
  refine z_call (va_runV (As := As') (rest := rest) (C := Cn) (b := ad o) (own := own) (index := idx) (n := k) (nL := n) (bytes := cc') (maxL := n') (ret := ret') ⟨hx, hb, hml, hown, hts⟩ hM1 ⟨callB_of k hts (z_good hm.1) rfl rfl rfl (by rw [hy.1]; exact hts _ hm.2.2.2) (hts _ hl0) hy.2 ⟨by show d' + 1 ≤ R.frames; omega, by show 8 + (n' + 11) + 40 * d' ≤ R.locals; omega⟩, hts _ hm.2.1, hts _ hm.2.2.1⟩ ⟨z_blind, va_recv hK hP hc hobj, fun U hU hW => ⟨rfl, by rw [hU]; exact hP, va_K.moved hW.alike hK, hN.warm hW, hD⟩⟩ rfl hk (hl.1.trans hlen) hst (lv_room hcat) hd ⟨by omega, by omega⟩) hS fun v M' H1 locs1 hp hP1 hS1 => kk v M' hp H1 locs1 ls hP1 hS1 hl
theorem g_callS (C : Cx cc own ret d n X) {y : MethodName} {cc' : ByteArray} {n' d' idx k : Nat} {ret' : Option FieldType} {As : (Nat → Nat) → List Value} {post : (Nat → Nat) → Option Value → zM → Prop} {Cn : String} {As' rest st0 : List Value}
    (hM : Mt (zL X) d' y cc' n' ret' As M post) (hm : mS Cn y cc' n' ret') (hl0 : Cond.methodLink own idx y ∈ tT) (hy : y.cls = Cn ∧ y.cls ≠ "java/lang/invoke/MethodHandle" ∧ y.cls ≠ "java/lang/invoke/VarHandle" ∧ (parseMethodDescriptor y.desc).map (fun d => d.parameters.length) = some k) (hdep : d' + 1 ≤ d ∧ n' ≤ 20)
    (hAs : As (zA X) = As') (hk : As'.length = k) (hst : st0 = As'.reverse ++ rest) (hcat : (rest.map fun v => v.category).sum ≤ 8) (hlen : lv.length = n) (hd : decode cc pc = .ok (.invokestatic idx, 3))
    (kk : ∀ (v : Option Value) (M' : zM), post (zA X) v M' → G X M' (pc + 3) lv (v.toList ++ rest)) : G X M pc lv st0 := by
  obtain ⟨p, l, e, R, s, m, args, below, meth, c, Q, D, ad, ⟨cI, cJ, cO⟩, lo, cs, sl⟩ := X
  obtain ⟨hx, hb, hr, hml, hown, hts, hK, hN, hD, hlk, ⟨hR1, hR2⟩, hR3⟩ := C
  intro H locs ls hP hS hl
  have hM1 := hM D ad cI cJ cO lo
  have hAs1 : As ad = As' := hAs
  rw [hAs1] at hM1
  refine z_call (va_runS (As := As') (rest := rest) (own := own) (index := idx) (n := k) (nL := n) (bytes := cc') (maxL := n') (ret := ret') ⟨hx, hb, hml, hown, hts⟩ hM1 ⟨callB_of k hts (z_good hm.1) rfl rfl rfl (by rw [hy.1]; exact hts _ hm.2.2) (hts _ hl0) hy.2 ⟨by show d' + 1 ≤ R.frames; omega, by show 8 + (n' + 11) + 40 * d' ≤ R.locals; omega⟩, hts _ hm.2.1⟩ ⟨z_blind, fun U hU hW => ⟨rfl, by rw [hU]; exact hP, va_K.moved hW.alike hK, hN.warm hW, hD⟩⟩ rfl hk (hl.1.trans hlen) hst (lv_room hcat) hd ⟨by omega, by omega⟩) hS fun v M' H1 locs1 hp hP1 hS1 => kk v M' hp H1 locs1 ls hP1 hS1 hl
/-- a private static method of the nest's host -/
theorem g_callSN (C : Cx cc own ret d n X) {y : MethodName} {cc' : ByteArray} {n' d' idx k : Nat} {ret' : Option FieldType} {As : (Nat → Nat) → List Value} {post : (Nat → Nat) → Option Value → zM → Prop} {Cn host : String} {As' rest st0 : List Value}
    (hM : Mt (zL X) d' y cc' n' ret' As M post) (hm : mS Cn y cc' n' ret') (hl0 : ∀ U, z_N U → va_Nw (.methodLinkNest own idx y host) U) (hy : y.cls = Cn ∧ y.cls ≠ "java/lang/invoke/MethodHandle" ∧ y.cls ≠ "java/lang/invoke/VarHandle" ∧ (parseMethodDescriptor y.desc).map (fun d => d.parameters.length) = some k) (hdep : d' + 1 ≤ d ∧ n' ≤ 20)
    (hAs : As (zA X) = As') (hk : As'.length = k) (hst : st0 = As'.reverse ++ rest) (hcat : (rest.map fun v => v.category).sum ≤ 8) (hlen : lv.length = n) (hd : decode cc pc = .ok (.invokestatic idx, 3))
    (kk : ∀ (v : Option Value) (M' : zM), post (zA X) v M' → G X M' (pc + 3) lv (v.toList ++ rest)) : G X M pc lv st0 := by
  obtain ⟨p, l, e, R, s, m, args, below, meth, c, Q, D, ad, ⟨cI, cJ, cO⟩, lo, cs, sl⟩ := X
  obtain ⟨hx, hb, hr, hml, hown, hts, hK, hN, hD, hlk, ⟨hR1, hR2⟩, hR3⟩ := C
  intro H locs ls hP hS hl
  have hM1 := hM D ad cI cJ cO lo
  have hAs1 : As ad = As' := hAs
  rw [hAs1] at hM1
  refine z_call (va_runSN (As := As') (rest := rest) (own := own) (index := idx) (n := k) (nL := n) (bytes := cc') (maxL := n') (ret := ret') ⟨hx, hb, hml, hown, hts⟩ hM1 ⟨va_cnB k hts (z_good hm.1) rfl rfl rfl (hl0 _ hN) (by rw [hy.1]; exact hts _ hm.2.2) hy.2 ⟨by show d' + 1 ≤ R.frames; omega, by show 8 + (n' + 11) + 40 * d' ≤ R.locals; omega⟩, hts _ hm.2.1, trivial⟩ ⟨z_blind, fun U hU hW => ⟨rfl, by rw [hU]; exact hP, va_K.moved hW.alike hK, hN.warm hW, hD⟩⟩ rfl hk (hl.1.trans hlen) hst (lv_room hcat) hd ⟨by omega, by omega⟩) hS fun v M' H1 locs1 hp hP1 hS1 => kk v M' hp H1 locs1 ls hP1 hS1 hl
/-! ends -/
variable {post : (Nat → Nat) → Option Value → zM → Prop}
theorem g_vret (C : Cx cc own none d n X) (hR : Rx post X) (hd : decode cc pc = .ok (.return_, 1)) (hp : post (zA X) none M) : G X M pc lv [] := by
  obtain ⟨p, l, e, R, s, m, args, below, meth, c, Q, D, ad, ⟨cI, cJ, cO⟩, lo, cs, sl⟩ := X
  obtain ⟨hx, hb, hr, hml, hown, hts, hK, hN, hD, hlk, -⟩ := C
  have hR : Q = MQ below (z_Q D ad cI cJ cO lo (post ad)) args s cs sl (fun q => lo ≤ q) := hR
  subst hR
  exact fun H locs ls hP hS hl => W.vret hx hb hr (fun t ht _ => ⟨⟨none, M, rfl, hp, by rw [ht]; exact hP⟩, hS.F ht⟩) hS.2.2 hd hlk
theorem g_iret (C : Cx cc own (some .int) d n X) (hR : Rx post X) {v : Int32} (hd : decode cc pc = .ok (.ireturn, 1)) (hp : post (zA X) (some (.int v)) M) : G X M pc lv [.int v] := by
  obtain ⟨p, l, e, R, s, m, args, below, meth, c, Q, D, ad, ⟨cI, cJ, cO⟩, lo, cs, sl⟩ := X
  obtain ⟨hx, hb, hr, hml, hown, hts, hK, hN, hD, hlk, -⟩ := C
  have hR : Q = MQ below (z_Q D ad cI cJ cO lo (post ad)) args s cs sl (fun q => lo ≤ q) := hR
  subst hR
  exact fun H locs ls hP hS hl => W.iret hx hb hr (fun t ht _ => ⟨⟨_, M, rfl, hp, by rw [ht]; exact hP⟩, hS.F ht⟩) hS.2.2 hd hlk
theorem g_zret (C : Cx cc own (some .boolean) d n X) (hR : Rx post X) {x : Int} (hz : x = 0 ∨ x = 1) (hd : decode cc pc = .ok (.ireturn, 1)) (hp : post (zA X) (some (.int (jI x))) M) : G X M pc lv [.int (jI x)] := by
  obtain ⟨p, l, e, R, s, m, args, below, meth, c, Q, D, ad, ⟨cI, cJ, cO⟩, lo, cs, sl⟩ := X
  obtain ⟨hx, hb, hr, hml, hown, hts, hK, hN, hD, hlk, -⟩ := C
  have hR : Q = MQ below (z_Q D ad cI cJ cO lo (post ad)) args s cs sl (fun q => lo ≤ q) := hR
  subst hR
  exact fun H locs ls hP hS hl => W.zret hx hb hr (by rcases hz with rfl | rfl <;> rfl) (fun t ht _ => ⟨⟨_, M, rfl, hp, by rw [ht]; exact hP⟩, hS.F ht⟩) hS.2.2 hd hlk
theorem g_lret (C : Cx cc own (some .long) d n X) (hR : Rx post X) {v : Int64} (hd : decode cc pc = .ok (.lreturn, 1)) (hp : post (zA X) (some (.long v)) M) : G X M pc lv [.long v] := by
  obtain ⟨p, l, e, R, s, m, args, below, meth, c, Q, D, ad, ⟨cI, cJ, cO⟩, lo, cs, sl⟩ := X
  obtain ⟨hx, hb, hr, hml, hown, hts, hK, hN, hD, hlk, -⟩ := C
  have hR : Q = MQ below (z_Q D ad cI cJ cO lo (post ad)) args s cs sl (fun q => lo ≤ q) := hR
  subst hR
  exact fun H locs ls hP hS hl => W.lret hx hb hr (fun t ht _ => ⟨⟨_, M, rfl, hp, by rw [ht]; exact hP⟩, hS.F ht⟩) hS.2.2 hd hlk
theorem g_dret (C : Cx cc own (some .double) d n X) (hR : Rx post X) {v : UInt64} (hd : decode cc pc = .ok (.dreturn, 1)) (hp : post (zA X) (some (.double v)) M) : G X M pc lv [.double v] := by
  obtain ⟨p, l, e, R, s, m, args, below, meth, c, Q, D, ad, ⟨cI, cJ, cO⟩, lo, cs, sl⟩ := X
  obtain ⟨hx, hb, hr, hml, hown, hts, hK, hN, hD, hlk, -⟩ := C
  have hR : Q = MQ below (z_Q D ad cI cJ cO lo (post ad)) args s cs sl (fun q => lo ≤ q) := hR
  subst hR
  exact fun H locs ls hP hS hl => W.dret hx hb hr (fun t ht _ => ⟨⟨_, M, rfl, hp, by rw [ht]; exact hP⟩, hS.F ht⟩) hS.2.2 hd hlk
theorem g_aret {cls : String} (C : Cx cc own (some (.object cls)) d n X) (hR : Rx post X) {a : Nat} (hd : decode cc pc = .ok (.areturn, 1)) (hp : post (zA X) (some (.ref a)) M) : G X M pc lv [.ref a] := by
  obtain ⟨p, l, e, R, s, m, args, below, meth, c, Q, D, ad, ⟨cI, cJ, cO⟩, lo, cs, sl⟩ := X
  obtain ⟨hx, hb, hr, hml, hown, hts, hK, hN, hD, hlk, -⟩ := C
  have hR : Q = MQ below (z_Q D ad cI cJ cO lo (post ad)) args s cs sl (fun q => lo ≤ q) := hR
  subst hR
  exact fun H locs ls hP hS hl => W.aret hx hb hr (Or.inl ⟨_, rfl⟩) (Or.inr ⟨_, rfl⟩) (fun t ht _ => ⟨⟨_, M, rfl, hp, by rw [ht]; exact hP⟩, hS.F ht⟩) hS.2.2 hd hlk

theorem gf_Row_keys (C : Cx cc own ret d n X) {r : Nat} (hr : r < 20) {idx : Nat} (hl0 : Cond.fieldLink own idx "MoraineSort$Row" "keys" "[I" ∈ tT) (hd : decode cc pc = .ok (.getfield idx, 3)) (kk : G X M (pc + 3) lv (.ref (zA X (3 * r + 1)) :: st)) : G X M pc lv (.ref (zA X (3 * r)) :: st) := g_getf (v := fun ad => .ref (ad (3 * r + 1))) C (by omega) (fun _ _ _ _ => ze_row hr) rfl uw_X5 (k := 0) (by decide) hl0 (fun _ => rfl) hd kk
theorem gf_Row_marks (C : Cx cc own ret d n X) {r : Nat} (hr : r < 20) {idx : Nat} (hl0 : Cond.fieldLink own idx "MoraineSort$Row" "marks" "[I" ∈ tT) (hd : decode cc pc = .ok (.getfield idx, 3)) (kk : G X M (pc + 3) lv (.ref (zA X (3 * r + 2)) :: st)) : G X M pc lv (.ref (zA X (3 * r)) :: st) := g_getf (v := fun ad => .ref (ad (3 * r + 2))) C (by omega) (fun _ _ _ _ => ze_row hr) rfl uw_X5 (k := 1) (by decide) hl0 (fun _ => rfl) hd kk
theorem gf_Row_count (C : Cx cc own ret d n X) {r : Nat} (hr : r < 20) {idx : Nat} (hl0 : Cond.fieldLink own idx "MoraineSort$Row" "count" "I" ∈ tT) (hd : decode cc pc = .ok (.getfield idx, 3)) (kk : G X M (pc + 3) lv (.int (jI (M (3 * r) 2)) :: st)) : G X M pc lv (.ref (zA X (3 * r)) :: st) := g_getf (v := fun _ => .int (jI (M (3 * r) 2))) C (by omega) (fun _ _ _ _ => ze_row hr) rfl uw_X5 (k := 2) (by decide) hl0 (fun _ => rfl) hd kk
theorem gp_Row_count (C : Cx cc own ret d n X) {r : Nat} (hr : r < 20) {idx : Nat} {x : Int} (hl0 : Cond.fieldLink own idx "MoraineSort$Row" "count" "I" ∈ tT) (hd : decode cc pc = .ok (.putfield idx, 3)) (kk : G X (zu M (3 * r) 2 x) (pc + 3) lv st) : G X M pc lv (.int (jI x) :: .ref (zA X (3 * r)) :: st) := g_putf (v := .int (jI x)) C (by omega) (fun _ _ _ _ => ze_row hr) rfl uw_X5 tyX5_ok nmX5 (k := 2) (by decide) hl0 rfl rfl rfl rfl (fun _ => by simp) (fun _ _ _ _ => by rw [ze_row hr]; simp [va_up]) hd kk
theorem gf_Num_values (C : Cx cc own ret d n X) {r : Nat} (hr : r < 8) {idx : Nat} (hl0 : Cond.fieldLink own idx "MoraineSort$Numbers" "values" "[I" ∈ tT) (hd : decode cc pc = .ok (.getfield idx, 3)) (kk : G X M (pc + 3) lv (.ref (zA X (61 + 2 * r)) :: st)) : G X M pc lv (.ref (zA X (60 + 2 * r)) :: st) := g_getf (v := fun ad => .ref (ad (61 + 2 * r))) C (by omega) (fun _ _ _ _ => ze_num hr) rfl uw_X2 (k := 0) (by decide) hl0 (fun _ => rfl) hd kk
theorem gf_Num_count (C : Cx cc own ret d n X) {r : Nat} (hr : r < 8) {idx : Nat} (hl0 : Cond.fieldLink own idx "MoraineSort$Numbers" "count" "I" ∈ tT) (hd : decode cc pc = .ok (.getfield idx, 3)) (kk : G X M (pc + 3) lv (.int (jI (M (60 + 2 * r) 1)) :: st)) : G X M pc lv (.ref (zA X (60 + 2 * r)) :: st) := g_getf (v := fun _ => .int (jI (M (60 + 2 * r) 1))) C (by omega) (fun _ _ _ _ => ze_num hr) rfl uw_X2 (k := 1) (by decide) hl0 (fun _ => rfl) hd kk
theorem gp_Num_count (C : Cx cc own ret d n X) {r : Nat} (hr : r < 8) {idx : Nat} {x : Int} (hl0 : Cond.fieldLink own idx "MoraineSort$Numbers" "count" "I" ∈ tT) (hd : decode cc pc = .ok (.putfield idx, 3)) (kk : G X (zu M (60 + 2 * r) 1 x) (pc + 3) lv st) : G X M pc lv (.int (jI x) :: .ref (zA X (60 + 2 * r)) :: st) := g_putf (v := .int (jI x)) C (by omega) (fun _ _ _ _ => ze_num hr) rfl uw_X2 tyX2_ok nmX2 (k := 1) (by decide) hl0 rfl rfl rfl rfl (fun _ => by simp) (fun _ _ _ _ => by rw [ze_num hr]; simp [va_up]) hd kk
theorem gf_Heap_held (C : Cx cc own ret d n X) {r : Nat} (hr : r < 3) {idx : Nat} (hl0 : Cond.fieldLink own idx "MoraineSort$Heap" "held" "[I" ∈ tT) (hd : decode cc pc = .ok (.getfield idx, 3)) (kk : G X M (pc + 3) lv (.ref (zA X (77 + 2 * r)) :: st)) : G X M pc lv (.ref (zA X (76 + 2 * r)) :: st) := g_getf (v := fun ad => .ref (ad (77 + 2 * r))) C (by omega) (fun _ _ _ _ => ze_heap hr) rfl uw_X0 (k := 0) (by decide) hl0 (fun _ => rfl) hd kk
theorem gf_Heap_count (C : Cx cc own ret d n X) {r : Nat} (hr : r < 3) {idx : Nat} (hl0 : Cond.fieldLink own idx "MoraineSort$Heap" "count" "I" ∈ tT) (hd : decode cc pc = .ok (.getfield idx, 3)) (kk : G X M (pc + 3) lv (.int (jI (M (76 + 2 * r) 1)) :: st)) : G X M pc lv (.ref (zA X (76 + 2 * r)) :: st) := g_getf (v := fun _ => .int (jI (M (76 + 2 * r) 1))) C (by omega) (fun _ _ _ _ => ze_heap hr) rfl uw_X0 (k := 1) (by decide) hl0 (fun _ => rfl) hd kk
theorem gp_Heap_count (C : Cx cc own ret d n X) {r : Nat} (hr : r < 3) {idx : Nat} {x : Int} (hl0 : Cond.fieldLink own idx "MoraineSort$Heap" "count" "I" ∈ tT) (hd : decode cc pc = .ok (.putfield idx, 3)) (kk : G X (zu M (76 + 2 * r) 1 x) (pc + 3) lv st) : G X M pc lv (.int (jI x) :: .ref (zA X (76 + 2 * r)) :: st) := g_putf (v := .int (jI x)) C (by omega) (fun _ _ _ _ => ze_heap hr) rfl uw_X0 tyX0_ok nmX0 (k := 1) (by decide) hl0 rfl rfl rfl rfl (fun _ => by simp) (fun _ _ _ _ => by rw [ze_heap hr]; simp [va_up]) hd kk
theorem gf_Plan_runSizes (C : Cx cc own ret d n X) {r : Nat} (hr : r < 2) {idx : Nat} (hl0 : Cond.fieldLink own idx "MoraineSort$Plan" "runSizes" "LMoraineSort$Numbers;" ∈ tT) (hd : decode cc pc = .ok (.getfield idx, 3)) (kk : G X M (pc + 3) lv (.ref (zA X (60 + 2 * (4 * r))) :: st)) : G X M pc lv (.ref (zA X (82 + r)) :: st) := g_getf (v := fun ad => .ref (ad (60 + 2 * (4 * r)))) C (by omega) (fun _ _ _ _ => ze_plan hr) rfl uw_X4 (k := 0) (by decide) hl0 (fun _ => rfl) hd kk
theorem gf_Plan_mergeRuns (C : Cx cc own ret d n X) {r : Nat} (hr : r < 2) {idx : Nat} (hl0 : Cond.fieldLink own idx "MoraineSort$Plan" "mergeRuns" "LMoraineSort$Numbers;" ∈ tT) (hd : decode cc pc = .ok (.getfield idx, 3)) (kk : G X M (pc + 3) lv (.ref (zA X (60 + 2 * (4 * r + 1))) :: st)) : G X M pc lv (.ref (zA X (82 + r)) :: st) := g_getf (v := fun ad => .ref (ad (60 + 2 * (4 * r + 1)))) C (by omega) (fun _ _ _ _ => ze_plan hr) rfl uw_X4 (k := 1) (by decide) hl0 (fun _ => rfl) hd kk
theorem gf_Plan_mergeSizes (C : Cx cc own ret d n X) {r : Nat} (hr : r < 2) {idx : Nat} (hl0 : Cond.fieldLink own idx "MoraineSort$Plan" "mergeSizes" "LMoraineSort$Numbers;" ∈ tT) (hd : decode cc pc = .ok (.getfield idx, 3)) (kk : G X M (pc + 3) lv (.ref (zA X (60 + 2 * (4 * r + 2))) :: st)) : G X M pc lv (.ref (zA X (82 + r)) :: st) := g_getf (v := fun ad => .ref (ad (60 + 2 * (4 * r + 2)))) C (by omega) (fun _ _ _ _ => ze_plan hr) rfl uw_X4 (k := 2) (by decide) hl0 (fun _ => rfl) hd kk
theorem gf_Plan_readPages (C : Cx cc own ret d n X) {r : Nat} (hr : r < 2) {idx : Nat} (hl0 : Cond.fieldLink own idx "MoraineSort$Plan" "readPages" "I" ∈ tT) (hd : decode cc pc = .ok (.getfield idx, 3)) (kk : G X M (pc + 3) lv (.int (jI (M (82 + r) 3)) :: st)) : G X M pc lv (.ref (zA X (82 + r)) :: st) := g_getf (v := fun _ => .int (jI (M (82 + r) 3))) C (by omega) (fun _ _ _ _ => ze_plan hr) rfl uw_X4 (k := 3) (by decide) hl0 (fun _ => rfl) hd kk
theorem gp_Plan_readPages (C : Cx cc own ret d n X) {r : Nat} (hr : r < 2) {idx : Nat} {x : Int} (hl0 : Cond.fieldLink own idx "MoraineSort$Plan" "readPages" "I" ∈ tT) (hd : decode cc pc = .ok (.putfield idx, 3)) (kk : G X (zu M (82 + r) 3 x) (pc + 3) lv st) : G X M pc lv (.int (jI x) :: .ref (zA X (82 + r)) :: st) := g_putf (v := .int (jI x)) C (by omega) (fun _ _ _ _ => ze_plan hr) rfl uw_X4 tyX4_ok nmX4 (k := 3) (by decide) hl0 rfl rfl rfl rfl (fun _ => by simp) (fun _ _ _ _ => by rw [ze_plan hr]; simp [va_up]) hd kk
theorem gf_Plan_writtenPages (C : Cx cc own ret d n X) {r : Nat} (hr : r < 2) {idx : Nat} (hl0 : Cond.fieldLink own idx "MoraineSort$Plan" "writtenPages" "I" ∈ tT) (hd : decode cc pc = .ok (.getfield idx, 3)) (kk : G X M (pc + 3) lv (.int (jI (M (82 + r) 4)) :: st)) : G X M pc lv (.ref (zA X (82 + r)) :: st) := g_getf (v := fun _ => .int (jI (M (82 + r) 4))) C (by omega) (fun _ _ _ _ => ze_plan hr) rfl uw_X4 (k := 4) (by decide) hl0 (fun _ => rfl) hd kk
theorem gp_Plan_writtenPages (C : Cx cc own ret d n X) {r : Nat} (hr : r < 2) {idx : Nat} {x : Int} (hl0 : Cond.fieldLink own idx "MoraineSort$Plan" "writtenPages" "I" ∈ tT) (hd : decode cc pc = .ok (.putfield idx, 3)) (kk : G X (zu M (82 + r) 4 x) (pc + 3) lv st) : G X M pc lv (.int (jI x) :: .ref (zA X (82 + r)) :: st) := g_putf (v := .int (jI x)) C (by omega) (fun _ _ _ _ => ze_plan hr) rfl uw_X4 tyX4_ok nmX4 (k := 4) (by decide) hl0 rfl rfl rfl rfl (fun _ => by simp) (fun _ _ _ _ => by rw [ze_plan hr]; simp [va_up]) hd kk
theorem gf_Plan_row (C : Cx cc own ret d n X) {r : Nat} (hr : r < 2) {idx : Nat} (hl0 : Cond.fieldLink own idx "MoraineSort$Plan" "row" "LMoraineSort$Numbers;" ∈ tT) (hd : decode cc pc = .ok (.getfield idx, 3)) (kk : G X M (pc + 3) lv (.ref (zA X (60 + 2 * (4 * r + 3))) :: st)) : G X M pc lv (.ref (zA X (82 + r)) :: st) := g_getf (v := fun ad => .ref (ad (60 + 2 * (4 * r + 3)))) C (by omega) (fun _ _ _ _ => ze_plan hr) rfl uw_X4 (k := 5) (by decide) hl0 (fun _ => rfl) hd kk
theorem gf_Plan_heap (C : Cx cc own ret d n X) {r : Nat} (hr : r < 2) {idx : Nat} (hl0 : Cond.fieldLink own idx "MoraineSort$Plan" "heap" "LMoraineSort$Heap;" ∈ tT) (hd : decode cc pc = .ok (.getfield idx, 3)) (kk : G X M (pc + 3) lv (.ref (zA X (76 + 2 * r)) :: st)) : G X M pc lv (.ref (zA X (82 + r)) :: st) := g_getf (v := fun ad => .ref (ad (76 + 2 * r))) C (by omega) (fun _ _ _ _ => ze_plan hr) rfl uw_X4 (k := 6) (by decide) hl0 (fun _ => rfl) hd kk
theorem gf_Plan_page (C : Cx cc own ret d n X) {r : Nat} (hr : r < 2) {idx : Nat} (hl0 : Cond.fieldLink own idx "MoraineSort$Plan" "page" "I" ∈ tT) (hd : decode cc pc = .ok (.getfield idx, 3)) (kk : G X M (pc + 3) lv (.int (jI (M (82 + r) 7)) :: st)) : G X M pc lv (.ref (zA X (82 + r)) :: st) := g_getf (v := fun _ => .int (jI (M (82 + r) 7))) C (by omega) (fun _ _ _ _ => ze_plan hr) rfl uw_X4 (k := 7) (by decide) hl0 (fun _ => rfl) hd kk
theorem gp_Plan_page (C : Cx cc own ret d n X) {r : Nat} (hr : r < 2) {idx : Nat} {x : Int} (hl0 : Cond.fieldLink own idx "MoraineSort$Plan" "page" "I" ∈ tT) (hd : decode cc pc = .ok (.putfield idx, 3)) (kk : G X (zu M (82 + r) 7 x) (pc + 3) lv st) : G X M pc lv (.int (jI x) :: .ref (zA X (82 + r)) :: st) := g_putf (v := .int (jI x)) C (by omega) (fun _ _ _ _ => ze_plan hr) rfl uw_X4 tyX4_ok nmX4 (k := 7) (by decide) hl0 rfl rfl rfl rfl (fun _ => by simp) (fun _ _ _ _ => by rw [ze_plan hr]; simp [va_up]) hd kk
theorem gf_Tour_isOn (C : Cx cc own ret d n X) {idx : Nat} (hl0 : Cond.fieldLink own idx "MoraineSort$Tournament" "isOn" "Z" ∈ tT) (hd : decode cc pc = .ok (.getfield idx, 3)) (kk : G X M (pc + 3) lv (.int (jI (M (84) 0)) :: st)) : G X M pc lv (.ref (zA X (84)) :: st) := g_getf (v := fun _ => .int (jI (M (84) 0))) C (by omega) (fun _ _ _ _ => ze_tour) rfl uw_X7 (k := 0) (by decide) hl0 (fun _ => rfl) hd kk
theorem gp_Tour_isOn (C : Cx cc own ret d n X) {idx : Nat} {x : Int} (hz : x = 0 ∨ x = 1) (hl0 : Cond.fieldLink own idx "MoraineSort$Tournament" "isOn" "Z" ∈ tT) (hd : decode cc pc = .ok (.putfield idx, 3)) (kk : G X (zu M (84) 0 x) (pc + 3) lv st) : G X M pc lv (.int (jI x) :: .ref (zA X (84)) :: st) := g_putf (v := .int (jI x)) (ty := .boolean) C (by omega) (fun _ _ _ _ => ze_tour) rfl uw_X7 tyX7_ok nmX7 (k := 0) (by decide) hl0 rfl rfl (by rcases hz with rfl | rfl <;> rfl) (by rcases hz with rfl | rfl <;> rfl) (fun _ => by simp) (fun _ _ _ _ => by rw [ze_tour]; simp [va_up]) hd kk
theorem gf_Tour_leafCount (C : Cx cc own ret d n X) {idx : Nat} (hl0 : Cond.fieldLink own idx "MoraineSort$Tournament" "leafCount" "I" ∈ tT) (hd : decode cc pc = .ok (.getfield idx, 3)) (kk : G X M (pc + 3) lv (.int (jI (M (84) 1)) :: st)) : G X M pc lv (.ref (zA X (84)) :: st) := g_getf (v := fun _ => .int (jI (M (84) 1))) C (by omega) (fun _ _ _ _ => ze_tour) rfl uw_X7 (k := 1) (by decide) hl0 (fun _ => rfl) hd kk
theorem gp_Tour_leafCount (C : Cx cc own ret d n X) {idx : Nat} {x : Int} (hl0 : Cond.fieldLink own idx "MoraineSort$Tournament" "leafCount" "I" ∈ tT) (hd : decode cc pc = .ok (.putfield idx, 3)) (kk : G X (zu M (84) 1 x) (pc + 3) lv st) : G X M pc lv (.int (jI x) :: .ref (zA X (84)) :: st) := g_putf (v := .int (jI x)) C (by omega) (fun _ _ _ _ => ze_tour) rfl uw_X7 tyX7_ok nmX7 (k := 1) (by decide) hl0 rfl rfl rfl rfl (fun _ => by simp) (fun _ _ _ _ => by rw [ze_tour]; simp [va_up]) hd kk
theorem gf_Tour_winningLeaf (C : Cx cc own ret d n X) {idx : Nat} (hl0 : Cond.fieldLink own idx "MoraineSort$Tournament" "winningLeaf" "I" ∈ tT) (hd : decode cc pc = .ok (.getfield idx, 3)) (kk : G X M (pc + 3) lv (.int (jI (M (84) 2)) :: st)) : G X M pc lv (.ref (zA X (84)) :: st) := g_getf (v := fun _ => .int (jI (M (84) 2))) C (by omega) (fun _ _ _ _ => ze_tour) rfl uw_X7 (k := 2) (by decide) hl0 (fun _ => rfl) hd kk
theorem gp_Tour_winningLeaf (C : Cx cc own ret d n X) {idx : Nat} {x : Int} (hl0 : Cond.fieldLink own idx "MoraineSort$Tournament" "winningLeaf" "I" ∈ tT) (hd : decode cc pc = .ok (.putfield idx, 3)) (kk : G X (zu M (84) 2 x) (pc + 3) lv st) : G X M pc lv (.int (jI x) :: .ref (zA X (84)) :: st) := g_putf (v := .int (jI x)) C (by omega) (fun _ _ _ _ => ze_tour) rfl uw_X7 tyX7_ok nmX7 (k := 2) (by decide) hl0 rfl rfl rfl rfl (fun _ => by simp) (fun _ _ _ _ => by rw [ze_tour]; simp [va_up]) hd kk
theorem gf_Tour_matchCount (C : Cx cc own ret d n X) {idx : Nat} (hl0 : Cond.fieldLink own idx "MoraineSort$Tournament" "matchCount" "I" ∈ tT) (hd : decode cc pc = .ok (.getfield idx, 3)) (kk : G X M (pc + 3) lv (.int (jI (M (84) 3)) :: st)) : G X M pc lv (.ref (zA X (84)) :: st) := g_getf (v := fun _ => .int (jI (M (84) 3))) C (by omega) (fun _ _ _ _ => ze_tour) rfl uw_X7 (k := 3) (by decide) hl0 (fun _ => rfl) hd kk
theorem gp_Tour_matchCount (C : Cx cc own ret d n X) {idx : Nat} {x : Int} (hl0 : Cond.fieldLink own idx "MoraineSort$Tournament" "matchCount" "I" ∈ tT) (hd : decode cc pc = .ok (.putfield idx, 3)) (kk : G X (zu M (84) 3 x) (pc + 3) lv st) : G X M pc lv (.int (jI x) :: .ref (zA X (84)) :: st) := g_putf (v := .int (jI x)) C (by omega) (fun _ _ _ _ => ze_tour) rfl uw_X7 tyX7_ok nmX7 (k := 3) (by decide) hl0 rfl rfl rfl rfl (fun _ => by simp) (fun _ _ _ _ => by rw [ze_tour]; simp [va_up]) hd kk
theorem gf_Tour_firstFile (C : Cx cc own ret d n X) {idx : Nat} (hl0 : Cond.fieldLink own idx "MoraineSort$Tournament" "firstFile" "I" ∈ tT) (hd : decode cc pc = .ok (.getfield idx, 3)) (kk : G X M (pc + 3) lv (.int (jI (M (84) 4)) :: st)) : G X M pc lv (.ref (zA X (84)) :: st) := g_getf (v := fun _ => .int (jI (M (84) 4))) C (by omega) (fun _ _ _ _ => ze_tour) rfl uw_X7 (k := 4) (by decide) hl0 (fun _ => rfl) hd kk
theorem gp_Tour_firstFile (C : Cx cc own ret d n X) {idx : Nat} {x : Int} (hl0 : Cond.fieldLink own idx "MoraineSort$Tournament" "firstFile" "I" ∈ tT) (hd : decode cc pc = .ok (.putfield idx, 3)) (kk : G X (zu M (84) 4 x) (pc + 3) lv st) : G X M pc lv (.int (jI x) :: .ref (zA X (84)) :: st) := g_putf (v := .int (jI x)) C (by omega) (fun _ _ _ _ => ze_tour) rfl uw_X7 tyX7_ok nmX7 (k := 4) (by decide) hl0 rfl rfl rfl rfl (fun _ => by simp) (fun _ _ _ _ => by rw [ze_tour]; simp [va_up]) hd kk
theorem gf_Tour_rowCount (C : Cx cc own ret d n X) {idx : Nat} (hl0 : Cond.fieldLink own idx "MoraineSort$Tournament" "rowCount" "I" ∈ tT) (hd : decode cc pc = .ok (.getfield idx, 3)) (kk : G X M (pc + 3) lv (.int (jI (M (84) 5)) :: st)) : G X M pc lv (.ref (zA X (84)) :: st) := g_getf (v := fun _ => .int (jI (M (84) 5))) C (by omega) (fun _ _ _ _ => ze_tour) rfl uw_X7 (k := 5) (by decide) hl0 (fun _ => rfl) hd kk
theorem gp_Tour_rowCount (C : Cx cc own ret d n X) {idx : Nat} {x : Int} (hl0 : Cond.fieldLink own idx "MoraineSort$Tournament" "rowCount" "I" ∈ tT) (hd : decode cc pc = .ok (.putfield idx, 3)) (kk : G X (zu M (84) 5 x) (pc + 3) lv st) : G X M pc lv (.int (jI x) :: .ref (zA X (84)) :: st) := g_putf (v := .int (jI x)) C (by omega) (fun _ _ _ _ => ze_tour) rfl uw_X7 tyX7_ok nmX7 (k := 5) (by decide) hl0 rfl rfl rfl rfl (fun _ => by simp) (fun _ _ _ _ => by rw [ze_tour]; simp [va_up]) hd kk
theorem gf_Tour_rows (C : Cx cc own ret d n X) {idx : Nat} (hl0 : Cond.fieldLink own idx "MoraineSort$Tournament" "rows" "[LMoraineSort$Row;" ∈ tT) (hd : decode cc pc = .ok (.getfield idx, 3)) (kk : G X M (pc + 3) lv (.ref (zA X (85)) :: st)) : G X M pc lv (.ref (zA X (84)) :: st) := g_getf (v := fun ad => .ref (ad (85))) C (by omega) (fun _ _ _ _ => ze_tour) rfl uw_X7 (k := 6) (by decide) hl0 (fun _ => rfl) hd kk
theorem gf_Tour_places (C : Cx cc own ret d n X) {idx : Nat} (hl0 : Cond.fieldLink own idx "MoraineSort$Tournament" "places" "[I" ∈ tT) (hd : decode cc pc = .ok (.getfield idx, 3)) (kk : G X M (pc + 3) lv (.ref (zA X (86)) :: st)) : G X M pc lv (.ref (zA X (84)) :: st) := g_getf (v := fun ad => .ref (ad (86))) C (by omega) (fun _ _ _ _ => ze_tour) rfl uw_X7 (k := 7) (by decide) hl0 (fun _ => rfl) hd kk
theorem gf_Tour_losers (C : Cx cc own ret d n X) {idx : Nat} (hl0 : Cond.fieldLink own idx "MoraineSort$Tournament" "losers" "[I" ∈ tT) (hd : decode cc pc = .ok (.getfield idx, 3)) (kk : G X M (pc + 3) lv (.ref (zA X (87)) :: st)) : G X M pc lv (.ref (zA X (84)) :: st) := g_getf (v := fun ad => .ref (ad (87))) C (by omega) (fun _ _ _ _ => ze_tour) rfl uw_X7 (k := 8) (by decide) hl0 (fun _ => rfl) hd kk
theorem gf_Tour_winners (C : Cx cc own ret d n X) {idx : Nat} (hl0 : Cond.fieldLink own idx "MoraineSort$Tournament" "winners" "[I" ∈ tT) (hd : decode cc pc = .ok (.getfield idx, 3)) (kk : G X M (pc + 3) lv (.ref (zA X (88)) :: st)) : G X M pc lv (.ref (zA X (84)) :: st) := g_getf (v := fun ad => .ref (ad (88))) C (by omega) (fun _ _ _ _ => ze_tour) rfl uw_X7 (k := 9) (by decide) hl0 (fun _ => rfl) hd kk
theorem gf_Out_out (C : Cx cc own ret d n X) {idx : Nat} (hl0 : Cond.fieldLink own idx "MoraineSort$Outcome" "out" "LMoraineSort$Row;" ∈ tT) (hd : decode cc pc = .ok (.getfield idx, 3)) (kk : G X M (pc + 3) lv (.ref (zA X (3 * 12)) :: st)) : G X M pc lv (.ref (zA X (89)) :: st) := g_getf (v := fun ad => .ref (ad (3 * 12))) C (by omega) (fun _ _ _ _ => ze_out) rfl uw_X3 (k := 0) (by decide) hl0 (fun _ => rfl) hd kk
theorem gf_Out_made (C : Cx cc own ret d n X) {idx : Nat} (hl0 : Cond.fieldLink own idx "MoraineSort$Outcome" "made" "I" ∈ tT) (hd : decode cc pc = .ok (.getfield idx, 3)) (kk : G X M (pc + 3) lv (.int (jI (M (89) 1)) :: st)) : G X M pc lv (.ref (zA X (89)) :: st) := g_getf (v := fun _ => .int (jI (M (89) 1))) C (by omega) (fun _ _ _ _ => ze_out) rfl uw_X3 (k := 1) (by decide) hl0 (fun _ => rfl) hd kk
theorem gp_Out_made (C : Cx cc own ret d n X) {idx : Nat} {x : Int} (hl0 : Cond.fieldLink own idx "MoraineSort$Outcome" "made" "I" ∈ tT) (hd : decode cc pc = .ok (.putfield idx, 3)) (kk : G X (zu M (89) 1 x) (pc + 3) lv st) : G X M pc lv (.int (jI x) :: .ref (zA X (89)) :: st) := g_putf (v := .int (jI x)) C (by omega) (fun _ _ _ _ => ze_out) rfl uw_X3 tyX3_ok nmX3 (k := 1) (by decide) hl0 rfl rfl rfl rfl (fun _ => by simp) (fun _ _ _ _ => by rw [ze_out]; simp [va_up]) hd kk
theorem gf_Out_readPages (C : Cx cc own ret d n X) {idx : Nat} (hl0 : Cond.fieldLink own idx "MoraineSort$Outcome" "readPages" "I" ∈ tT) (hd : decode cc pc = .ok (.getfield idx, 3)) (kk : G X M (pc + 3) lv (.int (jI (M (89) 2)) :: st)) : G X M pc lv (.ref (zA X (89)) :: st) := g_getf (v := fun _ => .int (jI (M (89) 2))) C (by omega) (fun _ _ _ _ => ze_out) rfl uw_X3 (k := 2) (by decide) hl0 (fun _ => rfl) hd kk
theorem gp_Out_readPages (C : Cx cc own ret d n X) {idx : Nat} {x : Int} (hl0 : Cond.fieldLink own idx "MoraineSort$Outcome" "readPages" "I" ∈ tT) (hd : decode cc pc = .ok (.putfield idx, 3)) (kk : G X (zu M (89) 2 x) (pc + 3) lv st) : G X M pc lv (.int (jI x) :: .ref (zA X (89)) :: st) := g_putf (v := .int (jI x)) C (by omega) (fun _ _ _ _ => ze_out) rfl uw_X3 tyX3_ok nmX3 (k := 2) (by decide) hl0 rfl rfl rfl rfl (fun _ => by simp) (fun _ _ _ _ => by rw [ze_out]; simp [va_up]) hd kk
theorem gf_Out_writtenPages (C : Cx cc own ret d n X) {idx : Nat} (hl0 : Cond.fieldLink own idx "MoraineSort$Outcome" "writtenPages" "I" ∈ tT) (hd : decode cc pc = .ok (.getfield idx, 3)) (kk : G X M (pc + 3) lv (.int (jI (M (89) 3)) :: st)) : G X M pc lv (.ref (zA X (89)) :: st) := g_getf (v := fun _ => .int (jI (M (89) 3))) C (by omega) (fun _ _ _ _ => ze_out) rfl uw_X3 (k := 3) (by decide) hl0 (fun _ => rfl) hd kk
theorem gp_Out_writtenPages (C : Cx cc own ret d n X) {idx : Nat} {x : Int} (hl0 : Cond.fieldLink own idx "MoraineSort$Outcome" "writtenPages" "I" ∈ tT) (hd : decode cc pc = .ok (.putfield idx, 3)) (kk : G X (zu M (89) 3 x) (pc + 3) lv st) : G X M pc lv (.int (jI x) :: .ref (zA X (89)) :: st) := g_putf (v := .int (jI x)) C (by omega) (fun _ _ _ _ => ze_out) rfl uw_X3 tyX3_ok nmX3 (k := 3) (by decide) hl0 rfl rfl rfl rfl (fun _ => by simp) (fun _ _ _ _ => by rw [ze_out]; simp [va_up]) hd kk
theorem gf_Out_spiltPages (C : Cx cc own ret d n X) {idx : Nat} (hl0 : Cond.fieldLink own idx "MoraineSort$Outcome" "spiltPages" "I" ∈ tT) (hd : decode cc pc = .ok (.getfield idx, 3)) (kk : G X M (pc + 3) lv (.int (jI (M (89) 4)) :: st)) : G X M pc lv (.ref (zA X (89)) :: st) := g_getf (v := fun _ => .int (jI (M (89) 4))) C (by omega) (fun _ _ _ _ => ze_out) rfl uw_X3 (k := 4) (by decide) hl0 (fun _ => rfl) hd kk
theorem gp_Out_spiltPages (C : Cx cc own ret d n X) {idx : Nat} {x : Int} (hl0 : Cond.fieldLink own idx "MoraineSort$Outcome" "spiltPages" "I" ∈ tT) (hd : decode cc pc = .ok (.putfield idx, 3)) (kk : G X (zu M (89) 4 x) (pc + 3) lv st) : G X M pc lv (.int (jI x) :: .ref (zA X (89)) :: st) := g_putf (v := .int (jI x)) C (by omega) (fun _ _ _ _ => ze_out) rfl uw_X3 tyX3_ok nmX3 (k := 4) (by decide) hl0 rfl rfl rfl rfl (fun _ => by simp) (fun _ _ _ _ => by rw [ze_out]; simp [va_up]) hd kk
theorem gf_Spl_page (C : Cx cc own ret d n X) {idx : Nat} (hl0 : Cond.fieldLink own idx "MoraineSort$Splitting" "page" "I" ∈ tT) (hd : decode cc pc = .ok (.getfield idx, 3)) (kk : G X M (pc + 3) lv (.int (jI (M (90) 0)) :: st)) : G X M pc lv (.ref (zA X (90)) :: st) := g_getf (v := fun _ => .int (jI (M (90) 0))) C (by omega) (fun _ _ _ _ => ze_spl) rfl uw_X6 (k := 0) (by decide) hl0 (fun _ => rfl) hd kk
theorem gp_Spl_page (C : Cx cc own ret d n X) {idx : Nat} {x : Int} (hl0 : Cond.fieldLink own idx "MoraineSort$Splitting" "page" "I" ∈ tT) (hd : decode cc pc = .ok (.putfield idx, 3)) (kk : G X (zu M (90) 0 x) (pc + 3) lv st) : G X M pc lv (.int (jI x) :: .ref (zA X (90)) :: st) := g_putf (v := .int (jI x)) C (by omega) (fun _ _ _ _ => ze_spl) rfl uw_X6 tyX6_ok nmX6 (k := 0) (by decide) hl0 rfl rfl rfl rfl (fun _ => by simp) (fun _ _ _ _ => by rw [ze_spl]; simp [va_up]) hd kk
theorem gf_Spl_memory (C : Cx cc own ret d n X) {idx : Nat} (hl0 : Cond.fieldLink own idx "MoraineSort$Splitting" "memory" "I" ∈ tT) (hd : decode cc pc = .ok (.getfield idx, 3)) (kk : G X M (pc + 3) lv (.int (jI (M (90) 1)) :: st)) : G X M pc lv (.ref (zA X (90)) :: st) := g_getf (v := fun _ => .int (jI (M (90) 1))) C (by omega) (fun _ _ _ _ => ze_spl) rfl uw_X6 (k := 1) (by decide) hl0 (fun _ => rfl) hd kk
theorem gp_Spl_memory (C : Cx cc own ret d n X) {idx : Nat} {x : Int} (hl0 : Cond.fieldLink own idx "MoraineSort$Splitting" "memory" "I" ∈ tT) (hd : decode cc pc = .ok (.putfield idx, 3)) (kk : G X (zu M (90) 1 x) (pc + 3) lv st) : G X M pc lv (.int (jI x) :: .ref (zA X (90)) :: st) := g_putf (v := .int (jI x)) C (by omega) (fun _ _ _ _ => ze_spl) rfl uw_X6 tyX6_ok nmX6 (k := 1) (by decide) hl0 rfl rfl rfl rfl (fun _ => by simp) (fun _ _ _ _ => by rw [ze_spl]; simp [va_up]) hd kk
theorem gf_Spl_ones (C : Cx cc own ret d n X) {idx : Nat} (hl0 : Cond.fieldLink own idx "MoraineSort$Splitting" "ones" "[LMoraineSort$Row;" ∈ tT) (hd : decode cc pc = .ok (.getfield idx, 3)) (kk : G X M (pc + 3) lv (.ref (zA X (91)) :: st)) : G X M pc lv (.ref (zA X (90)) :: st) := g_getf (v := fun ad => .ref (ad (91))) C (by omega) (fun _ _ _ _ => ze_spl) rfl uw_X6 (k := 2) (by decide) hl0 (fun _ => rfl) hd kk
theorem gf_Spl_others (C : Cx cc own ret d n X) {idx : Nat} (hl0 : Cond.fieldLink own idx "MoraineSort$Splitting" "others" "[LMoraineSort$Row;" ∈ tT) (hd : decode cc pc = .ok (.getfield idx, 3)) (kk : G X M (pc + 3) lv (.ref (zA X (92)) :: st)) : G X M pc lv (.ref (zA X (90)) :: st) := g_getf (v := fun ad => .ref (ad (92))) C (by omega) (fun _ _ _ _ => ze_spl) rfl uw_X6 (k := 3) (by decide) hl0 (fun _ => rfl) hd kk
theorem gf_Spl_spare (C : Cx cc own ret d n X) {idx : Nat} (hl0 : Cond.fieldLink own idx "MoraineSort$Splitting" "spare" "LMoraineSort$Row;" ∈ tT) (hd : decode cc pc = .ok (.getfield idx, 3)) (kk : G X M (pc + 3) lv (.ref (zA X (3 * 19)) :: st)) : G X M pc lv (.ref (zA X (90)) :: st) := g_getf (v := fun ad => .ref (ad (3 * 19))) C (by omega) (fun _ _ _ _ => ze_spl) rfl uw_X6 (k := 4) (by decide) hl0 (fun _ => rfl) hd kk
theorem gf_Kset_words (C : Cx cc own ret d n X) {idx : Nat} (hl0 : Cond.fieldLink own idx "MoraineSort$KeySet" "words" "[J" ∈ tT) (hd : decode cc pc = .ok (.getfield idx, 3)) (kk : G X M (pc + 3) lv (.ref (zA X (94)) :: st)) : G X M pc lv (.ref (zA X (93)) :: st) := g_getf (v := fun ad => .ref (ad (94))) C (by omega) (fun _ _ _ _ => ze_kset) rfl uw_X1 (k := 0) (by decide) hl0 (fun _ => rfl) hd kk
theorem gf_Ms_files (C : Cx cc own ret d n X) {idx : Nat} (hl0 : Cond.fieldLink own idx "MoraineSort" "files" "[LMoraineSort$Row;" ∈ tT) (hd : decode cc pc = .ok (.getfield idx, 3)) (kk : G X M (pc + 3) lv (.ref (zA X (96)) :: st)) : G X M pc lv (.ref (zA X (95)) :: st) := g_getf (v := fun ad => .ref (ad (96))) C (by omega) (fun _ _ _ _ => ze_ms) rfl uw_X8 (k := 0) (by decide) hl0 (fun _ => rfl) hd kk
theorem gf_Ms_fileCount (C : Cx cc own ret d n X) {idx : Nat} (hl0 : Cond.fieldLink own idx "MoraineSort" "fileCount" "I" ∈ tT) (hd : decode cc pc = .ok (.getfield idx, 3)) (kk : G X M (pc + 3) lv (.int (jI (M (95) 1)) :: st)) : G X M pc lv (.ref (zA X (95)) :: st) := g_getf (v := fun _ => .int (jI (M (95) 1))) C (by omega) (fun _ _ _ _ => ze_ms) rfl uw_X8 (k := 1) (by decide) hl0 (fun _ => rfl) hd kk
theorem gp_Ms_fileCount (C : Cx cc own ret d n X) {idx : Nat} {x : Int} (hl0 : Cond.fieldLink own idx "MoraineSort" "fileCount" "I" ∈ tT) (hd : decode cc pc = .ok (.putfield idx, 3)) (kk : G X (zu M (95) 1 x) (pc + 3) lv st) : G X M pc lv (.int (jI x) :: .ref (zA X (95)) :: st) := g_putf (v := .int (jI x)) C (by omega) (fun _ _ _ _ => ze_ms) rfl uw_X8 tyX8_ok nmX8 (k := 1) (by decide) hl0 rfl rfl rfl rfl (fun _ => by simp) (fun _ _ _ _ => by rw [ze_ms]; simp [va_up]) hd kk
theorem gf_Ms_page (C : Cx cc own ret d n X) {idx : Nat} (hl0 : Cond.fieldLink own idx "MoraineSort" "page" "I" ∈ tT) (hd : decode cc pc = .ok (.getfield idx, 3)) (kk : G X M (pc + 3) lv (.int (jI (M (95) 2)) :: st)) : G X M pc lv (.ref (zA X (95)) :: st) := g_getf (v := fun _ => .int (jI (M (95) 2))) C (by omega) (fun _ _ _ _ => ze_ms) rfl uw_X8 (k := 2) (by decide) hl0 (fun _ => rfl) hd kk
theorem gp_Ms_page (C : Cx cc own ret d n X) {idx : Nat} {x : Int} (hl0 : Cond.fieldLink own idx "MoraineSort" "page" "I" ∈ tT) (hd : decode cc pc = .ok (.putfield idx, 3)) (kk : G X (zu M (95) 2 x) (pc + 3) lv st) : G X M pc lv (.int (jI x) :: .ref (zA X (95)) :: st) := g_putf (v := .int (jI x)) C (by omega) (fun _ _ _ _ => ze_ms) rfl uw_X8 tyX8_ok nmX8 (k := 2) (by decide) hl0 rfl rfl rfl rfl (fun _ => by simp) (fun _ _ _ _ => by rw [ze_ms]; simp [va_up]) hd kk
theorem gf_Ms_memory (C : Cx cc own ret d n X) {idx : Nat} (hl0 : Cond.fieldLink own idx "MoraineSort" "memory" "I" ∈ tT) (hd : decode cc pc = .ok (.getfield idx, 3)) (kk : G X M (pc + 3) lv (.int (jI (M (95) 3)) :: st)) : G X M pc lv (.ref (zA X (95)) :: st) := g_getf (v := fun _ => .int (jI (M (95) 3))) C (by omega) (fun _ _ _ _ => ze_ms) rfl uw_X8 (k := 3) (by decide) hl0 (fun _ => rfl) hd kk
theorem gp_Ms_memory (C : Cx cc own ret d n X) {idx : Nat} {x : Int} (hl0 : Cond.fieldLink own idx "MoraineSort" "memory" "I" ∈ tT) (hd : decode cc pc = .ok (.putfield idx, 3)) (kk : G X (zu M (95) 3 x) (pc + 3) lv st) : G X M pc lv (.int (jI x) :: .ref (zA X (95)) :: st) := g_putf (v := .int (jI x)) C (by omega) (fun _ _ _ _ => ze_ms) rfl uw_X8 tyX8_ok nmX8 (k := 3) (by decide) hl0 rfl rfl rfl rfl (fun _ => by simp) (fun _ _ _ _ => by rw [ze_ms]; simp [va_up]) hd kk
theorem gf_Ms_readPages (C : Cx cc own ret d n X) {idx : Nat} (hl0 : Cond.fieldLink own idx "MoraineSort" "readPages" "I" ∈ tT) (hd : decode cc pc = .ok (.getfield idx, 3)) (kk : G X M (pc + 3) lv (.int (jI (M (95) 4)) :: st)) : G X M pc lv (.ref (zA X (95)) :: st) := g_getf (v := fun _ => .int (jI (M (95) 4))) C (by omega) (fun _ _ _ _ => ze_ms) rfl uw_X8 (k := 4) (by decide) hl0 (fun _ => rfl) hd kk
theorem gp_Ms_readPages (C : Cx cc own ret d n X) {idx : Nat} {x : Int} (hl0 : Cond.fieldLink own idx "MoraineSort" "readPages" "I" ∈ tT) (hd : decode cc pc = .ok (.putfield idx, 3)) (kk : G X (zu M (95) 4 x) (pc + 3) lv st) : G X M pc lv (.int (jI x) :: .ref (zA X (95)) :: st) := g_putf (v := .int (jI x)) C (by omega) (fun _ _ _ _ => ze_ms) rfl uw_X8 tyX8_ok nmX8 (k := 4) (by decide) hl0 rfl rfl rfl rfl (fun _ => by simp) (fun _ _ _ _ => by rw [ze_ms]; simp [va_up]) hd kk
theorem gf_Ms_writtenPages (C : Cx cc own ret d n X) {idx : Nat} (hl0 : Cond.fieldLink own idx "MoraineSort" "writtenPages" "I" ∈ tT) (hd : decode cc pc = .ok (.getfield idx, 3)) (kk : G X M (pc + 3) lv (.int (jI (M (95) 5)) :: st)) : G X M pc lv (.ref (zA X (95)) :: st) := g_getf (v := fun _ => .int (jI (M (95) 5))) C (by omega) (fun _ _ _ _ => ze_ms) rfl uw_X8 (k := 5) (by decide) hl0 (fun _ => rfl) hd kk
theorem gp_Ms_writtenPages (C : Cx cc own ret d n X) {idx : Nat} {x : Int} (hl0 : Cond.fieldLink own idx "MoraineSort" "writtenPages" "I" ∈ tT) (hd : decode cc pc = .ok (.putfield idx, 3)) (kk : G X (zu M (95) 5 x) (pc + 3) lv st) : G X M pc lv (.int (jI x) :: .ref (zA X (95)) :: st) := g_putf (v := .int (jI x)) C (by omega) (fun _ _ _ _ => ze_ms) rfl uw_X8 tyX8_ok nmX8 (k := 5) (by decide) hl0 rfl rfl rfl rfl (fun _ => by simp) (fun _ _ _ _ => by rw [ze_ms]; simp [va_up]) hd kk
theorem gf_Ms_spiltPages (C : Cx cc own ret d n X) {idx : Nat} (hl0 : Cond.fieldLink own idx "MoraineSort" "spiltPages" "I" ∈ tT) (hd : decode cc pc = .ok (.getfield idx, 3)) (kk : G X M (pc + 3) lv (.int (jI (M (95) 6)) :: st)) : G X M pc lv (.ref (zA X (95)) :: st) := g_getf (v := fun _ => .int (jI (M (95) 6))) C (by omega) (fun _ _ _ _ => ze_ms) rfl uw_X8 (k := 6) (by decide) hl0 (fun _ => rfl) hd kk
theorem gp_Ms_spiltPages (C : Cx cc own ret d n X) {idx : Nat} {x : Int} (hl0 : Cond.fieldLink own idx "MoraineSort" "spiltPages" "I" ∈ tT) (hd : decode cc pc = .ok (.putfield idx, 3)) (kk : G X (zu M (95) 6 x) (pc + 3) lv st) : G X M pc lv (.int (jI x) :: .ref (zA X (95)) :: st) := g_putf (v := .int (jI x)) C (by omega) (fun _ _ _ _ => ze_ms) rfl uw_X8 tyX8_ok nmX8 (k := 6) (by decide) hl0 rfl rfl rfl rfl (fun _ => by simp) (fun _ _ _ _ => by rw [ze_ms]; simp [va_up]) hd kk
theorem gf_Ms_latest (C : Cx cc own ret d n X) {idx : Nat} (hl0 : Cond.fieldLink own idx "MoraineSort" "latest" "LMoraineSort$Plan;" ∈ tT) (hd : decode cc pc = .ok (.getfield idx, 3)) (kk : G X M (pc + 3) lv (.ref (zA X (82 + 0)) :: st)) : G X M pc lv (.ref (zA X (95)) :: st) := g_getf (v := fun ad => .ref (ad (82 + 0))) C (by omega) (fun _ _ _ _ => ze_ms) rfl uw_X8 (k := 7) (by decide) hl0 (fun _ => rfl) hd kk
theorem gf_Ms_trial (C : Cx cc own ret d n X) {idx : Nat} (hl0 : Cond.fieldLink own idx "MoraineSort" "trial" "LMoraineSort$Plan;" ∈ tT) (hd : decode cc pc = .ok (.getfield idx, 3)) (kk : G X M (pc + 3) lv (.ref (zA X (82 + 1)) :: st)) : G X M pc lv (.ref (zA X (95)) :: st) := g_getf (v := fun ad => .ref (ad (82 + 1))) C (by omega) (fun _ _ _ _ => ze_ms) rfl uw_X8 (k := 8) (by decide) hl0 (fun _ => rfl) hd kk
theorem gf_Ms_heap (C : Cx cc own ret d n X) {idx : Nat} (hl0 : Cond.fieldLink own idx "MoraineSort" "heap" "LMoraineSort$Heap;" ∈ tT) (hd : decode cc pc = .ok (.getfield idx, 3)) (kk : G X M (pc + 3) lv (.ref (zA X (76 + 2 * 2)) :: st)) : G X M pc lv (.ref (zA X (95)) :: st) := g_getf (v := fun ad => .ref (ad (76 + 2 * 2))) C (by omega) (fun _ _ _ _ => ze_ms) rfl uw_X8 (k := 9) (by decide) hl0 (fun _ => rfl) hd kk
theorem gf_Ms_tournament (C : Cx cc own ret d n X) {idx : Nat} (hl0 : Cond.fieldLink own idx "MoraineSort" "tournament" "LMoraineSort$Tournament;" ∈ tT) (hd : decode cc pc = .ok (.getfield idx, 3)) (kk : G X M (pc + 3) lv (.ref (zA X (84)) :: st)) : G X M pc lv (.ref (zA X (95)) :: st) := g_getf (v := fun ad => .ref (ad (84))) C (by omega) (fun _ _ _ _ => ze_ms) rfl uw_X8 (k := 10) (by decide) hl0 (fun _ => rfl) hd kk
theorem gf_Ms_outcome (C : Cx cc own ret d n X) {idx : Nat} (hl0 : Cond.fieldLink own idx "MoraineSort" "outcome" "LMoraineSort$Outcome;" ∈ tT) (hd : decode cc pc = .ok (.getfield idx, 3)) (kk : G X M (pc + 3) lv (.ref (zA X (89)) :: st)) : G X M pc lv (.ref (zA X (95)) :: st) := g_getf (v := fun ad => .ref (ad (89))) C (by omega) (fun _ _ _ _ => ze_ms) rfl uw_X8 (k := 11) (by decide) hl0 (fun _ => rfl) hd kk
theorem gf_Ms_splitting (C : Cx cc own ret d n X) {idx : Nat} (hl0 : Cond.fieldLink own idx "MoraineSort" "splitting" "LMoraineSort$Splitting;" ∈ tT) (hd : decode cc pc = .ok (.getfield idx, 3)) (kk : G X M (pc + 3) lv (.ref (zA X (90)) :: st)) : G X M pc lv (.ref (zA X (95)) :: st) := g_getf (v := fun ad => .ref (ad (90))) C (by omega) (fun _ _ _ _ => ze_ms) rfl uw_X8 (k := 12) (by decide) hl0 (fun _ => rfl) hd kk
theorem gf_Ms_keySet (C : Cx cc own ret d n X) {idx : Nat} (hl0 : Cond.fieldLink own idx "MoraineSort" "keySet" "LMoraineSort$KeySet;" ∈ tT) (hd : decode cc pc = .ok (.getfield idx, 3)) (kk : G X M (pc + 3) lv (.ref (zA X (93)) :: st)) : G X M pc lv (.ref (zA X (95)) :: st) := g_getf (v := fun ad => .ref (ad (93))) C (by omega) (fun _ _ _ _ => ze_ms) rfl uw_X8 (k := 13) (by decide) hl0 (fun _ => rfl) hd kk
theorem ga_keys (C : Cx cc own ret d n X) {r : Nat} (hr : r < 20) (i : Nat) {x : Int} (hi : i < 120) (hx : x = (i : Int)) (hd : decode cc pc = .ok (.iaload, 1)) (kk : G X M (pc + 1) lv (.int (jI (M (3 * r + 1) i)) :: st)) : G X M pc lv (.int (jI x) :: .ref (zA X (3 * r + 1)) :: st) := g_iald C (by omega) (by omega) (fun _ _ _ _ => ze_keys hr) hi hx hd kk
theorem gs_keys (C : Cx cc own ret d n X) {r : Nat} (hr : r < 20) (i : Nat) {x v : Int} (hi : i < 120) (hx : x = (i : Int)) (hd : decode cc pc = .ok (.iastore, 1)) (kk : G X (zu M (3 * r + 1) i v) (pc + 1) lv st) : G X M pc lv (.int (jI v) :: .int (jI x) :: .ref (zA X (3 * r + 1)) :: st) := g_iast C (by omega) (by omega) (fun _ _ _ _ _ => ze_keys hr) hi hx hd kk
theorem gl_keys (C : Cx cc own ret d n X) {r : Nat} (hr : r < 20) (hd : decode cc pc = .ok (.arraylength, 1)) (kk : G X M (pc + 1) lv (.int (jI 120) :: st)) : G X M pc lv (.ref (zA X (3 * r + 1)) :: st) := g_alen (cA := fun c => c.1) (f := fun _ => .inl (fun j => jI (M (3 * r + 1) j))) (t0 := 0) (ty := .int) (N := 120) C (by omega) (fun _ _ _ _ => ze_keys hr) (fun _ _ _ => rfl) hd kk
theorem ga_marks (C : Cx cc own ret d n X) {r : Nat} (hr : r < 20) (i : Nat) {x : Int} (hi : i < 120) (hx : x = (i : Int)) (hd : decode cc pc = .ok (.iaload, 1)) (kk : G X M (pc + 1) lv (.int (jI (M (3 * r + 2) i)) :: st)) : G X M pc lv (.int (jI x) :: .ref (zA X (3 * r + 2)) :: st) := g_iald C (by omega) (by omega) (fun _ _ _ _ => ze_marks hr) hi hx hd kk
theorem gs_marks (C : Cx cc own ret d n X) {r : Nat} (hr : r < 20) (i : Nat) {x v : Int} (hi : i < 120) (hx : x = (i : Int)) (hd : decode cc pc = .ok (.iastore, 1)) (kk : G X (zu M (3 * r + 2) i v) (pc + 1) lv st) : G X M pc lv (.int (jI v) :: .int (jI x) :: .ref (zA X (3 * r + 2)) :: st) := g_iast C (by omega) (by omega) (fun _ _ _ _ _ => ze_marks hr) hi hx hd kk
theorem gl_marks (C : Cx cc own ret d n X) {r : Nat} (hr : r < 20) (hd : decode cc pc = .ok (.arraylength, 1)) (kk : G X M (pc + 1) lv (.int (jI 120) :: st)) : G X M pc lv (.ref (zA X (3 * r + 2)) :: st) := g_alen (cA := fun c => c.1) (f := fun _ => .inl (fun j => jI (M (3 * r + 2) j))) (t0 := 0) (ty := .int) (N := 120) C (by omega) (fun _ _ _ _ => ze_marks hr) (fun _ _ _ => rfl) hd kk
theorem ga_vals (C : Cx cc own ret d n X) {r : Nat} (hr : r < 8) (i : Nat) {x : Int} (hi : i < 120) (hx : x = (i : Int)) (hd : decode cc pc = .ok (.iaload, 1)) (kk : G X M (pc + 1) lv (.int (jI (M (61 + 2 * r) i)) :: st)) : G X M pc lv (.int (jI x) :: .ref (zA X (61 + 2 * r)) :: st) := g_iald C (by omega) (by omega) (fun _ _ _ _ => ze_vals hr) hi hx hd kk
theorem gs_vals (C : Cx cc own ret d n X) {r : Nat} (hr : r < 8) (i : Nat) {x v : Int} (hi : i < 120) (hx : x = (i : Int)) (hd : decode cc pc = .ok (.iastore, 1)) (kk : G X (zu M (61 + 2 * r) i v) (pc + 1) lv st) : G X M pc lv (.int (jI v) :: .int (jI x) :: .ref (zA X (61 + 2 * r)) :: st) := g_iast C (by omega) (by omega) (fun _ _ _ _ _ => ze_vals hr) hi hx hd kk
theorem gl_vals (C : Cx cc own ret d n X) {r : Nat} (hr : r < 8) (hd : decode cc pc = .ok (.arraylength, 1)) (kk : G X M (pc + 1) lv (.int (jI 120) :: st)) : G X M pc lv (.ref (zA X (61 + 2 * r)) :: st) := g_alen (cA := fun c => c.1) (f := fun _ => .inl (fun j => jI (M (61 + 2 * r) j))) (t0 := 0) (ty := .int) (N := 120) C (by omega) (fun _ _ _ _ => ze_vals hr) (fun _ _ _ => rfl) hd kk
theorem ga_held (C : Cx cc own ret d n X) {r : Nat} (hr : r < 3) (i : Nat) {x : Int} (hi : i < 120) (hx : x = (i : Int)) (hd : decode cc pc = .ok (.iaload, 1)) (kk : G X M (pc + 1) lv (.int (jI (M (77 + 2 * r) i)) :: st)) : G X M pc lv (.int (jI x) :: .ref (zA X (77 + 2 * r)) :: st) := g_iald C (by omega) (by omega) (fun _ _ _ _ => ze_held hr) hi hx hd kk
theorem gs_held (C : Cx cc own ret d n X) {r : Nat} (hr : r < 3) (i : Nat) {x v : Int} (hi : i < 120) (hx : x = (i : Int)) (hd : decode cc pc = .ok (.iastore, 1)) (kk : G X (zu M (77 + 2 * r) i v) (pc + 1) lv st) : G X M pc lv (.int (jI v) :: .int (jI x) :: .ref (zA X (77 + 2 * r)) :: st) := g_iast C (by omega) (by omega) (fun _ _ _ _ _ => ze_held hr) hi hx hd kk
theorem gl_held (C : Cx cc own ret d n X) {r : Nat} (hr : r < 3) (hd : decode cc pc = .ok (.arraylength, 1)) (kk : G X M (pc + 1) lv (.int (jI 120) :: st)) : G X M pc lv (.ref (zA X (77 + 2 * r)) :: st) := g_alen (cA := fun c => c.1) (f := fun _ => .inl (fun j => jI (M (77 + 2 * r) j))) (t0 := 0) (ty := .int) (N := 120) C (by omega) (fun _ _ _ _ => ze_held hr) (fun _ _ _ => rfl) hd kk
theorem ga_places (C : Cx cc own ret d n X) (i : Nat) {x : Int} (hi : i < 8) (hx : x = (i : Int)) (hd : decode cc pc = .ok (.iaload, 1)) (kk : G X M (pc + 1) lv (.int (jI (M (86) i)) :: st)) : G X M pc lv (.int (jI x) :: .ref (zA X (86)) :: st) := g_iald C (by omega) (by omega) (fun _ _ _ _ => ze_places) hi hx hd kk
theorem gs_places (C : Cx cc own ret d n X) (i : Nat) {x v : Int} (hi : i < 8) (hx : x = (i : Int)) (hd : decode cc pc = .ok (.iastore, 1)) (kk : G X (zu M (86) i v) (pc + 1) lv st) : G X M pc lv (.int (jI v) :: .int (jI x) :: .ref (zA X (86)) :: st) := g_iast C (by omega) (by omega) (fun _ _ _ _ _ => ze_places) hi hx hd kk
theorem gl_places (C : Cx cc own ret d n X) (hd : decode cc pc = .ok (.arraylength, 1)) (kk : G X M (pc + 1) lv (.int (jI 8) :: st)) : G X M pc lv (.ref (zA X (86)) :: st) := g_alen (cA := fun c => c.1) (f := fun _ => .inl (fun j => jI (M (86) j))) (t0 := 0) (ty := .int) (N := 8) C (by omega) (fun _ _ _ _ => ze_places) (fun _ _ _ => rfl) hd kk
theorem ga_losers (C : Cx cc own ret d n X) (i : Nat) {x : Int} (hi : i < 8) (hx : x = (i : Int)) (hd : decode cc pc = .ok (.iaload, 1)) (kk : G X M (pc + 1) lv (.int (jI (M (87) i)) :: st)) : G X M pc lv (.int (jI x) :: .ref (zA X (87)) :: st) := g_iald C (by omega) (by omega) (fun _ _ _ _ => ze_losers) hi hx hd kk
theorem gs_losers (C : Cx cc own ret d n X) (i : Nat) {x v : Int} (hi : i < 8) (hx : x = (i : Int)) (hd : decode cc pc = .ok (.iastore, 1)) (kk : G X (zu M (87) i v) (pc + 1) lv st) : G X M pc lv (.int (jI v) :: .int (jI x) :: .ref (zA X (87)) :: st) := g_iast C (by omega) (by omega) (fun _ _ _ _ _ => ze_losers) hi hx hd kk
theorem gl_losers (C : Cx cc own ret d n X) (hd : decode cc pc = .ok (.arraylength, 1)) (kk : G X M (pc + 1) lv (.int (jI 8) :: st)) : G X M pc lv (.ref (zA X (87)) :: st) := g_alen (cA := fun c => c.1) (f := fun _ => .inl (fun j => jI (M (87) j))) (t0 := 0) (ty := .int) (N := 8) C (by omega) (fun _ _ _ _ => ze_losers) (fun _ _ _ => rfl) hd kk
theorem ga_winners (C : Cx cc own ret d n X) (i : Nat) {x : Int} (hi : i < 16) (hx : x = (i : Int)) (hd : decode cc pc = .ok (.iaload, 1)) (kk : G X M (pc + 1) lv (.int (jI (M (88) i)) :: st)) : G X M pc lv (.int (jI x) :: .ref (zA X (88)) :: st) := g_iald C (by omega) (by omega) (fun _ _ _ _ => ze_winners) hi hx hd kk
theorem gs_winners (C : Cx cc own ret d n X) (i : Nat) {x v : Int} (hi : i < 16) (hx : x = (i : Int)) (hd : decode cc pc = .ok (.iastore, 1)) (kk : G X (zu M (88) i v) (pc + 1) lv st) : G X M pc lv (.int (jI v) :: .int (jI x) :: .ref (zA X (88)) :: st) := g_iast C (by omega) (by omega) (fun _ _ _ _ _ => ze_winners) hi hx hd kk
theorem gl_winners (C : Cx cc own ret d n X) (hd : decode cc pc = .ok (.arraylength, 1)) (kk : G X M (pc + 1) lv (.int (jI 16) :: st)) : G X M pc lv (.ref (zA X (88)) :: st) := g_alen (cA := fun c => c.1) (f := fun _ => .inl (fun j => jI (M (88) j))) (t0 := 0) (ty := .int) (N := 16) C (by omega) (fun _ _ _ _ => ze_winners) (fun _ _ _ => rfl) hd kk
theorem gl_words (C : Cx cc own ret d n X) (hd : decode cc pc = .ok (.arraylength, 1)) (kk : G X M (pc + 1) lv (.int (jI 32) :: st)) : G X M pc lv (.ref (zA X 94) :: st) := g_alen (cA := fun c => c.2.1) (f := fun _ => .inr (.inl (fun j => jL (M 94 j)))) (t0 := 1) (ty := .long) (N := 32) C (by omega) (fun _ _ _ _ => ze_words) (fun _ _ _ => rfl) hd kk
theorem gl_ones (C : Cx cc own ret d n X) (hd : decode cc pc = .ok (.arraylength, 1)) (kk : G X M (pc + 1) lv (.int (jI 3) :: st)) : G X M pc lv (.ref (zA X 91) :: st) := g_alen (cA := fun c => c.2.2) (f := fun ad => .inr (.inr (.inr (.inr (fun j => some (ad (3 * (13 + j)))))))) (t0 := 2) (ty := .object "MoraineSort$Row") (N := 3) C (by omega) (fun _ _ _ _ => ze_ones) (fun _ _ _ => rfl) hd kk
theorem gl_others (C : Cx cc own ret d n X) (hd : decode cc pc = .ok (.arraylength, 1)) (kk : G X M (pc + 1) lv (.int (jI 3) :: st)) : G X M pc lv (.ref (zA X 92) :: st) := g_alen (cA := fun c => c.2.2) (f := fun ad => .inr (.inr (.inr (.inr (fun j => some (ad (3 * (16 + j)))))))) (t0 := 2) (ty := .object "MoraineSort$Row") (N := 3) C (by omega) (fun _ _ _ _ => ze_others) (fun _ _ _ => rfl) hd kk
theorem ga_files (C : Cx cc own ret d n X) (i : Nat) {x : Int} (hi : i < 12) (hx : x = (i : Int)) (hd : decode cc pc = .ok (.aaload, 1)) (kk : G X M (pc + 1) lv (.ref (zA X (3 * i)) :: st)) : G X M pc lv (.int (jI x) :: .ref (zA X 96) :: st) := g_aald (f := fun ad j => some (ad (3 * j))) C (by omega) (by omega) (fun _ _ _ _ => ze_files) hi hx hd kk
theorem ga_ones (C : Cx cc own ret d n X) (i : Nat) {x : Int} (hi : i < 3) (hx : x = (i : Int)) (hd : decode cc pc = .ok (.aaload, 1)) (kk : G X M (pc + 1) lv (.ref (zA X (3 * (13 + i))) :: st)) : G X M pc lv (.int (jI x) :: .ref (zA X 91) :: st) := g_aald (f := fun ad j => some (ad (3 * (13 + j)))) C (by omega) (by omega) (fun _ _ _ _ => ze_ones) hi hx hd kk
theorem ga_others (C : Cx cc own ret d n X) (i : Nat) {x : Int} (hi : i < 3) (hx : x = (i : Int)) (hd : decode cc pc = .ok (.aaload, 1)) (kk : G X M (pc + 1) lv (.ref (zA X (3 * (16 + i))) :: st)) : G X M pc lv (.int (jI x) :: .ref (zA X 92) :: st) := g_aald (f := fun ad j => some (ad (3 * (16 + j)))) C (by omega) (by omega) (fun _ _ _ _ => ze_others) hi hx hd kk
theorem ga_trows (C : Cx cc own ret d n X) (i r : Nat) {x : Int} (hr : M 85 i = (r : Int)) (hi : i < 8) (hx : x = (i : Int)) (hd : decode cc pc = .ok (.aaload, 1)) (kk : G X M (pc + 1) lv (.ref (zA X (3 * r)) :: st)) : G X M pc lv (.int (jI x) :: .ref (zA X 85) :: st) := g_aald (f := fun ad j => z_rw ad (M 85 j)) C (by omega) (by omega) (fun _ _ _ _ => ze_trows) hi hx hd (by
  have h0 : ¬ (r : Int) < 0 := by omega
  have h : z_rw (zA X) (M 85 i) = some (zA X (3 * r)) := by rw [hr]; simp [z_rw, h0]
  rw [h]; exact kk)
theorem g_ifnull (C : Cx cc own ret d n X) {x : Nat} {off : Int} (hd : decode cc pc = .ok (.ifnull off, 3)) (kk : G X M (pc + 3) lv st) : G X M pc lv (.ref x :: st) := by
  obtain ⟨p, l, e, R, s, m, args, below, meth, c, Q, D, ad, ⟨cI, cJ, cO⟩, lo, cs, sl⟩ := X
  obtain ⟨hx, hb, -⟩ := C
  exact fun H locs ls hP hS hl => lv_ifnull hx hb hd (kk H locs ls hP hS hl)
end
end
