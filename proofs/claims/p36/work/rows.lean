section
-- ===== PART A: goes FIRST, ahead of the names: the tables' words, and 'selects' of the private methods out of them =====
/-- a private method of a class that the tables say can be made, by its rows of tables_1 -/
def lw_okq (q : MethodName × Nat) : Prop := (q.1.cls ≠ "java/lang/invoke/MethodHandle" ∧ q.1.cls ≠ "java/lang/invoke/VarHandle") ∧ Cond.instantiable q.1.cls q.2 ∈ tables_1 ∧ Cond.privateMethod q.1 ∈ tables_1 ∧ Cond.instanceMethod q.1 ∈ tables_1
theorem lw_p0 : lw_okq (⟨"java/lang/Throwable", "fillInStackTrace", "(I)Ljava/lang/Throwable;"⟩, 6) := ⟨⟨by decide +kernel, by decide +kernel⟩, List.mem_of_getElem? (i := 300) (by decide +kernel), List.mem_of_getElem? (i := 298) (by decide +kernel), List.mem_of_getElem? (i := 299) (by decide +kernel)⟩
theorem lw_p1 : lw_okq (⟨"MoraineSort", "needRoom", "()V"⟩, 14) := ⟨⟨by decide +kernel, by decide +kernel⟩, List.mem_of_getElem? (i := 18) (by decide +kernel), List.mem_of_getElem? (i := 338) (by decide +kernel), List.mem_of_getElem? (i := 339) (by decide +kernel)⟩
theorem lw_p2 : lw_okq (⟨"MoraineSort", "rowOf", "(I)LMoraineSort$Row;"⟩, 14) := ⟨⟨by decide +kernel, by decide +kernel⟩, List.mem_of_getElem? (i := 18) (by decide +kernel), List.mem_of_getElem? (i := 366) (by decide +kernel), List.mem_of_getElem? (i := 367) (by decide +kernel)⟩
theorem lw_p3 : lw_okq (⟨"MoraineSort", "keysIn", "(LMoraineSort$Row;)I"⟩, 14) := ⟨⟨by decide +kernel, by decide +kernel⟩, List.mem_of_getElem? (i := 18) (by decide +kernel), List.mem_of_getElem? (i := 455) (by decide +kernel), List.mem_of_getElem? (i := 456) (by decide +kernel)⟩
theorem lw_p4 : lw_okq (⟨"MoraineSort$Plan", "runByReplacing", "(LMoraineSort$Row;ZI)V"⟩, 8) := ⟨⟨by decide +kernel, by decide +kernel⟩, List.mem_of_getElem? (i := 28) (by decide +kernel), List.mem_of_getElem? (i := 497) (by decide +kernel), List.mem_of_getElem? (i := 498) (by decide +kernel)⟩
theorem lw_p5 : lw_okq (⟨"MoraineSort$Heap", "sinkFromTop", "(I)V"⟩, 2) := ⟨⟨by decide +kernel, by decide +kernel⟩, List.mem_of_getElem? (i := 48) (by decide +kernel), List.mem_of_getElem? (i := 520) (by decide +kernel), List.mem_of_getElem? (i := 521) (by decide +kernel)⟩
theorem lw_p6 : lw_okq (⟨"MoraineSort$Plan", "runByLoading", "(II)V"⟩, 8) := ⟨⟨by decide +kernel, by decide +kernel⟩, List.mem_of_getElem? (i := 28) (by decide +kernel), List.mem_of_getElem? (i := 529) (by decide +kernel), List.mem_of_getElem? (i := 530) (by decide +kernel)⟩
theorem lw_p7 : lw_okq (⟨"MoraineSort$Plan", "countRuns", "(I)V"⟩, 8) := ⟨⟨by decide +kernel, by decide +kernel⟩, List.mem_of_getElem? (i := 28) (by decide +kernel), List.mem_of_getElem? (i := 536) (by decide +kernel), List.mem_of_getElem? (i := 537) (by decide +kernel)⟩
theorem lw_p8 : lw_okq (⟨"MoraineSort$Plan", "mergeByLeast", "(I)V"⟩, 8) := ⟨⟨by decide +kernel, by decide +kernel⟩, List.mem_of_getElem? (i := 28) (by decide +kernel), List.mem_of_getElem? (i := 556) (by decide +kernel), List.mem_of_getElem? (i := 557) (by decide +kernel)⟩
theorem lw_p9 : lw_okq (⟨"MoraineSort$Plan", "mergeLeast", "(I)V"⟩, 8) := ⟨⟨by decide +kernel, by decide +kernel⟩, List.mem_of_getElem? (i := 28) (by decide +kernel), List.mem_of_getElem? (i := 561) (by decide +kernel), List.mem_of_getElem? (i := 562) (by decide +kernel)⟩
theorem lw_p10 : lw_okq (⟨"MoraineSort$Plan", "noteMerge", "(II)V"⟩, 8) := ⟨⟨by decide +kernel, by decide +kernel⟩, List.mem_of_getElem? (i := 28) (by decide +kernel), List.mem_of_getElem? (i := 573) (by decide +kernel), List.mem_of_getElem? (i := 574) (by decide +kernel)⟩
theorem lw_p11 : lw_okq (⟨"MoraineSort$Plan", "mergeByLevels", "(I)V"⟩, 8) := ⟨⟨by decide +kernel, by decide +kernel⟩, List.mem_of_getElem? (i := 28) (by decide +kernel), List.mem_of_getElem? (i := 577) (by decide +kernel), List.mem_of_getElem? (i := 578) (by decide +kernel)⟩
theorem lw_p12 : lw_okq (⟨"MoraineSort$Plan", "mergeLevel", "(I)V"⟩, 8) := ⟨⟨by decide +kernel, by decide +kernel⟩, List.mem_of_getElem? (i := 28) (by decide +kernel), List.mem_of_getElem? (i := 581) (by decide +kernel), List.mem_of_getElem? (i := 582) (by decide +kernel)⟩
theorem lw_p13 : lw_okq (⟨"MoraineSort", "giveSorted", "(LMoraineSort$Row;Z)V"⟩, 14) := ⟨⟨by decide +kernel, by decide +kernel⟩, List.mem_of_getElem? (i := 18) (by decide +kernel), List.mem_of_getElem? (i := 598) (by decide +kernel), List.mem_of_getElem? (i := 599) (by decide +kernel)⟩
theorem lw_p14 : lw_okq (⟨"MoraineSort", "land", "()I"⟩, 14) := ⟨⟨by decide +kernel, by decide +kernel⟩, List.mem_of_getElem? (i := 18) (by decide +kernel), List.mem_of_getElem? (i := 611) (by decide +kernel), List.mem_of_getElem? (i := 612) (by decide +kernel)⟩
theorem lw_p15 : lw_okq (⟨"MoraineSort$Tournament", "playAt", "(III)I"⟩, 10) := ⟨⟨by decide +kernel, by decide +kernel⟩, List.mem_of_getElem? (i := 93) (by decide +kernel), List.mem_of_getElem? (i := 668) (by decide +kernel), List.mem_of_getElem? (i := 669) (by decide +kernel)⟩
def lw_privs_1 : List (MethodName × Nat) := [(⟨"java/lang/Throwable", "fillInStackTrace", "(I)Ljava/lang/Throwable;"⟩, 6), (⟨"MoraineSort", "needRoom", "()V"⟩, 14), (⟨"MoraineSort", "rowOf", "(I)LMoraineSort$Row;"⟩, 14), (⟨"MoraineSort", "keysIn", "(LMoraineSort$Row;)I"⟩, 14), (⟨"MoraineSort$Plan", "runByReplacing", "(LMoraineSort$Row;ZI)V"⟩, 8), (⟨"MoraineSort$Heap", "sinkFromTop", "(I)V"⟩, 2), (⟨"MoraineSort$Plan", "runByLoading", "(II)V"⟩, 8), (⟨"MoraineSort$Plan", "countRuns", "(I)V"⟩, 8), (⟨"MoraineSort$Plan", "mergeByLeast", "(I)V"⟩, 8), (⟨"MoraineSort$Plan", "mergeLeast", "(I)V"⟩, 8), (⟨"MoraineSort$Plan", "noteMerge", "(II)V"⟩, 8), (⟨"MoraineSort$Plan", "mergeByLevels", "(I)V"⟩, 8), (⟨"MoraineSort$Plan", "mergeLevel", "(I)V"⟩, 8), (⟨"MoraineSort", "giveSorted", "(LMoraineSort$Row;Z)V"⟩, 14), (⟨"MoraineSort", "land", "()I"⟩, 14), (⟨"MoraineSort$Tournament", "playAt", "(III)I"⟩, 10)]
theorem lw_r1 : ∀ q ∈ lw_privs_1, lw_okq q := List.forall_mem_cons.mpr ⟨lw_p0, List.forall_mem_cons.mpr ⟨lw_p1, List.forall_mem_cons.mpr ⟨lw_p2, List.forall_mem_cons.mpr ⟨lw_p3, List.forall_mem_cons.mpr ⟨lw_p4, List.forall_mem_cons.mpr ⟨lw_p5, List.forall_mem_cons.mpr ⟨lw_p6, List.forall_mem_cons.mpr ⟨lw_p7, List.forall_mem_cons.mpr ⟨lw_p8, List.forall_mem_cons.mpr ⟨lw_p9, List.forall_mem_cons.mpr ⟨lw_p10, List.forall_mem_cons.mpr ⟨lw_p11, List.forall_mem_cons.mpr ⟨lw_p12, List.forall_mem_cons.mpr ⟨lw_p13, List.forall_mem_cons.mpr ⟨lw_p14, List.forall_mem_cons.mpr ⟨lw_p15, fun _ h => absurd h List.not_mem_nil⟩⟩⟩⟩⟩⟩⟩⟩⟩⟩⟩⟩⟩⟩⟩⟩
theorem lw_p16 : lw_okq (⟨"MoraineSort$Tournament", "isWinning", "(II)Z"⟩, 10) := ⟨⟨by decide +kernel, by decide +kernel⟩, List.mem_of_getElem? (i := 93) (by decide +kernel), List.mem_of_getElem? (i := 672) (by decide +kernel), List.mem_of_getElem? (i := 673) (by decide +kernel)⟩
theorem lw_p17 : lw_okq (⟨"MoraineSort$Tournament", "isOver", "(I)Z"⟩, 10) := ⟨⟨by decide +kernel, by decide +kernel⟩, List.mem_of_getElem? (i := 93) (by decide +kernel), List.mem_of_getElem? (i := 676) (by decide +kernel), List.mem_of_getElem? (i := 677) (by decide +kernel)⟩
theorem lw_p18 : lw_okq (⟨"MoraineSort$Tournament", "keyOf", "(I)I"⟩, 10) := ⟨⟨by decide +kernel, by decide +kernel⟩, List.mem_of_getElem? (i := 93) (by decide +kernel), List.mem_of_getElem? (i := 681) (by decide +kernel), List.mem_of_getElem? (i := 682) (by decide +kernel)⟩
theorem lw_p19 : lw_okq (⟨"MoraineSort", "needTournament", "()V"⟩, 14) := ⟨⟨by decide +kernel, by decide +kernel⟩, List.mem_of_getElem? (i := 18) (by decide +kernel), List.mem_of_getElem? (i := 694) (by decide +kernel), List.mem_of_getElem? (i := 695) (by decide +kernel)⟩
theorem lw_p20 : lw_okq (⟨"MoraineSort", "joinByMerging", "(LMoraineSort$Row;LMoraineSort$Row;I)V"⟩, 14) := ⟨⟨by decide +kernel, by decide +kernel⟩, List.mem_of_getElem? (i := 18) (by decide +kernel), List.mem_of_getElem? (i := 719) (by decide +kernel), List.mem_of_getElem? (i := 720) (by decide +kernel)⟩
theorem lw_p21 : lw_okq (⟨"MoraineSort", "spill", "(I)I"⟩, 14) := ⟨⟨by decide +kernel, by decide +kernel⟩, List.mem_of_getElem? (i := 18) (by decide +kernel), List.mem_of_getElem? (i := 729) (by decide +kernel), List.mem_of_getElem? (i := 730) (by decide +kernel)⟩
theorem lw_p22 : lw_okq (⟨"MoraineSort", "givePairs", "(LMoraineSort$Row;ILMoraineSort$Row;II)V"⟩, 14) := ⟨⟨by decide +kernel, by decide +kernel⟩, List.mem_of_getElem? (i := 18) (by decide +kernel), List.mem_of_getElem? (i := 733) (by decide +kernel), List.mem_of_getElem? (i := 734) (by decide +kernel)⟩
theorem lw_p23 : lw_okq (⟨"MoraineSort", "needFit", "()V"⟩, 14) := ⟨⟨by decide +kernel, by decide +kernel⟩, List.mem_of_getElem? (i := 18) (by decide +kernel), List.mem_of_getElem? (i := 744) (by decide +kernel), List.mem_of_getElem? (i := 745) (by decide +kernel)⟩
theorem lw_p24 : lw_okq (⟨"MoraineSort", "joinBySplitting", "(LMoraineSort$Row;LMoraineSort$Row;)V"⟩, 14) := ⟨⟨by decide +kernel, by decide +kernel⟩, List.mem_of_getElem? (i := 18) (by decide +kernel), List.mem_of_getElem? (i := 753) (by decide +kernel), List.mem_of_getElem? (i := 754) (by decide +kernel)⟩
theorem lw_p25 : lw_okq (⟨"MoraineSort$Splitting", "fill", "(LMoraineSort$Row;LMoraineSort$Row;II)V"⟩, 5) := ⟨⟨by decide +kernel, by decide +kernel⟩, List.mem_of_getElem? (i := 177) (by decide +kernel), List.mem_of_getElem? (i := 769) (by decide +kernel), List.mem_of_getElem? (i := 770) (by decide +kernel)⟩
theorem lw_p26 : lw_okq (⟨"MoraineSort", "giveGroups", "(LMoraineSort$Row;I)V"⟩, 14) := ⟨⟨by decide +kernel, by decide +kernel⟩, List.mem_of_getElem? (i := 18) (by decide +kernel), List.mem_of_getElem? (i := 791) (by decide +kernel), List.mem_of_getElem? (i := 792) (by decide +kernel)⟩
theorem lw_p27 : lw_okq (⟨"MoraineSort", "costOf", "(LMoraineSort$Row;ZZI)I"⟩, 14) := ⟨⟨by decide +kernel, by decide +kernel⟩, List.mem_of_getElem? (i := 18) (by decide +kernel), List.mem_of_getElem? (i := 805) (by decide +kernel), List.mem_of_getElem? (i := 806) (by decide +kernel)⟩
theorem lw_p28 : lw_okq (⟨"MoraineSort", "foldSort", "(J)J"⟩, 14) := ⟨⟨by decide +kernel, by decide +kernel⟩, List.mem_of_getElem? (i := 18) (by decide +kernel), List.mem_of_getElem? (i := 835) (by decide +kernel), List.mem_of_getElem? (i := 836) (by decide +kernel)⟩
theorem lw_p29 : lw_okq (⟨"MoraineSort", "foldFile", "(JLMoraineSort$Row;)J"⟩, 14) := ⟨⟨by decide +kernel, by decide +kernel⟩, List.mem_of_getElem? (i := 18) (by decide +kernel), List.mem_of_getElem? (i := 840) (by decide +kernel), List.mem_of_getElem? (i := 841) (by decide +kernel)⟩
def lw_privs_2 : List (MethodName × Nat) := [(⟨"MoraineSort$Tournament", "isWinning", "(II)Z"⟩, 10), (⟨"MoraineSort$Tournament", "isOver", "(I)Z"⟩, 10), (⟨"MoraineSort$Tournament", "keyOf", "(I)I"⟩, 10), (⟨"MoraineSort", "needTournament", "()V"⟩, 14), (⟨"MoraineSort", "joinByMerging", "(LMoraineSort$Row;LMoraineSort$Row;I)V"⟩, 14), (⟨"MoraineSort", "spill", "(I)I"⟩, 14), (⟨"MoraineSort", "givePairs", "(LMoraineSort$Row;ILMoraineSort$Row;II)V"⟩, 14), (⟨"MoraineSort", "needFit", "()V"⟩, 14), (⟨"MoraineSort", "joinBySplitting", "(LMoraineSort$Row;LMoraineSort$Row;)V"⟩, 14), (⟨"MoraineSort$Splitting", "fill", "(LMoraineSort$Row;LMoraineSort$Row;II)V"⟩, 5), (⟨"MoraineSort", "giveGroups", "(LMoraineSort$Row;I)V"⟩, 14), (⟨"MoraineSort", "costOf", "(LMoraineSort$Row;ZZI)I"⟩, 14), (⟨"MoraineSort", "foldSort", "(J)J"⟩, 14), (⟨"MoraineSort", "foldFile", "(JLMoraineSort$Row;)J"⟩, 14)]
theorem lw_r2 : ∀ q ∈ lw_privs_2, lw_okq q := List.forall_mem_cons.mpr ⟨lw_p16, List.forall_mem_cons.mpr ⟨lw_p17, List.forall_mem_cons.mpr ⟨lw_p18, List.forall_mem_cons.mpr ⟨lw_p19, List.forall_mem_cons.mpr ⟨lw_p20, List.forall_mem_cons.mpr ⟨lw_p21, List.forall_mem_cons.mpr ⟨lw_p22, List.forall_mem_cons.mpr ⟨lw_p23, List.forall_mem_cons.mpr ⟨lw_p24, List.forall_mem_cons.mpr ⟨lw_p25, List.forall_mem_cons.mpr ⟨lw_p26, List.forall_mem_cons.mpr ⟨lw_p27, List.forall_mem_cons.mpr ⟨lw_p28, List.forall_mem_cons.mpr ⟨lw_p29, fun _ h => absurd h List.not_mem_nil⟩⟩⟩⟩⟩⟩⟩⟩⟩⟩⟩⟩⟩⟩
def lw_privs : List (MethodName × Nat) := lw_privs_1 ++ (lw_privs_2)
def lw_tbl : List Cond := k2_sels lw_privs ++ tables_1
theorem lw_privs_ok : ∀ q ∈ lw_privs, lw_okq q := by
  show ∀ q ∈ lw_privs_1 ++ (lw_privs_2), lw_okq q
  exact List.forall_mem_append.mpr ⟨lw_r1, lw_r2⟩
/-- the streams that the claim lets the run draw from -/
abbrev lw_cs : List Choice := [Jvm.Choice.named "NaN.bits"]
theorem lw_bits : nanBits ∈ lw_cs := by first | decide | exact List.mem_cons_self | simp [lw_cs, nanBits]
-- ===== end of PART A =====
def RX0 : String := "MoraineSort$Heap"
def TX0 : u_T := fun k => match k with
  | 0 => ("MoraineSort$Heap", "held", "[I", true)
  | _ => ("MoraineSort$Heap", "count", "I", false)
def tyX0 : Nat → FieldType := fun k => match k with
  | 0 => .array .int
  | _ => .int
abbrev wsX00 : List Cond := u_ws RX0 TX0 2
theorem nmX0 : ∀ a, a < 2 → ∀ b, b < 2 → a ≠ b → (TX0 a).2.1 ≠ (TX0 b).2.1 := by decide +kernel
theorem tyX0_ok : ∀ k, k < 2 → parseFieldDescriptor (TX0 k).2.2.1 = some (tyX0 k) := by decide +kernel
abbrev cX0_init : ByteArray := prog_2_method_1_code
def yX0_init : MethodName := ⟨RX0, "<init>", "()V"⟩
abbrev cX0_empty : ByteArray := prog_2_method_2_code
def yX0_empty : MethodName := ⟨RX0, "empty", "()V"⟩
abbrev cX0_push : ByteArray := prog_2_method_3_code
def yX0_push : MethodName := ⟨RX0, "push", "(I)V"⟩
abbrev cX0_pull : ByteArray := prog_2_method_4_code
def yX0_pull : MethodName := ⟨RX0, "pull", "()I"⟩
abbrev cX0_sinkFromTop : ByteArray := prog_2_method_5_code
def yX0_sinkFromTop : MethodName := ⟨RX0, "sinkFromTop", "(I)V"⟩
def RX1 : String := "MoraineSort$KeySet"
def TX1 : u_T := fun k => match k with
  | _ => ("MoraineSort$KeySet", "words", "[J", true)
def tyX1 : Nat → FieldType := fun k => match k with
  | _ => .array .long
abbrev wsX10 : List Cond := u_ws RX1 TX1 1
theorem nmX1 : ∀ a, a < 1 → ∀ b, b < 1 → a ≠ b → (TX1 a).2.1 ≠ (TX1 b).2.1 := by decide +kernel
theorem tyX1_ok : ∀ k, k < 1 → parseFieldDescriptor (TX1 k).2.2.1 = some (tyX1 k) := by decide +kernel
abbrev cX1_init : ByteArray := prog_3_method_1_code
def yX1_init : MethodName := ⟨RX1, "<init>", "()V"⟩
abbrev cX1_clear : ByteArray := prog_3_method_2_code
def yX1_clear : MethodName := ⟨RX1, "clear", "()V"⟩
abbrev cX1_has : ByteArray := prog_3_method_3_code
def yX1_has : MethodName := ⟨RX1, "has", "(I)Z"⟩
abbrev cX1_add : ByteArray := prog_3_method_4_code
def yX1_add : MethodName := ⟨RX1, "add", "(I)Z"⟩
abbrev cX1_wordOf : ByteArray := prog_3_method_5_code
def yX1_wordOf : MethodName := ⟨RX1, "wordOf", "(I)I"⟩
abbrev cX1_bitOf : ByteArray := prog_3_method_6_code
def yX1_bitOf : MethodName := ⟨RX1, "bitOf", "(I)J"⟩
def RX2 : String := "MoraineSort$Numbers"
def TX2 : u_T := fun k => match k with
  | 0 => ("MoraineSort$Numbers", "values", "[I", true)
  | _ => ("MoraineSort$Numbers", "count", "I", false)
def tyX2 : Nat → FieldType := fun k => match k with
  | 0 => .array .int
  | _ => .int
abbrev wsX20 : List Cond := u_ws RX2 TX2 2
theorem nmX2 : ∀ a, a < 2 → ∀ b, b < 2 → a ≠ b → (TX2 a).2.1 ≠ (TX2 b).2.1 := by decide +kernel
theorem tyX2_ok : ∀ k, k < 2 → parseFieldDescriptor (TX2 k).2.2.1 = some (tyX2 k) := by decide +kernel
abbrev cX2_init : ByteArray := prog_4_method_1_code
def yX2_init : MethodName := ⟨RX2, "<init>", "()V"⟩
abbrev cX2_empty : ByteArray := prog_4_method_2_code
def yX2_empty : MethodName := ⟨RX2, "empty", "()V"⟩
abbrev cX2_count : ByteArray := prog_4_method_3_code
def yX2_count : MethodName := ⟨RX2, "count", "()I"⟩
abbrev cX2_has : ByteArray := prog_4_method_4_code
def yX2_has : MethodName := ⟨RX2, "has", "(I)Z"⟩
abbrev cX2_valueAt : ByteArray := prog_4_method_5_code
def yX2_valueAt : MethodName := ⟨RX2, "valueAt", "(I)I"⟩
abbrev cX2_add : ByteArray := prog_4_method_6_code
def yX2_add : MethodName := ⟨RX2, "add", "(I)V"⟩
abbrev cX2_addAll : ByteArray := prog_4_method_7_code
def yX2_addAll : MethodName := ⟨RX2, "addAll", "(LMoraineSort$Numbers;)V"⟩
abbrev cX2_set : ByteArray := prog_4_method_8_code
def yX2_set : MethodName := ⟨RX2, "set", "(II)V"⟩
abbrev cX2_cutTo : ByteArray := prog_4_method_9_code
def yX2_cutTo : MethodName := ⟨RX2, "cutTo", "(I)V"⟩
abbrev cX2_takeAt : ByteArray := prog_4_method_10_code
def yX2_takeAt : MethodName := ⟨RX2, "takeAt", "(I)I"⟩
abbrev cX2_leastPlace : ByteArray := prog_4_method_11_code
def yX2_leastPlace : MethodName := ⟨RX2, "leastPlace", "()I"⟩
def RX3 : String := "MoraineSort$Outcome"
def TX3 : u_T := fun k => match k with
  | 0 => ("MoraineSort$Outcome", "out", "LMoraineSort$Row;", true)
  | 1 => ("MoraineSort$Outcome", "made", "I", false)
  | 2 => ("MoraineSort$Outcome", "readPages", "I", false)
  | 3 => ("MoraineSort$Outcome", "writtenPages", "I", false)
  | _ => ("MoraineSort$Outcome", "spiltPages", "I", false)
def tyX3 : Nat → FieldType := fun k => match k with
  | 0 => .object "MoraineSort$Row"
  | 1 => .int
  | 2 => .int
  | 3 => .int
  | _ => .int
abbrev wsX30 : List Cond := u_ws RX3 TX3 5
theorem nmX3 : ∀ a, a < 5 → ∀ b, b < 5 → a ≠ b → (TX3 a).2.1 ≠ (TX3 b).2.1 := by decide +kernel
theorem tyX3_ok : ∀ k, k < 5 → parseFieldDescriptor (TX3 k).2.2.1 = some (tyX3 k) := by decide +kernel
abbrev cX3_init : ByteArray := prog_5_method_1_code
def yX3_init : MethodName := ⟨RX3, "<init>", "()V"⟩
abbrev cX3_clear : ByteArray := prog_5_method_2_code
def yX3_clear : MethodName := ⟨RX3, "clear", "()V"⟩
abbrev cX3_give : ByteArray := prog_5_method_3_code
def yX3_give : MethodName := ⟨RX3, "give", "(II)V"⟩
abbrev cX3_givePair : ByteArray := prog_5_method_4_code
def yX3_givePair : MethodName := ⟨RX3, "givePair", "(LMoraineSort$Row;ILMoraineSort$Row;I)V"⟩
def RX4 : String := "MoraineSort$Plan"
def TX4 : u_T := fun k => match k with
  | 0 => ("MoraineSort$Plan", "runSizes", "LMoraineSort$Numbers;", true)
  | 1 => ("MoraineSort$Plan", "mergeRuns", "LMoraineSort$Numbers;", true)
  | 2 => ("MoraineSort$Plan", "mergeSizes", "LMoraineSort$Numbers;", true)
  | 3 => ("MoraineSort$Plan", "readPages", "I", false)
  | 4 => ("MoraineSort$Plan", "writtenPages", "I", false)
  | 5 => ("MoraineSort$Plan", "row", "LMoraineSort$Numbers;", true)
  | 6 => ("MoraineSort$Plan", "heap", "LMoraineSort$Heap;", true)
  | _ => ("MoraineSort$Plan", "page", "I", false)
def tyX4 : Nat → FieldType := fun k => match k with
  | 0 => .object "MoraineSort$Numbers"
  | 1 => .object "MoraineSort$Numbers"
  | 2 => .object "MoraineSort$Numbers"
  | 3 => .int
  | 4 => .int
  | 5 => .object "MoraineSort$Numbers"
  | 6 => .object "MoraineSort$Heap"
  | _ => .int
abbrev wsX40 : List Cond := u_ws RX4 TX4 8
theorem nmX4 : ∀ a, a < 8 → ∀ b, b < 8 → a ≠ b → (TX4 a).2.1 ≠ (TX4 b).2.1 := by decide +kernel
theorem tyX4_ok : ∀ k, k < 8 → parseFieldDescriptor (TX4 k).2.2.1 = some (tyX4 k) := by decide +kernel
abbrev cX4_init : ByteArray := prog_6_method_1_code
def yX4_init : MethodName := ⟨RX4, "<init>", "()V"⟩
abbrev cX4_make : ByteArray := prog_6_method_2_code
def yX4_make : MethodName := ⟨RX4, "make", "(LMoraineSort$Row;ZZZII)V"⟩
abbrev cX4_runByLoading : ByteArray := prog_6_method_3_code
def yX4_runByLoading : MethodName := ⟨RX4, "runByLoading", "(II)V"⟩
abbrev cX4_runByReplacing : ByteArray := prog_6_method_4_code
def yX4_runByReplacing : MethodName := ⟨RX4, "runByReplacing", "(LMoraineSort$Row;ZI)V"⟩
abbrev cX4_countRuns : ByteArray := prog_6_method_5_code
def yX4_countRuns : MethodName := ⟨RX4, "countRuns", "(I)V"⟩
abbrev cX4_mergeByLevels : ByteArray := prog_6_method_6_code
def yX4_mergeByLevels : MethodName := ⟨RX4, "mergeByLevels", "(I)V"⟩
abbrev cX4_mergeLevel : ByteArray := prog_6_method_7_code
def yX4_mergeLevel : MethodName := ⟨RX4, "mergeLevel", "(I)V"⟩
abbrev cX4_mergeByLeast : ByteArray := prog_6_method_8_code
def yX4_mergeByLeast : MethodName := ⟨RX4, "mergeByLeast", "(I)V"⟩
abbrev cX4_mergeLeast : ByteArray := prog_6_method_9_code
def yX4_mergeLeast : MethodName := ⟨RX4, "mergeLeast", "(I)V"⟩
abbrev cX4_noteMerge : ByteArray := prog_6_method_10_code
def yX4_noteMerge : MethodName := ⟨RX4, "noteMerge", "(II)V"⟩
def RX5 : String := "MoraineSort$Row"
def TX5 : u_T := fun k => match k with
  | 0 => ("MoraineSort$Row", "keys", "[I", true)
  | 1 => ("MoraineSort$Row", "marks", "[I", true)
  | _ => ("MoraineSort$Row", "count", "I", false)
def tyX5 : Nat → FieldType := fun k => match k with
  | 0 => .array .int
  | 1 => .array .int
  | _ => .int
abbrev wsX50 : List Cond := u_ws RX5 TX5 3
theorem nmX5 : ∀ a, a < 3 → ∀ b, b < 3 → a ≠ b → (TX5 a).2.1 ≠ (TX5 b).2.1 := by decide +kernel
theorem tyX5_ok : ∀ k, k < 3 → parseFieldDescriptor (TX5 k).2.2.1 = some (tyX5 k) := by decide +kernel
abbrev cX5_init : ByteArray := prog_7_method_1_code
def yX5_init : MethodName := ⟨RX5, "<init>", "()V"⟩
abbrev cX5_empty : ByteArray := prog_7_method_2_code
def yX5_empty : MethodName := ⟨RX5, "empty", "()V"⟩
abbrev cX5_count : ByteArray := prog_7_method_3_code
def yX5_count : MethodName := ⟨RX5, "count", "()I"⟩
abbrev cX5_has : ByteArray := prog_7_method_4_code
def yX5_has : MethodName := ⟨RX5, "has", "(I)Z"⟩
abbrev cX5_keyAt : ByteArray := prog_7_method_5_code
def yX5_keyAt : MethodName := ⟨RX5, "keyAt", "(I)I"⟩
abbrev cX5_markAt : ByteArray := prog_7_method_6_code
def yX5_markAt : MethodName := ⟨RX5, "markAt", "(I)I"⟩
abbrev cX5_add : ByteArray := prog_7_method_7_code
def yX5_add : MethodName := ⟨RX5, "add", "(II)V"⟩
abbrev cX5_addAll : ByteArray := prog_7_method_8_code
def yX5_addAll : MethodName := ⟨RX5, "addAll", "(LMoraineSort$Row;)V"⟩
abbrev cX5_isUp : ByteArray := prog_7_method_9_code
def yX5_isUp : MethodName := ⟨RX5, "isUp", "()Z"⟩
abbrev cX5_isDown : ByteArray := prog_7_method_10_code
def yX5_isDown : MethodName := ⟨RX5, "isDown", "()Z"⟩
abbrev cX5_placeNotBelow : ByteArray := prog_7_method_11_code
def yX5_placeNotBelow : MethodName := ⟨RX5, "placeNotBelow", "(II)I"⟩
def RX6 : String := "MoraineSort$Splitting"
def TX6 : u_T := fun k => match k with
  | 0 => ("MoraineSort$Splitting", "page", "I", false)
  | 1 => ("MoraineSort$Splitting", "memory", "I", false)
  | 2 => ("MoraineSort$Splitting", "ones", "[LMoraineSort$Row;", true)
  | 3 => ("MoraineSort$Splitting", "others", "[LMoraineSort$Row;", true)
  | _ => ("MoraineSort$Splitting", "spare", "LMoraineSort$Row;", true)
def tyX6 : Nat → FieldType := fun k => match k with
  | 0 => .int
  | 1 => .int
  | 2 => .array (.object "MoraineSort$Row")
  | 3 => .array (.object "MoraineSort$Row")
  | _ => .object "MoraineSort$Row"
abbrev wsX60 : List Cond := u_ws RX6 TX6 5
theorem nmX6 : ∀ a, a < 5 → ∀ b, b < 5 → a ≠ b → (TX6 a).2.1 ≠ (TX6 b).2.1 := by decide +kernel
theorem tyX6_ok : ∀ k, k < 5 → parseFieldDescriptor (TX6 k).2.2.1 = some (tyX6 k) := by decide +kernel
abbrev cX6_init : ByteArray := prog_8_method_1_code
def yX6_init : MethodName := ⟨RX6, "<init>", "()V"⟩
abbrev cX6_fillOne : ByteArray := prog_8_method_2_code
def yX6_fillOne : MethodName := ⟨RX6, "fillOne", "(LMoraineSort$Row;II)LMoraineSort$Row;"⟩
abbrev cX6_fillOther : ByteArray := prog_8_method_3_code
def yX6_fillOther : MethodName := ⟨RX6, "fillOther", "(LMoraineSort$Row;II)LMoraineSort$Row;"⟩
abbrev cX6_fill : ByteArray := prog_8_method_4_code
def yX6_fill : MethodName := ⟨RX6, "fill", "(LMoraineSort$Row;LMoraineSort$Row;II)V"⟩
def RX7 : String := "MoraineSort$Tournament"
def TX7 : u_T := fun k => match k with
  | 0 => ("MoraineSort$Tournament", "isOn", "Z", false)
  | 1 => ("MoraineSort$Tournament", "leafCount", "I", false)
  | 2 => ("MoraineSort$Tournament", "winningLeaf", "I", false)
  | 3 => ("MoraineSort$Tournament", "matchCount", "I", false)
  | 4 => ("MoraineSort$Tournament", "firstFile", "I", false)
  | 5 => ("MoraineSort$Tournament", "rowCount", "I", false)
  | 6 => ("MoraineSort$Tournament", "rows", "[LMoraineSort$Row;", true)
  | 7 => ("MoraineSort$Tournament", "places", "[I", true)
  | 8 => ("MoraineSort$Tournament", "losers", "[I", true)
  | _ => ("MoraineSort$Tournament", "winners", "[I", true)
def tyX7 : Nat → FieldType := fun k => match k with
  | 0 => .boolean
  | 1 => .int
  | 2 => .int
  | 3 => .int
  | 4 => .int
  | 5 => .int
  | 6 => .array (.object "MoraineSort$Row")
  | 7 => .array .int
  | 8 => .array .int
  | _ => .array .int
abbrev wsX70 : List Cond := u_ws RX7 TX7 10
theorem nmX7 : ∀ a, a < 10 → ∀ b, b < 10 → a ≠ b → (TX7 a).2.1 ≠ (TX7 b).2.1 := by decide +kernel
theorem tyX7_ok : ∀ k, k < 10 → parseFieldDescriptor (TX7 k).2.2.1 = some (tyX7 k) := by decide +kernel
abbrev cX7_init : ByteArray := prog_9_method_1_code
def yX7_init : MethodName := ⟨RX7, "<init>", "()V"⟩
abbrev cX7_prepare : ByteArray := prog_9_method_2_code
def yX7_prepare : MethodName := ⟨RX7, "prepare", "(II)V"⟩
abbrev cX7_seat : ByteArray := prog_9_method_3_code
def yX7_seat : MethodName := ⟨RX7, "seat", "(ILMoraineSort$Row;)V"⟩
abbrev cX7_open : ByteArray := prog_9_method_4_code
def yX7_open : MethodName := ⟨RX7, "open", "()V"⟩
abbrev cX7_forget : ByteArray := prog_9_method_5_code
def yX7_forget : MethodName := ⟨RX7, "forget", "(I)V"⟩
abbrev cX7_hasNode : ByteArray := prog_9_method_6_code
def yX7_hasNode : MethodName := ⟨RX7, "hasNode", "(I)Z"⟩
abbrev cX7_loserAt : ByteArray := prog_9_method_7_code
def yX7_loserAt : MethodName := ⟨RX7, "loserAt", "(I)I"⟩
abbrev cX7_give : ByteArray := prog_9_method_8_code
def yX7_give : MethodName := ⟨RX7, "give", "()I"⟩
abbrev cX7_playAt : ByteArray := prog_9_method_9_code
def yX7_playAt : MethodName := ⟨RX7, "playAt", "(III)I"⟩
abbrev cX7_isWinning : ByteArray := prog_9_method_10_code
def yX7_isWinning : MethodName := ⟨RX7, "isWinning", "(II)Z"⟩
abbrev cX7_isOver : ByteArray := prog_9_method_11_code
def yX7_isOver : MethodName := ⟨RX7, "isOver", "(I)Z"⟩
abbrev cX7_keyOf : ByteArray := prog_9_method_12_code
def yX7_keyOf : MethodName := ⟨RX7, "keyOf", "(I)I"⟩
def RX8 : String := "MoraineSort"
def TX8 : u_T := fun k => match k with
  | 0 => ("MoraineSort", "files", "[LMoraineSort$Row;", true)
  | 1 => ("MoraineSort", "fileCount", "I", false)
  | 2 => ("MoraineSort", "page", "I", false)
  | 3 => ("MoraineSort", "memory", "I", false)
  | 4 => ("MoraineSort", "readPages", "I", false)
  | 5 => ("MoraineSort", "writtenPages", "I", false)
  | 6 => ("MoraineSort", "spiltPages", "I", false)
  | 7 => ("MoraineSort", "latest", "LMoraineSort$Plan;", true)
  | 8 => ("MoraineSort", "trial", "LMoraineSort$Plan;", true)
  | 9 => ("MoraineSort", "heap", "LMoraineSort$Heap;", true)
  | 10 => ("MoraineSort", "tournament", "LMoraineSort$Tournament;", true)
  | 11 => ("MoraineSort", "outcome", "LMoraineSort$Outcome;", true)
  | 12 => ("MoraineSort", "splitting", "LMoraineSort$Splitting;", true)
  | _ => ("MoraineSort", "keySet", "LMoraineSort$KeySet;", true)
def tyX8 : Nat → FieldType := fun k => match k with
  | 0 => .array (.object "MoraineSort$Row")
  | 1 => .int
  | 2 => .int
  | 3 => .int
  | 4 => .int
  | 5 => .int
  | 6 => .int
  | 7 => .object "MoraineSort$Plan"
  | 8 => .object "MoraineSort$Plan"
  | 9 => .object "MoraineSort$Heap"
  | 10 => .object "MoraineSort$Tournament"
  | 11 => .object "MoraineSort$Outcome"
  | 12 => .object "MoraineSort$Splitting"
  | _ => .object "MoraineSort$KeySet"
abbrev wsX80 : List Cond := u_ws RX8 TX8 14
theorem nmX8 : ∀ a, a < 14 → ∀ b, b < 14 → a ≠ b → (TX8 a).2.1 ≠ (TX8 b).2.1 := by decide +kernel
theorem tyX8_ok : ∀ k, k < 14 → parseFieldDescriptor (TX8 k).2.2.1 = some (tyX8 k) := by decide +kernel
abbrev cX8_init : ByteArray := prog_1_method_1_code
def yX8_init : MethodName := ⟨RX8, "<init>", "()V"⟩
abbrev cX8_setMemory : ByteArray := prog_1_method_2_code
def yX8_setMemory : MethodName := ⟨RX8, "setMemory", "(II)I"⟩
abbrev cX8_addFile : ByteArray := prog_1_method_3_code
def yX8_addFile : MethodName := ⟨RX8, "addFile", "()I"⟩
abbrev cX8_put : ByteArray := prog_1_method_4_code
def yX8_put : MethodName := ⟨RX8, "put", "(III)I"⟩
abbrev cX8_putRow : ByteArray := prog_1_method_5_code
def yX8_putRow : MethodName := ⟨RX8, "putRow", "(IIIII)I"⟩
abbrev cX8_size : ByteArray := prog_1_method_8_code
def yX8_size : MethodName := ⟨RX8, "size", "(I)I"⟩
abbrev cX8_at : ByteArray := prog_1_method_9_code
def yX8_at : MethodName := ⟨RX8, "at", "(IIZ)I"⟩
abbrev cX8_order : ByteArray := prog_1_method_11_code
def yX8_order : MethodName := ⟨RX8, "order", "(I)I"⟩
abbrev cX8_distinct : ByteArray := prog_1_method_12_code
def yX8_distinct : MethodName := ⟨RX8, "distinct", "(I)I"⟩
abbrev cX8_inversions : ByteArray := prog_1_method_13_code
def yX8_inversions : MethodName := ⟨RX8, "inversions", "(I)I"⟩
abbrev cX8_read : ByteArray := prog_1_method_14_code
def yX8_read : MethodName := ⟨RX8, "read", "()I"⟩
abbrev cX8_written : ByteArray := prog_1_method_15_code
def yX8_written : MethodName := ⟨RX8, "written", "()I"⟩
abbrev cX8_sort : ByteArray := prog_1_method_17_code
def yX8_sort : MethodName := ⟨RX8, "sort", "(IZZZ)I"⟩
abbrev cX8_runs : ByteArray := prog_1_method_18_code
def yX8_runs : MethodName := ⟨RX8, "runs", "()I"⟩
abbrev cX8_runSize : ByteArray := prog_1_method_19_code
def yX8_runSize : MethodName := ⟨RX8, "runSize", "(I)I"⟩
abbrev cX8_merges : ByteArray := prog_1_method_20_code
def yX8_merges : MethodName := ⟨RX8, "merges", "()I"⟩
abbrev cX8_merge : ByteArray := prog_1_method_21_code
def yX8_merge : MethodName := ⟨RX8, "merge", "(II)I"⟩
abbrev cX8_begin : ByteArray := prog_1_method_22_code
def yX8_begin : MethodName := ⟨RX8, "begin", "(II)I"⟩
abbrev cX8_next : ByteArray := prog_1_method_23_code
def yX8_next : MethodName := ⟨RX8, "next", "()I"⟩
abbrev cX8_matches : ByteArray := prog_1_method_26_code
def yX8_matches : MethodName := ⟨RX8, "matches", "()I"⟩
abbrev cX8_join : ByteArray := prog_1_method_27_code
def yX8_join : MethodName := ⟨RX8, "join", "(III)I"⟩
abbrev cX8_split : ByteArray := prog_1_method_28_code
def yX8_split : MethodName := ⟨RX8, "split", "(II)I"⟩
abbrev cX8_group : ByteArray := prog_1_method_29_code
def yX8_group : MethodName := ⟨RX8, "group", "(II)I"⟩
abbrev cX8_sortCost : ByteArray := prog_1_method_30_code
def yX8_sortCost : MethodName := ⟨RX8, "sortCost", "(IZZI)I"⟩
abbrev cX8_memoryFor : ByteArray := prog_1_method_31_code
def yX8_memoryFor : MethodName := ⟨RX8, "memoryFor", "(IZI)I"⟩
abbrev cX8_splitCost : ByteArray := prog_1_method_32_code
def yX8_splitCost : MethodName := ⟨RX8, "splitCost", "(II)I"⟩
abbrev cX8_share : ByteArray := prog_1_method_33_code
def yX8_share : MethodName := ⟨RX8, "share", "(II)D"⟩
abbrev cX8_digest : ByteArray := prog_1_method_34_code
def yX8_digest : MethodName := ⟨RX8, "digest", "()J"⟩
abbrev cX8_fold : ByteArray := prog_1_method_35_code
def yX8_fold : MethodName := ⟨RX8, "fold", "(JJ)J"⟩
abbrev cX8_foldSort : ByteArray := prog_1_method_36_code
def yX8_foldSort : MethodName := ⟨RX8, "foldSort", "(J)J"⟩
abbrev cX8_foldFile : ByteArray := prog_1_method_37_code
def yX8_foldFile : MethodName := ⟨RX8, "foldFile", "(JLMoraineSort$Row;)J"⟩
abbrev cX8_rowOf : ByteArray := prog_1_method_38_code
def yX8_rowOf : MethodName := ⟨RX8, "rowOf", "(I)LMoraineSort$Row;"⟩
abbrev cX8_needRoom : ByteArray := prog_1_method_39_code
def yX8_needRoom : MethodName := ⟨RX8, "needRoom", "()V"⟩
abbrev cX8_needSpace : ByteArray := prog_1_method_40_code
def yX8_needSpace : MethodName := ⟨RX8, "needSpace", "(LMoraineSort$Row;I)V"⟩
abbrev cX8_needMemory : ByteArray := prog_1_method_41_code
def yX8_needMemory : MethodName := ⟨RX8, "needMemory", "(I)V"⟩
abbrev cX8_needHow : ByteArray := prog_1_method_42_code
def yX8_needHow : MethodName := ⟨RX8, "needHow", "(I)V"⟩
abbrev cX8_needUp : ByteArray := prog_1_method_43_code
def yX8_needUp : MethodName := ⟨RX8, "needUp", "(LMoraineSort$Row;)V"⟩
abbrev cX8_needTournament : ByteArray := prog_1_method_44_code
def yX8_needTournament : MethodName := ⟨RX8, "needTournament", "()V"⟩
abbrev cX8_needFit : ByteArray := prog_1_method_45_code
def yX8_needFit : MethodName := ⟨RX8, "needFit", "()V"⟩
abbrev cX8_pagesFor : ByteArray := prog_1_method_46_code
def yX8_pagesFor : MethodName := ⟨RX8, "pagesFor", "(II)I"⟩
abbrev cX8_orderOf : ByteArray := prog_1_method_47_code
def yX8_orderOf : MethodName := ⟨RX8, "orderOf", "(LMoraineSort$Row;)I"⟩
abbrev cX8_keysIn : ByteArray := prog_1_method_48_code
def yX8_keysIn : MethodName := ⟨RX8, "keysIn", "(LMoraineSort$Row;)I"⟩
abbrev cX8_costOf : ByteArray := prog_1_method_49_code
def yX8_costOf : MethodName := ⟨RX8, "costOf", "(LMoraineSort$Row;ZZI)I"⟩
abbrev cX8_weightOf : ByteArray := prog_1_method_50_code
def yX8_weightOf : MethodName := ⟨RX8, "weightOf", "(LMoraineSort$Row;IZ)I"⟩
abbrev cX8_land : ByteArray := prog_1_method_51_code
def yX8_land : MethodName := ⟨RX8, "land", "()I"⟩
abbrev cX8_giveSorted : ByteArray := prog_1_method_52_code
def yX8_giveSorted : MethodName := ⟨RX8, "giveSorted", "(LMoraineSort$Row;Z)V"⟩
abbrev cX8_joinByMerging : ByteArray := prog_1_method_53_code
def yX8_joinByMerging : MethodName := ⟨RX8, "joinByMerging", "(LMoraineSort$Row;LMoraineSort$Row;I)V"⟩
abbrev cX8_spill : ByteArray := prog_1_method_54_code
def yX8_spill : MethodName := ⟨RX8, "spill", "(I)I"⟩
abbrev cX8_givePairs : ByteArray := prog_1_method_55_code
def yX8_givePairs : MethodName := ⟨RX8, "givePairs", "(LMoraineSort$Row;ILMoraineSort$Row;II)V"⟩
abbrev cX8_joinBySplitting : ByteArray := prog_1_method_56_code
def yX8_joinBySplitting : MethodName := ⟨RX8, "joinBySplitting", "(LMoraineSort$Row;LMoraineSort$Row;)V"⟩
abbrev cX8_splitRows : ByteArray := prog_1_method_57_code
def yX8_splitRows : MethodName := ⟨RX8, "splitRows", "(LMoraineSort$Splitting;LMoraineSort$Outcome;LMoraineSort$Row;LMoraineSort$Row;I)V"⟩
abbrev cX8_pairByParts : ByteArray := prog_1_method_58_code
def yX8_pairByParts : MethodName := ⟨RX8, "pairByParts", "(LMoraineSort$Splitting;LMoraineSort$Outcome;LMoraineSort$Row;LMoraineSort$Row;)V"⟩
abbrev cX8_giveGroups : ByteArray := prog_1_method_59_code
def yX8_giveGroups : MethodName := ⟨RX8, "giveGroups", "(LMoraineSort$Row;I)V"⟩
abbrev cX8_startMark : ByteArray := prog_1_method_60_code
def yX8_startMark : MethodName := ⟨RX8, "startMark", "(II)I"⟩
abbrev cX8_moreMark : ByteArray := prog_1_method_61_code
def yX8_moreMark : MethodName := ⟨RX8, "moreMark", "(III)I"⟩
def RJ9 : String := "java/lang/Math"
abbrev cJ9_floorMod_7cf53 : ByteArray := prog_19_method_50_code
def yJ9_floorMod_7cf53 : MethodName := ⟨RJ9, "floorMod", "(II)I"⟩
abbrev cJ9_abs_0f7a4 : ByteArray := prog_19_method_59_code
def yJ9_abs_0f7a4 : MethodName := ⟨RJ9, "abs", "(I)I"⟩
abbrev cJ9_max_7cf53 : ByteArray := prog_19_method_65_code
def yJ9_max_7cf53 : MethodName := ⟨RJ9, "max", "(II)I"⟩
abbrev cJ9_min_7cf53 : ByteArray := prog_19_method_69_code
def yJ9_min_7cf53 : MethodName := ⟨RJ9, "min", "(II)I"⟩
def RL : String := "MoraineSortLaw"
abbrev cL_below : ByteArray := method_2_code
def yL_below : MethodName := ⟨RL, "below", "(II)I"⟩
abbrev cL_cell : ByteArray := method_3_code
def yL_cell : MethodName := ⟨RL, "cell", "([II)I"⟩
abbrev cL_isSame : ByteArray := method_4_code
def yL_isSame : MethodName := ⟨RL, "isSame", "(LMoraineSort;II)Z"⟩
abbrev cL_law : ByteArray := code
def yL_law : MethodName := ⟨RL, "law", "([I)Z"⟩
-- the words that a contract needs: those of the tables that stay (one list for every method)
def tT : List Cond := lw_tbl.filter goodWord
theorem tT_tbl {w : Cond} (h : w ∈ tT) : w ∈ lw_tbl := (List.mem_filter.mp h).1
theorem tT_i {w : Cond} {i : Nat} (h : tables_1[i]? = some w) (g : goodWord w = true) : w ∈ tT := List.mem_filter.mpr ⟨List.mem_append_right _ (List.mem_of_getElem? h), g⟩
theorem tT_p {w : Cond} {i : Nat} (h : (k2_sels lw_privs)[i]? = some w) (g : goodWord w = true) : w ∈ tT := List.mem_filter.mpr ⟨List.mem_append_left _ (List.mem_of_getElem? h), g⟩
theorem tT_good {w : Cond} (h : w ∈ tT) : (w.onTables && w.keeps) = true ∨ ∃ ty, w = .arrayClass ty := good_of_word (List.mem_filter.mp h).2
abbrev tW (y : MethodName) (cc : ByteArray) (n : Nat) (ret : Option FieldType) : List Cond := Cond.code y cc n ret :: tT
theorem tw_0 : Cond.initialized RL ∈ tT := tT_i (i := 0) (by decide +kernel) (by decide +kernel)
theorem tw_1 : Cond.initialized RX8 ∈ tT := tT_i (i := 1) (by decide +kernel) (by decide +kernel)
theorem tw_2 : Cond.initialized RX4 ∈ tT := tT_i (i := 2) (by decide +kernel) (by decide +kernel)
theorem tw_3 : Cond.initialized RX2 ∈ tT := tT_i (i := 3) (by decide +kernel) (by decide +kernel)
theorem tw_4 : Cond.initialized RX0 ∈ tT := tT_i (i := 4) (by decide +kernel) (by decide +kernel)
theorem tw_5 : Cond.initialized RX7 ∈ tT := tT_i (i := 5) (by decide +kernel) (by decide +kernel)
theorem tw_6 : Cond.initialized RX3 ∈ tT := tT_i (i := 6) (by decide +kernel) (by decide +kernel)
theorem tw_7 : Cond.initialized RX5 ∈ tT := tT_i (i := 7) (by decide +kernel) (by decide +kernel)
theorem tw_8 : Cond.initialized RX6 ∈ tT := tT_i (i := 8) (by decide +kernel) (by decide +kernel)
theorem tw_9 : Cond.initialized RX1 ∈ tT := tT_i (i := 9) (by decide +kernel) (by decide +kernel)
theorem tw_16 : Cond.initialized RJ9 ∈ tT := tT_i (i := 16) (by decide +kernel) (by decide +kernel)
theorem tw_17 : Cond.classLink RL 10 RX8 ∈ tT := tT_i (i := 17) (by decide +kernel) (by decide +kernel)
theorem tw_18 : Cond.instantiable RX8 14 ∈ tT := tT_i (i := 18) (by decide +kernel) (by decide +kernel)
theorem tw_19 : Cond.methodLink RL 19 yX8_init ∈ tT := tT_i (i := 19) (by decide +kernel) (by decide +kernel)
theorem tw_20 : Cond.instanceMethod yX8_init ∈ tT := tT_i (i := 20) (by decide +kernel) (by decide +kernel)
theorem tw_21 : Cond.code yX8_init cX8_init 2 none ∈ tT := tT_i (i := 21) (by decide +kernel) (by decide +kernel)
theorem tw_22 : Cond.methodLink RX8 3 objectInit ∈ tT := tT_i (i := 22) (by decide +kernel) (by decide +kernel)
theorem tw_23 : Cond.instanceMethod objectInit ∈ tT := tT_i (i := 23) (by decide +kernel) (by decide +kernel)
theorem tw_25 : Cond.classLink RX8 9 RX5 ∈ tT := tT_i (i := 25) (by decide +kernel) (by decide +kernel)
theorem tw_26 : Cond.arrayOver (.object "MoraineSort$Row") ∈ lw_tbl := List.mem_append_right _ (List.mem_of_getElem? (i := 26) (by decide +kernel))
theorem tw_27 : Cond.classLink RX8 34 RX4 ∈ tT := tT_i (i := 27) (by decide +kernel) (by decide +kernel)
theorem tw_28 : Cond.instantiable RX4 8 ∈ tT := tT_i (i := 28) (by decide +kernel) (by decide +kernel)
theorem tw_29 : Cond.methodLinkNest RX8 36 yX4_init RX8 ∈ lw_tbl := List.mem_append_right _ (List.mem_of_getElem? (i := 29) (by decide +kernel))
theorem tw_30 : Cond.instanceMethod yX4_init ∈ tT := tT_i (i := 30) (by decide +kernel) (by decide +kernel)
theorem tw_31 : Cond.code yX4_init cX4_init 1 none ∈ tT := tT_i (i := 31) (by decide +kernel) (by decide +kernel)
theorem tw_32 : Cond.methodLink RX4 3 objectInit ∈ tT := tT_i (i := 32) (by decide +kernel) (by decide +kernel)
theorem tw_33 : Cond.classLink RX4 9 RX2 ∈ tT := tT_i (i := 33) (by decide +kernel) (by decide +kernel)
theorem tw_34 : Cond.instantiable RX2 2 ∈ tT := tT_i (i := 34) (by decide +kernel) (by decide +kernel)
theorem tw_35 : Cond.methodLinkNest RX4 11 yX2_init RX8 ∈ lw_tbl := List.mem_append_right _ (List.mem_of_getElem? (i := 35) (by decide +kernel))
theorem tw_36 : Cond.instanceMethod yX2_init ∈ tT := tT_i (i := 36) (by decide +kernel) (by decide +kernel)
theorem tw_37 : Cond.code yX2_init cX2_init 1 none ∈ tT := tT_i (i := 37) (by decide +kernel) (by decide +kernel)
theorem tw_38 : Cond.methodLink RX2 3 objectInit ∈ tT := tT_i (i := 38) (by decide +kernel) (by decide +kernel)
theorem tw_39 : Cond.fieldLink RX2 9 "MoraineSort$Numbers" "values" "[I" ∈ tT := tT_i (i := 39) (by decide +kernel) (by decide +kernel)
theorem tw_40 : Cond.fieldLink RX2 15 "MoraineSort$Numbers" "count" "I" ∈ tT := tT_i (i := 40) (by decide +kernel) (by decide +kernel)
theorem tw_41 : Cond.laysFinal RX2 "MoraineSort$Numbers" "values" "[I" ∈ tT := tT_i (i := 41) (by decide +kernel) (by decide +kernel)
theorem tw_43 : Cond.lays RX2 "MoraineSort$Numbers" "count" "I" ∈ tT := tT_i (i := 43) (by decide +kernel) (by decide +kernel)
theorem tw_46 : Cond.arrayClass .int ∈ tT := tT_i (i := 46) (by decide +kernel) (by decide +kernel)
theorem tw_47 : Cond.classLink RX4 34 RX0 ∈ tT := tT_i (i := 47) (by decide +kernel) (by decide +kernel)
theorem tw_48 : Cond.instantiable RX0 2 ∈ tT := tT_i (i := 48) (by decide +kernel) (by decide +kernel)
theorem tw_49 : Cond.methodLinkNest RX4 36 yX0_init RX8 ∈ lw_tbl := List.mem_append_right _ (List.mem_of_getElem? (i := 49) (by decide +kernel))
theorem tw_50 : Cond.instanceMethod yX0_init ∈ tT := tT_i (i := 50) (by decide +kernel) (by decide +kernel)
theorem tw_51 : Cond.code yX0_init cX0_init 1 none ∈ tT := tT_i (i := 51) (by decide +kernel) (by decide +kernel)
theorem tw_52 : Cond.methodLink RX0 3 objectInit ∈ tT := tT_i (i := 52) (by decide +kernel) (by decide +kernel)
theorem tw_53 : Cond.fieldLink RX0 9 "MoraineSort$Heap" "held" "[I" ∈ tT := tT_i (i := 53) (by decide +kernel) (by decide +kernel)
theorem tw_54 : Cond.fieldLink RX0 15 "MoraineSort$Heap" "count" "I" ∈ tT := tT_i (i := 54) (by decide +kernel) (by decide +kernel)
theorem tw_55 : Cond.laysFinal RX0 "MoraineSort$Heap" "held" "[I" ∈ tT := tT_i (i := 55) (by decide +kernel) (by decide +kernel)
theorem tw_57 : Cond.lays RX0 "MoraineSort$Heap" "count" "I" ∈ tT := tT_i (i := 57) (by decide +kernel) (by decide +kernel)
theorem tw_60 : Cond.fieldLink RX4 12 "MoraineSort$Plan" "runSizes" "LMoraineSort$Numbers;" ∈ tT := tT_i (i := 60) (by decide +kernel) (by decide +kernel)
theorem tw_61 : Cond.fieldLink RX8 183 "MoraineSort$Plan" "runSizes" "LMoraineSort$Numbers;" ∈ tT := tT_i (i := 61) (by decide +kernel) (by decide +kernel)
theorem tw_62 : Cond.fieldLink RX4 18 "MoraineSort$Plan" "mergeRuns" "LMoraineSort$Numbers;" ∈ tT := tT_i (i := 62) (by decide +kernel) (by decide +kernel)
theorem tw_63 : Cond.fieldLink RX8 203 "MoraineSort$Plan" "mergeRuns" "LMoraineSort$Numbers;" ∈ tT := tT_i (i := 63) (by decide +kernel) (by decide +kernel)
theorem tw_64 : Cond.fieldLink RX4 21 "MoraineSort$Plan" "mergeSizes" "LMoraineSort$Numbers;" ∈ tT := tT_i (i := 64) (by decide +kernel) (by decide +kernel)
theorem tw_65 : Cond.fieldLink RX8 196 "MoraineSort$Plan" "mergeSizes" "LMoraineSort$Numbers;" ∈ tT := tT_i (i := 65) (by decide +kernel) (by decide +kernel)
theorem tw_66 : Cond.fieldLink RX4 24 "MoraineSort$Plan" "readPages" "I" ∈ tT := tT_i (i := 66) (by decide +kernel) (by decide +kernel)
theorem tw_67 : Cond.fieldLink RX8 172 "MoraineSort$Plan" "readPages" "I" ∈ tT := tT_i (i := 67) (by decide +kernel) (by decide +kernel)
theorem tw_68 : Cond.fieldLink RX4 28 "MoraineSort$Plan" "writtenPages" "I" ∈ tT := tT_i (i := 68) (by decide +kernel) (by decide +kernel)
theorem tw_69 : Cond.fieldLink RX8 174 "MoraineSort$Plan" "writtenPages" "I" ∈ tT := tT_i (i := 69) (by decide +kernel) (by decide +kernel)
theorem tw_70 : Cond.fieldLink RX4 31 "MoraineSort$Plan" "row" "LMoraineSort$Numbers;" ∈ tT := tT_i (i := 70) (by decide +kernel) (by decide +kernel)
theorem tw_71 : Cond.fieldLink RX4 37 "MoraineSort$Plan" "heap" "LMoraineSort$Heap;" ∈ tT := tT_i (i := 71) (by decide +kernel) (by decide +kernel)
theorem tw_72 : Cond.fieldLink RX4 41 "MoraineSort$Plan" "page" "I" ∈ tT := tT_i (i := 72) (by decide +kernel) (by decide +kernel)
theorem tw_73 : Cond.laysFinal RX4 "MoraineSort$Plan" "runSizes" "LMoraineSort$Numbers;" ∈ tT := tT_i (i := 73) (by decide +kernel) (by decide +kernel)
theorem tw_75 : Cond.laysFinal RX4 "MoraineSort$Plan" "mergeRuns" "LMoraineSort$Numbers;" ∈ tT := tT_i (i := 75) (by decide +kernel) (by decide +kernel)
theorem tw_77 : Cond.laysFinal RX4 "MoraineSort$Plan" "mergeSizes" "LMoraineSort$Numbers;" ∈ tT := tT_i (i := 77) (by decide +kernel) (by decide +kernel)
theorem tw_79 : Cond.lays RX4 "MoraineSort$Plan" "readPages" "I" ∈ tT := tT_i (i := 79) (by decide +kernel) (by decide +kernel)
theorem tw_81 : Cond.lays RX4 "MoraineSort$Plan" "writtenPages" "I" ∈ tT := tT_i (i := 81) (by decide +kernel) (by decide +kernel)
theorem tw_83 : Cond.laysFinal RX4 "MoraineSort$Plan" "row" "LMoraineSort$Numbers;" ∈ tT := tT_i (i := 83) (by decide +kernel) (by decide +kernel)
theorem tw_85 : Cond.laysFinal RX4 "MoraineSort$Plan" "heap" "LMoraineSort$Heap;" ∈ tT := tT_i (i := 85) (by decide +kernel) (by decide +kernel)
theorem tw_87 : Cond.lays RX4 "MoraineSort$Plan" "page" "I" ∈ tT := tT_i (i := 87) (by decide +kernel) (by decide +kernel)
theorem tw_90 : Cond.classLink RX8 44 RX0 ∈ tT := tT_i (i := 90) (by decide +kernel) (by decide +kernel)
theorem tw_91 : Cond.methodLinkNest RX8 46 yX0_init RX8 ∈ lw_tbl := List.mem_append_right _ (List.mem_of_getElem? (i := 91) (by decide +kernel))
theorem tw_92 : Cond.classLink RX8 51 RX7 ∈ tT := tT_i (i := 92) (by decide +kernel) (by decide +kernel)
theorem tw_93 : Cond.instantiable RX7 10 ∈ tT := tT_i (i := 93) (by decide +kernel) (by decide +kernel)
theorem tw_94 : Cond.methodLinkNest RX8 53 yX7_init RX8 ∈ lw_tbl := List.mem_append_right _ (List.mem_of_getElem? (i := 94) (by decide +kernel))
theorem tw_95 : Cond.instanceMethod yX7_init ∈ tT := tT_i (i := 95) (by decide +kernel) (by decide +kernel)
theorem tw_96 : Cond.code yX7_init cX7_init 1 none ∈ tT := tT_i (i := 96) (by decide +kernel) (by decide +kernel)
theorem tw_97 : Cond.methodLink RX7 3 objectInit ∈ tT := tT_i (i := 97) (by decide +kernel) (by decide +kernel)
theorem tw_98 : Cond.classLink RX7 31 RX5 ∈ tT := tT_i (i := 98) (by decide +kernel) (by decide +kernel)
theorem tw_99 : Cond.fieldLink RX7 9 "MoraineSort$Tournament" "isOn" "Z" ∈ tT := tT_i (i := 99) (by decide +kernel) (by decide +kernel)
theorem tw_100 : Cond.fieldLink RX8 244 "MoraineSort$Tournament" "isOn" "Z" ∈ tT := tT_i (i := 100) (by decide +kernel) (by decide +kernel)
theorem tw_101 : Cond.fieldLink RX7 15 "MoraineSort$Tournament" "leafCount" "I" ∈ tT := tT_i (i := 101) (by decide +kernel) (by decide +kernel)
theorem tw_102 : Cond.fieldLink RX8 224 "MoraineSort$Tournament" "leafCount" "I" ∈ tT := tT_i (i := 102) (by decide +kernel) (by decide +kernel)
theorem tw_103 : Cond.fieldLink RX7 19 "MoraineSort$Tournament" "winningLeaf" "I" ∈ tT := tT_i (i := 103) (by decide +kernel) (by decide +kernel)
theorem tw_104 : Cond.fieldLink RX7 22 "MoraineSort$Tournament" "matchCount" "I" ∈ tT := tT_i (i := 104) (by decide +kernel) (by decide +kernel)
theorem tw_105 : Cond.fieldLink RX8 248 "MoraineSort$Tournament" "matchCount" "I" ∈ tT := tT_i (i := 105) (by decide +kernel) (by decide +kernel)
theorem tw_106 : Cond.fieldLink RX7 25 "MoraineSort$Tournament" "firstFile" "I" ∈ tT := tT_i (i := 106) (by decide +kernel) (by decide +kernel)
theorem tw_107 : Cond.fieldLink RX7 28 "MoraineSort$Tournament" "rowCount" "I" ∈ tT := tT_i (i := 107) (by decide +kernel) (by decide +kernel)
theorem tw_108 : Cond.fieldLink RX7 33 "MoraineSort$Tournament" "rows" "[LMoraineSort$Row;" ∈ tT := tT_i (i := 108) (by decide +kernel) (by decide +kernel)
theorem tw_109 : Cond.fieldLink RX7 37 "MoraineSort$Tournament" "places" "[I" ∈ tT := tT_i (i := 109) (by decide +kernel) (by decide +kernel)
theorem tw_110 : Cond.fieldLink RX7 41 "MoraineSort$Tournament" "losers" "[I" ∈ tT := tT_i (i := 110) (by decide +kernel) (by decide +kernel)
theorem tw_111 : Cond.fieldLink RX7 44 "MoraineSort$Tournament" "winners" "[I" ∈ tT := tT_i (i := 111) (by decide +kernel) (by decide +kernel)
theorem tw_112 : Cond.lays RX7 "MoraineSort$Tournament" "isOn" "Z" ∈ tT := tT_i (i := 112) (by decide +kernel) (by decide +kernel)
theorem tw_114 : Cond.lays RX7 "MoraineSort$Tournament" "leafCount" "I" ∈ tT := tT_i (i := 114) (by decide +kernel) (by decide +kernel)
theorem tw_116 : Cond.lays RX7 "MoraineSort$Tournament" "winningLeaf" "I" ∈ tT := tT_i (i := 116) (by decide +kernel) (by decide +kernel)
theorem tw_118 : Cond.lays RX7 "MoraineSort$Tournament" "matchCount" "I" ∈ tT := tT_i (i := 118) (by decide +kernel) (by decide +kernel)
theorem tw_120 : Cond.lays RX7 "MoraineSort$Tournament" "firstFile" "I" ∈ tT := tT_i (i := 120) (by decide +kernel) (by decide +kernel)
theorem tw_122 : Cond.lays RX7 "MoraineSort$Tournament" "rowCount" "I" ∈ tT := tT_i (i := 122) (by decide +kernel) (by decide +kernel)
theorem tw_124 : Cond.laysFinal RX7 "MoraineSort$Tournament" "rows" "[LMoraineSort$Row;" ∈ tT := tT_i (i := 124) (by decide +kernel) (by decide +kernel)
theorem tw_126 : Cond.laysFinal RX7 "MoraineSort$Tournament" "places" "[I" ∈ tT := tT_i (i := 126) (by decide +kernel) (by decide +kernel)
theorem tw_128 : Cond.laysFinal RX7 "MoraineSort$Tournament" "losers" "[I" ∈ tT := tT_i (i := 128) (by decide +kernel) (by decide +kernel)
theorem tw_130 : Cond.laysFinal RX7 "MoraineSort$Tournament" "winners" "[I" ∈ tT := tT_i (i := 130) (by decide +kernel) (by decide +kernel)
theorem tw_133 : Cond.classLink RX8 58 RX3 ∈ tT := tT_i (i := 133) (by decide +kernel) (by decide +kernel)
theorem tw_134 : Cond.instantiable RX3 5 ∈ tT := tT_i (i := 134) (by decide +kernel) (by decide +kernel)
theorem tw_135 : Cond.methodLinkNest RX8 60 yX3_init RX8 ∈ lw_tbl := List.mem_append_right _ (List.mem_of_getElem? (i := 135) (by decide +kernel))
theorem tw_136 : Cond.instanceMethod yX3_init ∈ tT := tT_i (i := 136) (by decide +kernel) (by decide +kernel)
theorem tw_137 : Cond.code yX3_init cX3_init 1 none ∈ tT := tT_i (i := 137) (by decide +kernel) (by decide +kernel)
theorem tw_138 : Cond.methodLink RX3 3 objectInit ∈ tT := tT_i (i := 138) (by decide +kernel) (by decide +kernel)
theorem tw_139 : Cond.classLink RX3 9 RX5 ∈ tT := tT_i (i := 139) (by decide +kernel) (by decide +kernel)
theorem tw_140 : Cond.instantiable RX5 3 ∈ tT := tT_i (i := 140) (by decide +kernel) (by decide +kernel)
theorem tw_141 : Cond.methodLinkNest RX3 11 yX5_init RX8 ∈ lw_tbl := List.mem_append_right _ (List.mem_of_getElem? (i := 141) (by decide +kernel))
theorem tw_142 : Cond.instanceMethod yX5_init ∈ tT := tT_i (i := 142) (by decide +kernel) (by decide +kernel)
theorem tw_143 : Cond.code yX5_init cX5_init 1 none ∈ tT := tT_i (i := 143) (by decide +kernel) (by decide +kernel)
theorem tw_144 : Cond.methodLink RX5 3 objectInit ∈ tT := tT_i (i := 144) (by decide +kernel) (by decide +kernel)
theorem tw_145 : Cond.fieldLink RX5 9 "MoraineSort$Row" "keys" "[I" ∈ tT := tT_i (i := 145) (by decide +kernel) (by decide +kernel)
theorem tw_146 : Cond.fieldLink RX5 15 "MoraineSort$Row" "marks" "[I" ∈ tT := tT_i (i := 146) (by decide +kernel) (by decide +kernel)
theorem tw_147 : Cond.fieldLink RX5 18 "MoraineSort$Row" "count" "I" ∈ tT := tT_i (i := 147) (by decide +kernel) (by decide +kernel)
theorem tw_148 : Cond.laysFinal RX5 "MoraineSort$Row" "keys" "[I" ∈ tT := tT_i (i := 148) (by decide +kernel) (by decide +kernel)
theorem tw_150 : Cond.laysFinal RX5 "MoraineSort$Row" "marks" "[I" ∈ tT := tT_i (i := 150) (by decide +kernel) (by decide +kernel)
theorem tw_152 : Cond.lays RX5 "MoraineSort$Row" "count" "I" ∈ tT := tT_i (i := 152) (by decide +kernel) (by decide +kernel)
theorem tw_155 : Cond.fieldLink RX3 12 "MoraineSort$Outcome" "out" "LMoraineSort$Row;" ∈ tT := tT_i (i := 155) (by decide +kernel) (by decide +kernel)
theorem tw_156 : Cond.fieldLink RX8 329 "MoraineSort$Outcome" "out" "LMoraineSort$Row;" ∈ tT := tT_i (i := 156) (by decide +kernel) (by decide +kernel)
theorem tw_157 : Cond.fieldLink RX3 18 "MoraineSort$Outcome" "made" "I" ∈ tT := tT_i (i := 157) (by decide +kernel) (by decide +kernel)
theorem tw_158 : Cond.fieldLink RX8 277 "MoraineSort$Outcome" "made" "I" ∈ tT := tT_i (i := 158) (by decide +kernel) (by decide +kernel)
theorem tw_159 : Cond.fieldLink RX3 22 "MoraineSort$Outcome" "readPages" "I" ∈ tT := tT_i (i := 159) (by decide +kernel) (by decide +kernel)
theorem tw_160 : Cond.fieldLink RX8 173 "MoraineSort$Outcome" "readPages" "I" ∈ tT := tT_i (i := 160) (by decide +kernel) (by decide +kernel)
theorem tw_161 : Cond.fieldLink RX3 25 "MoraineSort$Outcome" "writtenPages" "I" ∈ tT := tT_i (i := 161) (by decide +kernel) (by decide +kernel)
theorem tw_162 : Cond.fieldLink RX8 175 "MoraineSort$Outcome" "writtenPages" "I" ∈ tT := tT_i (i := 162) (by decide +kernel) (by decide +kernel)
theorem tw_163 : Cond.fieldLink RX3 28 "MoraineSort$Outcome" "spiltPages" "I" ∈ tT := tT_i (i := 163) (by decide +kernel) (by decide +kernel)
theorem tw_164 : Cond.fieldLink RX8 325 "MoraineSort$Outcome" "spiltPages" "I" ∈ tT := tT_i (i := 164) (by decide +kernel) (by decide +kernel)
theorem tw_165 : Cond.laysFinal RX3 "MoraineSort$Outcome" "out" "LMoraineSort$Row;" ∈ tT := tT_i (i := 165) (by decide +kernel) (by decide +kernel)
theorem tw_167 : Cond.lays RX3 "MoraineSort$Outcome" "made" "I" ∈ tT := tT_i (i := 167) (by decide +kernel) (by decide +kernel)
theorem tw_169 : Cond.lays RX3 "MoraineSort$Outcome" "readPages" "I" ∈ tT := tT_i (i := 169) (by decide +kernel) (by decide +kernel)
theorem tw_171 : Cond.lays RX3 "MoraineSort$Outcome" "writtenPages" "I" ∈ tT := tT_i (i := 171) (by decide +kernel) (by decide +kernel)
theorem tw_173 : Cond.lays RX3 "MoraineSort$Outcome" "spiltPages" "I" ∈ tT := tT_i (i := 173) (by decide +kernel) (by decide +kernel)
theorem tw_176 : Cond.classLink RX8 65 RX6 ∈ tT := tT_i (i := 176) (by decide +kernel) (by decide +kernel)
theorem tw_177 : Cond.instantiable RX6 5 ∈ tT := tT_i (i := 177) (by decide +kernel) (by decide +kernel)
theorem tw_178 : Cond.methodLink RX8 67 yX6_init ∈ tT := tT_i (i := 178) (by decide +kernel) (by decide +kernel)
theorem tw_179 : Cond.instanceMethod yX6_init ∈ tT := tT_i (i := 179) (by decide +kernel) (by decide +kernel)
theorem tw_180 : Cond.code yX6_init cX6_init 2 none ∈ tT := tT_i (i := 180) (by decide +kernel) (by decide +kernel)
theorem tw_181 : Cond.methodLink RX6 3 objectInit ∈ tT := tT_i (i := 181) (by decide +kernel) (by decide +kernel)
theorem tw_182 : Cond.classLink RX6 18 RX5 ∈ tT := tT_i (i := 182) (by decide +kernel) (by decide +kernel)
theorem tw_183 : Cond.methodLinkNest RX6 27 yX5_init RX8 ∈ lw_tbl := List.mem_append_right _ (List.mem_of_getElem? (i := 183) (by decide +kernel))
theorem tw_184 : Cond.fieldLink RX6 9 "MoraineSort$Splitting" "page" "I" ∈ tT := tT_i (i := 184) (by decide +kernel) (by decide +kernel)
theorem tw_185 : Cond.fieldLink RX8 363 "MoraineSort$Splitting" "page" "I" ∈ tT := tT_i (i := 185) (by decide +kernel) (by decide +kernel)
theorem tw_186 : Cond.fieldLink RX6 15 "MoraineSort$Splitting" "memory" "I" ∈ tT := tT_i (i := 186) (by decide +kernel) (by decide +kernel)
theorem tw_187 : Cond.fieldLink RX8 364 "MoraineSort$Splitting" "memory" "I" ∈ tT := tT_i (i := 187) (by decide +kernel) (by decide +kernel)
theorem tw_188 : Cond.fieldLink RX6 20 "MoraineSort$Splitting" "ones" "[LMoraineSort$Row;" ∈ tT := tT_i (i := 188) (by decide +kernel) (by decide +kernel)
theorem tw_189 : Cond.fieldLink RX6 24 "MoraineSort$Splitting" "others" "[LMoraineSort$Row;" ∈ tT := tT_i (i := 189) (by decide +kernel) (by decide +kernel)
theorem tw_190 : Cond.fieldLink RX6 28 "MoraineSort$Splitting" "spare" "LMoraineSort$Row;" ∈ tT := tT_i (i := 190) (by decide +kernel) (by decide +kernel)
theorem tw_191 : Cond.lays RX6 "MoraineSort$Splitting" "page" "I" ∈ tT := tT_i (i := 191) (by decide +kernel) (by decide +kernel)
theorem tw_193 : Cond.lays RX6 "MoraineSort$Splitting" "memory" "I" ∈ tT := tT_i (i := 193) (by decide +kernel) (by decide +kernel)
theorem tw_195 : Cond.laysFinal RX6 "MoraineSort$Splitting" "ones" "[LMoraineSort$Row;" ∈ tT := tT_i (i := 195) (by decide +kernel) (by decide +kernel)
theorem tw_197 : Cond.laysFinal RX6 "MoraineSort$Splitting" "others" "[LMoraineSort$Row;" ∈ tT := tT_i (i := 197) (by decide +kernel) (by decide +kernel)
theorem tw_199 : Cond.laysFinal RX6 "MoraineSort$Splitting" "spare" "LMoraineSort$Row;" ∈ tT := tT_i (i := 199) (by decide +kernel) (by decide +kernel)
theorem tw_202 : Cond.classLink RX8 72 RX1 ∈ tT := tT_i (i := 202) (by decide +kernel) (by decide +kernel)
theorem tw_203 : Cond.instantiable RX1 1 ∈ tT := tT_i (i := 203) (by decide +kernel) (by decide +kernel)
theorem tw_204 : Cond.methodLinkNest RX8 74 yX1_init RX8 ∈ lw_tbl := List.mem_append_right _ (List.mem_of_getElem? (i := 204) (by decide +kernel))
theorem tw_205 : Cond.instanceMethod yX1_init ∈ tT := tT_i (i := 205) (by decide +kernel) (by decide +kernel)
theorem tw_206 : Cond.code yX1_init cX1_init 1 none ∈ tT := tT_i (i := 206) (by decide +kernel) (by decide +kernel)
theorem tw_207 : Cond.methodLink RX1 3 objectInit ∈ tT := tT_i (i := 207) (by decide +kernel) (by decide +kernel)
theorem tw_208 : Cond.fieldLink RX1 9 "MoraineSort$KeySet" "words" "[J" ∈ tT := tT_i (i := 208) (by decide +kernel) (by decide +kernel)
theorem tw_209 : Cond.laysFinal RX1 "MoraineSort$KeySet" "words" "[J" ∈ tT := tT_i (i := 209) (by decide +kernel) (by decide +kernel)
theorem tw_212 : Cond.arrayClass .long ∈ tT := tT_i (i := 212) (by decide +kernel) (by decide +kernel)
theorem tw_213 : Cond.methodLinkNest RX8 79 yX5_init RX8 ∈ lw_tbl := List.mem_append_right _ (List.mem_of_getElem? (i := 213) (by decide +kernel))
theorem tw_214 : Cond.fieldLink RX8 11 "MoraineSort" "files" "[LMoraineSort$Row;" ∈ tT := tT_i (i := 214) (by decide +kernel) (by decide +kernel)
theorem tw_215 : Cond.fieldLink RX8 15 "MoraineSort" "fileCount" "I" ∈ tT := tT_i (i := 215) (by decide +kernel) (by decide +kernel)
theorem tw_216 : Cond.fieldLink RX8 19 "MoraineSort" "page" "I" ∈ tT := tT_i (i := 216) (by decide +kernel) (by decide +kernel)
theorem tw_217 : Cond.fieldLink RX8 22 "MoraineSort" "memory" "I" ∈ tT := tT_i (i := 217) (by decide +kernel) (by decide +kernel)
theorem tw_218 : Cond.fieldLink RX8 25 "MoraineSort" "readPages" "I" ∈ tT := tT_i (i := 218) (by decide +kernel) (by decide +kernel)
theorem tw_219 : Cond.fieldLink RX8 28 "MoraineSort" "writtenPages" "I" ∈ tT := tT_i (i := 219) (by decide +kernel) (by decide +kernel)
theorem tw_220 : Cond.fieldLink RX8 31 "MoraineSort" "spiltPages" "I" ∈ tT := tT_i (i := 220) (by decide +kernel) (by decide +kernel)
theorem tw_221 : Cond.fieldLink RX8 37 "MoraineSort" "latest" "LMoraineSort$Plan;" ∈ tT := tT_i (i := 221) (by decide +kernel) (by decide +kernel)
theorem tw_222 : Cond.fieldLink RX8 41 "MoraineSort" "trial" "LMoraineSort$Plan;" ∈ tT := tT_i (i := 222) (by decide +kernel) (by decide +kernel)
theorem tw_223 : Cond.fieldLink RX8 47 "MoraineSort" "heap" "LMoraineSort$Heap;" ∈ tT := tT_i (i := 223) (by decide +kernel) (by decide +kernel)
theorem tw_224 : Cond.fieldLink RX8 54 "MoraineSort" "tournament" "LMoraineSort$Tournament;" ∈ tT := tT_i (i := 224) (by decide +kernel) (by decide +kernel)
theorem tw_225 : Cond.fieldLink RX8 61 "MoraineSort" "outcome" "LMoraineSort$Outcome;" ∈ tT := tT_i (i := 225) (by decide +kernel) (by decide +kernel)
theorem tw_226 : Cond.fieldLink RX8 68 "MoraineSort" "splitting" "LMoraineSort$Splitting;" ∈ tT := tT_i (i := 226) (by decide +kernel) (by decide +kernel)
theorem tw_227 : Cond.fieldLink RX8 75 "MoraineSort" "keySet" "LMoraineSort$KeySet;" ∈ tT := tT_i (i := 227) (by decide +kernel) (by decide +kernel)
theorem tw_228 : Cond.laysFinal RX8 "MoraineSort" "files" "[LMoraineSort$Row;" ∈ tT := tT_i (i := 228) (by decide +kernel) (by decide +kernel)
theorem tw_230 : Cond.lays RX8 "MoraineSort" "fileCount" "I" ∈ tT := tT_i (i := 230) (by decide +kernel) (by decide +kernel)
theorem tw_232 : Cond.lays RX8 "MoraineSort" "page" "I" ∈ tT := tT_i (i := 232) (by decide +kernel) (by decide +kernel)
theorem tw_234 : Cond.lays RX8 "MoraineSort" "memory" "I" ∈ tT := tT_i (i := 234) (by decide +kernel) (by decide +kernel)
theorem tw_236 : Cond.lays RX8 "MoraineSort" "readPages" "I" ∈ tT := tT_i (i := 236) (by decide +kernel) (by decide +kernel)
theorem tw_238 : Cond.lays RX8 "MoraineSort" "writtenPages" "I" ∈ tT := tT_i (i := 238) (by decide +kernel) (by decide +kernel)
theorem tw_240 : Cond.lays RX8 "MoraineSort" "spiltPages" "I" ∈ tT := tT_i (i := 240) (by decide +kernel) (by decide +kernel)
theorem tw_242 : Cond.laysFinal RX8 "MoraineSort" "latest" "LMoraineSort$Plan;" ∈ tT := tT_i (i := 242) (by decide +kernel) (by decide +kernel)
theorem tw_244 : Cond.laysFinal RX8 "MoraineSort" "trial" "LMoraineSort$Plan;" ∈ tT := tT_i (i := 244) (by decide +kernel) (by decide +kernel)
theorem tw_246 : Cond.laysFinal RX8 "MoraineSort" "heap" "LMoraineSort$Heap;" ∈ tT := tT_i (i := 246) (by decide +kernel) (by decide +kernel)
theorem tw_248 : Cond.laysFinal RX8 "MoraineSort" "tournament" "LMoraineSort$Tournament;" ∈ tT := tT_i (i := 248) (by decide +kernel) (by decide +kernel)
theorem tw_250 : Cond.laysFinal RX8 "MoraineSort" "outcome" "LMoraineSort$Outcome;" ∈ tT := tT_i (i := 250) (by decide +kernel) (by decide +kernel)
theorem tw_252 : Cond.laysFinal RX8 "MoraineSort" "splitting" "LMoraineSort$Splitting;" ∈ tT := tT_i (i := 252) (by decide +kernel) (by decide +kernel)
theorem tw_254 : Cond.laysFinal RX8 "MoraineSort" "keySet" "LMoraineSort$KeySet;" ∈ tT := tT_i (i := 254) (by decide +kernel) (by decide +kernel)
theorem tw_257 : Cond.methodLink RL 30 yX8_setMemory ∈ tT := tT_i (i := 257) (by decide +kernel) (by decide +kernel)
theorem tw_258 : Cond.instanceMethod yX8_setMemory ∈ tT := tT_i (i := 258) (by decide +kernel) (by decide +kernel)
theorem tw_259 : Cond.selects RX8 yX8_setMemory yX8_setMemory ∈ tT := tT_i (i := 259) (by decide +kernel) (by decide +kernel)
theorem tw_260 : Cond.code yX8_setMemory cX8_setMemory 4 (some .int) ∈ tT := tT_i (i := 260) (by decide +kernel) (by decide +kernel)
theorem tw_328 : Cond.arrayClass .byte ∈ tT := tT_i (i := 328) (by decide +kernel) (by decide +kernel)
theorem tw_329 : Cond.methodLink RX8 87 yX8_needMemory ∈ tT := tT_i (i := 329) (by decide +kernel) (by decide +kernel)
theorem tw_330 : Cond.static yX8_needMemory ∈ tT := tT_i (i := 330) (by decide +kernel) (by decide +kernel)
theorem tw_331 : Cond.code yX8_needMemory cX8_needMemory 1 none ∈ tT := tT_i (i := 331) (by decide +kernel) (by decide +kernel)
theorem tw_333 : Cond.methodLink RL 33 yX8_addFile ∈ tT := tT_i (i := 333) (by decide +kernel) (by decide +kernel)
theorem tw_334 : Cond.instanceMethod yX8_addFile ∈ tT := tT_i (i := 334) (by decide +kernel) (by decide +kernel)
theorem tw_335 : Cond.selects RX8 yX8_addFile yX8_addFile ∈ tT := tT_i (i := 335) (by decide +kernel) (by decide +kernel)
theorem tw_336 : Cond.code yX8_addFile cX8_addFile 2 (some .int) ∈ tT := tT_i (i := 336) (by decide +kernel) (by decide +kernel)
theorem tw_337 : Cond.methodLink RX8 91 yX8_needRoom ∈ tT := tT_i (i := 337) (by decide +kernel) (by decide +kernel)
theorem tw_339 : Cond.instanceMethod yX8_needRoom ∈ tT := tT_i (i := 339) (by decide +kernel) (by decide +kernel)
theorem tw_340 : Cond.code yX8_needRoom cX8_needRoom 1 none ∈ tT := tT_i (i := 340) (by decide +kernel) (by decide +kernel)
theorem tw_357 : Cond.methodLink RX8 94 yX5_empty ∈ tT := tT_i (i := 357) (by decide +kernel) (by decide +kernel)
theorem tw_358 : Cond.instanceMethod yX5_empty ∈ tT := tT_i (i := 358) (by decide +kernel) (by decide +kernel)
theorem tw_359 : Cond.selects RX5 yX5_empty yX5_empty ∈ tT := tT_i (i := 359) (by decide +kernel) (by decide +kernel)
theorem tw_360 : Cond.code yX5_empty cX5_empty 1 none ∈ tT := tT_i (i := 360) (by decide +kernel) (by decide +kernel)
theorem tw_361 : Cond.methodLink RL 37 yX8_put ∈ tT := tT_i (i := 361) (by decide +kernel) (by decide +kernel)
theorem tw_362 : Cond.instanceMethod yX8_put ∈ tT := tT_i (i := 362) (by decide +kernel) (by decide +kernel)
theorem tw_363 : Cond.selects RX8 yX8_put yX8_put ∈ tT := tT_i (i := 363) (by decide +kernel) (by decide +kernel)
theorem tw_364 : Cond.code yX8_put cX8_put 5 (some .int) ∈ tT := tT_i (i := 364) (by decide +kernel) (by decide +kernel)
theorem tw_365 : Cond.methodLink RX8 97 yX8_rowOf ∈ tT := tT_i (i := 365) (by decide +kernel) (by decide +kernel)
theorem tw_367 : Cond.instanceMethod yX8_rowOf ∈ tT := tT_i (i := 367) (by decide +kernel) (by decide +kernel)
theorem tw_368 : Cond.code yX8_rowOf cX8_rowOf 2 (some (.object "MoraineSort$Row")) ∈ tT := tT_i (i := 368) (by decide +kernel) (by decide +kernel)
theorem tw_387 : Cond.methodLink RX8 105 yX8_needSpace ∈ tT := tT_i (i := 387) (by decide +kernel) (by decide +kernel)
theorem tw_388 : Cond.static yX8_needSpace ∈ tT := tT_i (i := 388) (by decide +kernel) (by decide +kernel)
theorem tw_389 : Cond.code yX8_needSpace cX8_needSpace 2 none ∈ tT := tT_i (i := 389) (by decide +kernel) (by decide +kernel)
theorem tw_390 : Cond.methodLink RX8 116 yX5_count ∈ tT := tT_i (i := 390) (by decide +kernel) (by decide +kernel)
theorem tw_391 : Cond.instanceMethod yX5_count ∈ tT := tT_i (i := 391) (by decide +kernel) (by decide +kernel)
theorem tw_392 : Cond.selects RX5 yX5_count yX5_count ∈ tT := tT_i (i := 392) (by decide +kernel) (by decide +kernel)
theorem tw_393 : Cond.code yX5_count cX5_count 1 (some .int) ∈ tT := tT_i (i := 393) (by decide +kernel) (by decide +kernel)
theorem tw_395 : Cond.methodLink RX8 109 yX7_forget ∈ tT := tT_i (i := 395) (by decide +kernel) (by decide +kernel)
theorem tw_396 : Cond.instanceMethod yX7_forget ∈ tT := tT_i (i := 396) (by decide +kernel) (by decide +kernel)
theorem tw_397 : Cond.selects RX7 yX7_forget yX7_forget ∈ tT := tT_i (i := 397) (by decide +kernel) (by decide +kernel)
theorem tw_398 : Cond.code yX7_forget cX7_forget 2 none ∈ tT := tT_i (i := 398) (by decide +kernel) (by decide +kernel)
theorem tw_399 : Cond.methodLink RX8 112 yX5_add ∈ tT := tT_i (i := 399) (by decide +kernel) (by decide +kernel)
theorem tw_400 : Cond.instanceMethod yX5_add ∈ tT := tT_i (i := 400) (by decide +kernel) (by decide +kernel)
theorem tw_401 : Cond.selects RX5 yX5_add yX5_add ∈ tT := tT_i (i := 401) (by decide +kernel) (by decide +kernel)
theorem tw_402 : Cond.code yX5_add cX5_add 3 none ∈ tT := tT_i (i := 402) (by decide +kernel) (by decide +kernel)
theorem tw_403 : Cond.methodLink RL 41 yX8_putRow ∈ tT := tT_i (i := 403) (by decide +kernel) (by decide +kernel)
theorem tw_404 : Cond.instanceMethod yX8_putRow ∈ tT := tT_i (i := 404) (by decide +kernel) (by decide +kernel)
theorem tw_405 : Cond.selects RX8 yX8_putRow yX8_putRow ∈ tT := tT_i (i := 405) (by decide +kernel) (by decide +kernel)
theorem tw_406 : Cond.code yX8_putRow cX8_putRow 8 (some .int) ∈ tT := tT_i (i := 406) (by decide +kernel) (by decide +kernel)
theorem tw_411 : Cond.methodLink RX8 128 yJ9_floorMod_7cf53 ∈ tT := tT_i (i := 411) (by decide +kernel) (by decide +kernel)
theorem tw_412 : Cond.static yJ9_floorMod_7cf53 ∈ tT := tT_i (i := 412) (by decide +kernel) (by decide +kernel)
theorem tw_413 : Cond.code yJ9_floorMod_7cf53 cJ9_floorMod_7cf53 3 (some .int) ∈ tT := tT_i (i := 413) (by decide +kernel) (by decide +kernel)
theorem tw_414 : Cond.methodLink RL 9 yX8_size ∈ tT := tT_i (i := 414) (by decide +kernel) (by decide +kernel)
theorem tw_415 : Cond.instanceMethod yX8_size ∈ tT := tT_i (i := 415) (by decide +kernel) (by decide +kernel)
theorem tw_416 : Cond.selects RX8 yX8_size yX8_size ∈ tT := tT_i (i := 416) (by decide +kernel) (by decide +kernel)
theorem tw_417 : Cond.code yX8_size cX8_size 2 (some .int) ∈ tT := tT_i (i := 417) (by decide +kernel) (by decide +kernel)
theorem tw_418 : Cond.methodLink RL 15 yX8_at ∈ tT := tT_i (i := 418) (by decide +kernel) (by decide +kernel)
theorem tw_419 : Cond.instanceMethod yX8_at ∈ tT := tT_i (i := 419) (by decide +kernel) (by decide +kernel)
theorem tw_420 : Cond.selects RX8 yX8_at yX8_at ∈ tT := tT_i (i := 420) (by decide +kernel) (by decide +kernel)
theorem tw_421 : Cond.code yX8_at cX8_at 5 (some .int) ∈ tT := tT_i (i := 421) (by decide +kernel) (by decide +kernel)
theorem tw_422 : Cond.methodLink RX8 139 yX5_has ∈ tT := tT_i (i := 422) (by decide +kernel) (by decide +kernel)
theorem tw_423 : Cond.instanceMethod yX5_has ∈ tT := tT_i (i := 423) (by decide +kernel) (by decide +kernel)
theorem tw_424 : Cond.selects RX5 yX5_has yX5_has ∈ tT := tT_i (i := 424) (by decide +kernel) (by decide +kernel)
theorem tw_425 : Cond.code yX5_has cX5_has 2 (some .boolean) ∈ tT := tT_i (i := 425) (by decide +kernel) (by decide +kernel)
theorem tw_427 : Cond.methodLink RX8 148 yX5_markAt ∈ tT := tT_i (i := 427) (by decide +kernel) (by decide +kernel)
theorem tw_428 : Cond.instanceMethod yX5_markAt ∈ tT := tT_i (i := 428) (by decide +kernel) (by decide +kernel)
theorem tw_429 : Cond.selects RX5 yX5_markAt yX5_markAt ∈ tT := tT_i (i := 429) (by decide +kernel) (by decide +kernel)
theorem tw_430 : Cond.code yX5_markAt cX5_markAt 2 (some .int) ∈ tT := tT_i (i := 430) (by decide +kernel) (by decide +kernel)
theorem tw_431 : Cond.methodLink RX8 152 yX5_keyAt ∈ tT := tT_i (i := 431) (by decide +kernel) (by decide +kernel)
theorem tw_432 : Cond.instanceMethod yX5_keyAt ∈ tT := tT_i (i := 432) (by decide +kernel) (by decide +kernel)
theorem tw_433 : Cond.selects RX5 yX5_keyAt yX5_keyAt ∈ tT := tT_i (i := 433) (by decide +kernel) (by decide +kernel)
theorem tw_434 : Cond.code yX5_keyAt cX5_keyAt 2 (some .int) ∈ tT := tT_i (i := 434) (by decide +kernel) (by decide +kernel)
theorem tw_435 : Cond.methodLink RL 67 yX8_order ∈ tT := tT_i (i := 435) (by decide +kernel) (by decide +kernel)
theorem tw_436 : Cond.instanceMethod yX8_order ∈ tT := tT_i (i := 436) (by decide +kernel) (by decide +kernel)
theorem tw_437 : Cond.selects RX8 yX8_order yX8_order ∈ tT := tT_i (i := 437) (by decide +kernel) (by decide +kernel)
theorem tw_438 : Cond.code yX8_order cX8_order 2 (some .int) ∈ tT := tT_i (i := 438) (by decide +kernel) (by decide +kernel)
theorem tw_439 : Cond.methodLink RX8 158 yX8_orderOf ∈ tT := tT_i (i := 439) (by decide +kernel) (by decide +kernel)
theorem tw_440 : Cond.static yX8_orderOf ∈ tT := tT_i (i := 440) (by decide +kernel) (by decide +kernel)
theorem tw_441 : Cond.code yX8_orderOf cX8_orderOf 1 (some .int) ∈ tT := tT_i (i := 441) (by decide +kernel) (by decide +kernel)
theorem tw_442 : Cond.methodLink RX8 265 yX5_isUp ∈ tT := tT_i (i := 442) (by decide +kernel) (by decide +kernel)
theorem tw_443 : Cond.instanceMethod yX5_isUp ∈ tT := tT_i (i := 443) (by decide +kernel) (by decide +kernel)
theorem tw_444 : Cond.selects RX5 yX5_isUp yX5_isUp ∈ tT := tT_i (i := 444) (by decide +kernel) (by decide +kernel)
theorem tw_445 : Cond.code yX5_isUp cX5_isUp 2 (some .boolean) ∈ tT := tT_i (i := 445) (by decide +kernel) (by decide +kernel)
theorem tw_446 : Cond.methodLink RX8 269 yX5_isDown ∈ tT := tT_i (i := 446) (by decide +kernel) (by decide +kernel)
theorem tw_447 : Cond.instanceMethod yX5_isDown ∈ tT := tT_i (i := 447) (by decide +kernel) (by decide +kernel)
theorem tw_448 : Cond.selects RX5 yX5_isDown yX5_isDown ∈ tT := tT_i (i := 448) (by decide +kernel) (by decide +kernel)
theorem tw_449 : Cond.code yX5_isDown cX5_isDown 2 (some .boolean) ∈ tT := tT_i (i := 449) (by decide +kernel) (by decide +kernel)
theorem tw_450 : Cond.methodLink RL 111 yX8_distinct ∈ tT := tT_i (i := 450) (by decide +kernel) (by decide +kernel)
theorem tw_451 : Cond.instanceMethod yX8_distinct ∈ tT := tT_i (i := 451) (by decide +kernel) (by decide +kernel)
theorem tw_452 : Cond.selects RX8 yX8_distinct yX8_distinct ∈ tT := tT_i (i := 452) (by decide +kernel) (by decide +kernel)
theorem tw_453 : Cond.code yX8_distinct cX8_distinct 2 (some .int) ∈ tT := tT_i (i := 453) (by decide +kernel) (by decide +kernel)
theorem tw_454 : Cond.methodLink RX8 162 yX8_keysIn ∈ tT := tT_i (i := 454) (by decide +kernel) (by decide +kernel)
theorem tw_456 : Cond.instanceMethod yX8_keysIn ∈ tT := tT_i (i := 456) (by decide +kernel) (by decide +kernel)
theorem tw_457 : Cond.code yX8_keysIn cX8_keysIn 4 (some .int) ∈ tT := tT_i (i := 457) (by decide +kernel) (by decide +kernel)
theorem tw_458 : Cond.methodLink RX8 286 yX1_clear ∈ tT := tT_i (i := 458) (by decide +kernel) (by decide +kernel)
theorem tw_459 : Cond.instanceMethod yX1_clear ∈ tT := tT_i (i := 459) (by decide +kernel) (by decide +kernel)
theorem tw_460 : Cond.selects RX1 yX1_clear yX1_clear ∈ tT := tT_i (i := 460) (by decide +kernel) (by decide +kernel)
theorem tw_461 : Cond.code yX1_clear cX1_clear 2 none ∈ tT := tT_i (i := 461) (by decide +kernel) (by decide +kernel)
theorem tw_462 : Cond.methodLink RX8 287 yX1_add ∈ tT := tT_i (i := 462) (by decide +kernel) (by decide +kernel)
theorem tw_463 : Cond.instanceMethod yX1_add ∈ tT := tT_i (i := 463) (by decide +kernel) (by decide +kernel)
theorem tw_464 : Cond.selects RX1 yX1_add yX1_add ∈ tT := tT_i (i := 464) (by decide +kernel) (by decide +kernel)
theorem tw_465 : Cond.code yX1_add cX1_add 3 (some .boolean) ∈ tT := tT_i (i := 465) (by decide +kernel) (by decide +kernel)
theorem tw_466 : Cond.methodLink RX1 15 yX1_wordOf ∈ tT := tT_i (i := 466) (by decide +kernel) (by decide +kernel)
theorem tw_467 : Cond.static yX1_wordOf ∈ tT := tT_i (i := 467) (by decide +kernel) (by decide +kernel)
theorem tw_468 : Cond.code yX1_wordOf cX1_wordOf 1 (some .int) ∈ tT := tT_i (i := 468) (by decide +kernel) (by decide +kernel)
theorem tw_469 : Cond.methodLink RX1 19 yX1_bitOf ∈ tT := tT_i (i := 469) (by decide +kernel) (by decide +kernel)
theorem tw_470 : Cond.static yX1_bitOf ∈ tT := tT_i (i := 470) (by decide +kernel) (by decide +kernel)
theorem tw_471 : Cond.code yX1_bitOf cX1_bitOf 1 (some .long) ∈ tT := tT_i (i := 471) (by decide +kernel) (by decide +kernel)
theorem tw_472 : Cond.methodLink RL 70 yX8_inversions ∈ tT := tT_i (i := 472) (by decide +kernel) (by decide +kernel)
theorem tw_473 : Cond.instanceMethod yX8_inversions ∈ tT := tT_i (i := 473) (by decide +kernel) (by decide +kernel)
theorem tw_474 : Cond.selects RX8 yX8_inversions yX8_inversions ∈ tT := tT_i (i := 474) (by decide +kernel) (by decide +kernel)
theorem tw_475 : Cond.code yX8_inversions cX8_inversions 6 (some .int) ∈ tT := tT_i (i := 475) (by decide +kernel) (by decide +kernel)
theorem tw_476 : Cond.methodLink RL 53 yX8_read ∈ tT := tT_i (i := 476) (by decide +kernel) (by decide +kernel)
theorem tw_477 : Cond.instanceMethod yX8_read ∈ tT := tT_i (i := 477) (by decide +kernel) (by decide +kernel)
theorem tw_478 : Cond.selects RX8 yX8_read yX8_read ∈ tT := tT_i (i := 478) (by decide +kernel) (by decide +kernel)
theorem tw_479 : Cond.code yX8_read cX8_read 1 (some .int) ∈ tT := tT_i (i := 479) (by decide +kernel) (by decide +kernel)
theorem tw_480 : Cond.methodLink RL 56 yX8_written ∈ tT := tT_i (i := 480) (by decide +kernel) (by decide +kernel)
theorem tw_481 : Cond.instanceMethod yX8_written ∈ tT := tT_i (i := 481) (by decide +kernel) (by decide +kernel)
theorem tw_482 : Cond.selects RX8 yX8_written yX8_written ∈ tT := tT_i (i := 482) (by decide +kernel) (by decide +kernel)
theorem tw_483 : Cond.code yX8_written cX8_written 1 (some .int) ∈ tT := tT_i (i := 483) (by decide +kernel) (by decide +kernel)
theorem tw_484 : Cond.methodLink RL 63 yX8_sort ∈ tT := tT_i (i := 484) (by decide +kernel) (by decide +kernel)
theorem tw_485 : Cond.instanceMethod yX8_sort ∈ tT := tT_i (i := 485) (by decide +kernel) (by decide +kernel)
theorem tw_486 : Cond.selects RX8 yX8_sort yX8_sort ∈ tT := tT_i (i := 486) (by decide +kernel) (by decide +kernel)
theorem tw_487 : Cond.code yX8_sort cX8_sort 6 (some .int) ∈ tT := tT_i (i := 487) (by decide +kernel) (by decide +kernel)
theorem tw_488 : Cond.methodLink RX8 165 yX4_make ∈ tT := tT_i (i := 488) (by decide +kernel) (by decide +kernel)
theorem tw_489 : Cond.instanceMethod yX4_make ∈ tT := tT_i (i := 489) (by decide +kernel) (by decide +kernel)
theorem tw_490 : Cond.selects RX4 yX4_make yX4_make ∈ tT := tT_i (i := 490) (by decide +kernel) (by decide +kernel)
theorem tw_491 : Cond.code yX4_make cX4_make 7 none ∈ tT := tT_i (i := 491) (by decide +kernel) (by decide +kernel)
theorem tw_492 : Cond.methodLink RX4 44 yX2_empty ∈ tT := tT_i (i := 492) (by decide +kernel) (by decide +kernel)
theorem tw_493 : Cond.instanceMethod yX2_empty ∈ tT := tT_i (i := 493) (by decide +kernel) (by decide +kernel)
theorem tw_494 : Cond.selects RX2 yX2_empty yX2_empty ∈ tT := tT_i (i := 494) (by decide +kernel) (by decide +kernel)
theorem tw_495 : Cond.code yX2_empty cX2_empty 1 none ∈ tT := tT_i (i := 495) (by decide +kernel) (by decide +kernel)
theorem tw_496 : Cond.methodLink RX4 47 yX4_runByReplacing ∈ tT := tT_i (i := 496) (by decide +kernel) (by decide +kernel)
theorem tw_498 : Cond.instanceMethod yX4_runByReplacing ∈ tT := tT_i (i := 498) (by decide +kernel) (by decide +kernel)
theorem tw_499 : Cond.code yX4_runByReplacing cX4_runByReplacing 12 none ∈ tT := tT_i (i := 499) (by decide +kernel) (by decide +kernel)
theorem tw_500 : Cond.methodLink RX4 87 yX0_empty ∈ tT := tT_i (i := 500) (by decide +kernel) (by decide +kernel)
theorem tw_501 : Cond.instanceMethod yX0_empty ∈ tT := tT_i (i := 501) (by decide +kernel) (by decide +kernel)
theorem tw_502 : Cond.selects RX0 yX0_empty yX0_empty ∈ tT := tT_i (i := 502) (by decide +kernel) (by decide +kernel)
theorem tw_503 : Cond.code yX0_empty cX0_empty 1 none ∈ tT := tT_i (i := 503) (by decide +kernel) (by decide +kernel)
theorem tw_504 : Cond.methodLink RX4 51 yX5_count ∈ tT := tT_i (i := 504) (by decide +kernel) (by decide +kernel)
theorem tw_505 : Cond.methodLink RX4 81 yJ9_min_7cf53 ∈ tT := tT_i (i := 505) (by decide +kernel) (by decide +kernel)
theorem tw_506 : Cond.static yJ9_min_7cf53 ∈ tT := tT_i (i := 506) (by decide +kernel) (by decide +kernel)
theorem tw_507 : Cond.code yJ9_min_7cf53 cJ9_min_7cf53 2 (some .int) ∈ tT := tT_i (i := 507) (by decide +kernel) (by decide +kernel)
theorem tw_508 : Cond.methodLinkNest RX4 88 yX8_weightOf RX8 ∈ lw_tbl := List.mem_append_right _ (List.mem_of_getElem? (i := 508) (by decide +kernel))
theorem tw_509 : Cond.static yX8_weightOf ∈ tT := tT_i (i := 509) (by decide +kernel) (by decide +kernel)
theorem tw_510 : Cond.code yX8_weightOf cX8_weightOf 4 (some .int) ∈ tT := tT_i (i := 510) (by decide +kernel) (by decide +kernel)
theorem tw_511 : Cond.methodLink RX4 92 yX0_push ∈ tT := tT_i (i := 511) (by decide +kernel) (by decide +kernel)
theorem tw_512 : Cond.instanceMethod yX0_push ∈ tT := tT_i (i := 512) (by decide +kernel) (by decide +kernel)
theorem tw_513 : Cond.selects RX0 yX0_push yX0_push ∈ tT := tT_i (i := 513) (by decide +kernel) (by decide +kernel)
theorem tw_514 : Cond.code yX0_push cX0_push 3 none ∈ tT := tT_i (i := 514) (by decide +kernel) (by decide +kernel)
theorem tw_515 : Cond.methodLink RX4 95 yX0_pull ∈ tT := tT_i (i := 515) (by decide +kernel) (by decide +kernel)
theorem tw_516 : Cond.instanceMethod yX0_pull ∈ tT := tT_i (i := 516) (by decide +kernel) (by decide +kernel)
theorem tw_517 : Cond.selects RX0 yX0_pull yX0_pull ∈ tT := tT_i (i := 517) (by decide +kernel) (by decide +kernel)
theorem tw_518 : Cond.code yX0_pull cX0_pull 2 (some .int) ∈ tT := tT_i (i := 518) (by decide +kernel) (by decide +kernel)
theorem tw_519 : Cond.methodLink RX0 19 yX0_sinkFromTop ∈ tT := tT_i (i := 519) (by decide +kernel) (by decide +kernel)
theorem tw_521 : Cond.instanceMethod yX0_sinkFromTop ∈ tT := tT_i (i := 521) (by decide +kernel) (by decide +kernel)
theorem tw_522 : Cond.code yX0_sinkFromTop cX0_sinkFromTop 5 none ∈ tT := tT_i (i := 522) (by decide +kernel) (by decide +kernel)
theorem tw_523 : Cond.constant RX4 98 239880 ∈ tT := tT_i (i := 523) (by decide +kernel) (by decide +kernel)
theorem tw_524 : Cond.methodLink RX4 84 yX2_add ∈ tT := tT_i (i := 524) (by decide +kernel) (by decide +kernel)
theorem tw_525 : Cond.instanceMethod yX2_add ∈ tT := tT_i (i := 525) (by decide +kernel) (by decide +kernel)
theorem tw_526 : Cond.selects RX2 yX2_add yX2_add ∈ tT := tT_i (i := 526) (by decide +kernel) (by decide +kernel)
theorem tw_527 : Cond.code yX2_add cX2_add 2 none ∈ tT := tT_i (i := 527) (by decide +kernel) (by decide +kernel)
theorem tw_528 : Cond.methodLink RX4 57 yX4_runByLoading ∈ tT := tT_i (i := 528) (by decide +kernel) (by decide +kernel)
theorem tw_530 : Cond.instanceMethod yX4_runByLoading ∈ tT := tT_i (i := 530) (by decide +kernel) (by decide +kernel)
theorem tw_531 : Cond.code yX4_runByLoading cX4_runByLoading 5 none ∈ tT := tT_i (i := 531) (by decide +kernel) (by decide +kernel)
theorem tw_532 : Cond.methodLink RX4 75 yJ9_max_7cf53 ∈ tT := tT_i (i := 532) (by decide +kernel) (by decide +kernel)
theorem tw_533 : Cond.static yJ9_max_7cf53 ∈ tT := tT_i (i := 533) (by decide +kernel) (by decide +kernel)
theorem tw_534 : Cond.code yJ9_max_7cf53 cJ9_max_7cf53 2 (some .int) ∈ tT := tT_i (i := 534) (by decide +kernel) (by decide +kernel)
theorem tw_535 : Cond.methodLink RX4 61 yX4_countRuns ∈ tT := tT_i (i := 535) (by decide +kernel) (by decide +kernel)
theorem tw_537 : Cond.instanceMethod yX4_countRuns ∈ tT := tT_i (i := 537) (by decide +kernel) (by decide +kernel)
theorem tw_538 : Cond.code yX4_countRuns cX4_countRuns 3 none ∈ tT := tT_i (i := 538) (by decide +kernel) (by decide +kernel)
theorem tw_539 : Cond.methodLinkNest RX4 99 yX8_pagesFor RX8 ∈ lw_tbl := List.mem_append_right _ (List.mem_of_getElem? (i := 539) (by decide +kernel))
theorem tw_540 : Cond.static yX8_pagesFor ∈ tT := tT_i (i := 540) (by decide +kernel) (by decide +kernel)
theorem tw_541 : Cond.code yX8_pagesFor cX8_pagesFor 2 (some .int) ∈ tT := tT_i (i := 541) (by decide +kernel) (by decide +kernel)
theorem tw_542 : Cond.methodLink RX4 102 yX2_count ∈ tT := tT_i (i := 542) (by decide +kernel) (by decide +kernel)
theorem tw_543 : Cond.instanceMethod yX2_count ∈ tT := tT_i (i := 543) (by decide +kernel) (by decide +kernel)
theorem tw_544 : Cond.selects RX2 yX2_count yX2_count ∈ tT := tT_i (i := 544) (by decide +kernel) (by decide +kernel)
theorem tw_545 : Cond.code yX2_count cX2_count 1 (some .int) ∈ tT := tT_i (i := 545) (by decide +kernel) (by decide +kernel)
theorem tw_546 : Cond.methodLink RX4 103 yX2_valueAt ∈ tT := tT_i (i := 546) (by decide +kernel) (by decide +kernel)
theorem tw_547 : Cond.instanceMethod yX2_valueAt ∈ tT := tT_i (i := 547) (by decide +kernel) (by decide +kernel)
theorem tw_548 : Cond.selects RX2 yX2_valueAt yX2_valueAt ∈ tT := tT_i (i := 548) (by decide +kernel) (by decide +kernel)
theorem tw_549 : Cond.code yX2_valueAt cX2_valueAt 2 (some .int) ∈ tT := tT_i (i := 549) (by decide +kernel) (by decide +kernel)
theorem tw_550 : Cond.methodLink RX4 65 yX2_addAll ∈ tT := tT_i (i := 550) (by decide +kernel) (by decide +kernel)
theorem tw_551 : Cond.instanceMethod yX2_addAll ∈ tT := tT_i (i := 551) (by decide +kernel) (by decide +kernel)
theorem tw_552 : Cond.selects RX2 yX2_addAll yX2_addAll ∈ tT := tT_i (i := 552) (by decide +kernel) (by decide +kernel)
theorem tw_553 : Cond.code yX2_addAll cX2_addAll 3 none ∈ tT := tT_i (i := 553) (by decide +kernel) (by decide +kernel)
theorem tw_554 : Cond.methodLink RX2 19 yX2_add ∈ tT := tT_i (i := 554) (by decide +kernel) (by decide +kernel)
theorem tw_555 : Cond.methodLink RX4 69 yX4_mergeByLeast ∈ tT := tT_i (i := 555) (by decide +kernel) (by decide +kernel)
theorem tw_557 : Cond.instanceMethod yX4_mergeByLeast ∈ tT := tT_i (i := 557) (by decide +kernel) (by decide +kernel)
theorem tw_558 : Cond.code yX4_mergeByLeast cX4_mergeByLeast 4 none ∈ tT := tT_i (i := 558) (by decide +kernel) (by decide +kernel)
theorem tw_559 : Cond.methodLink RX4 119 yJ9_floorMod_7cf53 ∈ tT := tT_i (i := 559) (by decide +kernel) (by decide +kernel)
theorem tw_560 : Cond.methodLink RX4 122 yX4_mergeLeast ∈ tT := tT_i (i := 560) (by decide +kernel) (by decide +kernel)
theorem tw_562 : Cond.instanceMethod yX4_mergeLeast ∈ tT := tT_i (i := 562) (by decide +kernel) (by decide +kernel)
theorem tw_563 : Cond.code yX4_mergeLeast cX4_mergeLeast 5 none ∈ tT := tT_i (i := 563) (by decide +kernel) (by decide +kernel)
theorem tw_564 : Cond.methodLink RX4 125 yX2_leastPlace ∈ tT := tT_i (i := 564) (by decide +kernel) (by decide +kernel)
theorem tw_565 : Cond.instanceMethod yX2_leastPlace ∈ tT := tT_i (i := 565) (by decide +kernel) (by decide +kernel)
theorem tw_566 : Cond.selects RX2 yX2_leastPlace yX2_leastPlace ∈ tT := tT_i (i := 566) (by decide +kernel) (by decide +kernel)
theorem tw_567 : Cond.code yX2_leastPlace cX2_leastPlace 3 (some .int) ∈ tT := tT_i (i := 567) (by decide +kernel) (by decide +kernel)
theorem tw_568 : Cond.methodLink RX4 128 yX2_takeAt ∈ tT := tT_i (i := 568) (by decide +kernel) (by decide +kernel)
theorem tw_569 : Cond.instanceMethod yX2_takeAt ∈ tT := tT_i (i := 569) (by decide +kernel) (by decide +kernel)
theorem tw_570 : Cond.selects RX2 yX2_takeAt yX2_takeAt ∈ tT := tT_i (i := 570) (by decide +kernel) (by decide +kernel)
theorem tw_571 : Cond.code yX2_takeAt cX2_takeAt 4 (some .int) ∈ tT := tT_i (i := 571) (by decide +kernel) (by decide +kernel)
theorem tw_572 : Cond.methodLink RX4 110 yX4_noteMerge ∈ tT := tT_i (i := 572) (by decide +kernel) (by decide +kernel)
theorem tw_574 : Cond.instanceMethod yX4_noteMerge ∈ tT := tT_i (i := 574) (by decide +kernel) (by decide +kernel)
theorem tw_575 : Cond.code yX4_noteMerge cX4_noteMerge 3 none ∈ tT := tT_i (i := 575) (by decide +kernel) (by decide +kernel)
theorem tw_576 : Cond.methodLink RX4 72 yX4_mergeByLevels ∈ tT := tT_i (i := 576) (by decide +kernel) (by decide +kernel)
theorem tw_578 : Cond.instanceMethod yX4_mergeByLevels ∈ tT := tT_i (i := 578) (by decide +kernel) (by decide +kernel)
theorem tw_579 : Cond.code yX4_mergeByLevels cX4_mergeByLevels 3 none ∈ tT := tT_i (i := 579) (by decide +kernel) (by decide +kernel)
theorem tw_580 : Cond.methodLink RX4 107 yX4_mergeLevel ∈ tT := tT_i (i := 580) (by decide +kernel) (by decide +kernel)
theorem tw_582 : Cond.instanceMethod yX4_mergeLevel ∈ tT := tT_i (i := 582) (by decide +kernel) (by decide +kernel)
theorem tw_583 : Cond.code yX4_mergeLevel cX4_mergeLevel 8 none ∈ tT := tT_i (i := 583) (by decide +kernel) (by decide +kernel)
theorem tw_584 : Cond.methodLink RX4 113 yX2_set ∈ tT := tT_i (i := 584) (by decide +kernel) (by decide +kernel)
theorem tw_585 : Cond.instanceMethod yX2_set ∈ tT := tT_i (i := 585) (by decide +kernel) (by decide +kernel)
theorem tw_586 : Cond.selects RX2 yX2_set yX2_set ∈ tT := tT_i (i := 586) (by decide +kernel) (by decide +kernel)
theorem tw_587 : Cond.code yX2_set cX2_set 3 none ∈ tT := tT_i (i := 587) (by decide +kernel) (by decide +kernel)
theorem tw_588 : Cond.methodLink RX4 116 yX2_cutTo ∈ tT := tT_i (i := 588) (by decide +kernel) (by decide +kernel)
theorem tw_589 : Cond.instanceMethod yX2_cutTo ∈ tT := tT_i (i := 589) (by decide +kernel) (by decide +kernel)
theorem tw_590 : Cond.selects RX2 yX2_cutTo yX2_cutTo ∈ tT := tT_i (i := 590) (by decide +kernel) (by decide +kernel)
theorem tw_591 : Cond.code yX2_cutTo cX2_cutTo 2 none ∈ tT := tT_i (i := 591) (by decide +kernel) (by decide +kernel)
theorem tw_592 : Cond.methodLink RX8 169 yX3_clear ∈ tT := tT_i (i := 592) (by decide +kernel) (by decide +kernel)
theorem tw_593 : Cond.instanceMethod yX3_clear ∈ tT := tT_i (i := 593) (by decide +kernel) (by decide +kernel)
theorem tw_594 : Cond.selects RX3 yX3_clear yX3_clear ∈ tT := tT_i (i := 594) (by decide +kernel) (by decide +kernel)
theorem tw_595 : Cond.code yX3_clear cX3_clear 1 none ∈ tT := tT_i (i := 595) (by decide +kernel) (by decide +kernel)
theorem tw_596 : Cond.methodLink RX3 31 yX5_empty ∈ tT := tT_i (i := 596) (by decide +kernel) (by decide +kernel)
theorem tw_597 : Cond.methodLink RX8 176 yX8_giveSorted ∈ tT := tT_i (i := 597) (by decide +kernel) (by decide +kernel)
theorem tw_599 : Cond.instanceMethod yX8_giveSorted ∈ tT := tT_i (i := 599) (by decide +kernel) (by decide +kernel)
theorem tw_600 : Cond.code yX8_giveSorted cX8_giveSorted 5 none ∈ tT := tT_i (i := 600) (by decide +kernel) (by decide +kernel)
theorem tw_601 : Cond.methodLink RX8 336 yX0_empty ∈ tT := tT_i (i := 601) (by decide +kernel) (by decide +kernel)
theorem tw_602 : Cond.methodLink RX8 337 yX8_weightOf ∈ tT := tT_i (i := 602) (by decide +kernel) (by decide +kernel)
theorem tw_603 : Cond.methodLink RX8 341 yX0_push ∈ tT := tT_i (i := 603) (by decide +kernel) (by decide +kernel)
theorem tw_604 : Cond.methodLink RX8 344 yX0_pull ∈ tT := tT_i (i := 604) (by decide +kernel) (by decide +kernel)
theorem tw_605 : Cond.methodLink RX8 347 yX3_give ∈ tT := tT_i (i := 605) (by decide +kernel) (by decide +kernel)
theorem tw_606 : Cond.instanceMethod yX3_give ∈ tT := tT_i (i := 606) (by decide +kernel) (by decide +kernel)
theorem tw_607 : Cond.selects RX3 yX3_give yX3_give ∈ tT := tT_i (i := 607) (by decide +kernel) (by decide +kernel)
theorem tw_608 : Cond.code yX3_give cX3_give 3 none ∈ tT := tT_i (i := 608) (by decide +kernel) (by decide +kernel)
theorem tw_609 : Cond.methodLink RX3 34 yX5_add ∈ tT := tT_i (i := 609) (by decide +kernel) (by decide +kernel)
theorem tw_610 : Cond.methodLink RX8 180 yX8_land ∈ tT := tT_i (i := 610) (by decide +kernel) (by decide +kernel)
theorem tw_612 : Cond.instanceMethod yX8_land ∈ tT := tT_i (i := 612) (by decide +kernel) (by decide +kernel)
theorem tw_613 : Cond.code yX8_land cX8_land 2 (some .int) ∈ tT := tT_i (i := 613) (by decide +kernel) (by decide +kernel)
theorem tw_614 : Cond.methodLink RX8 326 yX8_addFile ∈ tT := tT_i (i := 614) (by decide +kernel) (by decide +kernel)
theorem tw_615 : Cond.methodLink RX8 333 yX5_addAll ∈ tT := tT_i (i := 615) (by decide +kernel) (by decide +kernel)
theorem tw_616 : Cond.instanceMethod yX5_addAll ∈ tT := tT_i (i := 616) (by decide +kernel) (by decide +kernel)
theorem tw_617 : Cond.selects RX5 yX5_addAll yX5_addAll ∈ tT := tT_i (i := 617) (by decide +kernel) (by decide +kernel)
theorem tw_618 : Cond.code yX5_addAll cX5_addAll 3 none ∈ tT := tT_i (i := 618) (by decide +kernel) (by decide +kernel)
theorem tw_619 : Cond.methodLink RX5 22 yX5_add ∈ tT := tT_i (i := 619) (by decide +kernel) (by decide +kernel)
theorem tw_620 : Cond.methodLink RL 77 yX8_runs ∈ tT := tT_i (i := 620) (by decide +kernel) (by decide +kernel)
theorem tw_621 : Cond.instanceMethod yX8_runs ∈ tT := tT_i (i := 621) (by decide +kernel) (by decide +kernel)
theorem tw_622 : Cond.selects RX8 yX8_runs yX8_runs ∈ tT := tT_i (i := 622) (by decide +kernel) (by decide +kernel)
theorem tw_623 : Cond.code yX8_runs cX8_runs 1 (some .int) ∈ tT := tT_i (i := 623) (by decide +kernel) (by decide +kernel)
theorem tw_624 : Cond.methodLink RX8 187 yX2_count ∈ tT := tT_i (i := 624) (by decide +kernel) (by decide +kernel)
theorem tw_625 : Cond.methodLink RL 80 yX8_runSize ∈ tT := tT_i (i := 625) (by decide +kernel) (by decide +kernel)
theorem tw_626 : Cond.instanceMethod yX8_runSize ∈ tT := tT_i (i := 626) (by decide +kernel) (by decide +kernel)
theorem tw_627 : Cond.selects RX8 yX8_runSize yX8_runSize ∈ tT := tT_i (i := 627) (by decide +kernel) (by decide +kernel)
theorem tw_628 : Cond.code yX8_runSize cX8_runSize 2 (some .int) ∈ tT := tT_i (i := 628) (by decide +kernel) (by decide +kernel)
theorem tw_629 : Cond.methodLink RX8 190 yX2_has ∈ tT := tT_i (i := 629) (by decide +kernel) (by decide +kernel)
theorem tw_630 : Cond.instanceMethod yX2_has ∈ tT := tT_i (i := 630) (by decide +kernel) (by decide +kernel)
theorem tw_631 : Cond.selects RX2 yX2_has yX2_has ∈ tT := tT_i (i := 631) (by decide +kernel) (by decide +kernel)
theorem tw_632 : Cond.code yX2_has cX2_has 2 (some .boolean) ∈ tT := tT_i (i := 632) (by decide +kernel) (by decide +kernel)
theorem tw_634 : Cond.methodLink RX8 193 yX2_valueAt ∈ tT := tT_i (i := 634) (by decide +kernel) (by decide +kernel)
theorem tw_635 : Cond.methodLink RL 83 yX8_merges ∈ tT := tT_i (i := 635) (by decide +kernel) (by decide +kernel)
theorem tw_636 : Cond.instanceMethod yX8_merges ∈ tT := tT_i (i := 636) (by decide +kernel) (by decide +kernel)
theorem tw_637 : Cond.selects RX8 yX8_merges yX8_merges ∈ tT := tT_i (i := 637) (by decide +kernel) (by decide +kernel)
theorem tw_638 : Cond.code yX8_merges cX8_merges 1 (some .int) ∈ tT := tT_i (i := 638) (by decide +kernel) (by decide +kernel)
theorem tw_639 : Cond.methodLink RL 86 yX8_merge ∈ tT := tT_i (i := 639) (by decide +kernel) (by decide +kernel)
theorem tw_640 : Cond.instanceMethod yX8_merge ∈ tT := tT_i (i := 640) (by decide +kernel) (by decide +kernel)
theorem tw_641 : Cond.selects RX8 yX8_merge yX8_merge ∈ tT := tT_i (i := 641) (by decide +kernel) (by decide +kernel)
theorem tw_642 : Cond.code yX8_merge cX8_merge 3 (some .int) ∈ tT := tT_i (i := 642) (by decide +kernel) (by decide +kernel)
theorem tw_645 : Cond.methodLink RL 89 yX8_begin ∈ tT := tT_i (i := 645) (by decide +kernel) (by decide +kernel)
theorem tw_646 : Cond.instanceMethod yX8_begin ∈ tT := tT_i (i := 646) (by decide +kernel) (by decide +kernel)
theorem tw_647 : Cond.selects RX8 yX8_begin yX8_begin ∈ tT := tT_i (i := 647) (by decide +kernel) (by decide +kernel)
theorem tw_648 : Cond.code yX8_begin cX8_begin 4 (some .int) ∈ tT := tT_i (i := 648) (by decide +kernel) (by decide +kernel)
theorem tw_651 : Cond.methodLink RX8 210 yX8_needUp ∈ tT := tT_i (i := 651) (by decide +kernel) (by decide +kernel)
theorem tw_652 : Cond.static yX8_needUp ∈ tT := tT_i (i := 652) (by decide +kernel) (by decide +kernel)
theorem tw_653 : Cond.code yX8_needUp cX8_needUp 1 none ∈ tT := tT_i (i := 653) (by decide +kernel) (by decide +kernel)
theorem tw_655 : Cond.methodLink RX8 214 yX7_prepare ∈ tT := tT_i (i := 655) (by decide +kernel) (by decide +kernel)
theorem tw_656 : Cond.instanceMethod yX7_prepare ∈ tT := tT_i (i := 656) (by decide +kernel) (by decide +kernel)
theorem tw_657 : Cond.selects RX7 yX7_prepare yX7_prepare ∈ tT := tT_i (i := 657) (by decide +kernel) (by decide +kernel)
theorem tw_658 : Cond.code yX7_prepare cX7_prepare 3 none ∈ tT := tT_i (i := 658) (by decide +kernel) (by decide +kernel)
theorem tw_659 : Cond.methodLink RX8 217 yX7_seat ∈ tT := tT_i (i := 659) (by decide +kernel) (by decide +kernel)
theorem tw_660 : Cond.instanceMethod yX7_seat ∈ tT := tT_i (i := 660) (by decide +kernel) (by decide +kernel)
theorem tw_661 : Cond.selects RX7 yX7_seat yX7_seat ∈ tT := tT_i (i := 661) (by decide +kernel) (by decide +kernel)
theorem tw_662 : Cond.code yX7_seat cX7_seat 3 none ∈ tT := tT_i (i := 662) (by decide +kernel) (by decide +kernel)
theorem tw_663 : Cond.methodLink RX8 221 yX7_open ∈ tT := tT_i (i := 663) (by decide +kernel) (by decide +kernel)
theorem tw_664 : Cond.instanceMethod yX7_open ∈ tT := tT_i (i := 664) (by decide +kernel) (by decide +kernel)
theorem tw_665 : Cond.selects RX7 yX7_open yX7_open ∈ tT := tT_i (i := 665) (by decide +kernel) (by decide +kernel)
theorem tw_666 : Cond.code yX7_open cX7_open 2 none ∈ tT := tT_i (i := 666) (by decide +kernel) (by decide +kernel)
theorem tw_667 : Cond.methodLink RX7 47 yX7_playAt ∈ tT := tT_i (i := 667) (by decide +kernel) (by decide +kernel)
theorem tw_669 : Cond.instanceMethod yX7_playAt ∈ tT := tT_i (i := 669) (by decide +kernel) (by decide +kernel)
theorem tw_670 : Cond.code yX7_playAt cX7_playAt 5 (some .int) ∈ tT := tT_i (i := 670) (by decide +kernel) (by decide +kernel)
theorem tw_671 : Cond.methodLink RX7 65 yX7_isWinning ∈ tT := tT_i (i := 671) (by decide +kernel) (by decide +kernel)
theorem tw_673 : Cond.instanceMethod yX7_isWinning ∈ tT := tT_i (i := 673) (by decide +kernel) (by decide +kernel)
theorem tw_674 : Cond.code yX7_isWinning cX7_isWinning 3 (some .boolean) ∈ tT := tT_i (i := 674) (by decide +kernel) (by decide +kernel)
theorem tw_675 : Cond.methodLink RX7 55 yX7_isOver ∈ tT := tT_i (i := 675) (by decide +kernel) (by decide +kernel)
theorem tw_677 : Cond.instanceMethod yX7_isOver ∈ tT := tT_i (i := 677) (by decide +kernel) (by decide +kernel)
theorem tw_678 : Cond.code yX7_isOver cX7_isOver 2 (some .boolean) ∈ tT := tT_i (i := 678) (by decide +kernel) (by decide +kernel)
theorem tw_679 : Cond.methodLink RX7 69 yX5_count ∈ tT := tT_i (i := 679) (by decide +kernel) (by decide +kernel)
theorem tw_680 : Cond.methodLink RX7 58 yX7_keyOf ∈ tT := tT_i (i := 680) (by decide +kernel) (by decide +kernel)
theorem tw_682 : Cond.instanceMethod yX7_keyOf ∈ tT := tT_i (i := 682) (by decide +kernel) (by decide +kernel)
theorem tw_683 : Cond.code yX7_keyOf cX7_keyOf 2 (some .int) ∈ tT := tT_i (i := 683) (by decide +kernel) (by decide +kernel)
theorem tw_684 : Cond.methodLink RX7 73 yX5_keyAt ∈ tT := tT_i (i := 684) (by decide +kernel) (by decide +kernel)
theorem tw_685 : Cond.methodLink RX7 51 yX7_hasNode ∈ tT := tT_i (i := 685) (by decide +kernel) (by decide +kernel)
theorem tw_686 : Cond.instanceMethod yX7_hasNode ∈ tT := tT_i (i := 686) (by decide +kernel) (by decide +kernel)
theorem tw_687 : Cond.selects RX7 yX7_hasNode yX7_hasNode ∈ tT := tT_i (i := 687) (by decide +kernel) (by decide +kernel)
theorem tw_688 : Cond.code yX7_hasNode cX7_hasNode 2 (some .boolean) ∈ tT := tT_i (i := 688) (by decide +kernel) (by decide +kernel)
theorem tw_689 : Cond.methodLink RL 95 yX8_next ∈ tT := tT_i (i := 689) (by decide +kernel) (by decide +kernel)
theorem tw_690 : Cond.instanceMethod yX8_next ∈ tT := tT_i (i := 690) (by decide +kernel) (by decide +kernel)
theorem tw_691 : Cond.selects RX8 yX8_next yX8_next ∈ tT := tT_i (i := 691) (by decide +kernel) (by decide +kernel)
theorem tw_692 : Cond.code yX8_next cX8_next 1 (some .int) ∈ tT := tT_i (i := 692) (by decide +kernel) (by decide +kernel)
theorem tw_693 : Cond.methodLink RX8 227 yX8_needTournament ∈ tT := tT_i (i := 693) (by decide +kernel) (by decide +kernel)
theorem tw_695 : Cond.instanceMethod yX8_needTournament ∈ tT := tT_i (i := 695) (by decide +kernel) (by decide +kernel)
theorem tw_696 : Cond.code yX8_needTournament cX8_needTournament 1 none ∈ tT := tT_i (i := 696) (by decide +kernel) (by decide +kernel)
theorem tw_698 : Cond.methodLink RX8 230 yX7_give ∈ tT := tT_i (i := 698) (by decide +kernel) (by decide +kernel)
theorem tw_699 : Cond.instanceMethod yX7_give ∈ tT := tT_i (i := 699) (by decide +kernel) (by decide +kernel)
theorem tw_700 : Cond.selects RX7 yX7_give yX7_give ∈ tT := tT_i (i := 700) (by decide +kernel) (by decide +kernel)
theorem tw_701 : Cond.code yX7_give cX7_give 4 (some .int) ∈ tT := tT_i (i := 701) (by decide +kernel) (by decide +kernel)
theorem tw_702 : Cond.methodLink RX7 62 yX7_loserAt ∈ tT := tT_i (i := 702) (by decide +kernel) (by decide +kernel)
theorem tw_703 : Cond.instanceMethod yX7_loserAt ∈ tT := tT_i (i := 703) (by decide +kernel) (by decide +kernel)
theorem tw_704 : Cond.selects RX7 yX7_loserAt yX7_loserAt ∈ tT := tT_i (i := 704) (by decide +kernel) (by decide +kernel)
theorem tw_705 : Cond.code yX7_loserAt cX7_loserAt 2 (some .int) ∈ tT := tT_i (i := 705) (by decide +kernel) (by decide +kernel)
theorem tw_706 : Cond.methodLink RL 92 yX8_matches ∈ tT := tT_i (i := 706) (by decide +kernel) (by decide +kernel)
theorem tw_707 : Cond.instanceMethod yX8_matches ∈ tT := tT_i (i := 707) (by decide +kernel) (by decide +kernel)
theorem tw_708 : Cond.selects RX8 yX8_matches yX8_matches ∈ tT := tT_i (i := 708) (by decide +kernel) (by decide +kernel)
theorem tw_709 : Cond.code yX8_matches cX8_matches 1 (some .int) ∈ tT := tT_i (i := 709) (by decide +kernel) (by decide +kernel)
theorem tw_710 : Cond.methodLink RL 108 yX8_join ∈ tT := tT_i (i := 710) (by decide +kernel) (by decide +kernel)
theorem tw_711 : Cond.instanceMethod yX8_join ∈ tT := tT_i (i := 711) (by decide +kernel) (by decide +kernel)
theorem tw_712 : Cond.selects RX8 yX8_join yX8_join ∈ tT := tT_i (i := 712) (by decide +kernel) (by decide +kernel)
theorem tw_713 : Cond.code yX8_join cX8_join 6 (some .int) ∈ tT := tT_i (i := 713) (by decide +kernel) (by decide +kernel)
theorem tw_714 : Cond.methodLink RX8 251 yX8_needHow ∈ tT := tT_i (i := 714) (by decide +kernel) (by decide +kernel)
theorem tw_715 : Cond.static yX8_needHow ∈ tT := tT_i (i := 715) (by decide +kernel) (by decide +kernel)
theorem tw_716 : Cond.code yX8_needHow cX8_needHow 1 none ∈ tT := tT_i (i := 716) (by decide +kernel) (by decide +kernel)
theorem tw_718 : Cond.methodLink RX8 254 yX8_joinByMerging ∈ tT := tT_i (i := 718) (by decide +kernel) (by decide +kernel)
theorem tw_720 : Cond.instanceMethod yX8_joinByMerging ∈ tT := tT_i (i := 720) (by decide +kernel) (by decide +kernel)
theorem tw_721 : Cond.code yX8_joinByMerging cX8_joinByMerging 10 none ∈ tT := tT_i (i := 721) (by decide +kernel) (by decide +kernel)
theorem tw_722 : Cond.methodLink RX8 155 yX8_pagesFor ∈ tT := tT_i (i := 722) (by decide +kernel) (by decide +kernel)
theorem tw_723 : Cond.methodLink RX8 349 yX5_placeNotBelow ∈ tT := tT_i (i := 723) (by decide +kernel) (by decide +kernel)
theorem tw_724 : Cond.instanceMethod yX5_placeNotBelow ∈ tT := tT_i (i := 724) (by decide +kernel) (by decide +kernel)
theorem tw_725 : Cond.selects RX5 yX5_placeNotBelow yX5_placeNotBelow ∈ tT := tT_i (i := 725) (by decide +kernel) (by decide +kernel)
theorem tw_726 : Cond.code yX5_placeNotBelow cX5_placeNotBelow 4 (some .int) ∈ tT := tT_i (i := 726) (by decide +kernel) (by decide +kernel)
theorem tw_727 : Cond.methodLink RX5 26 yJ9_max_7cf53 ∈ tT := tT_i (i := 727) (by decide +kernel) (by decide +kernel)
theorem tw_728 : Cond.methodLink RX8 352 yX8_spill ∈ tT := tT_i (i := 728) (by decide +kernel) (by decide +kernel)
theorem tw_730 : Cond.instanceMethod yX8_spill ∈ tT := tT_i (i := 730) (by decide +kernel) (by decide +kernel)
theorem tw_731 : Cond.code yX8_spill cX8_spill 3 (some .int) ∈ tT := tT_i (i := 731) (by decide +kernel) (by decide +kernel)
theorem tw_732 : Cond.methodLink RX8 355 yX8_givePairs ∈ tT := tT_i (i := 732) (by decide +kernel) (by decide +kernel)
theorem tw_734 : Cond.instanceMethod yX8_givePairs ∈ tT := tT_i (i := 734) (by decide +kernel) (by decide +kernel)
theorem tw_735 : Cond.code yX8_givePairs cX8_givePairs 7 none ∈ tT := tT_i (i := 735) (by decide +kernel) (by decide +kernel)
theorem tw_736 : Cond.methodLink RX8 359 yX3_givePair ∈ tT := tT_i (i := 736) (by decide +kernel) (by decide +kernel)
theorem tw_737 : Cond.instanceMethod yX3_givePair ∈ tT := tT_i (i := 737) (by decide +kernel) (by decide +kernel)
theorem tw_738 : Cond.selects RX3 yX3_givePair yX3_givePair ∈ tT := tT_i (i := 738) (by decide +kernel) (by decide +kernel)
theorem tw_739 : Cond.code yX3_givePair cX3_givePair 5 none ∈ tT := tT_i (i := 739) (by decide +kernel) (by decide +kernel)
theorem tw_740 : Cond.methodLink RX3 38 yX5_keyAt ∈ tT := tT_i (i := 740) (by decide +kernel) (by decide +kernel)
theorem tw_741 : Cond.methodLink RX3 42 yX5_markAt ∈ tT := tT_i (i := 741) (by decide +kernel) (by decide +kernel)
theorem tw_742 : Cond.methodLink RX3 45 yX3_give ∈ tT := tT_i (i := 742) (by decide +kernel) (by decide +kernel)
theorem tw_743 : Cond.methodLink RX8 258 yX8_needFit ∈ tT := tT_i (i := 743) (by decide +kernel) (by decide +kernel)
theorem tw_745 : Cond.instanceMethod yX8_needFit ∈ tT := tT_i (i := 745) (by decide +kernel) (by decide +kernel)
theorem tw_746 : Cond.code yX8_needFit cX8_needFit 1 none ∈ tT := tT_i (i := 746) (by decide +kernel) (by decide +kernel)
theorem tw_748 : Cond.methodLink RL 105 yX8_split ∈ tT := tT_i (i := 748) (by decide +kernel) (by decide +kernel)
theorem tw_749 : Cond.instanceMethod yX8_split ∈ tT := tT_i (i := 749) (by decide +kernel) (by decide +kernel)
theorem tw_750 : Cond.selects RX8 yX8_split yX8_split ∈ tT := tT_i (i := 750) (by decide +kernel) (by decide +kernel)
theorem tw_751 : Cond.code yX8_split cX8_split 5 (some .int) ∈ tT := tT_i (i := 751) (by decide +kernel) (by decide +kernel)
theorem tw_752 : Cond.methodLink RX8 261 yX8_joinBySplitting ∈ tT := tT_i (i := 752) (by decide +kernel) (by decide +kernel)
theorem tw_754 : Cond.instanceMethod yX8_joinBySplitting ∈ tT := tT_i (i := 754) (by decide +kernel) (by decide +kernel)
theorem tw_755 : Cond.code yX8_joinBySplitting cX8_joinBySplitting 3 none ∈ tT := tT_i (i := 755) (by decide +kernel) (by decide +kernel)
theorem tw_756 : Cond.methodLink RX8 365 yX8_splitRows ∈ tT := tT_i (i := 756) (by decide +kernel) (by decide +kernel)
theorem tw_757 : Cond.static yX8_splitRows ∈ tT := tT_i (i := 757) (by decide +kernel) (by decide +kernel)
theorem tw_758 : Cond.code yX8_splitRows cX8_splitRows 9 none ∈ tT := tT_i (i := 758) (by decide +kernel) (by decide +kernel)
theorem tw_759 : Cond.methodLink RX8 369 yX8_pairByParts ∈ tT := tT_i (i := 759) (by decide +kernel) (by decide +kernel)
theorem tw_760 : Cond.static yX8_pairByParts ∈ tT := tT_i (i := 760) (by decide +kernel) (by decide +kernel)
theorem tw_761 : Cond.code yX8_pairByParts cX8_pairByParts 9 none ∈ tT := tT_i (i := 761) (by decide +kernel) (by decide +kernel)
theorem tw_762 : Cond.methodLink RX8 380 yJ9_max_7cf53 ∈ tT := tT_i (i := 762) (by decide +kernel) (by decide +kernel)
theorem tw_763 : Cond.methodLink RX8 383 yJ9_min_7cf53 ∈ tT := tT_i (i := 763) (by decide +kernel) (by decide +kernel)
theorem tw_764 : Cond.methodLink RX8 373 yX6_fillOne ∈ tT := tT_i (i := 764) (by decide +kernel) (by decide +kernel)
theorem tw_765 : Cond.instanceMethod yX6_fillOne ∈ tT := tT_i (i := 765) (by decide +kernel) (by decide +kernel)
theorem tw_766 : Cond.selects RX6 yX6_fillOne yX6_fillOne ∈ tT := tT_i (i := 766) (by decide +kernel) (by decide +kernel)
theorem tw_767 : Cond.code yX6_fillOne cX6_fillOne 5 (some (.object "MoraineSort$Row")) ∈ tT := tT_i (i := 767) (by decide +kernel) (by decide +kernel)
theorem tw_768 : Cond.methodLink RX6 32 yX6_fill ∈ tT := tT_i (i := 768) (by decide +kernel) (by decide +kernel)
theorem tw_770 : Cond.instanceMethod yX6_fill ∈ tT := tT_i (i := 770) (by decide +kernel) (by decide +kernel)
theorem tw_771 : Cond.code yX6_fill cX6_fill 9 none ∈ tT := tT_i (i := 771) (by decide +kernel) (by decide +kernel)
theorem tw_772 : Cond.methodLink RX6 36 yJ9_max_7cf53 ∈ tT := tT_i (i := 772) (by decide +kernel) (by decide +kernel)
theorem tw_773 : Cond.methodLink RX6 42 yX5_empty ∈ tT := tT_i (i := 773) (by decide +kernel) (by decide +kernel)
theorem tw_774 : Cond.methodLink RX6 45 yX5_count ∈ tT := tT_i (i := 774) (by decide +kernel) (by decide +kernel)
theorem tw_775 : Cond.methodLink RX6 49 yX5_keyAt ∈ tT := tT_i (i := 775) (by decide +kernel) (by decide +kernel)
theorem tw_776 : Cond.methodLink RX6 53 yJ9_abs_0f7a4 ∈ tT := tT_i (i := 776) (by decide +kernel) (by decide +kernel)
theorem tw_777 : Cond.static yJ9_abs_0f7a4 ∈ tT := tT_i (i := 777) (by decide +kernel) (by decide +kernel)
theorem tw_778 : Cond.code yJ9_abs_0f7a4 cJ9_abs_0f7a4 1 (some .int) ∈ tT := tT_i (i := 778) (by decide +kernel) (by decide +kernel)
theorem tw_779 : Cond.methodLink RX6 56 yX5_markAt ∈ tT := tT_i (i := 779) (by decide +kernel) (by decide +kernel)
theorem tw_780 : Cond.methodLink RX6 59 yX5_add ∈ tT := tT_i (i := 780) (by decide +kernel) (by decide +kernel)
theorem tw_781 : Cond.methodLink RX8 377 yX6_fillOther ∈ tT := tT_i (i := 781) (by decide +kernel) (by decide +kernel)
theorem tw_782 : Cond.instanceMethod yX6_fillOther ∈ tT := tT_i (i := 782) (by decide +kernel) (by decide +kernel)
theorem tw_783 : Cond.selects RX6 yX6_fillOther yX6_fillOther ∈ tT := tT_i (i := 783) (by decide +kernel) (by decide +kernel)
theorem tw_784 : Cond.code yX6_fillOther cX6_fillOther 5 (some (.object "MoraineSort$Row")) ∈ tT := tT_i (i := 784) (by decide +kernel) (by decide +kernel)
theorem tw_785 : Cond.methodLink RL 114 yX8_group ∈ tT := tT_i (i := 785) (by decide +kernel) (by decide +kernel)
theorem tw_786 : Cond.instanceMethod yX8_group ∈ tT := tT_i (i := 786) (by decide +kernel) (by decide +kernel)
theorem tw_787 : Cond.selects RX8 yX8_group yX8_group ∈ tT := tT_i (i := 787) (by decide +kernel) (by decide +kernel)
theorem tw_788 : Cond.code yX8_group cX8_group 4 (some .int) ∈ tT := tT_i (i := 788) (by decide +kernel) (by decide +kernel)
theorem tw_790 : Cond.methodLink RX8 274 yX8_giveGroups ∈ tT := tT_i (i := 790) (by decide +kernel) (by decide +kernel)
theorem tw_792 : Cond.instanceMethod yX8_giveGroups ∈ tT := tT_i (i := 792) (by decide +kernel) (by decide +kernel)
theorem tw_793 : Cond.code yX8_giveGroups cX8_giveGroups 7 none ∈ tT := tT_i (i := 793) (by decide +kernel) (by decide +kernel)
theorem tw_794 : Cond.methodLink RX8 386 yX8_startMark ∈ tT := tT_i (i := 794) (by decide +kernel) (by decide +kernel)
theorem tw_795 : Cond.static yX8_startMark ∈ tT := tT_i (i := 795) (by decide +kernel) (by decide +kernel)
theorem tw_796 : Cond.code yX8_startMark cX8_startMark 2 (some .int) ∈ tT := tT_i (i := 796) (by decide +kernel) (by decide +kernel)
theorem tw_797 : Cond.methodLink RX8 389 yX8_moreMark ∈ tT := tT_i (i := 797) (by decide +kernel) (by decide +kernel)
theorem tw_798 : Cond.static yX8_moreMark ∈ tT := tT_i (i := 798) (by decide +kernel) (by decide +kernel)
theorem tw_799 : Cond.code yX8_moreMark cX8_moreMark 3 (some .int) ∈ tT := tT_i (i := 799) (by decide +kernel) (by decide +kernel)
theorem tw_800 : Cond.methodLink RL 49 yX8_sortCost ∈ tT := tT_i (i := 800) (by decide +kernel) (by decide +kernel)
theorem tw_801 : Cond.instanceMethod yX8_sortCost ∈ tT := tT_i (i := 801) (by decide +kernel) (by decide +kernel)
theorem tw_802 : Cond.selects RX8 yX8_sortCost yX8_sortCost ∈ tT := tT_i (i := 802) (by decide +kernel) (by decide +kernel)
theorem tw_803 : Cond.code yX8_sortCost cX8_sortCost 6 (some .int) ∈ tT := tT_i (i := 803) (by decide +kernel) (by decide +kernel)
theorem tw_804 : Cond.methodLink RX8 280 yX8_costOf ∈ tT := tT_i (i := 804) (by decide +kernel) (by decide +kernel)
theorem tw_806 : Cond.instanceMethod yX8_costOf ∈ tT := tT_i (i := 806) (by decide +kernel) (by decide +kernel)
theorem tw_807 : Cond.code yX8_costOf cX8_costOf 5 (some .int) ∈ tT := tT_i (i := 807) (by decide +kernel) (by decide +kernel)
theorem tw_808 : Cond.methodLink RL 59 yX8_memoryFor ∈ tT := tT_i (i := 808) (by decide +kernel) (by decide +kernel)
theorem tw_809 : Cond.instanceMethod yX8_memoryFor ∈ tT := tT_i (i := 809) (by decide +kernel) (by decide +kernel)
theorem tw_810 : Cond.selects RX8 yX8_memoryFor yX8_memoryFor ∈ tT := tT_i (i := 810) (by decide +kernel) (by decide +kernel)
theorem tw_811 : Cond.code yX8_memoryFor cX8_memoryFor 6 (some .int) ∈ tT := tT_i (i := 811) (by decide +kernel) (by decide +kernel)
theorem tw_813 : Cond.methodLink RL 102 yX8_splitCost ∈ tT := tT_i (i := 813) (by decide +kernel) (by decide +kernel)
theorem tw_814 : Cond.instanceMethod yX8_splitCost ∈ tT := tT_i (i := 814) (by decide +kernel) (by decide +kernel)
theorem tw_815 : Cond.selects RX8 yX8_splitCost yX8_splitCost ∈ tT := tT_i (i := 815) (by decide +kernel) (by decide +kernel)
theorem tw_816 : Cond.code yX8_splitCost cX8_splitCost 5 (some .int) ∈ tT := tT_i (i := 816) (by decide +kernel) (by decide +kernel)
theorem tw_817 : Cond.methodLink RL 98 yX8_share ∈ tT := tT_i (i := 817) (by decide +kernel) (by decide +kernel)
theorem tw_818 : Cond.instanceMethod yX8_share ∈ tT := tT_i (i := 818) (by decide +kernel) (by decide +kernel)
theorem tw_819 : Cond.selects RX8 yX8_share yX8_share ∈ tT := tT_i (i := 819) (by decide +kernel) (by decide +kernel)
theorem tw_820 : Cond.code yX8_share cX8_share 7 (some .double) ∈ tT := tT_i (i := 820) (by decide +kernel) (by decide +kernel)
theorem tw_821 : Cond.methodLink RX8 289 yX1_has ∈ tT := tT_i (i := 821) (by decide +kernel) (by decide +kernel)
theorem tw_822 : Cond.instanceMethod yX1_has ∈ tT := tT_i (i := 822) (by decide +kernel) (by decide +kernel)
theorem tw_823 : Cond.selects RX1 yX1_has yX1_has ∈ tT := tT_i (i := 823) (by decide +kernel) (by decide +kernel)
theorem tw_824 : Cond.code yX1_has cX1_has 3 (some .boolean) ∈ tT := tT_i (i := 824) (by decide +kernel) (by decide +kernel)
theorem tw_825 : Cond.methodLink RL 45 yX8_digest ∈ tT := tT_i (i := 825) (by decide +kernel) (by decide +kernel)
theorem tw_826 : Cond.instanceMethod yX8_digest ∈ tT := tT_i (i := 826) (by decide +kernel) (by decide +kernel)
theorem tw_827 : Cond.selects RX8 yX8_digest yX8_digest ∈ tT := tT_i (i := 827) (by decide +kernel) (by decide +kernel)
theorem tw_828 : Cond.code yX8_digest cX8_digest 4 (some .long) ∈ tT := tT_i (i := 828) (by decide +kernel) (by decide +kernel)
theorem tw_829 : Cond.constantLong RX8 290 58067 ∈ tT := tT_i (i := 829) (by decide +kernel) (by decide +kernel)
theorem tw_830 : Cond.methodLink RX8 292 yX8_fold ∈ tT := tT_i (i := 830) (by decide +kernel) (by decide +kernel)
theorem tw_831 : Cond.static yX8_fold ∈ tT := tT_i (i := 831) (by decide +kernel) (by decide +kernel)
theorem tw_832 : Cond.code yX8_fold cX8_fold 4 (some .long) ∈ tT := tT_i (i := 832) (by decide +kernel) (by decide +kernel)
theorem tw_833 : Cond.constantLong RX8 307 31 ∈ tT := tT_i (i := 833) (by decide +kernel) (by decide +kernel)
theorem tw_834 : Cond.methodLink RX8 296 yX8_foldSort ∈ tT := tT_i (i := 834) (by decide +kernel) (by decide +kernel)
theorem tw_836 : Cond.instanceMethod yX8_foldSort ∈ tT := tT_i (i := 836) (by decide +kernel) (by decide +kernel)
theorem tw_837 : Cond.code yX8_foldSort cX8_foldSort 6 (some .long) ∈ tT := tT_i (i := 837) (by decide +kernel) (by decide +kernel)
theorem tw_838 : Cond.methodLink RX8 300 yX8_matches ∈ tT := tT_i (i := 838) (by decide +kernel) (by decide +kernel)
theorem tw_839 : Cond.methodLink RX8 303 yX8_foldFile ∈ tT := tT_i (i := 839) (by decide +kernel) (by decide +kernel)
theorem tw_841 : Cond.instanceMethod yX8_foldFile ∈ tT := tT_i (i := 841) (by decide +kernel) (by decide +kernel)
theorem tw_842 : Cond.code yX8_foldFile cX8_foldFile 7 (some .long) ∈ tT := tT_i (i := 842) (by decide +kernel) (by decide +kernel)
theorem tw_843 : Cond.methodLink RL 26 yL_below ∈ tT := tT_i (i := 843) (by decide +kernel) (by decide +kernel)
theorem tw_844 : Cond.static yL_below ∈ tT := tT_i (i := 844) (by decide +kernel) (by decide +kernel)
theorem tw_845 : Cond.code yL_below cL_below 2 (some .int) ∈ tT := tT_i (i := 845) (by decide +kernel) (by decide +kernel)
theorem tw_846 : Cond.constant RL 7 2147483647 ∈ tT := tT_i (i := 846) (by decide +kernel) (by decide +kernel)
theorem tw_847 : Cond.methodLink RL 20 yL_cell ∈ tT := tT_i (i := 847) (by decide +kernel) (by decide +kernel)
theorem tw_848 : Cond.static yL_cell ∈ tT := tT_i (i := 848) (by decide +kernel) (by decide +kernel)
theorem tw_849 : Cond.code yL_cell cL_cell 2 (some .int) ∈ tT := tT_i (i := 849) (by decide +kernel) (by decide +kernel)
theorem tw_850 : Cond.constant RL 8 790386105 ∈ tT := tT_i (i := 850) (by decide +kernel) (by decide +kernel)
theorem tw_851 : Cond.methodLink RL 73 yL_isSame ∈ tT := tT_i (i := 851) (by decide +kernel) (by decide +kernel)
theorem tw_852 : Cond.static yL_isSame ∈ tT := tT_i (i := 852) (by decide +kernel) (by decide +kernel)
theorem tw_853 : Cond.code yL_isSame cL_isSame 4 (some .boolean) ∈ tT := tT_i (i := 853) (by decide +kernel) (by decide +kernel)
theorem tw_24 : Cond.code objectInit ⟨#[0xb1]⟩ 1 none ∈ tT := tT_i (i := 24) (by decide +kernel) (by decide +kernel)
theorem tp_1 : Cond.selects RX8 yX8_needRoom yX8_needRoom ∈ tT := tT_p (i := 1) (by decide +kernel) (by decide +kernel)
theorem tp_2 : Cond.selects RX8 yX8_rowOf yX8_rowOf ∈ tT := tT_p (i := 2) (by decide +kernel) (by decide +kernel)
theorem tp_3 : Cond.selects RX8 yX8_keysIn yX8_keysIn ∈ tT := tT_p (i := 3) (by decide +kernel) (by decide +kernel)
theorem tp_4 : Cond.selects RX4 yX4_runByReplacing yX4_runByReplacing ∈ tT := tT_p (i := 4) (by decide +kernel) (by decide +kernel)
theorem tp_5 : Cond.selects RX0 yX0_sinkFromTop yX0_sinkFromTop ∈ tT := tT_p (i := 5) (by decide +kernel) (by decide +kernel)
theorem tp_6 : Cond.selects RX4 yX4_runByLoading yX4_runByLoading ∈ tT := tT_p (i := 6) (by decide +kernel) (by decide +kernel)
theorem tp_7 : Cond.selects RX4 yX4_countRuns yX4_countRuns ∈ tT := tT_p (i := 7) (by decide +kernel) (by decide +kernel)
theorem tp_8 : Cond.selects RX4 yX4_mergeByLeast yX4_mergeByLeast ∈ tT := tT_p (i := 8) (by decide +kernel) (by decide +kernel)
theorem tp_9 : Cond.selects RX4 yX4_mergeLeast yX4_mergeLeast ∈ tT := tT_p (i := 9) (by decide +kernel) (by decide +kernel)
theorem tp_10 : Cond.selects RX4 yX4_noteMerge yX4_noteMerge ∈ tT := tT_p (i := 10) (by decide +kernel) (by decide +kernel)
theorem tp_11 : Cond.selects RX4 yX4_mergeByLevels yX4_mergeByLevels ∈ tT := tT_p (i := 11) (by decide +kernel) (by decide +kernel)
theorem tp_12 : Cond.selects RX4 yX4_mergeLevel yX4_mergeLevel ∈ tT := tT_p (i := 12) (by decide +kernel) (by decide +kernel)
theorem tp_13 : Cond.selects RX8 yX8_giveSorted yX8_giveSorted ∈ tT := tT_p (i := 13) (by decide +kernel) (by decide +kernel)
theorem tp_14 : Cond.selects RX8 yX8_land yX8_land ∈ tT := tT_p (i := 14) (by decide +kernel) (by decide +kernel)
theorem tp_15 : Cond.selects RX7 yX7_playAt yX7_playAt ∈ tT := tT_p (i := 15) (by decide +kernel) (by decide +kernel)
theorem tp_16 : Cond.selects RX7 yX7_isWinning yX7_isWinning ∈ tT := tT_p (i := 16) (by decide +kernel) (by decide +kernel)
theorem tp_17 : Cond.selects RX7 yX7_isOver yX7_isOver ∈ tT := tT_p (i := 17) (by decide +kernel) (by decide +kernel)
theorem tp_18 : Cond.selects RX7 yX7_keyOf yX7_keyOf ∈ tT := tT_p (i := 18) (by decide +kernel) (by decide +kernel)
theorem tp_19 : Cond.selects RX8 yX8_needTournament yX8_needTournament ∈ tT := tT_p (i := 19) (by decide +kernel) (by decide +kernel)
theorem tp_20 : Cond.selects RX8 yX8_joinByMerging yX8_joinByMerging ∈ tT := tT_p (i := 20) (by decide +kernel) (by decide +kernel)
theorem tp_21 : Cond.selects RX8 yX8_spill yX8_spill ∈ tT := tT_p (i := 21) (by decide +kernel) (by decide +kernel)
theorem tp_22 : Cond.selects RX8 yX8_givePairs yX8_givePairs ∈ tT := tT_p (i := 22) (by decide +kernel) (by decide +kernel)
theorem tp_23 : Cond.selects RX8 yX8_needFit yX8_needFit ∈ tT := tT_p (i := 23) (by decide +kernel) (by decide +kernel)
theorem tp_24 : Cond.selects RX8 yX8_joinBySplitting yX8_joinBySplitting ∈ tT := tT_p (i := 24) (by decide +kernel) (by decide +kernel)
theorem tp_25 : Cond.selects RX6 yX6_fill yX6_fill ∈ tT := tT_p (i := 25) (by decide +kernel) (by decide +kernel)
theorem tp_26 : Cond.selects RX8 yX8_giveGroups yX8_giveGroups ∈ tT := tT_p (i := 26) (by decide +kernel) (by decide +kernel)
theorem tp_27 : Cond.selects RX8 yX8_costOf yX8_costOf ∈ tT := tT_p (i := 27) (by decide +kernel) (by decide +kernel)
theorem tp_28 : Cond.selects RX8 yX8_foldSort yX8_foldSort ∈ tT := tT_p (i := 28) (by decide +kernel) (by decide +kernel)
theorem tp_29 : Cond.selects RX8 yX8_foldFile yX8_foldFile ∈ tT := tT_p (i := 29) (by decide +kernel) (by decide +kernel)
-- a method's own facts: virtual, static
abbrev mV (C : String) (y : MethodName) (cc : ByteArray) (n : Nat) (ret : Option FieldType) : Prop := Cond.code y cc n ret ∈ tT ∧ Cond.instanceMethod y ∈ tT ∧ Cond.selects C y y ∈ tT ∧ Cond.initialized C ∈ tT
abbrev mS (C : String) (y : MethodName) (cc : ByteArray) (n : Nat) (ret : Option FieldType) : Prop := Cond.code y cc n ret ∈ tT ∧ Cond.static y ∈ tT ∧ Cond.initialized C ∈ tT
theorem mfX8_setMemory : mV RX8 yX8_setMemory cX8_setMemory 4 (some .int) := ⟨tw_260, tw_258, tw_259, tw_1⟩
theorem mfX8_needMemory : mS RX8 yX8_needMemory cX8_needMemory 1 none := ⟨tw_331, tw_330, tw_1⟩
theorem mfX8_addFile : mV RX8 yX8_addFile cX8_addFile 2 (some .int) := ⟨tw_336, tw_334, tw_335, tw_1⟩
theorem mfX8_needRoom : mV RX8 yX8_needRoom cX8_needRoom 1 none := ⟨tw_340, tw_339, tp_1, tw_1⟩
theorem mfX5_empty : mV RX5 yX5_empty cX5_empty 1 none := ⟨tw_360, tw_358, tw_359, tw_7⟩
theorem mfX8_put : mV RX8 yX8_put cX8_put 5 (some .int) := ⟨tw_364, tw_362, tw_363, tw_1⟩
theorem mfX8_rowOf : mV RX8 yX8_rowOf cX8_rowOf 2 (some (.object "MoraineSort$Row")) := ⟨tw_368, tw_367, tp_2, tw_1⟩
theorem mfX8_needSpace : mS RX8 yX8_needSpace cX8_needSpace 2 none := ⟨tw_389, tw_388, tw_1⟩
theorem mfX5_count : mV RX5 yX5_count cX5_count 1 (some .int) := ⟨tw_393, tw_391, tw_392, tw_7⟩
theorem mfX7_forget : mV RX7 yX7_forget cX7_forget 2 none := ⟨tw_398, tw_396, tw_397, tw_5⟩
theorem mfX5_add : mV RX5 yX5_add cX5_add 3 none := ⟨tw_402, tw_400, tw_401, tw_7⟩
theorem mfX8_putRow : mV RX8 yX8_putRow cX8_putRow 8 (some .int) := ⟨tw_406, tw_404, tw_405, tw_1⟩
theorem mfJ9_floorMod_7cf53 : mS RJ9 yJ9_floorMod_7cf53 cJ9_floorMod_7cf53 3 (some .int) := ⟨tw_413, tw_412, tw_16⟩
theorem mfX8_size : mV RX8 yX8_size cX8_size 2 (some .int) := ⟨tw_417, tw_415, tw_416, tw_1⟩
theorem mfX8_at : mV RX8 yX8_at cX8_at 5 (some .int) := ⟨tw_421, tw_419, tw_420, tw_1⟩
theorem mfX5_has : mV RX5 yX5_has cX5_has 2 (some .boolean) := ⟨tw_425, tw_423, tw_424, tw_7⟩
theorem mfX5_markAt : mV RX5 yX5_markAt cX5_markAt 2 (some .int) := ⟨tw_430, tw_428, tw_429, tw_7⟩
theorem mfX5_keyAt : mV RX5 yX5_keyAt cX5_keyAt 2 (some .int) := ⟨tw_434, tw_432, tw_433, tw_7⟩
theorem mfX8_order : mV RX8 yX8_order cX8_order 2 (some .int) := ⟨tw_438, tw_436, tw_437, tw_1⟩
theorem mfX8_orderOf : mS RX8 yX8_orderOf cX8_orderOf 1 (some .int) := ⟨tw_441, tw_440, tw_1⟩
theorem mfX5_isUp : mV RX5 yX5_isUp cX5_isUp 2 (some .boolean) := ⟨tw_445, tw_443, tw_444, tw_7⟩
theorem mfX5_isDown : mV RX5 yX5_isDown cX5_isDown 2 (some .boolean) := ⟨tw_449, tw_447, tw_448, tw_7⟩
theorem mfX8_distinct : mV RX8 yX8_distinct cX8_distinct 2 (some .int) := ⟨tw_453, tw_451, tw_452, tw_1⟩
theorem mfX8_keysIn : mV RX8 yX8_keysIn cX8_keysIn 4 (some .int) := ⟨tw_457, tw_456, tp_3, tw_1⟩
theorem mfX1_clear : mV RX1 yX1_clear cX1_clear 2 none := ⟨tw_461, tw_459, tw_460, tw_9⟩
theorem mfX1_add : mV RX1 yX1_add cX1_add 3 (some .boolean) := ⟨tw_465, tw_463, tw_464, tw_9⟩
theorem mfX1_wordOf : mS RX1 yX1_wordOf cX1_wordOf 1 (some .int) := ⟨tw_468, tw_467, tw_9⟩
theorem mfX1_bitOf : mS RX1 yX1_bitOf cX1_bitOf 1 (some .long) := ⟨tw_471, tw_470, tw_9⟩
theorem mfX8_inversions : mV RX8 yX8_inversions cX8_inversions 6 (some .int) := ⟨tw_475, tw_473, tw_474, tw_1⟩
theorem mfX8_read : mV RX8 yX8_read cX8_read 1 (some .int) := ⟨tw_479, tw_477, tw_478, tw_1⟩
theorem mfX8_written : mV RX8 yX8_written cX8_written 1 (some .int) := ⟨tw_483, tw_481, tw_482, tw_1⟩
theorem mfX8_sort : mV RX8 yX8_sort cX8_sort 6 (some .int) := ⟨tw_487, tw_485, tw_486, tw_1⟩
theorem mfX4_make : mV RX4 yX4_make cX4_make 7 none := ⟨tw_491, tw_489, tw_490, tw_2⟩
theorem mfX2_empty : mV RX2 yX2_empty cX2_empty 1 none := ⟨tw_495, tw_493, tw_494, tw_3⟩
theorem mfX4_runByReplacing : mV RX4 yX4_runByReplacing cX4_runByReplacing 12 none := ⟨tw_499, tw_498, tp_4, tw_2⟩
theorem mfX0_empty : mV RX0 yX0_empty cX0_empty 1 none := ⟨tw_503, tw_501, tw_502, tw_4⟩
theorem mfJ9_min_7cf53 : mS RJ9 yJ9_min_7cf53 cJ9_min_7cf53 2 (some .int) := ⟨tw_507, tw_506, tw_16⟩
theorem mfX8_weightOf : mS RX8 yX8_weightOf cX8_weightOf 4 (some .int) := ⟨tw_510, tw_509, tw_1⟩
theorem mfX0_push : mV RX0 yX0_push cX0_push 3 none := ⟨tw_514, tw_512, tw_513, tw_4⟩
theorem mfX0_pull : mV RX0 yX0_pull cX0_pull 2 (some .int) := ⟨tw_518, tw_516, tw_517, tw_4⟩
theorem mfX0_sinkFromTop : mV RX0 yX0_sinkFromTop cX0_sinkFromTop 5 none := ⟨tw_522, tw_521, tp_5, tw_4⟩
theorem mfX2_add : mV RX2 yX2_add cX2_add 2 none := ⟨tw_527, tw_525, tw_526, tw_3⟩
theorem mfX4_runByLoading : mV RX4 yX4_runByLoading cX4_runByLoading 5 none := ⟨tw_531, tw_530, tp_6, tw_2⟩
theorem mfJ9_max_7cf53 : mS RJ9 yJ9_max_7cf53 cJ9_max_7cf53 2 (some .int) := ⟨tw_534, tw_533, tw_16⟩
theorem mfX4_countRuns : mV RX4 yX4_countRuns cX4_countRuns 3 none := ⟨tw_538, tw_537, tp_7, tw_2⟩
theorem mfX8_pagesFor : mS RX8 yX8_pagesFor cX8_pagesFor 2 (some .int) := ⟨tw_541, tw_540, tw_1⟩
theorem mfX2_count : mV RX2 yX2_count cX2_count 1 (some .int) := ⟨tw_545, tw_543, tw_544, tw_3⟩
theorem mfX2_valueAt : mV RX2 yX2_valueAt cX2_valueAt 2 (some .int) := ⟨tw_549, tw_547, tw_548, tw_3⟩
theorem mfX2_addAll : mV RX2 yX2_addAll cX2_addAll 3 none := ⟨tw_553, tw_551, tw_552, tw_3⟩
theorem mfX4_mergeByLeast : mV RX4 yX4_mergeByLeast cX4_mergeByLeast 4 none := ⟨tw_558, tw_557, tp_8, tw_2⟩
theorem mfX4_mergeLeast : mV RX4 yX4_mergeLeast cX4_mergeLeast 5 none := ⟨tw_563, tw_562, tp_9, tw_2⟩
theorem mfX2_leastPlace : mV RX2 yX2_leastPlace cX2_leastPlace 3 (some .int) := ⟨tw_567, tw_565, tw_566, tw_3⟩
theorem mfX2_takeAt : mV RX2 yX2_takeAt cX2_takeAt 4 (some .int) := ⟨tw_571, tw_569, tw_570, tw_3⟩
theorem mfX4_noteMerge : mV RX4 yX4_noteMerge cX4_noteMerge 3 none := ⟨tw_575, tw_574, tp_10, tw_2⟩
theorem mfX4_mergeByLevels : mV RX4 yX4_mergeByLevels cX4_mergeByLevels 3 none := ⟨tw_579, tw_578, tp_11, tw_2⟩
theorem mfX4_mergeLevel : mV RX4 yX4_mergeLevel cX4_mergeLevel 8 none := ⟨tw_583, tw_582, tp_12, tw_2⟩
theorem mfX2_set : mV RX2 yX2_set cX2_set 3 none := ⟨tw_587, tw_585, tw_586, tw_3⟩
theorem mfX2_cutTo : mV RX2 yX2_cutTo cX2_cutTo 2 none := ⟨tw_591, tw_589, tw_590, tw_3⟩
theorem mfX3_clear : mV RX3 yX3_clear cX3_clear 1 none := ⟨tw_595, tw_593, tw_594, tw_6⟩
theorem mfX8_giveSorted : mV RX8 yX8_giveSorted cX8_giveSorted 5 none := ⟨tw_600, tw_599, tp_13, tw_1⟩
theorem mfX3_give : mV RX3 yX3_give cX3_give 3 none := ⟨tw_608, tw_606, tw_607, tw_6⟩
theorem mfX8_land : mV RX8 yX8_land cX8_land 2 (some .int) := ⟨tw_613, tw_612, tp_14, tw_1⟩
theorem mfX5_addAll : mV RX5 yX5_addAll cX5_addAll 3 none := ⟨tw_618, tw_616, tw_617, tw_7⟩
theorem mfX8_runs : mV RX8 yX8_runs cX8_runs 1 (some .int) := ⟨tw_623, tw_621, tw_622, tw_1⟩
theorem mfX8_runSize : mV RX8 yX8_runSize cX8_runSize 2 (some .int) := ⟨tw_628, tw_626, tw_627, tw_1⟩
theorem mfX2_has : mV RX2 yX2_has cX2_has 2 (some .boolean) := ⟨tw_632, tw_630, tw_631, tw_3⟩
theorem mfX8_merges : mV RX8 yX8_merges cX8_merges 1 (some .int) := ⟨tw_638, tw_636, tw_637, tw_1⟩
theorem mfX8_merge : mV RX8 yX8_merge cX8_merge 3 (some .int) := ⟨tw_642, tw_640, tw_641, tw_1⟩
theorem mfX8_begin : mV RX8 yX8_begin cX8_begin 4 (some .int) := ⟨tw_648, tw_646, tw_647, tw_1⟩
theorem mfX8_needUp : mS RX8 yX8_needUp cX8_needUp 1 none := ⟨tw_653, tw_652, tw_1⟩
theorem mfX7_prepare : mV RX7 yX7_prepare cX7_prepare 3 none := ⟨tw_658, tw_656, tw_657, tw_5⟩
theorem mfX7_seat : mV RX7 yX7_seat cX7_seat 3 none := ⟨tw_662, tw_660, tw_661, tw_5⟩
theorem mfX7_open : mV RX7 yX7_open cX7_open 2 none := ⟨tw_666, tw_664, tw_665, tw_5⟩
theorem mfX7_playAt : mV RX7 yX7_playAt cX7_playAt 5 (some .int) := ⟨tw_670, tw_669, tp_15, tw_5⟩
theorem mfX7_isWinning : mV RX7 yX7_isWinning cX7_isWinning 3 (some .boolean) := ⟨tw_674, tw_673, tp_16, tw_5⟩
theorem mfX7_isOver : mV RX7 yX7_isOver cX7_isOver 2 (some .boolean) := ⟨tw_678, tw_677, tp_17, tw_5⟩
theorem mfX7_keyOf : mV RX7 yX7_keyOf cX7_keyOf 2 (some .int) := ⟨tw_683, tw_682, tp_18, tw_5⟩
theorem mfX7_hasNode : mV RX7 yX7_hasNode cX7_hasNode 2 (some .boolean) := ⟨tw_688, tw_686, tw_687, tw_5⟩
theorem mfX8_next : mV RX8 yX8_next cX8_next 1 (some .int) := ⟨tw_692, tw_690, tw_691, tw_1⟩
theorem mfX8_needTournament : mV RX8 yX8_needTournament cX8_needTournament 1 none := ⟨tw_696, tw_695, tp_19, tw_1⟩
theorem mfX7_give : mV RX7 yX7_give cX7_give 4 (some .int) := ⟨tw_701, tw_699, tw_700, tw_5⟩
theorem mfX7_loserAt : mV RX7 yX7_loserAt cX7_loserAt 2 (some .int) := ⟨tw_705, tw_703, tw_704, tw_5⟩
theorem mfX8_matches : mV RX8 yX8_matches cX8_matches 1 (some .int) := ⟨tw_709, tw_707, tw_708, tw_1⟩
theorem mfX8_join : mV RX8 yX8_join cX8_join 6 (some .int) := ⟨tw_713, tw_711, tw_712, tw_1⟩
theorem mfX8_needHow : mS RX8 yX8_needHow cX8_needHow 1 none := ⟨tw_716, tw_715, tw_1⟩
theorem mfX8_joinByMerging : mV RX8 yX8_joinByMerging cX8_joinByMerging 10 none := ⟨tw_721, tw_720, tp_20, tw_1⟩
theorem mfX5_placeNotBelow : mV RX5 yX5_placeNotBelow cX5_placeNotBelow 4 (some .int) := ⟨tw_726, tw_724, tw_725, tw_7⟩
theorem mfX8_spill : mV RX8 yX8_spill cX8_spill 3 (some .int) := ⟨tw_731, tw_730, tp_21, tw_1⟩
theorem mfX8_givePairs : mV RX8 yX8_givePairs cX8_givePairs 7 none := ⟨tw_735, tw_734, tp_22, tw_1⟩
theorem mfX3_givePair : mV RX3 yX3_givePair cX3_givePair 5 none := ⟨tw_739, tw_737, tw_738, tw_6⟩
theorem mfX8_needFit : mV RX8 yX8_needFit cX8_needFit 1 none := ⟨tw_746, tw_745, tp_23, tw_1⟩
theorem mfX8_split : mV RX8 yX8_split cX8_split 5 (some .int) := ⟨tw_751, tw_749, tw_750, tw_1⟩
theorem mfX8_joinBySplitting : mV RX8 yX8_joinBySplitting cX8_joinBySplitting 3 none := ⟨tw_755, tw_754, tp_24, tw_1⟩
theorem mfX8_splitRows : mS RX8 yX8_splitRows cX8_splitRows 9 none := ⟨tw_758, tw_757, tw_1⟩
theorem mfX8_pairByParts : mS RX8 yX8_pairByParts cX8_pairByParts 9 none := ⟨tw_761, tw_760, tw_1⟩
theorem mfX6_fillOne : mV RX6 yX6_fillOne cX6_fillOne 5 (some (.object "MoraineSort$Row")) := ⟨tw_767, tw_765, tw_766, tw_8⟩
theorem mfX6_fill : mV RX6 yX6_fill cX6_fill 9 none := ⟨tw_771, tw_770, tp_25, tw_8⟩
theorem mfJ9_abs_0f7a4 : mS RJ9 yJ9_abs_0f7a4 cJ9_abs_0f7a4 1 (some .int) := ⟨tw_778, tw_777, tw_16⟩
theorem mfX6_fillOther : mV RX6 yX6_fillOther cX6_fillOther 5 (some (.object "MoraineSort$Row")) := ⟨tw_784, tw_782, tw_783, tw_8⟩
theorem mfX8_group : mV RX8 yX8_group cX8_group 4 (some .int) := ⟨tw_788, tw_786, tw_787, tw_1⟩
theorem mfX8_giveGroups : mV RX8 yX8_giveGroups cX8_giveGroups 7 none := ⟨tw_793, tw_792, tp_26, tw_1⟩
theorem mfX8_startMark : mS RX8 yX8_startMark cX8_startMark 2 (some .int) := ⟨tw_796, tw_795, tw_1⟩
theorem mfX8_moreMark : mS RX8 yX8_moreMark cX8_moreMark 3 (some .int) := ⟨tw_799, tw_798, tw_1⟩
theorem mfX8_sortCost : mV RX8 yX8_sortCost cX8_sortCost 6 (some .int) := ⟨tw_803, tw_801, tw_802, tw_1⟩
theorem mfX8_costOf : mV RX8 yX8_costOf cX8_costOf 5 (some .int) := ⟨tw_807, tw_806, tp_27, tw_1⟩
theorem mfX8_memoryFor : mV RX8 yX8_memoryFor cX8_memoryFor 6 (some .int) := ⟨tw_811, tw_809, tw_810, tw_1⟩
theorem mfX8_splitCost : mV RX8 yX8_splitCost cX8_splitCost 5 (some .int) := ⟨tw_816, tw_814, tw_815, tw_1⟩
theorem mfX8_share : mV RX8 yX8_share cX8_share 7 (some .double) := ⟨tw_820, tw_818, tw_819, tw_1⟩
theorem mfX1_has : mV RX1 yX1_has cX1_has 3 (some .boolean) := ⟨tw_824, tw_822, tw_823, tw_9⟩
theorem mfX8_digest : mV RX8 yX8_digest cX8_digest 4 (some .long) := ⟨tw_828, tw_826, tw_827, tw_1⟩
theorem mfX8_fold : mS RX8 yX8_fold cX8_fold 4 (some .long) := ⟨tw_832, tw_831, tw_1⟩
theorem mfX8_foldSort : mV RX8 yX8_foldSort cX8_foldSort 6 (some .long) := ⟨tw_837, tw_836, tp_28, tw_1⟩
theorem mfX8_foldFile : mV RX8 yX8_foldFile cX8_foldFile 7 (some .long) := ⟨tw_842, tw_841, tp_29, tw_1⟩
theorem mfL_below : mS RL yL_below cL_below 2 (some .int) := ⟨tw_845, tw_844, tw_0⟩
theorem mfL_cell : mS RL yL_cell cL_cell 2 (some .int) := ⟨tw_849, tw_848, tw_0⟩
theorem mfL_isSame : mS RL yL_isSame cL_isSame 4 (some .boolean) := ⟨tw_853, tw_852, tw_0⟩
-- the fields of each class
theorem uw_X0 : ∀ w ∈ u_ws RX0 TX0 2, w ∈ tT := List.forall_mem_cons.mpr ⟨tw_55, List.forall_mem_cons.mpr ⟨tw_57, fun _ h => absurd h List.not_mem_nil⟩⟩
theorem uw_X1 : ∀ w ∈ u_ws RX1 TX1 1, w ∈ tT := List.forall_mem_cons.mpr ⟨tw_209, fun _ h => absurd h List.not_mem_nil⟩
theorem uw_X2 : ∀ w ∈ u_ws RX2 TX2 2, w ∈ tT := List.forall_mem_cons.mpr ⟨tw_41, List.forall_mem_cons.mpr ⟨tw_43, fun _ h => absurd h List.not_mem_nil⟩⟩
theorem uw_X3 : ∀ w ∈ u_ws RX3 TX3 5, w ∈ tT := List.forall_mem_cons.mpr ⟨tw_165, List.forall_mem_cons.mpr ⟨tw_167, List.forall_mem_cons.mpr ⟨tw_169, List.forall_mem_cons.mpr ⟨tw_171, List.forall_mem_cons.mpr ⟨tw_173, fun _ h => absurd h List.not_mem_nil⟩⟩⟩⟩⟩
theorem uw_X4 : ∀ w ∈ u_ws RX4 TX4 8, w ∈ tT := List.forall_mem_cons.mpr ⟨tw_73, List.forall_mem_cons.mpr ⟨tw_75, List.forall_mem_cons.mpr ⟨tw_77, List.forall_mem_cons.mpr ⟨tw_79, List.forall_mem_cons.mpr ⟨tw_81, List.forall_mem_cons.mpr ⟨tw_83, List.forall_mem_cons.mpr ⟨tw_85, List.forall_mem_cons.mpr ⟨tw_87, fun _ h => absurd h List.not_mem_nil⟩⟩⟩⟩⟩⟩⟩⟩
theorem uw_X5 : ∀ w ∈ u_ws RX5 TX5 3, w ∈ tT := List.forall_mem_cons.mpr ⟨tw_148, List.forall_mem_cons.mpr ⟨tw_150, List.forall_mem_cons.mpr ⟨tw_152, fun _ h => absurd h List.not_mem_nil⟩⟩⟩
theorem uw_X6 : ∀ w ∈ u_ws RX6 TX6 5, w ∈ tT := List.forall_mem_cons.mpr ⟨tw_191, List.forall_mem_cons.mpr ⟨tw_193, List.forall_mem_cons.mpr ⟨tw_195, List.forall_mem_cons.mpr ⟨tw_197, List.forall_mem_cons.mpr ⟨tw_199, fun _ h => absurd h List.not_mem_nil⟩⟩⟩⟩⟩
theorem uw_X7 : ∀ w ∈ u_ws RX7 TX7 10, w ∈ tT := List.forall_mem_cons.mpr ⟨tw_112, List.forall_mem_cons.mpr ⟨tw_114, List.forall_mem_cons.mpr ⟨tw_116, List.forall_mem_cons.mpr ⟨tw_118, List.forall_mem_cons.mpr ⟨tw_120, List.forall_mem_cons.mpr ⟨tw_122, List.forall_mem_cons.mpr ⟨tw_124, List.forall_mem_cons.mpr ⟨tw_126, List.forall_mem_cons.mpr ⟨tw_128, List.forall_mem_cons.mpr ⟨tw_130, fun _ h => absurd h List.not_mem_nil⟩⟩⟩⟩⟩⟩⟩⟩⟩⟩
theorem uw_X8 : ∀ w ∈ u_ws RX8 TX8 14, w ∈ tT := List.forall_mem_cons.mpr ⟨tw_228, List.forall_mem_cons.mpr ⟨tw_230, List.forall_mem_cons.mpr ⟨tw_232, List.forall_mem_cons.mpr ⟨tw_234, List.forall_mem_cons.mpr ⟨tw_236, List.forall_mem_cons.mpr ⟨tw_238, List.forall_mem_cons.mpr ⟨tw_240, List.forall_mem_cons.mpr ⟨tw_242, List.forall_mem_cons.mpr ⟨tw_244, List.forall_mem_cons.mpr ⟨tw_246, List.forall_mem_cons.mpr ⟨tw_248, List.forall_mem_cons.mpr ⟨tw_250, List.forall_mem_cons.mpr ⟨tw_252, List.forall_mem_cons.mpr ⟨tw_254, fun _ h => absurd h List.not_mem_nil⟩⟩⟩⟩⟩⟩⟩⟩⟩⟩⟩⟩⟩⟩
end
section
-- decode rows, part 0
theorem dX0_init_0 : decode cX0_init 0 = .ok (.aload_n 0, 1) := by decide +kernel
theorem dX0_init_1 : decode cX0_init 1 = .ok (.invokespecial 3, 3) := by decide +kernel
theorem dX0_init_4 : decode cX0_init 4 = .ok (.aload_n 0, 1) := by decide +kernel
theorem dX0_init_5 : decode cX0_init 5 = .ok (.bipush 120, 2) := by decide +kernel
theorem dX0_init_7 : decode cX0_init 7 = .ok (.newarray .int, 2) := by decide +kernel
theorem dX0_init_9 : decode cX0_init 9 = .ok (.putfield 9, 3) := by decide +kernel
theorem dX0_init_12 : decode cX0_init 12 = .ok (.aload_n 0, 1) := by decide +kernel
theorem dX0_init_13 : decode cX0_init 13 = .ok (.iconst 0, 1) := by decide +kernel
theorem dX0_init_14 : decode cX0_init 14 = .ok (.putfield 15, 3) := by decide +kernel
theorem dX0_init_17 : decode cX0_init 17 = .ok (.return_, 1) := by decide +kernel
theorem dX0_empty_0 : decode cX0_empty 0 = .ok (.aload_n 0, 1) := by decide +kernel
theorem dX0_empty_1 : decode cX0_empty 1 = .ok (.iconst 0, 1) := by decide +kernel
theorem dX0_empty_2 : decode cX0_empty 2 = .ok (.putfield 15, 3) := by decide +kernel
theorem dX0_empty_5 : decode cX0_empty 5 = .ok (.return_, 1) := by decide +kernel
theorem dX0_push_0 : decode cX0_push 0 = .ok (.aload_n 0, 1) := by decide +kernel
theorem dX0_push_1 : decode cX0_push 1 = .ok (.getfield 15, 3) := by decide +kernel
theorem dX0_push_4 : decode cX0_push 4 = .ok (.aload_n 0, 1) := by decide +kernel
theorem dX0_push_5 : decode cX0_push 5 = .ok (.getfield 9, 3) := by decide +kernel
theorem dX0_push_8 : decode cX0_push 8 = .ok (.arraylength, 1) := by decide +kernel
theorem dX0_push_9 : decode cX0_push 9 = .ok (.if_icmp .lt 4, 3) := by decide +kernel
theorem dX0_push_12 : decode cX0_push 12 = .ok (.return_, 1) := by decide +kernel
theorem dX0_push_13 : decode cX0_push 13 = .ok (.aload_n 0, 1) := by decide +kernel
theorem dX0_push_14 : decode cX0_push 14 = .ok (.getfield 15, 3) := by decide +kernel
theorem dX0_push_17 : decode cX0_push 17 = .ok (.istore_n 2, 1) := by decide +kernel
theorem dX0_push_18 : decode cX0_push 18 = .ok (.aload_n 0, 1) := by decide +kernel
theorem dX0_push_19 : decode cX0_push 19 = .ok (.dup, 1) := by decide +kernel
theorem dX0_push_20 : decode cX0_push 20 = .ok (.getfield 15, 3) := by decide +kernel
theorem dX0_push_23 : decode cX0_push 23 = .ok (.iconst 1, 1) := by decide +kernel
theorem dX0_push_24 : decode cX0_push 24 = .ok (.iadd, 1) := by decide +kernel
theorem dX0_push_25 : decode cX0_push 25 = .ok (.putfield 15, 3) := by decide +kernel
theorem dX0_push_28 : decode cX0_push 28 = .ok (.iload_n 2, 1) := by decide +kernel
theorem dX0_push_29 : decode cX0_push 29 = .ok (.ifCond .le 42, 3) := by decide +kernel
theorem dX0_push_32 : decode cX0_push 32 = .ok (.aload_n 0, 1) := by decide +kernel
theorem dX0_push_33 : decode cX0_push 33 = .ok (.getfield 9, 3) := by decide +kernel
theorem dX0_push_36 : decode cX0_push 36 = .ok (.iload_n 2, 1) := by decide +kernel
theorem dX0_push_37 : decode cX0_push 37 = .ok (.iconst 1, 1) := by decide +kernel
theorem dX0_push_38 : decode cX0_push 38 = .ok (.isub, 1) := by decide +kernel
theorem dX0_push_39 : decode cX0_push 39 = .ok (.iconst 2, 1) := by decide +kernel
theorem dX0_push_40 : decode cX0_push 40 = .ok (.idiv, 1) := by decide +kernel
theorem dX0_push_41 : decode cX0_push 41 = .ok (.iaload, 1) := by decide +kernel
theorem dX0_push_42 : decode cX0_push 42 = .ok (.iload_n 1, 1) := by decide +kernel
theorem dX0_push_43 : decode cX0_push 43 = .ok (.if_icmp .le 28, 3) := by decide +kernel
theorem dX0_push_46 : decode cX0_push 46 = .ok (.aload_n 0, 1) := by decide +kernel
theorem dX0_push_47 : decode cX0_push 47 = .ok (.getfield 9, 3) := by decide +kernel
theorem dX0_push_50 : decode cX0_push 50 = .ok (.iload_n 2, 1) := by decide +kernel
theorem dX0_push_51 : decode cX0_push 51 = .ok (.aload_n 0, 1) := by decide +kernel
theorem dX0_push_52 : decode cX0_push 52 = .ok (.getfield 9, 3) := by decide +kernel
theorem dX0_push_55 : decode cX0_push 55 = .ok (.iload_n 2, 1) := by decide +kernel
theorem dX0_push_56 : decode cX0_push 56 = .ok (.iconst 1, 1) := by decide +kernel
theorem dX0_push_57 : decode cX0_push 57 = .ok (.isub, 1) := by decide +kernel
theorem dX0_push_58 : decode cX0_push 58 = .ok (.iconst 2, 1) := by decide +kernel
theorem dX0_push_59 : decode cX0_push 59 = .ok (.idiv, 1) := by decide +kernel
theorem dX0_push_60 : decode cX0_push 60 = .ok (.iaload, 1) := by decide +kernel
theorem dX0_push_61 : decode cX0_push 61 = .ok (.iastore, 1) := by decide +kernel
theorem dX0_push_62 : decode cX0_push 62 = .ok (.iload_n 2, 1) := by decide +kernel
theorem dX0_push_63 : decode cX0_push 63 = .ok (.iconst 1, 1) := by decide +kernel
theorem dX0_push_64 : decode cX0_push 64 = .ok (.isub, 1) := by decide +kernel
theorem dX0_push_65 : decode cX0_push 65 = .ok (.iconst 2, 1) := by decide +kernel
theorem dX0_push_66 : decode cX0_push 66 = .ok (.idiv, 1) := by decide +kernel
theorem dX0_push_67 : decode cX0_push 67 = .ok (.istore_n 2, 1) := by decide +kernel
theorem dX0_push_68 : decode cX0_push 68 = .ok (.goto (-40), 3) := by decide +kernel
theorem dX0_push_71 : decode cX0_push 71 = .ok (.aload_n 0, 1) := by decide +kernel
theorem dX0_push_72 : decode cX0_push 72 = .ok (.getfield 9, 3) := by decide +kernel
theorem dX0_push_75 : decode cX0_push 75 = .ok (.iload_n 2, 1) := by decide +kernel
theorem dX0_push_76 : decode cX0_push 76 = .ok (.iload_n 1, 1) := by decide +kernel
theorem dX0_push_77 : decode cX0_push 77 = .ok (.iastore, 1) := by decide +kernel
theorem dX0_push_78 : decode cX0_push 78 = .ok (.return_, 1) := by decide +kernel
theorem dX0_pull_0 : decode cX0_pull 0 = .ok (.aload_n 0, 1) := by decide +kernel
theorem dX0_pull_1 : decode cX0_pull 1 = .ok (.getfield 15, 3) := by decide +kernel
theorem dX0_pull_4 : decode cX0_pull 4 = .ok (.iconst 1, 1) := by decide +kernel
theorem dX0_pull_5 : decode cX0_pull 5 = .ok (.if_icmp .ge 5, 3) := by decide +kernel
theorem dX0_pull_8 : decode cX0_pull 8 = .ok (.iconst 0, 1) := by decide +kernel
theorem dX0_pull_9 : decode cX0_pull 9 = .ok (.ireturn, 1) := by decide +kernel
theorem dX0_pull_10 : decode cX0_pull 10 = .ok (.aload_n 0, 1) := by decide +kernel
theorem dX0_pull_11 : decode cX0_pull 11 = .ok (.getfield 9, 3) := by decide +kernel
theorem dX0_pull_14 : decode cX0_pull 14 = .ok (.iconst 0, 1) := by decide +kernel
theorem dX0_pull_15 : decode cX0_pull 15 = .ok (.iaload, 1) := by decide +kernel
theorem dX0_pull_16 : decode cX0_pull 16 = .ok (.istore_n 1, 1) := by decide +kernel
theorem dX0_pull_17 : decode cX0_pull 17 = .ok (.aload_n 0, 1) := by decide +kernel
theorem dX0_pull_18 : decode cX0_pull 18 = .ok (.dup, 1) := by decide +kernel
theorem dX0_pull_19 : decode cX0_pull 19 = .ok (.getfield 15, 3) := by decide +kernel
theorem dX0_pull_22 : decode cX0_pull 22 = .ok (.iconst 1, 1) := by decide +kernel
theorem dX0_pull_23 : decode cX0_pull 23 = .ok (.isub, 1) := by decide +kernel
theorem dX0_pull_24 : decode cX0_pull 24 = .ok (.putfield 15, 3) := by decide +kernel
theorem dX0_pull_27 : decode cX0_pull 27 = .ok (.aload_n 0, 1) := by decide +kernel
theorem dX0_pull_28 : decode cX0_pull 28 = .ok (.aload_n 0, 1) := by decide +kernel
theorem dX0_pull_29 : decode cX0_pull 29 = .ok (.getfield 9, 3) := by decide +kernel
theorem dX0_pull_32 : decode cX0_pull 32 = .ok (.aload_n 0, 1) := by decide +kernel
theorem dX0_pull_33 : decode cX0_pull 33 = .ok (.getfield 15, 3) := by decide +kernel
theorem dX0_pull_36 : decode cX0_pull 36 = .ok (.iaload, 1) := by decide +kernel
theorem dX0_pull_37 : decode cX0_pull 37 = .ok (.invokevirtual 19, 3) := by decide +kernel
theorem dX0_pull_40 : decode cX0_pull 40 = .ok (.iload_n 1, 1) := by decide +kernel
theorem dX0_pull_41 : decode cX0_pull 41 = .ok (.ireturn, 1) := by decide +kernel
theorem dX0_sinkFromTop_0 : decode cX0_sinkFromTop 0 = .ok (.iconst 0, 1) := by decide +kernel
theorem dX0_sinkFromTop_1 : decode cX0_sinkFromTop 1 = .ok (.istore_n 2, 1) := by decide +kernel
theorem dX0_sinkFromTop_2 : decode cX0_sinkFromTop 2 = .ok (.iconst 1, 1) := by decide +kernel
theorem dX0_sinkFromTop_3 : decode cX0_sinkFromTop 3 = .ok (.istore_n 3, 1) := by decide +kernel
theorem dX0_sinkFromTop_4 : decode cX0_sinkFromTop 4 = .ok (.iload_n 3, 1) := by decide +kernel
theorem dX0_sinkFromTop_5 : decode cX0_sinkFromTop 5 = .ok (.aload_n 0, 1) := by decide +kernel
theorem dX0_sinkFromTop_6 : decode cX0_sinkFromTop 6 = .ok (.getfield 15, 3) := by decide +kernel
theorem dX0_sinkFromTop_9 : decode cX0_sinkFromTop 9 = .ok (.if_icmp .ge 78, 3) := by decide +kernel
theorem dX0_sinkFromTop_12 : decode cX0_sinkFromTop 12 = .ok (.iload_n 3, 1) := by decide +kernel
theorem dX0_sinkFromTop_13 : decode cX0_sinkFromTop 13 = .ok (.iconst 1, 1) := by decide +kernel
theorem dX0_sinkFromTop_14 : decode cX0_sinkFromTop 14 = .ok (.iadd, 1) := by decide +kernel
theorem dX0_sinkFromTop_15 : decode cX0_sinkFromTop 15 = .ok (.aload_n 0, 1) := by decide +kernel
theorem dX0_sinkFromTop_16 : decode cX0_sinkFromTop 16 = .ok (.getfield 15, 3) := by decide +kernel
theorem dX0_sinkFromTop_19 : decode cX0_sinkFromTop 19 = .ok (.if_icmp .ge 26, 3) := by decide +kernel
theorem dX0_sinkFromTop_22 : decode cX0_sinkFromTop 22 = .ok (.aload_n 0, 1) := by decide +kernel
theorem dX0_sinkFromTop_23 : decode cX0_sinkFromTop 23 = .ok (.getfield 9, 3) := by decide +kernel
theorem dX0_sinkFromTop_26 : decode cX0_sinkFromTop 26 = .ok (.iload_n 3, 1) := by decide +kernel
theorem dX0_sinkFromTop_27 : decode cX0_sinkFromTop 27 = .ok (.iconst 1, 1) := by decide +kernel
theorem dX0_sinkFromTop_28 : decode cX0_sinkFromTop 28 = .ok (.iadd, 1) := by decide +kernel
theorem dX0_sinkFromTop_29 : decode cX0_sinkFromTop 29 = .ok (.iaload, 1) := by decide +kernel
theorem dX0_sinkFromTop_30 : decode cX0_sinkFromTop 30 = .ok (.aload_n 0, 1) := by decide +kernel
theorem dX0_sinkFromTop_31 : decode cX0_sinkFromTop 31 = .ok (.getfield 9, 3) := by decide +kernel
theorem dX0_sinkFromTop_34 : decode cX0_sinkFromTop 34 = .ok (.iload_n 3, 1) := by decide +kernel
theorem dX0_sinkFromTop_35 : decode cX0_sinkFromTop 35 = .ok (.iaload, 1) := by decide +kernel
theorem dX0_sinkFromTop_36 : decode cX0_sinkFromTop 36 = .ok (.if_icmp .ge 9, 3) := by decide +kernel
theorem dX0_sinkFromTop_39 : decode cX0_sinkFromTop 39 = .ok (.iload_n 3, 1) := by decide +kernel
theorem dX0_sinkFromTop_40 : decode cX0_sinkFromTop 40 = .ok (.iconst 1, 1) := by decide +kernel
theorem dX0_sinkFromTop_41 : decode cX0_sinkFromTop 41 = .ok (.iadd, 1) := by decide +kernel
theorem dX0_sinkFromTop_42 : decode cX0_sinkFromTop 42 = .ok (.goto 4, 3) := by decide +kernel
theorem dX0_sinkFromTop_45 : decode cX0_sinkFromTop 45 = .ok (.iload_n 3, 1) := by decide +kernel
theorem dX0_sinkFromTop_46 : decode cX0_sinkFromTop 46 = .ok (.istore 4, 2) := by decide +kernel
theorem dX0_sinkFromTop_48 : decode cX0_sinkFromTop 48 = .ok (.aload_n 0, 1) := by decide +kernel
theorem dX0_sinkFromTop_49 : decode cX0_sinkFromTop 49 = .ok (.getfield 9, 3) := by decide +kernel
theorem dX0_sinkFromTop_52 : decode cX0_sinkFromTop 52 = .ok (.iload 4, 2) := by decide +kernel
theorem dX0_sinkFromTop_54 : decode cX0_sinkFromTop 54 = .ok (.iaload, 1) := by decide +kernel
theorem dX0_sinkFromTop_55 : decode cX0_sinkFromTop 55 = .ok (.iload_n 1, 1) := by decide +kernel
theorem dX0_sinkFromTop_56 : decode cX0_sinkFromTop 56 = .ok (.if_icmp .le 6, 3) := by decide +kernel
theorem dX0_sinkFromTop_59 : decode cX0_sinkFromTop 59 = .ok (.goto 28, 3) := by decide +kernel
theorem dX0_sinkFromTop_62 : decode cX0_sinkFromTop 62 = .ok (.aload_n 0, 1) := by decide +kernel
theorem dX0_sinkFromTop_63 : decode cX0_sinkFromTop 63 = .ok (.getfield 9, 3) := by decide +kernel
theorem dX0_sinkFromTop_66 : decode cX0_sinkFromTop 66 = .ok (.iload_n 2, 1) := by decide +kernel
theorem dX0_sinkFromTop_67 : decode cX0_sinkFromTop 67 = .ok (.aload_n 0, 1) := by decide +kernel
theorem dX0_sinkFromTop_68 : decode cX0_sinkFromTop 68 = .ok (.getfield 9, 3) := by decide +kernel
theorem dX0_sinkFromTop_71 : decode cX0_sinkFromTop 71 = .ok (.iload 4, 2) := by decide +kernel
theorem dX0_sinkFromTop_73 : decode cX0_sinkFromTop 73 = .ok (.iaload, 1) := by decide +kernel
theorem dX0_sinkFromTop_74 : decode cX0_sinkFromTop 74 = .ok (.iastore, 1) := by decide +kernel
theorem dX0_sinkFromTop_75 : decode cX0_sinkFromTop 75 = .ok (.iload 4, 2) := by decide +kernel
theorem dX0_sinkFromTop_77 : decode cX0_sinkFromTop 77 = .ok (.istore_n 2, 1) := by decide +kernel
theorem dX0_sinkFromTop_78 : decode cX0_sinkFromTop 78 = .ok (.iconst 2, 1) := by decide +kernel
theorem dX0_sinkFromTop_79 : decode cX0_sinkFromTop 79 = .ok (.iload_n 2, 1) := by decide +kernel
theorem dX0_sinkFromTop_80 : decode cX0_sinkFromTop 80 = .ok (.imul, 1) := by decide +kernel
theorem dX0_sinkFromTop_81 : decode cX0_sinkFromTop 81 = .ok (.iconst 1, 1) := by decide +kernel
theorem dX0_sinkFromTop_82 : decode cX0_sinkFromTop 82 = .ok (.iadd, 1) := by decide +kernel
theorem dX0_sinkFromTop_83 : decode cX0_sinkFromTop 83 = .ok (.istore_n 3, 1) := by decide +kernel
theorem dX0_sinkFromTop_84 : decode cX0_sinkFromTop 84 = .ok (.goto (-80), 3) := by decide +kernel
theorem dX0_sinkFromTop_87 : decode cX0_sinkFromTop 87 = .ok (.aload_n 0, 1) := by decide +kernel
theorem dX0_sinkFromTop_88 : decode cX0_sinkFromTop 88 = .ok (.getfield 9, 3) := by decide +kernel
theorem dX0_sinkFromTop_91 : decode cX0_sinkFromTop 91 = .ok (.iload_n 2, 1) := by decide +kernel
theorem dX0_sinkFromTop_92 : decode cX0_sinkFromTop 92 = .ok (.iload_n 1, 1) := by decide +kernel
theorem dX0_sinkFromTop_93 : decode cX0_sinkFromTop 93 = .ok (.iastore, 1) := by decide +kernel
theorem dX0_sinkFromTop_94 : decode cX0_sinkFromTop 94 = .ok (.return_, 1) := by decide +kernel
theorem dX1_init_0 : decode cX1_init 0 = .ok (.aload_n 0, 1) := by decide +kernel
theorem dX1_init_1 : decode cX1_init 1 = .ok (.invokespecial 3, 3) := by decide +kernel
theorem dX1_init_4 : decode cX1_init 4 = .ok (.aload_n 0, 1) := by decide +kernel
theorem dX1_init_5 : decode cX1_init 5 = .ok (.bipush 32, 2) := by decide +kernel
theorem dX1_init_7 : decode cX1_init 7 = .ok (.newarray .long, 2) := by decide +kernel
theorem dX1_init_9 : decode cX1_init 9 = .ok (.putfield 9, 3) := by decide +kernel
theorem dX1_init_12 : decode cX1_init 12 = .ok (.return_, 1) := by decide +kernel
theorem dX1_clear_0 : decode cX1_clear 0 = .ok (.iconst 0, 1) := by decide +kernel
theorem dX1_clear_1 : decode cX1_clear 1 = .ok (.istore_n 1, 1) := by decide +kernel
theorem dX1_clear_2 : decode cX1_clear 2 = .ok (.iload_n 1, 1) := by decide +kernel
theorem dX1_clear_3 : decode cX1_clear 3 = .ok (.aload_n 0, 1) := by decide +kernel
theorem dX1_clear_4 : decode cX1_clear 4 = .ok (.getfield 9, 3) := by decide +kernel
theorem dX1_clear_7 : decode cX1_clear 7 = .ok (.arraylength, 1) := by decide +kernel
theorem dX1_clear_8 : decode cX1_clear 8 = .ok (.if_icmp .ge 16, 3) := by decide +kernel
theorem dX1_clear_11 : decode cX1_clear 11 = .ok (.aload_n 0, 1) := by decide +kernel
theorem dX1_clear_12 : decode cX1_clear 12 = .ok (.getfield 9, 3) := by decide +kernel
theorem dX1_clear_15 : decode cX1_clear 15 = .ok (.iload_n 1, 1) := by decide +kernel
theorem dX1_clear_16 : decode cX1_clear 16 = .ok (.lconst 0, 1) := by decide +kernel
theorem dX1_clear_17 : decode cX1_clear 17 = .ok (.lastore, 1) := by decide +kernel
theorem dX1_clear_18 : decode cX1_clear 18 = .ok (.iinc 1 1, 3) := by decide +kernel
theorem dX1_clear_21 : decode cX1_clear 21 = .ok (.goto (-19), 3) := by decide +kernel
theorem dX1_clear_24 : decode cX1_clear 24 = .ok (.return_, 1) := by decide +kernel
theorem dX1_has_0 : decode cX1_has 0 = .ok (.iload_n 1, 1) := by decide +kernel
theorem dX1_has_1 : decode cX1_has 1 = .ok (.invokestatic 15, 3) := by decide +kernel
theorem dX1_has_4 : decode cX1_has 4 = .ok (.istore_n 2, 1) := by decide +kernel
theorem dX1_has_5 : decode cX1_has 5 = .ok (.iload_n 2, 1) := by decide +kernel
theorem dX1_has_6 : decode cX1_has 6 = .ok (.ifCond .lt 32, 3) := by decide +kernel
theorem dX1_has_9 : decode cX1_has 9 = .ok (.iload_n 2, 1) := by decide +kernel
theorem dX1_has_10 : decode cX1_has 10 = .ok (.aload_n 0, 1) := by decide +kernel
theorem dX1_has_11 : decode cX1_has 11 = .ok (.getfield 9, 3) := by decide +kernel
theorem dX1_has_14 : decode cX1_has 14 = .ok (.arraylength, 1) := by decide +kernel
theorem dX1_has_15 : decode cX1_has 15 = .ok (.if_icmp .ge 23, 3) := by decide +kernel
theorem dX1_has_18 : decode cX1_has 18 = .ok (.aload_n 0, 1) := by decide +kernel
theorem dX1_has_19 : decode cX1_has 19 = .ok (.getfield 9, 3) := by decide +kernel
theorem dX1_has_22 : decode cX1_has 22 = .ok (.iload_n 2, 1) := by decide +kernel
theorem dX1_has_23 : decode cX1_has 23 = .ok (.laload, 1) := by decide +kernel
theorem dX1_has_24 : decode cX1_has 24 = .ok (.iload_n 1, 1) := by decide +kernel
theorem dX1_has_25 : decode cX1_has 25 = .ok (.invokestatic 19, 3) := by decide +kernel
theorem dX1_has_28 : decode cX1_has 28 = .ok (.land, 1) := by decide +kernel
theorem dX1_has_29 : decode cX1_has 29 = .ok (.lconst 0, 1) := by decide +kernel
theorem dX1_has_30 : decode cX1_has 30 = .ok (.lcmp, 1) := by decide +kernel
theorem dX1_has_31 : decode cX1_has 31 = .ok (.ifCond .eq 7, 3) := by decide +kernel
theorem dX1_has_34 : decode cX1_has 34 = .ok (.iconst 1, 1) := by decide +kernel
theorem dX1_has_35 : decode cX1_has 35 = .ok (.goto 4, 3) := by decide +kernel
theorem dX1_has_38 : decode cX1_has 38 = .ok (.iconst 0, 1) := by decide +kernel
theorem dX1_has_39 : decode cX1_has 39 = .ok (.ireturn, 1) := by decide +kernel
theorem dX1_add_0 : decode cX1_add 0 = .ok (.iload_n 1, 1) := by decide +kernel
theorem dX1_add_1 : decode cX1_add 1 = .ok (.invokestatic 15, 3) := by decide +kernel
theorem dX1_add_4 : decode cX1_add 4 = .ok (.istore_n 2, 1) := by decide +kernel
theorem dX1_add_5 : decode cX1_add 5 = .ok (.iload_n 2, 1) := by decide +kernel
theorem dX1_add_6 : decode cX1_add 6 = .ok (.ifCond .lt 28, 3) := by decide +kernel
theorem dX1_add_9 : decode cX1_add 9 = .ok (.iload_n 2, 1) := by decide +kernel
theorem dX1_add_10 : decode cX1_add 10 = .ok (.aload_n 0, 1) := by decide +kernel
theorem dX1_add_11 : decode cX1_add 11 = .ok (.getfield 9, 3) := by decide +kernel
theorem dX1_add_14 : decode cX1_add 14 = .ok (.arraylength, 1) := by decide +kernel
theorem dX1_add_15 : decode cX1_add 15 = .ok (.if_icmp .ge 19, 3) := by decide +kernel
theorem dX1_add_18 : decode cX1_add 18 = .ok (.aload_n 0, 1) := by decide +kernel
theorem dX1_add_19 : decode cX1_add 19 = .ok (.getfield 9, 3) := by decide +kernel
theorem dX1_add_22 : decode cX1_add 22 = .ok (.iload_n 2, 1) := by decide +kernel
theorem dX1_add_23 : decode cX1_add 23 = .ok (.laload, 1) := by decide +kernel
theorem dX1_add_24 : decode cX1_add 24 = .ok (.iload_n 1, 1) := by decide +kernel
theorem dX1_add_25 : decode cX1_add 25 = .ok (.invokestatic 19, 3) := by decide +kernel
theorem dX1_add_28 : decode cX1_add 28 = .ok (.land, 1) := by decide +kernel
theorem dX1_add_29 : decode cX1_add 29 = .ok (.lconst 0, 1) := by decide +kernel
theorem dX1_add_30 : decode cX1_add 30 = .ok (.lcmp, 1) := by decide +kernel
theorem dX1_add_31 : decode cX1_add 31 = .ok (.ifCond .eq 5, 3) := by decide +kernel
theorem dX1_add_34 : decode cX1_add 34 = .ok (.iconst 0, 1) := by decide +kernel
theorem dX1_add_35 : decode cX1_add 35 = .ok (.ireturn, 1) := by decide +kernel
theorem dX1_add_36 : decode cX1_add 36 = .ok (.aload_n 0, 1) := by decide +kernel
theorem dX1_add_37 : decode cX1_add 37 = .ok (.getfield 9, 3) := by decide +kernel
theorem dX1_add_40 : decode cX1_add 40 = .ok (.iload_n 2, 1) := by decide +kernel
theorem dX1_add_41 : decode cX1_add 41 = .ok (.dup2, 1) := by decide +kernel
theorem dX1_add_42 : decode cX1_add 42 = .ok (.laload, 1) := by decide +kernel
theorem dX1_add_43 : decode cX1_add 43 = .ok (.iload_n 1, 1) := by decide +kernel
theorem dX1_add_44 : decode cX1_add 44 = .ok (.invokestatic 19, 3) := by decide +kernel
theorem dX1_add_47 : decode cX1_add 47 = .ok (.lor, 1) := by decide +kernel
theorem dX1_add_48 : decode cX1_add 48 = .ok (.lastore, 1) := by decide +kernel
theorem dX1_add_49 : decode cX1_add 49 = .ok (.iconst 1, 1) := by decide +kernel
theorem dX1_add_50 : decode cX1_add 50 = .ok (.ireturn, 1) := by decide +kernel
theorem dX1_wordOf_0 : decode cX1_wordOf 0 = .ok (.iload_n 0, 1) := by decide +kernel
theorem dX1_wordOf_1 : decode cX1_wordOf 1 = .ok (.sipush 999, 3) := by decide +kernel
theorem dX1_wordOf_4 : decode cX1_wordOf 4 = .ok (.iadd, 1) := by decide +kernel
theorem dX1_wordOf_5 : decode cX1_wordOf 5 = .ok (.bipush 6, 2) := by decide +kernel
theorem dX1_wordOf_7 : decode cX1_wordOf 7 = .ok (.ishr, 1) := by decide +kernel
theorem dX1_wordOf_8 : decode cX1_wordOf 8 = .ok (.ireturn, 1) := by decide +kernel
theorem dX1_bitOf_0 : decode cX1_bitOf 0 = .ok (.lconst 1, 1) := by decide +kernel
theorem dX1_bitOf_1 : decode cX1_bitOf 1 = .ok (.iload_n 0, 1) := by decide +kernel
theorem dX1_bitOf_2 : decode cX1_bitOf 2 = .ok (.sipush 999, 3) := by decide +kernel
theorem dX1_bitOf_5 : decode cX1_bitOf 5 = .ok (.iadd, 1) := by decide +kernel
theorem dX1_bitOf_6 : decode cX1_bitOf 6 = .ok (.bipush 63, 2) := by decide +kernel
theorem dX1_bitOf_8 : decode cX1_bitOf 8 = .ok (.iand, 1) := by decide +kernel
theorem dX1_bitOf_9 : decode cX1_bitOf 9 = .ok (.lshl, 1) := by decide +kernel
theorem dX1_bitOf_10 : decode cX1_bitOf 10 = .ok (.lreturn, 1) := by decide +kernel
theorem dX2_init_0 : decode cX2_init 0 = .ok (.aload_n 0, 1) := by decide +kernel
theorem dX2_init_1 : decode cX2_init 1 = .ok (.invokespecial 3, 3) := by decide +kernel
theorem dX2_init_4 : decode cX2_init 4 = .ok (.aload_n 0, 1) := by decide +kernel
theorem dX2_init_5 : decode cX2_init 5 = .ok (.bipush 120, 2) := by decide +kernel
theorem dX2_init_7 : decode cX2_init 7 = .ok (.newarray .int, 2) := by decide +kernel
theorem dX2_init_9 : decode cX2_init 9 = .ok (.putfield 9, 3) := by decide +kernel
theorem dX2_init_12 : decode cX2_init 12 = .ok (.aload_n 0, 1) := by decide +kernel
theorem dX2_init_13 : decode cX2_init 13 = .ok (.iconst 0, 1) := by decide +kernel
theorem dX2_init_14 : decode cX2_init 14 = .ok (.putfield 15, 3) := by decide +kernel
theorem dX2_init_17 : decode cX2_init 17 = .ok (.return_, 1) := by decide +kernel
theorem dX2_empty_0 : decode cX2_empty 0 = .ok (.aload_n 0, 1) := by decide +kernel
theorem dX2_empty_1 : decode cX2_empty 1 = .ok (.iconst 0, 1) := by decide +kernel
theorem dX2_empty_2 : decode cX2_empty 2 = .ok (.putfield 15, 3) := by decide +kernel
theorem dX2_empty_5 : decode cX2_empty 5 = .ok (.return_, 1) := by decide +kernel
theorem dX2_count_0 : decode cX2_count 0 = .ok (.aload_n 0, 1) := by decide +kernel
theorem dX2_count_1 : decode cX2_count 1 = .ok (.getfield 15, 3) := by decide +kernel
theorem dX2_count_4 : decode cX2_count 4 = .ok (.ireturn, 1) := by decide +kernel
theorem dX2_has_0 : decode cX2_has 0 = .ok (.iload_n 1, 1) := by decide +kernel
theorem dX2_has_1 : decode cX2_has 1 = .ok (.ifCond .lt 15, 3) := by decide +kernel
theorem dX2_has_4 : decode cX2_has 4 = .ok (.iload_n 1, 1) := by decide +kernel
theorem dX2_has_5 : decode cX2_has 5 = .ok (.aload_n 0, 1) := by decide +kernel
theorem dX2_has_6 : decode cX2_has 6 = .ok (.getfield 15, 3) := by decide +kernel
theorem dX2_has_9 : decode cX2_has 9 = .ok (.if_icmp .ge 7, 3) := by decide +kernel
theorem dX2_has_12 : decode cX2_has 12 = .ok (.iconst 1, 1) := by decide +kernel
theorem dX2_has_13 : decode cX2_has 13 = .ok (.goto 4, 3) := by decide +kernel
theorem dX2_has_16 : decode cX2_has 16 = .ok (.iconst 0, 1) := by decide +kernel
theorem dX2_has_17 : decode cX2_has 17 = .ok (.ireturn, 1) := by decide +kernel
theorem dX2_valueAt_0 : decode cX2_valueAt 0 = .ok (.iload_n 1, 1) := by decide +kernel
theorem dX2_valueAt_1 : decode cX2_valueAt 1 = .ok (.ifCond .lt 20, 3) := by decide +kernel
theorem dX2_valueAt_4 : decode cX2_valueAt 4 = .ok (.iload_n 1, 1) := by decide +kernel
theorem dX2_valueAt_5 : decode cX2_valueAt 5 = .ok (.aload_n 0, 1) := by decide +kernel
theorem dX2_valueAt_6 : decode cX2_valueAt 6 = .ok (.getfield 15, 3) := by decide +kernel
theorem dX2_valueAt_9 : decode cX2_valueAt 9 = .ok (.if_icmp .ge 12, 3) := by decide +kernel
theorem dX2_valueAt_12 : decode cX2_valueAt 12 = .ok (.aload_n 0, 1) := by decide +kernel
theorem dX2_valueAt_13 : decode cX2_valueAt 13 = .ok (.getfield 9, 3) := by decide +kernel
theorem dX2_valueAt_16 : decode cX2_valueAt 16 = .ok (.iload_n 1, 1) := by decide +kernel
theorem dX2_valueAt_17 : decode cX2_valueAt 17 = .ok (.iaload, 1) := by decide +kernel
theorem dX2_valueAt_18 : decode cX2_valueAt 18 = .ok (.goto 4, 3) := by decide +kernel
theorem dX2_valueAt_21 : decode cX2_valueAt 21 = .ok (.iconst 0, 1) := by decide +kernel
theorem dX2_valueAt_22 : decode cX2_valueAt 22 = .ok (.ireturn, 1) := by decide +kernel
theorem dX2_add_0 : decode cX2_add 0 = .ok (.aload_n 0, 1) := by decide +kernel
theorem dX2_add_1 : decode cX2_add 1 = .ok (.getfield 15, 3) := by decide +kernel
theorem dX2_add_4 : decode cX2_add 4 = .ok (.aload_n 0, 1) := by decide +kernel
theorem dX2_add_5 : decode cX2_add 5 = .ok (.getfield 9, 3) := by decide +kernel
theorem dX2_add_8 : decode cX2_add 8 = .ok (.arraylength, 1) := by decide +kernel
theorem dX2_add_9 : decode cX2_add 9 = .ok (.if_icmp .ge 23, 3) := by decide +kernel
theorem dX2_add_12 : decode cX2_add 12 = .ok (.aload_n 0, 1) := by decide +kernel
theorem dX2_add_13 : decode cX2_add 13 = .ok (.getfield 9, 3) := by decide +kernel
theorem dX2_add_16 : decode cX2_add 16 = .ok (.aload_n 0, 1) := by decide +kernel
theorem dX2_add_17 : decode cX2_add 17 = .ok (.getfield 15, 3) := by decide +kernel
theorem dX2_add_20 : decode cX2_add 20 = .ok (.iload_n 1, 1) := by decide +kernel
theorem dX2_add_21 : decode cX2_add 21 = .ok (.iastore, 1) := by decide +kernel
theorem dX2_add_22 : decode cX2_add 22 = .ok (.aload_n 0, 1) := by decide +kernel
theorem dX2_add_23 : decode cX2_add 23 = .ok (.dup, 1) := by decide +kernel
theorem dX2_add_24 : decode cX2_add 24 = .ok (.getfield 15, 3) := by decide +kernel
theorem dX2_add_27 : decode cX2_add 27 = .ok (.iconst 1, 1) := by decide +kernel
theorem dX2_add_28 : decode cX2_add 28 = .ok (.iadd, 1) := by decide +kernel
theorem dX2_add_29 : decode cX2_add 29 = .ok (.putfield 15, 3) := by decide +kernel
theorem dX2_add_32 : decode cX2_add 32 = .ok (.return_, 1) := by decide +kernel
theorem dX2_addAll_0 : decode cX2_addAll 0 = .ok (.iconst 0, 1) := by decide +kernel
theorem dX2_addAll_1 : decode cX2_addAll 1 = .ok (.istore_n 2, 1) := by decide +kernel
theorem dX2_addAll_2 : decode cX2_addAll 2 = .ok (.iload_n 2, 1) := by decide +kernel
theorem dX2_addAll_3 : decode cX2_addAll 3 = .ok (.aload_n 1, 1) := by decide +kernel
theorem dX2_addAll_4 : decode cX2_addAll 4 = .ok (.getfield 15, 3) := by decide +kernel
theorem dX2_addAll_7 : decode cX2_addAll 7 = .ok (.if_icmp .ge 19, 3) := by decide +kernel
theorem dX2_addAll_10 : decode cX2_addAll 10 = .ok (.aload_n 0, 1) := by decide +kernel
theorem dX2_addAll_11 : decode cX2_addAll 11 = .ok (.aload_n 1, 1) := by decide +kernel
theorem dX2_addAll_12 : decode cX2_addAll 12 = .ok (.getfield 9, 3) := by decide +kernel
theorem dX2_addAll_15 : decode cX2_addAll 15 = .ok (.iload_n 2, 1) := by decide +kernel
theorem dX2_addAll_16 : decode cX2_addAll 16 = .ok (.iaload, 1) := by decide +kernel
theorem dX2_addAll_17 : decode cX2_addAll 17 = .ok (.invokevirtual 19, 3) := by decide +kernel
theorem dX2_addAll_20 : decode cX2_addAll 20 = .ok (.iinc 2 1, 3) := by decide +kernel
theorem dX2_addAll_23 : decode cX2_addAll 23 = .ok (.goto (-21), 3) := by decide +kernel
theorem dX2_addAll_26 : decode cX2_addAll 26 = .ok (.return_, 1) := by decide +kernel
theorem dX2_set_0 : decode cX2_set 0 = .ok (.iload_n 1, 1) := by decide +kernel
theorem dX2_set_1 : decode cX2_set 1 = .ok (.ifCond .lt 18, 3) := by decide +kernel
theorem dX2_set_4 : decode cX2_set 4 = .ok (.iload_n 1, 1) := by decide +kernel
theorem dX2_set_5 : decode cX2_set 5 = .ok (.aload_n 0, 1) := by decide +kernel
theorem dX2_set_6 : decode cX2_set 6 = .ok (.getfield 15, 3) := by decide +kernel
theorem dX2_set_9 : decode cX2_set 9 = .ok (.if_icmp .ge 10, 3) := by decide +kernel
theorem dX2_set_12 : decode cX2_set 12 = .ok (.aload_n 0, 1) := by decide +kernel
theorem dX2_set_13 : decode cX2_set 13 = .ok (.getfield 9, 3) := by decide +kernel
theorem dX2_set_16 : decode cX2_set 16 = .ok (.iload_n 1, 1) := by decide +kernel
theorem dX2_set_17 : decode cX2_set 17 = .ok (.iload_n 2, 1) := by decide +kernel
theorem dX2_set_18 : decode cX2_set 18 = .ok (.iastore, 1) := by decide +kernel
theorem dX2_set_19 : decode cX2_set 19 = .ok (.return_, 1) := by decide +kernel
theorem dX2_cutTo_0 : decode cX2_cutTo 0 = .ok (.iload_n 1, 1) := by decide +kernel
theorem dX2_cutTo_1 : decode cX2_cutTo 1 = .ok (.ifCond .lt 16, 3) := by decide +kernel
theorem dX2_cutTo_4 : decode cX2_cutTo 4 = .ok (.iload_n 1, 1) := by decide +kernel
theorem dX2_cutTo_5 : decode cX2_cutTo 5 = .ok (.aload_n 0, 1) := by decide +kernel
theorem dX2_cutTo_6 : decode cX2_cutTo 6 = .ok (.getfield 15, 3) := by decide +kernel
theorem dX2_cutTo_9 : decode cX2_cutTo 9 = .ok (.if_icmp .ge 8, 3) := by decide +kernel
theorem dX2_cutTo_12 : decode cX2_cutTo 12 = .ok (.aload_n 0, 1) := by decide +kernel
theorem dX2_cutTo_13 : decode cX2_cutTo 13 = .ok (.iload_n 1, 1) := by decide +kernel
theorem dX2_cutTo_14 : decode cX2_cutTo 14 = .ok (.putfield 15, 3) := by decide +kernel
theorem dX2_cutTo_17 : decode cX2_cutTo 17 = .ok (.return_, 1) := by decide +kernel
theorem dX2_takeAt_0 : decode cX2_takeAt 0 = .ok (.iload_n 1, 1) := by decide +kernel
theorem dX2_takeAt_1 : decode cX2_takeAt 1 = .ok (.ifCond .lt 11, 3) := by decide +kernel
theorem dX2_takeAt_4 : decode cX2_takeAt 4 = .ok (.iload_n 1, 1) := by decide +kernel
theorem dX2_takeAt_5 : decode cX2_takeAt 5 = .ok (.aload_n 0, 1) := by decide +kernel
theorem dX2_takeAt_6 : decode cX2_takeAt 6 = .ok (.getfield 15, 3) := by decide +kernel
theorem dX2_takeAt_9 : decode cX2_takeAt 9 = .ok (.if_icmp .lt 5, 3) := by decide +kernel
theorem dX2_takeAt_12 : decode cX2_takeAt 12 = .ok (.iconst 0, 1) := by decide +kernel
theorem dX2_takeAt_13 : decode cX2_takeAt 13 = .ok (.ireturn, 1) := by decide +kernel
theorem dX2_takeAt_14 : decode cX2_takeAt 14 = .ok (.aload_n 0, 1) := by decide +kernel
theorem dX2_takeAt_15 : decode cX2_takeAt 15 = .ok (.getfield 9, 3) := by decide +kernel
theorem dX2_takeAt_18 : decode cX2_takeAt 18 = .ok (.iload_n 1, 1) := by decide +kernel
theorem dX2_takeAt_19 : decode cX2_takeAt 19 = .ok (.iaload, 1) := by decide +kernel
theorem dX2_takeAt_20 : decode cX2_takeAt 20 = .ok (.istore_n 2, 1) := by decide +kernel
theorem dX2_takeAt_21 : decode cX2_takeAt 21 = .ok (.iload_n 1, 1) := by decide +kernel
theorem dX2_takeAt_22 : decode cX2_takeAt 22 = .ok (.iconst 1, 1) := by decide +kernel
theorem dX2_takeAt_23 : decode cX2_takeAt 23 = .ok (.iadd, 1) := by decide +kernel
theorem dX2_takeAt_24 : decode cX2_takeAt 24 = .ok (.istore_n 3, 1) := by decide +kernel
theorem dX2_takeAt_25 : decode cX2_takeAt 25 = .ok (.iload_n 3, 1) := by decide +kernel
theorem dX2_takeAt_26 : decode cX2_takeAt 26 = .ok (.aload_n 0, 1) := by decide +kernel
theorem dX2_takeAt_27 : decode cX2_takeAt 27 = .ok (.getfield 15, 3) := by decide +kernel
theorem dX2_takeAt_30 : decode cX2_takeAt 30 = .ok (.if_icmp .ge 23, 3) := by decide +kernel
theorem dX2_takeAt_33 : decode cX2_takeAt 33 = .ok (.aload_n 0, 1) := by decide +kernel
theorem dX2_takeAt_34 : decode cX2_takeAt 34 = .ok (.getfield 9, 3) := by decide +kernel
theorem dX2_takeAt_37 : decode cX2_takeAt 37 = .ok (.iload_n 3, 1) := by decide +kernel
theorem dX2_takeAt_38 : decode cX2_takeAt 38 = .ok (.iconst 1, 1) := by decide +kernel
theorem dX2_takeAt_39 : decode cX2_takeAt 39 = .ok (.isub, 1) := by decide +kernel
theorem dX2_takeAt_40 : decode cX2_takeAt 40 = .ok (.aload_n 0, 1) := by decide +kernel
theorem dX2_takeAt_41 : decode cX2_takeAt 41 = .ok (.getfield 9, 3) := by decide +kernel
theorem dX2_takeAt_44 : decode cX2_takeAt 44 = .ok (.iload_n 3, 1) := by decide +kernel
theorem dX2_takeAt_45 : decode cX2_takeAt 45 = .ok (.iaload, 1) := by decide +kernel
theorem dX2_takeAt_46 : decode cX2_takeAt 46 = .ok (.iastore, 1) := by decide +kernel
theorem dX2_takeAt_47 : decode cX2_takeAt 47 = .ok (.iinc 3 1, 3) := by decide +kernel
theorem dX2_takeAt_50 : decode cX2_takeAt 50 = .ok (.goto (-25), 3) := by decide +kernel
theorem dX2_takeAt_53 : decode cX2_takeAt 53 = .ok (.aload_n 0, 1) := by decide +kernel
theorem dX2_takeAt_54 : decode cX2_takeAt 54 = .ok (.dup, 1) := by decide +kernel
theorem dX2_takeAt_55 : decode cX2_takeAt 55 = .ok (.getfield 15, 3) := by decide +kernel
theorem dX2_takeAt_58 : decode cX2_takeAt 58 = .ok (.iconst 1, 1) := by decide +kernel
theorem dX2_takeAt_59 : decode cX2_takeAt 59 = .ok (.isub, 1) := by decide +kernel
theorem dX2_takeAt_60 : decode cX2_takeAt 60 = .ok (.putfield 15, 3) := by decide +kernel
theorem dX2_takeAt_63 : decode cX2_takeAt 63 = .ok (.iload_n 2, 1) := by decide +kernel
theorem dX2_takeAt_64 : decode cX2_takeAt 64 = .ok (.ireturn, 1) := by decide +kernel
theorem dX2_leastPlace_0 : decode cX2_leastPlace 0 = .ok (.iconst 0, 1) := by decide +kernel
theorem dX2_leastPlace_1 : decode cX2_leastPlace 1 = .ok (.istore_n 1, 1) := by decide +kernel
theorem dX2_leastPlace_2 : decode cX2_leastPlace 2 = .ok (.iconst 1, 1) := by decide +kernel
theorem dX2_leastPlace_3 : decode cX2_leastPlace 3 = .ok (.istore_n 2, 1) := by decide +kernel
theorem dX2_leastPlace_4 : decode cX2_leastPlace 4 = .ok (.iload_n 2, 1) := by decide +kernel
theorem dX2_leastPlace_5 : decode cX2_leastPlace 5 = .ok (.aload_n 0, 1) := by decide +kernel
theorem dX2_leastPlace_6 : decode cX2_leastPlace 6 = .ok (.getfield 15, 3) := by decide +kernel
theorem dX2_leastPlace_9 : decode cX2_leastPlace 9 = .ok (.if_icmp .ge 26, 3) := by decide +kernel
theorem dX2_leastPlace_12 : decode cX2_leastPlace 12 = .ok (.aload_n 0, 1) := by decide +kernel
theorem dX2_leastPlace_13 : decode cX2_leastPlace 13 = .ok (.getfield 9, 3) := by decide +kernel
theorem dX2_leastPlace_16 : decode cX2_leastPlace 16 = .ok (.iload_n 2, 1) := by decide +kernel
theorem dX2_leastPlace_17 : decode cX2_leastPlace 17 = .ok (.iaload, 1) := by decide +kernel
theorem dX2_leastPlace_18 : decode cX2_leastPlace 18 = .ok (.aload_n 0, 1) := by decide +kernel
theorem dX2_leastPlace_19 : decode cX2_leastPlace 19 = .ok (.getfield 9, 3) := by decide +kernel
theorem dX2_leastPlace_22 : decode cX2_leastPlace 22 = .ok (.iload_n 1, 1) := by decide +kernel
theorem dX2_leastPlace_23 : decode cX2_leastPlace 23 = .ok (.iaload, 1) := by decide +kernel
theorem dX2_leastPlace_24 : decode cX2_leastPlace 24 = .ok (.if_icmp .ge 5, 3) := by decide +kernel
theorem dX2_leastPlace_27 : decode cX2_leastPlace 27 = .ok (.iload_n 2, 1) := by decide +kernel
theorem dX2_leastPlace_28 : decode cX2_leastPlace 28 = .ok (.istore_n 1, 1) := by decide +kernel
theorem dX2_leastPlace_29 : decode cX2_leastPlace 29 = .ok (.iinc 2 1, 3) := by decide +kernel
theorem dX2_leastPlace_32 : decode cX2_leastPlace 32 = .ok (.goto (-28), 3) := by decide +kernel
theorem dX2_leastPlace_35 : decode cX2_leastPlace 35 = .ok (.iload_n 1, 1) := by decide +kernel
theorem dX2_leastPlace_36 : decode cX2_leastPlace 36 = .ok (.ireturn, 1) := by decide +kernel
theorem dX3_init_0 : decode cX3_init 0 = .ok (.aload_n 0, 1) := by decide +kernel
theorem dX3_init_1 : decode cX3_init 1 = .ok (.invokespecial 3, 3) := by decide +kernel
theorem dX3_init_4 : decode cX3_init 4 = .ok (.aload_n 0, 1) := by decide +kernel
theorem dX3_init_5 : decode cX3_init 5 = .ok (.new 9, 3) := by decide +kernel
theorem dX3_init_8 : decode cX3_init 8 = .ok (.dup, 1) := by decide +kernel
theorem dX3_init_9 : decode cX3_init 9 = .ok (.invokespecial 11, 3) := by decide +kernel
theorem dX3_init_12 : decode cX3_init 12 = .ok (.putfield 12, 3) := by decide +kernel
theorem dX3_init_15 : decode cX3_init 15 = .ok (.aload_n 0, 1) := by decide +kernel
theorem dX3_init_16 : decode cX3_init 16 = .ok (.iconst 0, 1) := by decide +kernel
theorem dX3_init_17 : decode cX3_init 17 = .ok (.putfield 18, 3) := by decide +kernel
theorem dX3_init_20 : decode cX3_init 20 = .ok (.aload_n 0, 1) := by decide +kernel
theorem dX3_init_21 : decode cX3_init 21 = .ok (.iconst 0, 1) := by decide +kernel
theorem dX3_init_22 : decode cX3_init 22 = .ok (.putfield 22, 3) := by decide +kernel
end
section
-- decode rows, part 1
theorem dX3_init_25 : decode cX3_init 25 = .ok (.aload_n 0, 1) := by decide +kernel
theorem dX3_init_26 : decode cX3_init 26 = .ok (.iconst 0, 1) := by decide +kernel
theorem dX3_init_27 : decode cX3_init 27 = .ok (.putfield 25, 3) := by decide +kernel
theorem dX3_init_30 : decode cX3_init 30 = .ok (.aload_n 0, 1) := by decide +kernel
theorem dX3_init_31 : decode cX3_init 31 = .ok (.iconst 0, 1) := by decide +kernel
theorem dX3_init_32 : decode cX3_init 32 = .ok (.putfield 28, 3) := by decide +kernel
theorem dX3_init_35 : decode cX3_init 35 = .ok (.return_, 1) := by decide +kernel
theorem dX3_clear_0 : decode cX3_clear 0 = .ok (.aload_n 0, 1) := by decide +kernel
theorem dX3_clear_1 : decode cX3_clear 1 = .ok (.getfield 12, 3) := by decide +kernel
theorem dX3_clear_4 : decode cX3_clear 4 = .ok (.invokevirtual 31, 3) := by decide +kernel
theorem dX3_clear_7 : decode cX3_clear 7 = .ok (.aload_n 0, 1) := by decide +kernel
theorem dX3_clear_8 : decode cX3_clear 8 = .ok (.iconst 0, 1) := by decide +kernel
theorem dX3_clear_9 : decode cX3_clear 9 = .ok (.putfield 18, 3) := by decide +kernel
theorem dX3_clear_12 : decode cX3_clear 12 = .ok (.aload_n 0, 1) := by decide +kernel
theorem dX3_clear_13 : decode cX3_clear 13 = .ok (.iconst 0, 1) := by decide +kernel
theorem dX3_clear_14 : decode cX3_clear 14 = .ok (.putfield 22, 3) := by decide +kernel
theorem dX3_clear_17 : decode cX3_clear 17 = .ok (.aload_n 0, 1) := by decide +kernel
theorem dX3_clear_18 : decode cX3_clear 18 = .ok (.iconst 0, 1) := by decide +kernel
theorem dX3_clear_19 : decode cX3_clear 19 = .ok (.putfield 25, 3) := by decide +kernel
theorem dX3_clear_22 : decode cX3_clear 22 = .ok (.aload_n 0, 1) := by decide +kernel
theorem dX3_clear_23 : decode cX3_clear 23 = .ok (.iconst 0, 1) := by decide +kernel
theorem dX3_clear_24 : decode cX3_clear 24 = .ok (.putfield 28, 3) := by decide +kernel
theorem dX3_clear_27 : decode cX3_clear 27 = .ok (.return_, 1) := by decide +kernel
theorem dX3_give_0 : decode cX3_give 0 = .ok (.aload_n 0, 1) := by decide +kernel
theorem dX3_give_1 : decode cX3_give 1 = .ok (.dup, 1) := by decide +kernel
theorem dX3_give_2 : decode cX3_give 2 = .ok (.getfield 18, 3) := by decide +kernel
theorem dX3_give_5 : decode cX3_give 5 = .ok (.iconst 1, 1) := by decide +kernel
theorem dX3_give_6 : decode cX3_give 6 = .ok (.iadd, 1) := by decide +kernel
theorem dX3_give_7 : decode cX3_give 7 = .ok (.putfield 18, 3) := by decide +kernel
theorem dX3_give_10 : decode cX3_give 10 = .ok (.aload_n 0, 1) := by decide +kernel
theorem dX3_give_11 : decode cX3_give 11 = .ok (.getfield 12, 3) := by decide +kernel
theorem dX3_give_14 : decode cX3_give 14 = .ok (.iload_n 1, 1) := by decide +kernel
theorem dX3_give_15 : decode cX3_give 15 = .ok (.iload_n 2, 1) := by decide +kernel
theorem dX3_give_16 : decode cX3_give 16 = .ok (.invokevirtual 34, 3) := by decide +kernel
theorem dX3_give_19 : decode cX3_give 19 = .ok (.return_, 1) := by decide +kernel
theorem dX3_givePair_0 : decode cX3_givePair 0 = .ok (.aload_n 0, 1) := by decide +kernel
theorem dX3_givePair_1 : decode cX3_givePair 1 = .ok (.aload_n 1, 1) := by decide +kernel
theorem dX3_givePair_2 : decode cX3_givePair 2 = .ok (.iload_n 2, 1) := by decide +kernel
theorem dX3_givePair_3 : decode cX3_givePair 3 = .ok (.invokevirtual 38, 3) := by decide +kernel
theorem dX3_givePair_6 : decode cX3_givePair 6 = .ok (.bipush 100, 2) := by decide +kernel
theorem dX3_givePair_8 : decode cX3_givePair 8 = .ok (.aload_n 1, 1) := by decide +kernel
theorem dX3_givePair_9 : decode cX3_givePair 9 = .ok (.iload_n 2, 1) := by decide +kernel
theorem dX3_givePair_10 : decode cX3_givePair 10 = .ok (.invokevirtual 42, 3) := by decide +kernel
theorem dX3_givePair_13 : decode cX3_givePair 13 = .ok (.imul, 1) := by decide +kernel
theorem dX3_givePair_14 : decode cX3_givePair 14 = .ok (.aload_n 3, 1) := by decide +kernel
theorem dX3_givePair_15 : decode cX3_givePair 15 = .ok (.iload 4, 2) := by decide +kernel
theorem dX3_givePair_17 : decode cX3_givePair 17 = .ok (.invokevirtual 42, 3) := by decide +kernel
theorem dX3_givePair_20 : decode cX3_givePair 20 = .ok (.iadd, 1) := by decide +kernel
theorem dX3_givePair_21 : decode cX3_givePair 21 = .ok (.sipush 10000, 3) := by decide +kernel
theorem dX3_givePair_24 : decode cX3_givePair 24 = .ok (.irem, 1) := by decide +kernel
theorem dX3_givePair_25 : decode cX3_givePair 25 = .ok (.invokevirtual 45, 3) := by decide +kernel
theorem dX3_givePair_28 : decode cX3_givePair 28 = .ok (.return_, 1) := by decide +kernel
theorem dX4_init_0 : decode cX4_init 0 = .ok (.aload_n 0, 1) := by decide +kernel
theorem dX4_init_1 : decode cX4_init 1 = .ok (.invokespecial 3, 3) := by decide +kernel
theorem dX4_init_4 : decode cX4_init 4 = .ok (.aload_n 0, 1) := by decide +kernel
theorem dX4_init_5 : decode cX4_init 5 = .ok (.new 9, 3) := by decide +kernel
theorem dX4_init_8 : decode cX4_init 8 = .ok (.dup, 1) := by decide +kernel
theorem dX4_init_9 : decode cX4_init 9 = .ok (.invokespecial 11, 3) := by decide +kernel
theorem dX4_init_12 : decode cX4_init 12 = .ok (.putfield 12, 3) := by decide +kernel
theorem dX4_init_15 : decode cX4_init 15 = .ok (.aload_n 0, 1) := by decide +kernel
theorem dX4_init_16 : decode cX4_init 16 = .ok (.new 9, 3) := by decide +kernel
theorem dX4_init_19 : decode cX4_init 19 = .ok (.dup, 1) := by decide +kernel
theorem dX4_init_20 : decode cX4_init 20 = .ok (.invokespecial 11, 3) := by decide +kernel
theorem dX4_init_23 : decode cX4_init 23 = .ok (.putfield 18, 3) := by decide +kernel
theorem dX4_init_26 : decode cX4_init 26 = .ok (.aload_n 0, 1) := by decide +kernel
theorem dX4_init_27 : decode cX4_init 27 = .ok (.new 9, 3) := by decide +kernel
theorem dX4_init_30 : decode cX4_init 30 = .ok (.dup, 1) := by decide +kernel
theorem dX4_init_31 : decode cX4_init 31 = .ok (.invokespecial 11, 3) := by decide +kernel
theorem dX4_init_34 : decode cX4_init 34 = .ok (.putfield 21, 3) := by decide +kernel
theorem dX4_init_37 : decode cX4_init 37 = .ok (.aload_n 0, 1) := by decide +kernel
theorem dX4_init_38 : decode cX4_init 38 = .ok (.iconst 0, 1) := by decide +kernel
theorem dX4_init_39 : decode cX4_init 39 = .ok (.putfield 24, 3) := by decide +kernel
theorem dX4_init_42 : decode cX4_init 42 = .ok (.aload_n 0, 1) := by decide +kernel
theorem dX4_init_43 : decode cX4_init 43 = .ok (.iconst 0, 1) := by decide +kernel
theorem dX4_init_44 : decode cX4_init 44 = .ok (.putfield 28, 3) := by decide +kernel
theorem dX4_init_47 : decode cX4_init 47 = .ok (.aload_n 0, 1) := by decide +kernel
theorem dX4_init_48 : decode cX4_init 48 = .ok (.new 9, 3) := by decide +kernel
theorem dX4_init_51 : decode cX4_init 51 = .ok (.dup, 1) := by decide +kernel
theorem dX4_init_52 : decode cX4_init 52 = .ok (.invokespecial 11, 3) := by decide +kernel
theorem dX4_init_55 : decode cX4_init 55 = .ok (.putfield 31, 3) := by decide +kernel
theorem dX4_init_58 : decode cX4_init 58 = .ok (.aload_n 0, 1) := by decide +kernel
theorem dX4_init_59 : decode cX4_init 59 = .ok (.new 34, 3) := by decide +kernel
theorem dX4_init_62 : decode cX4_init 62 = .ok (.dup, 1) := by decide +kernel
theorem dX4_init_63 : decode cX4_init 63 = .ok (.invokespecial 36, 3) := by decide +kernel
theorem dX4_init_66 : decode cX4_init 66 = .ok (.putfield 37, 3) := by decide +kernel
theorem dX4_init_69 : decode cX4_init 69 = .ok (.aload_n 0, 1) := by decide +kernel
theorem dX4_init_70 : decode cX4_init 70 = .ok (.iconst 4, 1) := by decide +kernel
theorem dX4_init_71 : decode cX4_init 71 = .ok (.putfield 41, 3) := by decide +kernel
theorem dX4_init_74 : decode cX4_init 74 = .ok (.return_, 1) := by decide +kernel
theorem dX4_make_0 : decode cX4_make 0 = .ok (.aload_n 0, 1) := by decide +kernel
theorem dX4_make_1 : decode cX4_make 1 = .ok (.iload 5, 2) := by decide +kernel
theorem dX4_make_3 : decode cX4_make 3 = .ok (.putfield 41, 3) := by decide +kernel
theorem dX4_make_6 : decode cX4_make 6 = .ok (.aload_n 0, 1) := by decide +kernel
theorem dX4_make_7 : decode cX4_make 7 = .ok (.getfield 12, 3) := by decide +kernel
theorem dX4_make_10 : decode cX4_make 10 = .ok (.invokevirtual 44, 3) := by decide +kernel
theorem dX4_make_13 : decode cX4_make 13 = .ok (.aload_n 0, 1) := by decide +kernel
theorem dX4_make_14 : decode cX4_make 14 = .ok (.getfield 18, 3) := by decide +kernel
theorem dX4_make_17 : decode cX4_make 17 = .ok (.invokevirtual 44, 3) := by decide +kernel
theorem dX4_make_20 : decode cX4_make 20 = .ok (.aload_n 0, 1) := by decide +kernel
theorem dX4_make_21 : decode cX4_make 21 = .ok (.getfield 21, 3) := by decide +kernel
theorem dX4_make_24 : decode cX4_make 24 = .ok (.invokevirtual 44, 3) := by decide +kernel
theorem dX4_make_27 : decode cX4_make 27 = .ok (.iload_n 2, 1) := by decide +kernel
theorem dX4_make_28 : decode cX4_make 28 = .ok (.ifCond .eq 18, 3) := by decide +kernel
theorem dX4_make_31 : decode cX4_make 31 = .ok (.aload_n 0, 1) := by decide +kernel
theorem dX4_make_32 : decode cX4_make 32 = .ok (.aload_n 1, 1) := by decide +kernel
theorem dX4_make_33 : decode cX4_make 33 = .ok (.iload 4, 2) := by decide +kernel
theorem dX4_make_35 : decode cX4_make 35 = .ok (.iload 6, 2) := by decide +kernel
theorem dX4_make_37 : decode cX4_make 37 = .ok (.iload 5, 2) := by decide +kernel
theorem dX4_make_39 : decode cX4_make 39 = .ok (.imul, 1) := by decide +kernel
theorem dX4_make_40 : decode cX4_make 40 = .ok (.invokevirtual 47, 3) := by decide +kernel
theorem dX4_make_43 : decode cX4_make 43 = .ok (.goto 16, 3) := by decide +kernel
theorem dX4_make_46 : decode cX4_make 46 = .ok (.aload_n 0, 1) := by decide +kernel
theorem dX4_make_47 : decode cX4_make 47 = .ok (.aload_n 1, 1) := by decide +kernel
theorem dX4_make_48 : decode cX4_make 48 = .ok (.invokevirtual 51, 3) := by decide +kernel
theorem dX4_make_51 : decode cX4_make 51 = .ok (.iload 6, 2) := by decide +kernel
theorem dX4_make_53 : decode cX4_make 53 = .ok (.iload 5, 2) := by decide +kernel
theorem dX4_make_55 : decode cX4_make 55 = .ok (.imul, 1) := by decide +kernel
theorem dX4_make_56 : decode cX4_make 56 = .ok (.invokevirtual 57, 3) := by decide +kernel
theorem dX4_make_59 : decode cX4_make 59 = .ok (.aload_n 0, 1) := by decide +kernel
theorem dX4_make_60 : decode cX4_make 60 = .ok (.aload_n 1, 1) := by decide +kernel
theorem dX4_make_61 : decode cX4_make 61 = .ok (.invokevirtual 51, 3) := by decide +kernel
theorem dX4_make_64 : decode cX4_make 64 = .ok (.invokevirtual 61, 3) := by decide +kernel
theorem dX4_make_67 : decode cX4_make 67 = .ok (.aload_n 0, 1) := by decide +kernel
theorem dX4_make_68 : decode cX4_make 68 = .ok (.getfield 31, 3) := by decide +kernel
theorem dX4_make_71 : decode cX4_make 71 = .ok (.invokevirtual 44, 3) := by decide +kernel
theorem dX4_make_74 : decode cX4_make 74 = .ok (.aload_n 0, 1) := by decide +kernel
theorem dX4_make_75 : decode cX4_make 75 = .ok (.getfield 31, 3) := by decide +kernel
theorem dX4_make_78 : decode cX4_make 78 = .ok (.aload_n 0, 1) := by decide +kernel
theorem dX4_make_79 : decode cX4_make 79 = .ok (.getfield 12, 3) := by decide +kernel
theorem dX4_make_82 : decode cX4_make 82 = .ok (.invokevirtual 65, 3) := by decide +kernel
theorem dX4_make_85 : decode cX4_make 85 = .ok (.iload_n 3, 1) := by decide +kernel
theorem dX4_make_86 : decode cX4_make 86 = .ok (.ifCond .eq 14, 3) := by decide +kernel
theorem dX4_make_89 : decode cX4_make 89 = .ok (.aload_n 0, 1) := by decide +kernel
theorem dX4_make_90 : decode cX4_make 90 = .ok (.iload 6, 2) := by decide +kernel
theorem dX4_make_92 : decode cX4_make 92 = .ok (.iconst 1, 1) := by decide +kernel
theorem dX4_make_93 : decode cX4_make 93 = .ok (.isub, 1) := by decide +kernel
theorem dX4_make_94 : decode cX4_make 94 = .ok (.invokevirtual 69, 3) := by decide +kernel
theorem dX4_make_97 : decode cX4_make 97 = .ok (.goto 11, 3) := by decide +kernel
theorem dX4_make_100 : decode cX4_make 100 = .ok (.aload_n 0, 1) := by decide +kernel
theorem dX4_make_101 : decode cX4_make 101 = .ok (.iload 6, 2) := by decide +kernel
theorem dX4_make_103 : decode cX4_make 103 = .ok (.iconst 1, 1) := by decide +kernel
theorem dX4_make_104 : decode cX4_make 104 = .ok (.isub, 1) := by decide +kernel
theorem dX4_make_105 : decode cX4_make 105 = .ok (.invokevirtual 72, 3) := by decide +kernel
theorem dX4_make_108 : decode cX4_make 108 = .ok (.return_, 1) := by decide +kernel
theorem dX4_runByLoading_0 : decode cX4_runByLoading 0 = .ok (.iconst 1, 1) := by decide +kernel
theorem dX4_runByLoading_1 : decode cX4_runByLoading 1 = .ok (.iload_n 2, 1) := by decide +kernel
theorem dX4_runByLoading_2 : decode cX4_runByLoading 2 = .ok (.invokestatic 75, 3) := by decide +kernel
theorem dX4_runByLoading_5 : decode cX4_runByLoading 5 = .ok (.istore_n 3, 1) := by decide +kernel
theorem dX4_runByLoading_6 : decode cX4_runByLoading 6 = .ok (.iconst 0, 1) := by decide +kernel
theorem dX4_runByLoading_7 : decode cX4_runByLoading 7 = .ok (.istore 4, 2) := by decide +kernel
theorem dX4_runByLoading_9 : decode cX4_runByLoading 9 = .ok (.iload 4, 2) := by decide +kernel
theorem dX4_runByLoading_11 : decode cX4_runByLoading 11 = .ok (.iload_n 1, 1) := by decide +kernel
theorem dX4_runByLoading_12 : decode cX4_runByLoading 12 = .ok (.if_icmp .ge 27, 3) := by decide +kernel
theorem dX4_runByLoading_15 : decode cX4_runByLoading 15 = .ok (.aload_n 0, 1) := by decide +kernel
theorem dX4_runByLoading_16 : decode cX4_runByLoading 16 = .ok (.getfield 12, 3) := by decide +kernel
theorem dX4_runByLoading_19 : decode cX4_runByLoading 19 = .ok (.iload_n 3, 1) := by decide +kernel
theorem dX4_runByLoading_20 : decode cX4_runByLoading 20 = .ok (.iload_n 1, 1) := by decide +kernel
theorem dX4_runByLoading_21 : decode cX4_runByLoading 21 = .ok (.iload 4, 2) := by decide +kernel
theorem dX4_runByLoading_23 : decode cX4_runByLoading 23 = .ok (.isub, 1) := by decide +kernel
theorem dX4_runByLoading_24 : decode cX4_runByLoading 24 = .ok (.invokestatic 81, 3) := by decide +kernel
theorem dX4_runByLoading_27 : decode cX4_runByLoading 27 = .ok (.invokevirtual 84, 3) := by decide +kernel
theorem dX4_runByLoading_30 : decode cX4_runByLoading 30 = .ok (.iload 4, 2) := by decide +kernel
theorem dX4_runByLoading_32 : decode cX4_runByLoading 32 = .ok (.iload_n 3, 1) := by decide +kernel
theorem dX4_runByLoading_33 : decode cX4_runByLoading 33 = .ok (.iadd, 1) := by decide +kernel
theorem dX4_runByLoading_34 : decode cX4_runByLoading 34 = .ok (.istore 4, 2) := by decide +kernel
theorem dX4_runByLoading_36 : decode cX4_runByLoading 36 = .ok (.goto (-27), 3) := by decide +kernel
theorem dX4_runByLoading_39 : decode cX4_runByLoading 39 = .ok (.return_, 1) := by decide +kernel
theorem dX4_runByReplacing_0 : decode cX4_runByReplacing 0 = .ok (.aload_n 0, 1) := by decide +kernel
theorem dX4_runByReplacing_1 : decode cX4_runByReplacing 1 = .ok (.getfield 37, 3) := by decide +kernel
theorem dX4_runByReplacing_4 : decode cX4_runByReplacing 4 = .ok (.invokevirtual 87, 3) := by decide +kernel
theorem dX4_runByReplacing_7 : decode cX4_runByReplacing 7 = .ok (.aload_n 1, 1) := by decide +kernel
theorem dX4_runByReplacing_8 : decode cX4_runByReplacing 8 = .ok (.invokevirtual 51, 3) := by decide +kernel
theorem dX4_runByReplacing_11 : decode cX4_runByReplacing 11 = .ok (.istore 4, 2) := by decide +kernel
theorem dX4_runByReplacing_13 : decode cX4_runByReplacing 13 = .ok (.iload_n 3, 1) := by decide +kernel
theorem dX4_runByReplacing_14 : decode cX4_runByReplacing 14 = .ok (.iload 4, 2) := by decide +kernel
theorem dX4_runByReplacing_16 : decode cX4_runByReplacing 16 = .ok (.invokestatic 81, 3) := by decide +kernel
theorem dX4_runByReplacing_19 : decode cX4_runByReplacing 19 = .ok (.istore 5, 2) := by decide +kernel
theorem dX4_runByReplacing_21 : decode cX4_runByReplacing 21 = .ok (.iconst 0, 1) := by decide +kernel
theorem dX4_runByReplacing_22 : decode cX4_runByReplacing 22 = .ok (.istore 6, 2) := by decide +kernel
theorem dX4_runByReplacing_24 : decode cX4_runByReplacing 24 = .ok (.iload 6, 2) := by decide +kernel
theorem dX4_runByReplacing_26 : decode cX4_runByReplacing 26 = .ok (.iload 5, 2) := by decide +kernel
theorem dX4_runByReplacing_28 : decode cX4_runByReplacing 28 = .ok (.if_icmp .ge 23, 3) := by decide +kernel
theorem dX4_runByReplacing_31 : decode cX4_runByReplacing 31 = .ok (.aload_n 0, 1) := by decide +kernel
theorem dX4_runByReplacing_32 : decode cX4_runByReplacing 32 = .ok (.getfield 37, 3) := by decide +kernel
theorem dX4_runByReplacing_35 : decode cX4_runByReplacing 35 = .ok (.aload_n 1, 1) := by decide +kernel
theorem dX4_runByReplacing_36 : decode cX4_runByReplacing 36 = .ok (.iload 6, 2) := by decide +kernel
theorem dX4_runByReplacing_38 : decode cX4_runByReplacing 38 = .ok (.iload_n 2, 1) := by decide +kernel
theorem dX4_runByReplacing_39 : decode cX4_runByReplacing 39 = .ok (.invokestatic 88, 3) := by decide +kernel
theorem dX4_runByReplacing_42 : decode cX4_runByReplacing 42 = .ok (.invokevirtual 92, 3) := by decide +kernel
theorem dX4_runByReplacing_45 : decode cX4_runByReplacing 45 = .ok (.iinc 6 1, 3) := by decide +kernel
theorem dX4_runByReplacing_48 : decode cX4_runByReplacing 48 = .ok (.goto (-24), 3) := by decide +kernel
theorem dX4_runByReplacing_51 : decode cX4_runByReplacing 51 = .ok (.iconst 0, 1) := by decide +kernel
theorem dX4_runByReplacing_52 : decode cX4_runByReplacing 52 = .ok (.istore 6, 2) := by decide +kernel
theorem dX4_runByReplacing_54 : decode cX4_runByReplacing 54 = .ok (.iconst 0, 1) := by decide +kernel
theorem dX4_runByReplacing_55 : decode cX4_runByReplacing 55 = .ok (.istore 7, 2) := by decide +kernel
theorem dX4_runByReplacing_57 : decode cX4_runByReplacing 57 = .ok (.iconst 0, 1) := by decide +kernel
theorem dX4_runByReplacing_58 : decode cX4_runByReplacing 58 = .ok (.istore 8, 2) := by decide +kernel
theorem dX4_runByReplacing_60 : decode cX4_runByReplacing 60 = .ok (.iload 8, 2) := by decide +kernel
theorem dX4_runByReplacing_62 : decode cX4_runByReplacing 62 = .ok (.iload 4, 2) := by decide +kernel
theorem dX4_runByReplacing_64 : decode cX4_runByReplacing 64 = .ok (.if_icmp .ge 109, 3) := by decide +kernel
theorem dX4_runByReplacing_67 : decode cX4_runByReplacing 67 = .ok (.aload_n 0, 1) := by decide +kernel
theorem dX4_runByReplacing_68 : decode cX4_runByReplacing 68 = .ok (.getfield 37, 3) := by decide +kernel
theorem dX4_runByReplacing_71 : decode cX4_runByReplacing 71 = .ok (.invokevirtual 95, 3) := by decide +kernel
theorem dX4_runByReplacing_74 : decode cX4_runByReplacing 74 = .ok (.istore 9, 2) := by decide +kernel
theorem dX4_runByReplacing_76 : decode cX4_runByReplacing 76 = .ok (.iload 9, 2) := by decide +kernel
theorem dX4_runByReplacing_78 : decode cX4_runByReplacing 78 = .ok (.ldc 98, 2) := by decide +kernel
theorem dX4_runByReplacing_80 : decode cX4_runByReplacing 80 = .ok (.idiv, 1) := by decide +kernel
theorem dX4_runByReplacing_81 : decode cX4_runByReplacing 81 = .ok (.iload 6, 2) := by decide +kernel
theorem dX4_runByReplacing_83 : decode cX4_runByReplacing 83 = .ok (.if_icmp .le 18, 3) := by decide +kernel
theorem dX4_runByReplacing_86 : decode cX4_runByReplacing 86 = .ok (.aload_n 0, 1) := by decide +kernel
theorem dX4_runByReplacing_87 : decode cX4_runByReplacing 87 = .ok (.getfield 12, 3) := by decide +kernel
theorem dX4_runByReplacing_90 : decode cX4_runByReplacing 90 = .ok (.iload 7, 2) := by decide +kernel
theorem dX4_runByReplacing_92 : decode cX4_runByReplacing 92 = .ok (.invokevirtual 84, 3) := by decide +kernel
theorem dX4_runByReplacing_95 : decode cX4_runByReplacing 95 = .ok (.iinc 6 1, 3) := by decide +kernel
theorem dX4_runByReplacing_98 : decode cX4_runByReplacing 98 = .ok (.iconst 0, 1) := by decide +kernel
theorem dX4_runByReplacing_99 : decode cX4_runByReplacing 99 = .ok (.istore 7, 2) := by decide +kernel
theorem dX4_runByReplacing_101 : decode cX4_runByReplacing 101 = .ok (.iinc 7 1, 3) := by decide +kernel
theorem dX4_runByReplacing_104 : decode cX4_runByReplacing 104 = .ok (.iload 5, 2) := by decide +kernel
theorem dX4_runByReplacing_106 : decode cX4_runByReplacing 106 = .ok (.iload 4, 2) := by decide +kernel
theorem dX4_runByReplacing_108 : decode cX4_runByReplacing 108 = .ok (.if_icmp .ge 59, 3) := by decide +kernel
theorem dX4_runByReplacing_111 : decode cX4_runByReplacing 111 = .ok (.aload_n 1, 1) := by decide +kernel
theorem dX4_runByReplacing_112 : decode cX4_runByReplacing 112 = .ok (.iload 5, 2) := by decide +kernel
theorem dX4_runByReplacing_114 : decode cX4_runByReplacing 114 = .ok (.iload_n 2, 1) := by decide +kernel
theorem dX4_runByReplacing_115 : decode cX4_runByReplacing 115 = .ok (.invokestatic 88, 3) := by decide +kernel
theorem dX4_runByReplacing_118 : decode cX4_runByReplacing 118 = .ok (.istore 10, 2) := by decide +kernel
theorem dX4_runByReplacing_120 : decode cX4_runByReplacing 120 = .ok (.iload 10, 2) := by decide +kernel
theorem dX4_runByReplacing_122 : decode cX4_runByReplacing 122 = .ok (.iload 9, 2) := by decide +kernel
theorem dX4_runByReplacing_124 : decode cX4_runByReplacing 124 = .ok (.ldc 98, 2) := by decide +kernel
theorem dX4_runByReplacing_126 : decode cX4_runByReplacing 126 = .ok (.irem, 1) := by decide +kernel
theorem dX4_runByReplacing_127 : decode cX4_runByReplacing 127 = .ok (.if_icmp .ge 7, 3) := by decide +kernel
theorem dX4_runByReplacing_130 : decode cX4_runByReplacing 130 = .ok (.iconst 1, 1) := by decide +kernel
theorem dX4_runByReplacing_131 : decode cX4_runByReplacing 131 = .ok (.goto 4, 3) := by decide +kernel
theorem dX4_runByReplacing_134 : decode cX4_runByReplacing 134 = .ok (.iconst 0, 1) := by decide +kernel
theorem dX4_runByReplacing_135 : decode cX4_runByReplacing 135 = .ok (.istore 11, 2) := by decide +kernel
theorem dX4_runByReplacing_137 : decode cX4_runByReplacing 137 = .ok (.aload_n 0, 1) := by decide +kernel
theorem dX4_runByReplacing_138 : decode cX4_runByReplacing 138 = .ok (.getfield 37, 3) := by decide +kernel
theorem dX4_runByReplacing_141 : decode cX4_runByReplacing 141 = .ok (.iload 11, 2) := by decide +kernel
theorem dX4_runByReplacing_143 : decode cX4_runByReplacing 143 = .ok (.ifCond .eq 10, 3) := by decide +kernel
theorem dX4_runByReplacing_146 : decode cX4_runByReplacing 146 = .ok (.iload 6, 2) := by decide +kernel
theorem dX4_runByReplacing_148 : decode cX4_runByReplacing 148 = .ok (.iconst 1, 1) := by decide +kernel
theorem dX4_runByReplacing_149 : decode cX4_runByReplacing 149 = .ok (.iadd, 1) := by decide +kernel
theorem dX4_runByReplacing_150 : decode cX4_runByReplacing 150 = .ok (.goto 5, 3) := by decide +kernel
theorem dX4_runByReplacing_153 : decode cX4_runByReplacing 153 = .ok (.iload 6, 2) := by decide +kernel
theorem dX4_runByReplacing_155 : decode cX4_runByReplacing 155 = .ok (.ldc 98, 2) := by decide +kernel
theorem dX4_runByReplacing_157 : decode cX4_runByReplacing 157 = .ok (.imul, 1) := by decide +kernel
theorem dX4_runByReplacing_158 : decode cX4_runByReplacing 158 = .ok (.iload 10, 2) := by decide +kernel
theorem dX4_runByReplacing_160 : decode cX4_runByReplacing 160 = .ok (.iadd, 1) := by decide +kernel
theorem dX4_runByReplacing_161 : decode cX4_runByReplacing 161 = .ok (.invokevirtual 92, 3) := by decide +kernel
theorem dX4_runByReplacing_164 : decode cX4_runByReplacing 164 = .ok (.iinc 5 1, 3) := by decide +kernel
theorem dX4_runByReplacing_167 : decode cX4_runByReplacing 167 = .ok (.iinc 8 1, 3) := by decide +kernel
theorem dX4_runByReplacing_170 : decode cX4_runByReplacing 170 = .ok (.goto (-110), 3) := by decide +kernel
theorem dX4_runByReplacing_173 : decode cX4_runByReplacing 173 = .ok (.iload 7, 2) := by decide +kernel
theorem dX4_runByReplacing_175 : decode cX4_runByReplacing 175 = .ok (.ifCond .le 12, 3) := by decide +kernel
theorem dX4_runByReplacing_178 : decode cX4_runByReplacing 178 = .ok (.aload_n 0, 1) := by decide +kernel
theorem dX4_runByReplacing_179 : decode cX4_runByReplacing 179 = .ok (.getfield 12, 3) := by decide +kernel
theorem dX4_runByReplacing_182 : decode cX4_runByReplacing 182 = .ok (.iload 7, 2) := by decide +kernel
theorem dX4_runByReplacing_184 : decode cX4_runByReplacing 184 = .ok (.invokevirtual 84, 3) := by decide +kernel
theorem dX4_runByReplacing_187 : decode cX4_runByReplacing 187 = .ok (.return_, 1) := by decide +kernel
theorem dX4_countRuns_0 : decode cX4_countRuns 0 = .ok (.aload_n 0, 1) := by decide +kernel
theorem dX4_countRuns_1 : decode cX4_countRuns 1 = .ok (.iload_n 1, 1) := by decide +kernel
theorem dX4_countRuns_2 : decode cX4_countRuns 2 = .ok (.aload_n 0, 1) := by decide +kernel
theorem dX4_countRuns_3 : decode cX4_countRuns 3 = .ok (.getfield 41, 3) := by decide +kernel
theorem dX4_countRuns_6 : decode cX4_countRuns 6 = .ok (.invokestatic 99, 3) := by decide +kernel
theorem dX4_countRuns_9 : decode cX4_countRuns 9 = .ok (.putfield 24, 3) := by decide +kernel
theorem dX4_countRuns_12 : decode cX4_countRuns 12 = .ok (.aload_n 0, 1) := by decide +kernel
theorem dX4_countRuns_13 : decode cX4_countRuns 13 = .ok (.iconst 0, 1) := by decide +kernel
theorem dX4_countRuns_14 : decode cX4_countRuns 14 = .ok (.putfield 28, 3) := by decide +kernel
theorem dX4_countRuns_17 : decode cX4_countRuns 17 = .ok (.iconst 0, 1) := by decide +kernel
theorem dX4_countRuns_18 : decode cX4_countRuns 18 = .ok (.istore_n 2, 1) := by decide +kernel
theorem dX4_countRuns_19 : decode cX4_countRuns 19 = .ok (.iload_n 2, 1) := by decide +kernel
theorem dX4_countRuns_20 : decode cX4_countRuns 20 = .ok (.aload_n 0, 1) := by decide +kernel
theorem dX4_countRuns_21 : decode cX4_countRuns 21 = .ok (.getfield 12, 3) := by decide +kernel
theorem dX4_countRuns_24 : decode cX4_countRuns 24 = .ok (.invokevirtual 102, 3) := by decide +kernel
theorem dX4_countRuns_27 : decode cX4_countRuns 27 = .ok (.if_icmp .ge 33, 3) := by decide +kernel
theorem dX4_countRuns_30 : decode cX4_countRuns 30 = .ok (.aload_n 0, 1) := by decide +kernel
theorem dX4_countRuns_31 : decode cX4_countRuns 31 = .ok (.dup, 1) := by decide +kernel
theorem dX4_countRuns_32 : decode cX4_countRuns 32 = .ok (.getfield 28, 3) := by decide +kernel
theorem dX4_countRuns_35 : decode cX4_countRuns 35 = .ok (.aload_n 0, 1) := by decide +kernel
theorem dX4_countRuns_36 : decode cX4_countRuns 36 = .ok (.getfield 12, 3) := by decide +kernel
theorem dX4_countRuns_39 : decode cX4_countRuns 39 = .ok (.iload_n 2, 1) := by decide +kernel
theorem dX4_countRuns_40 : decode cX4_countRuns 40 = .ok (.invokevirtual 103, 3) := by decide +kernel
theorem dX4_countRuns_43 : decode cX4_countRuns 43 = .ok (.aload_n 0, 1) := by decide +kernel
theorem dX4_countRuns_44 : decode cX4_countRuns 44 = .ok (.getfield 41, 3) := by decide +kernel
theorem dX4_countRuns_47 : decode cX4_countRuns 47 = .ok (.invokestatic 99, 3) := by decide +kernel
theorem dX4_countRuns_50 : decode cX4_countRuns 50 = .ok (.iadd, 1) := by decide +kernel
theorem dX4_countRuns_51 : decode cX4_countRuns 51 = .ok (.putfield 28, 3) := by decide +kernel
theorem dX4_countRuns_54 : decode cX4_countRuns 54 = .ok (.iinc 2 1, 3) := by decide +kernel
theorem dX4_countRuns_57 : decode cX4_countRuns 57 = .ok (.goto (-38), 3) := by decide +kernel
theorem dX4_countRuns_60 : decode cX4_countRuns 60 = .ok (.return_, 1) := by decide +kernel
theorem dX4_mergeByLevels_0 : decode cX4_mergeByLevels 0 = .ok (.iconst 0, 1) := by decide +kernel
theorem dX4_mergeByLevels_1 : decode cX4_mergeByLevels 1 = .ok (.istore_n 2, 1) := by decide +kernel
theorem dX4_mergeByLevels_2 : decode cX4_mergeByLevels 2 = .ok (.iload_n 2, 1) := by decide +kernel
theorem dX4_mergeByLevels_3 : decode cX4_mergeByLevels 3 = .ok (.bipush 120, 2) := by decide +kernel
theorem dX4_mergeByLevels_5 : decode cX4_mergeByLevels 5 = .ok (.if_icmp .ge 29, 3) := by decide +kernel
theorem dX4_mergeByLevels_8 : decode cX4_mergeByLevels 8 = .ok (.aload_n 0, 1) := by decide +kernel
theorem dX4_mergeByLevels_9 : decode cX4_mergeByLevels 9 = .ok (.getfield 31, 3) := by decide +kernel
theorem dX4_mergeByLevels_12 : decode cX4_mergeByLevels 12 = .ok (.invokevirtual 102, 3) := by decide +kernel
theorem dX4_mergeByLevels_15 : decode cX4_mergeByLevels 15 = .ok (.iconst 1, 1) := by decide +kernel
theorem dX4_mergeByLevels_16 : decode cX4_mergeByLevels 16 = .ok (.if_icmp .le 18, 3) := by decide +kernel
theorem dX4_mergeByLevels_19 : decode cX4_mergeByLevels 19 = .ok (.aload_n 0, 1) := by decide +kernel
theorem dX4_mergeByLevels_20 : decode cX4_mergeByLevels 20 = .ok (.iconst 2, 1) := by decide +kernel
theorem dX4_mergeByLevels_21 : decode cX4_mergeByLevels 21 = .ok (.iload_n 1, 1) := by decide +kernel
theorem dX4_mergeByLevels_22 : decode cX4_mergeByLevels 22 = .ok (.invokestatic 75, 3) := by decide +kernel
theorem dX4_mergeByLevels_25 : decode cX4_mergeByLevels 25 = .ok (.invokevirtual 107, 3) := by decide +kernel
theorem dX4_mergeByLevels_28 : decode cX4_mergeByLevels 28 = .ok (.iinc 2 1, 3) := by decide +kernel
theorem dX4_mergeByLevels_31 : decode cX4_mergeByLevels 31 = .ok (.goto (-29), 3) := by decide +kernel
theorem dX4_mergeByLevels_34 : decode cX4_mergeByLevels 34 = .ok (.return_, 1) := by decide +kernel
theorem dX4_mergeLevel_0 : decode cX4_mergeLevel 0 = .ok (.aload_n 0, 1) := by decide +kernel
theorem dX4_mergeLevel_1 : decode cX4_mergeLevel 1 = .ok (.getfield 31, 3) := by decide +kernel
theorem dX4_mergeLevel_4 : decode cX4_mergeLevel 4 = .ok (.invokevirtual 102, 3) := by decide +kernel
theorem dX4_mergeLevel_7 : decode cX4_mergeLevel 7 = .ok (.istore_n 2, 1) := by decide +kernel
theorem dX4_mergeLevel_8 : decode cX4_mergeLevel 8 = .ok (.iconst 0, 1) := by decide +kernel
theorem dX4_mergeLevel_9 : decode cX4_mergeLevel 9 = .ok (.istore_n 3, 1) := by decide +kernel
theorem dX4_mergeLevel_10 : decode cX4_mergeLevel 10 = .ok (.iconst 0, 1) := by decide +kernel
theorem dX4_mergeLevel_11 : decode cX4_mergeLevel 11 = .ok (.istore 4, 2) := by decide +kernel
theorem dX4_mergeLevel_13 : decode cX4_mergeLevel 13 = .ok (.iload 4, 2) := by decide +kernel
theorem dX4_mergeLevel_15 : decode cX4_mergeLevel 15 = .ok (.iload_n 2, 1) := by decide +kernel
theorem dX4_mergeLevel_16 : decode cX4_mergeLevel 16 = .ok (.if_icmp .ge 149, 3) := by decide +kernel
theorem dX4_mergeLevel_19 : decode cX4_mergeLevel 19 = .ok (.iload 4, 2) := by decide +kernel
theorem dX4_mergeLevel_21 : decode cX4_mergeLevel 21 = .ok (.iload_n 1, 1) := by decide +kernel
theorem dX4_mergeLevel_22 : decode cX4_mergeLevel 22 = .ok (.iadd, 1) := by decide +kernel
theorem dX4_mergeLevel_23 : decode cX4_mergeLevel 23 = .ok (.iload_n 2, 1) := by decide +kernel
theorem dX4_mergeLevel_24 : decode cX4_mergeLevel 24 = .ok (.invokestatic 81, 3) := by decide +kernel
theorem dX4_mergeLevel_27 : decode cX4_mergeLevel 27 = .ok (.istore 5, 2) := by decide +kernel
theorem dX4_mergeLevel_29 : decode cX4_mergeLevel 29 = .ok (.iconst 0, 1) := by decide +kernel
theorem dX4_mergeLevel_30 : decode cX4_mergeLevel 30 = .ok (.istore 6, 2) := by decide +kernel
theorem dX4_mergeLevel_32 : decode cX4_mergeLevel 32 = .ok (.iload 4, 2) := by decide +kernel
theorem dX4_mergeLevel_34 : decode cX4_mergeLevel 34 = .ok (.istore 7, 2) := by decide +kernel
theorem dX4_mergeLevel_36 : decode cX4_mergeLevel 36 = .ok (.iload 7, 2) := by decide +kernel
theorem dX4_mergeLevel_38 : decode cX4_mergeLevel 38 = .ok (.iload 5, 2) := by decide +kernel
theorem dX4_mergeLevel_40 : decode cX4_mergeLevel 40 = .ok (.if_icmp .ge 23, 3) := by decide +kernel
theorem dX4_mergeLevel_43 : decode cX4_mergeLevel 43 = .ok (.iload 6, 2) := by decide +kernel
theorem dX4_mergeLevel_45 : decode cX4_mergeLevel 45 = .ok (.aload_n 0, 1) := by decide +kernel
theorem dX4_mergeLevel_46 : decode cX4_mergeLevel 46 = .ok (.getfield 31, 3) := by decide +kernel
theorem dX4_mergeLevel_49 : decode cX4_mergeLevel 49 = .ok (.iload 7, 2) := by decide +kernel
theorem dX4_mergeLevel_51 : decode cX4_mergeLevel 51 = .ok (.invokevirtual 103, 3) := by decide +kernel
theorem dX4_mergeLevel_54 : decode cX4_mergeLevel 54 = .ok (.iadd, 1) := by decide +kernel
theorem dX4_mergeLevel_55 : decode cX4_mergeLevel 55 = .ok (.istore 6, 2) := by decide +kernel
theorem dX4_mergeLevel_57 : decode cX4_mergeLevel 57 = .ok (.iinc 7 1, 3) := by decide +kernel
theorem dX4_mergeLevel_60 : decode cX4_mergeLevel 60 = .ok (.goto (-24), 3) := by decide +kernel
theorem dX4_mergeLevel_63 : decode cX4_mergeLevel 63 = .ok (.iload 5, 2) := by decide +kernel
theorem dX4_mergeLevel_65 : decode cX4_mergeLevel 65 = .ok (.iload 4, 2) := by decide +kernel
theorem dX4_mergeLevel_67 : decode cX4_mergeLevel 67 = .ok (.isub, 1) := by decide +kernel
theorem dX4_mergeLevel_68 : decode cX4_mergeLevel 68 = .ok (.iconst 1, 1) := by decide +kernel
theorem dX4_mergeLevel_69 : decode cX4_mergeLevel 69 = .ok (.if_icmp .le 74, 3) := by decide +kernel
theorem dX4_mergeLevel_72 : decode cX4_mergeLevel 72 = .ok (.iload 4, 2) := by decide +kernel
theorem dX4_mergeLevel_74 : decode cX4_mergeLevel 74 = .ok (.istore 7, 2) := by decide +kernel
theorem dX4_mergeLevel_76 : decode cX4_mergeLevel 76 = .ok (.iload 7, 2) := by decide +kernel
theorem dX4_mergeLevel_78 : decode cX4_mergeLevel 78 = .ok (.iload 5, 2) := by decide +kernel
theorem dX4_mergeLevel_80 : decode cX4_mergeLevel 80 = .ok (.if_icmp .ge 34, 3) := by decide +kernel
theorem dX4_mergeLevel_83 : decode cX4_mergeLevel 83 = .ok (.aload_n 0, 1) := by decide +kernel
theorem dX4_mergeLevel_84 : decode cX4_mergeLevel 84 = .ok (.dup, 1) := by decide +kernel
theorem dX4_mergeLevel_85 : decode cX4_mergeLevel 85 = .ok (.getfield 24, 3) := by decide +kernel
theorem dX4_mergeLevel_88 : decode cX4_mergeLevel 88 = .ok (.aload_n 0, 1) := by decide +kernel
theorem dX4_mergeLevel_89 : decode cX4_mergeLevel 89 = .ok (.getfield 31, 3) := by decide +kernel
theorem dX4_mergeLevel_92 : decode cX4_mergeLevel 92 = .ok (.iload 7, 2) := by decide +kernel
theorem dX4_mergeLevel_94 : decode cX4_mergeLevel 94 = .ok (.invokevirtual 103, 3) := by decide +kernel
theorem dX4_mergeLevel_97 : decode cX4_mergeLevel 97 = .ok (.aload_n 0, 1) := by decide +kernel
theorem dX4_mergeLevel_98 : decode cX4_mergeLevel 98 = .ok (.getfield 41, 3) := by decide +kernel
theorem dX4_mergeLevel_101 : decode cX4_mergeLevel 101 = .ok (.invokestatic 99, 3) := by decide +kernel
theorem dX4_mergeLevel_104 : decode cX4_mergeLevel 104 = .ok (.iadd, 1) := by decide +kernel
theorem dX4_mergeLevel_105 : decode cX4_mergeLevel 105 = .ok (.putfield 24, 3) := by decide +kernel
theorem dX4_mergeLevel_108 : decode cX4_mergeLevel 108 = .ok (.iinc 7 1, 3) := by decide +kernel
theorem dX4_mergeLevel_111 : decode cX4_mergeLevel 111 = .ok (.goto (-35), 3) := by decide +kernel
theorem dX4_mergeLevel_114 : decode cX4_mergeLevel 114 = .ok (.aload_n 0, 1) := by decide +kernel
theorem dX4_mergeLevel_115 : decode cX4_mergeLevel 115 = .ok (.dup, 1) := by decide +kernel
theorem dX4_mergeLevel_116 : decode cX4_mergeLevel 116 = .ok (.getfield 28, 3) := by decide +kernel
theorem dX4_mergeLevel_119 : decode cX4_mergeLevel 119 = .ok (.iload 6, 2) := by decide +kernel
theorem dX4_mergeLevel_121 : decode cX4_mergeLevel 121 = .ok (.aload_n 0, 1) := by decide +kernel
theorem dX4_mergeLevel_122 : decode cX4_mergeLevel 122 = .ok (.getfield 41, 3) := by decide +kernel
theorem dX4_mergeLevel_125 : decode cX4_mergeLevel 125 = .ok (.invokestatic 99, 3) := by decide +kernel
theorem dX4_mergeLevel_128 : decode cX4_mergeLevel 128 = .ok (.iadd, 1) := by decide +kernel
theorem dX4_mergeLevel_129 : decode cX4_mergeLevel 129 = .ok (.putfield 28, 3) := by decide +kernel
theorem dX4_mergeLevel_132 : decode cX4_mergeLevel 132 = .ok (.aload_n 0, 1) := by decide +kernel
theorem dX4_mergeLevel_133 : decode cX4_mergeLevel 133 = .ok (.iload 5, 2) := by decide +kernel
theorem dX4_mergeLevel_135 : decode cX4_mergeLevel 135 = .ok (.iload 4, 2) := by decide +kernel
theorem dX4_mergeLevel_137 : decode cX4_mergeLevel 137 = .ok (.isub, 1) := by decide +kernel
theorem dX4_mergeLevel_138 : decode cX4_mergeLevel 138 = .ok (.iload 6, 2) := by decide +kernel
theorem dX4_mergeLevel_140 : decode cX4_mergeLevel 140 = .ok (.invokevirtual 110, 3) := by decide +kernel
theorem dX4_mergeLevel_143 : decode cX4_mergeLevel 143 = .ok (.aload_n 0, 1) := by decide +kernel
theorem dX4_mergeLevel_144 : decode cX4_mergeLevel 144 = .ok (.getfield 31, 3) := by decide +kernel
theorem dX4_mergeLevel_147 : decode cX4_mergeLevel 147 = .ok (.iload_n 3, 1) := by decide +kernel
theorem dX4_mergeLevel_148 : decode cX4_mergeLevel 148 = .ok (.iload 6, 2) := by decide +kernel
theorem dX4_mergeLevel_150 : decode cX4_mergeLevel 150 = .ok (.invokevirtual 113, 3) := by decide +kernel
theorem dX4_mergeLevel_153 : decode cX4_mergeLevel 153 = .ok (.iinc 3 1, 3) := by decide +kernel
theorem dX4_mergeLevel_156 : decode cX4_mergeLevel 156 = .ok (.iload 4, 2) := by decide +kernel
theorem dX4_mergeLevel_158 : decode cX4_mergeLevel 158 = .ok (.iload_n 1, 1) := by decide +kernel
theorem dX4_mergeLevel_159 : decode cX4_mergeLevel 159 = .ok (.iadd, 1) := by decide +kernel
theorem dX4_mergeLevel_160 : decode cX4_mergeLevel 160 = .ok (.istore 4, 2) := by decide +kernel
theorem dX4_mergeLevel_162 : decode cX4_mergeLevel 162 = .ok (.goto (-149), 3) := by decide +kernel
theorem dX4_mergeLevel_165 : decode cX4_mergeLevel 165 = .ok (.aload_n 0, 1) := by decide +kernel
theorem dX4_mergeLevel_166 : decode cX4_mergeLevel 166 = .ok (.getfield 31, 3) := by decide +kernel
theorem dX4_mergeLevel_169 : decode cX4_mergeLevel 169 = .ok (.iload_n 3, 1) := by decide +kernel
theorem dX4_mergeLevel_170 : decode cX4_mergeLevel 170 = .ok (.invokevirtual 116, 3) := by decide +kernel
theorem dX4_mergeLevel_173 : decode cX4_mergeLevel 173 = .ok (.return_, 1) := by decide +kernel
theorem dX4_mergeByLeast_0 : decode cX4_mergeByLeast 0 = .ok (.aload_n 0, 1) := by decide +kernel
theorem dX4_mergeByLeast_1 : decode cX4_mergeByLeast 1 = .ok (.getfield 31, 3) := by decide +kernel
theorem dX4_mergeByLeast_4 : decode cX4_mergeByLeast 4 = .ok (.invokevirtual 102, 3) := by decide +kernel
theorem dX4_mergeByLeast_7 : decode cX4_mergeByLeast 7 = .ok (.iconst 2, 1) := by decide +kernel
theorem dX4_mergeByLeast_8 : decode cX4_mergeByLeast 8 = .ok (.isub, 1) := by decide +kernel
theorem dX4_mergeByLeast_9 : decode cX4_mergeByLeast 9 = .ok (.iconst 1, 1) := by decide +kernel
theorem dX4_mergeByLeast_10 : decode cX4_mergeByLeast 10 = .ok (.iload_n 1, 1) := by decide +kernel
theorem dX4_mergeByLeast_11 : decode cX4_mergeByLeast 11 = .ok (.iconst 1, 1) := by decide +kernel
theorem dX4_mergeByLeast_12 : decode cX4_mergeByLeast 12 = .ok (.isub, 1) := by decide +kernel
theorem dX4_mergeByLeast_13 : decode cX4_mergeByLeast 13 = .ok (.invokestatic 75, 3) := by decide +kernel
theorem dX4_mergeByLeast_16 : decode cX4_mergeByLeast 16 = .ok (.invokestatic 119, 3) := by decide +kernel
theorem dX4_mergeByLeast_19 : decode cX4_mergeByLeast 19 = .ok (.iconst 2, 1) := by decide +kernel
theorem dX4_mergeByLeast_20 : decode cX4_mergeByLeast 20 = .ok (.iadd, 1) := by decide +kernel
theorem dX4_mergeByLeast_21 : decode cX4_mergeByLeast 21 = .ok (.istore_n 2, 1) := by decide +kernel
theorem dX4_mergeByLeast_22 : decode cX4_mergeByLeast 22 = .ok (.iconst 0, 1) := by decide +kernel
theorem dX4_mergeByLeast_23 : decode cX4_mergeByLeast 23 = .ok (.istore_n 3, 1) := by decide +kernel
theorem dX4_mergeByLeast_24 : decode cX4_mergeByLeast 24 = .ok (.iload_n 3, 1) := by decide +kernel
theorem dX4_mergeByLeast_25 : decode cX4_mergeByLeast 25 = .ok (.bipush 120, 2) := by decide +kernel
theorem dX4_mergeByLeast_27 : decode cX4_mergeByLeast 27 = .ok (.if_icmp .ge 27, 3) := by decide +kernel
theorem dX4_mergeByLeast_30 : decode cX4_mergeByLeast 30 = .ok (.aload_n 0, 1) := by decide +kernel
theorem dX4_mergeByLeast_31 : decode cX4_mergeByLeast 31 = .ok (.getfield 31, 3) := by decide +kernel
theorem dX4_mergeByLeast_34 : decode cX4_mergeByLeast 34 = .ok (.invokevirtual 102, 3) := by decide +kernel
theorem dX4_mergeByLeast_37 : decode cX4_mergeByLeast 37 = .ok (.iconst 1, 1) := by decide +kernel
theorem dX4_mergeByLeast_38 : decode cX4_mergeByLeast 38 = .ok (.if_icmp .le 16, 3) := by decide +kernel
theorem dX4_mergeByLeast_41 : decode cX4_mergeByLeast 41 = .ok (.aload_n 0, 1) := by decide +kernel
end
section
-- decode rows, part 2
theorem dX4_mergeByLeast_42 : decode cX4_mergeByLeast 42 = .ok (.iload_n 2, 1) := by decide +kernel
theorem dX4_mergeByLeast_43 : decode cX4_mergeByLeast 43 = .ok (.invokevirtual 122, 3) := by decide +kernel
theorem dX4_mergeByLeast_46 : decode cX4_mergeByLeast 46 = .ok (.iload_n 1, 1) := by decide +kernel
theorem dX4_mergeByLeast_47 : decode cX4_mergeByLeast 47 = .ok (.istore_n 2, 1) := by decide +kernel
theorem dX4_mergeByLeast_48 : decode cX4_mergeByLeast 48 = .ok (.iinc 3 1, 3) := by decide +kernel
theorem dX4_mergeByLeast_51 : decode cX4_mergeByLeast 51 = .ok (.goto (-27), 3) := by decide +kernel
theorem dX4_mergeByLeast_54 : decode cX4_mergeByLeast 54 = .ok (.return_, 1) := by decide +kernel
theorem dX4_mergeLeast_0 : decode cX4_mergeLeast 0 = .ok (.iconst 0, 1) := by decide +kernel
theorem dX4_mergeLeast_1 : decode cX4_mergeLeast 1 = .ok (.istore_n 2, 1) := by decide +kernel
theorem dX4_mergeLeast_2 : decode cX4_mergeLeast 2 = .ok (.iconst 0, 1) := by decide +kernel
theorem dX4_mergeLeast_3 : decode cX4_mergeLeast 3 = .ok (.istore_n 3, 1) := by decide +kernel
theorem dX4_mergeLeast_4 : decode cX4_mergeLeast 4 = .ok (.iload_n 3, 1) := by decide +kernel
theorem dX4_mergeLeast_5 : decode cX4_mergeLeast 5 = .ok (.iload_n 1, 1) := by decide +kernel
theorem dX4_mergeLeast_6 : decode cX4_mergeLeast 6 = .ok (.if_icmp .ge 48, 3) := by decide +kernel
theorem dX4_mergeLeast_9 : decode cX4_mergeLeast 9 = .ok (.aload_n 0, 1) := by decide +kernel
theorem dX4_mergeLeast_10 : decode cX4_mergeLeast 10 = .ok (.getfield 31, 3) := by decide +kernel
theorem dX4_mergeLeast_13 : decode cX4_mergeLeast 13 = .ok (.aload_n 0, 1) := by decide +kernel
theorem dX4_mergeLeast_14 : decode cX4_mergeLeast 14 = .ok (.getfield 31, 3) := by decide +kernel
theorem dX4_mergeLeast_17 : decode cX4_mergeLeast 17 = .ok (.invokevirtual 125, 3) := by decide +kernel
theorem dX4_mergeLeast_20 : decode cX4_mergeLeast 20 = .ok (.invokevirtual 128, 3) := by decide +kernel
theorem dX4_mergeLeast_23 : decode cX4_mergeLeast 23 = .ok (.istore 4, 2) := by decide +kernel
theorem dX4_mergeLeast_25 : decode cX4_mergeLeast 25 = .ok (.aload_n 0, 1) := by decide +kernel
theorem dX4_mergeLeast_26 : decode cX4_mergeLeast 26 = .ok (.dup, 1) := by decide +kernel
theorem dX4_mergeLeast_27 : decode cX4_mergeLeast 27 = .ok (.getfield 24, 3) := by decide +kernel
theorem dX4_mergeLeast_30 : decode cX4_mergeLeast 30 = .ok (.iload 4, 2) := by decide +kernel
theorem dX4_mergeLeast_32 : decode cX4_mergeLeast 32 = .ok (.aload_n 0, 1) := by decide +kernel
theorem dX4_mergeLeast_33 : decode cX4_mergeLeast 33 = .ok (.getfield 41, 3) := by decide +kernel
theorem dX4_mergeLeast_36 : decode cX4_mergeLeast 36 = .ok (.invokestatic 99, 3) := by decide +kernel
theorem dX4_mergeLeast_39 : decode cX4_mergeLeast 39 = .ok (.iadd, 1) := by decide +kernel
theorem dX4_mergeLeast_40 : decode cX4_mergeLeast 40 = .ok (.putfield 24, 3) := by decide +kernel
theorem dX4_mergeLeast_43 : decode cX4_mergeLeast 43 = .ok (.iload_n 2, 1) := by decide +kernel
theorem dX4_mergeLeast_44 : decode cX4_mergeLeast 44 = .ok (.iload 4, 2) := by decide +kernel
theorem dX4_mergeLeast_46 : decode cX4_mergeLeast 46 = .ok (.iadd, 1) := by decide +kernel
theorem dX4_mergeLeast_47 : decode cX4_mergeLeast 47 = .ok (.istore_n 2, 1) := by decide +kernel
theorem dX4_mergeLeast_48 : decode cX4_mergeLeast 48 = .ok (.iinc 3 1, 3) := by decide +kernel
theorem dX4_mergeLeast_51 : decode cX4_mergeLeast 51 = .ok (.goto (-47), 3) := by decide +kernel
theorem dX4_mergeLeast_54 : decode cX4_mergeLeast 54 = .ok (.aload_n 0, 1) := by decide +kernel
theorem dX4_mergeLeast_55 : decode cX4_mergeLeast 55 = .ok (.getfield 31, 3) := by decide +kernel
theorem dX4_mergeLeast_58 : decode cX4_mergeLeast 58 = .ok (.iload_n 2, 1) := by decide +kernel
theorem dX4_mergeLeast_59 : decode cX4_mergeLeast 59 = .ok (.invokevirtual 84, 3) := by decide +kernel
theorem dX4_mergeLeast_62 : decode cX4_mergeLeast 62 = .ok (.aload_n 0, 1) := by decide +kernel
theorem dX4_mergeLeast_63 : decode cX4_mergeLeast 63 = .ok (.dup, 1) := by decide +kernel
theorem dX4_mergeLeast_64 : decode cX4_mergeLeast 64 = .ok (.getfield 28, 3) := by decide +kernel
theorem dX4_mergeLeast_67 : decode cX4_mergeLeast 67 = .ok (.iload_n 2, 1) := by decide +kernel
theorem dX4_mergeLeast_68 : decode cX4_mergeLeast 68 = .ok (.aload_n 0, 1) := by decide +kernel
theorem dX4_mergeLeast_69 : decode cX4_mergeLeast 69 = .ok (.getfield 41, 3) := by decide +kernel
theorem dX4_mergeLeast_72 : decode cX4_mergeLeast 72 = .ok (.invokestatic 99, 3) := by decide +kernel
theorem dX4_mergeLeast_75 : decode cX4_mergeLeast 75 = .ok (.iadd, 1) := by decide +kernel
theorem dX4_mergeLeast_76 : decode cX4_mergeLeast 76 = .ok (.putfield 28, 3) := by decide +kernel
theorem dX4_mergeLeast_79 : decode cX4_mergeLeast 79 = .ok (.aload_n 0, 1) := by decide +kernel
theorem dX4_mergeLeast_80 : decode cX4_mergeLeast 80 = .ok (.iload_n 1, 1) := by decide +kernel
theorem dX4_mergeLeast_81 : decode cX4_mergeLeast 81 = .ok (.iload_n 2, 1) := by decide +kernel
theorem dX4_mergeLeast_82 : decode cX4_mergeLeast 82 = .ok (.invokevirtual 110, 3) := by decide +kernel
theorem dX4_mergeLeast_85 : decode cX4_mergeLeast 85 = .ok (.return_, 1) := by decide +kernel
theorem dX4_noteMerge_0 : decode cX4_noteMerge 0 = .ok (.aload_n 0, 1) := by decide +kernel
theorem dX4_noteMerge_1 : decode cX4_noteMerge 1 = .ok (.getfield 18, 3) := by decide +kernel
theorem dX4_noteMerge_4 : decode cX4_noteMerge 4 = .ok (.iload_n 1, 1) := by decide +kernel
theorem dX4_noteMerge_5 : decode cX4_noteMerge 5 = .ok (.invokevirtual 84, 3) := by decide +kernel
theorem dX4_noteMerge_8 : decode cX4_noteMerge 8 = .ok (.aload_n 0, 1) := by decide +kernel
theorem dX4_noteMerge_9 : decode cX4_noteMerge 9 = .ok (.getfield 21, 3) := by decide +kernel
theorem dX4_noteMerge_12 : decode cX4_noteMerge 12 = .ok (.iload_n 2, 1) := by decide +kernel
theorem dX4_noteMerge_13 : decode cX4_noteMerge 13 = .ok (.invokevirtual 84, 3) := by decide +kernel
theorem dX4_noteMerge_16 : decode cX4_noteMerge 16 = .ok (.return_, 1) := by decide +kernel
theorem dX5_init_0 : decode cX5_init 0 = .ok (.aload_n 0, 1) := by decide +kernel
theorem dX5_init_1 : decode cX5_init 1 = .ok (.invokespecial 3, 3) := by decide +kernel
theorem dX5_init_4 : decode cX5_init 4 = .ok (.aload_n 0, 1) := by decide +kernel
theorem dX5_init_5 : decode cX5_init 5 = .ok (.bipush 120, 2) := by decide +kernel
theorem dX5_init_7 : decode cX5_init 7 = .ok (.newarray .int, 2) := by decide +kernel
theorem dX5_init_9 : decode cX5_init 9 = .ok (.putfield 9, 3) := by decide +kernel
theorem dX5_init_12 : decode cX5_init 12 = .ok (.aload_n 0, 1) := by decide +kernel
theorem dX5_init_13 : decode cX5_init 13 = .ok (.bipush 120, 2) := by decide +kernel
theorem dX5_init_15 : decode cX5_init 15 = .ok (.newarray .int, 2) := by decide +kernel
theorem dX5_init_17 : decode cX5_init 17 = .ok (.putfield 15, 3) := by decide +kernel
theorem dX5_init_20 : decode cX5_init 20 = .ok (.aload_n 0, 1) := by decide +kernel
theorem dX5_init_21 : decode cX5_init 21 = .ok (.iconst 0, 1) := by decide +kernel
theorem dX5_init_22 : decode cX5_init 22 = .ok (.putfield 18, 3) := by decide +kernel
theorem dX5_init_25 : decode cX5_init 25 = .ok (.return_, 1) := by decide +kernel
theorem dX5_empty_0 : decode cX5_empty 0 = .ok (.aload_n 0, 1) := by decide +kernel
theorem dX5_empty_1 : decode cX5_empty 1 = .ok (.iconst 0, 1) := by decide +kernel
theorem dX5_empty_2 : decode cX5_empty 2 = .ok (.putfield 18, 3) := by decide +kernel
theorem dX5_empty_5 : decode cX5_empty 5 = .ok (.return_, 1) := by decide +kernel
theorem dX5_count_0 : decode cX5_count 0 = .ok (.aload_n 0, 1) := by decide +kernel
theorem dX5_count_1 : decode cX5_count 1 = .ok (.getfield 18, 3) := by decide +kernel
theorem dX5_count_4 : decode cX5_count 4 = .ok (.ireturn, 1) := by decide +kernel
theorem dX5_has_0 : decode cX5_has 0 = .ok (.iload_n 1, 1) := by decide +kernel
theorem dX5_has_1 : decode cX5_has 1 = .ok (.ifCond .lt 15, 3) := by decide +kernel
theorem dX5_has_4 : decode cX5_has 4 = .ok (.iload_n 1, 1) := by decide +kernel
theorem dX5_has_5 : decode cX5_has 5 = .ok (.aload_n 0, 1) := by decide +kernel
theorem dX5_has_6 : decode cX5_has 6 = .ok (.getfield 18, 3) := by decide +kernel
theorem dX5_has_9 : decode cX5_has 9 = .ok (.if_icmp .ge 7, 3) := by decide +kernel
theorem dX5_has_12 : decode cX5_has 12 = .ok (.iconst 1, 1) := by decide +kernel
theorem dX5_has_13 : decode cX5_has 13 = .ok (.goto 4, 3) := by decide +kernel
theorem dX5_has_16 : decode cX5_has 16 = .ok (.iconst 0, 1) := by decide +kernel
theorem dX5_has_17 : decode cX5_has 17 = .ok (.ireturn, 1) := by decide +kernel
theorem dX5_keyAt_0 : decode cX5_keyAt 0 = .ok (.iload_n 1, 1) := by decide +kernel
theorem dX5_keyAt_1 : decode cX5_keyAt 1 = .ok (.ifCond .lt 20, 3) := by decide +kernel
theorem dX5_keyAt_4 : decode cX5_keyAt 4 = .ok (.iload_n 1, 1) := by decide +kernel
theorem dX5_keyAt_5 : decode cX5_keyAt 5 = .ok (.aload_n 0, 1) := by decide +kernel
theorem dX5_keyAt_6 : decode cX5_keyAt 6 = .ok (.getfield 18, 3) := by decide +kernel
theorem dX5_keyAt_9 : decode cX5_keyAt 9 = .ok (.if_icmp .ge 12, 3) := by decide +kernel
theorem dX5_keyAt_12 : decode cX5_keyAt 12 = .ok (.aload_n 0, 1) := by decide +kernel
theorem dX5_keyAt_13 : decode cX5_keyAt 13 = .ok (.getfield 9, 3) := by decide +kernel
theorem dX5_keyAt_16 : decode cX5_keyAt 16 = .ok (.iload_n 1, 1) := by decide +kernel
theorem dX5_keyAt_17 : decode cX5_keyAt 17 = .ok (.iaload, 1) := by decide +kernel
theorem dX5_keyAt_18 : decode cX5_keyAt 18 = .ok (.goto 4, 3) := by decide +kernel
theorem dX5_keyAt_21 : decode cX5_keyAt 21 = .ok (.iconst 0, 1) := by decide +kernel
theorem dX5_keyAt_22 : decode cX5_keyAt 22 = .ok (.ireturn, 1) := by decide +kernel
theorem dX5_markAt_0 : decode cX5_markAt 0 = .ok (.iload_n 1, 1) := by decide +kernel
theorem dX5_markAt_1 : decode cX5_markAt 1 = .ok (.ifCond .lt 20, 3) := by decide +kernel
theorem dX5_markAt_4 : decode cX5_markAt 4 = .ok (.iload_n 1, 1) := by decide +kernel
theorem dX5_markAt_5 : decode cX5_markAt 5 = .ok (.aload_n 0, 1) := by decide +kernel
theorem dX5_markAt_6 : decode cX5_markAt 6 = .ok (.getfield 18, 3) := by decide +kernel
theorem dX5_markAt_9 : decode cX5_markAt 9 = .ok (.if_icmp .ge 12, 3) := by decide +kernel
theorem dX5_markAt_12 : decode cX5_markAt 12 = .ok (.aload_n 0, 1) := by decide +kernel
theorem dX5_markAt_13 : decode cX5_markAt 13 = .ok (.getfield 15, 3) := by decide +kernel
theorem dX5_markAt_16 : decode cX5_markAt 16 = .ok (.iload_n 1, 1) := by decide +kernel
theorem dX5_markAt_17 : decode cX5_markAt 17 = .ok (.iaload, 1) := by decide +kernel
theorem dX5_markAt_18 : decode cX5_markAt 18 = .ok (.goto 4, 3) := by decide +kernel
theorem dX5_markAt_21 : decode cX5_markAt 21 = .ok (.iconst 0, 1) := by decide +kernel
theorem dX5_markAt_22 : decode cX5_markAt 22 = .ok (.ireturn, 1) := by decide +kernel
theorem dX5_add_0 : decode cX5_add 0 = .ok (.aload_n 0, 1) := by decide +kernel
theorem dX5_add_1 : decode cX5_add 1 = .ok (.getfield 18, 3) := by decide +kernel
theorem dX5_add_4 : decode cX5_add 4 = .ok (.bipush 120, 2) := by decide +kernel
theorem dX5_add_6 : decode cX5_add 6 = .ok (.if_icmp .ge 33, 3) := by decide +kernel
theorem dX5_add_9 : decode cX5_add 9 = .ok (.aload_n 0, 1) := by decide +kernel
theorem dX5_add_10 : decode cX5_add 10 = .ok (.getfield 9, 3) := by decide +kernel
theorem dX5_add_13 : decode cX5_add 13 = .ok (.aload_n 0, 1) := by decide +kernel
theorem dX5_add_14 : decode cX5_add 14 = .ok (.getfield 18, 3) := by decide +kernel
theorem dX5_add_17 : decode cX5_add 17 = .ok (.iload_n 1, 1) := by decide +kernel
theorem dX5_add_18 : decode cX5_add 18 = .ok (.iastore, 1) := by decide +kernel
theorem dX5_add_19 : decode cX5_add 19 = .ok (.aload_n 0, 1) := by decide +kernel
theorem dX5_add_20 : decode cX5_add 20 = .ok (.getfield 15, 3) := by decide +kernel
theorem dX5_add_23 : decode cX5_add 23 = .ok (.aload_n 0, 1) := by decide +kernel
theorem dX5_add_24 : decode cX5_add 24 = .ok (.getfield 18, 3) := by decide +kernel
theorem dX5_add_27 : decode cX5_add 27 = .ok (.iload_n 2, 1) := by decide +kernel
theorem dX5_add_28 : decode cX5_add 28 = .ok (.iastore, 1) := by decide +kernel
theorem dX5_add_29 : decode cX5_add 29 = .ok (.aload_n 0, 1) := by decide +kernel
theorem dX5_add_30 : decode cX5_add 30 = .ok (.dup, 1) := by decide +kernel
theorem dX5_add_31 : decode cX5_add 31 = .ok (.getfield 18, 3) := by decide +kernel
theorem dX5_add_34 : decode cX5_add 34 = .ok (.iconst 1, 1) := by decide +kernel
theorem dX5_add_35 : decode cX5_add 35 = .ok (.iadd, 1) := by decide +kernel
theorem dX5_add_36 : decode cX5_add 36 = .ok (.putfield 18, 3) := by decide +kernel
theorem dX5_add_39 : decode cX5_add 39 = .ok (.return_, 1) := by decide +kernel
theorem dX5_addAll_0 : decode cX5_addAll 0 = .ok (.iconst 0, 1) := by decide +kernel
theorem dX5_addAll_1 : decode cX5_addAll 1 = .ok (.istore_n 2, 1) := by decide +kernel
theorem dX5_addAll_2 : decode cX5_addAll 2 = .ok (.iload_n 2, 1) := by decide +kernel
theorem dX5_addAll_3 : decode cX5_addAll 3 = .ok (.aload_n 1, 1) := by decide +kernel
theorem dX5_addAll_4 : decode cX5_addAll 4 = .ok (.getfield 18, 3) := by decide +kernel
theorem dX5_addAll_7 : decode cX5_addAll 7 = .ok (.if_icmp .ge 25, 3) := by decide +kernel
theorem dX5_addAll_10 : decode cX5_addAll 10 = .ok (.aload_n 0, 1) := by decide +kernel
theorem dX5_addAll_11 : decode cX5_addAll 11 = .ok (.aload_n 1, 1) := by decide +kernel
theorem dX5_addAll_12 : decode cX5_addAll 12 = .ok (.getfield 9, 3) := by decide +kernel
theorem dX5_addAll_15 : decode cX5_addAll 15 = .ok (.iload_n 2, 1) := by decide +kernel
theorem dX5_addAll_16 : decode cX5_addAll 16 = .ok (.iaload, 1) := by decide +kernel
theorem dX5_addAll_17 : decode cX5_addAll 17 = .ok (.aload_n 1, 1) := by decide +kernel
theorem dX5_addAll_18 : decode cX5_addAll 18 = .ok (.getfield 15, 3) := by decide +kernel
theorem dX5_addAll_21 : decode cX5_addAll 21 = .ok (.iload_n 2, 1) := by decide +kernel
theorem dX5_addAll_22 : decode cX5_addAll 22 = .ok (.iaload, 1) := by decide +kernel
theorem dX5_addAll_23 : decode cX5_addAll 23 = .ok (.invokevirtual 22, 3) := by decide +kernel
theorem dX5_addAll_26 : decode cX5_addAll 26 = .ok (.iinc 2 1, 3) := by decide +kernel
theorem dX5_addAll_29 : decode cX5_addAll 29 = .ok (.goto (-27), 3) := by decide +kernel
theorem dX5_addAll_32 : decode cX5_addAll 32 = .ok (.return_, 1) := by decide +kernel
theorem dX5_isUp_0 : decode cX5_isUp 0 = .ok (.iconst 1, 1) := by decide +kernel
theorem dX5_isUp_1 : decode cX5_isUp 1 = .ok (.istore_n 1, 1) := by decide +kernel
theorem dX5_isUp_2 : decode cX5_isUp 2 = .ok (.iload_n 1, 1) := by decide +kernel
theorem dX5_isUp_3 : decode cX5_isUp 3 = .ok (.aload_n 0, 1) := by decide +kernel
theorem dX5_isUp_4 : decode cX5_isUp 4 = .ok (.getfield 18, 3) := by decide +kernel
theorem dX5_isUp_7 : decode cX5_isUp 7 = .ok (.if_icmp .ge 28, 3) := by decide +kernel
theorem dX5_isUp_10 : decode cX5_isUp 10 = .ok (.aload_n 0, 1) := by decide +kernel
theorem dX5_isUp_11 : decode cX5_isUp 11 = .ok (.getfield 9, 3) := by decide +kernel
theorem dX5_isUp_14 : decode cX5_isUp 14 = .ok (.iload_n 1, 1) := by decide +kernel
theorem dX5_isUp_15 : decode cX5_isUp 15 = .ok (.iaload, 1) := by decide +kernel
theorem dX5_isUp_16 : decode cX5_isUp 16 = .ok (.aload_n 0, 1) := by decide +kernel
theorem dX5_isUp_17 : decode cX5_isUp 17 = .ok (.getfield 9, 3) := by decide +kernel
theorem dX5_isUp_20 : decode cX5_isUp 20 = .ok (.iload_n 1, 1) := by decide +kernel
theorem dX5_isUp_21 : decode cX5_isUp 21 = .ok (.iconst 1, 1) := by decide +kernel
theorem dX5_isUp_22 : decode cX5_isUp 22 = .ok (.isub, 1) := by decide +kernel
theorem dX5_isUp_23 : decode cX5_isUp 23 = .ok (.iaload, 1) := by decide +kernel
theorem dX5_isUp_24 : decode cX5_isUp 24 = .ok (.if_icmp .ge 5, 3) := by decide +kernel
theorem dX5_isUp_27 : decode cX5_isUp 27 = .ok (.iconst 0, 1) := by decide +kernel
theorem dX5_isUp_28 : decode cX5_isUp 28 = .ok (.ireturn, 1) := by decide +kernel
theorem dX5_isUp_29 : decode cX5_isUp 29 = .ok (.iinc 1 1, 3) := by decide +kernel
theorem dX5_isUp_32 : decode cX5_isUp 32 = .ok (.goto (-30), 3) := by decide +kernel
theorem dX5_isUp_35 : decode cX5_isUp 35 = .ok (.iconst 1, 1) := by decide +kernel
theorem dX5_isUp_36 : decode cX5_isUp 36 = .ok (.ireturn, 1) := by decide +kernel
theorem dX5_isDown_0 : decode cX5_isDown 0 = .ok (.iconst 1, 1) := by decide +kernel
theorem dX5_isDown_1 : decode cX5_isDown 1 = .ok (.istore_n 1, 1) := by decide +kernel
theorem dX5_isDown_2 : decode cX5_isDown 2 = .ok (.iload_n 1, 1) := by decide +kernel
theorem dX5_isDown_3 : decode cX5_isDown 3 = .ok (.aload_n 0, 1) := by decide +kernel
theorem dX5_isDown_4 : decode cX5_isDown 4 = .ok (.getfield 18, 3) := by decide +kernel
theorem dX5_isDown_7 : decode cX5_isDown 7 = .ok (.if_icmp .ge 28, 3) := by decide +kernel
theorem dX5_isDown_10 : decode cX5_isDown 10 = .ok (.aload_n 0, 1) := by decide +kernel
theorem dX5_isDown_11 : decode cX5_isDown 11 = .ok (.getfield 9, 3) := by decide +kernel
theorem dX5_isDown_14 : decode cX5_isDown 14 = .ok (.iload_n 1, 1) := by decide +kernel
theorem dX5_isDown_15 : decode cX5_isDown 15 = .ok (.iaload, 1) := by decide +kernel
theorem dX5_isDown_16 : decode cX5_isDown 16 = .ok (.aload_n 0, 1) := by decide +kernel
theorem dX5_isDown_17 : decode cX5_isDown 17 = .ok (.getfield 9, 3) := by decide +kernel
theorem dX5_isDown_20 : decode cX5_isDown 20 = .ok (.iload_n 1, 1) := by decide +kernel
theorem dX5_isDown_21 : decode cX5_isDown 21 = .ok (.iconst 1, 1) := by decide +kernel
theorem dX5_isDown_22 : decode cX5_isDown 22 = .ok (.isub, 1) := by decide +kernel
theorem dX5_isDown_23 : decode cX5_isDown 23 = .ok (.iaload, 1) := by decide +kernel
theorem dX5_isDown_24 : decode cX5_isDown 24 = .ok (.if_icmp .le 5, 3) := by decide +kernel
theorem dX5_isDown_27 : decode cX5_isDown 27 = .ok (.iconst 0, 1) := by decide +kernel
theorem dX5_isDown_28 : decode cX5_isDown 28 = .ok (.ireturn, 1) := by decide +kernel
theorem dX5_isDown_29 : decode cX5_isDown 29 = .ok (.iinc 1 1, 3) := by decide +kernel
theorem dX5_isDown_32 : decode cX5_isDown 32 = .ok (.goto (-30), 3) := by decide +kernel
theorem dX5_isDown_35 : decode cX5_isDown 35 = .ok (.iconst 1, 1) := by decide +kernel
theorem dX5_isDown_36 : decode cX5_isDown 36 = .ok (.ireturn, 1) := by decide +kernel
theorem dX5_placeNotBelow_0 : decode cX5_placeNotBelow 0 = .ok (.iconst 0, 1) := by decide +kernel
theorem dX5_placeNotBelow_1 : decode cX5_placeNotBelow 1 = .ok (.iload_n 2, 1) := by decide +kernel
theorem dX5_placeNotBelow_2 : decode cX5_placeNotBelow 2 = .ok (.invokestatic 26, 3) := by decide +kernel
theorem dX5_placeNotBelow_5 : decode cX5_placeNotBelow 5 = .ok (.istore_n 3, 1) := by decide +kernel
theorem dX5_placeNotBelow_6 : decode cX5_placeNotBelow 6 = .ok (.iload_n 3, 1) := by decide +kernel
theorem dX5_placeNotBelow_7 : decode cX5_placeNotBelow 7 = .ok (.aload_n 0, 1) := by decide +kernel
theorem dX5_placeNotBelow_8 : decode cX5_placeNotBelow 8 = .ok (.getfield 18, 3) := by decide +kernel
theorem dX5_placeNotBelow_11 : decode cX5_placeNotBelow 11 = .ok (.if_icmp .ge 19, 3) := by decide +kernel
theorem dX5_placeNotBelow_14 : decode cX5_placeNotBelow 14 = .ok (.aload_n 0, 1) := by decide +kernel
theorem dX5_placeNotBelow_15 : decode cX5_placeNotBelow 15 = .ok (.getfield 9, 3) := by decide +kernel
theorem dX5_placeNotBelow_18 : decode cX5_placeNotBelow 18 = .ok (.iload_n 3, 1) := by decide +kernel
theorem dX5_placeNotBelow_19 : decode cX5_placeNotBelow 19 = .ok (.iaload, 1) := by decide +kernel
theorem dX5_placeNotBelow_20 : decode cX5_placeNotBelow 20 = .ok (.iload_n 1, 1) := by decide +kernel
theorem dX5_placeNotBelow_21 : decode cX5_placeNotBelow 21 = .ok (.if_icmp .ge 9, 3) := by decide +kernel
theorem dX5_placeNotBelow_24 : decode cX5_placeNotBelow 24 = .ok (.iinc 3 1, 3) := by decide +kernel
theorem dX5_placeNotBelow_27 : decode cX5_placeNotBelow 27 = .ok (.goto (-21), 3) := by decide +kernel
theorem dX5_placeNotBelow_30 : decode cX5_placeNotBelow 30 = .ok (.iload_n 3, 1) := by decide +kernel
theorem dX5_placeNotBelow_31 : decode cX5_placeNotBelow 31 = .ok (.ireturn, 1) := by decide +kernel
theorem dX6_init_0 : decode cX6_init 0 = .ok (.aload_n 0, 1) := by decide +kernel
theorem dX6_init_1 : decode cX6_init 1 = .ok (.invokespecial 3, 3) := by decide +kernel
theorem dX6_init_4 : decode cX6_init 4 = .ok (.aload_n 0, 1) := by decide +kernel
theorem dX6_init_5 : decode cX6_init 5 = .ok (.iconst 4, 1) := by decide +kernel
theorem dX6_init_6 : decode cX6_init 6 = .ok (.putfield 9, 3) := by decide +kernel
theorem dX6_init_9 : decode cX6_init 9 = .ok (.aload_n 0, 1) := by decide +kernel
theorem dX6_init_10 : decode cX6_init 10 = .ok (.iconst 4, 1) := by decide +kernel
theorem dX6_init_11 : decode cX6_init 11 = .ok (.putfield 15, 3) := by decide +kernel
theorem dX6_init_14 : decode cX6_init 14 = .ok (.aload_n 0, 1) := by decide +kernel
theorem dX6_init_15 : decode cX6_init 15 = .ok (.iconst 3, 1) := by decide +kernel
theorem dX6_init_16 : decode cX6_init 16 = .ok (.anewarray 18, 3) := by decide +kernel
theorem dX6_init_19 : decode cX6_init 19 = .ok (.putfield 20, 3) := by decide +kernel
theorem dX6_init_22 : decode cX6_init 22 = .ok (.aload_n 0, 1) := by decide +kernel
theorem dX6_init_23 : decode cX6_init 23 = .ok (.iconst 3, 1) := by decide +kernel
theorem dX6_init_24 : decode cX6_init 24 = .ok (.anewarray 18, 3) := by decide +kernel
theorem dX6_init_27 : decode cX6_init 27 = .ok (.putfield 24, 3) := by decide +kernel
theorem dX6_init_30 : decode cX6_init 30 = .ok (.aload_n 0, 1) := by decide +kernel
theorem dX6_init_31 : decode cX6_init 31 = .ok (.new 18, 3) := by decide +kernel
theorem dX6_init_34 : decode cX6_init 34 = .ok (.dup, 1) := by decide +kernel
theorem dX6_init_35 : decode cX6_init 35 = .ok (.invokespecial 27, 3) := by decide +kernel
theorem dX6_init_38 : decode cX6_init 38 = .ok (.putfield 28, 3) := by decide +kernel
theorem dX6_init_41 : decode cX6_init 41 = .ok (.iconst 0, 1) := by decide +kernel
theorem dX6_init_42 : decode cX6_init 42 = .ok (.istore_n 1, 1) := by decide +kernel
theorem dX6_init_43 : decode cX6_init 43 = .ok (.iload_n 1, 1) := by decide +kernel
theorem dX6_init_44 : decode cX6_init 44 = .ok (.iconst 3, 1) := by decide +kernel
theorem dX6_init_45 : decode cX6_init 45 = .ok (.if_icmp .ge 35, 3) := by decide +kernel
theorem dX6_init_48 : decode cX6_init 48 = .ok (.aload_n 0, 1) := by decide +kernel
theorem dX6_init_49 : decode cX6_init 49 = .ok (.getfield 20, 3) := by decide +kernel
theorem dX6_init_52 : decode cX6_init 52 = .ok (.iload_n 1, 1) := by decide +kernel
theorem dX6_init_53 : decode cX6_init 53 = .ok (.new 18, 3) := by decide +kernel
theorem dX6_init_56 : decode cX6_init 56 = .ok (.dup, 1) := by decide +kernel
theorem dX6_init_57 : decode cX6_init 57 = .ok (.invokespecial 27, 3) := by decide +kernel
theorem dX6_init_60 : decode cX6_init 60 = .ok (.aastore, 1) := by decide +kernel
theorem dX6_init_61 : decode cX6_init 61 = .ok (.aload_n 0, 1) := by decide +kernel
theorem dX6_init_62 : decode cX6_init 62 = .ok (.getfield 24, 3) := by decide +kernel
theorem dX6_init_65 : decode cX6_init 65 = .ok (.iload_n 1, 1) := by decide +kernel
theorem dX6_init_66 : decode cX6_init 66 = .ok (.new 18, 3) := by decide +kernel
theorem dX6_init_69 : decode cX6_init 69 = .ok (.dup, 1) := by decide +kernel
theorem dX6_init_70 : decode cX6_init 70 = .ok (.invokespecial 27, 3) := by decide +kernel
theorem dX6_init_73 : decode cX6_init 73 = .ok (.aastore, 1) := by decide +kernel
theorem dX6_init_74 : decode cX6_init 74 = .ok (.iinc 1 1, 3) := by decide +kernel
theorem dX6_init_77 : decode cX6_init 77 = .ok (.goto (-34), 3) := by decide +kernel
theorem dX6_init_80 : decode cX6_init 80 = .ok (.return_, 1) := by decide +kernel
theorem dX6_fillOne_0 : decode cX6_fillOne 0 = .ok (.iload_n 2, 1) := by decide +kernel
theorem dX6_fillOne_1 : decode cX6_fillOne 1 = .ok (.ifCond .lt 21, 3) := by decide +kernel
theorem dX6_fillOne_4 : decode cX6_fillOne 4 = .ok (.iload_n 2, 1) := by decide +kernel
theorem dX6_fillOne_5 : decode cX6_fillOne 5 = .ok (.aload_n 0, 1) := by decide +kernel
theorem dX6_fillOne_6 : decode cX6_fillOne 6 = .ok (.getfield 20, 3) := by decide +kernel
theorem dX6_fillOne_9 : decode cX6_fillOne 9 = .ok (.arraylength, 1) := by decide +kernel
theorem dX6_fillOne_10 : decode cX6_fillOne 10 = .ok (.if_icmp .ge 12, 3) := by decide +kernel
theorem dX6_fillOne_13 : decode cX6_fillOne 13 = .ok (.aload_n 0, 1) := by decide +kernel
theorem dX6_fillOne_14 : decode cX6_fillOne 14 = .ok (.getfield 20, 3) := by decide +kernel
theorem dX6_fillOne_17 : decode cX6_fillOne 17 = .ok (.iload_n 2, 1) := by decide +kernel
theorem dX6_fillOne_18 : decode cX6_fillOne 18 = .ok (.aaload, 1) := by decide +kernel
theorem dX6_fillOne_19 : decode cX6_fillOne 19 = .ok (.goto 7, 3) := by decide +kernel
theorem dX6_fillOne_22 : decode cX6_fillOne 22 = .ok (.aload_n 0, 1) := by decide +kernel
theorem dX6_fillOne_23 : decode cX6_fillOne 23 = .ok (.getfield 28, 3) := by decide +kernel
theorem dX6_fillOne_26 : decode cX6_fillOne 26 = .ok (.astore 4, 2) := by decide +kernel
theorem dX6_fillOne_28 : decode cX6_fillOne 28 = .ok (.aload_n 0, 1) := by decide +kernel
theorem dX6_fillOne_29 : decode cX6_fillOne 29 = .ok (.aload 4, 2) := by decide +kernel
theorem dX6_fillOne_31 : decode cX6_fillOne 31 = .ok (.aload_n 1, 1) := by decide +kernel
theorem dX6_fillOne_32 : decode cX6_fillOne 32 = .ok (.iload_n 2, 1) := by decide +kernel
theorem dX6_fillOne_33 : decode cX6_fillOne 33 = .ok (.iload_n 3, 1) := by decide +kernel
theorem dX6_fillOne_34 : decode cX6_fillOne 34 = .ok (.invokevirtual 32, 3) := by decide +kernel
theorem dX6_fillOne_37 : decode cX6_fillOne 37 = .ok (.aload 4, 2) := by decide +kernel
theorem dX6_fillOne_39 : decode cX6_fillOne 39 = .ok (.areturn, 1) := by decide +kernel
theorem dX6_fillOther_0 : decode cX6_fillOther 0 = .ok (.iload_n 2, 1) := by decide +kernel
theorem dX6_fillOther_1 : decode cX6_fillOther 1 = .ok (.ifCond .lt 21, 3) := by decide +kernel
theorem dX6_fillOther_4 : decode cX6_fillOther 4 = .ok (.iload_n 2, 1) := by decide +kernel
theorem dX6_fillOther_5 : decode cX6_fillOther 5 = .ok (.aload_n 0, 1) := by decide +kernel
theorem dX6_fillOther_6 : decode cX6_fillOther 6 = .ok (.getfield 24, 3) := by decide +kernel
theorem dX6_fillOther_9 : decode cX6_fillOther 9 = .ok (.arraylength, 1) := by decide +kernel
theorem dX6_fillOther_10 : decode cX6_fillOther 10 = .ok (.if_icmp .ge 12, 3) := by decide +kernel
theorem dX6_fillOther_13 : decode cX6_fillOther 13 = .ok (.aload_n 0, 1) := by decide +kernel
theorem dX6_fillOther_14 : decode cX6_fillOther 14 = .ok (.getfield 24, 3) := by decide +kernel
theorem dX6_fillOther_17 : decode cX6_fillOther 17 = .ok (.iload_n 2, 1) := by decide +kernel
theorem dX6_fillOther_18 : decode cX6_fillOther 18 = .ok (.aaload, 1) := by decide +kernel
theorem dX6_fillOther_19 : decode cX6_fillOther 19 = .ok (.goto 7, 3) := by decide +kernel
theorem dX6_fillOther_22 : decode cX6_fillOther 22 = .ok (.aload_n 0, 1) := by decide +kernel
theorem dX6_fillOther_23 : decode cX6_fillOther 23 = .ok (.getfield 28, 3) := by decide +kernel
theorem dX6_fillOther_26 : decode cX6_fillOther 26 = .ok (.astore 4, 2) := by decide +kernel
theorem dX6_fillOther_28 : decode cX6_fillOther 28 = .ok (.aload_n 0, 1) := by decide +kernel
theorem dX6_fillOther_29 : decode cX6_fillOther 29 = .ok (.aload 4, 2) := by decide +kernel
theorem dX6_fillOther_31 : decode cX6_fillOther 31 = .ok (.aload_n 1, 1) := by decide +kernel
theorem dX6_fillOther_32 : decode cX6_fillOther 32 = .ok (.iload_n 2, 1) := by decide +kernel
theorem dX6_fillOther_33 : decode cX6_fillOther 33 = .ok (.iload_n 3, 1) := by decide +kernel
theorem dX6_fillOther_34 : decode cX6_fillOther 34 = .ok (.invokevirtual 32, 3) := by decide +kernel
theorem dX6_fillOther_37 : decode cX6_fillOther 37 = .ok (.aload 4, 2) := by decide +kernel
theorem dX6_fillOther_39 : decode cX6_fillOther 39 = .ok (.areturn, 1) := by decide +kernel
theorem dX6_fill_0 : decode cX6_fill 0 = .ok (.iconst 2, 1) := by decide +kernel
theorem dX6_fill_1 : decode cX6_fill 1 = .ok (.aload_n 0, 1) := by decide +kernel
theorem dX6_fill_2 : decode cX6_fill 2 = .ok (.getfield 15, 3) := by decide +kernel
theorem dX6_fill_5 : decode cX6_fill 5 = .ok (.iconst 1, 1) := by decide +kernel
theorem dX6_fill_6 : decode cX6_fill 6 = .ok (.isub, 1) := by decide +kernel
theorem dX6_fill_7 : decode cX6_fill 7 = .ok (.invokestatic 36, 3) := by decide +kernel
theorem dX6_fill_10 : decode cX6_fill 10 = .ok (.istore 5, 2) := by decide +kernel
theorem dX6_fill_12 : decode cX6_fill 12 = .ok (.iconst 1, 1) := by decide +kernel
theorem dX6_fill_13 : decode cX6_fill 13 = .ok (.istore 6, 2) := by decide +kernel
theorem dX6_fill_15 : decode cX6_fill 15 = .ok (.iconst 0, 1) := by decide +kernel
theorem dX6_fill_16 : decode cX6_fill 16 = .ok (.istore 7, 2) := by decide +kernel
theorem dX6_fill_18 : decode cX6_fill 18 = .ok (.iload 7, 2) := by decide +kernel
theorem dX6_fill_20 : decode cX6_fill 20 = .ok (.iload_n 3, 1) := by decide +kernel
theorem dX6_fill_21 : decode cX6_fill 21 = .ok (.if_icmp .ge 22, 3) := by decide +kernel
theorem dX6_fill_24 : decode cX6_fill 24 = .ok (.iload 7, 2) := by decide +kernel
theorem dX6_fill_26 : decode cX6_fill 26 = .ok (.iconst 3, 1) := by decide +kernel
theorem dX6_fill_27 : decode cX6_fill 27 = .ok (.if_icmp .ge 16, 3) := by decide +kernel
theorem dX6_fill_30 : decode cX6_fill 30 = .ok (.iload 6, 2) := by decide +kernel
theorem dX6_fill_32 : decode cX6_fill 32 = .ok (.iload 5, 2) := by decide +kernel
theorem dX6_fill_34 : decode cX6_fill 34 = .ok (.imul, 1) := by decide +kernel
theorem dX6_fill_35 : decode cX6_fill 35 = .ok (.istore 6, 2) := by decide +kernel
theorem dX6_fill_37 : decode cX6_fill 37 = .ok (.iinc 7 1, 3) := by decide +kernel
theorem dX6_fill_40 : decode cX6_fill 40 = .ok (.goto (-22), 3) := by decide +kernel
theorem dX6_fill_43 : decode cX6_fill 43 = .ok (.aload_n 1, 1) := by decide +kernel
theorem dX6_fill_44 : decode cX6_fill 44 = .ok (.invokevirtual 42, 3) := by decide +kernel
theorem dX6_fill_47 : decode cX6_fill 47 = .ok (.iconst 0, 1) := by decide +kernel
theorem dX6_fill_48 : decode cX6_fill 48 = .ok (.istore 7, 2) := by decide +kernel
theorem dX6_fill_50 : decode cX6_fill 50 = .ok (.iload 7, 2) := by decide +kernel
theorem dX6_fill_52 : decode cX6_fill 52 = .ok (.aload_n 2, 1) := by decide +kernel
theorem dX6_fill_53 : decode cX6_fill 53 = .ok (.invokevirtual 45, 3) := by decide +kernel
theorem dX6_fill_56 : decode cX6_fill 56 = .ok (.if_icmp .ge 45, 3) := by decide +kernel
theorem dX6_fill_59 : decode cX6_fill 59 = .ok (.aload_n 2, 1) := by decide +kernel
theorem dX6_fill_60 : decode cX6_fill 60 = .ok (.iload 7, 2) := by decide +kernel
theorem dX6_fill_62 : decode cX6_fill 62 = .ok (.invokevirtual 49, 3) := by decide +kernel
theorem dX6_fill_65 : decode cX6_fill 65 = .ok (.istore 8, 2) := by decide +kernel
theorem dX6_fill_67 : decode cX6_fill 67 = .ok (.iload 8, 2) := by decide +kernel
theorem dX6_fill_69 : decode cX6_fill 69 = .ok (.invokestatic 53, 3) := by decide +kernel
theorem dX6_fill_72 : decode cX6_fill 72 = .ok (.iload 6, 2) := by decide +kernel
theorem dX6_fill_74 : decode cX6_fill 74 = .ok (.idiv, 1) := by decide +kernel
theorem dX6_fill_75 : decode cX6_fill 75 = .ok (.iload 5, 2) := by decide +kernel
theorem dX6_fill_77 : decode cX6_fill 77 = .ok (.irem, 1) := by decide +kernel
theorem dX6_fill_78 : decode cX6_fill 78 = .ok (.iload 4, 2) := by decide +kernel
theorem dX6_fill_80 : decode cX6_fill 80 = .ok (.if_icmp .ne 15, 3) := by decide +kernel
theorem dX6_fill_83 : decode cX6_fill 83 = .ok (.aload_n 1, 1) := by decide +kernel
theorem dX6_fill_84 : decode cX6_fill 84 = .ok (.iload 8, 2) := by decide +kernel
theorem dX6_fill_86 : decode cX6_fill 86 = .ok (.aload_n 2, 1) := by decide +kernel
theorem dX6_fill_87 : decode cX6_fill 87 = .ok (.iload 7, 2) := by decide +kernel
theorem dX6_fill_89 : decode cX6_fill 89 = .ok (.invokevirtual 56, 3) := by decide +kernel
theorem dX6_fill_92 : decode cX6_fill 92 = .ok (.invokevirtual 59, 3) := by decide +kernel
theorem dX6_fill_95 : decode cX6_fill 95 = .ok (.iinc 7 1, 3) := by decide +kernel
theorem dX6_fill_98 : decode cX6_fill 98 = .ok (.goto (-48), 3) := by decide +kernel
theorem dX6_fill_101 : decode cX6_fill 101 = .ok (.return_, 1) := by decide +kernel
theorem dX7_init_0 : decode cX7_init 0 = .ok (.aload_n 0, 1) := by decide +kernel
theorem dX7_init_1 : decode cX7_init 1 = .ok (.invokespecial 3, 3) := by decide +kernel
theorem dX7_init_4 : decode cX7_init 4 = .ok (.aload_n 0, 1) := by decide +kernel
theorem dX7_init_5 : decode cX7_init 5 = .ok (.iconst 0, 1) := by decide +kernel
theorem dX7_init_6 : decode cX7_init 6 = .ok (.putfield 9, 3) := by decide +kernel
theorem dX7_init_9 : decode cX7_init 9 = .ok (.aload_n 0, 1) := by decide +kernel
theorem dX7_init_10 : decode cX7_init 10 = .ok (.iconst 0, 1) := by decide +kernel
theorem dX7_init_11 : decode cX7_init 11 = .ok (.putfield 15, 3) := by decide +kernel
theorem dX7_init_14 : decode cX7_init 14 = .ok (.aload_n 0, 1) := by decide +kernel
theorem dX7_init_15 : decode cX7_init 15 = .ok (.iconst 0, 1) := by decide +kernel
theorem dX7_init_16 : decode cX7_init 16 = .ok (.putfield 19, 3) := by decide +kernel
theorem dX7_init_19 : decode cX7_init 19 = .ok (.aload_n 0, 1) := by decide +kernel
theorem dX7_init_20 : decode cX7_init 20 = .ok (.iconst 0, 1) := by decide +kernel
theorem dX7_init_21 : decode cX7_init 21 = .ok (.putfield 22, 3) := by decide +kernel
theorem dX7_init_24 : decode cX7_init 24 = .ok (.aload_n 0, 1) := by decide +kernel
theorem dX7_init_25 : decode cX7_init 25 = .ok (.iconst 0, 1) := by decide +kernel
theorem dX7_init_26 : decode cX7_init 26 = .ok (.putfield 25, 3) := by decide +kernel
theorem dX7_init_29 : decode cX7_init 29 = .ok (.aload_n 0, 1) := by decide +kernel
theorem dX7_init_30 : decode cX7_init 30 = .ok (.iconst 0, 1) := by decide +kernel
theorem dX7_init_31 : decode cX7_init 31 = .ok (.putfield 28, 3) := by decide +kernel
theorem dX7_init_34 : decode cX7_init 34 = .ok (.aload_n 0, 1) := by decide +kernel
theorem dX7_init_35 : decode cX7_init 35 = .ok (.bipush 8, 2) := by decide +kernel
theorem dX7_init_37 : decode cX7_init 37 = .ok (.anewarray 31, 3) := by decide +kernel
theorem dX7_init_40 : decode cX7_init 40 = .ok (.putfield 33, 3) := by decide +kernel
theorem dX7_init_43 : decode cX7_init 43 = .ok (.aload_n 0, 1) := by decide +kernel
theorem dX7_init_44 : decode cX7_init 44 = .ok (.bipush 8, 2) := by decide +kernel
theorem dX7_init_46 : decode cX7_init 46 = .ok (.newarray .int, 2) := by decide +kernel
theorem dX7_init_48 : decode cX7_init 48 = .ok (.putfield 37, 3) := by decide +kernel
theorem dX7_init_51 : decode cX7_init 51 = .ok (.aload_n 0, 1) := by decide +kernel
theorem dX7_init_52 : decode cX7_init 52 = .ok (.bipush 8, 2) := by decide +kernel
theorem dX7_init_54 : decode cX7_init 54 = .ok (.newarray .int, 2) := by decide +kernel
theorem dX7_init_56 : decode cX7_init 56 = .ok (.putfield 41, 3) := by decide +kernel
theorem dX7_init_59 : decode cX7_init 59 = .ok (.aload_n 0, 1) := by decide +kernel
theorem dX7_init_60 : decode cX7_init 60 = .ok (.bipush 16, 2) := by decide +kernel
theorem dX7_init_62 : decode cX7_init 62 = .ok (.newarray .int, 2) := by decide +kernel
theorem dX7_init_64 : decode cX7_init 64 = .ok (.putfield 44, 3) := by decide +kernel
theorem dX7_init_67 : decode cX7_init 67 = .ok (.return_, 1) := by decide +kernel
theorem dX7_prepare_0 : decode cX7_prepare 0 = .ok (.aload_n 0, 1) := by decide +kernel
theorem dX7_prepare_1 : decode cX7_prepare 1 = .ok (.iload_n 1, 1) := by decide +kernel
theorem dX7_prepare_2 : decode cX7_prepare 2 = .ok (.putfield 25, 3) := by decide +kernel
theorem dX7_prepare_5 : decode cX7_prepare 5 = .ok (.aload_n 0, 1) := by decide +kernel
theorem dX7_prepare_6 : decode cX7_prepare 6 = .ok (.iload_n 2, 1) := by decide +kernel
theorem dX7_prepare_7 : decode cX7_prepare 7 = .ok (.putfield 28, 3) := by decide +kernel
theorem dX7_prepare_10 : decode cX7_prepare 10 = .ok (.aload_n 0, 1) := by decide +kernel
theorem dX7_prepare_11 : decode cX7_prepare 11 = .ok (.iconst 2, 1) := by decide +kernel
theorem dX7_prepare_12 : decode cX7_prepare 12 = .ok (.putfield 15, 3) := by decide +kernel
theorem dX7_prepare_15 : decode cX7_prepare 15 = .ok (.aload_n 0, 1) := by decide +kernel
theorem dX7_prepare_16 : decode cX7_prepare 16 = .ok (.getfield 15, 3) := by decide +kernel
theorem dX7_prepare_19 : decode cX7_prepare 19 = .ok (.iload_n 2, 1) := by decide +kernel
theorem dX7_prepare_20 : decode cX7_prepare 20 = .ok (.if_icmp .ge 25, 3) := by decide +kernel
theorem dX7_prepare_23 : decode cX7_prepare 23 = .ok (.aload_n 0, 1) := by decide +kernel
theorem dX7_prepare_24 : decode cX7_prepare 24 = .ok (.getfield 15, 3) := by decide +kernel
theorem dX7_prepare_27 : decode cX7_prepare 27 = .ok (.bipush 8, 2) := by decide +kernel
end
section
-- decode rows, part 3
theorem dX7_prepare_29 : decode cX7_prepare 29 = .ok (.if_icmp .ge 16, 3) := by decide +kernel
theorem dX7_prepare_32 : decode cX7_prepare 32 = .ok (.aload_n 0, 1) := by decide +kernel
theorem dX7_prepare_33 : decode cX7_prepare 33 = .ok (.dup, 1) := by decide +kernel
theorem dX7_prepare_34 : decode cX7_prepare 34 = .ok (.getfield 15, 3) := by decide +kernel
theorem dX7_prepare_37 : decode cX7_prepare 37 = .ok (.iconst 2, 1) := by decide +kernel
theorem dX7_prepare_38 : decode cX7_prepare 38 = .ok (.imul, 1) := by decide +kernel
theorem dX7_prepare_39 : decode cX7_prepare 39 = .ok (.putfield 15, 3) := by decide +kernel
theorem dX7_prepare_42 : decode cX7_prepare 42 = .ok (.goto (-27), 3) := by decide +kernel
theorem dX7_prepare_45 : decode cX7_prepare 45 = .ok (.return_, 1) := by decide +kernel
theorem dX7_seat_0 : decode cX7_seat 0 = .ok (.iload_n 1, 1) := by decide +kernel
theorem dX7_seat_1 : decode cX7_seat 1 = .ok (.ifCond .lt 23, 3) := by decide +kernel
theorem dX7_seat_4 : decode cX7_seat 4 = .ok (.iload_n 1, 1) := by decide +kernel
theorem dX7_seat_5 : decode cX7_seat 5 = .ok (.bipush 8, 2) := by decide +kernel
theorem dX7_seat_7 : decode cX7_seat 7 = .ok (.if_icmp .ge 17, 3) := by decide +kernel
theorem dX7_seat_10 : decode cX7_seat 10 = .ok (.aload_n 0, 1) := by decide +kernel
theorem dX7_seat_11 : decode cX7_seat 11 = .ok (.getfield 33, 3) := by decide +kernel
theorem dX7_seat_14 : decode cX7_seat 14 = .ok (.iload_n 1, 1) := by decide +kernel
theorem dX7_seat_15 : decode cX7_seat 15 = .ok (.aload_n 2, 1) := by decide +kernel
theorem dX7_seat_16 : decode cX7_seat 16 = .ok (.aastore, 1) := by decide +kernel
theorem dX7_seat_17 : decode cX7_seat 17 = .ok (.aload_n 0, 1) := by decide +kernel
theorem dX7_seat_18 : decode cX7_seat 18 = .ok (.getfield 37, 3) := by decide +kernel
theorem dX7_seat_21 : decode cX7_seat 21 = .ok (.iload_n 1, 1) := by decide +kernel
theorem dX7_seat_22 : decode cX7_seat 22 = .ok (.iconst 0, 1) := by decide +kernel
theorem dX7_seat_23 : decode cX7_seat 23 = .ok (.iastore, 1) := by decide +kernel
theorem dX7_seat_24 : decode cX7_seat 24 = .ok (.return_, 1) := by decide +kernel
theorem dX7_open_0 : decode cX7_open 0 = .ok (.aload_n 0, 1) := by decide +kernel
theorem dX7_open_1 : decode cX7_open 1 = .ok (.iconst 1, 1) := by decide +kernel
theorem dX7_open_2 : decode cX7_open 2 = .ok (.putfield 9, 3) := by decide +kernel
theorem dX7_open_5 : decode cX7_open 5 = .ok (.aload_n 0, 1) := by decide +kernel
theorem dX7_open_6 : decode cX7_open 6 = .ok (.iconst 0, 1) := by decide +kernel
theorem dX7_open_7 : decode cX7_open 7 = .ok (.putfield 22, 3) := by decide +kernel
theorem dX7_open_10 : decode cX7_open 10 = .ok (.iconst 0, 1) := by decide +kernel
theorem dX7_open_11 : decode cX7_open 11 = .ok (.istore_n 1, 1) := by decide +kernel
theorem dX7_open_12 : decode cX7_open 12 = .ok (.iload_n 1, 1) := by decide +kernel
theorem dX7_open_13 : decode cX7_open 13 = .ok (.aload_n 0, 1) := by decide +kernel
theorem dX7_open_14 : decode cX7_open 14 = .ok (.getfield 15, 3) := by decide +kernel
theorem dX7_open_17 : decode cX7_open 17 = .ok (.if_icmp .ge 21, 3) := by decide +kernel
theorem dX7_open_20 : decode cX7_open 20 = .ok (.aload_n 0, 1) := by decide +kernel
theorem dX7_open_21 : decode cX7_open 21 = .ok (.getfield 44, 3) := by decide +kernel
theorem dX7_open_24 : decode cX7_open 24 = .ok (.aload_n 0, 1) := by decide +kernel
theorem dX7_open_25 : decode cX7_open 25 = .ok (.getfield 15, 3) := by decide +kernel
theorem dX7_open_28 : decode cX7_open 28 = .ok (.iload_n 1, 1) := by decide +kernel
theorem dX7_open_29 : decode cX7_open 29 = .ok (.iadd, 1) := by decide +kernel
theorem dX7_open_30 : decode cX7_open 30 = .ok (.iload_n 1, 1) := by decide +kernel
theorem dX7_open_31 : decode cX7_open 31 = .ok (.iastore, 1) := by decide +kernel
theorem dX7_open_32 : decode cX7_open 32 = .ok (.iinc 1 1, 3) := by decide +kernel
theorem dX7_open_35 : decode cX7_open 35 = .ok (.goto (-23), 3) := by decide +kernel
theorem dX7_open_38 : decode cX7_open 38 = .ok (.aload_n 0, 1) := by decide +kernel
theorem dX7_open_39 : decode cX7_open 39 = .ok (.getfield 15, 3) := by decide +kernel
theorem dX7_open_42 : decode cX7_open 42 = .ok (.iconst 1, 1) := by decide +kernel
theorem dX7_open_43 : decode cX7_open 43 = .ok (.isub, 1) := by decide +kernel
theorem dX7_open_44 : decode cX7_open 44 = .ok (.istore_n 1, 1) := by decide +kernel
theorem dX7_open_45 : decode cX7_open 45 = .ok (.iload_n 1, 1) := by decide +kernel
theorem dX7_open_46 : decode cX7_open 46 = .ok (.iconst 1, 1) := by decide +kernel
theorem dX7_open_47 : decode cX7_open 47 = .ok (.if_icmp .lt 38, 3) := by decide +kernel
theorem dX7_open_50 : decode cX7_open 50 = .ok (.aload_n 0, 1) := by decide +kernel
theorem dX7_open_51 : decode cX7_open 51 = .ok (.getfield 44, 3) := by decide +kernel
theorem dX7_open_54 : decode cX7_open 54 = .ok (.iload_n 1, 1) := by decide +kernel
theorem dX7_open_55 : decode cX7_open 55 = .ok (.aload_n 0, 1) := by decide +kernel
theorem dX7_open_56 : decode cX7_open 56 = .ok (.iload_n 1, 1) := by decide +kernel
theorem dX7_open_57 : decode cX7_open 57 = .ok (.aload_n 0, 1) := by decide +kernel
theorem dX7_open_58 : decode cX7_open 58 = .ok (.getfield 44, 3) := by decide +kernel
theorem dX7_open_61 : decode cX7_open 61 = .ok (.iconst 2, 1) := by decide +kernel
theorem dX7_open_62 : decode cX7_open 62 = .ok (.iload_n 1, 1) := by decide +kernel
theorem dX7_open_63 : decode cX7_open 63 = .ok (.imul, 1) := by decide +kernel
theorem dX7_open_64 : decode cX7_open 64 = .ok (.iaload, 1) := by decide +kernel
theorem dX7_open_65 : decode cX7_open 65 = .ok (.aload_n 0, 1) := by decide +kernel
theorem dX7_open_66 : decode cX7_open 66 = .ok (.getfield 44, 3) := by decide +kernel
theorem dX7_open_69 : decode cX7_open 69 = .ok (.iconst 2, 1) := by decide +kernel
theorem dX7_open_70 : decode cX7_open 70 = .ok (.iload_n 1, 1) := by decide +kernel
theorem dX7_open_71 : decode cX7_open 71 = .ok (.imul, 1) := by decide +kernel
theorem dX7_open_72 : decode cX7_open 72 = .ok (.iconst 1, 1) := by decide +kernel
theorem dX7_open_73 : decode cX7_open 73 = .ok (.iadd, 1) := by decide +kernel
theorem dX7_open_74 : decode cX7_open 74 = .ok (.iaload, 1) := by decide +kernel
theorem dX7_open_75 : decode cX7_open 75 = .ok (.invokevirtual 47, 3) := by decide +kernel
theorem dX7_open_78 : decode cX7_open 78 = .ok (.iastore, 1) := by decide +kernel
theorem dX7_open_79 : decode cX7_open 79 = .ok (.iinc 1 (-1), 3) := by decide +kernel
theorem dX7_open_82 : decode cX7_open 82 = .ok (.goto (-37), 3) := by decide +kernel
theorem dX7_open_85 : decode cX7_open 85 = .ok (.aload_n 0, 1) := by decide +kernel
theorem dX7_open_86 : decode cX7_open 86 = .ok (.aload_n 0, 1) := by decide +kernel
theorem dX7_open_87 : decode cX7_open 87 = .ok (.getfield 44, 3) := by decide +kernel
theorem dX7_open_90 : decode cX7_open 90 = .ok (.iconst 1, 1) := by decide +kernel
theorem dX7_open_91 : decode cX7_open 91 = .ok (.iaload, 1) := by decide +kernel
theorem dX7_open_92 : decode cX7_open 92 = .ok (.putfield 19, 3) := by decide +kernel
theorem dX7_open_95 : decode cX7_open 95 = .ok (.return_, 1) := by decide +kernel
theorem dX7_forget_0 : decode cX7_forget 0 = .ok (.iload_n 1, 1) := by decide +kernel
theorem dX7_forget_1 : decode cX7_forget 1 = .ok (.aload_n 0, 1) := by decide +kernel
theorem dX7_forget_2 : decode cX7_forget 2 = .ok (.getfield 25, 3) := by decide +kernel
theorem dX7_forget_5 : decode cX7_forget 5 = .ok (.if_icmp .lt 21, 3) := by decide +kernel
theorem dX7_forget_8 : decode cX7_forget 8 = .ok (.iload_n 1, 1) := by decide +kernel
theorem dX7_forget_9 : decode cX7_forget 9 = .ok (.aload_n 0, 1) := by decide +kernel
theorem dX7_forget_10 : decode cX7_forget 10 = .ok (.getfield 25, 3) := by decide +kernel
theorem dX7_forget_13 : decode cX7_forget 13 = .ok (.aload_n 0, 1) := by decide +kernel
theorem dX7_forget_14 : decode cX7_forget 14 = .ok (.getfield 28, 3) := by decide +kernel
theorem dX7_forget_17 : decode cX7_forget 17 = .ok (.iadd, 1) := by decide +kernel
theorem dX7_forget_18 : decode cX7_forget 18 = .ok (.if_icmp .ge 8, 3) := by decide +kernel
theorem dX7_forget_21 : decode cX7_forget 21 = .ok (.aload_n 0, 1) := by decide +kernel
theorem dX7_forget_22 : decode cX7_forget 22 = .ok (.iconst 0, 1) := by decide +kernel
theorem dX7_forget_23 : decode cX7_forget 23 = .ok (.putfield 9, 3) := by decide +kernel
theorem dX7_forget_26 : decode cX7_forget 26 = .ok (.return_, 1) := by decide +kernel
theorem dX7_hasNode_0 : decode cX7_hasNode 0 = .ok (.iload_n 1, 1) := by decide +kernel
theorem dX7_hasNode_1 : decode cX7_hasNode 1 = .ok (.iconst 1, 1) := by decide +kernel
theorem dX7_hasNode_2 : decode cX7_hasNode 2 = .ok (.if_icmp .lt 15, 3) := by decide +kernel
theorem dX7_hasNode_5 : decode cX7_hasNode 5 = .ok (.iload_n 1, 1) := by decide +kernel
theorem dX7_hasNode_6 : decode cX7_hasNode 6 = .ok (.aload_n 0, 1) := by decide +kernel
theorem dX7_hasNode_7 : decode cX7_hasNode 7 = .ok (.getfield 15, 3) := by decide +kernel
theorem dX7_hasNode_10 : decode cX7_hasNode 10 = .ok (.if_icmp .ge 7, 3) := by decide +kernel
theorem dX7_hasNode_13 : decode cX7_hasNode 13 = .ok (.iconst 1, 1) := by decide +kernel
theorem dX7_hasNode_14 : decode cX7_hasNode 14 = .ok (.goto 4, 3) := by decide +kernel
theorem dX7_hasNode_17 : decode cX7_hasNode 17 = .ok (.iconst 0, 1) := by decide +kernel
theorem dX7_hasNode_18 : decode cX7_hasNode 18 = .ok (.ireturn, 1) := by decide +kernel
theorem dX7_loserAt_0 : decode cX7_loserAt 0 = .ok (.aload_n 0, 1) := by decide +kernel
theorem dX7_loserAt_1 : decode cX7_loserAt 1 = .ok (.iload_n 1, 1) := by decide +kernel
theorem dX7_loserAt_2 : decode cX7_loserAt 2 = .ok (.invokevirtual 51, 3) := by decide +kernel
theorem dX7_loserAt_5 : decode cX7_loserAt 5 = .ok (.ifCond .eq 12, 3) := by decide +kernel
theorem dX7_loserAt_8 : decode cX7_loserAt 8 = .ok (.aload_n 0, 1) := by decide +kernel
theorem dX7_loserAt_9 : decode cX7_loserAt 9 = .ok (.getfield 41, 3) := by decide +kernel
theorem dX7_loserAt_12 : decode cX7_loserAt 12 = .ok (.iload_n 1, 1) := by decide +kernel
theorem dX7_loserAt_13 : decode cX7_loserAt 13 = .ok (.iaload, 1) := by decide +kernel
theorem dX7_loserAt_14 : decode cX7_loserAt 14 = .ok (.goto 4, 3) := by decide +kernel
theorem dX7_loserAt_17 : decode cX7_loserAt 17 = .ok (.iconst 0, 1) := by decide +kernel
theorem dX7_loserAt_18 : decode cX7_loserAt 18 = .ok (.ireturn, 1) := by decide +kernel
theorem dX7_give_0 : decode cX7_give 0 = .ok (.aload_n 0, 1) := by decide +kernel
theorem dX7_give_1 : decode cX7_give 1 = .ok (.getfield 19, 3) := by decide +kernel
theorem dX7_give_4 : decode cX7_give 4 = .ok (.istore_n 1, 1) := by decide +kernel
theorem dX7_give_5 : decode cX7_give 5 = .ok (.aload_n 0, 1) := by decide +kernel
theorem dX7_give_6 : decode cX7_give 6 = .ok (.iload_n 1, 1) := by decide +kernel
theorem dX7_give_7 : decode cX7_give 7 = .ok (.invokevirtual 55, 3) := by decide +kernel
theorem dX7_give_10 : decode cX7_give 10 = .ok (.ifCond .eq 7, 3) := by decide +kernel
theorem dX7_give_13 : decode cX7_give 13 = .ok (.sipush 1000, 3) := by decide +kernel
theorem dX7_give_16 : decode cX7_give 16 = .ok (.ireturn, 1) := by decide +kernel
theorem dX7_give_17 : decode cX7_give 17 = .ok (.aload_n 0, 1) := by decide +kernel
theorem dX7_give_18 : decode cX7_give 18 = .ok (.iload_n 1, 1) := by decide +kernel
theorem dX7_give_19 : decode cX7_give 19 = .ok (.invokevirtual 58, 3) := by decide +kernel
theorem dX7_give_22 : decode cX7_give 22 = .ok (.istore_n 2, 1) := by decide +kernel
theorem dX7_give_23 : decode cX7_give 23 = .ok (.aload_n 0, 1) := by decide +kernel
theorem dX7_give_24 : decode cX7_give 24 = .ok (.getfield 37, 3) := by decide +kernel
theorem dX7_give_27 : decode cX7_give 27 = .ok (.iload_n 1, 1) := by decide +kernel
theorem dX7_give_28 : decode cX7_give 28 = .ok (.dup2, 1) := by decide +kernel
theorem dX7_give_29 : decode cX7_give 29 = .ok (.iaload, 1) := by decide +kernel
theorem dX7_give_30 : decode cX7_give 30 = .ok (.iconst 1, 1) := by decide +kernel
theorem dX7_give_31 : decode cX7_give 31 = .ok (.iadd, 1) := by decide +kernel
theorem dX7_give_32 : decode cX7_give 32 = .ok (.iastore, 1) := by decide +kernel
theorem dX7_give_33 : decode cX7_give 33 = .ok (.aload_n 0, 1) := by decide +kernel
theorem dX7_give_34 : decode cX7_give 34 = .ok (.getfield 15, 3) := by decide +kernel
theorem dX7_give_37 : decode cX7_give 37 = .ok (.iload_n 1, 1) := by decide +kernel
theorem dX7_give_38 : decode cX7_give 38 = .ok (.iadd, 1) := by decide +kernel
theorem dX7_give_39 : decode cX7_give 39 = .ok (.iconst 2, 1) := by decide +kernel
theorem dX7_give_40 : decode cX7_give 40 = .ok (.idiv, 1) := by decide +kernel
theorem dX7_give_41 : decode cX7_give 41 = .ok (.istore_n 3, 1) := by decide +kernel
theorem dX7_give_42 : decode cX7_give 42 = .ok (.iload_n 3, 1) := by decide +kernel
theorem dX7_give_43 : decode cX7_give 43 = .ok (.iconst 1, 1) := by decide +kernel
theorem dX7_give_44 : decode cX7_give 44 = .ok (.if_icmp .lt 22, 3) := by decide +kernel
theorem dX7_give_47 : decode cX7_give 47 = .ok (.aload_n 0, 1) := by decide +kernel
theorem dX7_give_48 : decode cX7_give 48 = .ok (.iload_n 3, 1) := by decide +kernel
theorem dX7_give_49 : decode cX7_give 49 = .ok (.iload_n 1, 1) := by decide +kernel
theorem dX7_give_50 : decode cX7_give 50 = .ok (.aload_n 0, 1) := by decide +kernel
theorem dX7_give_51 : decode cX7_give 51 = .ok (.iload_n 3, 1) := by decide +kernel
theorem dX7_give_52 : decode cX7_give 52 = .ok (.invokevirtual 62, 3) := by decide +kernel
theorem dX7_give_55 : decode cX7_give 55 = .ok (.invokevirtual 47, 3) := by decide +kernel
theorem dX7_give_58 : decode cX7_give 58 = .ok (.istore_n 1, 1) := by decide +kernel
theorem dX7_give_59 : decode cX7_give 59 = .ok (.iload_n 3, 1) := by decide +kernel
theorem dX7_give_60 : decode cX7_give 60 = .ok (.iconst 2, 1) := by decide +kernel
theorem dX7_give_61 : decode cX7_give 61 = .ok (.idiv, 1) := by decide +kernel
theorem dX7_give_62 : decode cX7_give 62 = .ok (.istore_n 3, 1) := by decide +kernel
theorem dX7_give_63 : decode cX7_give 63 = .ok (.goto (-21), 3) := by decide +kernel
theorem dX7_give_66 : decode cX7_give 66 = .ok (.aload_n 0, 1) := by decide +kernel
theorem dX7_give_67 : decode cX7_give 67 = .ok (.iload_n 1, 1) := by decide +kernel
theorem dX7_give_68 : decode cX7_give 68 = .ok (.putfield 19, 3) := by decide +kernel
theorem dX7_give_71 : decode cX7_give 71 = .ok (.iload_n 2, 1) := by decide +kernel
theorem dX7_give_72 : decode cX7_give 72 = .ok (.ireturn, 1) := by decide +kernel
theorem dX7_playAt_0 : decode cX7_playAt 0 = .ok (.aload_n 0, 1) := by decide +kernel
theorem dX7_playAt_1 : decode cX7_playAt 1 = .ok (.iload_n 2, 1) := by decide +kernel
theorem dX7_playAt_2 : decode cX7_playAt 2 = .ok (.iload_n 3, 1) := by decide +kernel
theorem dX7_playAt_3 : decode cX7_playAt 3 = .ok (.invokevirtual 65, 3) := by decide +kernel
theorem dX7_playAt_6 : decode cX7_playAt 6 = .ok (.istore 4, 2) := by decide +kernel
theorem dX7_playAt_8 : decode cX7_playAt 8 = .ok (.aload_n 0, 1) := by decide +kernel
theorem dX7_playAt_9 : decode cX7_playAt 9 = .ok (.iload_n 1, 1) := by decide +kernel
theorem dX7_playAt_10 : decode cX7_playAt 10 = .ok (.invokevirtual 51, 3) := by decide +kernel
theorem dX7_playAt_13 : decode cX7_playAt 13 = .ok (.ifCond .eq 19, 3) := by decide +kernel
theorem dX7_playAt_16 : decode cX7_playAt 16 = .ok (.aload_n 0, 1) := by decide +kernel
theorem dX7_playAt_17 : decode cX7_playAt 17 = .ok (.getfield 41, 3) := by decide +kernel
theorem dX7_playAt_20 : decode cX7_playAt 20 = .ok (.iload_n 1, 1) := by decide +kernel
theorem dX7_playAt_21 : decode cX7_playAt 21 = .ok (.iload 4, 2) := by decide +kernel
theorem dX7_playAt_23 : decode cX7_playAt 23 = .ok (.ifCond .eq 7, 3) := by decide +kernel
theorem dX7_playAt_26 : decode cX7_playAt 26 = .ok (.iload_n 3, 1) := by decide +kernel
theorem dX7_playAt_27 : decode cX7_playAt 27 = .ok (.goto 4, 3) := by decide +kernel
theorem dX7_playAt_30 : decode cX7_playAt 30 = .ok (.iload_n 2, 1) := by decide +kernel
theorem dX7_playAt_31 : decode cX7_playAt 31 = .ok (.iastore, 1) := by decide +kernel
theorem dX7_playAt_32 : decode cX7_playAt 32 = .ok (.aload_n 0, 1) := by decide +kernel
theorem dX7_playAt_33 : decode cX7_playAt 33 = .ok (.dup, 1) := by decide +kernel
theorem dX7_playAt_34 : decode cX7_playAt 34 = .ok (.getfield 22, 3) := by decide +kernel
theorem dX7_playAt_37 : decode cX7_playAt 37 = .ok (.iconst 1, 1) := by decide +kernel
theorem dX7_playAt_38 : decode cX7_playAt 38 = .ok (.iadd, 1) := by decide +kernel
theorem dX7_playAt_39 : decode cX7_playAt 39 = .ok (.putfield 22, 3) := by decide +kernel
theorem dX7_playAt_42 : decode cX7_playAt 42 = .ok (.iload 4, 2) := by decide +kernel
theorem dX7_playAt_44 : decode cX7_playAt 44 = .ok (.ifCond .eq 7, 3) := by decide +kernel
theorem dX7_playAt_47 : decode cX7_playAt 47 = .ok (.iload_n 2, 1) := by decide +kernel
theorem dX7_playAt_48 : decode cX7_playAt 48 = .ok (.goto 4, 3) := by decide +kernel
theorem dX7_playAt_51 : decode cX7_playAt 51 = .ok (.iload_n 3, 1) := by decide +kernel
theorem dX7_playAt_52 : decode cX7_playAt 52 = .ok (.ireturn, 1) := by decide +kernel
theorem dX7_isWinning_0 : decode cX7_isWinning 0 = .ok (.aload_n 0, 1) := by decide +kernel
theorem dX7_isWinning_1 : decode cX7_isWinning 1 = .ok (.iload_n 1, 1) := by decide +kernel
theorem dX7_isWinning_2 : decode cX7_isWinning 2 = .ok (.invokevirtual 55, 3) := by decide +kernel
theorem dX7_isWinning_5 : decode cX7_isWinning 5 = .ok (.aload_n 0, 1) := by decide +kernel
theorem dX7_isWinning_6 : decode cX7_isWinning 6 = .ok (.iload_n 2, 1) := by decide +kernel
theorem dX7_isWinning_7 : decode cX7_isWinning 7 = .ok (.invokevirtual 55, 3) := by decide +kernel
theorem dX7_isWinning_10 : decode cX7_isWinning 10 = .ok (.if_icmp .eq 9, 3) := by decide +kernel
theorem dX7_isWinning_13 : decode cX7_isWinning 13 = .ok (.aload_n 0, 1) := by decide +kernel
theorem dX7_isWinning_14 : decode cX7_isWinning 14 = .ok (.iload_n 2, 1) := by decide +kernel
theorem dX7_isWinning_15 : decode cX7_isWinning 15 = .ok (.invokevirtual 55, 3) := by decide +kernel
theorem dX7_isWinning_18 : decode cX7_isWinning 18 = .ok (.ireturn, 1) := by decide +kernel
theorem dX7_isWinning_19 : decode cX7_isWinning 19 = .ok (.aload_n 0, 1) := by decide +kernel
theorem dX7_isWinning_20 : decode cX7_isWinning 20 = .ok (.iload_n 1, 1) := by decide +kernel
theorem dX7_isWinning_21 : decode cX7_isWinning 21 = .ok (.invokevirtual 55, 3) := by decide +kernel
theorem dX7_isWinning_24 : decode cX7_isWinning 24 = .ok (.ifCond .ne 35, 3) := by decide +kernel
theorem dX7_isWinning_27 : decode cX7_isWinning 27 = .ok (.aload_n 0, 1) := by decide +kernel
theorem dX7_isWinning_28 : decode cX7_isWinning 28 = .ok (.iload_n 1, 1) := by decide +kernel
theorem dX7_isWinning_29 : decode cX7_isWinning 29 = .ok (.invokevirtual 58, 3) := by decide +kernel
theorem dX7_isWinning_32 : decode cX7_isWinning 32 = .ok (.aload_n 0, 1) := by decide +kernel
theorem dX7_isWinning_33 : decode cX7_isWinning 33 = .ok (.iload_n 2, 1) := by decide +kernel
theorem dX7_isWinning_34 : decode cX7_isWinning 34 = .ok (.invokevirtual 58, 3) := by decide +kernel
theorem dX7_isWinning_37 : decode cX7_isWinning 37 = .ok (.if_icmp .eq 22, 3) := by decide +kernel
theorem dX7_isWinning_40 : decode cX7_isWinning 40 = .ok (.aload_n 0, 1) := by decide +kernel
theorem dX7_isWinning_41 : decode cX7_isWinning 41 = .ok (.iload_n 1, 1) := by decide +kernel
theorem dX7_isWinning_42 : decode cX7_isWinning 42 = .ok (.invokevirtual 58, 3) := by decide +kernel
theorem dX7_isWinning_45 : decode cX7_isWinning 45 = .ok (.aload_n 0, 1) := by decide +kernel
theorem dX7_isWinning_46 : decode cX7_isWinning 46 = .ok (.iload_n 2, 1) := by decide +kernel
theorem dX7_isWinning_47 : decode cX7_isWinning 47 = .ok (.invokevirtual 58, 3) := by decide +kernel
theorem dX7_isWinning_50 : decode cX7_isWinning 50 = .ok (.if_icmp .ge 7, 3) := by decide +kernel
theorem dX7_isWinning_53 : decode cX7_isWinning 53 = .ok (.iconst 1, 1) := by decide +kernel
theorem dX7_isWinning_54 : decode cX7_isWinning 54 = .ok (.goto 4, 3) := by decide +kernel
theorem dX7_isWinning_57 : decode cX7_isWinning 57 = .ok (.iconst 0, 1) := by decide +kernel
theorem dX7_isWinning_58 : decode cX7_isWinning 58 = .ok (.ireturn, 1) := by decide +kernel
theorem dX7_isWinning_59 : decode cX7_isWinning 59 = .ok (.iload_n 1, 1) := by decide +kernel
theorem dX7_isWinning_60 : decode cX7_isWinning 60 = .ok (.iload_n 2, 1) := by decide +kernel
theorem dX7_isWinning_61 : decode cX7_isWinning 61 = .ok (.if_icmp .ge 7, 3) := by decide +kernel
theorem dX7_isWinning_64 : decode cX7_isWinning 64 = .ok (.iconst 1, 1) := by decide +kernel
theorem dX7_isWinning_65 : decode cX7_isWinning 65 = .ok (.goto 4, 3) := by decide +kernel
theorem dX7_isWinning_68 : decode cX7_isWinning 68 = .ok (.iconst 0, 1) := by decide +kernel
theorem dX7_isWinning_69 : decode cX7_isWinning 69 = .ok (.ireturn, 1) := by decide +kernel
theorem dX7_isOver_0 : decode cX7_isOver 0 = .ok (.iload_n 1, 1) := by decide +kernel
theorem dX7_isOver_1 : decode cX7_isOver 1 = .ok (.ifCond .lt 38, 3) := by decide +kernel
theorem dX7_isOver_4 : decode cX7_isOver 4 = .ok (.iload_n 1, 1) := by decide +kernel
theorem dX7_isOver_5 : decode cX7_isOver 5 = .ok (.aload_n 0, 1) := by decide +kernel
theorem dX7_isOver_6 : decode cX7_isOver 6 = .ok (.getfield 28, 3) := by decide +kernel
theorem dX7_isOver_9 : decode cX7_isOver 9 = .ok (.if_icmp .ge 30, 3) := by decide +kernel
theorem dX7_isOver_12 : decode cX7_isOver 12 = .ok (.aload_n 0, 1) := by decide +kernel
theorem dX7_isOver_13 : decode cX7_isOver 13 = .ok (.getfield 33, 3) := by decide +kernel
theorem dX7_isOver_16 : decode cX7_isOver 16 = .ok (.iload_n 1, 1) := by decide +kernel
theorem dX7_isOver_17 : decode cX7_isOver 17 = .ok (.aaload, 1) := by decide +kernel
theorem dX7_isOver_18 : decode cX7_isOver 18 = .ok (.ifnull 21, 3) := by decide +kernel
theorem dX7_isOver_21 : decode cX7_isOver 21 = .ok (.aload_n 0, 1) := by decide +kernel
theorem dX7_isOver_22 : decode cX7_isOver 22 = .ok (.getfield 37, 3) := by decide +kernel
theorem dX7_isOver_25 : decode cX7_isOver 25 = .ok (.iload_n 1, 1) := by decide +kernel
theorem dX7_isOver_26 : decode cX7_isOver 26 = .ok (.iaload, 1) := by decide +kernel
theorem dX7_isOver_27 : decode cX7_isOver 27 = .ok (.aload_n 0, 1) := by decide +kernel
theorem dX7_isOver_28 : decode cX7_isOver 28 = .ok (.getfield 33, 3) := by decide +kernel
theorem dX7_isOver_31 : decode cX7_isOver 31 = .ok (.iload_n 1, 1) := by decide +kernel
theorem dX7_isOver_32 : decode cX7_isOver 32 = .ok (.aaload, 1) := by decide +kernel
theorem dX7_isOver_33 : decode cX7_isOver 33 = .ok (.invokevirtual 69, 3) := by decide +kernel
theorem dX7_isOver_36 : decode cX7_isOver 36 = .ok (.if_icmp .lt 7, 3) := by decide +kernel
theorem dX7_isOver_39 : decode cX7_isOver 39 = .ok (.iconst 1, 1) := by decide +kernel
theorem dX7_isOver_40 : decode cX7_isOver 40 = .ok (.goto 4, 3) := by decide +kernel
theorem dX7_isOver_43 : decode cX7_isOver 43 = .ok (.iconst 0, 1) := by decide +kernel
theorem dX7_isOver_44 : decode cX7_isOver 44 = .ok (.ireturn, 1) := by decide +kernel
theorem dX7_keyOf_0 : decode cX7_keyOf 0 = .ok (.aload_n 0, 1) := by decide +kernel
theorem dX7_keyOf_1 : decode cX7_keyOf 1 = .ok (.iload_n 1, 1) := by decide +kernel
theorem dX7_keyOf_2 : decode cX7_keyOf 2 = .ok (.invokevirtual 55, 3) := by decide +kernel
theorem dX7_keyOf_5 : decode cX7_keyOf 5 = .ok (.ifCond .eq 9, 3) := by decide +kernel
theorem dX7_keyOf_8 : decode cX7_keyOf 8 = .ok (.sipush 1000, 3) := by decide +kernel
theorem dX7_keyOf_11 : decode cX7_keyOf 11 = .ok (.goto 18, 3) := by decide +kernel
theorem dX7_keyOf_14 : decode cX7_keyOf 14 = .ok (.aload_n 0, 1) := by decide +kernel
theorem dX7_keyOf_15 : decode cX7_keyOf 15 = .ok (.getfield 33, 3) := by decide +kernel
theorem dX7_keyOf_18 : decode cX7_keyOf 18 = .ok (.iload_n 1, 1) := by decide +kernel
theorem dX7_keyOf_19 : decode cX7_keyOf 19 = .ok (.aaload, 1) := by decide +kernel
theorem dX7_keyOf_20 : decode cX7_keyOf 20 = .ok (.aload_n 0, 1) := by decide +kernel
theorem dX7_keyOf_21 : decode cX7_keyOf 21 = .ok (.getfield 37, 3) := by decide +kernel
theorem dX7_keyOf_24 : decode cX7_keyOf 24 = .ok (.iload_n 1, 1) := by decide +kernel
theorem dX7_keyOf_25 : decode cX7_keyOf 25 = .ok (.iaload, 1) := by decide +kernel
theorem dX7_keyOf_26 : decode cX7_keyOf 26 = .ok (.invokevirtual 73, 3) := by decide +kernel
theorem dX7_keyOf_29 : decode cX7_keyOf 29 = .ok (.ireturn, 1) := by decide +kernel
theorem dX8_init_0 : decode cX8_init 0 = .ok (.aload_n 0, 1) := by decide +kernel
theorem dX8_init_1 : decode cX8_init 1 = .ok (.invokespecial 3, 3) := by decide +kernel
theorem dX8_init_4 : decode cX8_init 4 = .ok (.aload_n 0, 1) := by decide +kernel
theorem dX8_init_5 : decode cX8_init 5 = .ok (.bipush 12, 2) := by decide +kernel
theorem dX8_init_7 : decode cX8_init 7 = .ok (.anewarray 9, 3) := by decide +kernel
theorem dX8_init_10 : decode cX8_init 10 = .ok (.putfield 11, 3) := by decide +kernel
theorem dX8_init_13 : decode cX8_init 13 = .ok (.aload_n 0, 1) := by decide +kernel
theorem dX8_init_14 : decode cX8_init 14 = .ok (.iconst 0, 1) := by decide +kernel
theorem dX8_init_15 : decode cX8_init 15 = .ok (.putfield 15, 3) := by decide +kernel
theorem dX8_init_18 : decode cX8_init 18 = .ok (.aload_n 0, 1) := by decide +kernel
theorem dX8_init_19 : decode cX8_init 19 = .ok (.iconst 4, 1) := by decide +kernel
theorem dX8_init_20 : decode cX8_init 20 = .ok (.putfield 19, 3) := by decide +kernel
theorem dX8_init_23 : decode cX8_init 23 = .ok (.aload_n 0, 1) := by decide +kernel
theorem dX8_init_24 : decode cX8_init 24 = .ok (.iconst 4, 1) := by decide +kernel
theorem dX8_init_25 : decode cX8_init 25 = .ok (.putfield 22, 3) := by decide +kernel
theorem dX8_init_28 : decode cX8_init 28 = .ok (.aload_n 0, 1) := by decide +kernel
theorem dX8_init_29 : decode cX8_init 29 = .ok (.iconst 0, 1) := by decide +kernel
theorem dX8_init_30 : decode cX8_init 30 = .ok (.putfield 25, 3) := by decide +kernel
theorem dX8_init_33 : decode cX8_init 33 = .ok (.aload_n 0, 1) := by decide +kernel
theorem dX8_init_34 : decode cX8_init 34 = .ok (.iconst 0, 1) := by decide +kernel
theorem dX8_init_35 : decode cX8_init 35 = .ok (.putfield 28, 3) := by decide +kernel
theorem dX8_init_38 : decode cX8_init 38 = .ok (.aload_n 0, 1) := by decide +kernel
theorem dX8_init_39 : decode cX8_init 39 = .ok (.iconst 0, 1) := by decide +kernel
theorem dX8_init_40 : decode cX8_init 40 = .ok (.putfield 31, 3) := by decide +kernel
theorem dX8_init_43 : decode cX8_init 43 = .ok (.aload_n 0, 1) := by decide +kernel
theorem dX8_init_44 : decode cX8_init 44 = .ok (.new 34, 3) := by decide +kernel
theorem dX8_init_47 : decode cX8_init 47 = .ok (.dup, 1) := by decide +kernel
theorem dX8_init_48 : decode cX8_init 48 = .ok (.invokespecial 36, 3) := by decide +kernel
theorem dX8_init_51 : decode cX8_init 51 = .ok (.putfield 37, 3) := by decide +kernel
theorem dX8_init_54 : decode cX8_init 54 = .ok (.aload_n 0, 1) := by decide +kernel
theorem dX8_init_55 : decode cX8_init 55 = .ok (.new 34, 3) := by decide +kernel
theorem dX8_init_58 : decode cX8_init 58 = .ok (.dup, 1) := by decide +kernel
theorem dX8_init_59 : decode cX8_init 59 = .ok (.invokespecial 36, 3) := by decide +kernel
theorem dX8_init_62 : decode cX8_init 62 = .ok (.putfield 41, 3) := by decide +kernel
theorem dX8_init_65 : decode cX8_init 65 = .ok (.aload_n 0, 1) := by decide +kernel
theorem dX8_init_66 : decode cX8_init 66 = .ok (.new 44, 3) := by decide +kernel
theorem dX8_init_69 : decode cX8_init 69 = .ok (.dup, 1) := by decide +kernel
theorem dX8_init_70 : decode cX8_init 70 = .ok (.invokespecial 46, 3) := by decide +kernel
theorem dX8_init_73 : decode cX8_init 73 = .ok (.putfield 47, 3) := by decide +kernel
theorem dX8_init_76 : decode cX8_init 76 = .ok (.aload_n 0, 1) := by decide +kernel
theorem dX8_init_77 : decode cX8_init 77 = .ok (.new 51, 3) := by decide +kernel
theorem dX8_init_80 : decode cX8_init 80 = .ok (.dup, 1) := by decide +kernel
theorem dX8_init_81 : decode cX8_init 81 = .ok (.invokespecial 53, 3) := by decide +kernel
theorem dX8_init_84 : decode cX8_init 84 = .ok (.putfield 54, 3) := by decide +kernel
theorem dX8_init_87 : decode cX8_init 87 = .ok (.aload_n 0, 1) := by decide +kernel
theorem dX8_init_88 : decode cX8_init 88 = .ok (.new 58, 3) := by decide +kernel
theorem dX8_init_91 : decode cX8_init 91 = .ok (.dup, 1) := by decide +kernel
theorem dX8_init_92 : decode cX8_init 92 = .ok (.invokespecial 60, 3) := by decide +kernel
theorem dX8_init_95 : decode cX8_init 95 = .ok (.putfield 61, 3) := by decide +kernel
theorem dX8_init_98 : decode cX8_init 98 = .ok (.aload_n 0, 1) := by decide +kernel
theorem dX8_init_99 : decode cX8_init 99 = .ok (.new 65, 3) := by decide +kernel
theorem dX8_init_102 : decode cX8_init 102 = .ok (.dup, 1) := by decide +kernel
theorem dX8_init_103 : decode cX8_init 103 = .ok (.invokespecial 67, 3) := by decide +kernel
theorem dX8_init_106 : decode cX8_init 106 = .ok (.putfield 68, 3) := by decide +kernel
theorem dX8_init_109 : decode cX8_init 109 = .ok (.aload_n 0, 1) := by decide +kernel
theorem dX8_init_110 : decode cX8_init 110 = .ok (.new 72, 3) := by decide +kernel
theorem dX8_init_113 : decode cX8_init 113 = .ok (.dup, 1) := by decide +kernel
theorem dX8_init_114 : decode cX8_init 114 = .ok (.invokespecial 74, 3) := by decide +kernel
theorem dX8_init_117 : decode cX8_init 117 = .ok (.putfield 75, 3) := by decide +kernel
theorem dX8_init_120 : decode cX8_init 120 = .ok (.iconst 0, 1) := by decide +kernel
theorem dX8_init_121 : decode cX8_init 121 = .ok (.istore_n 1, 1) := by decide +kernel
theorem dX8_init_122 : decode cX8_init 122 = .ok (.iload_n 1, 1) := by decide +kernel
theorem dX8_init_123 : decode cX8_init 123 = .ok (.bipush 12, 2) := by decide +kernel
theorem dX8_init_125 : decode cX8_init 125 = .ok (.if_icmp .ge 22, 3) := by decide +kernel
theorem dX8_init_128 : decode cX8_init 128 = .ok (.aload_n 0, 1) := by decide +kernel
theorem dX8_init_129 : decode cX8_init 129 = .ok (.getfield 11, 3) := by decide +kernel
theorem dX8_init_132 : decode cX8_init 132 = .ok (.iload_n 1, 1) := by decide +kernel
theorem dX8_init_133 : decode cX8_init 133 = .ok (.new 9, 3) := by decide +kernel
theorem dX8_init_136 : decode cX8_init 136 = .ok (.dup, 1) := by decide +kernel
theorem dX8_init_137 : decode cX8_init 137 = .ok (.invokespecial 79, 3) := by decide +kernel
theorem dX8_init_140 : decode cX8_init 140 = .ok (.aastore, 1) := by decide +kernel
theorem dX8_init_141 : decode cX8_init 141 = .ok (.iinc 1 1, 3) := by decide +kernel
theorem dX8_init_144 : decode cX8_init 144 = .ok (.goto (-22), 3) := by decide +kernel
theorem dX8_init_147 : decode cX8_init 147 = .ok (.return_, 1) := by decide +kernel
theorem dX8_setMemory_0 : decode cX8_setMemory 0 = .ok (.iload_n 1, 1) := by decide +kernel
theorem dX8_setMemory_1 : decode cX8_setMemory 1 = .ok (.iconst 2, 1) := by decide +kernel
theorem dX8_setMemory_2 : decode cX8_setMemory 2 = .ok (.if_icmp .lt 9, 3) := by decide +kernel
theorem dX8_setMemory_5 : decode cX8_setMemory 5 = .ok (.iload_n 1, 1) := by decide +kernel
theorem dX8_setMemory_6 : decode cX8_setMemory 6 = .ok (.bipush 10, 2) := by decide +kernel
theorem dX8_setMemory_8 : decode cX8_setMemory 8 = .ok (.if_icmp .le 13, 3) := by decide +kernel
theorem dX8_setMemory_11 : decode cX8_setMemory 11 = .ok (.new 80, 3) := by decide +kernel
theorem dX8_setMemory_14 : decode cX8_setMemory 14 = .ok (.dup, 1) := by decide +kernel
theorem dX8_setMemory_15 : decode cX8_setMemory 15 = .ok (.ldc 82, 2) := by decide +kernel
theorem dX8_setMemory_17 : decode cX8_setMemory 17 = .ok (.invokespecial 84, 3) := by decide +kernel
theorem dX8_setMemory_20 : decode cX8_setMemory 20 = .ok (.athrow, 1) := by decide +kernel
theorem dX8_setMemory_21 : decode cX8_setMemory 21 = .ok (.iload_n 2, 1) := by decide +kernel
theorem dX8_setMemory_22 : decode cX8_setMemory 22 = .ok (.invokestatic 87, 3) := by decide +kernel
theorem dX8_setMemory_25 : decode cX8_setMemory 25 = .ok (.aload_n 0, 1) := by decide +kernel
theorem dX8_setMemory_26 : decode cX8_setMemory 26 = .ok (.getfield 22, 3) := by decide +kernel
theorem dX8_setMemory_29 : decode cX8_setMemory 29 = .ok (.istore_n 3, 1) := by decide +kernel
theorem dX8_setMemory_30 : decode cX8_setMemory 30 = .ok (.aload_n 0, 1) := by decide +kernel
theorem dX8_setMemory_31 : decode cX8_setMemory 31 = .ok (.iload_n 1, 1) := by decide +kernel
theorem dX8_setMemory_32 : decode cX8_setMemory 32 = .ok (.putfield 19, 3) := by decide +kernel
theorem dX8_setMemory_35 : decode cX8_setMemory 35 = .ok (.aload_n 0, 1) := by decide +kernel
theorem dX8_setMemory_36 : decode cX8_setMemory 36 = .ok (.iload_n 2, 1) := by decide +kernel
theorem dX8_setMemory_37 : decode cX8_setMemory 37 = .ok (.putfield 22, 3) := by decide +kernel
theorem dX8_setMemory_40 : decode cX8_setMemory 40 = .ok (.iload_n 3, 1) := by decide +kernel
theorem dX8_setMemory_41 : decode cX8_setMemory 41 = .ok (.ireturn, 1) := by decide +kernel
theorem dX8_addFile_0 : decode cX8_addFile 0 = .ok (.aload_n 0, 1) := by decide +kernel
theorem dX8_addFile_1 : decode cX8_addFile 1 = .ok (.invokevirtual 91, 3) := by decide +kernel
theorem dX8_addFile_4 : decode cX8_addFile 4 = .ok (.aload_n 0, 1) := by decide +kernel
theorem dX8_addFile_5 : decode cX8_addFile 5 = .ok (.getfield 15, 3) := by decide +kernel
theorem dX8_addFile_8 : decode cX8_addFile 8 = .ok (.istore_n 1, 1) := by decide +kernel
theorem dX8_addFile_9 : decode cX8_addFile 9 = .ok (.aload_n 0, 1) := by decide +kernel
theorem dX8_addFile_10 : decode cX8_addFile 10 = .ok (.getfield 11, 3) := by decide +kernel
theorem dX8_addFile_13 : decode cX8_addFile 13 = .ok (.iload_n 1, 1) := by decide +kernel
theorem dX8_addFile_14 : decode cX8_addFile 14 = .ok (.aaload, 1) := by decide +kernel
theorem dX8_addFile_15 : decode cX8_addFile 15 = .ok (.invokevirtual 94, 3) := by decide +kernel
theorem dX8_addFile_18 : decode cX8_addFile 18 = .ok (.aload_n 0, 1) := by decide +kernel
theorem dX8_addFile_19 : decode cX8_addFile 19 = .ok (.dup, 1) := by decide +kernel
theorem dX8_addFile_20 : decode cX8_addFile 20 = .ok (.getfield 15, 3) := by decide +kernel
theorem dX8_addFile_23 : decode cX8_addFile 23 = .ok (.iconst 1, 1) := by decide +kernel
theorem dX8_addFile_24 : decode cX8_addFile 24 = .ok (.iadd, 1) := by decide +kernel
theorem dX8_addFile_25 : decode cX8_addFile 25 = .ok (.putfield 15, 3) := by decide +kernel
theorem dX8_addFile_28 : decode cX8_addFile 28 = .ok (.iload_n 1, 1) := by decide +kernel
theorem dX8_addFile_29 : decode cX8_addFile 29 = .ok (.ireturn, 1) := by decide +kernel
theorem dX8_put_0 : decode cX8_put 0 = .ok (.aload_n 0, 1) := by decide +kernel
theorem dX8_put_1 : decode cX8_put 1 = .ok (.iload_n 1, 1) := by decide +kernel
theorem dX8_put_2 : decode cX8_put 2 = .ok (.invokevirtual 97, 3) := by decide +kernel
theorem dX8_put_5 : decode cX8_put 5 = .ok (.astore 4, 2) := by decide +kernel
theorem dX8_put_7 : decode cX8_put 7 = .ok (.iload_n 2, 1) := by decide +kernel
theorem dX8_put_8 : decode cX8_put 8 = .ok (.sipush (-999), 3) := by decide +kernel
theorem dX8_put_11 : decode cX8_put 11 = .ok (.if_icmp .lt 10, 3) := by decide +kernel
theorem dX8_put_14 : decode cX8_put 14 = .ok (.iload_n 2, 1) := by decide +kernel
theorem dX8_put_15 : decode cX8_put 15 = .ok (.sipush 999, 3) := by decide +kernel
theorem dX8_put_18 : decode cX8_put 18 = .ok (.if_icmp .le 13, 3) := by decide +kernel
theorem dX8_put_21 : decode cX8_put 21 = .ok (.new 80, 3) := by decide +kernel
theorem dX8_put_24 : decode cX8_put 24 = .ok (.dup, 1) := by decide +kernel
theorem dX8_put_25 : decode cX8_put 25 = .ok (.ldc 101, 2) := by decide +kernel
theorem dX8_put_27 : decode cX8_put 27 = .ok (.invokespecial 84, 3) := by decide +kernel
theorem dX8_put_30 : decode cX8_put 30 = .ok (.athrow, 1) := by decide +kernel
theorem dX8_put_31 : decode cX8_put 31 = .ok (.iload_n 3, 1) := by decide +kernel
theorem dX8_put_32 : decode cX8_put 32 = .ok (.ifCond .lt 10, 3) := by decide +kernel
theorem dX8_put_35 : decode cX8_put 35 = .ok (.iload_n 3, 1) := by decide +kernel
theorem dX8_put_36 : decode cX8_put 36 = .ok (.sipush 10000, 3) := by decide +kernel
theorem dX8_put_39 : decode cX8_put 39 = .ok (.if_icmp .lt 13, 3) := by decide +kernel
theorem dX8_put_42 : decode cX8_put 42 = .ok (.new 80, 3) := by decide +kernel
theorem dX8_put_45 : decode cX8_put 45 = .ok (.dup, 1) := by decide +kernel
end
section
-- decode rows, part 4
theorem dX8_put_46 : decode cX8_put 46 = .ok (.ldc 103, 2) := by decide +kernel
theorem dX8_put_48 : decode cX8_put 48 = .ok (.invokespecial 84, 3) := by decide +kernel
theorem dX8_put_51 : decode cX8_put 51 = .ok (.athrow, 1) := by decide +kernel
theorem dX8_put_52 : decode cX8_put 52 = .ok (.aload 4, 2) := by decide +kernel
theorem dX8_put_54 : decode cX8_put 54 = .ok (.iconst 1, 1) := by decide +kernel
theorem dX8_put_55 : decode cX8_put 55 = .ok (.invokestatic 105, 3) := by decide +kernel
theorem dX8_put_58 : decode cX8_put 58 = .ok (.aload_n 0, 1) := by decide +kernel
theorem dX8_put_59 : decode cX8_put 59 = .ok (.getfield 54, 3) := by decide +kernel
theorem dX8_put_62 : decode cX8_put 62 = .ok (.iload_n 1, 1) := by decide +kernel
theorem dX8_put_63 : decode cX8_put 63 = .ok (.invokevirtual 109, 3) := by decide +kernel
theorem dX8_put_66 : decode cX8_put 66 = .ok (.aload 4, 2) := by decide +kernel
theorem dX8_put_68 : decode cX8_put 68 = .ok (.iload_n 2, 1) := by decide +kernel
theorem dX8_put_69 : decode cX8_put 69 = .ok (.iload_n 3, 1) := by decide +kernel
theorem dX8_put_70 : decode cX8_put 70 = .ok (.invokevirtual 112, 3) := by decide +kernel
theorem dX8_put_73 : decode cX8_put 73 = .ok (.aload 4, 2) := by decide +kernel
theorem dX8_put_75 : decode cX8_put 75 = .ok (.invokevirtual 116, 3) := by decide +kernel
theorem dX8_put_78 : decode cX8_put 78 = .ok (.ireturn, 1) := by decide +kernel
theorem dX8_putRow_0 : decode cX8_putRow 0 = .ok (.aload_n 0, 1) := by decide +kernel
theorem dX8_putRow_1 : decode cX8_putRow 1 = .ok (.iload_n 1, 1) := by decide +kernel
theorem dX8_putRow_2 : decode cX8_putRow 2 = .ok (.invokevirtual 97, 3) := by decide +kernel
theorem dX8_putRow_5 : decode cX8_putRow 5 = .ok (.astore 6, 2) := by decide +kernel
theorem dX8_putRow_7 : decode cX8_putRow 7 = .ok (.iload_n 2, 1) := by decide +kernel
theorem dX8_putRow_8 : decode cX8_putRow 8 = .ok (.ifCond .lt 10, 3) := by decide +kernel
theorem dX8_putRow_11 : decode cX8_putRow 11 = .ok (.iload_n 2, 1) := by decide +kernel
theorem dX8_putRow_12 : decode cX8_putRow 12 = .ok (.sipush 999, 3) := by decide +kernel
theorem dX8_putRow_15 : decode cX8_putRow 15 = .ok (.if_icmp .le 13, 3) := by decide +kernel
theorem dX8_putRow_18 : decode cX8_putRow 18 = .ok (.new 80, 3) := by decide +kernel
theorem dX8_putRow_21 : decode cX8_putRow 21 = .ok (.dup, 1) := by decide +kernel
theorem dX8_putRow_22 : decode cX8_putRow 22 = .ok (.ldc 120, 2) := by decide +kernel
theorem dX8_putRow_24 : decode cX8_putRow 24 = .ok (.invokespecial 84, 3) := by decide +kernel
theorem dX8_putRow_27 : decode cX8_putRow 27 = .ok (.athrow, 1) := by decide +kernel
theorem dX8_putRow_28 : decode cX8_putRow 28 = .ok (.iload_n 3, 1) := by decide +kernel
theorem dX8_putRow_29 : decode cX8_putRow 29 = .ok (.sipush (-999), 3) := by decide +kernel
theorem dX8_putRow_32 : decode cX8_putRow 32 = .ok (.if_icmp .lt 10, 3) := by decide +kernel
theorem dX8_putRow_35 : decode cX8_putRow 35 = .ok (.iload_n 3, 1) := by decide +kernel
theorem dX8_putRow_36 : decode cX8_putRow 36 = .ok (.sipush 999, 3) := by decide +kernel
theorem dX8_putRow_39 : decode cX8_putRow 39 = .ok (.if_icmp .le 13, 3) := by decide +kernel
theorem dX8_putRow_42 : decode cX8_putRow 42 = .ok (.new 80, 3) := by decide +kernel
theorem dX8_putRow_45 : decode cX8_putRow 45 = .ok (.dup, 1) := by decide +kernel
theorem dX8_putRow_46 : decode cX8_putRow 46 = .ok (.ldc 122, 2) := by decide +kernel
theorem dX8_putRow_48 : decode cX8_putRow 48 = .ok (.invokespecial 84, 3) := by decide +kernel
theorem dX8_putRow_51 : decode cX8_putRow 51 = .ok (.athrow, 1) := by decide +kernel
theorem dX8_putRow_52 : decode cX8_putRow 52 = .ok (.iload 4, 2) := by decide +kernel
theorem dX8_putRow_54 : decode cX8_putRow 54 = .ok (.iconst 1, 1) := by decide +kernel
theorem dX8_putRow_55 : decode cX8_putRow 55 = .ok (.if_icmp .lt 11, 3) := by decide +kernel
theorem dX8_putRow_58 : decode cX8_putRow 58 = .ok (.iload 4, 2) := by decide +kernel
theorem dX8_putRow_60 : decode cX8_putRow 60 = .ok (.sipush 999, 3) := by decide +kernel
theorem dX8_putRow_63 : decode cX8_putRow 63 = .ok (.if_icmp .le 13, 3) := by decide +kernel
theorem dX8_putRow_66 : decode cX8_putRow 66 = .ok (.new 80, 3) := by decide +kernel
theorem dX8_putRow_69 : decode cX8_putRow 69 = .ok (.dup, 1) := by decide +kernel
theorem dX8_putRow_70 : decode cX8_putRow 70 = .ok (.ldc 124, 2) := by decide +kernel
theorem dX8_putRow_72 : decode cX8_putRow 72 = .ok (.invokespecial 84, 3) := by decide +kernel
theorem dX8_putRow_75 : decode cX8_putRow 75 = .ok (.athrow, 1) := by decide +kernel
theorem dX8_putRow_76 : decode cX8_putRow 76 = .ok (.iload 5, 2) := by decide +kernel
theorem dX8_putRow_78 : decode cX8_putRow 78 = .ok (.iconst 1, 1) := by decide +kernel
theorem dX8_putRow_79 : decode cX8_putRow 79 = .ok (.if_icmp .lt 10, 3) := by decide +kernel
theorem dX8_putRow_82 : decode cX8_putRow 82 = .ok (.iload 5, 2) := by decide +kernel
theorem dX8_putRow_84 : decode cX8_putRow 84 = .ok (.bipush 120, 2) := by decide +kernel
theorem dX8_putRow_86 : decode cX8_putRow 86 = .ok (.if_icmp .le 13, 3) := by decide +kernel
theorem dX8_putRow_89 : decode cX8_putRow 89 = .ok (.new 80, 3) := by decide +kernel
theorem dX8_putRow_92 : decode cX8_putRow 92 = .ok (.dup, 1) := by decide +kernel
theorem dX8_putRow_93 : decode cX8_putRow 93 = .ok (.ldc 126, 2) := by decide +kernel
theorem dX8_putRow_95 : decode cX8_putRow 95 = .ok (.invokespecial 84, 3) := by decide +kernel
theorem dX8_putRow_98 : decode cX8_putRow 98 = .ok (.athrow, 1) := by decide +kernel
theorem dX8_putRow_99 : decode cX8_putRow 99 = .ok (.aload 6, 2) := by decide +kernel
theorem dX8_putRow_101 : decode cX8_putRow 101 = .ok (.iload 5, 2) := by decide +kernel
theorem dX8_putRow_103 : decode cX8_putRow 103 = .ok (.invokestatic 105, 3) := by decide +kernel
theorem dX8_putRow_106 : decode cX8_putRow 106 = .ok (.aload_n 0, 1) := by decide +kernel
theorem dX8_putRow_107 : decode cX8_putRow 107 = .ok (.getfield 54, 3) := by decide +kernel
theorem dX8_putRow_110 : decode cX8_putRow 110 = .ok (.iload_n 1, 1) := by decide +kernel
theorem dX8_putRow_111 : decode cX8_putRow 111 = .ok (.invokevirtual 109, 3) := by decide +kernel
theorem dX8_putRow_114 : decode cX8_putRow 114 = .ok (.iconst 0, 1) := by decide +kernel
theorem dX8_putRow_115 : decode cX8_putRow 115 = .ok (.istore 7, 2) := by decide +kernel
theorem dX8_putRow_117 : decode cX8_putRow 117 = .ok (.iload 7, 2) := by decide +kernel
theorem dX8_putRow_119 : decode cX8_putRow 119 = .ok (.iload 5, 2) := by decide +kernel
theorem dX8_putRow_121 : decode cX8_putRow 121 = .ok (.if_icmp .ge 30, 3) := by decide +kernel
theorem dX8_putRow_124 : decode cX8_putRow 124 = .ok (.aload 6, 2) := by decide +kernel
theorem dX8_putRow_126 : decode cX8_putRow 126 = .ok (.iload_n 2, 1) := by decide +kernel
theorem dX8_putRow_127 : decode cX8_putRow 127 = .ok (.iload 7, 2) := by decide +kernel
theorem dX8_putRow_129 : decode cX8_putRow 129 = .ok (.iload_n 3, 1) := by decide +kernel
theorem dX8_putRow_130 : decode cX8_putRow 130 = .ok (.imul, 1) := by decide +kernel
theorem dX8_putRow_131 : decode cX8_putRow 131 = .ok (.iadd, 1) := by decide +kernel
theorem dX8_putRow_132 : decode cX8_putRow 132 = .ok (.iload 4, 2) := by decide +kernel
theorem dX8_putRow_134 : decode cX8_putRow 134 = .ok (.invokestatic 128, 3) := by decide +kernel
theorem dX8_putRow_137 : decode cX8_putRow 137 = .ok (.iload 7, 2) := by decide +kernel
theorem dX8_putRow_139 : decode cX8_putRow 139 = .ok (.bipush 100, 2) := by decide +kernel
theorem dX8_putRow_141 : decode cX8_putRow 141 = .ok (.irem, 1) := by decide +kernel
theorem dX8_putRow_142 : decode cX8_putRow 142 = .ok (.invokevirtual 112, 3) := by decide +kernel
theorem dX8_putRow_145 : decode cX8_putRow 145 = .ok (.iinc 7 1, 3) := by decide +kernel
theorem dX8_putRow_148 : decode cX8_putRow 148 = .ok (.goto (-31), 3) := by decide +kernel
theorem dX8_putRow_151 : decode cX8_putRow 151 = .ok (.aload 6, 2) := by decide +kernel
theorem dX8_putRow_153 : decode cX8_putRow 153 = .ok (.invokevirtual 116, 3) := by decide +kernel
theorem dX8_putRow_156 : decode cX8_putRow 156 = .ok (.ireturn, 1) := by decide +kernel
theorem dX8_size_0 : decode cX8_size 0 = .ok (.aload_n 0, 1) := by decide +kernel
theorem dX8_size_1 : decode cX8_size 1 = .ok (.iload_n 1, 1) := by decide +kernel
theorem dX8_size_2 : decode cX8_size 2 = .ok (.invokevirtual 97, 3) := by decide +kernel
theorem dX8_size_5 : decode cX8_size 5 = .ok (.invokevirtual 116, 3) := by decide +kernel
theorem dX8_size_8 : decode cX8_size 8 = .ok (.ireturn, 1) := by decide +kernel
theorem dX8_at_0 : decode cX8_at 0 = .ok (.aload_n 0, 1) := by decide +kernel
theorem dX8_at_1 : decode cX8_at 1 = .ok (.iload_n 1, 1) := by decide +kernel
theorem dX8_at_2 : decode cX8_at 2 = .ok (.invokevirtual 97, 3) := by decide +kernel
theorem dX8_at_5 : decode cX8_at 5 = .ok (.astore 4, 2) := by decide +kernel
theorem dX8_at_7 : decode cX8_at 7 = .ok (.aload 4, 2) := by decide +kernel
theorem dX8_at_9 : decode cX8_at 9 = .ok (.iload_n 2, 1) := by decide +kernel
theorem dX8_at_10 : decode cX8_at 10 = .ok (.invokevirtual 139, 3) := by decide +kernel
theorem dX8_at_13 : decode cX8_at 13 = .ok (.ifCond .ne 13, 3) := by decide +kernel
theorem dX8_at_16 : decode cX8_at 16 = .ok (.new 143, 3) := by decide +kernel
theorem dX8_at_19 : decode cX8_at 19 = .ok (.dup, 1) := by decide +kernel
theorem dX8_at_20 : decode cX8_at 20 = .ok (.ldc 145, 2) := by decide +kernel
theorem dX8_at_22 : decode cX8_at 22 = .ok (.invokespecial 147, 3) := by decide +kernel
theorem dX8_at_25 : decode cX8_at 25 = .ok (.athrow, 1) := by decide +kernel
theorem dX8_at_26 : decode cX8_at 26 = .ok (.iload_n 3, 1) := by decide +kernel
theorem dX8_at_27 : decode cX8_at 27 = .ok (.ifCond .eq 12, 3) := by decide +kernel
theorem dX8_at_30 : decode cX8_at 30 = .ok (.aload 4, 2) := by decide +kernel
theorem dX8_at_32 : decode cX8_at 32 = .ok (.iload_n 2, 1) := by decide +kernel
theorem dX8_at_33 : decode cX8_at 33 = .ok (.invokevirtual 148, 3) := by decide +kernel
theorem dX8_at_36 : decode cX8_at 36 = .ok (.goto 9, 3) := by decide +kernel
theorem dX8_at_39 : decode cX8_at 39 = .ok (.aload 4, 2) := by decide +kernel
theorem dX8_at_41 : decode cX8_at 41 = .ok (.iload_n 2, 1) := by decide +kernel
theorem dX8_at_42 : decode cX8_at 42 = .ok (.invokevirtual 152, 3) := by decide +kernel
theorem dX8_at_45 : decode cX8_at 45 = .ok (.ireturn, 1) := by decide +kernel
theorem dX8_order_0 : decode cX8_order 0 = .ok (.aload_n 0, 1) := by decide +kernel
theorem dX8_order_1 : decode cX8_order 1 = .ok (.iload_n 1, 1) := by decide +kernel
theorem dX8_order_2 : decode cX8_order 2 = .ok (.invokevirtual 97, 3) := by decide +kernel
theorem dX8_order_5 : decode cX8_order 5 = .ok (.invokestatic 158, 3) := by decide +kernel
theorem dX8_order_8 : decode cX8_order 8 = .ok (.ireturn, 1) := by decide +kernel
theorem dX8_distinct_0 : decode cX8_distinct 0 = .ok (.aload_n 0, 1) := by decide +kernel
theorem dX8_distinct_1 : decode cX8_distinct 1 = .ok (.aload_n 0, 1) := by decide +kernel
theorem dX8_distinct_2 : decode cX8_distinct 2 = .ok (.iload_n 1, 1) := by decide +kernel
theorem dX8_distinct_3 : decode cX8_distinct 3 = .ok (.invokevirtual 97, 3) := by decide +kernel
theorem dX8_distinct_6 : decode cX8_distinct 6 = .ok (.invokevirtual 162, 3) := by decide +kernel
theorem dX8_distinct_9 : decode cX8_distinct 9 = .ok (.ireturn, 1) := by decide +kernel
theorem dX8_inversions_0 : decode cX8_inversions 0 = .ok (.aload_n 0, 1) := by decide +kernel
theorem dX8_inversions_1 : decode cX8_inversions 1 = .ok (.iload_n 1, 1) := by decide +kernel
theorem dX8_inversions_2 : decode cX8_inversions 2 = .ok (.invokevirtual 97, 3) := by decide +kernel
theorem dX8_inversions_5 : decode cX8_inversions 5 = .ok (.astore_n 2, 1) := by decide +kernel
theorem dX8_inversions_6 : decode cX8_inversions 6 = .ok (.iconst 0, 1) := by decide +kernel
theorem dX8_inversions_7 : decode cX8_inversions 7 = .ok (.istore_n 3, 1) := by decide +kernel
theorem dX8_inversions_8 : decode cX8_inversions 8 = .ok (.iconst 1, 1) := by decide +kernel
theorem dX8_inversions_9 : decode cX8_inversions 9 = .ok (.istore 4, 2) := by decide +kernel
theorem dX8_inversions_11 : decode cX8_inversions 11 = .ok (.iload 4, 2) := by decide +kernel
theorem dX8_inversions_13 : decode cX8_inversions 13 = .ok (.aload_n 2, 1) := by decide +kernel
theorem dX8_inversions_14 : decode cX8_inversions 14 = .ok (.invokevirtual 116, 3) := by decide +kernel
theorem dX8_inversions_17 : decode cX8_inversions 17 = .ok (.if_icmp .ge 43, 3) := by decide +kernel
theorem dX8_inversions_20 : decode cX8_inversions 20 = .ok (.iconst 0, 1) := by decide +kernel
theorem dX8_inversions_21 : decode cX8_inversions 21 = .ok (.istore 5, 2) := by decide +kernel
theorem dX8_inversions_23 : decode cX8_inversions 23 = .ok (.iload 5, 2) := by decide +kernel
theorem dX8_inversions_25 : decode cX8_inversions 25 = .ok (.iload 4, 2) := by decide +kernel
theorem dX8_inversions_27 : decode cX8_inversions 27 = .ok (.if_icmp .ge 27, 3) := by decide +kernel
theorem dX8_inversions_30 : decode cX8_inversions 30 = .ok (.aload_n 2, 1) := by decide +kernel
theorem dX8_inversions_31 : decode cX8_inversions 31 = .ok (.iload 5, 2) := by decide +kernel
theorem dX8_inversions_33 : decode cX8_inversions 33 = .ok (.invokevirtual 152, 3) := by decide +kernel
theorem dX8_inversions_36 : decode cX8_inversions 36 = .ok (.aload_n 2, 1) := by decide +kernel
theorem dX8_inversions_37 : decode cX8_inversions 37 = .ok (.iload 4, 2) := by decide +kernel
theorem dX8_inversions_39 : decode cX8_inversions 39 = .ok (.invokevirtual 152, 3) := by decide +kernel
theorem dX8_inversions_42 : decode cX8_inversions 42 = .ok (.if_icmp .le 6, 3) := by decide +kernel
theorem dX8_inversions_45 : decode cX8_inversions 45 = .ok (.iinc 3 1, 3) := by decide +kernel
theorem dX8_inversions_48 : decode cX8_inversions 48 = .ok (.iinc 5 1, 3) := by decide +kernel
theorem dX8_inversions_51 : decode cX8_inversions 51 = .ok (.goto (-28), 3) := by decide +kernel
theorem dX8_inversions_54 : decode cX8_inversions 54 = .ok (.iinc 4 1, 3) := by decide +kernel
theorem dX8_inversions_57 : decode cX8_inversions 57 = .ok (.goto (-46), 3) := by decide +kernel
theorem dX8_inversions_60 : decode cX8_inversions 60 = .ok (.iload_n 3, 1) := by decide +kernel
theorem dX8_inversions_61 : decode cX8_inversions 61 = .ok (.ireturn, 1) := by decide +kernel
theorem dX8_read_0 : decode cX8_read 0 = .ok (.aload_n 0, 1) := by decide +kernel
theorem dX8_read_1 : decode cX8_read 1 = .ok (.getfield 25, 3) := by decide +kernel
theorem dX8_read_4 : decode cX8_read 4 = .ok (.ireturn, 1) := by decide +kernel
theorem dX8_written_0 : decode cX8_written 0 = .ok (.aload_n 0, 1) := by decide +kernel
theorem dX8_written_1 : decode cX8_written 1 = .ok (.getfield 28, 3) := by decide +kernel
theorem dX8_written_4 : decode cX8_written 4 = .ok (.ireturn, 1) := by decide +kernel
theorem dX8_sort_0 : decode cX8_sort 0 = .ok (.aload_n 0, 1) := by decide +kernel
theorem dX8_sort_1 : decode cX8_sort 1 = .ok (.iload_n 1, 1) := by decide +kernel
theorem dX8_sort_2 : decode cX8_sort 2 = .ok (.invokevirtual 97, 3) := by decide +kernel
theorem dX8_sort_5 : decode cX8_sort 5 = .ok (.astore 5, 2) := by decide +kernel
theorem dX8_sort_7 : decode cX8_sort 7 = .ok (.aload_n 0, 1) := by decide +kernel
theorem dX8_sort_8 : decode cX8_sort 8 = .ok (.invokevirtual 91, 3) := by decide +kernel
theorem dX8_sort_11 : decode cX8_sort 11 = .ok (.aload_n 0, 1) := by decide +kernel
theorem dX8_sort_12 : decode cX8_sort 12 = .ok (.getfield 37, 3) := by decide +kernel
theorem dX8_sort_15 : decode cX8_sort 15 = .ok (.aload 5, 2) := by decide +kernel
theorem dX8_sort_17 : decode cX8_sort 17 = .ok (.iload_n 2, 1) := by decide +kernel
theorem dX8_sort_18 : decode cX8_sort 18 = .ok (.iload_n 3, 1) := by decide +kernel
theorem dX8_sort_19 : decode cX8_sort 19 = .ok (.iload 4, 2) := by decide +kernel
theorem dX8_sort_21 : decode cX8_sort 21 = .ok (.aload_n 0, 1) := by decide +kernel
theorem dX8_sort_22 : decode cX8_sort 22 = .ok (.getfield 19, 3) := by decide +kernel
theorem dX8_sort_25 : decode cX8_sort 25 = .ok (.aload_n 0, 1) := by decide +kernel
theorem dX8_sort_26 : decode cX8_sort 26 = .ok (.getfield 22, 3) := by decide +kernel
theorem dX8_sort_29 : decode cX8_sort 29 = .ok (.invokevirtual 165, 3) := by decide +kernel
theorem dX8_sort_32 : decode cX8_sort 32 = .ok (.aload_n 0, 1) := by decide +kernel
theorem dX8_sort_33 : decode cX8_sort 33 = .ok (.getfield 61, 3) := by decide +kernel
theorem dX8_sort_36 : decode cX8_sort 36 = .ok (.invokevirtual 169, 3) := by decide +kernel
theorem dX8_sort_39 : decode cX8_sort 39 = .ok (.aload_n 0, 1) := by decide +kernel
theorem dX8_sort_40 : decode cX8_sort 40 = .ok (.getfield 61, 3) := by decide +kernel
theorem dX8_sort_43 : decode cX8_sort 43 = .ok (.aload_n 0, 1) := by decide +kernel
theorem dX8_sort_44 : decode cX8_sort 44 = .ok (.getfield 37, 3) := by decide +kernel
theorem dX8_sort_47 : decode cX8_sort 47 = .ok (.getfield 172, 3) := by decide +kernel
theorem dX8_sort_50 : decode cX8_sort 50 = .ok (.putfield 173, 3) := by decide +kernel
theorem dX8_sort_53 : decode cX8_sort 53 = .ok (.aload_n 0, 1) := by decide +kernel
theorem dX8_sort_54 : decode cX8_sort 54 = .ok (.getfield 61, 3) := by decide +kernel
theorem dX8_sort_57 : decode cX8_sort 57 = .ok (.aload_n 0, 1) := by decide +kernel
theorem dX8_sort_58 : decode cX8_sort 58 = .ok (.getfield 37, 3) := by decide +kernel
theorem dX8_sort_61 : decode cX8_sort 61 = .ok (.getfield 174, 3) := by decide +kernel
theorem dX8_sort_64 : decode cX8_sort 64 = .ok (.putfield 175, 3) := by decide +kernel
theorem dX8_sort_67 : decode cX8_sort 67 = .ok (.aload_n 0, 1) := by decide +kernel
theorem dX8_sort_68 : decode cX8_sort 68 = .ok (.aload 5, 2) := by decide +kernel
theorem dX8_sort_70 : decode cX8_sort 70 = .ok (.iload 4, 2) := by decide +kernel
theorem dX8_sort_72 : decode cX8_sort 72 = .ok (.invokevirtual 176, 3) := by decide +kernel
theorem dX8_sort_75 : decode cX8_sort 75 = .ok (.aload_n 0, 1) := by decide +kernel
theorem dX8_sort_76 : decode cX8_sort 76 = .ok (.invokevirtual 180, 3) := by decide +kernel
theorem dX8_sort_79 : decode cX8_sort 79 = .ok (.ireturn, 1) := by decide +kernel
theorem dX8_runs_0 : decode cX8_runs 0 = .ok (.aload_n 0, 1) := by decide +kernel
theorem dX8_runs_1 : decode cX8_runs 1 = .ok (.getfield 37, 3) := by decide +kernel
theorem dX8_runs_4 : decode cX8_runs 4 = .ok (.getfield 183, 3) := by decide +kernel
theorem dX8_runs_7 : decode cX8_runs 7 = .ok (.invokevirtual 187, 3) := by decide +kernel
theorem dX8_runs_10 : decode cX8_runs 10 = .ok (.ireturn, 1) := by decide +kernel
theorem dX8_runSize_0 : decode cX8_runSize 0 = .ok (.aload_n 0, 1) := by decide +kernel
theorem dX8_runSize_1 : decode cX8_runSize 1 = .ok (.getfield 37, 3) := by decide +kernel
theorem dX8_runSize_4 : decode cX8_runSize 4 = .ok (.getfield 183, 3) := by decide +kernel
theorem dX8_runSize_7 : decode cX8_runSize 7 = .ok (.iload_n 1, 1) := by decide +kernel
theorem dX8_runSize_8 : decode cX8_runSize 8 = .ok (.invokevirtual 190, 3) := by decide +kernel
theorem dX8_runSize_11 : decode cX8_runSize 11 = .ok (.ifCond .ne 13, 3) := by decide +kernel
theorem dX8_runSize_14 : decode cX8_runSize 14 = .ok (.new 143, 3) := by decide +kernel
theorem dX8_runSize_17 : decode cX8_runSize 17 = .ok (.dup, 1) := by decide +kernel
theorem dX8_runSize_18 : decode cX8_runSize 18 = .ok (.ldc 191, 2) := by decide +kernel
theorem dX8_runSize_20 : decode cX8_runSize 20 = .ok (.invokespecial 147, 3) := by decide +kernel
theorem dX8_runSize_23 : decode cX8_runSize 23 = .ok (.athrow, 1) := by decide +kernel
theorem dX8_runSize_24 : decode cX8_runSize 24 = .ok (.aload_n 0, 1) := by decide +kernel
theorem dX8_runSize_25 : decode cX8_runSize 25 = .ok (.getfield 37, 3) := by decide +kernel
theorem dX8_runSize_28 : decode cX8_runSize 28 = .ok (.getfield 183, 3) := by decide +kernel
theorem dX8_runSize_31 : decode cX8_runSize 31 = .ok (.iload_n 1, 1) := by decide +kernel
theorem dX8_runSize_32 : decode cX8_runSize 32 = .ok (.invokevirtual 193, 3) := by decide +kernel
theorem dX8_runSize_35 : decode cX8_runSize 35 = .ok (.ireturn, 1) := by decide +kernel
theorem dX8_merges_0 : decode cX8_merges 0 = .ok (.aload_n 0, 1) := by decide +kernel
theorem dX8_merges_1 : decode cX8_merges 1 = .ok (.getfield 37, 3) := by decide +kernel
theorem dX8_merges_4 : decode cX8_merges 4 = .ok (.getfield 196, 3) := by decide +kernel
theorem dX8_merges_7 : decode cX8_merges 7 = .ok (.invokevirtual 187, 3) := by decide +kernel
theorem dX8_merges_10 : decode cX8_merges 10 = .ok (.ireturn, 1) := by decide +kernel
theorem dX8_merge_0 : decode cX8_merge 0 = .ok (.aload_n 0, 1) := by decide +kernel
theorem dX8_merge_1 : decode cX8_merge 1 = .ok (.getfield 37, 3) := by decide +kernel
theorem dX8_merge_4 : decode cX8_merge 4 = .ok (.getfield 196, 3) := by decide +kernel
theorem dX8_merge_7 : decode cX8_merge 7 = .ok (.iload_n 1, 1) := by decide +kernel
theorem dX8_merge_8 : decode cX8_merge 8 = .ok (.invokevirtual 190, 3) := by decide +kernel
theorem dX8_merge_11 : decode cX8_merge 11 = .ok (.ifCond .ne 13, 3) := by decide +kernel
theorem dX8_merge_14 : decode cX8_merge 14 = .ok (.new 143, 3) := by decide +kernel
theorem dX8_merge_17 : decode cX8_merge 17 = .ok (.dup, 1) := by decide +kernel
theorem dX8_merge_18 : decode cX8_merge 18 = .ok (.ldc 199, 2) := by decide +kernel
theorem dX8_merge_20 : decode cX8_merge 20 = .ok (.invokespecial 147, 3) := by decide +kernel
theorem dX8_merge_23 : decode cX8_merge 23 = .ok (.athrow, 1) := by decide +kernel
theorem dX8_merge_24 : decode cX8_merge 24 = .ok (.iload_n 2, 1) := by decide +kernel
theorem dX8_merge_25 : decode cX8_merge 25 = .ok (.ifCond .eq 18, 3) := by decide +kernel
theorem dX8_merge_28 : decode cX8_merge 28 = .ok (.iload_n 2, 1) := by decide +kernel
theorem dX8_merge_29 : decode cX8_merge 29 = .ok (.iconst 1, 1) := by decide +kernel
theorem dX8_merge_30 : decode cX8_merge 30 = .ok (.if_icmp .eq 13, 3) := by decide +kernel
theorem dX8_merge_33 : decode cX8_merge 33 = .ok (.new 80, 3) := by decide +kernel
theorem dX8_merge_36 : decode cX8_merge 36 = .ok (.dup, 1) := by decide +kernel
theorem dX8_merge_37 : decode cX8_merge 37 = .ok (.ldc 201, 2) := by decide +kernel
theorem dX8_merge_39 : decode cX8_merge 39 = .ok (.invokespecial 84, 3) := by decide +kernel
theorem dX8_merge_42 : decode cX8_merge 42 = .ok (.athrow, 1) := by decide +kernel
theorem dX8_merge_43 : decode cX8_merge 43 = .ok (.iload_n 2, 1) := by decide +kernel
theorem dX8_merge_44 : decode cX8_merge 44 = .ok (.ifCond .ne 17, 3) := by decide +kernel
theorem dX8_merge_47 : decode cX8_merge 47 = .ok (.aload_n 0, 1) := by decide +kernel
theorem dX8_merge_48 : decode cX8_merge 48 = .ok (.getfield 37, 3) := by decide +kernel
theorem dX8_merge_51 : decode cX8_merge 51 = .ok (.getfield 203, 3) := by decide +kernel
theorem dX8_merge_54 : decode cX8_merge 54 = .ok (.iload_n 1, 1) := by decide +kernel
theorem dX8_merge_55 : decode cX8_merge 55 = .ok (.invokevirtual 193, 3) := by decide +kernel
theorem dX8_merge_58 : decode cX8_merge 58 = .ok (.goto 14, 3) := by decide +kernel
theorem dX8_merge_61 : decode cX8_merge 61 = .ok (.aload_n 0, 1) := by decide +kernel
theorem dX8_merge_62 : decode cX8_merge 62 = .ok (.getfield 37, 3) := by decide +kernel
theorem dX8_merge_65 : decode cX8_merge 65 = .ok (.getfield 196, 3) := by decide +kernel
theorem dX8_merge_68 : decode cX8_merge 68 = .ok (.iload_n 1, 1) := by decide +kernel
theorem dX8_merge_69 : decode cX8_merge 69 = .ok (.invokevirtual 193, 3) := by decide +kernel
theorem dX8_merge_72 : decode cX8_merge 72 = .ok (.ireturn, 1) := by decide +kernel
theorem dX8_begin_0 : decode cX8_begin 0 = .ok (.iload_n 1, 1) := by decide +kernel
theorem dX8_begin_1 : decode cX8_begin 1 = .ok (.ifCond .lt 21, 3) := by decide +kernel
theorem dX8_begin_4 : decode cX8_begin 4 = .ok (.iload_n 1, 1) := by decide +kernel
theorem dX8_begin_5 : decode cX8_begin 5 = .ok (.aload_n 0, 1) := by decide +kernel
theorem dX8_begin_6 : decode cX8_begin 6 = .ok (.getfield 15, 3) := by decide +kernel
theorem dX8_begin_9 : decode cX8_begin 9 = .ok (.if_icmp .ge 13, 3) := by decide +kernel
theorem dX8_begin_12 : decode cX8_begin 12 = .ok (.iload_n 2, 1) := by decide +kernel
theorem dX8_begin_13 : decode cX8_begin 13 = .ok (.aload_n 0, 1) := by decide +kernel
theorem dX8_begin_14 : decode cX8_begin 14 = .ok (.getfield 15, 3) := by decide +kernel
theorem dX8_begin_17 : decode cX8_begin 17 = .ok (.iload_n 1, 1) := by decide +kernel
theorem dX8_begin_18 : decode cX8_begin 18 = .ok (.isub, 1) := by decide +kernel
theorem dX8_begin_19 : decode cX8_begin 19 = .ok (.if_icmp .le 13, 3) := by decide +kernel
theorem dX8_begin_22 : decode cX8_begin 22 = .ok (.new 143, 3) := by decide +kernel
theorem dX8_begin_25 : decode cX8_begin 25 = .ok (.dup, 1) := by decide +kernel
theorem dX8_begin_26 : decode cX8_begin 26 = .ok (.ldc 206, 2) := by decide +kernel
theorem dX8_begin_28 : decode cX8_begin 28 = .ok (.invokespecial 147, 3) := by decide +kernel
theorem dX8_begin_31 : decode cX8_begin 31 = .ok (.athrow, 1) := by decide +kernel
theorem dX8_begin_32 : decode cX8_begin 32 = .ok (.iload_n 2, 1) := by decide +kernel
theorem dX8_begin_33 : decode cX8_begin 33 = .ok (.iconst 2, 1) := by decide +kernel
theorem dX8_begin_34 : decode cX8_begin 34 = .ok (.if_icmp .lt 9, 3) := by decide +kernel
theorem dX8_begin_37 : decode cX8_begin 37 = .ok (.iload_n 2, 1) := by decide +kernel
theorem dX8_begin_38 : decode cX8_begin 38 = .ok (.bipush 8, 2) := by decide +kernel
theorem dX8_begin_40 : decode cX8_begin 40 = .ok (.if_icmp .le 13, 3) := by decide +kernel
theorem dX8_begin_43 : decode cX8_begin 43 = .ok (.new 80, 3) := by decide +kernel
theorem dX8_begin_46 : decode cX8_begin 46 = .ok (.dup, 1) := by decide +kernel
theorem dX8_begin_47 : decode cX8_begin 47 = .ok (.ldc 208, 2) := by decide +kernel
theorem dX8_begin_49 : decode cX8_begin 49 = .ok (.invokespecial 84, 3) := by decide +kernel
theorem dX8_begin_52 : decode cX8_begin 52 = .ok (.athrow, 1) := by decide +kernel
theorem dX8_begin_53 : decode cX8_begin 53 = .ok (.iload_n 1, 1) := by decide +kernel
theorem dX8_begin_54 : decode cX8_begin 54 = .ok (.istore_n 3, 1) := by decide +kernel
theorem dX8_begin_55 : decode cX8_begin 55 = .ok (.iload_n 3, 1) := by decide +kernel
theorem dX8_begin_56 : decode cX8_begin 56 = .ok (.iload_n 1, 1) := by decide +kernel
theorem dX8_begin_57 : decode cX8_begin 57 = .ok (.iload_n 2, 1) := by decide +kernel
theorem dX8_begin_58 : decode cX8_begin 58 = .ok (.iadd, 1) := by decide +kernel
theorem dX8_begin_59 : decode cX8_begin 59 = .ok (.if_icmp .ge 18, 3) := by decide +kernel
theorem dX8_begin_62 : decode cX8_begin 62 = .ok (.aload_n 0, 1) := by decide +kernel
theorem dX8_begin_63 : decode cX8_begin 63 = .ok (.getfield 11, 3) := by decide +kernel
theorem dX8_begin_66 : decode cX8_begin 66 = .ok (.iload_n 3, 1) := by decide +kernel
theorem dX8_begin_67 : decode cX8_begin 67 = .ok (.aaload, 1) := by decide +kernel
theorem dX8_begin_68 : decode cX8_begin 68 = .ok (.invokestatic 210, 3) := by decide +kernel
theorem dX8_begin_71 : decode cX8_begin 71 = .ok (.iinc 3 1, 3) := by decide +kernel
theorem dX8_begin_74 : decode cX8_begin 74 = .ok (.goto (-19), 3) := by decide +kernel
theorem dX8_begin_77 : decode cX8_begin 77 = .ok (.aload_n 0, 1) := by decide +kernel
theorem dX8_begin_78 : decode cX8_begin 78 = .ok (.getfield 54, 3) := by decide +kernel
theorem dX8_begin_81 : decode cX8_begin 81 = .ok (.iload_n 1, 1) := by decide +kernel
theorem dX8_begin_82 : decode cX8_begin 82 = .ok (.iload_n 2, 1) := by decide +kernel
theorem dX8_begin_83 : decode cX8_begin 83 = .ok (.invokevirtual 214, 3) := by decide +kernel
theorem dX8_begin_86 : decode cX8_begin 86 = .ok (.iconst 0, 1) := by decide +kernel
theorem dX8_begin_87 : decode cX8_begin 87 = .ok (.istore_n 3, 1) := by decide +kernel
theorem dX8_begin_88 : decode cX8_begin 88 = .ok (.iload_n 3, 1) := by decide +kernel
theorem dX8_begin_89 : decode cX8_begin 89 = .ok (.iload_n 2, 1) := by decide +kernel
theorem dX8_begin_90 : decode cX8_begin 90 = .ok (.if_icmp .ge 25, 3) := by decide +kernel
theorem dX8_begin_93 : decode cX8_begin 93 = .ok (.aload_n 0, 1) := by decide +kernel
theorem dX8_begin_94 : decode cX8_begin 94 = .ok (.getfield 54, 3) := by decide +kernel
theorem dX8_begin_97 : decode cX8_begin 97 = .ok (.iload_n 3, 1) := by decide +kernel
theorem dX8_begin_98 : decode cX8_begin 98 = .ok (.aload_n 0, 1) := by decide +kernel
theorem dX8_begin_99 : decode cX8_begin 99 = .ok (.getfield 11, 3) := by decide +kernel
theorem dX8_begin_102 : decode cX8_begin 102 = .ok (.iload_n 1, 1) := by decide +kernel
theorem dX8_begin_103 : decode cX8_begin 103 = .ok (.iload_n 3, 1) := by decide +kernel
theorem dX8_begin_104 : decode cX8_begin 104 = .ok (.iadd, 1) := by decide +kernel
theorem dX8_begin_105 : decode cX8_begin 105 = .ok (.aaload, 1) := by decide +kernel
theorem dX8_begin_106 : decode cX8_begin 106 = .ok (.invokevirtual 217, 3) := by decide +kernel
theorem dX8_begin_109 : decode cX8_begin 109 = .ok (.iinc 3 1, 3) := by decide +kernel
theorem dX8_begin_112 : decode cX8_begin 112 = .ok (.goto (-24), 3) := by decide +kernel
theorem dX8_begin_115 : decode cX8_begin 115 = .ok (.aload_n 0, 1) := by decide +kernel
theorem dX8_begin_116 : decode cX8_begin 116 = .ok (.getfield 54, 3) := by decide +kernel
theorem dX8_begin_119 : decode cX8_begin 119 = .ok (.invokevirtual 221, 3) := by decide +kernel
theorem dX8_begin_122 : decode cX8_begin 122 = .ok (.aload_n 0, 1) := by decide +kernel
theorem dX8_begin_123 : decode cX8_begin 123 = .ok (.getfield 54, 3) := by decide +kernel
theorem dX8_begin_126 : decode cX8_begin 126 = .ok (.getfield 224, 3) := by decide +kernel
theorem dX8_begin_129 : decode cX8_begin 129 = .ok (.ireturn, 1) := by decide +kernel
theorem dX8_next_0 : decode cX8_next 0 = .ok (.aload_n 0, 1) := by decide +kernel
theorem dX8_next_1 : decode cX8_next 1 = .ok (.invokevirtual 227, 3) := by decide +kernel
theorem dX8_next_4 : decode cX8_next 4 = .ok (.aload_n 0, 1) := by decide +kernel
theorem dX8_next_5 : decode cX8_next 5 = .ok (.getfield 54, 3) := by decide +kernel
theorem dX8_next_8 : decode cX8_next 8 = .ok (.invokevirtual 230, 3) := by decide +kernel
theorem dX8_next_11 : decode cX8_next 11 = .ok (.ireturn, 1) := by decide +kernel
theorem dX8_matches_0 : decode cX8_matches 0 = .ok (.aload_n 0, 1) := by decide +kernel
theorem dX8_matches_1 : decode cX8_matches 1 = .ok (.getfield 54, 3) := by decide +kernel
theorem dX8_matches_4 : decode cX8_matches 4 = .ok (.getfield 244, 3) := by decide +kernel
theorem dX8_matches_7 : decode cX8_matches 7 = .ok (.ifCond .eq 13, 3) := by decide +kernel
theorem dX8_matches_10 : decode cX8_matches 10 = .ok (.aload_n 0, 1) := by decide +kernel
theorem dX8_matches_11 : decode cX8_matches 11 = .ok (.getfield 54, 3) := by decide +kernel
theorem dX8_matches_14 : decode cX8_matches 14 = .ok (.getfield 248, 3) := by decide +kernel
theorem dX8_matches_17 : decode cX8_matches 17 = .ok (.goto 4, 3) := by decide +kernel
theorem dX8_matches_20 : decode cX8_matches 20 = .ok (.iconst 0, 1) := by decide +kernel
theorem dX8_matches_21 : decode cX8_matches 21 = .ok (.ireturn, 1) := by decide +kernel
theorem dX8_join_0 : decode cX8_join 0 = .ok (.aload_n 0, 1) := by decide +kernel
theorem dX8_join_1 : decode cX8_join 1 = .ok (.iload_n 1, 1) := by decide +kernel
theorem dX8_join_2 : decode cX8_join 2 = .ok (.invokevirtual 97, 3) := by decide +kernel
theorem dX8_join_5 : decode cX8_join 5 = .ok (.astore 4, 2) := by decide +kernel
theorem dX8_join_7 : decode cX8_join 7 = .ok (.aload_n 0, 1) := by decide +kernel
theorem dX8_join_8 : decode cX8_join 8 = .ok (.iload_n 2, 1) := by decide +kernel
theorem dX8_join_9 : decode cX8_join 9 = .ok (.invokevirtual 97, 3) := by decide +kernel
theorem dX8_join_12 : decode cX8_join 12 = .ok (.astore 5, 2) := by decide +kernel
theorem dX8_join_14 : decode cX8_join 14 = .ok (.iload_n 3, 1) := by decide +kernel
theorem dX8_join_15 : decode cX8_join 15 = .ok (.invokestatic 251, 3) := by decide +kernel
theorem dX8_join_18 : decode cX8_join 18 = .ok (.aload 4, 2) := by decide +kernel
theorem dX8_join_20 : decode cX8_join 20 = .ok (.invokestatic 210, 3) := by decide +kernel
theorem dX8_join_23 : decode cX8_join 23 = .ok (.aload 5, 2) := by decide +kernel
theorem dX8_join_25 : decode cX8_join 25 = .ok (.invokestatic 210, 3) := by decide +kernel
theorem dX8_join_28 : decode cX8_join 28 = .ok (.aload_n 0, 1) := by decide +kernel
theorem dX8_join_29 : decode cX8_join 29 = .ok (.invokevirtual 91, 3) := by decide +kernel
theorem dX8_join_32 : decode cX8_join 32 = .ok (.aload_n 0, 1) := by decide +kernel
theorem dX8_join_33 : decode cX8_join 33 = .ok (.getfield 61, 3) := by decide +kernel
theorem dX8_join_36 : decode cX8_join 36 = .ok (.invokevirtual 169, 3) := by decide +kernel
theorem dX8_join_39 : decode cX8_join 39 = .ok (.aload_n 0, 1) := by decide +kernel
theorem dX8_join_40 : decode cX8_join 40 = .ok (.aload 4, 2) := by decide +kernel
theorem dX8_join_42 : decode cX8_join 42 = .ok (.aload 5, 2) := by decide +kernel
theorem dX8_join_44 : decode cX8_join 44 = .ok (.iload_n 3, 1) := by decide +kernel
theorem dX8_join_45 : decode cX8_join 45 = .ok (.invokevirtual 254, 3) := by decide +kernel
theorem dX8_join_48 : decode cX8_join 48 = .ok (.aload_n 0, 1) := by decide +kernel
theorem dX8_join_49 : decode cX8_join 49 = .ok (.invokevirtual 258, 3) := by decide +kernel
theorem dX8_join_52 : decode cX8_join 52 = .ok (.aload_n 0, 1) := by decide +kernel
theorem dX8_join_53 : decode cX8_join 53 = .ok (.invokevirtual 180, 3) := by decide +kernel
theorem dX8_join_56 : decode cX8_join 56 = .ok (.ireturn, 1) := by decide +kernel
theorem dX8_split_0 : decode cX8_split 0 = .ok (.aload_n 0, 1) := by decide +kernel
theorem dX8_split_1 : decode cX8_split 1 = .ok (.iload_n 1, 1) := by decide +kernel
theorem dX8_split_2 : decode cX8_split 2 = .ok (.invokevirtual 97, 3) := by decide +kernel
theorem dX8_split_5 : decode cX8_split 5 = .ok (.astore_n 3, 1) := by decide +kernel
theorem dX8_split_6 : decode cX8_split 6 = .ok (.aload_n 0, 1) := by decide +kernel
theorem dX8_split_7 : decode cX8_split 7 = .ok (.iload_n 2, 1) := by decide +kernel
theorem dX8_split_8 : decode cX8_split 8 = .ok (.invokevirtual 97, 3) := by decide +kernel
theorem dX8_split_11 : decode cX8_split 11 = .ok (.astore 4, 2) := by decide +kernel
theorem dX8_split_13 : decode cX8_split 13 = .ok (.aload_n 0, 1) := by decide +kernel
theorem dX8_split_14 : decode cX8_split 14 = .ok (.invokevirtual 91, 3) := by decide +kernel
theorem dX8_split_17 : decode cX8_split 17 = .ok (.aload_n 0, 1) := by decide +kernel
theorem dX8_split_18 : decode cX8_split 18 = .ok (.aload_n 3, 1) := by decide +kernel
theorem dX8_split_19 : decode cX8_split 19 = .ok (.aload 4, 2) := by decide +kernel
theorem dX8_split_21 : decode cX8_split 21 = .ok (.invokevirtual 261, 3) := by decide +kernel
theorem dX8_split_24 : decode cX8_split 24 = .ok (.aload_n 0, 1) := by decide +kernel
theorem dX8_split_25 : decode cX8_split 25 = .ok (.invokevirtual 258, 3) := by decide +kernel
theorem dX8_split_28 : decode cX8_split 28 = .ok (.aload_n 0, 1) := by decide +kernel
theorem dX8_split_29 : decode cX8_split 29 = .ok (.invokevirtual 180, 3) := by decide +kernel
theorem dX8_split_32 : decode cX8_split 32 = .ok (.ireturn, 1) := by decide +kernel
theorem dX8_group_0 : decode cX8_group 0 = .ok (.aload_n 0, 1) := by decide +kernel
theorem dX8_group_1 : decode cX8_group 1 = .ok (.iload_n 1, 1) := by decide +kernel
theorem dX8_group_2 : decode cX8_group 2 = .ok (.invokevirtual 97, 3) := by decide +kernel
theorem dX8_group_5 : decode cX8_group 5 = .ok (.astore_n 3, 1) := by decide +kernel
theorem dX8_group_6 : decode cX8_group 6 = .ok (.iload_n 2, 1) := by decide +kernel
theorem dX8_group_7 : decode cX8_group 7 = .ok (.invokestatic 251, 3) := by decide +kernel
theorem dX8_group_10 : decode cX8_group 10 = .ok (.aload_n 3, 1) := by decide +kernel
theorem dX8_group_11 : decode cX8_group 11 = .ok (.invokevirtual 265, 3) := by decide +kernel
theorem dX8_group_14 : decode cX8_group 14 = .ok (.ifCond .ne 21, 3) := by decide +kernel
theorem dX8_group_17 : decode cX8_group 17 = .ok (.aload_n 3, 1) := by decide +kernel
theorem dX8_group_18 : decode cX8_group 18 = .ok (.invokevirtual 269, 3) := by decide +kernel
theorem dX8_group_21 : decode cX8_group 21 = .ok (.ifCond .ne 14, 3) := by decide +kernel
theorem dX8_group_24 : decode cX8_group 24 = .ok (.new 134, 3) := by decide +kernel
theorem dX8_group_27 : decode cX8_group 27 = .ok (.dup, 1) := by decide +kernel
theorem dX8_group_28 : decode cX8_group 28 = .ok (.ldc_w 272, 3) := by decide +kernel
end
section
-- decode rows, part 5
theorem dX8_group_31 : decode cX8_group 31 = .ok (.invokespecial 138, 3) := by decide +kernel
theorem dX8_group_34 : decode cX8_group 34 = .ok (.athrow, 1) := by decide +kernel
theorem dX8_group_35 : decode cX8_group 35 = .ok (.aload_n 0, 1) := by decide +kernel
theorem dX8_group_36 : decode cX8_group 36 = .ok (.invokevirtual 91, 3) := by decide +kernel
theorem dX8_group_39 : decode cX8_group 39 = .ok (.aload_n 0, 1) := by decide +kernel
theorem dX8_group_40 : decode cX8_group 40 = .ok (.getfield 61, 3) := by decide +kernel
theorem dX8_group_43 : decode cX8_group 43 = .ok (.invokevirtual 169, 3) := by decide +kernel
theorem dX8_group_46 : decode cX8_group 46 = .ok (.aload_n 0, 1) := by decide +kernel
theorem dX8_group_47 : decode cX8_group 47 = .ok (.getfield 61, 3) := by decide +kernel
theorem dX8_group_50 : decode cX8_group 50 = .ok (.aload_n 3, 1) := by decide +kernel
theorem dX8_group_51 : decode cX8_group 51 = .ok (.invokevirtual 116, 3) := by decide +kernel
theorem dX8_group_54 : decode cX8_group 54 = .ok (.aload_n 0, 1) := by decide +kernel
theorem dX8_group_55 : decode cX8_group 55 = .ok (.getfield 19, 3) := by decide +kernel
theorem dX8_group_58 : decode cX8_group 58 = .ok (.invokestatic 155, 3) := by decide +kernel
theorem dX8_group_61 : decode cX8_group 61 = .ok (.putfield 173, 3) := by decide +kernel
theorem dX8_group_64 : decode cX8_group 64 = .ok (.aload_n 0, 1) := by decide +kernel
theorem dX8_group_65 : decode cX8_group 65 = .ok (.aload_n 3, 1) := by decide +kernel
theorem dX8_group_66 : decode cX8_group 66 = .ok (.iload_n 2, 1) := by decide +kernel
theorem dX8_group_67 : decode cX8_group 67 = .ok (.invokevirtual 274, 3) := by decide +kernel
theorem dX8_group_70 : decode cX8_group 70 = .ok (.aload_n 0, 1) := by decide +kernel
theorem dX8_group_71 : decode cX8_group 71 = .ok (.getfield 61, 3) := by decide +kernel
theorem dX8_group_74 : decode cX8_group 74 = .ok (.aload_n 0, 1) := by decide +kernel
theorem dX8_group_75 : decode cX8_group 75 = .ok (.getfield 61, 3) := by decide +kernel
theorem dX8_group_78 : decode cX8_group 78 = .ok (.getfield 277, 3) := by decide +kernel
theorem dX8_group_81 : decode cX8_group 81 = .ok (.aload_n 0, 1) := by decide +kernel
theorem dX8_group_82 : decode cX8_group 82 = .ok (.getfield 19, 3) := by decide +kernel
theorem dX8_group_85 : decode cX8_group 85 = .ok (.invokestatic 155, 3) := by decide +kernel
theorem dX8_group_88 : decode cX8_group 88 = .ok (.putfield 175, 3) := by decide +kernel
theorem dX8_group_91 : decode cX8_group 91 = .ok (.aload_n 0, 1) := by decide +kernel
theorem dX8_group_92 : decode cX8_group 92 = .ok (.invokevirtual 180, 3) := by decide +kernel
theorem dX8_group_95 : decode cX8_group 95 = .ok (.ireturn, 1) := by decide +kernel
theorem dX8_sortCost_0 : decode cX8_sortCost 0 = .ok (.aload_n 0, 1) := by decide +kernel
theorem dX8_sortCost_1 : decode cX8_sortCost 1 = .ok (.iload_n 1, 1) := by decide +kernel
theorem dX8_sortCost_2 : decode cX8_sortCost 2 = .ok (.invokevirtual 97, 3) := by decide +kernel
theorem dX8_sortCost_5 : decode cX8_sortCost 5 = .ok (.astore 5, 2) := by decide +kernel
theorem dX8_sortCost_7 : decode cX8_sortCost 7 = .ok (.iload 4, 2) := by decide +kernel
theorem dX8_sortCost_9 : decode cX8_sortCost 9 = .ok (.invokestatic 87, 3) := by decide +kernel
theorem dX8_sortCost_12 : decode cX8_sortCost 12 = .ok (.aload_n 0, 1) := by decide +kernel
theorem dX8_sortCost_13 : decode cX8_sortCost 13 = .ok (.aload 5, 2) := by decide +kernel
theorem dX8_sortCost_15 : decode cX8_sortCost 15 = .ok (.iload_n 2, 1) := by decide +kernel
theorem dX8_sortCost_16 : decode cX8_sortCost 16 = .ok (.iload_n 3, 1) := by decide +kernel
theorem dX8_sortCost_17 : decode cX8_sortCost 17 = .ok (.iload 4, 2) := by decide +kernel
theorem dX8_sortCost_19 : decode cX8_sortCost 19 = .ok (.invokevirtual 280, 3) := by decide +kernel
theorem dX8_sortCost_22 : decode cX8_sortCost 22 = .ok (.ireturn, 1) := by decide +kernel
theorem dX8_memoryFor_0 : decode cX8_memoryFor 0 = .ok (.aload_n 0, 1) := by decide +kernel
theorem dX8_memoryFor_1 : decode cX8_memoryFor 1 = .ok (.iload_n 1, 1) := by decide +kernel
theorem dX8_memoryFor_2 : decode cX8_memoryFor 2 = .ok (.invokevirtual 97, 3) := by decide +kernel
theorem dX8_memoryFor_5 : decode cX8_memoryFor 5 = .ok (.astore 4, 2) := by decide +kernel
theorem dX8_memoryFor_7 : decode cX8_memoryFor 7 = .ok (.iload_n 3, 1) := by decide +kernel
theorem dX8_memoryFor_8 : decode cX8_memoryFor 8 = .ok (.ifCond .lt 9, 3) := by decide +kernel
theorem dX8_memoryFor_11 : decode cX8_memoryFor 11 = .ok (.iload_n 3, 1) := by decide +kernel
theorem dX8_memoryFor_12 : decode cX8_memoryFor 12 = .ok (.bipush 100, 2) := by decide +kernel
theorem dX8_memoryFor_14 : decode cX8_memoryFor 14 = .ok (.if_icmp .le 14, 3) := by decide +kernel
theorem dX8_memoryFor_17 : decode cX8_memoryFor 17 = .ok (.new 80, 3) := by decide +kernel
theorem dX8_memoryFor_20 : decode cX8_memoryFor 20 = .ok (.dup, 1) := by decide +kernel
theorem dX8_memoryFor_21 : decode cX8_memoryFor 21 = .ok (.ldc_w 284, 3) := by decide +kernel
theorem dX8_memoryFor_24 : decode cX8_memoryFor 24 = .ok (.invokespecial 84, 3) := by decide +kernel
theorem dX8_memoryFor_27 : decode cX8_memoryFor 27 = .ok (.athrow, 1) := by decide +kernel
theorem dX8_memoryFor_28 : decode cX8_memoryFor 28 = .ok (.iconst 3, 1) := by decide +kernel
theorem dX8_memoryFor_29 : decode cX8_memoryFor 29 = .ok (.istore 5, 2) := by decide +kernel
theorem dX8_memoryFor_31 : decode cX8_memoryFor 31 = .ok (.iload 5, 2) := by decide +kernel
theorem dX8_memoryFor_33 : decode cX8_memoryFor 33 = .ok (.bipush 12, 2) := by decide +kernel
theorem dX8_memoryFor_35 : decode cX8_memoryFor 35 = .ok (.if_icmp .gt 44, 3) := by decide +kernel
theorem dX8_memoryFor_38 : decode cX8_memoryFor 38 = .ok (.aload_n 0, 1) := by decide +kernel
theorem dX8_memoryFor_39 : decode cX8_memoryFor 39 = .ok (.getfield 41, 3) := by decide +kernel
theorem dX8_memoryFor_42 : decode cX8_memoryFor 42 = .ok (.aload 4, 2) := by decide +kernel
theorem dX8_memoryFor_44 : decode cX8_memoryFor 44 = .ok (.iload_n 2, 1) := by decide +kernel
theorem dX8_memoryFor_45 : decode cX8_memoryFor 45 = .ok (.iconst 0, 1) := by decide +kernel
theorem dX8_memoryFor_46 : decode cX8_memoryFor 46 = .ok (.iconst 0, 1) := by decide +kernel
theorem dX8_memoryFor_47 : decode cX8_memoryFor 47 = .ok (.aload_n 0, 1) := by decide +kernel
theorem dX8_memoryFor_48 : decode cX8_memoryFor 48 = .ok (.getfield 19, 3) := by decide +kernel
theorem dX8_memoryFor_51 : decode cX8_memoryFor 51 = .ok (.iload 5, 2) := by decide +kernel
theorem dX8_memoryFor_53 : decode cX8_memoryFor 53 = .ok (.invokevirtual 165, 3) := by decide +kernel
theorem dX8_memoryFor_56 : decode cX8_memoryFor 56 = .ok (.aload_n 0, 1) := by decide +kernel
theorem dX8_memoryFor_57 : decode cX8_memoryFor 57 = .ok (.getfield 41, 3) := by decide +kernel
theorem dX8_memoryFor_60 : decode cX8_memoryFor 60 = .ok (.getfield 196, 3) := by decide +kernel
theorem dX8_memoryFor_63 : decode cX8_memoryFor 63 = .ok (.invokevirtual 187, 3) := by decide +kernel
theorem dX8_memoryFor_66 : decode cX8_memoryFor 66 = .ok (.iload_n 3, 1) := by decide +kernel
theorem dX8_memoryFor_67 : decode cX8_memoryFor 67 = .ok (.if_icmp .gt 6, 3) := by decide +kernel
theorem dX8_memoryFor_70 : decode cX8_memoryFor 70 = .ok (.iload 5, 2) := by decide +kernel
theorem dX8_memoryFor_72 : decode cX8_memoryFor 72 = .ok (.ireturn, 1) := by decide +kernel
theorem dX8_memoryFor_73 : decode cX8_memoryFor 73 = .ok (.iinc 5 1, 3) := by decide +kernel
theorem dX8_memoryFor_76 : decode cX8_memoryFor 76 = .ok (.goto (-45), 3) := by decide +kernel
theorem dX8_memoryFor_79 : decode cX8_memoryFor 79 = .ok (.iconst (-1), 1) := by decide +kernel
theorem dX8_memoryFor_80 : decode cX8_memoryFor 80 = .ok (.ireturn, 1) := by decide +kernel
theorem dX8_splitCost_0 : decode cX8_splitCost 0 = .ok (.aload_n 0, 1) := by decide +kernel
theorem dX8_splitCost_1 : decode cX8_splitCost 1 = .ok (.iload_n 1, 1) := by decide +kernel
theorem dX8_splitCost_2 : decode cX8_splitCost 2 = .ok (.invokevirtual 97, 3) := by decide +kernel
theorem dX8_splitCost_5 : decode cX8_splitCost 5 = .ok (.astore_n 3, 1) := by decide +kernel
theorem dX8_splitCost_6 : decode cX8_splitCost 6 = .ok (.aload_n 0, 1) := by decide +kernel
theorem dX8_splitCost_7 : decode cX8_splitCost 7 = .ok (.iload_n 2, 1) := by decide +kernel
theorem dX8_splitCost_8 : decode cX8_splitCost 8 = .ok (.invokevirtual 97, 3) := by decide +kernel
theorem dX8_splitCost_11 : decode cX8_splitCost 11 = .ok (.astore 4, 2) := by decide +kernel
theorem dX8_splitCost_13 : decode cX8_splitCost 13 = .ok (.aload_n 0, 1) := by decide +kernel
theorem dX8_splitCost_14 : decode cX8_splitCost 14 = .ok (.aload_n 3, 1) := by decide +kernel
theorem dX8_splitCost_15 : decode cX8_splitCost 15 = .ok (.aload 4, 2) := by decide +kernel
theorem dX8_splitCost_17 : decode cX8_splitCost 17 = .ok (.invokevirtual 261, 3) := by decide +kernel
theorem dX8_splitCost_20 : decode cX8_splitCost 20 = .ok (.aload_n 0, 1) := by decide +kernel
theorem dX8_splitCost_21 : decode cX8_splitCost 21 = .ok (.getfield 61, 3) := by decide +kernel
theorem dX8_splitCost_24 : decode cX8_splitCost 24 = .ok (.getfield 173, 3) := by decide +kernel
theorem dX8_splitCost_27 : decode cX8_splitCost 27 = .ok (.aload_n 0, 1) := by decide +kernel
theorem dX8_splitCost_28 : decode cX8_splitCost 28 = .ok (.getfield 61, 3) := by decide +kernel
theorem dX8_splitCost_31 : decode cX8_splitCost 31 = .ok (.getfield 175, 3) := by decide +kernel
theorem dX8_splitCost_34 : decode cX8_splitCost 34 = .ok (.iadd, 1) := by decide +kernel
theorem dX8_splitCost_35 : decode cX8_splitCost 35 = .ok (.ireturn, 1) := by decide +kernel
theorem dX8_share_0 : decode cX8_share 0 = .ok (.aload_n 0, 1) := by decide +kernel
theorem dX8_share_1 : decode cX8_share 1 = .ok (.iload_n 1, 1) := by decide +kernel
theorem dX8_share_2 : decode cX8_share 2 = .ok (.invokevirtual 97, 3) := by decide +kernel
theorem dX8_share_5 : decode cX8_share 5 = .ok (.astore_n 3, 1) := by decide +kernel
theorem dX8_share_6 : decode cX8_share 6 = .ok (.aload_n 0, 1) := by decide +kernel
theorem dX8_share_7 : decode cX8_share 7 = .ok (.iload_n 2, 1) := by decide +kernel
theorem dX8_share_8 : decode cX8_share 8 = .ok (.invokevirtual 97, 3) := by decide +kernel
theorem dX8_share_11 : decode cX8_share 11 = .ok (.astore 4, 2) := by decide +kernel
theorem dX8_share_13 : decode cX8_share 13 = .ok (.aload_n 3, 1) := by decide +kernel
theorem dX8_share_14 : decode cX8_share 14 = .ok (.invokevirtual 116, 3) := by decide +kernel
theorem dX8_share_17 : decode cX8_share 17 = .ok (.iconst 1, 1) := by decide +kernel
theorem dX8_share_18 : decode cX8_share 18 = .ok (.if_icmp .ge 5, 3) := by decide +kernel
theorem dX8_share_21 : decode cX8_share 21 = .ok (.dconst 0, 1) := by decide +kernel
theorem dX8_share_22 : decode cX8_share 22 = .ok (.dreturn, 1) := by decide +kernel
theorem dX8_share_23 : decode cX8_share 23 = .ok (.aload_n 0, 1) := by decide +kernel
theorem dX8_share_24 : decode cX8_share 24 = .ok (.getfield 75, 3) := by decide +kernel
theorem dX8_share_27 : decode cX8_share 27 = .ok (.invokevirtual 286, 3) := by decide +kernel
theorem dX8_share_30 : decode cX8_share 30 = .ok (.iconst 0, 1) := by decide +kernel
theorem dX8_share_31 : decode cX8_share 31 = .ok (.istore 5, 2) := by decide +kernel
theorem dX8_share_33 : decode cX8_share 33 = .ok (.iload 5, 2) := by decide +kernel
theorem dX8_share_35 : decode cX8_share 35 = .ok (.aload 4, 2) := by decide +kernel
theorem dX8_share_37 : decode cX8_share 37 = .ok (.invokevirtual 116, 3) := by decide +kernel
theorem dX8_share_40 : decode cX8_share 40 = .ok (.if_icmp .ge 24, 3) := by decide +kernel
theorem dX8_share_43 : decode cX8_share 43 = .ok (.aload_n 0, 1) := by decide +kernel
theorem dX8_share_44 : decode cX8_share 44 = .ok (.getfield 75, 3) := by decide +kernel
theorem dX8_share_47 : decode cX8_share 47 = .ok (.aload 4, 2) := by decide +kernel
theorem dX8_share_49 : decode cX8_share 49 = .ok (.iload 5, 2) := by decide +kernel
theorem dX8_share_51 : decode cX8_share 51 = .ok (.invokevirtual 152, 3) := by decide +kernel
theorem dX8_share_54 : decode cX8_share 54 = .ok (.invokevirtual 287, 3) := by decide +kernel
theorem dX8_share_57 : decode cX8_share 57 = .ok (.pop, 1) := by decide +kernel
theorem dX8_share_58 : decode cX8_share 58 = .ok (.iinc 5 1, 3) := by decide +kernel
theorem dX8_share_61 : decode cX8_share 61 = .ok (.goto (-28), 3) := by decide +kernel
theorem dX8_share_64 : decode cX8_share 64 = .ok (.iconst 0, 1) := by decide +kernel
theorem dX8_share_65 : decode cX8_share 65 = .ok (.istore 5, 2) := by decide +kernel
theorem dX8_share_67 : decode cX8_share 67 = .ok (.iconst 0, 1) := by decide +kernel
theorem dX8_share_68 : decode cX8_share 68 = .ok (.istore 6, 2) := by decide +kernel
theorem dX8_share_70 : decode cX8_share 70 = .ok (.iload 6, 2) := by decide +kernel
theorem dX8_share_72 : decode cX8_share 72 = .ok (.aload_n 3, 1) := by decide +kernel
theorem dX8_share_73 : decode cX8_share 73 = .ok (.invokevirtual 116, 3) := by decide +kernel
theorem dX8_share_76 : decode cX8_share 76 = .ok (.if_icmp .ge 28, 3) := by decide +kernel
theorem dX8_share_79 : decode cX8_share 79 = .ok (.aload_n 0, 1) := by decide +kernel
theorem dX8_share_80 : decode cX8_share 80 = .ok (.getfield 75, 3) := by decide +kernel
theorem dX8_share_83 : decode cX8_share 83 = .ok (.aload_n 3, 1) := by decide +kernel
theorem dX8_share_84 : decode cX8_share 84 = .ok (.iload 6, 2) := by decide +kernel
theorem dX8_share_86 : decode cX8_share 86 = .ok (.invokevirtual 152, 3) := by decide +kernel
theorem dX8_share_89 : decode cX8_share 89 = .ok (.invokevirtual 289, 3) := by decide +kernel
theorem dX8_share_92 : decode cX8_share 92 = .ok (.ifCond .eq 6, 3) := by decide +kernel
theorem dX8_share_95 : decode cX8_share 95 = .ok (.iinc 5 1, 3) := by decide +kernel
theorem dX8_share_98 : decode cX8_share 98 = .ok (.iinc 6 1, 3) := by decide +kernel
theorem dX8_share_101 : decode cX8_share 101 = .ok (.goto (-31), 3) := by decide +kernel
theorem dX8_share_104 : decode cX8_share 104 = .ok (.iload 5, 2) := by decide +kernel
theorem dX8_share_106 : decode cX8_share 106 = .ok (.i2d, 1) := by decide +kernel
theorem dX8_share_107 : decode cX8_share 107 = .ok (.aload_n 3, 1) := by decide +kernel
theorem dX8_share_108 : decode cX8_share 108 = .ok (.invokevirtual 116, 3) := by decide +kernel
theorem dX8_share_111 : decode cX8_share 111 = .ok (.i2d, 1) := by decide +kernel
theorem dX8_share_112 : decode cX8_share 112 = .ok (.ddiv, 1) := by decide +kernel
theorem dX8_share_113 : decode cX8_share 113 = .ok (.dreturn, 1) := by decide +kernel
theorem dX8_digest_0 : decode cX8_digest 0 = .ok (.ldc2_w 290, 3) := by decide +kernel
theorem dX8_digest_3 : decode cX8_digest 3 = .ok (.aload_n 0, 1) := by decide +kernel
theorem dX8_digest_4 : decode cX8_digest 4 = .ok (.getfield 15, 3) := by decide +kernel
theorem dX8_digest_7 : decode cX8_digest 7 = .ok (.i2l, 1) := by decide +kernel
theorem dX8_digest_8 : decode cX8_digest 8 = .ok (.invokestatic 292, 3) := by decide +kernel
theorem dX8_digest_11 : decode cX8_digest 11 = .ok (.lstore_n 1, 1) := by decide +kernel
theorem dX8_digest_12 : decode cX8_digest 12 = .ok (.lload_n 1, 1) := by decide +kernel
theorem dX8_digest_13 : decode cX8_digest 13 = .ok (.aload_n 0, 1) := by decide +kernel
theorem dX8_digest_14 : decode cX8_digest 14 = .ok (.getfield 25, 3) := by decide +kernel
theorem dX8_digest_17 : decode cX8_digest 17 = .ok (.i2l, 1) := by decide +kernel
theorem dX8_digest_18 : decode cX8_digest 18 = .ok (.invokestatic 292, 3) := by decide +kernel
theorem dX8_digest_21 : decode cX8_digest 21 = .ok (.lstore_n 1, 1) := by decide +kernel
theorem dX8_digest_22 : decode cX8_digest 22 = .ok (.lload_n 1, 1) := by decide +kernel
theorem dX8_digest_23 : decode cX8_digest 23 = .ok (.aload_n 0, 1) := by decide +kernel
theorem dX8_digest_24 : decode cX8_digest 24 = .ok (.getfield 28, 3) := by decide +kernel
theorem dX8_digest_27 : decode cX8_digest 27 = .ok (.i2l, 1) := by decide +kernel
theorem dX8_digest_28 : decode cX8_digest 28 = .ok (.invokestatic 292, 3) := by decide +kernel
theorem dX8_digest_31 : decode cX8_digest 31 = .ok (.lstore_n 1, 1) := by decide +kernel
theorem dX8_digest_32 : decode cX8_digest 32 = .ok (.lload_n 1, 1) := by decide +kernel
theorem dX8_digest_33 : decode cX8_digest 33 = .ok (.aload_n 0, 1) := by decide +kernel
theorem dX8_digest_34 : decode cX8_digest 34 = .ok (.getfield 31, 3) := by decide +kernel
theorem dX8_digest_37 : decode cX8_digest 37 = .ok (.i2l, 1) := by decide +kernel
theorem dX8_digest_38 : decode cX8_digest 38 = .ok (.invokestatic 292, 3) := by decide +kernel
theorem dX8_digest_41 : decode cX8_digest 41 = .ok (.lstore_n 1, 1) := by decide +kernel
theorem dX8_digest_42 : decode cX8_digest 42 = .ok (.aload_n 0, 1) := by decide +kernel
theorem dX8_digest_43 : decode cX8_digest 43 = .ok (.lload_n 1, 1) := by decide +kernel
theorem dX8_digest_44 : decode cX8_digest 44 = .ok (.invokevirtual 296, 3) := by decide +kernel
theorem dX8_digest_47 : decode cX8_digest 47 = .ok (.lstore_n 1, 1) := by decide +kernel
theorem dX8_digest_48 : decode cX8_digest 48 = .ok (.lload_n 1, 1) := by decide +kernel
theorem dX8_digest_49 : decode cX8_digest 49 = .ok (.aload_n 0, 1) := by decide +kernel
theorem dX8_digest_50 : decode cX8_digest 50 = .ok (.invokevirtual 300, 3) := by decide +kernel
theorem dX8_digest_53 : decode cX8_digest 53 = .ok (.i2l, 1) := by decide +kernel
theorem dX8_digest_54 : decode cX8_digest 54 = .ok (.invokestatic 292, 3) := by decide +kernel
theorem dX8_digest_57 : decode cX8_digest 57 = .ok (.lstore_n 1, 1) := by decide +kernel
theorem dX8_digest_58 : decode cX8_digest 58 = .ok (.iconst 0, 1) := by decide +kernel
theorem dX8_digest_59 : decode cX8_digest 59 = .ok (.istore_n 3, 1) := by decide +kernel
theorem dX8_digest_60 : decode cX8_digest 60 = .ok (.iload_n 3, 1) := by decide +kernel
theorem dX8_digest_61 : decode cX8_digest 61 = .ok (.aload_n 0, 1) := by decide +kernel
theorem dX8_digest_62 : decode cX8_digest 62 = .ok (.getfield 15, 3) := by decide +kernel
theorem dX8_digest_65 : decode cX8_digest 65 = .ok (.if_icmp .ge 21, 3) := by decide +kernel
theorem dX8_digest_68 : decode cX8_digest 68 = .ok (.aload_n 0, 1) := by decide +kernel
theorem dX8_digest_69 : decode cX8_digest 69 = .ok (.lload_n 1, 1) := by decide +kernel
theorem dX8_digest_70 : decode cX8_digest 70 = .ok (.aload_n 0, 1) := by decide +kernel
theorem dX8_digest_71 : decode cX8_digest 71 = .ok (.getfield 11, 3) := by decide +kernel
theorem dX8_digest_74 : decode cX8_digest 74 = .ok (.iload_n 3, 1) := by decide +kernel
theorem dX8_digest_75 : decode cX8_digest 75 = .ok (.aaload, 1) := by decide +kernel
theorem dX8_digest_76 : decode cX8_digest 76 = .ok (.invokevirtual 303, 3) := by decide +kernel
theorem dX8_digest_79 : decode cX8_digest 79 = .ok (.lstore_n 1, 1) := by decide +kernel
theorem dX8_digest_80 : decode cX8_digest 80 = .ok (.iinc 3 1, 3) := by decide +kernel
theorem dX8_digest_83 : decode cX8_digest 83 = .ok (.goto (-23), 3) := by decide +kernel
theorem dX8_digest_86 : decode cX8_digest 86 = .ok (.lload_n 1, 1) := by decide +kernel
theorem dX8_digest_87 : decode cX8_digest 87 = .ok (.lreturn, 1) := by decide +kernel
theorem dX8_fold_0 : decode cX8_fold 0 = .ok (.lload_n 0, 1) := by decide +kernel
theorem dX8_fold_1 : decode cX8_fold 1 = .ok (.ldc2_w 307, 3) := by decide +kernel
theorem dX8_fold_4 : decode cX8_fold 4 = .ok (.lmul, 1) := by decide +kernel
theorem dX8_fold_5 : decode cX8_fold 5 = .ok (.lload_n 2, 1) := by decide +kernel
theorem dX8_fold_6 : decode cX8_fold 6 = .ok (.ladd, 1) := by decide +kernel
theorem dX8_fold_7 : decode cX8_fold 7 = .ok (.lreturn, 1) := by decide +kernel
theorem dX8_foldSort_0 : decode cX8_foldSort 0 = .ok (.lload_n 1, 1) := by decide +kernel
theorem dX8_foldSort_1 : decode cX8_foldSort 1 = .ok (.aload_n 0, 1) := by decide +kernel
theorem dX8_foldSort_2 : decode cX8_foldSort 2 = .ok (.getfield 37, 3) := by decide +kernel
theorem dX8_foldSort_5 : decode cX8_foldSort 5 = .ok (.getfield 183, 3) := by decide +kernel
theorem dX8_foldSort_8 : decode cX8_foldSort 8 = .ok (.invokevirtual 187, 3) := by decide +kernel
theorem dX8_foldSort_11 : decode cX8_foldSort 11 = .ok (.i2l, 1) := by decide +kernel
theorem dX8_foldSort_12 : decode cX8_foldSort 12 = .ok (.invokestatic 292, 3) := by decide +kernel
theorem dX8_foldSort_15 : decode cX8_foldSort 15 = .ok (.lstore_n 3, 1) := by decide +kernel
theorem dX8_foldSort_16 : decode cX8_foldSort 16 = .ok (.iconst 0, 1) := by decide +kernel
theorem dX8_foldSort_17 : decode cX8_foldSort 17 = .ok (.istore 5, 2) := by decide +kernel
theorem dX8_foldSort_19 : decode cX8_foldSort 19 = .ok (.iload 5, 2) := by decide +kernel
theorem dX8_foldSort_21 : decode cX8_foldSort 21 = .ok (.aload_n 0, 1) := by decide +kernel
theorem dX8_foldSort_22 : decode cX8_foldSort 22 = .ok (.getfield 37, 3) := by decide +kernel
theorem dX8_foldSort_25 : decode cX8_foldSort 25 = .ok (.getfield 183, 3) := by decide +kernel
theorem dX8_foldSort_28 : decode cX8_foldSort 28 = .ok (.invokevirtual 187, 3) := by decide +kernel
theorem dX8_foldSort_31 : decode cX8_foldSort 31 = .ok (.if_icmp .ge 27, 3) := by decide +kernel
theorem dX8_foldSort_34 : decode cX8_foldSort 34 = .ok (.lload_n 3, 1) := by decide +kernel
theorem dX8_foldSort_35 : decode cX8_foldSort 35 = .ok (.aload_n 0, 1) := by decide +kernel
theorem dX8_foldSort_36 : decode cX8_foldSort 36 = .ok (.getfield 37, 3) := by decide +kernel
theorem dX8_foldSort_39 : decode cX8_foldSort 39 = .ok (.getfield 183, 3) := by decide +kernel
theorem dX8_foldSort_42 : decode cX8_foldSort 42 = .ok (.iload 5, 2) := by decide +kernel
theorem dX8_foldSort_44 : decode cX8_foldSort 44 = .ok (.invokevirtual 193, 3) := by decide +kernel
theorem dX8_foldSort_47 : decode cX8_foldSort 47 = .ok (.i2l, 1) := by decide +kernel
theorem dX8_foldSort_48 : decode cX8_foldSort 48 = .ok (.invokestatic 292, 3) := by decide +kernel
theorem dX8_foldSort_51 : decode cX8_foldSort 51 = .ok (.lstore_n 3, 1) := by decide +kernel
theorem dX8_foldSort_52 : decode cX8_foldSort 52 = .ok (.iinc 5 1, 3) := by decide +kernel
theorem dX8_foldSort_55 : decode cX8_foldSort 55 = .ok (.goto (-36), 3) := by decide +kernel
theorem dX8_foldSort_58 : decode cX8_foldSort 58 = .ok (.lload_n 3, 1) := by decide +kernel
theorem dX8_foldSort_59 : decode cX8_foldSort 59 = .ok (.aload_n 0, 1) := by decide +kernel
theorem dX8_foldSort_60 : decode cX8_foldSort 60 = .ok (.getfield 37, 3) := by decide +kernel
theorem dX8_foldSort_63 : decode cX8_foldSort 63 = .ok (.getfield 196, 3) := by decide +kernel
theorem dX8_foldSort_66 : decode cX8_foldSort 66 = .ok (.invokevirtual 187, 3) := by decide +kernel
theorem dX8_foldSort_69 : decode cX8_foldSort 69 = .ok (.i2l, 1) := by decide +kernel
theorem dX8_foldSort_70 : decode cX8_foldSort 70 = .ok (.invokestatic 292, 3) := by decide +kernel
theorem dX8_foldSort_73 : decode cX8_foldSort 73 = .ok (.lstore_n 3, 1) := by decide +kernel
theorem dX8_foldSort_74 : decode cX8_foldSort 74 = .ok (.iconst 0, 1) := by decide +kernel
theorem dX8_foldSort_75 : decode cX8_foldSort 75 = .ok (.istore 5, 2) := by decide +kernel
theorem dX8_foldSort_77 : decode cX8_foldSort 77 = .ok (.iload 5, 2) := by decide +kernel
theorem dX8_foldSort_79 : decode cX8_foldSort 79 = .ok (.aload_n 0, 1) := by decide +kernel
theorem dX8_foldSort_80 : decode cX8_foldSort 80 = .ok (.getfield 37, 3) := by decide +kernel
theorem dX8_foldSort_83 : decode cX8_foldSort 83 = .ok (.getfield 196, 3) := by decide +kernel
theorem dX8_foldSort_86 : decode cX8_foldSort 86 = .ok (.invokevirtual 187, 3) := by decide +kernel
theorem dX8_foldSort_89 : decode cX8_foldSort 89 = .ok (.if_icmp .ge 45, 3) := by decide +kernel
theorem dX8_foldSort_92 : decode cX8_foldSort 92 = .ok (.lload_n 3, 1) := by decide +kernel
theorem dX8_foldSort_93 : decode cX8_foldSort 93 = .ok (.aload_n 0, 1) := by decide +kernel
theorem dX8_foldSort_94 : decode cX8_foldSort 94 = .ok (.getfield 37, 3) := by decide +kernel
theorem dX8_foldSort_97 : decode cX8_foldSort 97 = .ok (.getfield 203, 3) := by decide +kernel
theorem dX8_foldSort_100 : decode cX8_foldSort 100 = .ok (.iload 5, 2) := by decide +kernel
theorem dX8_foldSort_102 : decode cX8_foldSort 102 = .ok (.invokevirtual 193, 3) := by decide +kernel
theorem dX8_foldSort_105 : decode cX8_foldSort 105 = .ok (.i2l, 1) := by decide +kernel
theorem dX8_foldSort_106 : decode cX8_foldSort 106 = .ok (.invokestatic 292, 3) := by decide +kernel
theorem dX8_foldSort_109 : decode cX8_foldSort 109 = .ok (.lstore_n 3, 1) := by decide +kernel
theorem dX8_foldSort_110 : decode cX8_foldSort 110 = .ok (.lload_n 3, 1) := by decide +kernel
theorem dX8_foldSort_111 : decode cX8_foldSort 111 = .ok (.aload_n 0, 1) := by decide +kernel
theorem dX8_foldSort_112 : decode cX8_foldSort 112 = .ok (.getfield 37, 3) := by decide +kernel
theorem dX8_foldSort_115 : decode cX8_foldSort 115 = .ok (.getfield 196, 3) := by decide +kernel
theorem dX8_foldSort_118 : decode cX8_foldSort 118 = .ok (.iload 5, 2) := by decide +kernel
theorem dX8_foldSort_120 : decode cX8_foldSort 120 = .ok (.invokevirtual 193, 3) := by decide +kernel
theorem dX8_foldSort_123 : decode cX8_foldSort 123 = .ok (.i2l, 1) := by decide +kernel
theorem dX8_foldSort_124 : decode cX8_foldSort 124 = .ok (.invokestatic 292, 3) := by decide +kernel
theorem dX8_foldSort_127 : decode cX8_foldSort 127 = .ok (.lstore_n 3, 1) := by decide +kernel
theorem dX8_foldSort_128 : decode cX8_foldSort 128 = .ok (.iinc 5 1, 3) := by decide +kernel
theorem dX8_foldSort_131 : decode cX8_foldSort 131 = .ok (.goto (-54), 3) := by decide +kernel
theorem dX8_foldSort_134 : decode cX8_foldSort 134 = .ok (.lload_n 3, 1) := by decide +kernel
theorem dX8_foldSort_135 : decode cX8_foldSort 135 = .ok (.lreturn, 1) := by decide +kernel
theorem dX8_foldFile_0 : decode cX8_foldFile 0 = .ok (.lload_n 1, 1) := by decide +kernel
theorem dX8_foldFile_1 : decode cX8_foldFile 1 = .ok (.aload_n 3, 1) := by decide +kernel
theorem dX8_foldFile_2 : decode cX8_foldFile 2 = .ok (.invokevirtual 116, 3) := by decide +kernel
theorem dX8_foldFile_5 : decode cX8_foldFile 5 = .ok (.i2l, 1) := by decide +kernel
theorem dX8_foldFile_6 : decode cX8_foldFile 6 = .ok (.invokestatic 292, 3) := by decide +kernel
theorem dX8_foldFile_9 : decode cX8_foldFile 9 = .ok (.lstore 4, 2) := by decide +kernel
theorem dX8_foldFile_11 : decode cX8_foldFile 11 = .ok (.lload 4, 2) := by decide +kernel
theorem dX8_foldFile_13 : decode cX8_foldFile 13 = .ok (.aload_n 3, 1) := by decide +kernel
theorem dX8_foldFile_14 : decode cX8_foldFile 14 = .ok (.invokevirtual 116, 3) := by decide +kernel
theorem dX8_foldFile_17 : decode cX8_foldFile 17 = .ok (.aload_n 0, 1) := by decide +kernel
theorem dX8_foldFile_18 : decode cX8_foldFile 18 = .ok (.getfield 19, 3) := by decide +kernel
theorem dX8_foldFile_21 : decode cX8_foldFile 21 = .ok (.invokestatic 155, 3) := by decide +kernel
theorem dX8_foldFile_24 : decode cX8_foldFile 24 = .ok (.i2l, 1) := by decide +kernel
theorem dX8_foldFile_25 : decode cX8_foldFile 25 = .ok (.invokestatic 292, 3) := by decide +kernel
theorem dX8_foldFile_28 : decode cX8_foldFile 28 = .ok (.lstore 4, 2) := by decide +kernel
theorem dX8_foldFile_30 : decode cX8_foldFile 30 = .ok (.lload 4, 2) := by decide +kernel
theorem dX8_foldFile_32 : decode cX8_foldFile 32 = .ok (.aload_n 3, 1) := by decide +kernel
theorem dX8_foldFile_33 : decode cX8_foldFile 33 = .ok (.invokestatic 158, 3) := by decide +kernel
theorem dX8_foldFile_36 : decode cX8_foldFile 36 = .ok (.i2l, 1) := by decide +kernel
theorem dX8_foldFile_37 : decode cX8_foldFile 37 = .ok (.invokestatic 292, 3) := by decide +kernel
theorem dX8_foldFile_40 : decode cX8_foldFile 40 = .ok (.lstore 4, 2) := by decide +kernel
theorem dX8_foldFile_42 : decode cX8_foldFile 42 = .ok (.lload 4, 2) := by decide +kernel
theorem dX8_foldFile_44 : decode cX8_foldFile 44 = .ok (.aload_n 0, 1) := by decide +kernel
theorem dX8_foldFile_45 : decode cX8_foldFile 45 = .ok (.aload_n 3, 1) := by decide +kernel
theorem dX8_foldFile_46 : decode cX8_foldFile 46 = .ok (.invokevirtual 162, 3) := by decide +kernel
theorem dX8_foldFile_49 : decode cX8_foldFile 49 = .ok (.i2l, 1) := by decide +kernel
theorem dX8_foldFile_50 : decode cX8_foldFile 50 = .ok (.invokestatic 292, 3) := by decide +kernel
theorem dX8_foldFile_53 : decode cX8_foldFile 53 = .ok (.lstore 4, 2) := by decide +kernel
theorem dX8_foldFile_55 : decode cX8_foldFile 55 = .ok (.lload 4, 2) := by decide +kernel
theorem dX8_foldFile_57 : decode cX8_foldFile 57 = .ok (.aload_n 0, 1) := by decide +kernel
theorem dX8_foldFile_58 : decode cX8_foldFile 58 = .ok (.aload_n 3, 1) := by decide +kernel
theorem dX8_foldFile_59 : decode cX8_foldFile 59 = .ok (.iconst 0, 1) := by decide +kernel
theorem dX8_foldFile_60 : decode cX8_foldFile 60 = .ok (.iconst 0, 1) := by decide +kernel
theorem dX8_foldFile_61 : decode cX8_foldFile 61 = .ok (.aload_n 0, 1) := by decide +kernel
theorem dX8_foldFile_62 : decode cX8_foldFile 62 = .ok (.getfield 22, 3) := by decide +kernel
theorem dX8_foldFile_65 : decode cX8_foldFile 65 = .ok (.invokevirtual 280, 3) := by decide +kernel
theorem dX8_foldFile_68 : decode cX8_foldFile 68 = .ok (.i2l, 1) := by decide +kernel
theorem dX8_foldFile_69 : decode cX8_foldFile 69 = .ok (.invokestatic 292, 3) := by decide +kernel
theorem dX8_foldFile_72 : decode cX8_foldFile 72 = .ok (.lstore 4, 2) := by decide +kernel
theorem dX8_foldFile_74 : decode cX8_foldFile 74 = .ok (.lload 4, 2) := by decide +kernel
theorem dX8_foldFile_76 : decode cX8_foldFile 76 = .ok (.aload_n 0, 1) := by decide +kernel
theorem dX8_foldFile_77 : decode cX8_foldFile 77 = .ok (.aload_n 3, 1) := by decide +kernel
theorem dX8_foldFile_78 : decode cX8_foldFile 78 = .ok (.iconst 1, 1) := by decide +kernel
theorem dX8_foldFile_79 : decode cX8_foldFile 79 = .ok (.iconst 1, 1) := by decide +kernel
theorem dX8_foldFile_80 : decode cX8_foldFile 80 = .ok (.aload_n 0, 1) := by decide +kernel
theorem dX8_foldFile_81 : decode cX8_foldFile 81 = .ok (.getfield 22, 3) := by decide +kernel
theorem dX8_foldFile_84 : decode cX8_foldFile 84 = .ok (.invokevirtual 280, 3) := by decide +kernel
theorem dX8_foldFile_87 : decode cX8_foldFile 87 = .ok (.i2l, 1) := by decide +kernel
theorem dX8_foldFile_88 : decode cX8_foldFile 88 = .ok (.invokestatic 292, 3) := by decide +kernel
theorem dX8_foldFile_91 : decode cX8_foldFile 91 = .ok (.lstore 4, 2) := by decide +kernel
theorem dX8_foldFile_93 : decode cX8_foldFile 93 = .ok (.iconst 0, 1) := by decide +kernel
theorem dX8_foldFile_94 : decode cX8_foldFile 94 = .ok (.istore 6, 2) := by decide +kernel
theorem dX8_foldFile_96 : decode cX8_foldFile 96 = .ok (.iload 6, 2) := by decide +kernel
theorem dX8_foldFile_98 : decode cX8_foldFile 98 = .ok (.aload_n 3, 1) := by decide +kernel
theorem dX8_foldFile_99 : decode cX8_foldFile 99 = .ok (.invokevirtual 116, 3) := by decide +kernel
theorem dX8_foldFile_102 : decode cX8_foldFile 102 = .ok (.if_icmp .ge 37, 3) := by decide +kernel
theorem dX8_foldFile_105 : decode cX8_foldFile 105 = .ok (.lload 4, 2) := by decide +kernel
theorem dX8_foldFile_107 : decode cX8_foldFile 107 = .ok (.aload_n 3, 1) := by decide +kernel
theorem dX8_foldFile_108 : decode cX8_foldFile 108 = .ok (.iload 6, 2) := by decide +kernel
theorem dX8_foldFile_110 : decode cX8_foldFile 110 = .ok (.invokevirtual 152, 3) := by decide +kernel
theorem dX8_foldFile_113 : decode cX8_foldFile 113 = .ok (.i2l, 1) := by decide +kernel
theorem dX8_foldFile_114 : decode cX8_foldFile 114 = .ok (.invokestatic 292, 3) := by decide +kernel
theorem dX8_foldFile_117 : decode cX8_foldFile 117 = .ok (.lstore 4, 2) := by decide +kernel
theorem dX8_foldFile_119 : decode cX8_foldFile 119 = .ok (.lload 4, 2) := by decide +kernel
theorem dX8_foldFile_121 : decode cX8_foldFile 121 = .ok (.aload_n 3, 1) := by decide +kernel
theorem dX8_foldFile_122 : decode cX8_foldFile 122 = .ok (.iload 6, 2) := by decide +kernel
theorem dX8_foldFile_124 : decode cX8_foldFile 124 = .ok (.invokevirtual 148, 3) := by decide +kernel
theorem dX8_foldFile_127 : decode cX8_foldFile 127 = .ok (.i2l, 1) := by decide +kernel
theorem dX8_foldFile_128 : decode cX8_foldFile 128 = .ok (.invokestatic 292, 3) := by decide +kernel
theorem dX8_foldFile_131 : decode cX8_foldFile 131 = .ok (.lstore 4, 2) := by decide +kernel
theorem dX8_foldFile_133 : decode cX8_foldFile 133 = .ok (.iinc 6 1, 3) := by decide +kernel
theorem dX8_foldFile_136 : decode cX8_foldFile 136 = .ok (.goto (-40), 3) := by decide +kernel
theorem dX8_foldFile_139 : decode cX8_foldFile 139 = .ok (.lload 4, 2) := by decide +kernel
theorem dX8_foldFile_141 : decode cX8_foldFile 141 = .ok (.lreturn, 1) := by decide +kernel
theorem dX8_rowOf_0 : decode cX8_rowOf 0 = .ok (.iload_n 1, 1) := by decide +kernel
theorem dX8_rowOf_1 : decode cX8_rowOf 1 = .ok (.ifCond .lt 11, 3) := by decide +kernel
theorem dX8_rowOf_4 : decode cX8_rowOf 4 = .ok (.iload_n 1, 1) := by decide +kernel
theorem dX8_rowOf_5 : decode cX8_rowOf 5 = .ok (.aload_n 0, 1) := by decide +kernel
theorem dX8_rowOf_6 : decode cX8_rowOf 6 = .ok (.getfield 15, 3) := by decide +kernel
theorem dX8_rowOf_9 : decode cX8_rowOf 9 = .ok (.if_icmp .lt 14, 3) := by decide +kernel
theorem dX8_rowOf_12 : decode cX8_rowOf 12 = .ok (.new 143, 3) := by decide +kernel
theorem dX8_rowOf_15 : decode cX8_rowOf 15 = .ok (.dup, 1) := by decide +kernel
theorem dX8_rowOf_16 : decode cX8_rowOf 16 = .ok (.ldc_w 309, 3) := by decide +kernel
theorem dX8_rowOf_19 : decode cX8_rowOf 19 = .ok (.invokespecial 147, 3) := by decide +kernel
theorem dX8_rowOf_22 : decode cX8_rowOf 22 = .ok (.athrow, 1) := by decide +kernel
theorem dX8_rowOf_23 : decode cX8_rowOf 23 = .ok (.aload_n 0, 1) := by decide +kernel
theorem dX8_rowOf_24 : decode cX8_rowOf 24 = .ok (.getfield 11, 3) := by decide +kernel
theorem dX8_rowOf_27 : decode cX8_rowOf 27 = .ok (.iload_n 1, 1) := by decide +kernel
theorem dX8_rowOf_28 : decode cX8_rowOf 28 = .ok (.aaload, 1) := by decide +kernel
theorem dX8_rowOf_29 : decode cX8_rowOf 29 = .ok (.areturn, 1) := by decide +kernel
theorem dX8_needRoom_0 : decode cX8_needRoom 0 = .ok (.aload_n 0, 1) := by decide +kernel
theorem dX8_needRoom_1 : decode cX8_needRoom 1 = .ok (.getfield 15, 3) := by decide +kernel
theorem dX8_needRoom_4 : decode cX8_needRoom 4 = .ok (.bipush 12, 2) := by decide +kernel
theorem dX8_needRoom_6 : decode cX8_needRoom 6 = .ok (.if_icmp .lt 14, 3) := by decide +kernel
theorem dX8_needRoom_9 : decode cX8_needRoom 9 = .ok (.new 134, 3) := by decide +kernel
theorem dX8_needRoom_12 : decode cX8_needRoom 12 = .ok (.dup, 1) := by decide +kernel
theorem dX8_needRoom_13 : decode cX8_needRoom 13 = .ok (.ldc_w 311, 3) := by decide +kernel
theorem dX8_needRoom_16 : decode cX8_needRoom 16 = .ok (.invokespecial 138, 3) := by decide +kernel
theorem dX8_needRoom_19 : decode cX8_needRoom 19 = .ok (.athrow, 1) := by decide +kernel
theorem dX8_needRoom_20 : decode cX8_needRoom 20 = .ok (.return_, 1) := by decide +kernel
theorem dX8_needSpace_0 : decode cX8_needSpace 0 = .ok (.aload_n 0, 1) := by decide +kernel
theorem dX8_needSpace_1 : decode cX8_needSpace 1 = .ok (.invokevirtual 116, 3) := by decide +kernel
theorem dX8_needSpace_4 : decode cX8_needSpace 4 = .ok (.iload_n 1, 1) := by decide +kernel
theorem dX8_needSpace_5 : decode cX8_needSpace 5 = .ok (.iadd, 1) := by decide +kernel
theorem dX8_needSpace_6 : decode cX8_needSpace 6 = .ok (.bipush 120, 2) := by decide +kernel
theorem dX8_needSpace_8 : decode cX8_needSpace 8 = .ok (.if_icmp .le 14, 3) := by decide +kernel
theorem dX8_needSpace_11 : decode cX8_needSpace 11 = .ok (.new 134, 3) := by decide +kernel
theorem dX8_needSpace_14 : decode cX8_needSpace 14 = .ok (.dup, 1) := by decide +kernel
theorem dX8_needSpace_15 : decode cX8_needSpace 15 = .ok (.ldc_w 313, 3) := by decide +kernel
theorem dX8_needSpace_18 : decode cX8_needSpace 18 = .ok (.invokespecial 138, 3) := by decide +kernel
theorem dX8_needSpace_21 : decode cX8_needSpace 21 = .ok (.athrow, 1) := by decide +kernel
theorem dX8_needSpace_22 : decode cX8_needSpace 22 = .ok (.return_, 1) := by decide +kernel
theorem dX8_needMemory_0 : decode cX8_needMemory 0 = .ok (.iload_n 0, 1) := by decide +kernel
theorem dX8_needMemory_1 : decode cX8_needMemory 1 = .ok (.iconst 3, 1) := by decide +kernel
theorem dX8_needMemory_2 : decode cX8_needMemory 2 = .ok (.if_icmp .lt 9, 3) := by decide +kernel
theorem dX8_needMemory_5 : decode cX8_needMemory 5 = .ok (.iload_n 0, 1) := by decide +kernel
theorem dX8_needMemory_6 : decode cX8_needMemory 6 = .ok (.bipush 12, 2) := by decide +kernel
theorem dX8_needMemory_8 : decode cX8_needMemory 8 = .ok (.if_icmp .le 14, 3) := by decide +kernel
theorem dX8_needMemory_11 : decode cX8_needMemory 11 = .ok (.new 80, 3) := by decide +kernel
theorem dX8_needMemory_14 : decode cX8_needMemory 14 = .ok (.dup, 1) := by decide +kernel
theorem dX8_needMemory_15 : decode cX8_needMemory 15 = .ok (.ldc_w 315, 3) := by decide +kernel
theorem dX8_needMemory_18 : decode cX8_needMemory 18 = .ok (.invokespecial 84, 3) := by decide +kernel
theorem dX8_needMemory_21 : decode cX8_needMemory 21 = .ok (.athrow, 1) := by decide +kernel
theorem dX8_needMemory_22 : decode cX8_needMemory 22 = .ok (.return_, 1) := by decide +kernel
theorem dX8_needHow_0 : decode cX8_needHow 0 = .ok (.iload_n 0, 1) := by decide +kernel
theorem dX8_needHow_1 : decode cX8_needHow 1 = .ok (.ifCond .lt 8, 3) := by decide +kernel
theorem dX8_needHow_4 : decode cX8_needHow 4 = .ok (.iload_n 0, 1) := by decide +kernel
theorem dX8_needHow_5 : decode cX8_needHow 5 = .ok (.iconst 3, 1) := by decide +kernel
theorem dX8_needHow_6 : decode cX8_needHow 6 = .ok (.if_icmp .le 14, 3) := by decide +kernel
theorem dX8_needHow_9 : decode cX8_needHow 9 = .ok (.new 80, 3) := by decide +kernel
theorem dX8_needHow_12 : decode cX8_needHow 12 = .ok (.dup, 1) := by decide +kernel
theorem dX8_needHow_13 : decode cX8_needHow 13 = .ok (.ldc_w 317, 3) := by decide +kernel
theorem dX8_needHow_16 : decode cX8_needHow 16 = .ok (.invokespecial 84, 3) := by decide +kernel
theorem dX8_needHow_19 : decode cX8_needHow 19 = .ok (.athrow, 1) := by decide +kernel
theorem dX8_needHow_20 : decode cX8_needHow 20 = .ok (.return_, 1) := by decide +kernel
end
section
-- decode rows, part 6
theorem dX8_needUp_0 : decode cX8_needUp 0 = .ok (.aload_n 0, 1) := by decide +kernel
theorem dX8_needUp_1 : decode cX8_needUp 1 = .ok (.invokevirtual 265, 3) := by decide +kernel
theorem dX8_needUp_4 : decode cX8_needUp 4 = .ok (.ifCond .ne 14, 3) := by decide +kernel
theorem dX8_needUp_7 : decode cX8_needUp 7 = .ok (.new 134, 3) := by decide +kernel
theorem dX8_needUp_10 : decode cX8_needUp 10 = .ok (.dup, 1) := by decide +kernel
theorem dX8_needUp_11 : decode cX8_needUp 11 = .ok (.ldc_w 319, 3) := by decide +kernel
theorem dX8_needUp_14 : decode cX8_needUp 14 = .ok (.invokespecial 138, 3) := by decide +kernel
theorem dX8_needUp_17 : decode cX8_needUp 17 = .ok (.athrow, 1) := by decide +kernel
theorem dX8_needUp_18 : decode cX8_needUp 18 = .ok (.return_, 1) := by decide +kernel
theorem dX8_needTournament_0 : decode cX8_needTournament 0 = .ok (.aload_n 0, 1) := by decide +kernel
theorem dX8_needTournament_1 : decode cX8_needTournament 1 = .ok (.getfield 54, 3) := by decide +kernel
theorem dX8_needTournament_4 : decode cX8_needTournament 4 = .ok (.getfield 244, 3) := by decide +kernel
theorem dX8_needTournament_7 : decode cX8_needTournament 7 = .ok (.ifCond .ne 14, 3) := by decide +kernel
theorem dX8_needTournament_10 : decode cX8_needTournament 10 = .ok (.new 134, 3) := by decide +kernel
theorem dX8_needTournament_13 : decode cX8_needTournament 13 = .ok (.dup, 1) := by decide +kernel
theorem dX8_needTournament_14 : decode cX8_needTournament 14 = .ok (.ldc_w 321, 3) := by decide +kernel
theorem dX8_needTournament_17 : decode cX8_needTournament 17 = .ok (.invokespecial 138, 3) := by decide +kernel
theorem dX8_needTournament_20 : decode cX8_needTournament 20 = .ok (.athrow, 1) := by decide +kernel
theorem dX8_needTournament_21 : decode cX8_needTournament 21 = .ok (.return_, 1) := by decide +kernel
theorem dX8_needFit_0 : decode cX8_needFit 0 = .ok (.aload_n 0, 1) := by decide +kernel
theorem dX8_needFit_1 : decode cX8_needFit 1 = .ok (.getfield 61, 3) := by decide +kernel
theorem dX8_needFit_4 : decode cX8_needFit 4 = .ok (.getfield 277, 3) := by decide +kernel
theorem dX8_needFit_7 : decode cX8_needFit 7 = .ok (.bipush 120, 2) := by decide +kernel
theorem dX8_needFit_9 : decode cX8_needFit 9 = .ok (.if_icmp .le 14, 3) := by decide +kernel
theorem dX8_needFit_12 : decode cX8_needFit 12 = .ok (.new 134, 3) := by decide +kernel
theorem dX8_needFit_15 : decode cX8_needFit 15 = .ok (.dup, 1) := by decide +kernel
theorem dX8_needFit_16 : decode cX8_needFit 16 = .ok (.ldc_w 323, 3) := by decide +kernel
theorem dX8_needFit_19 : decode cX8_needFit 19 = .ok (.invokespecial 138, 3) := by decide +kernel
theorem dX8_needFit_22 : decode cX8_needFit 22 = .ok (.athrow, 1) := by decide +kernel
theorem dX8_needFit_23 : decode cX8_needFit 23 = .ok (.return_, 1) := by decide +kernel
theorem dX8_pagesFor_0 : decode cX8_pagesFor 0 = .ok (.iload_n 1, 1) := by decide +kernel
theorem dX8_pagesFor_1 : decode cX8_pagesFor 1 = .ok (.iconst 1, 1) := by decide +kernel
theorem dX8_pagesFor_2 : decode cX8_pagesFor 2 = .ok (.if_icmp .ge 7, 3) := by decide +kernel
theorem dX8_pagesFor_5 : decode cX8_pagesFor 5 = .ok (.iconst 0, 1) := by decide +kernel
theorem dX8_pagesFor_6 : decode cX8_pagesFor 6 = .ok (.goto 10, 3) := by decide +kernel
theorem dX8_pagesFor_9 : decode cX8_pagesFor 9 = .ok (.iload_n 0, 1) := by decide +kernel
theorem dX8_pagesFor_10 : decode cX8_pagesFor 10 = .ok (.iload_n 1, 1) := by decide +kernel
theorem dX8_pagesFor_11 : decode cX8_pagesFor 11 = .ok (.iadd, 1) := by decide +kernel
theorem dX8_pagesFor_12 : decode cX8_pagesFor 12 = .ok (.iconst 1, 1) := by decide +kernel
theorem dX8_pagesFor_13 : decode cX8_pagesFor 13 = .ok (.isub, 1) := by decide +kernel
theorem dX8_pagesFor_14 : decode cX8_pagesFor 14 = .ok (.iload_n 1, 1) := by decide +kernel
theorem dX8_pagesFor_15 : decode cX8_pagesFor 15 = .ok (.idiv, 1) := by decide +kernel
theorem dX8_pagesFor_16 : decode cX8_pagesFor 16 = .ok (.ireturn, 1) := by decide +kernel
theorem dX8_orderOf_0 : decode cX8_orderOf 0 = .ok (.aload_n 0, 1) := by decide +kernel
theorem dX8_orderOf_1 : decode cX8_orderOf 1 = .ok (.invokevirtual 265, 3) := by decide +kernel
theorem dX8_orderOf_4 : decode cX8_orderOf 4 = .ok (.ifCond .eq 7, 3) := by decide +kernel
theorem dX8_orderOf_7 : decode cX8_orderOf 7 = .ok (.iconst 1, 1) := by decide +kernel
theorem dX8_orderOf_8 : decode cX8_orderOf 8 = .ok (.goto 4, 3) := by decide +kernel
theorem dX8_orderOf_11 : decode cX8_orderOf 11 = .ok (.iconst 0, 1) := by decide +kernel
theorem dX8_orderOf_12 : decode cX8_orderOf 12 = .ok (.aload_n 0, 1) := by decide +kernel
theorem dX8_orderOf_13 : decode cX8_orderOf 13 = .ok (.invokevirtual 269, 3) := by decide +kernel
theorem dX8_orderOf_16 : decode cX8_orderOf 16 = .ok (.ifCond .eq 7, 3) := by decide +kernel
theorem dX8_orderOf_19 : decode cX8_orderOf 19 = .ok (.iconst 2, 1) := by decide +kernel
theorem dX8_orderOf_20 : decode cX8_orderOf 20 = .ok (.goto 4, 3) := by decide +kernel
theorem dX8_orderOf_23 : decode cX8_orderOf 23 = .ok (.iconst 0, 1) := by decide +kernel
theorem dX8_orderOf_24 : decode cX8_orderOf 24 = .ok (.iadd, 1) := by decide +kernel
theorem dX8_orderOf_25 : decode cX8_orderOf 25 = .ok (.ireturn, 1) := by decide +kernel
theorem dX8_keysIn_0 : decode cX8_keysIn 0 = .ok (.aload_n 0, 1) := by decide +kernel
theorem dX8_keysIn_1 : decode cX8_keysIn 1 = .ok (.getfield 75, 3) := by decide +kernel
theorem dX8_keysIn_4 : decode cX8_keysIn 4 = .ok (.invokevirtual 286, 3) := by decide +kernel
theorem dX8_keysIn_7 : decode cX8_keysIn 7 = .ok (.iconst 0, 1) := by decide +kernel
theorem dX8_keysIn_8 : decode cX8_keysIn 8 = .ok (.istore_n 2, 1) := by decide +kernel
theorem dX8_keysIn_9 : decode cX8_keysIn 9 = .ok (.iconst 0, 1) := by decide +kernel
theorem dX8_keysIn_10 : decode cX8_keysIn 10 = .ok (.istore_n 3, 1) := by decide +kernel
theorem dX8_keysIn_11 : decode cX8_keysIn 11 = .ok (.iload_n 3, 1) := by decide +kernel
theorem dX8_keysIn_12 : decode cX8_keysIn 12 = .ok (.aload_n 1, 1) := by decide +kernel
theorem dX8_keysIn_13 : decode cX8_keysIn 13 = .ok (.invokevirtual 116, 3) := by decide +kernel
theorem dX8_keysIn_16 : decode cX8_keysIn 16 = .ok (.if_icmp .ge 27, 3) := by decide +kernel
theorem dX8_keysIn_19 : decode cX8_keysIn 19 = .ok (.aload_n 0, 1) := by decide +kernel
theorem dX8_keysIn_20 : decode cX8_keysIn 20 = .ok (.getfield 75, 3) := by decide +kernel
theorem dX8_keysIn_23 : decode cX8_keysIn 23 = .ok (.aload_n 1, 1) := by decide +kernel
theorem dX8_keysIn_24 : decode cX8_keysIn 24 = .ok (.iload_n 3, 1) := by decide +kernel
theorem dX8_keysIn_25 : decode cX8_keysIn 25 = .ok (.invokevirtual 152, 3) := by decide +kernel
theorem dX8_keysIn_28 : decode cX8_keysIn 28 = .ok (.invokevirtual 287, 3) := by decide +kernel
theorem dX8_keysIn_31 : decode cX8_keysIn 31 = .ok (.ifCond .eq 6, 3) := by decide +kernel
theorem dX8_keysIn_34 : decode cX8_keysIn 34 = .ok (.iinc 2 1, 3) := by decide +kernel
theorem dX8_keysIn_37 : decode cX8_keysIn 37 = .ok (.iinc 3 1, 3) := by decide +kernel
theorem dX8_keysIn_40 : decode cX8_keysIn 40 = .ok (.goto (-29), 3) := by decide +kernel
theorem dX8_keysIn_43 : decode cX8_keysIn 43 = .ok (.iload_n 2, 1) := by decide +kernel
theorem dX8_keysIn_44 : decode cX8_keysIn 44 = .ok (.ireturn, 1) := by decide +kernel
theorem dX8_costOf_0 : decode cX8_costOf 0 = .ok (.aload_n 0, 1) := by decide +kernel
theorem dX8_costOf_1 : decode cX8_costOf 1 = .ok (.getfield 41, 3) := by decide +kernel
theorem dX8_costOf_4 : decode cX8_costOf 4 = .ok (.aload_n 1, 1) := by decide +kernel
theorem dX8_costOf_5 : decode cX8_costOf 5 = .ok (.iload_n 2, 1) := by decide +kernel
theorem dX8_costOf_6 : decode cX8_costOf 6 = .ok (.iload_n 3, 1) := by decide +kernel
theorem dX8_costOf_7 : decode cX8_costOf 7 = .ok (.iconst 0, 1) := by decide +kernel
theorem dX8_costOf_8 : decode cX8_costOf 8 = .ok (.aload_n 0, 1) := by decide +kernel
theorem dX8_costOf_9 : decode cX8_costOf 9 = .ok (.getfield 19, 3) := by decide +kernel
theorem dX8_costOf_12 : decode cX8_costOf 12 = .ok (.iload 4, 2) := by decide +kernel
theorem dX8_costOf_14 : decode cX8_costOf 14 = .ok (.invokevirtual 165, 3) := by decide +kernel
theorem dX8_costOf_17 : decode cX8_costOf 17 = .ok (.aload_n 0, 1) := by decide +kernel
theorem dX8_costOf_18 : decode cX8_costOf 18 = .ok (.getfield 41, 3) := by decide +kernel
theorem dX8_costOf_21 : decode cX8_costOf 21 = .ok (.getfield 172, 3) := by decide +kernel
theorem dX8_costOf_24 : decode cX8_costOf 24 = .ok (.aload_n 0, 1) := by decide +kernel
theorem dX8_costOf_25 : decode cX8_costOf 25 = .ok (.getfield 41, 3) := by decide +kernel
theorem dX8_costOf_28 : decode cX8_costOf 28 = .ok (.getfield 174, 3) := by decide +kernel
theorem dX8_costOf_31 : decode cX8_costOf 31 = .ok (.iadd, 1) := by decide +kernel
theorem dX8_costOf_32 : decode cX8_costOf 32 = .ok (.ireturn, 1) := by decide +kernel
theorem dX8_weightOf_0 : decode cX8_weightOf 0 = .ok (.aload_n 0, 1) := by decide +kernel
theorem dX8_weightOf_1 : decode cX8_weightOf 1 = .ok (.iload_n 1, 1) := by decide +kernel
theorem dX8_weightOf_2 : decode cX8_weightOf 2 = .ok (.invokevirtual 152, 3) := by decide +kernel
theorem dX8_weightOf_5 : decode cX8_weightOf 5 = .ok (.istore_n 3, 1) := by decide +kernel
theorem dX8_weightOf_6 : decode cX8_weightOf 6 = .ok (.iload_n 2, 1) := by decide +kernel
theorem dX8_weightOf_7 : decode cX8_weightOf 7 = .ok (.ifCond .eq 8, 3) := by decide +kernel
theorem dX8_weightOf_10 : decode cX8_weightOf 10 = .ok (.iload_n 3, 1) := by decide +kernel
theorem dX8_weightOf_11 : decode cX8_weightOf 11 = .ok (.ineg, 1) := by decide +kernel
theorem dX8_weightOf_12 : decode cX8_weightOf 12 = .ok (.goto 4, 3) := by decide +kernel
theorem dX8_weightOf_15 : decode cX8_weightOf 15 = .ok (.iload_n 3, 1) := by decide +kernel
theorem dX8_weightOf_16 : decode cX8_weightOf 16 = .ok (.sipush 999, 3) := by decide +kernel
theorem dX8_weightOf_19 : decode cX8_weightOf 19 = .ok (.iadd, 1) := by decide +kernel
theorem dX8_weightOf_20 : decode cX8_weightOf 20 = .ok (.bipush 120, 2) := by decide +kernel
theorem dX8_weightOf_22 : decode cX8_weightOf 22 = .ok (.imul, 1) := by decide +kernel
theorem dX8_weightOf_23 : decode cX8_weightOf 23 = .ok (.iload_n 1, 1) := by decide +kernel
theorem dX8_weightOf_24 : decode cX8_weightOf 24 = .ok (.iadd, 1) := by decide +kernel
theorem dX8_weightOf_25 : decode cX8_weightOf 25 = .ok (.ireturn, 1) := by decide +kernel
theorem dX8_land_0 : decode cX8_land 0 = .ok (.aload_n 0, 1) := by decide +kernel
theorem dX8_land_1 : decode cX8_land 1 = .ok (.dup, 1) := by decide +kernel
theorem dX8_land_2 : decode cX8_land 2 = .ok (.getfield 25, 3) := by decide +kernel
theorem dX8_land_5 : decode cX8_land 5 = .ok (.aload_n 0, 1) := by decide +kernel
theorem dX8_land_6 : decode cX8_land 6 = .ok (.getfield 61, 3) := by decide +kernel
theorem dX8_land_9 : decode cX8_land 9 = .ok (.getfield 173, 3) := by decide +kernel
theorem dX8_land_12 : decode cX8_land 12 = .ok (.iadd, 1) := by decide +kernel
theorem dX8_land_13 : decode cX8_land 13 = .ok (.putfield 25, 3) := by decide +kernel
theorem dX8_land_16 : decode cX8_land 16 = .ok (.aload_n 0, 1) := by decide +kernel
theorem dX8_land_17 : decode cX8_land 17 = .ok (.dup, 1) := by decide +kernel
theorem dX8_land_18 : decode cX8_land 18 = .ok (.getfield 28, 3) := by decide +kernel
theorem dX8_land_21 : decode cX8_land 21 = .ok (.aload_n 0, 1) := by decide +kernel
theorem dX8_land_22 : decode cX8_land 22 = .ok (.getfield 61, 3) := by decide +kernel
theorem dX8_land_25 : decode cX8_land 25 = .ok (.getfield 175, 3) := by decide +kernel
theorem dX8_land_28 : decode cX8_land 28 = .ok (.iadd, 1) := by decide +kernel
theorem dX8_land_29 : decode cX8_land 29 = .ok (.putfield 28, 3) := by decide +kernel
theorem dX8_land_32 : decode cX8_land 32 = .ok (.aload_n 0, 1) := by decide +kernel
theorem dX8_land_33 : decode cX8_land 33 = .ok (.dup, 1) := by decide +kernel
theorem dX8_land_34 : decode cX8_land 34 = .ok (.getfield 31, 3) := by decide +kernel
theorem dX8_land_37 : decode cX8_land 37 = .ok (.aload_n 0, 1) := by decide +kernel
theorem dX8_land_38 : decode cX8_land 38 = .ok (.getfield 61, 3) := by decide +kernel
theorem dX8_land_41 : decode cX8_land 41 = .ok (.getfield 325, 3) := by decide +kernel
theorem dX8_land_44 : decode cX8_land 44 = .ok (.iadd, 1) := by decide +kernel
theorem dX8_land_45 : decode cX8_land 45 = .ok (.putfield 31, 3) := by decide +kernel
theorem dX8_land_48 : decode cX8_land 48 = .ok (.aload_n 0, 1) := by decide +kernel
theorem dX8_land_49 : decode cX8_land 49 = .ok (.invokevirtual 326, 3) := by decide +kernel
theorem dX8_land_52 : decode cX8_land 52 = .ok (.istore_n 1, 1) := by decide +kernel
theorem dX8_land_53 : decode cX8_land 53 = .ok (.aload_n 0, 1) := by decide +kernel
theorem dX8_land_54 : decode cX8_land 54 = .ok (.getfield 11, 3) := by decide +kernel
theorem dX8_land_57 : decode cX8_land 57 = .ok (.iload_n 1, 1) := by decide +kernel
theorem dX8_land_58 : decode cX8_land 58 = .ok (.aaload, 1) := by decide +kernel
theorem dX8_land_59 : decode cX8_land 59 = .ok (.aload_n 0, 1) := by decide +kernel
theorem dX8_land_60 : decode cX8_land 60 = .ok (.getfield 61, 3) := by decide +kernel
theorem dX8_land_63 : decode cX8_land 63 = .ok (.getfield 329, 3) := by decide +kernel
theorem dX8_land_66 : decode cX8_land 66 = .ok (.invokevirtual 333, 3) := by decide +kernel
theorem dX8_land_69 : decode cX8_land 69 = .ok (.iload_n 1, 1) := by decide +kernel
theorem dX8_land_70 : decode cX8_land 70 = .ok (.ireturn, 1) := by decide +kernel
theorem dX8_giveSorted_0 : decode cX8_giveSorted 0 = .ok (.aload_n 0, 1) := by decide +kernel
theorem dX8_giveSorted_1 : decode cX8_giveSorted 1 = .ok (.getfield 47, 3) := by decide +kernel
theorem dX8_giveSorted_4 : decode cX8_giveSorted 4 = .ok (.invokevirtual 336, 3) := by decide +kernel
theorem dX8_giveSorted_7 : decode cX8_giveSorted 7 = .ok (.iconst 0, 1) := by decide +kernel
theorem dX8_giveSorted_8 : decode cX8_giveSorted 8 = .ok (.istore_n 3, 1) := by decide +kernel
theorem dX8_giveSorted_9 : decode cX8_giveSorted 9 = .ok (.iload_n 3, 1) := by decide +kernel
theorem dX8_giveSorted_10 : decode cX8_giveSorted 10 = .ok (.aload_n 1, 1) := by decide +kernel
theorem dX8_giveSorted_11 : decode cX8_giveSorted 11 = .ok (.invokevirtual 116, 3) := by decide +kernel
theorem dX8_giveSorted_14 : decode cX8_giveSorted 14 = .ok (.if_icmp .ge 22, 3) := by decide +kernel
theorem dX8_giveSorted_17 : decode cX8_giveSorted 17 = .ok (.aload_n 0, 1) := by decide +kernel
theorem dX8_giveSorted_18 : decode cX8_giveSorted 18 = .ok (.getfield 47, 3) := by decide +kernel
theorem dX8_giveSorted_21 : decode cX8_giveSorted 21 = .ok (.aload_n 1, 1) := by decide +kernel
theorem dX8_giveSorted_22 : decode cX8_giveSorted 22 = .ok (.iload_n 3, 1) := by decide +kernel
theorem dX8_giveSorted_23 : decode cX8_giveSorted 23 = .ok (.iload_n 2, 1) := by decide +kernel
theorem dX8_giveSorted_24 : decode cX8_giveSorted 24 = .ok (.invokestatic 337, 3) := by decide +kernel
theorem dX8_giveSorted_27 : decode cX8_giveSorted 27 = .ok (.invokevirtual 341, 3) := by decide +kernel
theorem dX8_giveSorted_30 : decode cX8_giveSorted 30 = .ok (.iinc 3 1, 3) := by decide +kernel
theorem dX8_giveSorted_33 : decode cX8_giveSorted 33 = .ok (.goto (-24), 3) := by decide +kernel
theorem dX8_giveSorted_36 : decode cX8_giveSorted 36 = .ok (.iconst 0, 1) := by decide +kernel
theorem dX8_giveSorted_37 : decode cX8_giveSorted 37 = .ok (.istore_n 3, 1) := by decide +kernel
theorem dX8_giveSorted_38 : decode cX8_giveSorted 38 = .ok (.iload_n 3, 1) := by decide +kernel
theorem dX8_giveSorted_39 : decode cX8_giveSorted 39 = .ok (.aload_n 1, 1) := by decide +kernel
theorem dX8_giveSorted_40 : decode cX8_giveSorted 40 = .ok (.invokevirtual 116, 3) := by decide +kernel
theorem dX8_giveSorted_43 : decode cX8_giveSorted 43 = .ok (.if_icmp .ge 40, 3) := by decide +kernel
theorem dX8_giveSorted_46 : decode cX8_giveSorted 46 = .ok (.aload_n 0, 1) := by decide +kernel
theorem dX8_giveSorted_47 : decode cX8_giveSorted 47 = .ok (.getfield 47, 3) := by decide +kernel
theorem dX8_giveSorted_50 : decode cX8_giveSorted 50 = .ok (.invokevirtual 344, 3) := by decide +kernel
theorem dX8_giveSorted_53 : decode cX8_giveSorted 53 = .ok (.bipush 120, 2) := by decide +kernel
theorem dX8_giveSorted_55 : decode cX8_giveSorted 55 = .ok (.irem, 1) := by decide +kernel
theorem dX8_giveSorted_56 : decode cX8_giveSorted 56 = .ok (.istore 4, 2) := by decide +kernel
theorem dX8_giveSorted_58 : decode cX8_giveSorted 58 = .ok (.aload_n 0, 1) := by decide +kernel
theorem dX8_giveSorted_59 : decode cX8_giveSorted 59 = .ok (.getfield 61, 3) := by decide +kernel
theorem dX8_giveSorted_62 : decode cX8_giveSorted 62 = .ok (.aload_n 1, 1) := by decide +kernel
theorem dX8_giveSorted_63 : decode cX8_giveSorted 63 = .ok (.iload 4, 2) := by decide +kernel
theorem dX8_giveSorted_65 : decode cX8_giveSorted 65 = .ok (.invokevirtual 152, 3) := by decide +kernel
theorem dX8_giveSorted_68 : decode cX8_giveSorted 68 = .ok (.aload_n 1, 1) := by decide +kernel
theorem dX8_giveSorted_69 : decode cX8_giveSorted 69 = .ok (.iload 4, 2) := by decide +kernel
theorem dX8_giveSorted_71 : decode cX8_giveSorted 71 = .ok (.invokevirtual 148, 3) := by decide +kernel
theorem dX8_giveSorted_74 : decode cX8_giveSorted 74 = .ok (.invokevirtual 347, 3) := by decide +kernel
theorem dX8_giveSorted_77 : decode cX8_giveSorted 77 = .ok (.iinc 3 1, 3) := by decide +kernel
theorem dX8_giveSorted_80 : decode cX8_giveSorted 80 = .ok (.goto (-42), 3) := by decide +kernel
theorem dX8_giveSorted_83 : decode cX8_giveSorted 83 = .ok (.return_, 1) := by decide +kernel
theorem dX8_joinByMerging_0 : decode cX8_joinByMerging 0 = .ok (.aload_n 0, 1) := by decide +kernel
theorem dX8_joinByMerging_1 : decode cX8_joinByMerging 1 = .ok (.getfield 61, 3) := by decide +kernel
theorem dX8_joinByMerging_4 : decode cX8_joinByMerging 4 = .ok (.aload_n 1, 1) := by decide +kernel
theorem dX8_joinByMerging_5 : decode cX8_joinByMerging 5 = .ok (.invokevirtual 116, 3) := by decide +kernel
theorem dX8_joinByMerging_8 : decode cX8_joinByMerging 8 = .ok (.aload_n 0, 1) := by decide +kernel
theorem dX8_joinByMerging_9 : decode cX8_joinByMerging 9 = .ok (.getfield 19, 3) := by decide +kernel
theorem dX8_joinByMerging_12 : decode cX8_joinByMerging 12 = .ok (.invokestatic 155, 3) := by decide +kernel
theorem dX8_joinByMerging_15 : decode cX8_joinByMerging 15 = .ok (.aload_n 2, 1) := by decide +kernel
theorem dX8_joinByMerging_16 : decode cX8_joinByMerging 16 = .ok (.invokevirtual 116, 3) := by decide +kernel
theorem dX8_joinByMerging_19 : decode cX8_joinByMerging 19 = .ok (.aload_n 0, 1) := by decide +kernel
theorem dX8_joinByMerging_20 : decode cX8_joinByMerging 20 = .ok (.getfield 19, 3) := by decide +kernel
theorem dX8_joinByMerging_23 : decode cX8_joinByMerging 23 = .ok (.invokestatic 155, 3) := by decide +kernel
theorem dX8_joinByMerging_26 : decode cX8_joinByMerging 26 = .ok (.iadd, 1) := by decide +kernel
theorem dX8_joinByMerging_27 : decode cX8_joinByMerging 27 = .ok (.putfield 173, 3) := by decide +kernel
theorem dX8_joinByMerging_30 : decode cX8_joinByMerging 30 = .ok (.iconst 0, 1) := by decide +kernel
theorem dX8_joinByMerging_31 : decode cX8_joinByMerging 31 = .ok (.istore 4, 2) := by decide +kernel
theorem dX8_joinByMerging_33 : decode cX8_joinByMerging 33 = .ok (.iconst 0, 1) := by decide +kernel
theorem dX8_joinByMerging_34 : decode cX8_joinByMerging 34 = .ok (.istore 5, 2) := by decide +kernel
theorem dX8_joinByMerging_36 : decode cX8_joinByMerging 36 = .ok (.iconst 0, 1) := by decide +kernel
theorem dX8_joinByMerging_37 : decode cX8_joinByMerging 37 = .ok (.istore 6, 2) := by decide +kernel
theorem dX8_joinByMerging_39 : decode cX8_joinByMerging 39 = .ok (.iconst 0, 1) := by decide +kernel
theorem dX8_joinByMerging_40 : decode cX8_joinByMerging 40 = .ok (.istore 7, 2) := by decide +kernel
theorem dX8_joinByMerging_42 : decode cX8_joinByMerging 42 = .ok (.iload 7, 2) := by decide +kernel
theorem dX8_joinByMerging_44 : decode cX8_joinByMerging 44 = .ok (.aload_n 1, 1) := by decide +kernel
theorem dX8_joinByMerging_45 : decode cX8_joinByMerging 45 = .ok (.invokevirtual 116, 3) := by decide +kernel
theorem dX8_joinByMerging_48 : decode cX8_joinByMerging 48 = .ok (.if_icmp .ge 188, 3) := by decide +kernel
theorem dX8_joinByMerging_51 : decode cX8_joinByMerging 51 = .ok (.aload_n 1, 1) := by decide +kernel
theorem dX8_joinByMerging_52 : decode cX8_joinByMerging 52 = .ok (.iload 7, 2) := by decide +kernel
theorem dX8_joinByMerging_54 : decode cX8_joinByMerging 54 = .ok (.invokevirtual 152, 3) := by decide +kernel
theorem dX8_joinByMerging_57 : decode cX8_joinByMerging 57 = .ok (.istore 8, 2) := by decide +kernel
theorem dX8_joinByMerging_59 : decode cX8_joinByMerging 59 = .ok (.iload 7, 2) := by decide +kernel
theorem dX8_joinByMerging_61 : decode cX8_joinByMerging 61 = .ok (.ifCond .eq 16, 3) := by decide +kernel
theorem dX8_joinByMerging_64 : decode cX8_joinByMerging 64 = .ok (.aload_n 1, 1) := by decide +kernel
theorem dX8_joinByMerging_65 : decode cX8_joinByMerging 65 = .ok (.iload 7, 2) := by decide +kernel
theorem dX8_joinByMerging_67 : decode cX8_joinByMerging 67 = .ok (.iconst 1, 1) := by decide +kernel
theorem dX8_joinByMerging_68 : decode cX8_joinByMerging 68 = .ok (.isub, 1) := by decide +kernel
theorem dX8_joinByMerging_69 : decode cX8_joinByMerging 69 = .ok (.invokevirtual 152, 3) := by decide +kernel
theorem dX8_joinByMerging_72 : decode cX8_joinByMerging 72 = .ok (.iload 8, 2) := by decide +kernel
theorem dX8_joinByMerging_74 : decode cX8_joinByMerging 74 = .ok (.if_icmp .eq 81, 3) := by decide +kernel
theorem dX8_joinByMerging_77 : decode cX8_joinByMerging 77 = .ok (.aload_n 2, 1) := by decide +kernel
theorem dX8_joinByMerging_78 : decode cX8_joinByMerging 78 = .ok (.iload 8, 2) := by decide +kernel
theorem dX8_joinByMerging_80 : decode cX8_joinByMerging 80 = .ok (.iload 5, 2) := by decide +kernel
theorem dX8_joinByMerging_82 : decode cX8_joinByMerging 82 = .ok (.invokevirtual 349, 3) := by decide +kernel
theorem dX8_joinByMerging_85 : decode cX8_joinByMerging 85 = .ok (.istore 4, 2) := by decide +kernel
theorem dX8_joinByMerging_87 : decode cX8_joinByMerging 87 = .ok (.aload_n 2, 1) := by decide +kernel
theorem dX8_joinByMerging_88 : decode cX8_joinByMerging 88 = .ok (.iload 8, 2) := by decide +kernel
theorem dX8_joinByMerging_90 : decode cX8_joinByMerging 90 = .ok (.iconst 1, 1) := by decide +kernel
theorem dX8_joinByMerging_91 : decode cX8_joinByMerging 91 = .ok (.iadd, 1) := by decide +kernel
theorem dX8_joinByMerging_92 : decode cX8_joinByMerging 92 = .ok (.iload 4, 2) := by decide +kernel
theorem dX8_joinByMerging_94 : decode cX8_joinByMerging 94 = .ok (.invokevirtual 349, 3) := by decide +kernel
theorem dX8_joinByMerging_97 : decode cX8_joinByMerging 97 = .ok (.istore 5, 2) := by decide +kernel
theorem dX8_joinByMerging_99 : decode cX8_joinByMerging 99 = .ok (.aload_n 1, 1) := by decide +kernel
theorem dX8_joinByMerging_100 : decode cX8_joinByMerging 100 = .ok (.iload 7, 2) := by decide +kernel
theorem dX8_joinByMerging_102 : decode cX8_joinByMerging 102 = .ok (.iconst 1, 1) := by decide +kernel
theorem dX8_joinByMerging_103 : decode cX8_joinByMerging 103 = .ok (.iadd, 1) := by decide +kernel
theorem dX8_joinByMerging_104 : decode cX8_joinByMerging 104 = .ok (.invokevirtual 139, 3) := by decide +kernel
theorem dX8_joinByMerging_107 : decode cX8_joinByMerging 107 = .ok (.ifCond .eq 20, 3) := by decide +kernel
theorem dX8_joinByMerging_110 : decode cX8_joinByMerging 110 = .ok (.aload_n 1, 1) := by decide +kernel
theorem dX8_joinByMerging_111 : decode cX8_joinByMerging 111 = .ok (.iload 7, 2) := by decide +kernel
theorem dX8_joinByMerging_113 : decode cX8_joinByMerging 113 = .ok (.iconst 1, 1) := by decide +kernel
theorem dX8_joinByMerging_114 : decode cX8_joinByMerging 114 = .ok (.iadd, 1) := by decide +kernel
theorem dX8_joinByMerging_115 : decode cX8_joinByMerging 115 = .ok (.invokevirtual 152, 3) := by decide +kernel
theorem dX8_joinByMerging_118 : decode cX8_joinByMerging 118 = .ok (.iload 8, 2) := by decide +kernel
theorem dX8_joinByMerging_120 : decode cX8_joinByMerging 120 = .ok (.if_icmp .ne 7, 3) := by decide +kernel
theorem dX8_joinByMerging_123 : decode cX8_joinByMerging 123 = .ok (.iconst 1, 1) := by decide +kernel
theorem dX8_joinByMerging_124 : decode cX8_joinByMerging 124 = .ok (.goto 4, 3) := by decide +kernel
theorem dX8_joinByMerging_127 : decode cX8_joinByMerging 127 = .ok (.iconst 0, 1) := by decide +kernel
theorem dX8_joinByMerging_128 : decode cX8_joinByMerging 128 = .ok (.istore 9, 2) := by decide +kernel
theorem dX8_joinByMerging_130 : decode cX8_joinByMerging 130 = .ok (.iload_n 3, 1) := by decide +kernel
theorem dX8_joinByMerging_131 : decode cX8_joinByMerging 131 = .ok (.iconst 1, 1) := by decide +kernel
theorem dX8_joinByMerging_132 : decode cX8_joinByMerging 132 = .ok (.if_icmp .gt 20, 3) := by decide +kernel
theorem dX8_joinByMerging_135 : decode cX8_joinByMerging 135 = .ok (.iload 9, 2) := by decide +kernel
theorem dX8_joinByMerging_137 : decode cX8_joinByMerging 137 = .ok (.ifCond .eq 15, 3) := by decide +kernel
theorem dX8_joinByMerging_140 : decode cX8_joinByMerging 140 = .ok (.aload_n 0, 1) := by decide +kernel
theorem dX8_joinByMerging_141 : decode cX8_joinByMerging 141 = .ok (.iload 5, 2) := by decide +kernel
theorem dX8_joinByMerging_143 : decode cX8_joinByMerging 143 = .ok (.iload 4, 2) := by decide +kernel
theorem dX8_joinByMerging_145 : decode cX8_joinByMerging 145 = .ok (.isub, 1) := by decide +kernel
theorem dX8_joinByMerging_146 : decode cX8_joinByMerging 146 = .ok (.invokevirtual 352, 3) := by decide +kernel
theorem dX8_joinByMerging_149 : decode cX8_joinByMerging 149 = .ok (.goto 4, 3) := by decide +kernel
theorem dX8_joinByMerging_152 : decode cX8_joinByMerging 152 = .ok (.iconst 0, 1) := by decide +kernel
theorem dX8_joinByMerging_153 : decode cX8_joinByMerging 153 = .ok (.istore 6, 2) := by decide +kernel
theorem dX8_joinByMerging_155 : decode cX8_joinByMerging 155 = .ok (.aload_n 0, 1) := by decide +kernel
theorem dX8_joinByMerging_156 : decode cX8_joinByMerging 156 = .ok (.getfield 61, 3) := by decide +kernel
theorem dX8_joinByMerging_159 : decode cX8_joinByMerging 159 = .ok (.dup, 1) := by decide +kernel
theorem dX8_joinByMerging_160 : decode cX8_joinByMerging 160 = .ok (.getfield 173, 3) := by decide +kernel
theorem dX8_joinByMerging_163 : decode cX8_joinByMerging 163 = .ok (.iload 6, 2) := by decide +kernel
theorem dX8_joinByMerging_165 : decode cX8_joinByMerging 165 = .ok (.iadd, 1) := by decide +kernel
theorem dX8_joinByMerging_166 : decode cX8_joinByMerging 166 = .ok (.putfield 173, 3) := by decide +kernel
theorem dX8_joinByMerging_169 : decode cX8_joinByMerging 169 = .ok (.iload_n 3, 1) := by decide +kernel
theorem dX8_joinByMerging_170 : decode cX8_joinByMerging 170 = .ok (.iconst 1, 1) := by decide +kernel
theorem dX8_joinByMerging_171 : decode cX8_joinByMerging 171 = .ok (.if_icmp .gt 15, 3) := by decide +kernel
theorem dX8_joinByMerging_174 : decode cX8_joinByMerging 174 = .ok (.aload_n 0, 1) := by decide +kernel
theorem dX8_joinByMerging_175 : decode cX8_joinByMerging 175 = .ok (.aload_n 1, 1) := by decide +kernel
theorem dX8_joinByMerging_176 : decode cX8_joinByMerging 176 = .ok (.iload 7, 2) := by decide +kernel
theorem dX8_joinByMerging_178 : decode cX8_joinByMerging 178 = .ok (.aload_n 2, 1) := by decide +kernel
theorem dX8_joinByMerging_179 : decode cX8_joinByMerging 179 = .ok (.iload 4, 2) := by decide +kernel
theorem dX8_joinByMerging_181 : decode cX8_joinByMerging 181 = .ok (.iload 5, 2) := by decide +kernel
theorem dX8_joinByMerging_183 : decode cX8_joinByMerging 183 = .ok (.invokevirtual 355, 3) := by decide +kernel
theorem dX8_joinByMerging_186 : decode cX8_joinByMerging 186 = .ok (.iload_n 3, 1) := by decide +kernel
theorem dX8_joinByMerging_187 : decode cX8_joinByMerging 187 = .ok (.ifCond .eq 43, 3) := by decide +kernel
theorem dX8_joinByMerging_190 : decode cX8_joinByMerging 190 = .ok (.iload_n 3, 1) := by decide +kernel
theorem dX8_joinByMerging_191 : decode cX8_joinByMerging 191 = .ok (.iconst 2, 1) := by decide +kernel
theorem dX8_joinByMerging_192 : decode cX8_joinByMerging 192 = .ok (.if_icmp .ne 7, 3) := by decide +kernel
theorem dX8_joinByMerging_195 : decode cX8_joinByMerging 195 = .ok (.iconst 1, 1) := by decide +kernel
theorem dX8_joinByMerging_196 : decode cX8_joinByMerging 196 = .ok (.goto 4, 3) := by decide +kernel
theorem dX8_joinByMerging_199 : decode cX8_joinByMerging 199 = .ok (.iconst 0, 1) := by decide +kernel
theorem dX8_joinByMerging_200 : decode cX8_joinByMerging 200 = .ok (.iload 5, 2) := by decide +kernel
theorem dX8_joinByMerging_202 : decode cX8_joinByMerging 202 = .ok (.iload 4, 2) := by decide +kernel
theorem dX8_joinByMerging_204 : decode cX8_joinByMerging 204 = .ok (.if_icmp .le 7, 3) := by decide +kernel
theorem dX8_joinByMerging_207 : decode cX8_joinByMerging 207 = .ok (.iconst 1, 1) := by decide +kernel
theorem dX8_joinByMerging_208 : decode cX8_joinByMerging 208 = .ok (.goto 4, 3) := by decide +kernel
theorem dX8_joinByMerging_211 : decode cX8_joinByMerging 211 = .ok (.iconst 0, 1) := by decide +kernel
theorem dX8_joinByMerging_212 : decode cX8_joinByMerging 212 = .ok (.if_icmp .ne 18, 3) := by decide +kernel
theorem dX8_joinByMerging_215 : decode cX8_joinByMerging 215 = .ok (.aload_n 0, 1) := by decide +kernel
theorem dX8_joinByMerging_216 : decode cX8_joinByMerging 216 = .ok (.getfield 61, 3) := by decide +kernel
theorem dX8_joinByMerging_219 : decode cX8_joinByMerging 219 = .ok (.iload 8, 2) := by decide +kernel
theorem dX8_joinByMerging_221 : decode cX8_joinByMerging 221 = .ok (.aload_n 1, 1) := by decide +kernel
theorem dX8_joinByMerging_222 : decode cX8_joinByMerging 222 = .ok (.iload 7, 2) := by decide +kernel
theorem dX8_joinByMerging_224 : decode cX8_joinByMerging 224 = .ok (.invokevirtual 148, 3) := by decide +kernel
theorem dX8_joinByMerging_227 : decode cX8_joinByMerging 227 = .ok (.invokevirtual 347, 3) := by decide +kernel
theorem dX8_joinByMerging_230 : decode cX8_joinByMerging 230 = .ok (.iinc 7 1, 3) := by decide +kernel
theorem dX8_joinByMerging_233 : decode cX8_joinByMerging 233 = .ok (.goto (-191), 3) := by decide +kernel
theorem dX8_joinByMerging_236 : decode cX8_joinByMerging 236 = .ok (.aload_n 0, 1) := by decide +kernel
theorem dX8_joinByMerging_237 : decode cX8_joinByMerging 237 = .ok (.getfield 61, 3) := by decide +kernel
theorem dX8_joinByMerging_240 : decode cX8_joinByMerging 240 = .ok (.dup, 1) := by decide +kernel
theorem dX8_joinByMerging_241 : decode cX8_joinByMerging 241 = .ok (.getfield 175, 3) := by decide +kernel
theorem dX8_joinByMerging_244 : decode cX8_joinByMerging 244 = .ok (.aload_n 0, 1) := by decide +kernel
theorem dX8_joinByMerging_245 : decode cX8_joinByMerging 245 = .ok (.getfield 61, 3) := by decide +kernel
theorem dX8_joinByMerging_248 : decode cX8_joinByMerging 248 = .ok (.getfield 277, 3) := by decide +kernel
theorem dX8_joinByMerging_251 : decode cX8_joinByMerging 251 = .ok (.aload_n 0, 1) := by decide +kernel
theorem dX8_joinByMerging_252 : decode cX8_joinByMerging 252 = .ok (.getfield 19, 3) := by decide +kernel
theorem dX8_joinByMerging_255 : decode cX8_joinByMerging 255 = .ok (.invokestatic 155, 3) := by decide +kernel
theorem dX8_joinByMerging_258 : decode cX8_joinByMerging 258 = .ok (.iadd, 1) := by decide +kernel
theorem dX8_joinByMerging_259 : decode cX8_joinByMerging 259 = .ok (.putfield 175, 3) := by decide +kernel
theorem dX8_joinByMerging_262 : decode cX8_joinByMerging 262 = .ok (.return_, 1) := by decide +kernel
theorem dX8_spill_0 : decode cX8_spill 0 = .ok (.iload_n 1, 1) := by decide +kernel
theorem dX8_spill_1 : decode cX8_spill 1 = .ok (.aload_n 0, 1) := by decide +kernel
theorem dX8_spill_2 : decode cX8_spill 2 = .ok (.getfield 22, 3) := by decide +kernel
theorem dX8_spill_5 : decode cX8_spill 5 = .ok (.iconst 2, 1) := by decide +kernel
theorem dX8_spill_6 : decode cX8_spill 6 = .ok (.isub, 1) := by decide +kernel
theorem dX8_spill_7 : decode cX8_spill 7 = .ok (.aload_n 0, 1) := by decide +kernel
theorem dX8_spill_8 : decode cX8_spill 8 = .ok (.getfield 19, 3) := by decide +kernel
theorem dX8_spill_11 : decode cX8_spill 11 = .ok (.imul, 1) := by decide +kernel
theorem dX8_spill_12 : decode cX8_spill 12 = .ok (.if_icmp .gt 5, 3) := by decide +kernel
theorem dX8_spill_15 : decode cX8_spill 15 = .ok (.iconst 0, 1) := by decide +kernel
theorem dX8_spill_16 : decode cX8_spill 16 = .ok (.ireturn, 1) := by decide +kernel
theorem dX8_spill_17 : decode cX8_spill 17 = .ok (.iload_n 1, 1) := by decide +kernel
theorem dX8_spill_18 : decode cX8_spill 18 = .ok (.aload_n 0, 1) := by decide +kernel
theorem dX8_spill_19 : decode cX8_spill 19 = .ok (.getfield 19, 3) := by decide +kernel
theorem dX8_spill_22 : decode cX8_spill 22 = .ok (.invokestatic 155, 3) := by decide +kernel
theorem dX8_spill_25 : decode cX8_spill 25 = .ok (.istore_n 2, 1) := by decide +kernel
theorem dX8_spill_26 : decode cX8_spill 26 = .ok (.aload_n 0, 1) := by decide +kernel
theorem dX8_spill_27 : decode cX8_spill 27 = .ok (.getfield 61, 3) := by decide +kernel
theorem dX8_spill_30 : decode cX8_spill 30 = .ok (.dup, 1) := by decide +kernel
theorem dX8_spill_31 : decode cX8_spill 31 = .ok (.getfield 325, 3) := by decide +kernel
theorem dX8_spill_34 : decode cX8_spill 34 = .ok (.iload_n 2, 1) := by decide +kernel
theorem dX8_spill_35 : decode cX8_spill 35 = .ok (.iadd, 1) := by decide +kernel
theorem dX8_spill_36 : decode cX8_spill 36 = .ok (.putfield 325, 3) := by decide +kernel
theorem dX8_spill_39 : decode cX8_spill 39 = .ok (.aload_n 0, 1) := by decide +kernel
theorem dX8_spill_40 : decode cX8_spill 40 = .ok (.getfield 61, 3) := by decide +kernel
theorem dX8_spill_43 : decode cX8_spill 43 = .ok (.dup, 1) := by decide +kernel
theorem dX8_spill_44 : decode cX8_spill 44 = .ok (.getfield 175, 3) := by decide +kernel
theorem dX8_spill_47 : decode cX8_spill 47 = .ok (.iload_n 2, 1) := by decide +kernel
theorem dX8_spill_48 : decode cX8_spill 48 = .ok (.iadd, 1) := by decide +kernel
theorem dX8_spill_49 : decode cX8_spill 49 = .ok (.putfield 175, 3) := by decide +kernel
theorem dX8_spill_52 : decode cX8_spill 52 = .ok (.iload_n 2, 1) := by decide +kernel
theorem dX8_spill_53 : decode cX8_spill 53 = .ok (.ireturn, 1) := by decide +kernel
theorem dX8_givePairs_0 : decode cX8_givePairs 0 = .ok (.iload 4, 2) := by decide +kernel
theorem dX8_givePairs_2 : decode cX8_givePairs 2 = .ok (.istore 6, 2) := by decide +kernel
theorem dX8_givePairs_4 : decode cX8_givePairs 4 = .ok (.iload 6, 2) := by decide +kernel
theorem dX8_givePairs_6 : decode cX8_givePairs 6 = .ok (.iload 5, 2) := by decide +kernel
theorem dX8_givePairs_8 : decode cX8_givePairs 8 = .ok (.if_icmp .ge 21, 3) := by decide +kernel
theorem dX8_givePairs_11 : decode cX8_givePairs 11 = .ok (.aload_n 0, 1) := by decide +kernel
theorem dX8_givePairs_12 : decode cX8_givePairs 12 = .ok (.getfield 61, 3) := by decide +kernel
theorem dX8_givePairs_15 : decode cX8_givePairs 15 = .ok (.aload_n 1, 1) := by decide +kernel
theorem dX8_givePairs_16 : decode cX8_givePairs 16 = .ok (.iload_n 2, 1) := by decide +kernel
theorem dX8_givePairs_17 : decode cX8_givePairs 17 = .ok (.aload_n 3, 1) := by decide +kernel
theorem dX8_givePairs_18 : decode cX8_givePairs 18 = .ok (.iload 6, 2) := by decide +kernel
theorem dX8_givePairs_20 : decode cX8_givePairs 20 = .ok (.invokevirtual 359, 3) := by decide +kernel
theorem dX8_givePairs_23 : decode cX8_givePairs 23 = .ok (.iinc 6 1, 3) := by decide +kernel
theorem dX8_givePairs_26 : decode cX8_givePairs 26 = .ok (.goto (-22), 3) := by decide +kernel
theorem dX8_givePairs_29 : decode cX8_givePairs 29 = .ok (.return_, 1) := by decide +kernel
theorem dX8_joinBySplitting_0 : decode cX8_joinBySplitting 0 = .ok (.aload_n 0, 1) := by decide +kernel
theorem dX8_joinBySplitting_1 : decode cX8_joinBySplitting 1 = .ok (.getfield 61, 3) := by decide +kernel
theorem dX8_joinBySplitting_4 : decode cX8_joinBySplitting 4 = .ok (.invokevirtual 169, 3) := by decide +kernel
theorem dX8_joinBySplitting_7 : decode cX8_joinBySplitting 7 = .ok (.aload_n 0, 1) := by decide +kernel
theorem dX8_joinBySplitting_8 : decode cX8_joinBySplitting 8 = .ok (.getfield 68, 3) := by decide +kernel
theorem dX8_joinBySplitting_11 : decode cX8_joinBySplitting 11 = .ok (.aload_n 0, 1) := by decide +kernel
theorem dX8_joinBySplitting_12 : decode cX8_joinBySplitting 12 = .ok (.getfield 19, 3) := by decide +kernel
theorem dX8_joinBySplitting_15 : decode cX8_joinBySplitting 15 = .ok (.putfield 363, 3) := by decide +kernel
theorem dX8_joinBySplitting_18 : decode cX8_joinBySplitting 18 = .ok (.aload_n 0, 1) := by decide +kernel
theorem dX8_joinBySplitting_19 : decode cX8_joinBySplitting 19 = .ok (.getfield 68, 3) := by decide +kernel
theorem dX8_joinBySplitting_22 : decode cX8_joinBySplitting 22 = .ok (.aload_n 0, 1) := by decide +kernel
theorem dX8_joinBySplitting_23 : decode cX8_joinBySplitting 23 = .ok (.getfield 22, 3) := by decide +kernel
theorem dX8_joinBySplitting_26 : decode cX8_joinBySplitting 26 = .ok (.putfield 364, 3) := by decide +kernel
theorem dX8_joinBySplitting_29 : decode cX8_joinBySplitting 29 = .ok (.aload_n 0, 1) := by decide +kernel
theorem dX8_joinBySplitting_30 : decode cX8_joinBySplitting 30 = .ok (.getfield 68, 3) := by decide +kernel
theorem dX8_joinBySplitting_33 : decode cX8_joinBySplitting 33 = .ok (.aload_n 0, 1) := by decide +kernel
theorem dX8_joinBySplitting_34 : decode cX8_joinBySplitting 34 = .ok (.getfield 61, 3) := by decide +kernel
theorem dX8_joinBySplitting_37 : decode cX8_joinBySplitting 37 = .ok (.aload_n 1, 1) := by decide +kernel
theorem dX8_joinBySplitting_38 : decode cX8_joinBySplitting 38 = .ok (.aload_n 2, 1) := by decide +kernel
theorem dX8_joinBySplitting_39 : decode cX8_joinBySplitting 39 = .ok (.iconst 0, 1) := by decide +kernel
theorem dX8_joinBySplitting_40 : decode cX8_joinBySplitting 40 = .ok (.invokestatic 365, 3) := by decide +kernel
theorem dX8_joinBySplitting_43 : decode cX8_joinBySplitting 43 = .ok (.aload_n 0, 1) := by decide +kernel
theorem dX8_joinBySplitting_44 : decode cX8_joinBySplitting 44 = .ok (.getfield 61, 3) := by decide +kernel
theorem dX8_joinBySplitting_47 : decode cX8_joinBySplitting 47 = .ok (.dup, 1) := by decide +kernel
theorem dX8_joinBySplitting_48 : decode cX8_joinBySplitting 48 = .ok (.getfield 175, 3) := by decide +kernel
theorem dX8_joinBySplitting_51 : decode cX8_joinBySplitting 51 = .ok (.aload_n 0, 1) := by decide +kernel
theorem dX8_joinBySplitting_52 : decode cX8_joinBySplitting 52 = .ok (.getfield 61, 3) := by decide +kernel
theorem dX8_joinBySplitting_55 : decode cX8_joinBySplitting 55 = .ok (.getfield 277, 3) := by decide +kernel
theorem dX8_joinBySplitting_58 : decode cX8_joinBySplitting 58 = .ok (.aload_n 0, 1) := by decide +kernel
theorem dX8_joinBySplitting_59 : decode cX8_joinBySplitting 59 = .ok (.getfield 19, 3) := by decide +kernel
theorem dX8_joinBySplitting_62 : decode cX8_joinBySplitting 62 = .ok (.invokestatic 155, 3) := by decide +kernel
theorem dX8_joinBySplitting_65 : decode cX8_joinBySplitting 65 = .ok (.iadd, 1) := by decide +kernel
theorem dX8_joinBySplitting_66 : decode cX8_joinBySplitting 66 = .ok (.putfield 175, 3) := by decide +kernel
theorem dX8_joinBySplitting_69 : decode cX8_joinBySplitting 69 = .ok (.return_, 1) := by decide +kernel
theorem dX8_splitRows_0 : decode cX8_splitRows 0 = .ok (.aload_n 2, 1) := by decide +kernel
theorem dX8_splitRows_1 : decode cX8_splitRows 1 = .ok (.invokevirtual 116, 3) := by decide +kernel
theorem dX8_splitRows_4 : decode cX8_splitRows 4 = .ok (.ifCond .eq 10, 3) := by decide +kernel
theorem dX8_splitRows_7 : decode cX8_splitRows 7 = .ok (.aload_n 3, 1) := by decide +kernel
theorem dX8_splitRows_8 : decode cX8_splitRows 8 = .ok (.invokevirtual 116, 3) := by decide +kernel
theorem dX8_splitRows_11 : decode cX8_splitRows 11 = .ok (.ifCond .ne 4, 3) := by decide +kernel
theorem dX8_splitRows_14 : decode cX8_splitRows 14 = .ok (.return_, 1) := by decide +kernel
theorem dX8_splitRows_15 : decode cX8_splitRows 15 = .ok (.iload 4, 2) := by decide +kernel
theorem dX8_splitRows_17 : decode cX8_splitRows 17 = .ok (.iconst 3, 1) := by decide +kernel
theorem dX8_splitRows_18 : decode cX8_splitRows 18 = .ok (.if_icmp .ge 23, 3) := by decide +kernel
end
section
-- decode rows, part 7
theorem dX8_splitRows_21 : decode cX8_splitRows 21 = .ok (.aload_n 3, 1) := by decide +kernel
theorem dX8_splitRows_22 : decode cX8_splitRows 22 = .ok (.invokevirtual 116, 3) := by decide +kernel
theorem dX8_splitRows_25 : decode cX8_splitRows 25 = .ok (.aload_n 0, 1) := by decide +kernel
theorem dX8_splitRows_26 : decode cX8_splitRows 26 = .ok (.getfield 363, 3) := by decide +kernel
theorem dX8_splitRows_29 : decode cX8_splitRows 29 = .ok (.invokestatic 155, 3) := by decide +kernel
theorem dX8_splitRows_32 : decode cX8_splitRows 32 = .ok (.aload_n 0, 1) := by decide +kernel
theorem dX8_splitRows_33 : decode cX8_splitRows 33 = .ok (.getfield 364, 3) := by decide +kernel
theorem dX8_splitRows_36 : decode cX8_splitRows 36 = .ok (.iconst 2, 1) := by decide +kernel
theorem dX8_splitRows_37 : decode cX8_splitRows 37 = .ok (.isub, 1) := by decide +kernel
theorem dX8_splitRows_38 : decode cX8_splitRows 38 = .ok (.if_icmp .gt 11, 3) := by decide +kernel
theorem dX8_splitRows_41 : decode cX8_splitRows 41 = .ok (.aload_n 0, 1) := by decide +kernel
theorem dX8_splitRows_42 : decode cX8_splitRows 42 = .ok (.aload_n 1, 1) := by decide +kernel
theorem dX8_splitRows_43 : decode cX8_splitRows 43 = .ok (.aload_n 2, 1) := by decide +kernel
theorem dX8_splitRows_44 : decode cX8_splitRows 44 = .ok (.aload_n 3, 1) := by decide +kernel
theorem dX8_splitRows_45 : decode cX8_splitRows 45 = .ok (.invokestatic 369, 3) := by decide +kernel
theorem dX8_splitRows_48 : decode cX8_splitRows 48 = .ok (.return_, 1) := by decide +kernel
theorem dX8_splitRows_49 : decode cX8_splitRows 49 = .ok (.aload_n 1, 1) := by decide +kernel
theorem dX8_splitRows_50 : decode cX8_splitRows 50 = .ok (.dup, 1) := by decide +kernel
theorem dX8_splitRows_51 : decode cX8_splitRows 51 = .ok (.getfield 173, 3) := by decide +kernel
theorem dX8_splitRows_54 : decode cX8_splitRows 54 = .ok (.aload_n 2, 1) := by decide +kernel
theorem dX8_splitRows_55 : decode cX8_splitRows 55 = .ok (.invokevirtual 116, 3) := by decide +kernel
theorem dX8_splitRows_58 : decode cX8_splitRows 58 = .ok (.aload_n 0, 1) := by decide +kernel
theorem dX8_splitRows_59 : decode cX8_splitRows 59 = .ok (.getfield 363, 3) := by decide +kernel
theorem dX8_splitRows_62 : decode cX8_splitRows 62 = .ok (.invokestatic 155, 3) := by decide +kernel
theorem dX8_splitRows_65 : decode cX8_splitRows 65 = .ok (.aload_n 3, 1) := by decide +kernel
theorem dX8_splitRows_66 : decode cX8_splitRows 66 = .ok (.invokevirtual 116, 3) := by decide +kernel
theorem dX8_splitRows_69 : decode cX8_splitRows 69 = .ok (.aload_n 0, 1) := by decide +kernel
theorem dX8_splitRows_70 : decode cX8_splitRows 70 = .ok (.getfield 363, 3) := by decide +kernel
theorem dX8_splitRows_73 : decode cX8_splitRows 73 = .ok (.invokestatic 155, 3) := by decide +kernel
theorem dX8_splitRows_76 : decode cX8_splitRows 76 = .ok (.iadd, 1) := by decide +kernel
theorem dX8_splitRows_77 : decode cX8_splitRows 77 = .ok (.iadd, 1) := by decide +kernel
theorem dX8_splitRows_78 : decode cX8_splitRows 78 = .ok (.putfield 173, 3) := by decide +kernel
theorem dX8_splitRows_81 : decode cX8_splitRows 81 = .ok (.aload_n 0, 1) := by decide +kernel
theorem dX8_splitRows_82 : decode cX8_splitRows 82 = .ok (.getfield 364, 3) := by decide +kernel
theorem dX8_splitRows_85 : decode cX8_splitRows 85 = .ok (.iconst 1, 1) := by decide +kernel
theorem dX8_splitRows_86 : decode cX8_splitRows 86 = .ok (.isub, 1) := by decide +kernel
theorem dX8_splitRows_87 : decode cX8_splitRows 87 = .ok (.istore 5, 2) := by decide +kernel
theorem dX8_splitRows_89 : decode cX8_splitRows 89 = .ok (.iconst 0, 1) := by decide +kernel
theorem dX8_splitRows_90 : decode cX8_splitRows 90 = .ok (.istore 6, 2) := by decide +kernel
theorem dX8_splitRows_92 : decode cX8_splitRows 92 = .ok (.iload 6, 2) := by decide +kernel
theorem dX8_splitRows_94 : decode cX8_splitRows 94 = .ok (.iload 5, 2) := by decide +kernel
theorem dX8_splitRows_96 : decode cX8_splitRows 96 = .ok (.if_icmp .ge 86, 3) := by decide +kernel
theorem dX8_splitRows_99 : decode cX8_splitRows 99 = .ok (.aload_n 0, 1) := by decide +kernel
theorem dX8_splitRows_100 : decode cX8_splitRows 100 = .ok (.aload_n 2, 1) := by decide +kernel
theorem dX8_splitRows_101 : decode cX8_splitRows 101 = .ok (.iload 4, 2) := by decide +kernel
theorem dX8_splitRows_103 : decode cX8_splitRows 103 = .ok (.iload 6, 2) := by decide +kernel
theorem dX8_splitRows_105 : decode cX8_splitRows 105 = .ok (.invokevirtual 373, 3) := by decide +kernel
theorem dX8_splitRows_108 : decode cX8_splitRows 108 = .ok (.astore 7, 2) := by decide +kernel
theorem dX8_splitRows_110 : decode cX8_splitRows 110 = .ok (.aload_n 0, 1) := by decide +kernel
theorem dX8_splitRows_111 : decode cX8_splitRows 111 = .ok (.aload_n 3, 1) := by decide +kernel
theorem dX8_splitRows_112 : decode cX8_splitRows 112 = .ok (.iload 4, 2) := by decide +kernel
theorem dX8_splitRows_114 : decode cX8_splitRows 114 = .ok (.iload 6, 2) := by decide +kernel
theorem dX8_splitRows_116 : decode cX8_splitRows 116 = .ok (.invokevirtual 377, 3) := by decide +kernel
theorem dX8_splitRows_119 : decode cX8_splitRows 119 = .ok (.astore 8, 2) := by decide +kernel
theorem dX8_splitRows_121 : decode cX8_splitRows 121 = .ok (.aload_n 1, 1) := by decide +kernel
theorem dX8_splitRows_122 : decode cX8_splitRows 122 = .ok (.dup, 1) := by decide +kernel
theorem dX8_splitRows_123 : decode cX8_splitRows 123 = .ok (.getfield 175, 3) := by decide +kernel
theorem dX8_splitRows_126 : decode cX8_splitRows 126 = .ok (.aload 7, 2) := by decide +kernel
theorem dX8_splitRows_128 : decode cX8_splitRows 128 = .ok (.invokevirtual 116, 3) := by decide +kernel
theorem dX8_splitRows_131 : decode cX8_splitRows 131 = .ok (.aload_n 0, 1) := by decide +kernel
theorem dX8_splitRows_132 : decode cX8_splitRows 132 = .ok (.getfield 363, 3) := by decide +kernel
theorem dX8_splitRows_135 : decode cX8_splitRows 135 = .ok (.invokestatic 155, 3) := by decide +kernel
theorem dX8_splitRows_138 : decode cX8_splitRows 138 = .ok (.iadd, 1) := by decide +kernel
theorem dX8_splitRows_139 : decode cX8_splitRows 139 = .ok (.putfield 175, 3) := by decide +kernel
theorem dX8_splitRows_142 : decode cX8_splitRows 142 = .ok (.aload_n 1, 1) := by decide +kernel
theorem dX8_splitRows_143 : decode cX8_splitRows 143 = .ok (.dup, 1) := by decide +kernel
theorem dX8_splitRows_144 : decode cX8_splitRows 144 = .ok (.getfield 175, 3) := by decide +kernel
theorem dX8_splitRows_147 : decode cX8_splitRows 147 = .ok (.aload 8, 2) := by decide +kernel
theorem dX8_splitRows_149 : decode cX8_splitRows 149 = .ok (.invokevirtual 116, 3) := by decide +kernel
theorem dX8_splitRows_152 : decode cX8_splitRows 152 = .ok (.aload_n 0, 1) := by decide +kernel
theorem dX8_splitRows_153 : decode cX8_splitRows 153 = .ok (.getfield 363, 3) := by decide +kernel
theorem dX8_splitRows_156 : decode cX8_splitRows 156 = .ok (.invokestatic 155, 3) := by decide +kernel
theorem dX8_splitRows_159 : decode cX8_splitRows 159 = .ok (.iadd, 1) := by decide +kernel
theorem dX8_splitRows_160 : decode cX8_splitRows 160 = .ok (.putfield 175, 3) := by decide +kernel
theorem dX8_splitRows_163 : decode cX8_splitRows 163 = .ok (.aload_n 0, 1) := by decide +kernel
theorem dX8_splitRows_164 : decode cX8_splitRows 164 = .ok (.aload_n 1, 1) := by decide +kernel
theorem dX8_splitRows_165 : decode cX8_splitRows 165 = .ok (.aload 7, 2) := by decide +kernel
theorem dX8_splitRows_167 : decode cX8_splitRows 167 = .ok (.aload 8, 2) := by decide +kernel
theorem dX8_splitRows_169 : decode cX8_splitRows 169 = .ok (.iload 4, 2) := by decide +kernel
theorem dX8_splitRows_171 : decode cX8_splitRows 171 = .ok (.iconst 1, 1) := by decide +kernel
theorem dX8_splitRows_172 : decode cX8_splitRows 172 = .ok (.iadd, 1) := by decide +kernel
theorem dX8_splitRows_173 : decode cX8_splitRows 173 = .ok (.invokestatic 365, 3) := by decide +kernel
theorem dX8_splitRows_176 : decode cX8_splitRows 176 = .ok (.iinc 6 1, 3) := by decide +kernel
theorem dX8_splitRows_179 : decode cX8_splitRows 179 = .ok (.goto (-87), 3) := by decide +kernel
theorem dX8_splitRows_182 : decode cX8_splitRows 182 = .ok (.return_, 1) := by decide +kernel
theorem dX8_pairByParts_0 : decode cX8_pairByParts 0 = .ok (.iconst 1, 1) := by decide +kernel
theorem dX8_pairByParts_1 : decode cX8_pairByParts 1 = .ok (.aload_n 0, 1) := by decide +kernel
theorem dX8_pairByParts_2 : decode cX8_pairByParts 2 = .ok (.getfield 364, 3) := by decide +kernel
theorem dX8_pairByParts_5 : decode cX8_pairByParts 5 = .ok (.iconst 2, 1) := by decide +kernel
theorem dX8_pairByParts_6 : decode cX8_pairByParts 6 = .ok (.isub, 1) := by decide +kernel
theorem dX8_pairByParts_7 : decode cX8_pairByParts 7 = .ok (.aload_n 0, 1) := by decide +kernel
theorem dX8_pairByParts_8 : decode cX8_pairByParts 8 = .ok (.getfield 363, 3) := by decide +kernel
theorem dX8_pairByParts_11 : decode cX8_pairByParts 11 = .ok (.imul, 1) := by decide +kernel
theorem dX8_pairByParts_12 : decode cX8_pairByParts 12 = .ok (.invokestatic 380, 3) := by decide +kernel
theorem dX8_pairByParts_15 : decode cX8_pairByParts 15 = .ok (.istore 4, 2) := by decide +kernel
theorem dX8_pairByParts_17 : decode cX8_pairByParts 17 = .ok (.iconst 0, 1) := by decide +kernel
theorem dX8_pairByParts_18 : decode cX8_pairByParts 18 = .ok (.istore 5, 2) := by decide +kernel
theorem dX8_pairByParts_20 : decode cX8_pairByParts 20 = .ok (.iload 5, 2) := by decide +kernel
theorem dX8_pairByParts_22 : decode cX8_pairByParts 22 = .ok (.aload_n 3, 1) := by decide +kernel
theorem dX8_pairByParts_23 : decode cX8_pairByParts 23 = .ok (.invokevirtual 116, 3) := by decide +kernel
theorem dX8_pairByParts_26 : decode cX8_pairByParts 26 = .ok (.if_icmp .ge 120, 3) := by decide +kernel
theorem dX8_pairByParts_29 : decode cX8_pairByParts 29 = .ok (.iload 5, 2) := by decide +kernel
theorem dX8_pairByParts_31 : decode cX8_pairByParts 31 = .ok (.iload 4, 2) := by decide +kernel
theorem dX8_pairByParts_33 : decode cX8_pairByParts 33 = .ok (.iadd, 1) := by decide +kernel
theorem dX8_pairByParts_34 : decode cX8_pairByParts 34 = .ok (.aload_n 3, 1) := by decide +kernel
theorem dX8_pairByParts_35 : decode cX8_pairByParts 35 = .ok (.invokevirtual 116, 3) := by decide +kernel
theorem dX8_pairByParts_38 : decode cX8_pairByParts 38 = .ok (.invokestatic 383, 3) := by decide +kernel
theorem dX8_pairByParts_41 : decode cX8_pairByParts 41 = .ok (.istore 6, 2) := by decide +kernel
theorem dX8_pairByParts_43 : decode cX8_pairByParts 43 = .ok (.aload_n 1, 1) := by decide +kernel
theorem dX8_pairByParts_44 : decode cX8_pairByParts 44 = .ok (.dup, 1) := by decide +kernel
theorem dX8_pairByParts_45 : decode cX8_pairByParts 45 = .ok (.getfield 173, 3) := by decide +kernel
theorem dX8_pairByParts_48 : decode cX8_pairByParts 48 = .ok (.iload 6, 2) := by decide +kernel
theorem dX8_pairByParts_50 : decode cX8_pairByParts 50 = .ok (.iload 5, 2) := by decide +kernel
theorem dX8_pairByParts_52 : decode cX8_pairByParts 52 = .ok (.isub, 1) := by decide +kernel
theorem dX8_pairByParts_53 : decode cX8_pairByParts 53 = .ok (.aload_n 0, 1) := by decide +kernel
theorem dX8_pairByParts_54 : decode cX8_pairByParts 54 = .ok (.getfield 363, 3) := by decide +kernel
theorem dX8_pairByParts_57 : decode cX8_pairByParts 57 = .ok (.invokestatic 155, 3) := by decide +kernel
theorem dX8_pairByParts_60 : decode cX8_pairByParts 60 = .ok (.aload_n 2, 1) := by decide +kernel
theorem dX8_pairByParts_61 : decode cX8_pairByParts 61 = .ok (.invokevirtual 116, 3) := by decide +kernel
theorem dX8_pairByParts_64 : decode cX8_pairByParts 64 = .ok (.aload_n 0, 1) := by decide +kernel
theorem dX8_pairByParts_65 : decode cX8_pairByParts 65 = .ok (.getfield 363, 3) := by decide +kernel
theorem dX8_pairByParts_68 : decode cX8_pairByParts 68 = .ok (.invokestatic 155, 3) := by decide +kernel
theorem dX8_pairByParts_71 : decode cX8_pairByParts 71 = .ok (.iadd, 1) := by decide +kernel
theorem dX8_pairByParts_72 : decode cX8_pairByParts 72 = .ok (.iadd, 1) := by decide +kernel
theorem dX8_pairByParts_73 : decode cX8_pairByParts 73 = .ok (.putfield 173, 3) := by decide +kernel
theorem dX8_pairByParts_76 : decode cX8_pairByParts 76 = .ok (.iconst 0, 1) := by decide +kernel
theorem dX8_pairByParts_77 : decode cX8_pairByParts 77 = .ok (.istore 7, 2) := by decide +kernel
theorem dX8_pairByParts_79 : decode cX8_pairByParts 79 = .ok (.iload 7, 2) := by decide +kernel
theorem dX8_pairByParts_81 : decode cX8_pairByParts 81 = .ok (.aload_n 2, 1) := by decide +kernel
theorem dX8_pairByParts_82 : decode cX8_pairByParts 82 = .ok (.invokevirtual 116, 3) := by decide +kernel
theorem dX8_pairByParts_85 : decode cX8_pairByParts 85 = .ok (.if_icmp .ge 51, 3) := by decide +kernel
theorem dX8_pairByParts_88 : decode cX8_pairByParts 88 = .ok (.iload 5, 2) := by decide +kernel
theorem dX8_pairByParts_90 : decode cX8_pairByParts 90 = .ok (.istore 8, 2) := by decide +kernel
theorem dX8_pairByParts_92 : decode cX8_pairByParts 92 = .ok (.iload 8, 2) := by decide +kernel
theorem dX8_pairByParts_94 : decode cX8_pairByParts 94 = .ok (.iload 6, 2) := by decide +kernel
theorem dX8_pairByParts_96 : decode cX8_pairByParts 96 = .ok (.if_icmp .ge 34, 3) := by decide +kernel
theorem dX8_pairByParts_99 : decode cX8_pairByParts 99 = .ok (.aload_n 2, 1) := by decide +kernel
theorem dX8_pairByParts_100 : decode cX8_pairByParts 100 = .ok (.iload 7, 2) := by decide +kernel
theorem dX8_pairByParts_102 : decode cX8_pairByParts 102 = .ok (.invokevirtual 152, 3) := by decide +kernel
theorem dX8_pairByParts_105 : decode cX8_pairByParts 105 = .ok (.aload_n 3, 1) := by decide +kernel
theorem dX8_pairByParts_106 : decode cX8_pairByParts 106 = .ok (.iload 8, 2) := by decide +kernel
theorem dX8_pairByParts_108 : decode cX8_pairByParts 108 = .ok (.invokevirtual 152, 3) := by decide +kernel
theorem dX8_pairByParts_111 : decode cX8_pairByParts 111 = .ok (.if_icmp .ne 13, 3) := by decide +kernel
theorem dX8_pairByParts_114 : decode cX8_pairByParts 114 = .ok (.aload_n 1, 1) := by decide +kernel
theorem dX8_pairByParts_115 : decode cX8_pairByParts 115 = .ok (.aload_n 2, 1) := by decide +kernel
theorem dX8_pairByParts_116 : decode cX8_pairByParts 116 = .ok (.iload 7, 2) := by decide +kernel
theorem dX8_pairByParts_118 : decode cX8_pairByParts 118 = .ok (.aload_n 3, 1) := by decide +kernel
theorem dX8_pairByParts_119 : decode cX8_pairByParts 119 = .ok (.iload 8, 2) := by decide +kernel
theorem dX8_pairByParts_121 : decode cX8_pairByParts 121 = .ok (.invokevirtual 359, 3) := by decide +kernel
theorem dX8_pairByParts_124 : decode cX8_pairByParts 124 = .ok (.iinc 8 1, 3) := by decide +kernel
theorem dX8_pairByParts_127 : decode cX8_pairByParts 127 = .ok (.goto (-35), 3) := by decide +kernel
theorem dX8_pairByParts_130 : decode cX8_pairByParts 130 = .ok (.iinc 7 1, 3) := by decide +kernel
theorem dX8_pairByParts_133 : decode cX8_pairByParts 133 = .ok (.goto (-54), 3) := by decide +kernel
theorem dX8_pairByParts_136 : decode cX8_pairByParts 136 = .ok (.iload 5, 2) := by decide +kernel
theorem dX8_pairByParts_138 : decode cX8_pairByParts 138 = .ok (.iload 4, 2) := by decide +kernel
theorem dX8_pairByParts_140 : decode cX8_pairByParts 140 = .ok (.iadd, 1) := by decide +kernel
theorem dX8_pairByParts_141 : decode cX8_pairByParts 141 = .ok (.istore 5, 2) := by decide +kernel
theorem dX8_pairByParts_143 : decode cX8_pairByParts 143 = .ok (.goto (-123), 3) := by decide +kernel
theorem dX8_pairByParts_146 : decode cX8_pairByParts 146 = .ok (.return_, 1) := by decide +kernel
theorem dX8_giveGroups_0 : decode cX8_giveGroups 0 = .ok (.iconst 0, 1) := by decide +kernel
theorem dX8_giveGroups_1 : decode cX8_giveGroups 1 = .ok (.istore_n 3, 1) := by decide +kernel
theorem dX8_giveGroups_2 : decode cX8_giveGroups 2 = .ok (.iconst 0, 1) := by decide +kernel
theorem dX8_giveGroups_3 : decode cX8_giveGroups 3 = .ok (.istore 4, 2) := by decide +kernel
theorem dX8_giveGroups_5 : decode cX8_giveGroups 5 = .ok (.iload 4, 2) := by decide +kernel
theorem dX8_giveGroups_7 : decode cX8_giveGroups 7 = .ok (.aload_n 1, 1) := by decide +kernel
theorem dX8_giveGroups_8 : decode cX8_giveGroups 8 = .ok (.invokevirtual 116, 3) := by decide +kernel
theorem dX8_giveGroups_11 : decode cX8_giveGroups 11 = .ok (.if_icmp .ge 106, 3) := by decide +kernel
theorem dX8_giveGroups_14 : decode cX8_giveGroups 14 = .ok (.aload_n 1, 1) := by decide +kernel
theorem dX8_giveGroups_15 : decode cX8_giveGroups 15 = .ok (.iload 4, 2) := by decide +kernel
theorem dX8_giveGroups_17 : decode cX8_giveGroups 17 = .ok (.invokevirtual 152, 3) := by decide +kernel
theorem dX8_giveGroups_20 : decode cX8_giveGroups 20 = .ok (.istore 5, 2) := by decide +kernel
theorem dX8_giveGroups_22 : decode cX8_giveGroups 22 = .ok (.iload 4, 2) := by decide +kernel
theorem dX8_giveGroups_24 : decode cX8_giveGroups 24 = .ok (.ifCond .eq 16, 3) := by decide +kernel
theorem dX8_giveGroups_27 : decode cX8_giveGroups 27 = .ok (.aload_n 1, 1) := by decide +kernel
theorem dX8_giveGroups_28 : decode cX8_giveGroups 28 = .ok (.iload 4, 2) := by decide +kernel
theorem dX8_giveGroups_30 : decode cX8_giveGroups 30 = .ok (.iconst 1, 1) := by decide +kernel
theorem dX8_giveGroups_31 : decode cX8_giveGroups 31 = .ok (.isub, 1) := by decide +kernel
theorem dX8_giveGroups_32 : decode cX8_giveGroups 32 = .ok (.invokevirtual 152, 3) := by decide +kernel
theorem dX8_giveGroups_35 : decode cX8_giveGroups 35 = .ok (.iload 5, 2) := by decide +kernel
theorem dX8_giveGroups_37 : decode cX8_giveGroups 37 = .ok (.if_icmp .eq 7, 3) := by decide +kernel
theorem dX8_giveGroups_40 : decode cX8_giveGroups 40 = .ok (.iconst 1, 1) := by decide +kernel
theorem dX8_giveGroups_41 : decode cX8_giveGroups 41 = .ok (.goto 4, 3) := by decide +kernel
theorem dX8_giveGroups_44 : decode cX8_giveGroups 44 = .ok (.iconst 0, 1) := by decide +kernel
theorem dX8_giveGroups_45 : decode cX8_giveGroups 45 = .ok (.istore 6, 2) := by decide +kernel
theorem dX8_giveGroups_47 : decode cX8_giveGroups 47 = .ok (.iload 6, 2) := by decide +kernel
theorem dX8_giveGroups_49 : decode cX8_giveGroups 49 = .ok (.ifCond .eq 16, 3) := by decide +kernel
theorem dX8_giveGroups_52 : decode cX8_giveGroups 52 = .ok (.iload_n 2, 1) := by decide +kernel
theorem dX8_giveGroups_53 : decode cX8_giveGroups 53 = .ok (.aload_n 1, 1) := by decide +kernel
theorem dX8_giveGroups_54 : decode cX8_giveGroups 54 = .ok (.iload 4, 2) := by decide +kernel
theorem dX8_giveGroups_56 : decode cX8_giveGroups 56 = .ok (.invokevirtual 148, 3) := by decide +kernel
theorem dX8_giveGroups_59 : decode cX8_giveGroups 59 = .ok (.invokestatic 386, 3) := by decide +kernel
theorem dX8_giveGroups_62 : decode cX8_giveGroups 62 = .ok (.goto 14, 3) := by decide +kernel
theorem dX8_giveGroups_65 : decode cX8_giveGroups 65 = .ok (.iload_n 2, 1) := by decide +kernel
theorem dX8_giveGroups_66 : decode cX8_giveGroups 66 = .ok (.iload_n 3, 1) := by decide +kernel
theorem dX8_giveGroups_67 : decode cX8_giveGroups 67 = .ok (.aload_n 1, 1) := by decide +kernel
theorem dX8_giveGroups_68 : decode cX8_giveGroups 68 = .ok (.iload 4, 2) := by decide +kernel
theorem dX8_giveGroups_70 : decode cX8_giveGroups 70 = .ok (.invokevirtual 148, 3) := by decide +kernel
theorem dX8_giveGroups_73 : decode cX8_giveGroups 73 = .ok (.invokestatic 389, 3) := by decide +kernel
theorem dX8_giveGroups_76 : decode cX8_giveGroups 76 = .ok (.istore_n 3, 1) := by decide +kernel
theorem dX8_giveGroups_77 : decode cX8_giveGroups 77 = .ok (.aload_n 1, 1) := by decide +kernel
theorem dX8_giveGroups_78 : decode cX8_giveGroups 78 = .ok (.iload 4, 2) := by decide +kernel
theorem dX8_giveGroups_80 : decode cX8_giveGroups 80 = .ok (.iconst 1, 1) := by decide +kernel
theorem dX8_giveGroups_81 : decode cX8_giveGroups 81 = .ok (.iadd, 1) := by decide +kernel
theorem dX8_giveGroups_82 : decode cX8_giveGroups 82 = .ok (.invokevirtual 139, 3) := by decide +kernel
theorem dX8_giveGroups_85 : decode cX8_giveGroups 85 = .ok (.ifCond .eq 16, 3) := by decide +kernel
theorem dX8_giveGroups_88 : decode cX8_giveGroups 88 = .ok (.aload_n 1, 1) := by decide +kernel
theorem dX8_giveGroups_89 : decode cX8_giveGroups 89 = .ok (.iload 4, 2) := by decide +kernel
theorem dX8_giveGroups_91 : decode cX8_giveGroups 91 = .ok (.iconst 1, 1) := by decide +kernel
theorem dX8_giveGroups_92 : decode cX8_giveGroups 92 = .ok (.iadd, 1) := by decide +kernel
theorem dX8_giveGroups_93 : decode cX8_giveGroups 93 = .ok (.invokevirtual 152, 3) := by decide +kernel
theorem dX8_giveGroups_96 : decode cX8_giveGroups 96 = .ok (.iload 5, 2) := by decide +kernel
theorem dX8_giveGroups_98 : decode cX8_giveGroups 98 = .ok (.if_icmp .eq 13, 3) := by decide +kernel
theorem dX8_giveGroups_101 : decode cX8_giveGroups 101 = .ok (.aload_n 0, 1) := by decide +kernel
theorem dX8_giveGroups_102 : decode cX8_giveGroups 102 = .ok (.getfield 61, 3) := by decide +kernel
theorem dX8_giveGroups_105 : decode cX8_giveGroups 105 = .ok (.iload 5, 2) := by decide +kernel
theorem dX8_giveGroups_107 : decode cX8_giveGroups 107 = .ok (.iload_n 3, 1) := by decide +kernel
theorem dX8_giveGroups_108 : decode cX8_giveGroups 108 = .ok (.invokevirtual 347, 3) := by decide +kernel
theorem dX8_giveGroups_111 : decode cX8_giveGroups 111 = .ok (.iinc 4 1, 3) := by decide +kernel
theorem dX8_giveGroups_114 : decode cX8_giveGroups 114 = .ok (.goto (-109), 3) := by decide +kernel
theorem dX8_giveGroups_117 : decode cX8_giveGroups 117 = .ok (.return_, 1) := by decide +kernel
theorem dX8_startMark_0 : decode cX8_startMark 0 = .ok (.iload_n 0, 1) := by decide +kernel
theorem dX8_startMark_1 : decode cX8_startMark 1 = .ok (.ifCond .ne 7, 3) := by decide +kernel
theorem dX8_startMark_4 : decode cX8_startMark 4 = .ok (.iconst 1, 1) := by decide +kernel
theorem dX8_startMark_5 : decode cX8_startMark 5 = .ok (.goto 4, 3) := by decide +kernel
theorem dX8_startMark_8 : decode cX8_startMark 8 = .ok (.iload_n 1, 1) := by decide +kernel
theorem dX8_startMark_9 : decode cX8_startMark 9 = .ok (.ireturn, 1) := by decide +kernel
theorem dX8_moreMark_0 : decode cX8_moreMark 0 = .ok (.iload_n 0, 1) := by decide +kernel
theorem dX8_moreMark_1 : decode cX8_moreMark 1 = .ok (.tableswitch 45 0 2 #[27, 31, 39], 27) := by decide +kernel
theorem dX8_moreMark_28 : decode cX8_moreMark 28 = .ok (.iload_n 1, 1) := by decide +kernel
theorem dX8_moreMark_29 : decode cX8_moreMark 29 = .ok (.iconst 1, 1) := by decide +kernel
theorem dX8_moreMark_30 : decode cX8_moreMark 30 = .ok (.iadd, 1) := by decide +kernel
theorem dX8_moreMark_31 : decode cX8_moreMark 31 = .ok (.ireturn, 1) := by decide +kernel
theorem dX8_moreMark_32 : decode cX8_moreMark 32 = .ok (.iload_n 1, 1) := by decide +kernel
theorem dX8_moreMark_33 : decode cX8_moreMark 33 = .ok (.iload_n 2, 1) := by decide +kernel
theorem dX8_moreMark_34 : decode cX8_moreMark 34 = .ok (.iadd, 1) := by decide +kernel
theorem dX8_moreMark_35 : decode cX8_moreMark 35 = .ok (.sipush 10000, 3) := by decide +kernel
theorem dX8_moreMark_38 : decode cX8_moreMark 38 = .ok (.irem, 1) := by decide +kernel
theorem dX8_moreMark_39 : decode cX8_moreMark 39 = .ok (.ireturn, 1) := by decide +kernel
theorem dX8_moreMark_40 : decode cX8_moreMark 40 = .ok (.iload_n 1, 1) := by decide +kernel
theorem dX8_moreMark_41 : decode cX8_moreMark 41 = .ok (.iload_n 2, 1) := by decide +kernel
theorem dX8_moreMark_42 : decode cX8_moreMark 42 = .ok (.invokestatic 383, 3) := by decide +kernel
theorem dX8_moreMark_45 : decode cX8_moreMark 45 = .ok (.ireturn, 1) := by decide +kernel
theorem dX8_moreMark_46 : decode cX8_moreMark 46 = .ok (.iload_n 1, 1) := by decide +kernel
theorem dX8_moreMark_47 : decode cX8_moreMark 47 = .ok (.iload_n 2, 1) := by decide +kernel
theorem dX8_moreMark_48 : decode cX8_moreMark 48 = .ok (.invokestatic 380, 3) := by decide +kernel
theorem dX8_moreMark_51 : decode cX8_moreMark 51 = .ok (.ireturn, 1) := by decide +kernel
theorem dJ9_floorMod_7cf53_0 : decode cJ9_floorMod_7cf53 0 = .ok (.iload_n 0, 1) := by decide +kernel
theorem dJ9_floorMod_7cf53_1 : decode cJ9_floorMod_7cf53 1 = .ok (.iload_n 1, 1) := by decide +kernel
theorem dJ9_floorMod_7cf53_2 : decode cJ9_floorMod_7cf53 2 = .ok (.irem, 1) := by decide +kernel
theorem dJ9_floorMod_7cf53_3 : decode cJ9_floorMod_7cf53 3 = .ok (.istore_n 2, 1) := by decide +kernel
theorem dJ9_floorMod_7cf53_4 : decode cJ9_floorMod_7cf53 4 = .ok (.iload_n 0, 1) := by decide +kernel
theorem dJ9_floorMod_7cf53_5 : decode cJ9_floorMod_7cf53 5 = .ok (.iload_n 1, 1) := by decide +kernel
theorem dJ9_floorMod_7cf53_6 : decode cJ9_floorMod_7cf53 6 = .ok (.ixor, 1) := by decide +kernel
theorem dJ9_floorMod_7cf53_7 : decode cJ9_floorMod_7cf53 7 = .ok (.ifCond .ge 11, 3) := by decide +kernel
theorem dJ9_floorMod_7cf53_10 : decode cJ9_floorMod_7cf53 10 = .ok (.iload_n 2, 1) := by decide +kernel
theorem dJ9_floorMod_7cf53_11 : decode cJ9_floorMod_7cf53 11 = .ok (.ifCond .eq 7, 3) := by decide +kernel
theorem dJ9_floorMod_7cf53_14 : decode cJ9_floorMod_7cf53 14 = .ok (.iload_n 2, 1) := by decide +kernel
theorem dJ9_floorMod_7cf53_15 : decode cJ9_floorMod_7cf53 15 = .ok (.iload_n 1, 1) := by decide +kernel
theorem dJ9_floorMod_7cf53_16 : decode cJ9_floorMod_7cf53 16 = .ok (.iadd, 1) := by decide +kernel
theorem dJ9_floorMod_7cf53_17 : decode cJ9_floorMod_7cf53 17 = .ok (.ireturn, 1) := by decide +kernel
theorem dJ9_floorMod_7cf53_18 : decode cJ9_floorMod_7cf53 18 = .ok (.iload_n 2, 1) := by decide +kernel
theorem dJ9_floorMod_7cf53_19 : decode cJ9_floorMod_7cf53 19 = .ok (.ireturn, 1) := by decide +kernel
theorem dJ9_abs_0f7a4_0 : decode cJ9_abs_0f7a4 0 = .ok (.iload_n 0, 1) := by decide +kernel
theorem dJ9_abs_0f7a4_1 : decode cJ9_abs_0f7a4 1 = .ok (.ifCond .ge 8, 3) := by decide +kernel
theorem dJ9_abs_0f7a4_4 : decode cJ9_abs_0f7a4 4 = .ok (.iload_n 0, 1) := by decide +kernel
theorem dJ9_abs_0f7a4_5 : decode cJ9_abs_0f7a4 5 = .ok (.ineg, 1) := by decide +kernel
theorem dJ9_abs_0f7a4_6 : decode cJ9_abs_0f7a4 6 = .ok (.goto 4, 3) := by decide +kernel
theorem dJ9_abs_0f7a4_9 : decode cJ9_abs_0f7a4 9 = .ok (.iload_n 0, 1) := by decide +kernel
theorem dJ9_abs_0f7a4_10 : decode cJ9_abs_0f7a4 10 = .ok (.ireturn, 1) := by decide +kernel
theorem dJ9_max_7cf53_0 : decode cJ9_max_7cf53 0 = .ok (.iload_n 0, 1) := by decide +kernel
theorem dJ9_max_7cf53_1 : decode cJ9_max_7cf53 1 = .ok (.iload_n 1, 1) := by decide +kernel
theorem dJ9_max_7cf53_2 : decode cJ9_max_7cf53 2 = .ok (.if_icmp .lt 7, 3) := by decide +kernel
theorem dJ9_max_7cf53_5 : decode cJ9_max_7cf53 5 = .ok (.iload_n 0, 1) := by decide +kernel
theorem dJ9_max_7cf53_6 : decode cJ9_max_7cf53 6 = .ok (.goto 4, 3) := by decide +kernel
theorem dJ9_max_7cf53_9 : decode cJ9_max_7cf53 9 = .ok (.iload_n 1, 1) := by decide +kernel
theorem dJ9_max_7cf53_10 : decode cJ9_max_7cf53 10 = .ok (.ireturn, 1) := by decide +kernel
theorem dJ9_min_7cf53_0 : decode cJ9_min_7cf53 0 = .ok (.iload_n 0, 1) := by decide +kernel
theorem dJ9_min_7cf53_1 : decode cJ9_min_7cf53 1 = .ok (.iload_n 1, 1) := by decide +kernel
theorem dJ9_min_7cf53_2 : decode cJ9_min_7cf53 2 = .ok (.if_icmp .gt 7, 3) := by decide +kernel
theorem dJ9_min_7cf53_5 : decode cJ9_min_7cf53 5 = .ok (.iload_n 0, 1) := by decide +kernel
theorem dJ9_min_7cf53_6 : decode cJ9_min_7cf53 6 = .ok (.goto 4, 3) := by decide +kernel
theorem dJ9_min_7cf53_9 : decode cJ9_min_7cf53 9 = .ok (.iload_n 1, 1) := by decide +kernel
theorem dJ9_min_7cf53_10 : decode cJ9_min_7cf53 10 = .ok (.ireturn, 1) := by decide +kernel
theorem dL_below_0 : decode cL_below 0 = .ok (.iload_n 0, 1) := by decide +kernel
theorem dL_below_1 : decode cL_below 1 = .ok (.ldc 7, 2) := by decide +kernel
theorem dL_below_3 : decode cL_below 3 = .ok (.iand, 1) := by decide +kernel
theorem dL_below_4 : decode cL_below 4 = .ok (.iload_n 1, 1) := by decide +kernel
theorem dL_below_5 : decode cL_below 5 = .ok (.irem, 1) := by decide +kernel
theorem dL_below_6 : decode cL_below 6 = .ok (.ireturn, 1) := by decide +kernel
theorem dL_cell_0 : decode cL_cell 0 = .ok (.iload_n 1, 1) := by decide +kernel
theorem dL_cell_1 : decode cL_cell 1 = .ok (.aload_n 0, 1) := by decide +kernel
theorem dL_cell_2 : decode cL_cell 2 = .ok (.arraylength, 1) := by decide +kernel
theorem dL_cell_3 : decode cL_cell 3 = .ok (.if_icmp .ge 9, 3) := by decide +kernel
theorem dL_cell_6 : decode cL_cell 6 = .ok (.aload_n 0, 1) := by decide +kernel
theorem dL_cell_7 : decode cL_cell 7 = .ok (.iload_n 1, 1) := by decide +kernel
theorem dL_cell_8 : decode cL_cell 8 = .ok (.iaload, 1) := by decide +kernel
theorem dL_cell_9 : decode cL_cell 9 = .ok (.goto 9, 3) := by decide +kernel
theorem dL_cell_12 : decode cL_cell 12 = .ok (.ldc 8, 2) := by decide +kernel
theorem dL_cell_14 : decode cL_cell 14 = .ok (.iload_n 1, 1) := by decide +kernel
theorem dL_cell_15 : decode cL_cell 15 = .ok (.iconst 3, 1) := by decide +kernel
theorem dL_cell_16 : decode cL_cell 16 = .ok (.iadd, 1) := by decide +kernel
theorem dL_cell_17 : decode cL_cell 17 = .ok (.imul, 1) := by decide +kernel
theorem dL_cell_18 : decode cL_cell 18 = .ok (.ireturn, 1) := by decide +kernel
theorem dL_isSame_0 : decode cL_isSame 0 = .ok (.aload_n 0, 1) := by decide +kernel
theorem dL_isSame_1 : decode cL_isSame 1 = .ok (.iload_n 1, 1) := by decide +kernel
theorem dL_isSame_2 : decode cL_isSame 2 = .ok (.invokevirtual 9, 3) := by decide +kernel
theorem dL_isSame_5 : decode cL_isSame 5 = .ok (.aload_n 0, 1) := by decide +kernel
theorem dL_isSame_6 : decode cL_isSame 6 = .ok (.iload_n 2, 1) := by decide +kernel
theorem dL_isSame_7 : decode cL_isSame 7 = .ok (.invokevirtual 9, 3) := by decide +kernel
theorem dL_isSame_10 : decode cL_isSame 10 = .ok (.if_icmp .eq 5, 3) := by decide +kernel
theorem dL_isSame_13 : decode cL_isSame 13 = .ok (.iconst 0, 1) := by decide +kernel
theorem dL_isSame_14 : decode cL_isSame 14 = .ok (.ireturn, 1) := by decide +kernel
theorem dL_isSame_15 : decode cL_isSame 15 = .ok (.iconst 0, 1) := by decide +kernel
theorem dL_isSame_16 : decode cL_isSame 16 = .ok (.istore_n 3, 1) := by decide +kernel
theorem dL_isSame_17 : decode cL_isSame 17 = .ok (.iload_n 3, 1) := by decide +kernel
theorem dL_isSame_18 : decode cL_isSame 18 = .ok (.aload_n 0, 1) := by decide +kernel
theorem dL_isSame_19 : decode cL_isSame 19 = .ok (.iload_n 1, 1) := by decide +kernel
theorem dL_isSame_20 : decode cL_isSame 20 = .ok (.invokevirtual 9, 3) := by decide +kernel
theorem dL_isSame_23 : decode cL_isSame 23 = .ok (.if_icmp .ge 45, 3) := by decide +kernel
theorem dL_isSame_26 : decode cL_isSame 26 = .ok (.aload_n 0, 1) := by decide +kernel
theorem dL_isSame_27 : decode cL_isSame 27 = .ok (.iload_n 1, 1) := by decide +kernel
theorem dL_isSame_28 : decode cL_isSame 28 = .ok (.iload_n 3, 1) := by decide +kernel
theorem dL_isSame_29 : decode cL_isSame 29 = .ok (.iconst 0, 1) := by decide +kernel
theorem dL_isSame_30 : decode cL_isSame 30 = .ok (.invokevirtual 15, 3) := by decide +kernel
theorem dL_isSame_33 : decode cL_isSame 33 = .ok (.aload_n 0, 1) := by decide +kernel
theorem dL_isSame_34 : decode cL_isSame 34 = .ok (.iload_n 2, 1) := by decide +kernel
theorem dL_isSame_35 : decode cL_isSame 35 = .ok (.iload_n 3, 1) := by decide +kernel
theorem dL_isSame_36 : decode cL_isSame 36 = .ok (.iconst 0, 1) := by decide +kernel
theorem dL_isSame_37 : decode cL_isSame 37 = .ok (.invokevirtual 15, 3) := by decide +kernel
theorem dL_isSame_40 : decode cL_isSame 40 = .ok (.if_icmp .ne 20, 3) := by decide +kernel
theorem dL_isSame_43 : decode cL_isSame 43 = .ok (.aload_n 0, 1) := by decide +kernel
theorem dL_isSame_44 : decode cL_isSame 44 = .ok (.iload_n 1, 1) := by decide +kernel
theorem dL_isSame_45 : decode cL_isSame 45 = .ok (.iload_n 3, 1) := by decide +kernel
theorem dL_isSame_46 : decode cL_isSame 46 = .ok (.iconst 1, 1) := by decide +kernel
theorem dL_isSame_47 : decode cL_isSame 47 = .ok (.invokevirtual 15, 3) := by decide +kernel
theorem dL_isSame_50 : decode cL_isSame 50 = .ok (.aload_n 0, 1) := by decide +kernel
theorem dL_isSame_51 : decode cL_isSame 51 = .ok (.iload_n 2, 1) := by decide +kernel
theorem dL_isSame_52 : decode cL_isSame 52 = .ok (.iload_n 3, 1) := by decide +kernel
theorem dL_isSame_53 : decode cL_isSame 53 = .ok (.iconst 1, 1) := by decide +kernel
theorem dL_isSame_54 : decode cL_isSame 54 = .ok (.invokevirtual 15, 3) := by decide +kernel
theorem dL_isSame_57 : decode cL_isSame 57 = .ok (.if_icmp .eq 5, 3) := by decide +kernel
theorem dL_isSame_60 : decode cL_isSame 60 = .ok (.iconst 0, 1) := by decide +kernel
theorem dL_isSame_61 : decode cL_isSame 61 = .ok (.ireturn, 1) := by decide +kernel
theorem dL_isSame_62 : decode cL_isSame 62 = .ok (.iinc 3 1, 3) := by decide +kernel
theorem dL_isSame_65 : decode cL_isSame 65 = .ok (.goto (-48), 3) := by decide +kernel
theorem dL_isSame_68 : decode cL_isSame 68 = .ok (.iconst 1, 1) := by decide +kernel
theorem dL_isSame_69 : decode cL_isSame 69 = .ok (.ireturn, 1) := by decide +kernel
end
section
-- the decode rows of the law's body, part 0
theorem dL_law_0 : decode cL_law 0 = .ok (.new 10, 3) := by decide +kernel
theorem dL_law_3 : decode cL_law 3 = .ok (.dup, 1) := by decide +kernel
theorem dL_law_4 : decode cL_law 4 = .ok (.invokespecial 19, 3) := by decide +kernel
theorem dL_law_7 : decode cL_law 7 = .ok (.astore_n 1, 1) := by decide +kernel
theorem dL_law_8 : decode cL_law 8 = .ok (.iconst 2, 1) := by decide +kernel
theorem dL_law_9 : decode cL_law 9 = .ok (.aload_n 0, 1) := by decide +kernel
theorem dL_law_10 : decode cL_law 10 = .ok (.iconst 0, 1) := by decide +kernel
theorem dL_law_11 : decode cL_law 11 = .ok (.invokestatic 20, 3) := by decide +kernel
theorem dL_law_14 : decode cL_law 14 = .ok (.iconst 4, 1) := by decide +kernel
theorem dL_law_15 : decode cL_law 15 = .ok (.invokestatic 26, 3) := by decide +kernel
theorem dL_law_18 : decode cL_law 18 = .ok (.iadd, 1) := by decide +kernel
theorem dL_law_19 : decode cL_law 19 = .ok (.istore_n 2, 1) := by decide +kernel
theorem dL_law_20 : decode cL_law 20 = .ok (.iconst 3, 1) := by decide +kernel
theorem dL_law_21 : decode cL_law 21 = .ok (.aload_n 0, 1) := by decide +kernel
theorem dL_law_22 : decode cL_law 22 = .ok (.iconst 1, 1) := by decide +kernel
theorem dL_law_23 : decode cL_law 23 = .ok (.invokestatic 20, 3) := by decide +kernel
theorem dL_law_26 : decode cL_law 26 = .ok (.iconst 4, 1) := by decide +kernel
theorem dL_law_27 : decode cL_law 27 = .ok (.invokestatic 26, 3) := by decide +kernel
theorem dL_law_30 : decode cL_law 30 = .ok (.iadd, 1) := by decide +kernel
theorem dL_law_31 : decode cL_law 31 = .ok (.istore_n 3, 1) := by decide +kernel
theorem dL_law_32 : decode cL_law 32 = .ok (.aload_n 1, 1) := by decide +kernel
theorem dL_law_33 : decode cL_law 33 = .ok (.iload_n 2, 1) := by decide +kernel
theorem dL_law_34 : decode cL_law 34 = .ok (.iload_n 3, 1) := by decide +kernel
theorem dL_law_35 : decode cL_law 35 = .ok (.invokevirtual 30, 3) := by decide +kernel
theorem dL_law_38 : decode cL_law 38 = .ok (.pop, 1) := by decide +kernel
theorem dL_law_39 : decode cL_law 39 = .ok (.aload_n 1, 1) := by decide +kernel
theorem dL_law_40 : decode cL_law 40 = .ok (.invokevirtual 33, 3) := by decide +kernel
theorem dL_law_43 : decode cL_law 43 = .ok (.pop, 1) := by decide +kernel
theorem dL_law_44 : decode cL_law 44 = .ok (.aload_n 1, 1) := by decide +kernel
theorem dL_law_45 : decode cL_law 45 = .ok (.invokevirtual 33, 3) := by decide +kernel
theorem dL_law_48 : decode cL_law 48 = .ok (.pop, 1) := by decide +kernel
theorem dL_law_49 : decode cL_law 49 = .ok (.aload_n 0, 1) := by decide +kernel
theorem dL_law_50 : decode cL_law 50 = .ok (.iconst 2, 1) := by decide +kernel
theorem dL_law_51 : decode cL_law 51 = .ok (.invokestatic 20, 3) := by decide +kernel
theorem dL_law_54 : decode cL_law 54 = .ok (.bipush 40, 2) := by decide +kernel
theorem dL_law_56 : decode cL_law 56 = .ok (.invokestatic 26, 3) := by decide +kernel
theorem dL_law_59 : decode cL_law 59 = .ok (.istore 4, 2) := by decide +kernel
theorem dL_law_61 : decode cL_law 61 = .ok (.iconst 0, 1) := by decide +kernel
theorem dL_law_62 : decode cL_law 62 = .ok (.istore 5, 2) := by decide +kernel
theorem dL_law_64 : decode cL_law 64 = .ok (.iload 5, 2) := by decide +kernel
theorem dL_law_66 : decode cL_law 66 = .ok (.iload 4, 2) := by decide +kernel
theorem dL_law_68 : decode cL_law 68 = .ok (.if_icmp .ge 42, 3) := by decide +kernel
theorem dL_law_71 : decode cL_law 71 = .ok (.aload_n 1, 1) := by decide +kernel
theorem dL_law_72 : decode cL_law 72 = .ok (.iconst 0, 1) := by decide +kernel
theorem dL_law_73 : decode cL_law 73 = .ok (.aload_n 0, 1) := by decide +kernel
theorem dL_law_74 : decode cL_law 74 = .ok (.iload 5, 2) := by decide +kernel
theorem dL_law_76 : decode cL_law 76 = .ok (.bipush 16, 2) := by decide +kernel
theorem dL_law_78 : decode cL_law 78 = .ok (.irem, 1) := by decide +kernel
theorem dL_law_79 : decode cL_law 79 = .ok (.invokestatic 20, 3) := by decide +kernel
theorem dL_law_82 : decode cL_law 82 = .ok (.iload 5, 2) := by decide +kernel
theorem dL_law_84 : decode cL_law 84 = .ok (.bipush 16, 2) := by decide +kernel
theorem dL_law_86 : decode cL_law 86 = .ok (.idiv, 1) := by decide +kernel
theorem dL_law_87 : decode cL_law 87 = .ok (.iconst 3, 1) := by decide +kernel
theorem dL_law_88 : decode cL_law 88 = .ok (.imul, 1) := by decide +kernel
theorem dL_law_89 : decode cL_law 89 = .ok (.ishr, 1) := by decide +kernel
theorem dL_law_90 : decode cL_law 90 = .ok (.bipush 40, 2) := by decide +kernel
theorem dL_law_92 : decode cL_law 92 = .ok (.invokestatic 26, 3) := by decide +kernel
theorem dL_law_95 : decode cL_law 95 = .ok (.bipush 15, 2) := by decide +kernel
theorem dL_law_97 : decode cL_law 97 = .ok (.isub, 1) := by decide +kernel
theorem dL_law_98 : decode cL_law 98 = .ok (.iload 5, 2) := by decide +kernel
theorem dL_law_100 : decode cL_law 100 = .ok (.invokevirtual 37, 3) := by decide +kernel
theorem dL_law_103 : decode cL_law 103 = .ok (.pop, 1) := by decide +kernel
theorem dL_law_104 : decode cL_law 104 = .ok (.iinc 5 1, 3) := by decide +kernel
theorem dL_law_107 : decode cL_law 107 = .ok (.goto (-43), 3) := by decide +kernel
theorem dL_law_110 : decode cL_law 110 = .ok (.aload_n 1, 1) := by decide +kernel
theorem dL_law_111 : decode cL_law 111 = .ok (.iconst 1, 1) := by decide +kernel
theorem dL_law_112 : decode cL_law 112 = .ok (.aload_n 0, 1) := by decide +kernel
theorem dL_law_113 : decode cL_law 113 = .ok (.iconst 3, 1) := by decide +kernel
theorem dL_law_114 : decode cL_law 114 = .ok (.invokestatic 20, 3) := by decide +kernel
theorem dL_law_117 : decode cL_law 117 = .ok (.bipush 30, 2) := by decide +kernel
theorem dL_law_119 : decode cL_law 119 = .ok (.invokestatic 26, 3) := by decide +kernel
theorem dL_law_122 : decode cL_law 122 = .ok (.aload_n 0, 1) := by decide +kernel
theorem dL_law_123 : decode cL_law 123 = .ok (.iconst 4, 1) := by decide +kernel
theorem dL_law_124 : decode cL_law 124 = .ok (.invokestatic 20, 3) := by decide +kernel
theorem dL_law_127 : decode cL_law 127 = .ok (.bipush 21, 2) := by decide +kernel
theorem dL_law_129 : decode cL_law 129 = .ok (.invokestatic 26, 3) := by decide +kernel
theorem dL_law_132 : decode cL_law 132 = .ok (.bipush 10, 2) := by decide +kernel
theorem dL_law_134 : decode cL_law 134 = .ok (.isub, 1) := by decide +kernel
theorem dL_law_135 : decode cL_law 135 = .ok (.iconst 1, 1) := by decide +kernel
theorem dL_law_136 : decode cL_law 136 = .ok (.aload_n 0, 1) := by decide +kernel
theorem dL_law_137 : decode cL_law 137 = .ok (.iconst 5, 1) := by decide +kernel
theorem dL_law_138 : decode cL_law 138 = .ok (.invokestatic 20, 3) := by decide +kernel
theorem dL_law_141 : decode cL_law 141 = .ok (.bipush 25, 2) := by decide +kernel
theorem dL_law_143 : decode cL_law 143 = .ok (.invokestatic 26, 3) := by decide +kernel
theorem dL_law_146 : decode cL_law 146 = .ok (.iadd, 1) := by decide +kernel
theorem dL_law_147 : decode cL_law 147 = .ok (.iconst 1, 1) := by decide +kernel
theorem dL_law_148 : decode cL_law 148 = .ok (.aload_n 0, 1) := by decide +kernel
theorem dL_law_149 : decode cL_law 149 = .ok (.bipush 6, 2) := by decide +kernel
theorem dL_law_151 : decode cL_law 151 = .ok (.invokestatic 20, 3) := by decide +kernel
theorem dL_law_154 : decode cL_law 154 = .ok (.bipush 20, 2) := by decide +kernel
theorem dL_law_156 : decode cL_law 156 = .ok (.invokestatic 26, 3) := by decide +kernel
theorem dL_law_159 : decode cL_law 159 = .ok (.iadd, 1) := by decide +kernel
theorem dL_law_160 : decode cL_law 160 = .ok (.invokevirtual 41, 3) := by decide +kernel
theorem dL_law_163 : decode cL_law 163 = .ok (.pop, 1) := by decide +kernel
theorem dL_law_164 : decode cL_law 164 = .ok (.aload_n 1, 1) := by decide +kernel
theorem dL_law_165 : decode cL_law 165 = .ok (.invokevirtual 45, 3) := by decide +kernel
theorem dL_law_168 : decode cL_law 168 = .ok (.lstore 5, 2) := by decide +kernel
theorem dL_law_170 : decode cL_law 170 = .ok (.iconst 0, 1) := by decide +kernel
theorem dL_law_171 : decode cL_law 171 = .ok (.istore 7, 2) := by decide +kernel
theorem dL_law_173 : decode cL_law 173 = .ok (.iload 7, 2) := by decide +kernel
theorem dL_law_175 : decode cL_law 175 = .ok (.iconst 4, 1) := by decide +kernel
theorem dL_law_176 : decode cL_law 176 = .ok (.if_icmp .ge 370, 3) := by decide +kernel
theorem dL_law_179 : decode cL_law 179 = .ok (.iload 7, 2) := by decide +kernel
theorem dL_law_181 : decode cL_law 181 = .ok (.iconst 2, 1) := by decide +kernel
theorem dL_law_182 : decode cL_law 182 = .ok (.irem, 1) := by decide +kernel
theorem dL_law_183 : decode cL_law 183 = .ok (.iconst 1, 1) := by decide +kernel
theorem dL_law_184 : decode cL_law 184 = .ok (.if_icmp .ne 7, 3) := by decide +kernel
theorem dL_law_187 : decode cL_law 187 = .ok (.iconst 1, 1) := by decide +kernel
theorem dL_law_188 : decode cL_law 188 = .ok (.goto 4, 3) := by decide +kernel
theorem dL_law_191 : decode cL_law 191 = .ok (.iconst 0, 1) := by decide +kernel
theorem dL_law_192 : decode cL_law 192 = .ok (.istore 8, 2) := by decide +kernel
theorem dL_law_194 : decode cL_law 194 = .ok (.iload 7, 2) := by decide +kernel
theorem dL_law_196 : decode cL_law 196 = .ok (.iconst 1, 1) := by decide +kernel
theorem dL_law_197 : decode cL_law 197 = .ok (.if_icmp .le 7, 3) := by decide +kernel
theorem dL_law_200 : decode cL_law 200 = .ok (.iconst 1, 1) := by decide +kernel
theorem dL_law_201 : decode cL_law 201 = .ok (.goto 4, 3) := by decide +kernel
theorem dL_law_204 : decode cL_law 204 = .ok (.iconst 0, 1) := by decide +kernel
theorem dL_law_205 : decode cL_law 205 = .ok (.istore 9, 2) := by decide +kernel
theorem dL_law_207 : decode cL_law 207 = .ok (.aload_n 1, 1) := by decide +kernel
theorem dL_law_208 : decode cL_law 208 = .ok (.iconst 0, 1) := by decide +kernel
theorem dL_law_209 : decode cL_law 209 = .ok (.iload 8, 2) := by decide +kernel
theorem dL_law_211 : decode cL_law 211 = .ok (.iload 9, 2) := by decide +kernel
theorem dL_law_213 : decode cL_law 213 = .ok (.iload_n 3, 1) := by decide +kernel
theorem dL_law_214 : decode cL_law 214 = .ok (.invokevirtual 49, 3) := by decide +kernel
theorem dL_law_217 : decode cL_law 217 = .ok (.istore 10, 2) := by decide +kernel
theorem dL_law_219 : decode cL_law 219 = .ok (.aload_n 1, 1) := by decide +kernel
theorem dL_law_220 : decode cL_law 220 = .ok (.invokevirtual 53, 3) := by decide +kernel
theorem dL_law_223 : decode cL_law 223 = .ok (.aload_n 1, 1) := by decide +kernel
theorem dL_law_224 : decode cL_law 224 = .ok (.invokevirtual 56, 3) := by decide +kernel
theorem dL_law_227 : decode cL_law 227 = .ok (.iadd, 1) := by decide +kernel
theorem dL_law_228 : decode cL_law 228 = .ok (.istore 11, 2) := by decide +kernel
theorem dL_law_230 : decode cL_law 230 = .ok (.aload_n 1, 1) := by decide +kernel
theorem dL_law_231 : decode cL_law 231 = .ok (.iconst 0, 1) := by decide +kernel
theorem dL_law_232 : decode cL_law 232 = .ok (.iload 8, 2) := by decide +kernel
theorem dL_law_234 : decode cL_law 234 = .ok (.iconst 1, 1) := by decide +kernel
theorem dL_law_235 : decode cL_law 235 = .ok (.invokevirtual 59, 3) := by decide +kernel
theorem dL_law_238 : decode cL_law 238 = .ok (.istore 12, 2) := by decide +kernel
theorem dL_law_240 : decode cL_law 240 = .ok (.iload 7, 2) := by decide +kernel
theorem dL_law_242 : decode cL_law 242 = .ok (.ifCond .ne 13, 3) := by decide +kernel
theorem dL_law_245 : decode cL_law 245 = .ok (.aload_n 1, 1) := by decide +kernel
theorem dL_law_246 : decode cL_law 246 = .ok (.invokevirtual 45, 3) := by decide +kernel
theorem dL_law_249 : decode cL_law 249 = .ok (.lload 5, 2) := by decide +kernel
theorem dL_law_251 : decode cL_law 251 = .ok (.lcmp, 1) := by decide +kernel
theorem dL_law_252 : decode cL_law 252 = .ok (.ifCond .ne 74, 3) := by decide +kernel
theorem dL_law_255 : decode cL_law 255 = .ok (.aload_n 1, 1) := by decide +kernel
theorem dL_law_256 : decode cL_law 256 = .ok (.iconst 0, 1) := by decide +kernel
theorem dL_law_257 : decode cL_law 257 = .ok (.iload 8, 2) := by decide +kernel
theorem dL_law_259 : decode cL_law 259 = .ok (.iload 9, 2) := by decide +kernel
theorem dL_law_261 : decode cL_law 261 = .ok (.iconst 0, 1) := by decide +kernel
theorem dL_law_262 : decode cL_law 262 = .ok (.invokevirtual 63, 3) := by decide +kernel
end
section
-- the decode rows of the law's body, part 1
theorem dL_law_265 : decode cL_law 265 = .ok (.iload 7, 2) := by decide +kernel
theorem dL_law_267 : decode cL_law 267 = .ok (.iconst 2, 1) := by decide +kernel
theorem dL_law_268 : decode cL_law 268 = .ok (.iadd, 1) := by decide +kernel
theorem dL_law_269 : decode cL_law 269 = .ok (.if_icmp .ne 57, 3) := by decide +kernel
theorem dL_law_272 : decode cL_law 272 = .ok (.aload_n 1, 1) := by decide +kernel
theorem dL_law_273 : decode cL_law 273 = .ok (.invokevirtual 53, 3) := by decide +kernel
theorem dL_law_276 : decode cL_law 276 = .ok (.aload_n 1, 1) := by decide +kernel
theorem dL_law_277 : decode cL_law 277 = .ok (.invokevirtual 56, 3) := by decide +kernel
theorem dL_law_280 : decode cL_law 280 = .ok (.iadd, 1) := by decide +kernel
theorem dL_law_281 : decode cL_law 281 = .ok (.iload 11, 2) := by decide +kernel
theorem dL_law_283 : decode cL_law 283 = .ok (.iload 10, 2) := by decide +kernel
theorem dL_law_285 : decode cL_law 285 = .ok (.iadd, 1) := by decide +kernel
theorem dL_law_286 : decode cL_law 286 = .ok (.if_icmp .ne 40, 3) := by decide +kernel
theorem dL_law_289 : decode cL_law 289 = .ok (.aload_n 1, 1) := by decide +kernel
theorem dL_law_290 : decode cL_law 290 = .ok (.iload 7, 2) := by decide +kernel
theorem dL_law_292 : decode cL_law 292 = .ok (.iconst 2, 1) := by decide +kernel
theorem dL_law_293 : decode cL_law 293 = .ok (.iadd, 1) := by decide +kernel
theorem dL_law_294 : decode cL_law 294 = .ok (.invokevirtual 67, 3) := by decide +kernel
theorem dL_law_297 : decode cL_law 297 = .ok (.iconst 2, 1) := by decide +kernel
theorem dL_law_298 : decode cL_law 298 = .ok (.irem, 1) := by decide +kernel
theorem dL_law_299 : decode cL_law 299 = .ok (.iconst 1, 1) := by decide +kernel
theorem dL_law_300 : decode cL_law 300 = .ok (.if_icmp .ne 26, 3) := by decide +kernel
theorem dL_law_303 : decode cL_law 303 = .ok (.aload_n 1, 1) := by decide +kernel
theorem dL_law_304 : decode cL_law 304 = .ok (.iload 7, 2) := by decide +kernel
theorem dL_law_306 : decode cL_law 306 = .ok (.iconst 2, 1) := by decide +kernel
theorem dL_law_307 : decode cL_law 307 = .ok (.iadd, 1) := by decide +kernel
theorem dL_law_308 : decode cL_law 308 = .ok (.invokevirtual 70, 3) := by decide +kernel
theorem dL_law_311 : decode cL_law 311 = .ok (.ifCond .ne 15, 3) := by decide +kernel
theorem dL_law_314 : decode cL_law 314 = .ok (.aload_n 1, 1) := by decide +kernel
theorem dL_law_315 : decode cL_law 315 = .ok (.iload 7, 2) := by decide +kernel
theorem dL_law_317 : decode cL_law 317 = .ok (.iconst 2, 1) := by decide +kernel
theorem dL_law_318 : decode cL_law 318 = .ok (.iadd, 1) := by decide +kernel
theorem dL_law_319 : decode cL_law 319 = .ok (.iconst 2, 1) := by decide +kernel
theorem dL_law_320 : decode cL_law 320 = .ok (.invokestatic 73, 3) := by decide +kernel
theorem dL_law_323 : decode cL_law 323 = .ok (.ifCond .ne 5, 3) := by decide +kernel
theorem dL_law_326 : decode cL_law 326 = .ok (.iconst 0, 1) := by decide +kernel
theorem dL_law_327 : decode cL_law 327 = .ok (.ireturn, 1) := by decide +kernel
theorem dL_law_328 : decode cL_law 328 = .ok (.iconst 0, 1) := by decide +kernel
theorem dL_law_329 : decode cL_law 329 = .ok (.istore 13, 2) := by decide +kernel
theorem dL_law_331 : decode cL_law 331 = .ok (.aload_n 1, 1) := by decide +kernel
theorem dL_law_332 : decode cL_law 332 = .ok (.invokevirtual 77, 3) := by decide +kernel
theorem dL_law_335 : decode cL_law 335 = .ok (.istore 14, 2) := by decide +kernel
theorem dL_law_337 : decode cL_law 337 = .ok (.iconst 0, 1) := by decide +kernel
theorem dL_law_338 : decode cL_law 338 = .ok (.istore 15, 2) := by decide +kernel
theorem dL_law_340 : decode cL_law 340 = .ok (.iload 15, 2) := by decide +kernel
theorem dL_law_342 : decode cL_law 342 = .ok (.iload 14, 2) := by decide +kernel
theorem dL_law_344 : decode cL_law 344 = .ok (.if_icmp .ge 53, 3) := by decide +kernel
theorem dL_law_347 : decode cL_law 347 = .ok (.aload_n 1, 1) := by decide +kernel
theorem dL_law_348 : decode cL_law 348 = .ok (.iload 15, 2) := by decide +kernel
theorem dL_law_350 : decode cL_law 350 = .ok (.invokevirtual 80, 3) := by decide +kernel
theorem dL_law_353 : decode cL_law 353 = .ok (.iconst 1, 1) := by decide +kernel
theorem dL_law_354 : decode cL_law 354 = .ok (.if_icmp .lt 24, 3) := by decide +kernel
theorem dL_law_357 : decode cL_law 357 = .ok (.iload 15, 2) := by decide +kernel
theorem dL_law_359 : decode cL_law 359 = .ok (.iconst 1, 1) := by decide +kernel
theorem dL_law_360 : decode cL_law 360 = .ok (.iadd, 1) := by decide +kernel
theorem dL_law_361 : decode cL_law 361 = .ok (.iload 14, 2) := by decide +kernel
theorem dL_law_363 : decode cL_law 363 = .ok (.if_icmp .ge 17, 3) := by decide +kernel
theorem dL_law_366 : decode cL_law 366 = .ok (.aload_n 1, 1) := by decide +kernel
theorem dL_law_367 : decode cL_law 367 = .ok (.iload 15, 2) := by decide +kernel
theorem dL_law_369 : decode cL_law 369 = .ok (.invokevirtual 80, 3) := by decide +kernel
theorem dL_law_372 : decode cL_law 372 = .ok (.iload_n 2, 1) := by decide +kernel
theorem dL_law_373 : decode cL_law 373 = .ok (.iload_n 3, 1) := by decide +kernel
theorem dL_law_374 : decode cL_law 374 = .ok (.imul, 1) := by decide +kernel
theorem dL_law_375 : decode cL_law 375 = .ok (.if_icmp .ge 5, 3) := by decide +kernel
theorem dL_law_378 : decode cL_law 378 = .ok (.iconst 0, 1) := by decide +kernel
theorem dL_law_379 : decode cL_law 379 = .ok (.ireturn, 1) := by decide +kernel
theorem dL_law_380 : decode cL_law 380 = .ok (.iload 13, 2) := by decide +kernel
theorem dL_law_382 : decode cL_law 382 = .ok (.aload_n 1, 1) := by decide +kernel
theorem dL_law_383 : decode cL_law 383 = .ok (.iload 15, 2) := by decide +kernel
theorem dL_law_385 : decode cL_law 385 = .ok (.invokevirtual 80, 3) := by decide +kernel
theorem dL_law_388 : decode cL_law 388 = .ok (.iadd, 1) := by decide +kernel
theorem dL_law_389 : decode cL_law 389 = .ok (.istore 13, 2) := by decide +kernel
theorem dL_law_391 : decode cL_law 391 = .ok (.iinc 15 1, 3) := by decide +kernel
theorem dL_law_394 : decode cL_law 394 = .ok (.goto (-54), 3) := by decide +kernel
theorem dL_law_397 : decode cL_law 397 = .ok (.iload 13, 2) := by decide +kernel
theorem dL_law_399 : decode cL_law 399 = .ok (.iload 4, 2) := by decide +kernel
theorem dL_law_401 : decode cL_law 401 = .ok (.if_icmp .ne 20, 3) := by decide +kernel
theorem dL_law_404 : decode cL_law 404 = .ok (.iload 14, 2) := by decide +kernel
theorem dL_law_406 : decode cL_law 406 = .ok (.iload 4, 2) := by decide +kernel
theorem dL_law_408 : decode cL_law 408 = .ok (.iload_n 2, 1) := by decide +kernel
theorem dL_law_409 : decode cL_law 409 = .ok (.iload_n 3, 1) := by decide +kernel
theorem dL_law_410 : decode cL_law 410 = .ok (.imul, 1) := by decide +kernel
theorem dL_law_411 : decode cL_law 411 = .ok (.iadd, 1) := by decide +kernel
theorem dL_law_412 : decode cL_law 412 = .ok (.iconst 1, 1) := by decide +kernel
theorem dL_law_413 : decode cL_law 413 = .ok (.isub, 1) := by decide +kernel
theorem dL_law_414 : decode cL_law 414 = .ok (.iload_n 2, 1) := by decide +kernel
theorem dL_law_415 : decode cL_law 415 = .ok (.iload_n 3, 1) := by decide +kernel
theorem dL_law_416 : decode cL_law 416 = .ok (.imul, 1) := by decide +kernel
theorem dL_law_417 : decode cL_law 417 = .ok (.idiv, 1) := by decide +kernel
theorem dL_law_418 : decode cL_law 418 = .ok (.if_icmp .le 5, 3) := by decide +kernel
theorem dL_law_421 : decode cL_law 421 = .ok (.iconst 0, 1) := by decide +kernel
theorem dL_law_422 : decode cL_law 422 = .ok (.ireturn, 1) := by decide +kernel
theorem dL_law_423 : decode cL_law 423 = .ok (.iconst 0, 1) := by decide +kernel
theorem dL_law_424 : decode cL_law 424 = .ok (.istore 15, 2) := by decide +kernel
theorem dL_law_426 : decode cL_law 426 = .ok (.iload 15, 2) := by decide +kernel
theorem dL_law_428 : decode cL_law 428 = .ok (.aload_n 1, 1) := by decide +kernel
theorem dL_law_429 : decode cL_law 429 = .ok (.invokevirtual 83, 3) := by decide +kernel
theorem dL_law_432 : decode cL_law 432 = .ok (.if_icmp .ge 49, 3) := by decide +kernel
theorem dL_law_435 : decode cL_law 435 = .ok (.aload_n 1, 1) := by decide +kernel
theorem dL_law_436 : decode cL_law 436 = .ok (.iload 15, 2) := by decide +kernel
theorem dL_law_438 : decode cL_law 438 = .ok (.iconst 0, 1) := by decide +kernel
theorem dL_law_439 : decode cL_law 439 = .ok (.invokevirtual 86, 3) := by decide +kernel
theorem dL_law_442 : decode cL_law 442 = .ok (.iconst 2, 1) := by decide +kernel
theorem dL_law_443 : decode cL_law 443 = .ok (.if_icmp .lt 16, 3) := by decide +kernel
theorem dL_law_446 : decode cL_law 446 = .ok (.aload_n 1, 1) := by decide +kernel
theorem dL_law_447 : decode cL_law 447 = .ok (.iload 15, 2) := by decide +kernel
theorem dL_law_449 : decode cL_law 449 = .ok (.iconst 0, 1) := by decide +kernel
theorem dL_law_450 : decode cL_law 450 = .ok (.invokevirtual 86, 3) := by decide +kernel
theorem dL_law_453 : decode cL_law 453 = .ok (.iload_n 3, 1) := by decide +kernel
theorem dL_law_454 : decode cL_law 454 = .ok (.iconst 1, 1) := by decide +kernel
theorem dL_law_455 : decode cL_law 455 = .ok (.isub, 1) := by decide +kernel
theorem dL_law_456 : decode cL_law 456 = .ok (.if_icmp .le 5, 3) := by decide +kernel
theorem dL_law_459 : decode cL_law 459 = .ok (.iconst 0, 1) := by decide +kernel
theorem dL_law_460 : decode cL_law 460 = .ok (.ireturn, 1) := by decide +kernel
theorem dL_law_461 : decode cL_law 461 = .ok (.iload 14, 2) := by decide +kernel
theorem dL_law_463 : decode cL_law 463 = .ok (.aload_n 1, 1) := by decide +kernel
theorem dL_law_464 : decode cL_law 464 = .ok (.iload 15, 2) := by decide +kernel
theorem dL_law_466 : decode cL_law 466 = .ok (.iconst 0, 1) := by decide +kernel
theorem dL_law_467 : decode cL_law 467 = .ok (.invokevirtual 86, 3) := by decide +kernel
theorem dL_law_470 : decode cL_law 470 = .ok (.iconst 1, 1) := by decide +kernel
theorem dL_law_471 : decode cL_law 471 = .ok (.isub, 1) := by decide +kernel
theorem dL_law_472 : decode cL_law 472 = .ok (.isub, 1) := by decide +kernel
theorem dL_law_473 : decode cL_law 473 = .ok (.istore 14, 2) := by decide +kernel
theorem dL_law_475 : decode cL_law 475 = .ok (.iinc 15 1, 3) := by decide +kernel
theorem dL_law_478 : decode cL_law 478 = .ok (.goto (-52), 3) := by decide +kernel
theorem dL_law_481 : decode cL_law 481 = .ok (.iload 14, 2) := by decide +kernel
theorem dL_law_483 : decode cL_law 483 = .ok (.iload 4, 2) := by decide +kernel
theorem dL_law_485 : decode cL_law 485 = .ok (.ifCond .ne 7, 3) := by decide +kernel
theorem dL_law_488 : decode cL_law 488 = .ok (.iconst 0, 1) := by decide +kernel
theorem dL_law_489 : decode cL_law 489 = .ok (.goto 4, 3) := by decide +kernel
theorem dL_law_492 : decode cL_law 492 = .ok (.iconst 1, 1) := by decide +kernel
theorem dL_law_493 : decode cL_law 493 = .ok (.if_icmp .ne 45, 3) := by decide +kernel
theorem dL_law_496 : decode cL_law 496 = .ok (.aload_n 1, 1) := by decide +kernel
theorem dL_law_497 : decode cL_law 497 = .ok (.invokevirtual 83, 3) := by decide +kernel
theorem dL_law_500 : decode cL_law 500 = .ok (.ifCond .le 19, 3) := by decide +kernel
theorem dL_law_503 : decode cL_law 503 = .ok (.aload_n 1, 1) := by decide +kernel
theorem dL_law_504 : decode cL_law 504 = .ok (.aload_n 1, 1) := by decide +kernel
theorem dL_law_505 : decode cL_law 505 = .ok (.invokevirtual 83, 3) := by decide +kernel
theorem dL_law_508 : decode cL_law 508 = .ok (.iconst 1, 1) := by decide +kernel
theorem dL_law_509 : decode cL_law 509 = .ok (.isub, 1) := by decide +kernel
theorem dL_law_510 : decode cL_law 510 = .ok (.iconst 1, 1) := by decide +kernel
theorem dL_law_511 : decode cL_law 511 = .ok (.invokevirtual 86, 3) := by decide +kernel
theorem dL_law_514 : decode cL_law 514 = .ok (.iload 4, 2) := by decide +kernel
theorem dL_law_516 : decode cL_law 516 = .ok (.if_icmp .ne 22, 3) := by decide +kernel
theorem dL_law_519 : decode cL_law 519 = .ok (.iload 9, 2) := by decide +kernel
theorem dL_law_521 : decode cL_law 521 = .ok (.ifCond .ne 19, 3) := by decide +kernel
theorem dL_law_524 : decode cL_law 524 = .ok (.aload_n 1, 1) := by decide +kernel
theorem dL_law_525 : decode cL_law 525 = .ok (.invokevirtual 83, 3) := by decide +kernel
theorem dL_law_528 : decode cL_law 528 = .ok (.iconst 1, 1) := by decide +kernel
theorem dL_law_529 : decode cL_law 529 = .ok (.if_icmp .gt 11, 3) := by decide +kernel
end
section
-- the decode rows of the law's body, part 2
theorem dL_law_532 : decode cL_law 532 = .ok (.iload 12, 2) := by decide +kernel
theorem dL_law_534 : decode cL_law 534 = .ok (.iload_n 3, 1) := by decide +kernel
theorem dL_law_535 : decode cL_law 535 = .ok (.if_icmp .le 5, 3) := by decide +kernel
theorem dL_law_538 : decode cL_law 538 = .ok (.iconst 0, 1) := by decide +kernel
theorem dL_law_539 : decode cL_law 539 = .ok (.ireturn, 1) := by decide +kernel
theorem dL_law_540 : decode cL_law 540 = .ok (.iinc 7 1, 3) := by decide +kernel
theorem dL_law_543 : decode cL_law 543 = .ok (.goto (-370), 3) := by decide +kernel
theorem dL_law_546 : decode cL_law 546 = .ok (.aload_n 1, 1) := by decide +kernel
theorem dL_law_547 : decode cL_law 547 = .ok (.iconst 1, 1) := by decide +kernel
theorem dL_law_548 : decode cL_law 548 = .ok (.iconst 0, 1) := by decide +kernel
theorem dL_law_549 : decode cL_law 549 = .ok (.iconst 0, 1) := by decide +kernel
theorem dL_law_550 : decode cL_law 550 = .ok (.iconst 0, 1) := by decide +kernel
theorem dL_law_551 : decode cL_law 551 = .ok (.invokevirtual 63, 3) := by decide +kernel
theorem dL_law_554 : decode cL_law 554 = .ok (.pop, 1) := by decide +kernel
theorem dL_law_555 : decode cL_law 555 = .ok (.aload_n 1, 1) := by decide +kernel
theorem dL_law_556 : decode cL_law 556 = .ok (.iconst 2, 1) := by decide +kernel
theorem dL_law_557 : decode cL_law 557 = .ok (.iconst 5, 1) := by decide +kernel
theorem dL_law_558 : decode cL_law 558 = .ok (.invokevirtual 89, 3) := by decide +kernel
theorem dL_law_561 : decode cL_law 561 = .ok (.istore 7, 2) := by decide +kernel
theorem dL_law_563 : decode cL_law 563 = .ok (.sipush (-1000), 3) := by decide +kernel
theorem dL_law_566 : decode cL_law 566 = .ok (.istore 8, 2) := by decide +kernel
theorem dL_law_568 : decode cL_law 568 = .ok (.iconst 0, 1) := by decide +kernel
theorem dL_law_569 : decode cL_law 569 = .ok (.istore 9, 2) := by decide +kernel
theorem dL_law_571 : decode cL_law 571 = .ok (.iload 7, 2) := by decide +kernel
theorem dL_law_573 : decode cL_law 573 = .ok (.bipush 8, 2) := by decide +kernel
theorem dL_law_575 : decode cL_law 575 = .ok (.if_icmp .ne 12, 3) := by decide +kernel
theorem dL_law_578 : decode cL_law 578 = .ok (.aload_n 1, 1) := by decide +kernel
theorem dL_law_579 : decode cL_law 579 = .ok (.invokevirtual 92, 3) := by decide +kernel
theorem dL_law_582 : decode cL_law 582 = .ok (.bipush 7, 2) := by decide +kernel
theorem dL_law_584 : decode cL_law 584 = .ok (.if_icmp .eq 5, 3) := by decide +kernel
theorem dL_law_587 : decode cL_law 587 = .ok (.iconst 0, 1) := by decide +kernel
theorem dL_law_588 : decode cL_law 588 = .ok (.ireturn, 1) := by decide +kernel
theorem dL_law_589 : decode cL_law 589 = .ok (.aload_n 1, 1) := by decide +kernel
theorem dL_law_590 : decode cL_law 590 = .ok (.invokevirtual 95, 3) := by decide +kernel
theorem dL_law_593 : decode cL_law 593 = .ok (.istore 10, 2) := by decide +kernel
theorem dL_law_595 : decode cL_law 595 = .ok (.iload 10, 2) := by decide +kernel
theorem dL_law_597 : decode cL_law 597 = .ok (.sipush 1000, 3) := by decide +kernel
theorem dL_law_600 : decode cL_law 600 = .ok (.if_icmp .ge 28, 3) := by decide +kernel
theorem dL_law_603 : decode cL_law 603 = .ok (.iload 10, 2) := by decide +kernel
theorem dL_law_605 : decode cL_law 605 = .ok (.iload 8, 2) := by decide +kernel
theorem dL_law_607 : decode cL_law 607 = .ok (.if_icmp .ge 5, 3) := by decide +kernel
theorem dL_law_610 : decode cL_law 610 = .ok (.iconst 0, 1) := by decide +kernel
theorem dL_law_611 : decode cL_law 611 = .ok (.ireturn, 1) := by decide +kernel
theorem dL_law_612 : decode cL_law 612 = .ok (.iload 10, 2) := by decide +kernel
theorem dL_law_614 : decode cL_law 614 = .ok (.istore 8, 2) := by decide +kernel
theorem dL_law_616 : decode cL_law 616 = .ok (.iinc 9 1, 3) := by decide +kernel
theorem dL_law_619 : decode cL_law 619 = .ok (.aload_n 1, 1) := by decide +kernel
theorem dL_law_620 : decode cL_law 620 = .ok (.invokevirtual 95, 3) := by decide +kernel
theorem dL_law_623 : decode cL_law 623 = .ok (.istore 10, 2) := by decide +kernel
theorem dL_law_625 : decode cL_law 625 = .ok (.goto (-30), 3) := by decide +kernel
theorem dL_law_628 : decode cL_law 628 = .ok (.iload 9, 2) := by decide +kernel
theorem dL_law_630 : decode cL_law 630 = .ok (.iconst 4, 1) := by decide +kernel
theorem dL_law_631 : decode cL_law 631 = .ok (.iload 4, 2) := by decide +kernel
theorem dL_law_633 : decode cL_law 633 = .ok (.imul, 1) := by decide +kernel
theorem dL_law_634 : decode cL_law 634 = .ok (.aload_n 1, 1) := by decide +kernel
theorem dL_law_635 : decode cL_law 635 = .ok (.bipush 6, 2) := by decide +kernel
theorem dL_law_637 : decode cL_law 637 = .ok (.invokevirtual 9, 3) := by decide +kernel
theorem dL_law_640 : decode cL_law 640 = .ok (.iadd, 1) := by decide +kernel
theorem dL_law_641 : decode cL_law 641 = .ok (.if_icmp .ne 17, 3) := by decide +kernel
theorem dL_law_644 : decode cL_law 644 = .ok (.aload_n 1, 1) := by decide +kernel
theorem dL_law_645 : decode cL_law 645 = .ok (.invokevirtual 92, 3) := by decide +kernel
theorem dL_law_648 : decode cL_law 648 = .ok (.bipush 7, 2) := by decide +kernel
theorem dL_law_650 : decode cL_law 650 = .ok (.iconst 3, 1) := by decide +kernel
theorem dL_law_651 : decode cL_law 651 = .ok (.iload 9, 2) := by decide +kernel
theorem dL_law_653 : decode cL_law 653 = .ok (.imul, 1) := by decide +kernel
theorem dL_law_654 : decode cL_law 654 = .ok (.iadd, 1) := by decide +kernel
theorem dL_law_655 : decode cL_law 655 = .ok (.if_icmp .eq 5, 3) := by decide +kernel
theorem dL_law_658 : decode cL_law 658 = .ok (.iconst 0, 1) := by decide +kernel
theorem dL_law_659 : decode cL_law 659 = .ok (.ireturn, 1) := by decide +kernel
theorem dL_law_660 : decode cL_law 660 = .ok (.iconst 0, 1) := by decide +kernel
theorem dL_law_661 : decode cL_law 661 = .ok (.istore 10, 2) := by decide +kernel
theorem dL_law_663 : decode cL_law 663 = .ok (.iconst 0, 1) := by decide +kernel
theorem dL_law_664 : decode cL_law 664 = .ok (.istore 11, 2) := by decide +kernel
theorem dL_law_666 : decode cL_law 666 = .ok (.iload 11, 2) := by decide +kernel
theorem dL_law_668 : decode cL_law 668 = .ok (.aload_n 1, 1) := by decide +kernel
theorem dL_law_669 : decode cL_law 669 = .ok (.iconst 2, 1) := by decide +kernel
theorem dL_law_670 : decode cL_law 670 = .ok (.invokevirtual 9, 3) := by decide +kernel
theorem dL_law_673 : decode cL_law 673 = .ok (.if_icmp .ge 59, 3) := by decide +kernel
theorem dL_law_676 : decode cL_law 676 = .ok (.iconst 0, 1) := by decide +kernel
theorem dL_law_677 : decode cL_law 677 = .ok (.istore 12, 2) := by decide +kernel
theorem dL_law_679 : decode cL_law 679 = .ok (.iload 12, 2) := by decide +kernel
theorem dL_law_681 : decode cL_law 681 = .ok (.aload_n 1, 1) := by decide +kernel
theorem dL_law_682 : decode cL_law 682 = .ok (.bipush 6, 2) := by decide +kernel
theorem dL_law_684 : decode cL_law 684 = .ok (.invokevirtual 9, 3) := by decide +kernel
theorem dL_law_687 : decode cL_law 687 = .ok (.if_icmp .ge 39, 3) := by decide +kernel
theorem dL_law_690 : decode cL_law 690 = .ok (.iload 10, 2) := by decide +kernel
theorem dL_law_692 : decode cL_law 692 = .ok (.aload_n 1, 1) := by decide +kernel
theorem dL_law_693 : decode cL_law 693 = .ok (.iconst 2, 1) := by decide +kernel
theorem dL_law_694 : decode cL_law 694 = .ok (.iload 11, 2) := by decide +kernel
theorem dL_law_696 : decode cL_law 696 = .ok (.iconst 0, 1) := by decide +kernel
theorem dL_law_697 : decode cL_law 697 = .ok (.invokevirtual 15, 3) := by decide +kernel
theorem dL_law_700 : decode cL_law 700 = .ok (.aload_n 1, 1) := by decide +kernel
theorem dL_law_701 : decode cL_law 701 = .ok (.bipush 6, 2) := by decide +kernel
theorem dL_law_703 : decode cL_law 703 = .ok (.iload 12, 2) := by decide +kernel
theorem dL_law_705 : decode cL_law 705 = .ok (.iconst 0, 1) := by decide +kernel
theorem dL_law_706 : decode cL_law 706 = .ok (.invokevirtual 15, 3) := by decide +kernel
theorem dL_law_709 : decode cL_law 709 = .ok (.if_icmp .ne 7, 3) := by decide +kernel
theorem dL_law_712 : decode cL_law 712 = .ok (.iconst 1, 1) := by decide +kernel
theorem dL_law_713 : decode cL_law 713 = .ok (.goto 4, 3) := by decide +kernel
theorem dL_law_716 : decode cL_law 716 = .ok (.iconst 0, 1) := by decide +kernel
theorem dL_law_717 : decode cL_law 717 = .ok (.iadd, 1) := by decide +kernel
theorem dL_law_718 : decode cL_law 718 = .ok (.istore 10, 2) := by decide +kernel
theorem dL_law_720 : decode cL_law 720 = .ok (.iinc 12 1, 3) := by decide +kernel
theorem dL_law_723 : decode cL_law 723 = .ok (.goto (-44), 3) := by decide +kernel
theorem dL_law_726 : decode cL_law 726 = .ok (.iinc 11 1, 3) := by decide +kernel
theorem dL_law_729 : decode cL_law 729 = .ok (.goto (-63), 3) := by decide +kernel
theorem dL_law_732 : decode cL_law 732 = .ok (.iload 10, 2) := by decide +kernel
theorem dL_law_734 : decode cL_law 734 = .ok (.bipush 120, 2) := by decide +kernel
theorem dL_law_736 : decode cL_law 736 = .ok (.if_icmp .gt 8, 3) := by decide +kernel
theorem dL_law_739 : decode cL_law 739 = .ok (.iload 4, 2) := by decide +kernel
theorem dL_law_741 : decode cL_law 741 = .ok (.ifCond .ne 20, 3) := by decide +kernel
theorem dL_law_744 : decode cL_law 744 = .ok (.aload_n 1, 1) := by decide +kernel
theorem dL_law_745 : decode cL_law 745 = .ok (.iconst 0, 1) := by decide +kernel
theorem dL_law_746 : decode cL_law 746 = .ok (.iconst 1, 1) := by decide +kernel
theorem dL_law_747 : decode cL_law 747 = .ok (.invokevirtual 98, 3) := by decide +kernel
theorem dL_law_750 : decode cL_law 750 = .ok (.dconst 0, 1) := by decide +kernel
theorem dL_law_751 : decode cL_law 751 = .ok (.dcmp .l, 1) := by decide +kernel
theorem dL_law_752 : decode cL_law 752 = .ok (.ifCond .lt 7, 3) := by decide +kernel
theorem dL_law_755 : decode cL_law 755 = .ok (.iconst 1, 1) := by decide +kernel
theorem dL_law_756 : decode cL_law 756 = .ok (.goto 4, 3) := by decide +kernel
theorem dL_law_759 : decode cL_law 759 = .ok (.iconst 0, 1) := by decide +kernel
theorem dL_law_760 : decode cL_law 760 = .ok (.ireturn, 1) := by decide +kernel
theorem dL_law_761 : decode cL_law 761 = .ok (.aload_n 1, 1) := by decide +kernel
theorem dL_law_762 : decode cL_law 762 = .ok (.iconst 0, 1) := by decide +kernel
theorem dL_law_763 : decode cL_law 763 = .ok (.iconst 1, 1) := by decide +kernel
theorem dL_law_764 : decode cL_law 764 = .ok (.invokevirtual 102, 3) := by decide +kernel
theorem dL_law_767 : decode cL_law 767 = .ok (.istore 11, 2) := by decide +kernel
theorem dL_law_769 : decode cL_law 769 = .ok (.aload_n 1, 1) := by decide +kernel
theorem dL_law_770 : decode cL_law 770 = .ok (.invokevirtual 53, 3) := by decide +kernel
theorem dL_law_773 : decode cL_law 773 = .ok (.aload_n 1, 1) := by decide +kernel
theorem dL_law_774 : decode cL_law 774 = .ok (.invokevirtual 56, 3) := by decide +kernel
theorem dL_law_777 : decode cL_law 777 = .ok (.iadd, 1) := by decide +kernel
theorem dL_law_778 : decode cL_law 778 = .ok (.istore 12, 2) := by decide +kernel
theorem dL_law_780 : decode cL_law 780 = .ok (.aload_n 1, 1) := by decide +kernel
theorem dL_law_781 : decode cL_law 781 = .ok (.iconst 0, 1) := by decide +kernel
theorem dL_law_782 : decode cL_law 782 = .ok (.iconst 1, 1) := by decide +kernel
theorem dL_law_783 : decode cL_law 783 = .ok (.invokevirtual 105, 3) := by decide +kernel
theorem dL_law_786 : decode cL_law 786 = .ok (.bipush 7, 2) := by decide +kernel
theorem dL_law_788 : decode cL_law 788 = .ok (.if_icmp .ne 82, 3) := by decide +kernel
theorem dL_law_791 : decode cL_law 791 = .ok (.aload_n 1, 1) := by decide +kernel
theorem dL_law_792 : decode cL_law 792 = .ok (.invokevirtual 53, 3) := by decide +kernel
theorem dL_law_795 : decode cL_law 795 = .ok (.aload_n 1, 1) := by decide +kernel
theorem dL_law_796 : decode cL_law 796 = .ok (.invokevirtual 56, 3) := by decide +kernel
theorem dL_law_799 : decode cL_law 799 = .ok (.iadd, 1) := by decide +kernel
theorem dL_law_800 : decode cL_law 800 = .ok (.iload 12, 2) := by decide +kernel
theorem dL_law_802 : decode cL_law 802 = .ok (.iload 11, 2) := by decide +kernel
theorem dL_law_804 : decode cL_law 804 = .ok (.iadd, 1) := by decide +kernel
theorem dL_law_805 : decode cL_law 805 = .ok (.if_icmp .ne 65, 3) := by decide +kernel
theorem dL_law_808 : decode cL_law 808 = .ok (.aload_n 1, 1) := by decide +kernel
theorem dL_law_809 : decode cL_law 809 = .ok (.iconst 2, 1) := by decide +kernel
end
section
-- the decode rows of the law's body, part 3
theorem dL_law_810 : decode cL_law 810 = .ok (.bipush 6, 2) := by decide +kernel
theorem dL_law_812 : decode cL_law 812 = .ok (.iconst 0, 1) := by decide +kernel
theorem dL_law_813 : decode cL_law 813 = .ok (.invokevirtual 108, 3) := by decide +kernel
theorem dL_law_816 : decode cL_law 816 = .ok (.bipush 8, 2) := by decide +kernel
theorem dL_law_818 : decode cL_law 818 = .ok (.if_icmp .ne 52, 3) := by decide +kernel
theorem dL_law_821 : decode cL_law 821 = .ok (.aload_n 1, 1) := by decide +kernel
theorem dL_law_822 : decode cL_law 822 = .ok (.bipush 7, 2) := by decide +kernel
theorem dL_law_824 : decode cL_law 824 = .ok (.invokevirtual 9, 3) := by decide +kernel
theorem dL_law_827 : decode cL_law 827 = .ok (.iload 10, 2) := by decide +kernel
theorem dL_law_829 : decode cL_law 829 = .ok (.if_icmp .ne 41, 3) := by decide +kernel
theorem dL_law_832 : decode cL_law 832 = .ok (.aload_n 1, 1) := by decide +kernel
theorem dL_law_833 : decode cL_law 833 = .ok (.bipush 8, 2) := by decide +kernel
theorem dL_law_835 : decode cL_law 835 = .ok (.invokevirtual 9, 3) := by decide +kernel
theorem dL_law_838 : decode cL_law 838 = .ok (.iload 10, 2) := by decide +kernel
theorem dL_law_840 : decode cL_law 840 = .ok (.if_icmp .ne 30, 3) := by decide +kernel
theorem dL_law_843 : decode cL_law 843 = .ok (.aload_n 1, 1) := by decide +kernel
theorem dL_law_844 : decode cL_law 844 = .ok (.bipush 8, 2) := by decide +kernel
theorem dL_law_846 : decode cL_law 846 = .ok (.invokevirtual 67, 3) := by decide +kernel
theorem dL_law_849 : decode cL_law 849 = .ok (.iconst 2, 1) := by decide +kernel
theorem dL_law_850 : decode cL_law 850 = .ok (.irem, 1) := by decide +kernel
theorem dL_law_851 : decode cL_law 851 = .ok (.iconst 1, 1) := by decide +kernel
theorem dL_law_852 : decode cL_law 852 = .ok (.if_icmp .ne 18, 3) := by decide +kernel
theorem dL_law_855 : decode cL_law 855 = .ok (.aload_n 1, 1) := by decide +kernel
theorem dL_law_856 : decode cL_law 856 = .ok (.bipush 7, 2) := by decide +kernel
theorem dL_law_858 : decode cL_law 858 = .ok (.invokevirtual 111, 3) := by decide +kernel
theorem dL_law_861 : decode cL_law 861 = .ok (.aload_n 1, 1) := by decide +kernel
theorem dL_law_862 : decode cL_law 862 = .ok (.bipush 8, 2) := by decide +kernel
theorem dL_law_864 : decode cL_law 864 = .ok (.invokevirtual 111, 3) := by decide +kernel
theorem dL_law_867 : decode cL_law 867 = .ok (.if_icmp .eq 5, 3) := by decide +kernel
theorem dL_law_870 : decode cL_law 870 = .ok (.iconst 0, 1) := by decide +kernel
theorem dL_law_871 : decode cL_law 871 = .ok (.ireturn, 1) := by decide +kernel
theorem dL_law_872 : decode cL_law 872 = .ok (.aload_n 1, 1) := by decide +kernel
theorem dL_law_873 : decode cL_law 873 = .ok (.iconst 2, 1) := by decide +kernel
theorem dL_law_874 : decode cL_law 874 = .ok (.bipush 6, 2) := by decide +kernel
theorem dL_law_876 : decode cL_law 876 = .ok (.iconst 2, 1) := by decide +kernel
theorem dL_law_877 : decode cL_law 877 = .ok (.invokevirtual 108, 3) := by decide +kernel
theorem dL_law_880 : decode cL_law 880 = .ok (.istore 13, 2) := by decide +kernel
theorem dL_law_882 : decode cL_law 882 = .ok (.aload_n 1, 1) := by decide +kernel
theorem dL_law_883 : decode cL_law 883 = .ok (.iconst 2, 1) := by decide +kernel
theorem dL_law_884 : decode cL_law 884 = .ok (.bipush 6, 2) := by decide +kernel
theorem dL_law_886 : decode cL_law 886 = .ok (.iconst 3, 1) := by decide +kernel
theorem dL_law_887 : decode cL_law 887 = .ok (.invokevirtual 108, 3) := by decide +kernel
theorem dL_law_890 : decode cL_law 890 = .ok (.istore 14, 2) := by decide +kernel
theorem dL_law_892 : decode cL_law 892 = .ok (.aload_n 1, 1) := by decide +kernel
theorem dL_law_893 : decode cL_law 893 = .ok (.iload 13, 2) := by decide +kernel
theorem dL_law_895 : decode cL_law 895 = .ok (.invokevirtual 9, 3) := by decide +kernel
theorem dL_law_898 : decode cL_law 898 = .ok (.aload_n 1, 1) := by decide +kernel
theorem dL_law_899 : decode cL_law 899 = .ok (.iload 14, 2) := by decide +kernel
theorem dL_law_901 : decode cL_law 901 = .ok (.invokevirtual 9, 3) := by decide +kernel
theorem dL_law_904 : decode cL_law 904 = .ok (.iadd, 1) := by decide +kernel
theorem dL_law_905 : decode cL_law 905 = .ok (.iload 4, 2) := by decide +kernel
theorem dL_law_907 : decode cL_law 907 = .ok (.if_icmp .ne 85, 3) := by decide +kernel
theorem dL_law_910 : decode cL_law 910 = .ok (.aload_n 1, 1) := by decide +kernel
theorem dL_law_911 : decode cL_law 911 = .ok (.iconst 2, 1) := by decide +kernel
theorem dL_law_912 : decode cL_law 912 = .ok (.bipush 6, 2) := by decide +kernel
theorem dL_law_914 : decode cL_law 914 = .ok (.invokevirtual 98, 3) := by decide +kernel
theorem dL_law_917 : decode cL_law 917 = .ok (.aload_n 1, 1) := by decide +kernel
theorem dL_law_918 : decode cL_law 918 = .ok (.iload 13, 2) := by decide +kernel
theorem dL_law_920 : decode cL_law 920 = .ok (.invokevirtual 9, 3) := by decide +kernel
theorem dL_law_923 : decode cL_law 923 = .ok (.i2d, 1) := by decide +kernel
theorem dL_law_924 : decode cL_law 924 = .ok (.iload 4, 2) := by decide +kernel
theorem dL_law_926 : decode cL_law 926 = .ok (.i2d, 1) := by decide +kernel
theorem dL_law_927 : decode cL_law 927 = .ok (.ddiv, 1) := by decide +kernel
theorem dL_law_928 : decode cL_law 928 = .ok (.dcmp .l, 1) := by decide +kernel
theorem dL_law_929 : decode cL_law 929 = .ok (.ifCond .ne 63, 3) := by decide +kernel
theorem dL_law_932 : decode cL_law 932 = .ok (.aload_n 1, 1) := by decide +kernel
theorem dL_law_933 : decode cL_law 933 = .ok (.iload 13, 2) := by decide +kernel
theorem dL_law_935 : decode cL_law 935 = .ok (.bipush 6, 2) := by decide +kernel
theorem dL_law_937 : decode cL_law 937 = .ok (.invokevirtual 98, 3) := by decide +kernel
theorem dL_law_940 : decode cL_law 940 = .ok (.aload_n 1, 1) := by decide +kernel
theorem dL_law_941 : decode cL_law 941 = .ok (.iload 13, 2) := by decide +kernel
theorem dL_law_943 : decode cL_law 943 = .ok (.invokevirtual 9, 3) := by decide +kernel
theorem dL_law_946 : decode cL_law 946 = .ok (.ifCond .le 7, 3) := by decide +kernel
theorem dL_law_949 : decode cL_law 949 = .ok (.dconst 1, 1) := by decide +kernel
theorem dL_law_950 : decode cL_law 950 = .ok (.goto 4, 3) := by decide +kernel
theorem dL_law_953 : decode cL_law 953 = .ok (.dconst 0, 1) := by decide +kernel
theorem dL_law_954 : decode cL_law 954 = .ok (.dcmp .g, 1) := by decide +kernel
theorem dL_law_955 : decode cL_law 955 = .ok (.ifCond .lt 37, 3) := by decide +kernel
theorem dL_law_958 : decode cL_law 958 = .ok (.aload_n 1, 1) := by decide +kernel
theorem dL_law_959 : decode cL_law 959 = .ok (.iload 14, 2) := by decide +kernel
theorem dL_law_961 : decode cL_law 961 = .ok (.bipush 6, 2) := by decide +kernel
theorem dL_law_963 : decode cL_law 963 = .ok (.invokevirtual 98, 3) := by decide +kernel
theorem dL_law_966 : decode cL_law 966 = .ok (.dconst 0, 1) := by decide +kernel
theorem dL_law_967 : decode cL_law 967 = .ok (.dcmp .l, 1) := by decide +kernel
theorem dL_law_968 : decode cL_law 968 = .ok (.ifCond .ne 24, 3) := by decide +kernel
theorem dL_law_971 : decode cL_law 971 = .ok (.aload_n 1, 1) := by decide +kernel
theorem dL_law_972 : decode cL_law 972 = .ok (.iload 13, 2) := by decide +kernel
theorem dL_law_974 : decode cL_law 974 = .ok (.invokevirtual 111, 3) := by decide +kernel
theorem dL_law_977 : decode cL_law 977 = .ok (.aload_n 1, 1) := by decide +kernel
theorem dL_law_978 : decode cL_law 978 = .ok (.iload 14, 2) := by decide +kernel
theorem dL_law_980 : decode cL_law 980 = .ok (.invokevirtual 111, 3) := by decide +kernel
theorem dL_law_983 : decode cL_law 983 = .ok (.iadd, 1) := by decide +kernel
theorem dL_law_984 : decode cL_law 984 = .ok (.aload_n 1, 1) := by decide +kernel
theorem dL_law_985 : decode cL_law 985 = .ok (.iconst 2, 1) := by decide +kernel
theorem dL_law_986 : decode cL_law 986 = .ok (.invokevirtual 111, 3) := by decide +kernel
theorem dL_law_989 : decode cL_law 989 = .ok (.if_icmp .eq 5, 3) := by decide +kernel
theorem dL_law_992 : decode cL_law 992 = .ok (.iconst 0, 1) := by decide +kernel
theorem dL_law_993 : decode cL_law 993 = .ok (.ireturn, 1) := by decide +kernel
theorem dL_law_994 : decode cL_law 994 = .ok (.aload_n 1, 1) := by decide +kernel
theorem dL_law_995 : decode cL_law 995 = .ok (.iconst 2, 1) := by decide +kernel
theorem dL_law_996 : decode cL_law 996 = .ok (.iconst 0, 1) := by decide +kernel
theorem dL_law_997 : decode cL_law 997 = .ok (.invokevirtual 114, 3) := by decide +kernel
theorem dL_law_1000 : decode cL_law 1000 = .ok (.istore 15, 2) := by decide +kernel
theorem dL_law_1002 : decode cL_law 1002 = .ok (.iconst 0, 1) := by decide +kernel
theorem dL_law_1003 : decode cL_law 1003 = .ok (.istore 16, 2) := by decide +kernel
theorem dL_law_1005 : decode cL_law 1005 = .ok (.iconst 0, 1) := by decide +kernel
theorem dL_law_1006 : decode cL_law 1006 = .ok (.istore 17, 2) := by decide +kernel
theorem dL_law_1008 : decode cL_law 1008 = .ok (.iload 17, 2) := by decide +kernel
theorem dL_law_1010 : decode cL_law 1010 = .ok (.aload_n 1, 1) := by decide +kernel
theorem dL_law_1011 : decode cL_law 1011 = .ok (.iload 15, 2) := by decide +kernel
theorem dL_law_1013 : decode cL_law 1013 = .ok (.invokevirtual 9, 3) := by decide +kernel
theorem dL_law_1016 : decode cL_law 1016 = .ok (.if_icmp .ge 23, 3) := by decide +kernel
theorem dL_law_1019 : decode cL_law 1019 = .ok (.iload 16, 2) := by decide +kernel
theorem dL_law_1021 : decode cL_law 1021 = .ok (.aload_n 1, 1) := by decide +kernel
theorem dL_law_1022 : decode cL_law 1022 = .ok (.iload 15, 2) := by decide +kernel
theorem dL_law_1024 : decode cL_law 1024 = .ok (.iload 17, 2) := by decide +kernel
theorem dL_law_1026 : decode cL_law 1026 = .ok (.iconst 1, 1) := by decide +kernel
theorem dL_law_1027 : decode cL_law 1027 = .ok (.invokevirtual 15, 3) := by decide +kernel
theorem dL_law_1030 : decode cL_law 1030 = .ok (.iadd, 1) := by decide +kernel
theorem dL_law_1031 : decode cL_law 1031 = .ok (.istore 16, 2) := by decide +kernel
theorem dL_law_1033 : decode cL_law 1033 = .ok (.iinc 17 1, 3) := by decide +kernel
theorem dL_law_1036 : decode cL_law 1036 = .ok (.goto (-28), 3) := by decide +kernel
theorem dL_law_1039 : decode cL_law 1039 = .ok (.aload_n 1, 1) := by decide +kernel
theorem dL_law_1040 : decode cL_law 1040 = .ok (.iload 15, 2) := by decide +kernel
theorem dL_law_1042 : decode cL_law 1042 = .ok (.invokevirtual 9, 3) := by decide +kernel
theorem dL_law_1045 : decode cL_law 1045 = .ok (.aload_n 1, 1) := by decide +kernel
theorem dL_law_1046 : decode cL_law 1046 = .ok (.iconst 0, 1) := by decide +kernel
theorem dL_law_1047 : decode cL_law 1047 = .ok (.invokevirtual 111, 3) := by decide +kernel
theorem dL_law_1050 : decode cL_law 1050 = .ok (.if_icmp .ne 26, 3) := by decide +kernel
theorem dL_law_1053 : decode cL_law 1053 = .ok (.iload 16, 2) := by decide +kernel
theorem dL_law_1055 : decode cL_law 1055 = .ok (.iload 4, 2) := by decide +kernel
theorem dL_law_1057 : decode cL_law 1057 = .ok (.if_icmp .ne 19, 3) := by decide +kernel
theorem dL_law_1060 : decode cL_law 1060 = .ok (.aload_n 1, 1) := by decide +kernel
theorem dL_law_1061 : decode cL_law 1061 = .ok (.iload 15, 2) := by decide +kernel
theorem dL_law_1063 : decode cL_law 1063 = .ok (.invokevirtual 67, 3) := by decide +kernel
theorem dL_law_1066 : decode cL_law 1066 = .ok (.iconst 2, 1) := by decide +kernel
theorem dL_law_1067 : decode cL_law 1067 = .ok (.irem, 1) := by decide +kernel
theorem dL_law_1068 : decode cL_law 1068 = .ok (.iconst 1, 1) := by decide +kernel
theorem dL_law_1069 : decode cL_law 1069 = .ok (.if_icmp .ne 7, 3) := by decide +kernel
theorem dL_law_1072 : decode cL_law 1072 = .ok (.iconst 1, 1) := by decide +kernel
theorem dL_law_1073 : decode cL_law 1073 = .ok (.goto 4, 3) := by decide +kernel
theorem dL_law_1076 : decode cL_law 1076 = .ok (.iconst 0, 1) := by decide +kernel
theorem dL_law_1077 : decode cL_law 1077 = .ok (.ireturn, 1) := by decide +kernel
end
section
/-! The world of one MoraineSort: 97 cells, told by their numbers; what changes in them is a table of integers.
numbers: 3r, 3r+1, 3r+2: row r (0..11 the files, 12 the outcome's, 13..15 and 16..18 those of the splitting, 19 its spare one), its keys, its marks;
60+2n, 61+2n: list n (4p .. 4p+3: run sizes, merge runs, merge sizes, row of plan p), its values; 76+2h, 77+2h: heap h (p: of plan p; 2: the sorter's own);
82+p: plan p (0 latest, 1 trial); 84..88: tournament, its rows, places, losers, winners; 89 outcome; 90..92 splitting, ones, others; 93, 94 key set, its words; 95 the sorter, 96 its files -/
abbrev vwCl : List vw_C := [(RX0, TX0, 2), (RX1, TX1, 1), (RX2, TX2, 2), (RX3, TX3, 5), (RX4, TX4, 8), (RX5, TX5, 3), (RX6, TX6, 5), (RX7, TX7, 10), (RX8, TX8, 14)]
abbrev zM : Type := Nat → Nat → Int
def jI (x : Int) : Int32 := Int32.ofInt x
def jL (x : Int) : Int64 := Int64.ofInt x
/-- one place of the table set -/
def zu (M : zM) (o k : Nat) (v : Int) : zM := va_up M o (va_up (M o) k v)
theorem zu_s (M : zM) (o k : Nat) (v : Int) : zu M o k v o k = v := by simp [zu, va_up]
theorem zu_k (M : zM) (o k : Nat) (v : Int) {k' : Nat} (h : k' ≠ k) : zu M o k v o k' = M o k' := by simp [zu, va_up, h]
theorem zu_o (M : zM) (o k : Nat) (v : Int) {o' : Nat} (h : o' ≠ o) : zu M o k v o' = M o' := by simp [zu, va_up, h]
theorem zu_at (M : zM) (o k : Nat) (v : Int) (o' k' : Nat) : zu M o k v o' k' = if o' = o ∧ k' = k then v else M o' k' := by
  by_cases h : o' = o
  · subst h
    by_cases h2 : k' = k
    · subst h2; simp [zu_s]
    · simp [zu_k _ _ _ _ h2, h2]
  · simp [zu_o _ _ _ _ h, h]
def z_rw (ad : Nat → Nat) (x : Int) : Option Nat := if x < 0 then none else some (ad (3 * x.toNat))
def z_e (ad : Nat → Nat) (cI cJ cO : ClassId) (o : Nat) (m : Nat → Int) : va_E :=
  if o < 60 then
    if o % 3 = 0 then .inr (5, [.ref (ad (o + 1)), .ref (ad (o + 2)), .int (jI (m 2))])
    else .inl (cI, 120, .inl (fun j => jI (m j)))
  else if o < 76 then
    if o % 2 = 0 then .inr (2, [.ref (ad (o + 1)), .int (jI (m 1))])
    else .inl (cI, 120, .inl (fun j => jI (m j)))
  else if o < 82 then
    if o % 2 = 0 then .inr (0, [.ref (ad (o + 1)), .int (jI (m 1))])
    else .inl (cI, 120, .inl (fun j => jI (m j)))
  else if o < 84 then
    .inr (4, [.ref (ad (60 + 2 * (4 * (o - 82)))), .ref (ad (60 + 2 * (4 * (o - 82) + 1))), .ref (ad (60 + 2 * (4 * (o - 82) + 2))), .int (jI (m 3)), .int (jI (m 4)), .ref (ad (60 + 2 * (4 * (o - 82) + 3))), .ref (ad (76 + 2 * (o - 82))), .int (jI (m 7))])
  else if o = 84 then
    .inr (7, [.int (jI (m 0)), .int (jI (m 1)), .int (jI (m 2)), .int (jI (m 3)), .int (jI (m 4)), .int (jI (m 5)), .ref (ad 85), .ref (ad 86), .ref (ad 87), .ref (ad 88)])
  else if o = 85 then .inl (cO, 8, .inr (.inr (.inr (.inr (fun j => z_rw ad (m j))))))
  else if o = 86 then .inl (cI, 8, .inl (fun j => jI (m j)))
  else if o = 87 then .inl (cI, 8, .inl (fun j => jI (m j)))
  else if o = 88 then .inl (cI, 16, .inl (fun j => jI (m j)))
  else if o = 89 then .inr (3, [.ref (ad (3 * 12)), .int (jI (m 1)), .int (jI (m 2)), .int (jI (m 3)), .int (jI (m 4))])
  else if o = 90 then .inr (6, [.int (jI (m 0)), .int (jI (m 1)), .ref (ad 91), .ref (ad 92), .ref (ad (3 * 19))])
  else if o = 91 then .inl (cO, 3, .inr (.inr (.inr (.inr (fun j => some (ad (3 * (13 + j))))))))
  else if o = 92 then .inl (cO, 3, .inr (.inr (.inr (.inr (fun j => some (ad (3 * (16 + j))))))))
  else if o = 93 then .inr (1, [.ref (ad 94)])
  else if o = 94 then .inl (cJ, 32, .inr (.inl (fun j => jL (m j))))
  else if o = 95 then
    .inr (8, [.ref (ad 96), .int (jI (m 1)), .int (jI (m 2)), .int (jI (m 3)), .int (jI (m 4)), .int (jI (m 5)), .int (jI (m 6)), .ref (ad (82 + 0)), .ref (ad (82 + 1)), .ref (ad (76 + 2 * 2)), .ref (ad 84), .ref (ad 89), .ref (ad 90), .ref (ad 93)])
  else .inl (cO, 12, .inr (.inr (.inr (.inr (fun j => some (ad (3 * j)))))))
section
variable {ad : Nat → Nat} {cI cJ cO : ClassId} {m : Nat → Int}
theorem ze_row {r : Nat} (h : r < 20) : z_e ad cI cJ cO (3 * r) m = .inr (5, [.ref (ad (3 * r + 1)), .ref (ad (3 * r + 2)), .int (jI (m 2))]) := by
  unfold z_e; rw [if_pos (by omega), if_pos (by omega)]
theorem ze_keys {r : Nat} (h : r < 20) : z_e ad cI cJ cO (3 * r + 1) m = .inl (cI, 120, .inl (fun j => jI (m j))) := by
  unfold z_e; rw [if_pos (by omega), if_neg (by omega)]
theorem ze_marks {r : Nat} (h : r < 20) : z_e ad cI cJ cO (3 * r + 2) m = .inl (cI, 120, .inl (fun j => jI (m j))) := by
  unfold z_e; rw [if_pos (by omega), if_neg (by omega)]
theorem ze_num {n : Nat} (h : n < 8) : z_e ad cI cJ cO (60 + 2 * n) m = .inr (2, [.ref (ad (61 + 2 * n)), .int (jI (m 1))]) := by
  unfold z_e; rw [if_neg (by omega), if_pos (by omega), if_pos (by omega), show 60 + 2 * n + 1 = 61 + 2 * n by omega]
theorem ze_vals {n : Nat} (h : n < 8) : z_e ad cI cJ cO (61 + 2 * n) m = .inl (cI, 120, .inl (fun j => jI (m j))) := by
  unfold z_e; rw [if_neg (by omega), if_pos (by omega), if_neg (by omega)]
theorem ze_heap {n : Nat} (h : n < 3) : z_e ad cI cJ cO (76 + 2 * n) m = .inr (0, [.ref (ad (77 + 2 * n)), .int (jI (m 1))]) := by
  unfold z_e; rw [if_neg (by omega), if_neg (by omega), if_pos (by omega), if_pos (by omega), show 76 + 2 * n + 1 = 77 + 2 * n by omega]
theorem ze_held {n : Nat} (h : n < 3) : z_e ad cI cJ cO (77 + 2 * n) m = .inl (cI, 120, .inl (fun j => jI (m j))) := by
  unfold z_e; rw [if_neg (by omega), if_neg (by omega), if_pos (by omega), if_neg (by omega)]
theorem ze_plan {p : Nat} (h : p < 2) : z_e ad cI cJ cO (82 + p) m = .inr (4, [.ref (ad (60 + 2 * (4 * p))), .ref (ad (60 + 2 * (4 * p + 1))), .ref (ad (60 + 2 * (4 * p + 2))), .int (jI (m 3)), .int (jI (m 4)), .ref (ad (60 + 2 * (4 * p + 3))), .ref (ad (76 + 2 * p)), .int (jI (m 7))]) := by
  unfold z_e; rw [if_neg (by omega), if_neg (by omega), if_neg (by omega), if_pos (by omega), show 82 + p - 82 = p by omega]
theorem ze_tour : z_e ad cI cJ cO 84 m = .inr (7, [.int (jI (m 0)), .int (jI (m 1)), .int (jI (m 2)), .int (jI (m 3)), .int (jI (m 4)), .int (jI (m 5)), .ref (ad 85), .ref (ad 86), .ref (ad 87), .ref (ad 88)]) := rfl
theorem ze_trows : z_e ad cI cJ cO 85 m = .inl (cO, 8, .inr (.inr (.inr (.inr (fun j => z_rw ad (m j)))))) := rfl
theorem ze_places : z_e ad cI cJ cO 86 m = .inl (cI, 8, .inl (fun j => jI (m j))) := rfl
theorem ze_losers : z_e ad cI cJ cO 87 m = .inl (cI, 8, .inl (fun j => jI (m j))) := rfl
theorem ze_winners : z_e ad cI cJ cO 88 m = .inl (cI, 16, .inl (fun j => jI (m j))) := rfl
theorem ze_out : z_e ad cI cJ cO 89 m = .inr (3, [.ref (ad (3 * 12)), .int (jI (m 1)), .int (jI (m 2)), .int (jI (m 3)), .int (jI (m 4))]) := rfl
theorem ze_spl : z_e ad cI cJ cO 90 m = .inr (6, [.int (jI (m 0)), .int (jI (m 1)), .ref (ad 91), .ref (ad 92), .ref (ad (3 * 19))]) := rfl
theorem ze_ones : z_e ad cI cJ cO 91 m = .inl (cO, 3, .inr (.inr (.inr (.inr (fun j => some (ad (3 * (13 + j)))))))) := rfl
theorem ze_others : z_e ad cI cJ cO 92 m = .inl (cO, 3, .inr (.inr (.inr (.inr (fun j => some (ad (3 * (16 + j)))))))) := rfl
theorem ze_kset : z_e ad cI cJ cO 93 m = .inr (1, [.ref (ad 94)]) := rfl
theorem ze_words : z_e ad cI cJ cO 94 m = .inl (cJ, 32, .inr (.inl (fun j => jL (m j)))) := rfl
theorem ze_ms : z_e ad cI cJ cO 95 m = .inr (8, [.ref (ad 96), .int (jI (m 1)), .int (jI (m 2)), .int (jI (m 3)), .int (jI (m 4)), .int (jI (m 5)), .int (jI (m 6)), .ref (ad (82 + 0)), .ref (ad (82 + 1)), .ref (ad (76 + 2 * 2)), .ref (ad 84), .ref (ad 89), .ref (ad 90), .ref (ad 93)]) := rfl
theorem ze_files : z_e ad cI cJ cO 96 m = .inl (cO, 12, .inr (.inr (.inr (.inr (fun j => some (ad (3 * j))))))) := rfl
end
/-- the cells as a list -/
def z_w (ad : Nat → Nat) (cI cJ cO : ClassId) (M : zM) : va_W := (List.range 97).map (fun o => (ad o, z_e ad cI cJ cO o (M o)))
theorem zw_at {ad : Nat → Nat} {cI cJ cO : ClassId} {M : zM} {o : Nat} (h : o < 97) : (z_w ad cI cJ cO M)[o]? = some (ad o, z_e ad cI cJ cO o (M o)) := by
  simp [z_w, h]
theorem zw_out {ad : Nat → Nat} {cI cJ cO : ClassId} {M : zM} {o : Nat} (h : ¬ o < 97) : (z_w ad cI cJ cO M)[o]? = none := by
  simp [z_w]; omega
theorem zw_set {ad : Nat → Nat} {cI cJ cO : ClassId} {M : zM} {o : Nat} (h : o < 97) (m : Nat → Int) : (z_w ad cI cJ cO M).set o (ad o, z_e ad cI cJ cO o m) = z_w ad cI cJ cO (va_up M o m) := by
  refine List.ext_getElem? fun i => ?_
  by_cases hi : i = o
  · subst hi
    rw [List.getElem?_set_self (by simp [z_w]; exact h), zw_at h]
    simp [va_up]
  · rw [List.getElem?_set_ne (Ne.symm hi)]
    by_cases hb : i < 97
    · rw [zw_at hb, zw_at hb]
      simp [va_up, hi]
    · rw [zw_out hb, zw_out hb]
/-! the locals as a row of places -/
def z_al : Nat → List (Option Value) → List (Nat × Value)
  | _, [] => []
  | i, none :: t => z_al (i + 1) t
  | i, some v :: t => (i, v) :: z_al (i + 1) t
theorem zal_mem {i : Nat} {v : Value} : ∀ (k : Nat) (l : List (Option Value)), (i, v) ∈ z_al k l ↔ k ≤ i ∧ l[i - k]? = some (some v)
  | k, [] => by simp [z_al]
  | k, none :: t => by
    rw [z_al, zal_mem (k + 1) t]
    by_cases h : i = k
    · subst h; simp; omega
    · by_cases h2 : k ≤ i
      · rw [show i - k = (i - (k + 1)) + 1 by omega, List.getElem?_cons_succ]
        constructor
        · rintro ⟨-, h3⟩; exact ⟨h2, h3⟩
        · rintro ⟨-, h3⟩; exact ⟨by omega, h3⟩
      · constructor
        · rintro ⟨h3, -⟩; omega
        · rintro ⟨h3, -⟩; omega
  | k, some w :: t => by
    rw [z_al, List.mem_cons, zal_mem (k + 1) t]
    by_cases h : i = k
    · subst h
      simp
      constructor
      · rintro (h | ⟨h, -⟩)
        · exact h.symm
        · omega
      · intro h; exact Or.inl h.symm
    · by_cases h2 : k ≤ i
      · rw [show i - k = (i - (k + 1)) + 1 by omega, List.getElem?_cons_succ]
        constructor
        · rintro (h3 | ⟨-, h3⟩)
          · exact absurd (congrArg Prod.fst h3) h
          · exact ⟨h2, h3⟩
        · rintro ⟨-, h3⟩; exact Or.inr ⟨by omega, h3⟩
      · constructor
        · rintro (h3 | ⟨h3, -⟩)
          · exact absurd (congrArg Prod.fst h3) h
          · omega
        · rintro ⟨h3, -⟩; omega
theorem zal_get {ls : Array Slot} {n : Nat} {lv : List (Option Value)} (h : lv_has ls n (z_al 0 lv)) {i : Nat} {v : Value} (hi : lv[i]? = some (some v)) : ls[i]? = some (.val v) :=
  h.2.2 (i, v) ((zal_mem 0 lv).mpr ⟨Nat.zero_le _, hi⟩)
def z_c2 : Option (Option Value) → Bool
  | some (some v) => v.category == 2
  | _ => false
/-- a value of one slot stored -/
def z_st (lv : List (Option Value)) (i : Nat) (v : Value) : List (Option Value) := match i with
  | 0 => lv.set 0 (some v)
  | i + 1 => (if z_c2 lv[i]? then lv.set i none else lv).set (i + 1) (some v)
/-- a value of two slots stored -/
def z_st2 (lv : List (Option Value)) (i : Nat) (v : Value) : List (Option Value) := (z_st lv i v).set (i + 1) none
theorem zst_len (lv : List (Option Value)) (i : Nat) (v : Value) : (z_st lv i v).length = lv.length := by
  cases i with
  | zero => simp [z_st]
  | succ i =>
    unfold z_st
    by_cases h : z_c2 lv[i]? <;> simp [h]
theorem zst2_len (lv : List (Option Value)) (i : Nat) (v : Value) : (z_st2 lv i v).length = lv.length := by simp [z_st2, zst_len]
theorem zst_sub {lv : List (Option Value)} {i j : Nat} {v w : Value} (h : (z_st lv i v)[j]? = some (some w)) : (j = i ∧ w = v) ∨ (j ≠ i ∧ lv[j]? = some (some w) ∧ ¬ (j + 1 = i ∧ w.category = 2)) := by
  by_cases hj : j = i
  · subst hj
    refine Or.inl ⟨rfl, ?_⟩
    cases j with
    | zero =>
      simp only [z_st, List.getElem?_set_self'] at h
      cases hq : lv[0]? with
      | none => rw [hq] at h; simp at h
      | some a => rw [hq] at h; simp at h; exact h.symm
    | succ j =>
      simp only [z_st, List.getElem?_set_self'] at h
      cases hq : (if z_c2 lv[j]? = true then lv.set j none else lv)[j + 1]? with
      | none => rw [hq] at h; simp at h
      | some a => rw [hq] at h; simp at h; exact h.symm
  · refine Or.inr ⟨hj, ?_⟩
    cases i with
    | zero =>
      simp only [z_st] at h
      rw [List.getElem?_set_ne (Ne.symm hj)] at h
      exact ⟨h, by omega⟩
    | succ i =>
      simp only [z_st] at h
      rw [List.getElem?_set_ne (Ne.symm hj)] at h
      by_cases hc : z_c2 lv[i]? = true
      · rw [if_pos hc] at h
        by_cases hji : j = i
        · subst hji
          rw [List.getElem?_set_self'] at h
          cases hq : lv[j]? with
          | none => rw [hq] at h; simp at h
          | some a => rw [hq] at h; simp at h
        · rw [List.getElem?_set_ne (Ne.symm hji)] at h
          exact ⟨h, by omega⟩
      · rw [if_neg hc] at h
        refine ⟨h, ?_⟩
        rintro ⟨h1, h2⟩
        have : j = i := by omega
        subst this
        rw [h] at hc
        simp [z_c2, h2] at hc
theorem zst_has {ls : Array Slot} {n i : Nat} {lv : List (Option Value)} {v : Value} (h : lv_has ls n ((i, v) :: (z_al 0 lv).filter (fun q => !(q.1 == i) && !(q.1 + 1 == i && q.2.category == 2)))) : lv_has ls n (z_al 0 (z_st lv i v)) := by
  refine ⟨h.1, h.2.1, fun q hq => ?_⟩
  obtain ⟨j, w⟩ := q
  obtain ⟨-, h2⟩ := (zal_mem 0 _).mp hq
  rw [Nat.sub_zero] at h2
  rcases zst_sub h2 with ⟨rfl, rfl⟩ | ⟨h3, h4, h5⟩
  · exact h.2.2 _ List.mem_cons_self
  · refine h.2.2 _ (List.mem_cons_of_mem _ (List.mem_filter.mpr ⟨(zal_mem 0 lv).mpr ⟨Nat.zero_le _, h4⟩, ?_⟩))
    have h6 : (j == i) = false := by simpa using h3
    by_cases hc : j + 1 = i
    · have : ¬ w.category = 2 := fun q => h5 ⟨hc, q⟩
      simp [h6, this]
    · simp [h6, hc]
theorem zst2_has {ls : Array Slot} {n i : Nat} {lv : List (Option Value)} {v : Value} (h : lv_has ls n ((i, v) :: (z_al 0 lv).filter (fun q => !(q.1 == i) && (!(q.1 == i + 1) && !(q.1 + 1 == i && q.2.category == 2))))) : lv_has ls n (z_al 0 (z_st2 lv i v)) := by
  refine ⟨h.1, h.2.1, fun q hq => ?_⟩
  obtain ⟨j, w⟩ := q
  obtain ⟨-, h2⟩ := (zal_mem 0 _).mp hq
  rw [Nat.sub_zero] at h2
  unfold z_st2 at h2
  by_cases hj1 : j = i + 1
  · subst hj1
    rw [List.getElem?_set_self'] at h2
    cases hq : (z_st lv i v)[i + 1]? with
    | none => rw [hq] at h2; simp at h2
    | some a => rw [hq] at h2; simp at h2
  rw [List.getElem?_set_ne (Ne.symm hj1)] at h2
  rcases zst_sub h2 with ⟨rfl, rfl⟩ | ⟨h3, h4, h5⟩
  · exact h.2.2 _ List.mem_cons_self
  · refine h.2.2 _ (List.mem_cons_of_mem _ (List.mem_filter.mpr ⟨(zal_mem 0 lv).mpr ⟨Nat.zero_le _, h4⟩, ?_⟩))
    have h6 : (j == i) = false := by simpa using h3
    have h7 : (j == i + 1) = false := by simpa using hj1
    by_cases hc : j + 1 = i
    · have : ¬ w.category = 2 := fun q => h5 ⟨hc, q⟩
      simp [h6, h7, this]
    · simp [h6, h7, hc]
/-- fewer places known -/
def z_mk : List Bool → List (Option Value) → List (Option Value)
  | [], _ => []
  | _, [] => []
  | b :: bs, v :: vs => (if b then v else none) :: z_mk bs vs
theorem zmk_len : ∀ (bs : List Bool) (lv : List (Option Value)), bs.length = lv.length → (z_mk bs lv).length = lv.length
  | [], [], _ => rfl
  | b :: bs, v :: vs, h => by simp [z_mk, zmk_len bs vs (by simpa using h)]
  | [], _ :: _, h => by simp at h
  | _ :: _, [], h => by simp at h
theorem zmk_sub : ∀ (bs : List Bool) (lv : List (Option Value)) (j : Nat) (w : Value), (z_mk bs lv)[j]? = some (some w) → lv[j]? = some (some w)
  | [], _, _, _, h => by simp [z_mk] at h
  | _ :: _, [], _, _, h => by simp [z_mk] at h
  | b :: bs, v :: vs, 0, w, h => by
    cases b
    · simp [z_mk] at h
    · simpa [z_mk] using h
  | b :: bs, v :: vs, j + 1, w, h => by
    simp only [z_mk, List.getElem?_cons_succ] at h ⊢
    exact zmk_sub bs vs j w h
theorem zmk_has {ls : Array Slot} {n : Nat} {lv : List (Option Value)} (bs : List Bool) (h : lv_has ls n (z_al 0 lv)) : lv_has ls n (z_al 0 (z_mk bs lv)) := by
  refine ⟨h.1, h.2.1, fun q hq => ?_⟩
  obtain ⟨j, w⟩ := q
  obtain ⟨-, h2⟩ := (zal_mem 0 _).mp hq
  rw [Nat.sub_zero] at h2
  exact h.2.2 _ ((zal_mem 0 lv).mpr ⟨Nat.zero_le _, zmk_sub bs lv j w h2⟩)
end
section
/-! One judgement over the machine, G: the frame at pc with locals lv and operands st, over every heap that holds the table M. -/
abbrev z_tys (cI cJ cO : ClassId) : List (ClassId × FieldType) := [(cI, .int), (cJ, .long), (cO, .object "MoraineSort$Row")]
/-- what else the machine's tables say: two links to private members of the nest's host -/
def z_N (U : State) : Prop := va_Nw (.methodLinkNest RX4 88 yX8_weightOf RX8) U ∧ va_Nw (.methodLinkNest RX4 99 yX8_pagesFor RX8) U
theorem z_N.warm {s U : State} (hW : s.WarmedH U.vm) (h : z_N s) : z_N U := ⟨va_Nw.warmM hW h.1, va_Nw.warmM hW h.2⟩
theorem z_N.same {u U : State} (h : u.vm = U.vm) (h1 : z_N u) : z_N U := ⟨va_Nw.same rfl h h1.1, va_Nw.same rfl h h1.2⟩
/-- everything that stays the same through a method's body -/
abbrev z_X : Type := Program × Launch × Env × Room × State × MethodId × Array Value × List Frame × Method × Code × (State → Prop) × va_G × (Nat → Nat) × (ClassId × ClassId × ClassId) × Nat × Nat × Nat
def zA (X : z_X) : Nat → Nat := X.2.2.2.2.2.2.2.2.2.2.2.2.1
def zL (X : z_X) : Launch := X.2.1
def G (X : z_X) (M : zM) (pc : Nat) (lv : List (Option Value)) (st : List Value) : Prop := match X with
  | (p, l, e, R, s, m, args, below, meth, c, Q, D, ad, (cI, cJ, cO), lo, cs, sl) => ∀ (H : Heap) (locs : List Loc) (ls : Array Slot), va_P D vwCl (z_w ad cI cJ cO M) H → va_S (fun q => lo ≤ q) s.heap H locs → lv_has ls lv.length (z_al 0 lv) → W p l e R s m args below meth c H locs cs sl Q (F0 m pc ls st)
def Cx (cc : ByteArray) (own : String) (ret : Option FieldType) (d n : Nat) (X : z_X) : Prop := match X with
  | (p, l, e, R, s, m, args, below, meth, c, Q, D, ad, (cI, cJ, cO), lo, cs, sl) => p.tables.exec = Jvm.exec ∧ c.code = cc ∧ meth.sig.returnType = ret ∧ c.maxLocals = n ∧ s.vm.findClass own = some m.cls ∧ (∀ w ∈ tT, w.before args s = true) ∧ va_K D vwCl (z_tys cI cJ cO) s ∧ z_N s ∧ (∀ M, va_D (fun q => lo ≤ q) (z_w ad cI cJ cO M)) ∧ meth.locks = false ∧ (d ≤ R.frames ∧ 40 * d ≤ R.locals) ∧ (cs ≤ R.cells ∧ sl ≤ R.slots)
/-- what a contract says of the end -/
def z_Q (D : va_G) (ad : Nat → Nat) (cI cJ cO : ClassId) (lo : Nat) (post : Option Value → zM → Prop) : Array Value → State → Outcome → State → Prop := fun _ st o t => (∃ (v : Option Value) (M' : zM), o = .returned v ∧ post v M' ∧ va_P D vwCl (z_w ad cI cJ cO M') t.heap) ∧ va_F (fun q => lo ≤ q) st t
def Rx (post : (Nat → Nat) → Option Value → zM → Prop) (X : z_X) : Prop := match X with
  | (p, l, e, R, s, m, args, below, meth, c, Q, D, ad, (cI, cJ, cO), lo, cs, sl) => Q = MQ below (z_Q D ad cI cJ cO lo (post ad)) args s cs sl (fun q => lo ≤ q)
def z_B (D : va_G) (ad : Nat → Nat) (cI cJ cO : ClassId) (lo : Nat) (M : zM) (U : State) : Prop := va_P D vwCl (z_w ad cI cJ cO M) U.heap ∧ va_K D vwCl (z_tys cI cJ cO) U ∧ z_N U ∧ ∀ M', va_D (fun q => lo ≤ q) (z_w ad cI cJ cO M')
abbrev z_room (d : Nat) : Room := { frames := d, cells := 0, slots := 0, locals := 40 * d }
/-- a contract: from every heap with the table M, called with these words, it returns, and post holds of the answer and the table -/
def Mt (l : Launch) (d : Nat) (y : MethodName) (cc : ByteArray) (n : Nat) (ret : Option FieldType) (As : (Nat → Nat) → List Value) (M : zM) (post : (Nat → Nat) → Option Value → zM → Prop) : Prop :=
  ∀ (D : va_G) (ad : Nat → Nat) (cI cJ cO : ClassId) (lo : Nat), Met l y (tW y cc n ret) (z_room d) (va_Pc (As ad) (z_B D ad cI cJ cO lo M)) (z_Q D ad cI cJ cO lo (post ad)) 0 0 (fun q => lo ≤ q)
/-- a contract out of a walk, also of a method of the JDK's that no row of the natives stands in for -/
theorem z_ofW {l : Launch} {y : MethodName} {ws ws' : List Cond} {rm : Room} {Pc : Array Value → State → Prop} {Qc : Array Value → State → Outcome → State → Prop} {mc ms : Nat} {free : Addr → Prop} {cc : ByteArray} {maxL : Nat} {ret : Option FieldType}
    (hy : plainFor y = true) (hw : ws = Cond.code y cc maxL ret :: ws')
    (body : ∀ p e s m args below meth c s₁, BodyLoose p l y (headSpec ws rm) cc maxL ret e s m args below meth c s₁ → c.maxLocals = maxL → Pc args s →
      W p l e (headSpec ws rm).room s m args below meth c s.heap [] 0 0 (MQ below Qc args s mc ms free) (entryFrame m args maxL)) : Met l y ws rm Pc Qc mc ms free := by
  refine MetFree.of_bodyRF (code := cc) (maxLocals := maxL) (ret := ret) hy ?_ ?_
  · intro args s m h hn
    obtain ⟨meth, c, h1, h2, h3, h4, h5, h6, -, -⟩ := Cond.code_spec hn (atoms_spec (ws := ws) h _ (by rw [hw]; exact List.mem_cons_self))
    exact ⟨meth, c, h1, h2, h3, h4, h5, h6⟩
  · intro p e s m args below meth c s₁ B hml hP _ hst
    have hh0 : s₁.heap = s.heap := by rw [B.state]; rfl
    obtain ⟨t, a1, o, b1, b2, b3⟩ := body p e s m args below meth c s₁ B hml hP s₁ hh0 (Stand.of_body B)
    exact ⟨t, o, Steps.trans hst a1, b1, b2, ⟨b3.1, b3.2⟩⟩
theorem Mt.of {l : Launch} {d : Nat} {y : MethodName} {cc : ByteArray} {n : Nat} {ret : Option FieldType} {As : (Nat → Nat) → List Value} {M : zM} {post : (Nat → Nat) → Option Value → zM → Prop} (lv0 : (Nat → Nat) → List (Option Value))
    (hy : plainFor y = true) (h1 : ∀ ad, z_al 0 (lv0 ad) = lv_args 0 (As ad)) (h2 : ∀ ad, (lv0 ad).length = n) (h3 : ∀ ad, (lg_sl (As ad)).length ≤ n)
    (body : ∀ X : z_X, zL X = l → Cx cc y.cls ret d n X → Rx post X → G X M 0 (lv0 (zA X)) []) : Mt l d y cc n ret As M post := by
  intro D ad cI cJ cO lo
  refine z_ofW (cc := cc) (maxL := n) (ret := ret) hy rfl ?_
  intro p e s m args below meth c s₁ B hml hv
  obtain ⟨rfl, hP, hK, hN, hD⟩ := hv
  have hts : ∀ w ∈ tT, w.before (As ad).toArray s = true := fun w hw => atoms_spec (ws := tW y cc n ret) B.pre w (List.mem_cons_of_mem _ hw)
  have h := body (p, l, e, z_room d, s, m, (As ad).toArray, below, meth, c, MQ below (z_Q D ad cI cJ cO lo (post ad)) (As ad).toArray s 0 0 (fun q => lo ≤ q), D, ad, (cI, cJ, cO), lo, 0, 0) rfl
    ⟨B.exec, B.bytes, B.returns, hml, findClass_of_methodNamed B.named, hts, hK, hN, hD, B.notSynchronized, ⟨Nat.le_refl _, Nat.le_refl _⟩, ⟨Nat.le_refl _, Nat.le_refl _⟩⟩ rfl
  rw [lg_entry_eq]
  refine h s.heap [] _ hP va_S.rf ?_
  show lv_has _ (lv0 ad).length (z_al 0 (lv0 ad))
  rw [h1, h2]
  exact lv_entry (As ad) (h3 ad)
section
variable {X : z_X} {cc : ByteArray} {own : String} {ret : Option FieldType} {d n : Nat} {M : zM} {pc : Nat} {lv : List (Option Value)} {st : List Value}
/-! locals, constants, the stack -/
theorem g_iload (C : Cx cc own ret d n X) {k : Nat} {x : Int32} (hd : decode cc pc = .ok (.iload k, 2)) (hv : lv[k]? = some (some (.int x))) (kk : G X M (pc + 2) lv (.int x :: st)) : G X M pc lv st := by
  obtain ⟨p, l, e, R, s, m, args, below, meth, c, Q, D, ad, ⟨cI, cJ, cO⟩, lo, cs, sl⟩ := X
  obtain ⟨hx, hb, -⟩ := C
  exact fun H locs ls hP hS hl => lv_iload hx hb hd (zal_get hl hv) (kk H locs ls hP hS hl)
theorem g_iload_n (C : Cx cc own ret d n X) {k : Fin 4} {x : Int32} (hd : decode cc pc = .ok (.iload_n k, 1)) (hv : lv[(k : Nat)]? = some (some (.int x))) (kk : G X M (pc + 1) lv (.int x :: st)) : G X M pc lv st := by
  obtain ⟨p, l, e, R, s, m, args, below, meth, c, Q, D, ad, ⟨cI, cJ, cO⟩, lo, cs, sl⟩ := X
  obtain ⟨hx, hb, -⟩ := C
  exact fun H locs ls hP hS hl => lv_iload_n hx hb hd rfl (zal_get hl hv) (kk H locs ls hP hS hl)
theorem g_lload (C : Cx cc own ret d n X) {k : Nat} {x : Int64} (hd : decode cc pc = .ok (.lload k, 2)) (hv : lv[k]? = some (some (.long x))) (kk : G X M (pc + 2) lv (.long x :: st)) : G X M pc lv st := by
  obtain ⟨p, l, e, R, s, m, args, below, meth, c, Q, D, ad, ⟨cI, cJ, cO⟩, lo, cs, sl⟩ := X
  obtain ⟨hx, hb, -⟩ := C
  exact fun H locs ls hP hS hl => lv_lload hx hb hd (zal_get hl hv) (kk H locs ls hP hS hl)
theorem g_lload_n (C : Cx cc own ret d n X) {k : Fin 4} {x : Int64} (hd : decode cc pc = .ok (.lload_n k, 1)) (hv : lv[(k : Nat)]? = some (some (.long x))) (kk : G X M (pc + 1) lv (.long x :: st)) : G X M pc lv st := by
  obtain ⟨p, l, e, R, s, m, args, below, meth, c, Q, D, ad, ⟨cI, cJ, cO⟩, lo, cs, sl⟩ := X
  obtain ⟨hx, hb, -⟩ := C
  exact fun H locs ls hP hS hl => lv_lload_n hx hb hd rfl (zal_get hl hv) (kk H locs ls hP hS hl)
theorem g_aload (C : Cx cc own ret d n X) {k : Nat} {x : Nat} (hd : decode cc pc = .ok (.aload k, 2)) (hv : lv[k]? = some (some (.ref x))) (kk : G X M (pc + 2) lv (.ref x :: st)) : G X M pc lv st := by
  obtain ⟨p, l, e, R, s, m, args, below, meth, c, Q, D, ad, ⟨cI, cJ, cO⟩, lo, cs, sl⟩ := X
  obtain ⟨hx, hb, -⟩ := C
  exact fun H locs ls hP hS hl => lv_aload hx hb hd (zal_get hl hv) (kk H locs ls hP hS hl)
theorem g_aload_n (C : Cx cc own ret d n X) {k : Fin 4} {x : Nat} (hd : decode cc pc = .ok (.aload_n k, 1)) (hv : lv[(k : Nat)]? = some (some (.ref x))) (kk : G X M (pc + 1) lv (.ref x :: st)) : G X M pc lv st := by
  obtain ⟨p, l, e, R, s, m, args, below, meth, c, Q, D, ad, ⟨cI, cJ, cO⟩, lo, cs, sl⟩ := X
  obtain ⟨hx, hb, -⟩ := C
  exact fun H locs ls hP hS hl => lv_aload_n hx hb hd rfl (zal_get hl hv) (kk H locs ls hP hS hl)
theorem g_istore (C : Cx cc own ret d n X) {k : Nat} {x : Int32} (hd : decode cc pc = .ok (.istore k, 2)) (hk : k < lv.length) (kk : G X M (pc + 2) (z_st lv k (.int x)) st) : G X M pc lv (.int x :: st) := by
  obtain ⟨p, l, e, R, s, m, args, below, meth, c, Q, D, ad, ⟨cI, cJ, cO⟩, lo, cs, sl⟩ := X
  obtain ⟨hx, hb, -⟩ := C
  exact fun H locs ls hP hS hl => lv_istore hx hb hd hl hk rfl fun ls' hl' => kk H locs ls' hP hS (by rw [zst_len]; exact zst_has hl')
theorem g_istore_n (C : Cx cc own ret d n X) {k : Fin 4} {x : Int32} (hd : decode cc pc = .ok (.istore_n k, 1)) (hk : (k : Nat) < lv.length) (kk : G X M (pc + 1) (z_st lv k (.int x)) st) : G X M pc lv (.int x :: st) := by
  obtain ⟨p, l, e, R, s, m, args, below, meth, c, Q, D, ad, ⟨cI, cJ, cO⟩, lo, cs, sl⟩ := X
  obtain ⟨hx, hb, -⟩ := C
  exact fun H locs ls hP hS hl => lv_istore_n hx hb hd rfl hl hk rfl fun ls' hl' => kk H locs ls' hP hS (by rw [zst_len]; exact zst_has hl')
theorem g_astore (C : Cx cc own ret d n X) {k : Nat} {x : Nat} (hd : decode cc pc = .ok (.astore k, 2)) (hk : k < lv.length) (kk : G X M (pc + 2) (z_st lv k (.ref x)) st) : G X M pc lv (.ref x :: st) := by
  obtain ⟨p, l, e, R, s, m, args, below, meth, c, Q, D, ad, ⟨cI, cJ, cO⟩, lo, cs, sl⟩ := X
  obtain ⟨hx, hb, -⟩ := C
  exact fun H locs ls hP hS hl => lv_astore hx hb hd hl hk rfl fun ls' hl' => kk H locs ls' hP hS (by rw [zst_len]; exact zst_has hl')
theorem g_astore_n (C : Cx cc own ret d n X) {k : Fin 4} {x : Nat} (hd : decode cc pc = .ok (.astore_n k, 1)) (hk : (k : Nat) < lv.length) (kk : G X M (pc + 1) (z_st lv k (.ref x)) st) : G X M pc lv (.ref x :: st) := by
  obtain ⟨p, l, e, R, s, m, args, below, meth, c, Q, D, ad, ⟨cI, cJ, cO⟩, lo, cs, sl⟩ := X
  obtain ⟨hx, hb, -⟩ := C
  exact fun H locs ls hP hS hl => lv_astore_n hx hb hd rfl hl hk rfl fun ls' hl' => kk H locs ls' hP hS (by rw [zst_len]; exact zst_has hl')
theorem g_lstore (C : Cx cc own ret d n X) {k : Nat} {x : Int64} (hd : decode cc pc = .ok (.lstore k, 2)) (hk : k + 1 < lv.length) (kk : G X M (pc + 2) (z_st2 lv k (.long x)) st) : G X M pc lv (.long x :: st) := by
  obtain ⟨p, l, e, R, s, m, args, below, meth, c, Q, D, ad, ⟨cI, cJ, cO⟩, lo, cs, sl⟩ := X
  obtain ⟨hx, hb, -⟩ := C
  exact fun H locs ls hP hS hl => lv_lstore hx hb hd hl hk rfl fun ls' hl' => kk H locs ls' hP hS (by rw [zst2_len]; exact zst2_has hl')
theorem g_lstore_n (C : Cx cc own ret d n X) {k : Fin 4} {x : Int64} (hd : decode cc pc = .ok (.lstore_n k, 1)) (hk : (k : Nat) + 1 < lv.length) (kk : G X M (pc + 1) (z_st2 lv k (.long x)) st) : G X M pc lv (.long x :: st) := by
  obtain ⟨p, l, e, R, s, m, args, below, meth, c, Q, D, ad, ⟨cI, cJ, cO⟩, lo, cs, sl⟩ := X
  obtain ⟨hx, hb, -⟩ := C
  exact fun H locs ls hP hS hl => lv_lstore_n hx hb hd rfl hl hk rfl fun ls' hl' => kk H locs ls' hP hS (by rw [zst2_len]; exact zst2_has hl')
theorem g_mask (bs : List Bool) (hb : bs.length = lv.length) (kk : G X M pc (z_mk bs lv) st) : G X M pc lv st := by
  obtain ⟨p, l, e, R, s, m, args, below, meth, c, Q, D, ad, ⟨cI, cJ, cO⟩, lo, cs, sl⟩ := X
  exact fun H locs ls hP hS hl => kk H locs ls hP hS (by rw [zmk_len bs lv hb]; exact zmk_has bs hl)
theorem g_iconst (C : Cx cc own ret d n X) {x : Int} (hd : decode cc pc = .ok (.iconst x, 1)) (kk : G X M (pc + 1) lv (.int (jI x) :: st)) : G X M pc lv st := by
  obtain ⟨p, l, e, R, s, m, args, below, meth, c, Q, D, ad, ⟨cI, cJ, cO⟩, lo, cs, sl⟩ := X
  obtain ⟨hx, hb, -⟩ := C
  exact fun H locs ls hP hS hl => lv_iconst hx hb hd rfl (kk H locs ls hP hS hl)
theorem g_bipush (C : Cx cc own ret d n X) {x : Int} (hd : decode cc pc = .ok (.bipush x, 2)) (hx : (Int8.ofInt x).toInt32 = jI x) (kk : G X M (pc + 2) lv (.int (jI x) :: st)) : G X M pc lv st := by
  obtain ⟨p, l, e, R, s, m, args, below, meth, c, Q, D, ad, ⟨cI, cJ, cO⟩, lo, cs, sl⟩ := X
  obtain ⟨hx', hb, -⟩ := C
  exact fun H locs ls hP hS hl => lv_bipush hx' hb hd hx (kk H locs ls hP hS hl)
theorem g_sipush (C : Cx cc own ret d n X) {x : Int} (hd : decode cc pc = .ok (.sipush x, 3)) (hx : (Int16.ofInt x).toInt32 = jI x) (kk : G X M (pc + 3) lv (.int (jI x) :: st)) : G X M pc lv st := by
  obtain ⟨p, l, e, R, s, m, args, below, meth, c, Q, D, ad, ⟨cI, cJ, cO⟩, lo, cs, sl⟩ := X
  obtain ⟨hx', hb, -⟩ := C
  exact fun H locs ls hP hS hl => lv_sipush hx' hb hd hx (kk H locs ls hP hS hl)
theorem g_dup (C : Cx cc own ret d n X) {v : Value} (hd : decode cc pc = .ok (.dup, 1)) (hv : v.category = 1) (kk : G X M (pc + 1) lv (v :: v :: st)) : G X M pc lv (v :: st) := by
  obtain ⟨p, l, e, R, s, m, args, below, meth, c, Q, D, ad, ⟨cI, cJ, cO⟩, lo, cs, sl⟩ := X
  obtain ⟨hx, hb, -⟩ := C
  exact fun H locs ls hP hS hl => lv_dup hx hb hd hv (kk H locs ls hP hS hl)
theorem g_pop (C : Cx cc own ret d n X) {v : Value} (hd : decode cc pc = .ok (.pop, 1)) (hv : v.category = 1) (kk : G X M (pc + 1) lv st) : G X M pc lv (v :: st) := by
  obtain ⟨p, l, e, R, s, m, args, below, meth, c, Q, D, ad, ⟨cI, cJ, cO⟩, lo, cs, sl⟩ := X
  obtain ⟨hx, hb, -⟩ := C
  exact fun H locs ls hP hS hl => lv_pop hx hb hd hv (kk H locs ls hP hS hl)
theorem g_dup2 (C : Cx cc own ret d n X) {v w : Value} (hd : decode cc pc = .ok (.dup2, 1)) (hv : v.category = 1) (hw : w.category = 1) (kk : G X M (pc + 1) lv (v :: w :: v :: w :: st)) : G X M pc lv (v :: w :: st) := by
  obtain ⟨p, l, e, R, s, m, args, below, meth, c, Q, D, ad, ⟨cI, cJ, cO⟩, lo, cs, sl⟩ := X
  obtain ⟨hx, hb, -⟩ := C
  exact fun H locs ls hP hS hl => lv_dup2_11 hx hb hd hv hw (kk H locs ls hP hS hl)
theorem g_goto (C : Cx cc own ret d n X) {off : Int} {tgt : Nat} (hd : decode cc pc = .ok (.goto off, 3)) (ht : (pc : Int) + off = (tgt : Int)) (kk : G X M tgt lv st) : G X M pc lv st := by
  obtain ⟨p, l, e, R, s, m, args, below, meth, c, Q, D, ad, ⟨cI, cJ, cO⟩, lo, cs, sl⟩ := X
  obtain ⟨hx, hb, -⟩ := C
  exact fun H locs ls hP hS hl => lv_goto hx hb hd ht (kk H locs ls hP hS hl)
end
end
section
/-! numbers: every int of the walk is jI of an integer -/
theorem jI_add (x y : Int) : jI x + jI y = jI (x + y) := (Int32.ofInt_add x y).symm
theorem jI_sub (x y : Int) : jI x - jI y = jI (x - y) := (Int32.ofInt_sub x y).symm
theorem jI_mul (x y : Int) : jI x * jI y = jI (x * y) := (Int32.ofInt_mul x y).symm
theorem jI_neg (x : Int) : - jI x = jI (-x) := (Int32.ofInt_neg x).symm
theorem jI_t {x : Int} (h : -2147483648 ≤ x ∧ x ≤ 2147483647) : (jI x).toInt = x := Int32.toInt_ofInt_of_le (by omega) (by omega)
theorem jI_of (x : Int32) : jI x.toInt = x := Int32.ofInt_toInt x
theorem jI_n (a : Nat) : jI (a : Int) = nI a := Int32.ofInt_eq_ofNat
theorem jI_lt {x y : Int} (hx : -2147483648 ≤ x ∧ x ≤ 2147483647) (hy : -2147483648 ≤ y ∧ y ≤ 2147483647) : jI x < jI y ↔ x < y := by rw [Int32.lt_iff_toInt_lt, jI_t hx, jI_t hy]
theorem jI_le {x y : Int} (hx : -2147483648 ≤ x ∧ x ≤ 2147483647) (hy : -2147483648 ≤ y ∧ y ≤ 2147483647) : jI x ≤ jI y ↔ x ≤ y := by rw [Int32.le_iff_toInt_le, jI_t hx, jI_t hy]
theorem jI_eq {x y : Int} (hx : -2147483648 ≤ x ∧ x ≤ 2147483647) (hy : -2147483648 ≤ y ∧ y ≤ 2147483647) : jI x = jI y ↔ x = y := by rw [← Int32.toInt_inj, jI_t hx, jI_t hy]
theorem jI_0 : jI 0 = 0 := rfl
theorem jI_div {x y : Int} (hx : 0 ≤ x ∧ x ≤ 2147483647) (hy : 0 < y ∧ y ≤ 2147483647) : jI x / jI y = jI (x / y) := by
  obtain ⟨a, rfl⟩ := Int.eq_ofNat_of_zero_le hx.1
  obtain ⟨b, rfl⟩ := Int.eq_ofNat_of_zero_le (show 0 ≤ y by omega)
  rw [jI_n, jI_n, pk_div (by omega) (by omega) (by omega), ← jI_n]; rfl
theorem jI_rem {x y : Int} (hx : 0 ≤ x ∧ x ≤ 2147483647) (hy : 0 < y ∧ y ≤ 2147483647) : jI x - jI x / jI y * jI y = jI (x % y) := by
  obtain ⟨a, rfl⟩ := Int.eq_ofNat_of_zero_le hx.1
  obtain ⟨b, rfl⟩ := Int.eq_ofNat_of_zero_le (show 0 ≤ y by omega)
  rw [jI_n, jI_n, pk_rem (by omega) (by omega) (by omega), ← jI_n]; rfl
theorem jI_ne0 {y : Int} (hy : -2147483648 ≤ y ∧ y ≤ 2147483647) (h : y ≠ 0) : ¬ jI y = 0 := fun q => h ((jI_eq hy (by omega)).mp (q.trans jI_0.symm))
theorem jI_in {i N : Nat} (h : i < N) (hN : N < 2 ^ 31) : vp_in (jI (i : Int)) N := by rw [jI_n]; exact vp_in_nI h hN
theorem jI_cl {i : Nat} (h : i < 2 ^ 31) : (jI (i : Int)).toNatClampNeg = i := by rw [jI_n]; exact nI_clamp h
theorem jL_t {x : Int} (h : -9223372036854775808 ≤ x ∧ x ≤ 9223372036854775807) : (jL x).toInt = x := Int64.toInt_ofInt_of_le (by omega) (by omega)
theorem jL_of (x : Int64) : jL x.toInt = x := Int64.ofInt_toInt x
theorem jI_l {x : Int} (h : -2147483648 ≤ x ∧ x ≤ 2147483647) : (jI x).toInt64 = jL x := by
  rw [← Int64.toInt_inj, Int32.toInt_toInt64, jI_t h, jL_t (by omega)]
section
variable {X : z_X} {cc : ByteArray} {own : String} {ret : Option FieldType} {d n : Nat} {M : zM} {pc : Nat} {lv : List (Option Value)} {st : List Value}
theorem g_iadd (C : Cx cc own ret d n X) {x y : Int} (hd : decode cc pc = .ok (.iadd, 1)) (kk : G X M (pc + 1) lv (.int (jI (x + y)) :: st)) : G X M pc lv (.int (jI y) :: .int (jI x) :: st) := by
  obtain ⟨p, l, e, R, s, m, args, below, meth, c, Q, D, ad, ⟨cI, cJ, cO⟩, lo, cs, sl⟩ := X
  obtain ⟨hx, hb, -⟩ := C
  exact fun H locs ls hP hS hl => lv_iadd hx hb hd (by rw [jI_add]; exact kk H locs ls hP hS hl)
theorem g_isub (C : Cx cc own ret d n X) {x y : Int} (hd : decode cc pc = .ok (.isub, 1)) (kk : G X M (pc + 1) lv (.int (jI (x - y)) :: st)) : G X M pc lv (.int (jI y) :: .int (jI x) :: st) := by
  obtain ⟨p, l, e, R, s, m, args, below, meth, c, Q, D, ad, ⟨cI, cJ, cO⟩, lo, cs, sl⟩ := X
  obtain ⟨hx, hb, -⟩ := C
  exact fun H locs ls hP hS hl => lv_isub hx hb hd (by rw [jI_sub]; exact kk H locs ls hP hS hl)
theorem g_imul (C : Cx cc own ret d n X) {x y : Int} (hd : decode cc pc = .ok (.imul, 1)) (kk : G X M (pc + 1) lv (.int (jI (x * y)) :: st)) : G X M pc lv (.int (jI y) :: .int (jI x) :: st) := by
  obtain ⟨p, l, e, R, s, m, args, below, meth, c, Q, D, ad, ⟨cI, cJ, cO⟩, lo, cs, sl⟩ := X
  obtain ⟨hx, hb, -⟩ := C
  exact fun H locs ls hP hS hl => lv_imul hx hb hd (by rw [jI_mul]; exact kk H locs ls hP hS hl)
theorem g_ineg (C : Cx cc own ret d n X) {x : Int} (hd : decode cc pc = .ok (.ineg, 1)) (kk : G X M (pc + 1) lv (.int (jI (-x)) :: st)) : G X M pc lv (.int (jI x) :: st) := by
  obtain ⟨p, l, e, R, s, m, args, below, meth, c, Q, D, ad, ⟨cI, cJ, cO⟩, lo, cs, sl⟩ := X
  obtain ⟨hx, hb, -⟩ := C
  exact fun H locs ls hP hS hl => lv_ineg hx hb hd (by rw [jI_neg]; exact kk H locs ls hP hS hl)
theorem g_idiv (C : Cx cc own ret d n X) {x y : Int} (hd : decode cc pc = .ok (.idiv, 1)) (hX : 0 ≤ x ∧ x ≤ 2147483647) (hY : 0 < y ∧ y ≤ 2147483647) (kk : G X M (pc + 1) lv (.int (jI (x / y)) :: st)) : G X M pc lv (.int (jI y) :: .int (jI x) :: st) := by
  obtain ⟨p, l, e, R, s, m, args, below, meth, c, Q, D, ad, ⟨cI, cJ, cO⟩, lo, cs, sl⟩ := X
  obtain ⟨hx, hb, -⟩ := C
  exact fun H locs ls hP hS hl => lv_idiv hx hb hd (jI_ne0 (by omega) (by omega)) (by rw [jI_div hX hY]; exact kk H locs ls hP hS hl)
theorem g_irem (C : Cx cc own ret d n X) {x y : Int} (hd : decode cc pc = .ok (.irem, 1)) (hX : 0 ≤ x ∧ x ≤ 2147483647) (hY : 0 < y ∧ y ≤ 2147483647) (kk : G X M (pc + 1) lv (.int (jI (x % y)) :: st)) : G X M pc lv (.int (jI y) :: .int (jI x) :: st) := by
  obtain ⟨p, l, e, R, s, m, args, below, meth, c, Q, D, ad, ⟨cI, cJ, cO⟩, lo, cs, sl⟩ := X
  obtain ⟨hx, hb, -⟩ := C
  exact fun H locs ls hP hS hl => lv_irem hx hb hd (jI_ne0 (by omega) (by omega)) (by rw [jI_rem hX hY]; exact kk H locs ls hP hS hl)
theorem g_iremR (C : Cx cc own ret d n X) {x y : Int32} (hd : decode cc pc = .ok (.irem, 1)) (hY : ¬ y = 0) (kk : G X M (pc + 1) lv (.int (x - x / y * y) :: st)) : G X M pc lv (.int y :: .int x :: st) := by
  obtain ⟨p, l, e, R, s, m, args, below, meth, c, Q, D, ad, ⟨cI, cJ, cO⟩, lo, cs, sl⟩ := X
  obtain ⟨hx, hb, -⟩ := C
  exact fun H locs ls hP hS hl => lv_irem hx hb hd hY (kk H locs ls hP hS hl)
theorem g_iand (C : Cx cc own ret d n X) {x y : Int32} (hd : decode cc pc = .ok (.iand, 1)) (kk : G X M (pc + 1) lv (.int (x &&& y) :: st)) : G X M pc lv (.int y :: .int x :: st) := by
  obtain ⟨p, l, e, R, s, m, args, below, meth, c, Q, D, ad, ⟨cI, cJ, cO⟩, lo, cs, sl⟩ := X
  obtain ⟨hx, hb, -⟩ := C
  exact fun H locs ls hP hS hl => lv_iand hx hb hd (kk H locs ls hP hS hl)
theorem g_ixor (C : Cx cc own ret d n X) {x y : Int32} (hd : decode cc pc = .ok (.ixor, 1)) (kk : G X M (pc + 1) lv (.int (x ^^^ y) :: st)) : G X M pc lv (.int y :: .int x :: st) := by
  obtain ⟨p, l, e, R, s, m, args, below, meth, c, Q, D, ad, ⟨cI, cJ, cO⟩, lo, cs, sl⟩ := X
  obtain ⟨hx, hb, -⟩ := C
  exact fun H locs ls hP hS hl => lv_ixor hx hb hd (kk H locs ls hP hS hl)
theorem g_ishr (C : Cx cc own ret d n X) {x y : Int32} (hd : decode cc pc = .ok (.ishr, 1)) (kk : G X M (pc + 1) lv (.int (x >>> (y &&& 31)) :: st)) : G X M pc lv (.int y :: .int x :: st) := by
  obtain ⟨p, l, e, R, s, m, args, below, meth, c, Q, D, ad, ⟨cI, cJ, cO⟩, lo, cs, sl⟩ := X
  obtain ⟨hx, hb, -⟩ := C
  exact fun H locs ls hP hS hl => lv_ishr hx hb hd (kk H locs ls hP hS hl)
theorem g_i2l (C : Cx cc own ret d n X) {x : Int32} (hd : decode cc pc = .ok (.i2l, 1)) (kk : G X M (pc + 1) lv (.long x.toInt64 :: st)) : G X M pc lv (.int x :: st) := by
  obtain ⟨p, l, e, R, s, m, args, below, meth, c, Q, D, ad, ⟨cI, cJ, cO⟩, lo, cs, sl⟩ := X
  obtain ⟨hx, hb, -⟩ := C
  exact fun H locs ls hP hS hl => lv_i2l hx hb hd rfl (kk H locs ls hP hS hl)
theorem g_ladd (C : Cx cc own ret d n X) {x y : Int64} (hd : decode cc pc = .ok (.ladd, 1)) (kk : G X M (pc + 1) lv (.long (x + y) :: st)) : G X M pc lv (.long y :: .long x :: st) := by
  obtain ⟨p, l, e, R, s, m, args, below, meth, c, Q, D, ad, ⟨cI, cJ, cO⟩, lo, cs, sl⟩ := X
  obtain ⟨hx, hb, -⟩ := C
  exact fun H locs ls hP hS hl => lv_ladd hx hb hd (kk H locs ls hP hS hl)
theorem g_lmul (C : Cx cc own ret d n X) {x y : Int64} (hd : decode cc pc = .ok (.lmul, 1)) (kk : G X M (pc + 1) lv (.long (x * y) :: st)) : G X M pc lv (.long y :: .long x :: st) := by
  obtain ⟨p, l, e, R, s, m, args, below, meth, c, Q, D, ad, ⟨cI, cJ, cO⟩, lo, cs, sl⟩ := X
  obtain ⟨hx, hb, -⟩ := C
  exact fun H locs ls hP hS hl => lv_lmul hx hb hd (kk H locs ls hP hS hl)
theorem g_land (C : Cx cc own ret d n X) {x y : Int64} (hd : decode cc pc = .ok (.land, 1)) (kk : G X M (pc + 1) lv (.long (x &&& y) :: st)) : G X M pc lv (.long y :: .long x :: st) := by
  obtain ⟨p, l, e, R, s, m, args, below, meth, c, Q, D, ad, ⟨cI, cJ, cO⟩, lo, cs, sl⟩ := X
  obtain ⟨hx, hb, -⟩ := C
  exact fun H locs ls hP hS hl => lv_land hx hb hd (kk H locs ls hP hS hl)
theorem g_lor (C : Cx cc own ret d n X) {x y : Int64} (hd : decode cc pc = .ok (.lor, 1)) (kk : G X M (pc + 1) lv (.long (x ||| y) :: st)) : G X M pc lv (.long y :: .long x :: st) := by
  obtain ⟨p, l, e, R, s, m, args, below, meth, c, Q, D, ad, ⟨cI, cJ, cO⟩, lo, cs, sl⟩ := X
  obtain ⟨hx, hb, -⟩ := C
  exact fun H locs ls hP hS hl => lv_lor hx hb hd (kk H locs ls hP hS hl)
theorem g_lshl (C : Cx cc own ret d n X) {x : Int64} {y : Int32} (hd : decode cc pc = .ok (.lshl, 1)) (kk : G X M (pc + 1) lv (.long (x <<< (y.toInt64 &&& 63)) :: st)) : G X M pc lv (.int y :: .long x :: st) := by
  obtain ⟨p, l, e, R, s, m, args, below, meth, c, Q, D, ad, ⟨cI, cJ, cO⟩, lo, cs, sl⟩ := X
  obtain ⟨hx, hb, -⟩ := C
  exact fun H locs ls hP hS hl => lv_lshl hx hb hd rfl (kk H locs ls hP hS hl)
theorem g_lconst (C : Cx cc own ret d n X) {k : Fin 2} (hd : decode cc pc = .ok (.lconst k, 1)) (kk : G X M (pc + 1) lv (.long (Int64.ofNat k) :: st)) : G X M pc lv st := by
  obtain ⟨p, l, e, R, s, m, args, below, meth, c, Q, D, ad, ⟨cI, cJ, cO⟩, lo, cs, sl⟩ := X
  obtain ⟨hx, hb, -⟩ := C
  exact fun H locs ls hP hS hl => lv_lconst hx hb hd rfl (kk H locs ls hP hS hl)
theorem g_lcmp (C : Cx cc own ret d n X) {x y : Int64} (hd : decode cc pc = .ok (.lcmp, 1)) (k1 : x = y → G X M (pc + 1) lv (.int (jI 0) :: st)) (k2 : x ≠ y → ∀ z : Int, -1 ≤ z → z ≤ 1 → z ≠ 0 → G X M (pc + 1) lv (.int (jI z) :: st)) : G X M pc lv (.long y :: .long x :: st) := by
  by_cases hq : x = y
  · have e1 : lg_cmp x y = jI 0 := by subst hq; simp [lg_cmp, jI]
    replace k1 := k1 hq
    obtain ⟨p, l, e, R, s, m, args, below, meth, c, Q, D, ad, ⟨cI, cJ, cO⟩, lo, cs, sl⟩ := X
    obtain ⟨hx, hb, -⟩ := C
    exact fun H locs ls hP hS hl => W.lcmp hx hb hd (by rw [e1]; exact k1 H locs ls hP hS hl)
  · obtain ⟨z, e1, z1, z2, z3⟩ : ∃ z : Int, lg_cmp x y = jI z ∧ -1 ≤ z ∧ z ≤ 1 ∧ z ≠ 0 := by
      by_cases h1 : y < x
      · exact ⟨1, by simp [lg_cmp, jI, h1], by omega, by omega, by omega⟩
      · exact ⟨-1, by simp [lg_cmp, jI, h1, hq], by omega, by omega, by omega⟩
    replace k2 := k2 hq z z1 z2 z3
    obtain ⟨p, l, e, R, s, m, args, below, meth, c, Q, D, ad, ⟨cI, cJ, cO⟩, lo, cs, sl⟩ := X
    obtain ⟨hx, hb, -⟩ := C
    exact fun H locs ls hP hS hl => W.lcmp hx hb hd (by rw [e1]; exact k2 H locs ls hP hS hl)
theorem g_dcmp (C : Cx cc own ret d n X) {x y : UInt64} {op : CmpOp} (hd : decode cc pc = .ok (.dcmp op, 1)) (kk : G X M (pc + 1) lv (.int (Op.cmpValue (FP.dcmp x y) op) :: st)) : G X M pc lv (.double y :: .double x :: st) := by
  obtain ⟨p, l, e, R, s, m, args, below, meth, c, Q, D, ad, ⟨cI, cJ, cO⟩, lo, cs, sl⟩ := X
  obtain ⟨hx, hb, -⟩ := C
  exact fun H locs ls hP hS hl => lv_dcmp hx hb hd (kk H locs ls hP hS hl)
theorem g_ddiv (C : Cx cc own ret d n X) {x y : UInt64} (hd : decode cc pc = .ok (.ddiv, 1)) (hn : vf_n64 (FP.ddiv x y)) (kk : G X M (pc + 1) lv (.double (FP.ddiv x y) :: st)) : G X M pc lv (.double y :: .double x :: st) := by
  obtain ⟨p, l, e, R, s, m, args, below, meth, c, Q, D, ad, ⟨cI, cJ, cO⟩, lo, cs, sl⟩ := X
  obtain ⟨hx, hb, -⟩ := C
  exact fun H locs ls hP hS hl => lv_ddiv hx hb hd hn (kk H locs ls hP hS hl)
theorem g_i2d (C : Cx cc own ret d n X) {x : Int32} (hd : decode cc pc = .ok (.i2d, 1)) (kk : G X M (pc + 1) lv (.double (FP.i2d x) :: st)) : G X M pc lv (.int x :: st) := by
  obtain ⟨p, l, e, R, s, m, args, below, meth, c, Q, D, ad, ⟨cI, cJ, cO⟩, lo, cs, sl⟩ := X
  obtain ⟨hx, hb, -⟩ := C
  exact fun H locs ls hP hS hl => lv_i2d hx hb hd (kk H locs ls hP hS hl)
theorem g_dconst0 (C : Cx cc own ret d n X) (hd : decode cc pc = .ok (.dconst 0, 1)) (kk : G X M (pc + 1) lv (.double FP.dconst0 :: st)) : G X M pc lv st := by
  obtain ⟨p, l, e, R, s, m, args, below, meth, c, Q, D, ad, ⟨cI, cJ, cO⟩, lo, cs, sl⟩ := X
  obtain ⟨hx, hb, -⟩ := C
  exact fun H locs ls hP hS hl => lv_dconst0 hx hb hd (kk H locs ls hP hS hl)
theorem g_dconst1 (C : Cx cc own ret d n X) (hd : decode cc pc = .ok (.dconst 1, 1)) (kk : G X M (pc + 1) lv (.double FP.dconst1 :: st)) : G X M pc lv st := by
  obtain ⟨p, l, e, R, s, m, args, below, meth, c, Q, D, ad, ⟨cI, cJ, cO⟩, lo, cs, sl⟩ := X
  obtain ⟨hx, hb, -⟩ := C
  exact fun H locs ls hP hS hl => lv_dconst1 hx hb hd (kk H locs ls hP hS hl)
theorem g_ldc (C : Cx cc own ret d n X) {idx : Nat} {v : Int32} (hl0 : Cond.constant own idx v ∈ tT) (hd : decode cc pc = .ok (.ldc idx, 2)) (kk : G X M (pc + 2) lv (.int v :: st)) : G X M pc lv st := by
  obtain ⟨p, l, e, R, s, m, args, below, meth, c, Q, D, ad, ⟨cI, cJ, cO⟩, lo, cs, sl⟩ := X
  obtain ⟨hx, hb, -, -, ho, hts, -⟩ := C
  exact fun H locs ls hP hS hl => lv_ldc hx hb ho (hts _ hl0) hd (kk H locs ls hP hS hl)
theorem g_ldcw (C : Cx cc own ret d n X) {idx : Nat} {v : Int32} (hl0 : Cond.constant own idx v ∈ tT) (hd : decode cc pc = .ok (.ldc_w idx, 3)) (kk : G X M (pc + 3) lv (.int v :: st)) : G X M pc lv st := by
  obtain ⟨p, l, e, R, s, m, args, below, meth, c, Q, D, ad, ⟨cI, cJ, cO⟩, lo, cs, sl⟩ := X
  obtain ⟨hx, hb, -, -, ho, hts, -⟩ := C
  exact fun H locs ls hP hS hl => lv_ldcw hx hb ho (hts _ hl0) hd (kk H locs ls hP hS hl)
theorem g_ldc2 (C : Cx cc own ret d n X) {idx : Nat} {v : Int64} (hl0 : Cond.constantLong own idx v ∈ tT) (hd : decode cc pc = .ok (.ldc2_w idx, 3)) (kk : G X M (pc + 3) lv (.long v :: st)) : G X M pc lv st := by
  obtain ⟨p, l, e, R, s, m, args, below, meth, c, Q, D, ad, ⟨cI, cJ, cO⟩, lo, cs, sl⟩ := X
  obtain ⟨hx, hb, -, -, ho, hts, -⟩ := C
  exact fun H locs ls hP hS hl => lv_ldc2 hx hb ho (hts _ hl0) hd (kk H locs ls hP hS hl)
theorem g_iinc (C : Cx cc own ret d n X) {k : Nat} {a x : Int} (hd : decode cc pc = .ok (.iinc k a, 3)) (hv : lv[k]? = some (some (.int (jI x)))) (kk : G X M (pc + 3) (z_st lv k (.int (jI (x + a)))) st) : G X M pc lv st := by
  obtain ⟨p, l, e, R, s, m, args, below, meth, c, Q, D, ad, ⟨cI, cJ, cO⟩, lo, cs, sl⟩ := X
  obtain ⟨hx, hb, -⟩ := C
  intro H locs ls hP hS hl
  obtain ⟨q, hq⟩ := List.getElem?_of_mem ((zal_mem 0 lv).mpr ⟨Nat.zero_le _, hv⟩)
  exact lv_iinc hx hb hd hl hq (jI_add x a) (List.getElem?_eq_some_iff.mp hv).1 rfl fun ls' hl' => kk H locs ls' hP hS (by rw [zst_len]; exact zst_has hl')
theorem g_icmp_eq (C : Cx cc own ret d n X) {x y off : Int} {tgt : Nat} (hd : decode cc pc = .ok (.if_icmp .eq off, 3)) (ht : (pc : Int) + off = (tgt : Int)) (hX : -2147483648 ≤ x ∧ x ≤ 2147483647) (hY : -2147483648 ≤ y ∧ y ≤ 2147483647) (k1 : x = y → G X M tgt lv st) (k2 : x ≠ y → G X M (pc + 3) lv st) : G X M pc lv (.int (jI y) :: .int (jI x) :: st) := by
  obtain ⟨p, l, e, R, s, m, args, below, meth, c, Q, D, ad, ⟨cI, cJ, cO⟩, lo, cs, sl⟩ := X
  obtain ⟨hx, hb, -⟩ := C
  exact fun H locs ls hP hS hl => lv_icmp_eq hx hb hd ht (fun q => k1 ((jI_eq hX hY).mp q) H locs ls hP hS hl) (fun q => k2 (fun z => q ((jI_eq hX hY).mpr z)) H locs ls hP hS hl)
theorem g_if_eq (C : Cx cc own ret d n X) {x off : Int} {tgt : Nat} (hd : decode cc pc = .ok (.ifCond .eq off, 3)) (ht : (pc : Int) + off = (tgt : Int)) (hX : -2147483648 ≤ x ∧ x ≤ 2147483647) (k1 : x = 0 → G X M tgt lv st) (k2 : x ≠ 0 → G X M (pc + 3) lv st) : G X M pc lv (.int (jI x) :: st) := by
  obtain ⟨p, l, e, R, s, m, args, below, meth, c, Q, D, ad, ⟨cI, cJ, cO⟩, lo, cs, sl⟩ := X
  obtain ⟨hx, hb, -⟩ := C
  have hY : (-2147483648 : Int) ≤ 0 ∧ (0 : Int) ≤ 2147483647 := by omega
  exact fun H locs ls hP hS hl => lv_if_eq hx hb hd ht (fun q => k1 ((jI_eq hX hY).mp q) H locs ls hP hS hl) (fun q => k2 (fun z => q ((jI_eq hX hY).mpr z)) H locs ls hP hS hl)
theorem g_icmp_ne (C : Cx cc own ret d n X) {x y off : Int} {tgt : Nat} (hd : decode cc pc = .ok (.if_icmp .ne off, 3)) (ht : (pc : Int) + off = (tgt : Int)) (hX : -2147483648 ≤ x ∧ x ≤ 2147483647) (hY : -2147483648 ≤ y ∧ y ≤ 2147483647) (k1 : x ≠ y → G X M tgt lv st) (k2 : x = y → G X M (pc + 3) lv st) : G X M pc lv (.int (jI y) :: .int (jI x) :: st) := by
  obtain ⟨p, l, e, R, s, m, args, below, meth, c, Q, D, ad, ⟨cI, cJ, cO⟩, lo, cs, sl⟩ := X
  obtain ⟨hx, hb, -⟩ := C
  exact fun H locs ls hP hS hl => lv_icmp_ne hx hb hd ht (fun q => k1 (fun z => q ((jI_eq hX hY).mpr z)) H locs ls hP hS hl) (fun q => k2 ((jI_eq hX hY).mp q) H locs ls hP hS hl)
theorem g_if_ne (C : Cx cc own ret d n X) {x off : Int} {tgt : Nat} (hd : decode cc pc = .ok (.ifCond .ne off, 3)) (ht : (pc : Int) + off = (tgt : Int)) (hX : -2147483648 ≤ x ∧ x ≤ 2147483647) (k1 : x ≠ 0 → G X M tgt lv st) (k2 : x = 0 → G X M (pc + 3) lv st) : G X M pc lv (.int (jI x) :: st) := by
  obtain ⟨p, l, e, R, s, m, args, below, meth, c, Q, D, ad, ⟨cI, cJ, cO⟩, lo, cs, sl⟩ := X
  obtain ⟨hx, hb, -⟩ := C
  have hY : (-2147483648 : Int) ≤ 0 ∧ (0 : Int) ≤ 2147483647 := by omega
  exact fun H locs ls hP hS hl => lv_if_ne hx hb hd ht (fun q => k1 (fun z => q ((jI_eq hX hY).mpr z)) H locs ls hP hS hl) (fun q => k2 ((jI_eq hX hY).mp q) H locs ls hP hS hl)
theorem g_icmp_lt (C : Cx cc own ret d n X) {x y off : Int} {tgt : Nat} (hd : decode cc pc = .ok (.if_icmp .lt off, 3)) (ht : (pc : Int) + off = (tgt : Int)) (hX : -2147483648 ≤ x ∧ x ≤ 2147483647) (hY : -2147483648 ≤ y ∧ y ≤ 2147483647) (k1 : x < y → G X M tgt lv st) (k2 : y ≤ x → G X M (pc + 3) lv st) : G X M pc lv (.int (jI y) :: .int (jI x) :: st) := by
  obtain ⟨p, l, e, R, s, m, args, below, meth, c, Q, D, ad, ⟨cI, cJ, cO⟩, lo, cs, sl⟩ := X
  obtain ⟨hx, hb, -⟩ := C
  exact fun H locs ls hP hS hl => lv_icmp_lt hx hb hd ht (fun q => k1 ((jI_lt hX hY).mp q) H locs ls hP hS hl) (fun q => k2 (Int.not_lt.mp fun z => q ((jI_lt hX hY).mpr z)) H locs ls hP hS hl)
theorem g_if_lt (C : Cx cc own ret d n X) {x off : Int} {tgt : Nat} (hd : decode cc pc = .ok (.ifCond .lt off, 3)) (ht : (pc : Int) + off = (tgt : Int)) (hX : -2147483648 ≤ x ∧ x ≤ 2147483647) (k1 : x < 0 → G X M tgt lv st) (k2 : 0 ≤ x → G X M (pc + 3) lv st) : G X M pc lv (.int (jI x) :: st) := by
  obtain ⟨p, l, e, R, s, m, args, below, meth, c, Q, D, ad, ⟨cI, cJ, cO⟩, lo, cs, sl⟩ := X
  obtain ⟨hx, hb, -⟩ := C
  have hY : (-2147483648 : Int) ≤ 0 ∧ (0 : Int) ≤ 2147483647 := by omega
  exact fun H locs ls hP hS hl => lv_if_lt hx hb hd ht (fun q => k1 ((jI_lt hX hY).mp q) H locs ls hP hS hl) (fun q => k2 (Int.not_lt.mp fun z => q ((jI_lt hX hY).mpr z)) H locs ls hP hS hl)
theorem g_icmp_ge (C : Cx cc own ret d n X) {x y off : Int} {tgt : Nat} (hd : decode cc pc = .ok (.if_icmp .ge off, 3)) (ht : (pc : Int) + off = (tgt : Int)) (hX : -2147483648 ≤ x ∧ x ≤ 2147483647) (hY : -2147483648 ≤ y ∧ y ≤ 2147483647) (k1 : y ≤ x → G X M tgt lv st) (k2 : x < y → G X M (pc + 3) lv st) : G X M pc lv (.int (jI y) :: .int (jI x) :: st) := by
  obtain ⟨p, l, e, R, s, m, args, below, meth, c, Q, D, ad, ⟨cI, cJ, cO⟩, lo, cs, sl⟩ := X
  obtain ⟨hx, hb, -⟩ := C
  exact fun H locs ls hP hS hl => lv_icmp_ge hx hb hd ht (fun q => k1 ((jI_le hY hX).mp q) H locs ls hP hS hl) (fun q => k2 (Int.not_le.mp fun z => q ((jI_le hY hX).mpr z)) H locs ls hP hS hl)
theorem g_if_ge (C : Cx cc own ret d n X) {x off : Int} {tgt : Nat} (hd : decode cc pc = .ok (.ifCond .ge off, 3)) (ht : (pc : Int) + off = (tgt : Int)) (hX : -2147483648 ≤ x ∧ x ≤ 2147483647) (k1 : 0 ≤ x → G X M tgt lv st) (k2 : x < 0 → G X M (pc + 3) lv st) : G X M pc lv (.int (jI x) :: st) := by
  obtain ⟨p, l, e, R, s, m, args, below, meth, c, Q, D, ad, ⟨cI, cJ, cO⟩, lo, cs, sl⟩ := X
  obtain ⟨hx, hb, -⟩ := C
  have hY : (-2147483648 : Int) ≤ 0 ∧ (0 : Int) ≤ 2147483647 := by omega
  exact fun H locs ls hP hS hl => lv_if_ge hx hb hd ht (fun q => k1 ((jI_le hY hX).mp q) H locs ls hP hS hl) (fun q => k2 (Int.not_le.mp fun z => q ((jI_le hY hX).mpr z)) H locs ls hP hS hl)
theorem g_icmp_gt (C : Cx cc own ret d n X) {x y off : Int} {tgt : Nat} (hd : decode cc pc = .ok (.if_icmp .gt off, 3)) (ht : (pc : Int) + off = (tgt : Int)) (hX : -2147483648 ≤ x ∧ x ≤ 2147483647) (hY : -2147483648 ≤ y ∧ y ≤ 2147483647) (k1 : y < x → G X M tgt lv st) (k2 : x ≤ y → G X M (pc + 3) lv st) : G X M pc lv (.int (jI y) :: .int (jI x) :: st) := by
  obtain ⟨p, l, e, R, s, m, args, below, meth, c, Q, D, ad, ⟨cI, cJ, cO⟩, lo, cs, sl⟩ := X
  obtain ⟨hx, hb, -⟩ := C
  exact fun H locs ls hP hS hl => lv_icmp_gt hx hb hd ht (fun q => k1 ((jI_lt hY hX).mp q) H locs ls hP hS hl) (fun q => k2 (Int.not_lt.mp fun z => q ((jI_lt hY hX).mpr z)) H locs ls hP hS hl)
theorem g_if_gt (C : Cx cc own ret d n X) {x off : Int} {tgt : Nat} (hd : decode cc pc = .ok (.ifCond .gt off, 3)) (ht : (pc : Int) + off = (tgt : Int)) (hX : -2147483648 ≤ x ∧ x ≤ 2147483647) (k1 : 0 < x → G X M tgt lv st) (k2 : x ≤ 0 → G X M (pc + 3) lv st) : G X M pc lv (.int (jI x) :: st) := by
  obtain ⟨p, l, e, R, s, m, args, below, meth, c, Q, D, ad, ⟨cI, cJ, cO⟩, lo, cs, sl⟩ := X
  obtain ⟨hx, hb, -⟩ := C
  have hY : (-2147483648 : Int) ≤ 0 ∧ (0 : Int) ≤ 2147483647 := by omega
  exact fun H locs ls hP hS hl => lv_if_gt hx hb hd ht (fun q => k1 ((jI_lt hY hX).mp q) H locs ls hP hS hl) (fun q => k2 (Int.not_lt.mp fun z => q ((jI_lt hY hX).mpr z)) H locs ls hP hS hl)
theorem g_icmp_le (C : Cx cc own ret d n X) {x y off : Int} {tgt : Nat} (hd : decode cc pc = .ok (.if_icmp .le off, 3)) (ht : (pc : Int) + off = (tgt : Int)) (hX : -2147483648 ≤ x ∧ x ≤ 2147483647) (hY : -2147483648 ≤ y ∧ y ≤ 2147483647) (k1 : x ≤ y → G X M tgt lv st) (k2 : y < x → G X M (pc + 3) lv st) : G X M pc lv (.int (jI y) :: .int (jI x) :: st) := by
  obtain ⟨p, l, e, R, s, m, args, below, meth, c, Q, D, ad, ⟨cI, cJ, cO⟩, lo, cs, sl⟩ := X
  obtain ⟨hx, hb, -⟩ := C
  exact fun H locs ls hP hS hl => lv_icmp_le hx hb hd ht (fun q => k1 ((jI_le hX hY).mp q) H locs ls hP hS hl) (fun q => k2 (Int.not_le.mp fun z => q ((jI_le hX hY).mpr z)) H locs ls hP hS hl)
theorem g_if_le (C : Cx cc own ret d n X) {x off : Int} {tgt : Nat} (hd : decode cc pc = .ok (.ifCond .le off, 3)) (ht : (pc : Int) + off = (tgt : Int)) (hX : -2147483648 ≤ x ∧ x ≤ 2147483647) (k1 : x ≤ 0 → G X M tgt lv st) (k2 : 0 < x → G X M (pc + 3) lv st) : G X M pc lv (.int (jI x) :: st) := by
  obtain ⟨p, l, e, R, s, m, args, below, meth, c, Q, D, ad, ⟨cI, cJ, cO⟩, lo, cs, sl⟩ := X
  obtain ⟨hx, hb, -⟩ := C
  have hY : (-2147483648 : Int) ≤ 0 ∧ (0 : Int) ≤ 2147483647 := by omega
  exact fun H locs ls hP hS hl => lv_if_le hx hb hd ht (fun q => k1 ((jI_le hX hY).mp q) H locs ls hP hS hl) (fun q => k2 (Int.not_le.mp fun z => q ((jI_le hX hY).mpr z)) H locs ls hP hS hl)
end
end
section
/-! fields, arrays, calls, ends -/
section
variable {X : z_X} {cc : ByteArray} {own : String} {ret : Option FieldType} {d n : Nat} {M : zM} {pc : Nat} {lv : List (Option Value)} {st : List Value}
theorem g_getf (C : Cx cc own ret d n X) {Cn : String} {T : u_T} {N ci o idx k : Nat} {fs : (Nat → Nat) → List Value} {v : (Nat → Nat) → Value} (ho : o < 97) (he : ∀ ad cI cJ cO, z_e ad cI cJ cO o (M o) = .inr (ci, fs ad)) (hc : vwCl[ci]? = some (Cn, T, N)) (hu : ∀ w ∈ u_ws Cn T N, w ∈ tT) (hk : k < N)
    (hl0 : Cond.fieldLink own idx (T k).1 (T k).2.1 (T k).2.2.1 ∈ tT) (hv : ∀ ad, (fs ad)[k]? = some (v ad)) (hd : decode cc pc = .ok (.getfield idx, 3)) (kk : G X M (pc + 3) lv (v (zA X) :: st)) : G X M pc lv (.ref (zA X o) :: st) := by
  obtain ⟨p, l, e, R, s, m, args, below, meth, c, Q, D, ad, ⟨cI, cJ, cO⟩, lo, cs, sl⟩ := X
  obtain ⟨hx, hb, -, -, hown, hts, hK, -⟩ := C
  exact fun H locs ls hP hS hl => va_get hx hb hts hu hown hK hP o (by rw [zw_at ho, he]; rfl) hc k hk (hts _ hl0) (fun _ h => h) (hv ad) hd (kk H locs ls hP hS hl)
theorem g_putf (C : Cx cc own ret d n X) {Cn : String} {T : u_T} {N ci o idx k : Nat} {fs : (Nat → Nat) → List Value} {ty0 : Nat → FieldType} {ty : FieldType} {v : Value} {m' : Nat → Int} (ho : o < 97) (he : ∀ ad cI cJ cO, z_e ad cI cJ cO o (M o) = .inr (ci, fs ad)) (hc : vwCl[ci]? = some (Cn, T, N)) (hu : ∀ w ∈ u_ws Cn T N, w ∈ tT)
    (hty : ∀ k, k < N → parseFieldDescriptor (T k).2.2.1 = some (ty0 k)) (hnm : ∀ a, a < N → ∀ b, b < N → a ≠ b → (T a).2.1 ≠ (T b).2.1) (hk : k < N) (hl0 : Cond.fieldLink own idx (T k).1 (T k).2.1 (T k).2.2.1 ∈ tT) (hfin : (T k).2.2.2 = false) (hd0 : parseFieldDescriptor (T k).2.2.1 = some ty) (hn : narrow ty v = v) (hfit : fits ty v = true) (hlen : ∀ ad, k < (fs ad).length)
    (hset : ∀ ad cI cJ cO, z_e ad cI cJ cO o m' = .inr (ci, (fs ad).set k v)) (hd : decode cc pc = .ok (.putfield idx, 3)) (kk : G X (va_up M o m') (pc + 3) lv st) : G X M pc lv (v :: .ref (zA X o) :: st) := by
  obtain ⟨p, l, e, R, s, m, args, below, meth, c, Q, D, ad, ⟨cI, cJ, cO⟩, lo, cs, sl⟩ := X
  obtain ⟨hx, hb, -, -, hown, hts, hK, -, hD, -⟩ := C
  refine fun H locs ls hP hS hl => va_put hx hb hts hu ty0 hty hnm hown hK hP (hD M) hS o (by rw [zw_at ho, he]; rfl) hc k hk (hts _ hl0) (fun _ h => h) hfin hd0 hn hfit (hlen ad) hd fun H1 locs1 hP1 _ hS1 => ?_
  rw [← hset ad cI cJ cO] at hP1
  change va_P D vwCl ((z_w ad cI cJ cO M).set o (ad o, _)) H1 at hP1
  rw [zw_set ho] at hP1
  exact kk H1 locs1 ls hP1 hS1 hl
theorem z_updI (f : Nat → Int) (i : Nat) (x : Int) : (fun j => jI (va_up f i x j)) = upd (fun j => jI (f j)) i (jI x) := by
  funext j
  by_cases h : j = i <;> simp [va_up, upd, h]
theorem z_updL (f : Nat → Int) (i : Nat) (x : Int) : (fun j => jL (va_up f i x j)) = vp_updL (fun j => jL (f j)) i (jL x) := by
  funext j
  by_cases h : j = i <;> simp [va_up, vp_updL, h]
theorem g_iald (C : Cx cc own ret d n X) {o N i : Nat} {x : Int} (ho : o < 97) (hN : N < 2 ^ 31) (he : ∀ ad cI cJ cO, z_e ad cI cJ cO o (M o) = .inl (cI, N, .inl (fun j => jI (M o j)))) (hi : i < N) (hx : x = (i : Int)) (hd : decode cc pc = .ok (.iaload, 1)) (kk : G X M (pc + 1) lv (.int (jI (M o i)) :: st)) : G X M pc lv (.int (jI x) :: .ref (zA X o) :: st) := by
  obtain ⟨p, l, e, R, s, m, args, below, meth, c, Q, D, ad, ⟨cI, cJ, cO⟩, lo, cs, sl⟩ := X
  obtain ⟨hx', hb, -, -, -, -, hK, -⟩ := C
  subst hx
  refine fun H locs ls hP hS hl => va_iald hx' hb hK hP o 0 (by rw [zw_at ho, he]; rfl) rfl (jI_in hi hN) hd ?_
  rw [jI_cl (by omega)]
  exact kk H locs ls hP hS hl
theorem g_iast (C : Cx cc own ret d n X) {o N i : Nat} {x v : Int} (ho : o < 97) (hN : N < 2 ^ 31) (he : ∀ (f : Nat → Int) ad cI cJ cO, z_e ad cI cJ cO o f = .inl (cI, N, .inl (fun j => jI (f j)))) (hi : i < N) (hx : x = (i : Int)) (hd : decode cc pc = .ok (.iastore, 1)) (kk : G X (zu M o i v) (pc + 1) lv st) : G X M pc lv (.int (jI v) :: .int (jI x) :: .ref (zA X o) :: st) := by
  obtain ⟨p, l, e, R, s, m, args, below, meth, c, Q, D, ad, ⟨cI, cJ, cO⟩, lo, cs, sl⟩ := X
  obtain ⟨hx', hb, -, -, -, -, hK, -, hD, -⟩ := C
  subst hx
  refine fun H locs ls hP hS hl => va_iast hx' hb hK hP (hD M) hS o 0 (by rw [zw_at ho, he]; rfl) rfl (jI_in hi hN) hd fun H1 locs1 hP1 _ hS1 => ?_
  rw [jI_cl (by omega), ← z_updI, ← he (va_up (M o) i v) ad cI cJ cO] at hP1
  change va_P D vwCl ((z_w ad cI cJ cO M).set o (ad o, _)) H1 at hP1
  rw [zw_set ho] at hP1
  exact kk H1 locs1 ls hP1 hS1 hl
theorem g_lald (C : Cx cc own ret d n X) {i : Nat} {x : Int} (hi : i < 32) (hx : x = (i : Int)) (hd : decode cc pc = .ok (.laload, 1)) (kk : G X M (pc + 1) lv (.long (jL (M 94 i)) :: st)) : G X M pc lv (.int (jI x) :: .ref (zA X 94) :: st) := by
  obtain ⟨p, l, e, R, s, m, args, below, meth, c, Q, D, ad, ⟨cI, cJ, cO⟩, lo, cs, sl⟩ := X
  obtain ⟨hx', hb, -, -, -, -, hK, -⟩ := C
  subst hx
  refine fun H locs ls hP hS hl => va_lald (f := fun j => jL (M 94 j)) hx' hb hK hP 94 1 (by rw [zw_at (by omega), ze_words]; rfl) rfl (jI_in hi (by omega)) hd ?_
  rw [jI_cl (by omega)]
  exact kk H locs ls hP hS hl
theorem g_last (C : Cx cc own ret d n X) {i : Nat} {x v : Int} (hi : i < 32) (hx : x = (i : Int)) (hd : decode cc pc = .ok (.lastore, 1)) (kk : G X (zu M 94 i v) (pc + 1) lv st) : G X M pc lv (.long (jL v) :: .int (jI x) :: .ref (zA X 94) :: st) := by
  obtain ⟨p, l, e, R, s, m, args, below, meth, c, Q, D, ad, ⟨cI, cJ, cO⟩, lo, cs, sl⟩ := X
  obtain ⟨hx', hb, -, -, -, -, hK, -, hD, -⟩ := C
  subst hx
  refine fun H locs ls hP hS hl => va_last (f := fun j => jL (M 94 j)) hx' hb hK hP (hD M) hS 94 1 (by rw [zw_at (by omega), ze_words]; rfl) rfl (jI_in hi (by omega)) hd fun H1 locs1 hP1 _ hS1 => ?_
  rw [jI_cl (by omega), ← z_updL, ← ze_words (ad := ad) (cI := cI) (cJ := cJ) (cO := cO) (m := va_up (M 94) i v)] at hP1
  change va_P D vwCl ((z_w ad cI cJ cO M).set 94 (ad 94, _)) H1 at hP1
  rw [zw_set (by omega)] at hP1
  exact kk H1 locs1 ls hP1 hS1 hl
theorem g_alen (C : Cx cc own ret d n X) {o N t0 : Nat} {cA : (ClassId × ClassId × ClassId) → ClassId} {ty : FieldType} {f : (Nat → Nat) → (Nat → Int32) ⊕ (Nat → Int64) ⊕ (Nat → UInt32) ⊕ (Nat → UInt64) ⊕ (Nat → Option Nat)} (ho : o < 97) (he : ∀ ad cI cJ cO, z_e ad cI cJ cO o (M o) = .inl (cA (cI, cJ, cO), N, f ad)) (ht : ∀ cI cJ cO, (z_tys cI cJ cO)[t0]? = some (cA (cI, cJ, cO), ty)) (hd : decode cc pc = .ok (.arraylength, 1)) (kk : G X M (pc + 1) lv (.int (jI (N : Int)) :: st)) : G X M pc lv (.ref (zA X o) :: st) := by
  obtain ⟨p, l, e, R, s, m, args, below, meth, c, Q, D, ad, ⟨cI, cJ, cO⟩, lo, cs, sl⟩ := X
  obtain ⟨hx', hb, -, -, -, -, hK, -⟩ := C
  exact fun H locs ls hP hS hl => va_alen (x := (N, f ad)) hx' hb hK hP o t0 (by rw [zw_at ho, he]; rfl) (ht cI cJ cO) (jI_n N).symm hd (kk H locs ls hP hS hl)
theorem g_aald (C : Cx cc own ret d n X) {o N i : Nat} {x : Int} {f : (Nat → Nat) → Nat → Option Nat} (ho : o < 97) (hN : N < 2 ^ 31) (he : ∀ ad cI cJ cO, z_e ad cI cJ cO o (M o) = .inl (cO, N, .inr (.inr (.inr (.inr (f ad)))))) (hi : i < N) (hx : x = (i : Int)) (hd : decode cc pc = .ok (.aaload, 1)) (kk : G X M (pc + 1) lv (va_rf (f (zA X) i) :: st)) : G X M pc lv (.int (jI x) :: .ref (zA X o) :: st) := by
  obtain ⟨p, l, e, R, s, m, args, below, meth, c, Q, D, ad, ⟨cI, cJ, cO⟩, lo, cs, sl⟩ := X
  obtain ⟨hx', hb, -, -, -, -, hK, -⟩ := C
  subst hx
  refine fun H locs ls hP hS hl => va_aldq hx' hb hK hP o 2 (by rw [zw_at ho, he]; rfl) rfl (jI_in hi hN) hd ?_
  rw [jI_cl (by omega)]
  exact kk H locs ls hP hS hl
theorem z_updR (ad : Nat → Nat) (f : Nat → Int) (i r : Nat) : (fun j => z_rw ad (va_up f i (r : Int) j)) = va_up (fun j => z_rw ad (f j)) i (some (ad (3 * r))) := by
  funext j
  by_cases h : j = i
  · have : ¬ (r : Int) < 0 := by omega
    simp [va_up, h, z_rw, this]
  · simp [va_up, h]
/-- the tournament's row of rows: a place set to row r -/
theorem g_trows (C : Cx cc own ret d n X) {i r : Nat} {x : Int} (hr : r < 20) (hi : i < 8) (hx : x = (i : Int)) (hd : decode cc pc = .ok (.aastore, 1)) (kk : G X (zu M 85 i (r : Int)) (pc + 1) lv st) : G X M pc lv (.ref (zA X (3 * r)) :: .int (jI x) :: .ref (zA X 85) :: st) := by
  obtain ⟨p, l, e, R, s, m, args, below, meth, c, Q, D, ad, ⟨cI, cJ, cO⟩, lo, cs, sl⟩ := X
  obtain ⟨hx', hb, -, -, -, -, hK, -, hD, -⟩ := C
  subst hx
  refine fun H locs ls hP hS hl => va_astq (f := fun j => z_rw ad (M 85 j)) hx' hb hK hP (hD M) hS 85 2 (3 * r) 5 (r := (RX5, TX5, 3)) (by rw [zw_at (by omega), ze_trows]; rfl) rfl (by rw [zw_at (by omega), ze_row hr]; rfl) rfl (jI_in hi (by omega)) hd fun H1 locs1 hP1 _ hS1 => ?_
  rw [jI_cl (by omega)] at hP1
  change va_P D vwCl ((z_w ad cI cJ cO M).set 85 (ad 85, .inl (cO, 8, .inr (.inr (.inr (.inr (va_up (fun j => z_rw ad (M 85 j)) i (some (ad (3 * r)))))))))) H1 at hP1
  rw [← z_updR ad (M 85) i r, ← ze_trows (ad := ad) (cI := cI) (cJ := cJ) (cO := cO) (m := va_up (M 85) i (r : Int)), zw_set (by omega)] at hP1
  exact kk H1 locs1 ls hP1 hS1 hl
/-! calls -/
theorem z_call {p : Program} {l : Launch} {e : Env} {R : Room} {s : State} {m : MethodId} {args : Array Value} {below : List Frame} {meth : Method} {c : Code} {H : Heap} {locs : List Loc} {cells slots : Nat} {Q : State → Prop} {ls : Array Slot} {rest st0 : List Value} {a : Array Value} {H0 : Heap} {D : va_G} {ad : Nat → Nat} {cI cJ cO : ClassId} {lo : Nat} {post : Option Value → zM → Prop}
    (hr : va_Run p l e R s m args below meth c H locs cells slots 0 0 (F0 m pc ls st0) rest (z_Q D ad cI cJ cO lo post a) (fun q => lo ≤ q)) (hS : va_S (fun q => lo ≤ q) H0 H locs)
    (kk : ∀ (v : Option Value) (M' : zM) (H1 : Heap) (locs1 : List Loc), post v M' → va_P D vwCl (z_w ad cI cJ cO M') H1 → va_S (fun q => lo ≤ q) H0 H1 locs1 → W p l e R s m args below meth c H1 locs1 cells slots Q (F0 m (pc + 3) ls (v.toList ++ rest))) : W p l e R s m args below meth c H locs cells slots Q (F0 m pc ls st0) := by
  intro T hT X
  obtain ⟨v, st₀, t, T', L, h0, X', hL, e1, e2, ⟨⟨v2, M', hv, hp, hb⟩, hz, hk⟩, st⟩ := hr T hT X
  cases hv
  rw [h0] at hz hk
  obtain ⟨t2, a1, b1⟩ := kk v M' T'.heap (locs ++ L) hp (by rw [e1]; exact hb)
    ⟨Nat.le_trans hS.1 (by rw [e1]; exact hz), fun q h1 h2 => by rw [e1, hk q (Nat.lt_of_lt_of_le h1 hS.1) h2]; exact hS.2.1 q h1 h2, fun q hq => by
      rcases List.mem_append.mp hq with h | h
      · exact hS.2.2 q h
      · exact hL q h⟩ T' rfl X'
  exact ⟨t2, st t2 a1, b1⟩
theorem z_blind {As : List Value} {D : va_G} {ad : Nat → Nat} {cI cJ cO : ClassId} {lo : Nat} : FrameBlind (va_Pc As (z_B D ad cI cJ cO lo M)) := fun a U g mk h => ⟨h.1, h.2.1, va_K.moved (u := U) (U := U.calling g mk a) (Vm.Alike.refl U.vm) h.2.2.1, z_N.same (u := U) (U := U.calling g mk a) rfl h.2.2.2.1, h.2.2.2.2⟩
theorem z_good {y : MethodName} {cc' : ByteArray} {n' : Nat} {ret' : Option FieldType} (h : Cond.code y cc' n' ret' ∈ tT) : GoodIn tT (tW y cc' n' ret') := fun w hw => by
  rcases List.mem_cons.mp hw with rfl | hw
  · exact ⟨h, tT_good h⟩
  · exact ⟨hw, tT_good hw⟩
theorem g_callV (C : Cx cc own ret d n X) {y : MethodName} {cc' : ByteArray} {n' d' idx k o ci N : Nat} {ret' : Option FieldType} {As : (Nat → Nat) → List Value} {post : (Nat → Nat) → Option Value → zM → Prop} {Cn : String} {T : u_T} {fs : (Nat → Nat) → List Value} {As' rest st0 : List Value}
    (hM : Mt (zL X) d' y cc' n' ret' As M post) (hm : mV Cn y cc' n' ret') (hl0 : Cond.methodLink own idx y ∈ tT) (hy : y.cls = Cn ∧ y.cls ≠ "java/lang/invoke/MethodHandle" ∧ y.cls ≠ "java/lang/invoke/VarHandle" ∧ (parseMethodDescriptor y.desc).map (fun d => d.parameters.length) = some k) (hdep : d' + 1 ≤ d ∧ n' ≤ 20)
    (ho : o < 97) (he : ∀ ad cI cJ cO, z_e ad cI cJ cO o (M o) = .inr (ci, fs ad)) (hc : vwCl[ci]? = some (Cn, T, N)) (hAs : As (zA X) = .ref (zA X o) :: As') (hk : As'.length = k) (hst : st0 = As'.reverse ++ .ref (zA X o) :: rest) (hcat : (rest.map fun v => v.category).sum ≤ 8) (hlen : lv.length = n) (hd : decode cc pc = .ok (.invokevirtual idx, 3))
    (kk : ∀ (v : Option Value) (M' : zM), post (zA X) v M' → G X M' (pc + 3) lv (v.toList ++ rest)) : G X M pc lv st0 := by
  obtain ⟨p, l, e, R, s, m, args, below, meth, c, Q, D, ad, ⟨cI, cJ, cO⟩, lo, cs, sl⟩ := X
  obtain ⟨hx, hb, hr, hml, hown, hts, hK, hN, hD, hlk, ⟨hR1, hR2⟩, hR3⟩ := C
  intro H locs ls hP hS hl
  have hM1 := hM D ad cI cJ cO lo
  have hAs1 : As ad = .ref (ad o) :: As' := hAs
  rw [hAs1] at hM1
  have hobj := zw_at (ad := ad) (cI := cI) (cJ := cJ) (cO := cO) (M := M) ho
  rw [he] at hobj
  refine z_call (va_runV (As := As') (rest := rest) (C := Cn) (b := ad o) (own := own) (index := idx) (n := k) (nL := n) (bytes := cc') (maxL := n') (ret := ret') ⟨hx, hb, hml, hown, hts⟩ hM1 ⟨callB_of k hts (z_good hm.1) rfl rfl rfl (by rw [hy.1]; exact hts _ hm.2.2.2) (hts _ hl0) hy.2 ⟨by show d' + 1 ≤ R.frames; omega, by show 8 + (n' + 11) + 40 * d' ≤ R.locals; omega⟩, hts _ hm.2.1, hts _ hm.2.2.1⟩ ⟨z_blind, va_recv hK hP hc hobj, fun U hU hW => ⟨rfl, by rw [hU]; exact hP, va_K.moved hW.alike hK, hN.warm hW, hD⟩⟩ rfl hk (hl.1.trans hlen) hst (lv_room hcat) hd ⟨by omega, by omega⟩) hS fun v M' H1 locs1 hp hP1 hS1 => kk v M' hp H1 locs1 ls hP1 hS1 hl
theorem g_callS (C : Cx cc own ret d n X) {y : MethodName} {cc' : ByteArray} {n' d' idx k : Nat} {ret' : Option FieldType} {As : (Nat → Nat) → List Value} {post : (Nat → Nat) → Option Value → zM → Prop} {Cn : String} {As' rest st0 : List Value}
    (hM : Mt (zL X) d' y cc' n' ret' As M post) (hm : mS Cn y cc' n' ret') (hl0 : Cond.methodLink own idx y ∈ tT) (hy : y.cls = Cn ∧ y.cls ≠ "java/lang/invoke/MethodHandle" ∧ y.cls ≠ "java/lang/invoke/VarHandle" ∧ (parseMethodDescriptor y.desc).map (fun d => d.parameters.length) = some k) (hdep : d' + 1 ≤ d ∧ n' ≤ 20)
    (hAs : As (zA X) = As') (hk : As'.length = k) (hst : st0 = As'.reverse ++ rest) (hcat : (rest.map fun v => v.category).sum ≤ 8) (hlen : lv.length = n) (hd : decode cc pc = .ok (.invokestatic idx, 3))
    (kk : ∀ (v : Option Value) (M' : zM), post (zA X) v M' → G X M' (pc + 3) lv (v.toList ++ rest)) : G X M pc lv st0 := by
  obtain ⟨p, l, e, R, s, m, args, below, meth, c, Q, D, ad, ⟨cI, cJ, cO⟩, lo, cs, sl⟩ := X
  obtain ⟨hx, hb, hr, hml, hown, hts, hK, hN, hD, hlk, ⟨hR1, hR2⟩, hR3⟩ := C
  intro H locs ls hP hS hl
  have hM1 := hM D ad cI cJ cO lo
  have hAs1 : As ad = As' := hAs
  rw [hAs1] at hM1
  refine z_call (va_runS (As := As') (rest := rest) (own := own) (index := idx) (n := k) (nL := n) (bytes := cc') (maxL := n') (ret := ret') ⟨hx, hb, hml, hown, hts⟩ hM1 ⟨callB_of k hts (z_good hm.1) rfl rfl rfl (by rw [hy.1]; exact hts _ hm.2.2) (hts _ hl0) hy.2 ⟨by show d' + 1 ≤ R.frames; omega, by show 8 + (n' + 11) + 40 * d' ≤ R.locals; omega⟩, hts _ hm.2.1⟩ ⟨z_blind, fun U hU hW => ⟨rfl, by rw [hU]; exact hP, va_K.moved hW.alike hK, hN.warm hW, hD⟩⟩ rfl hk (hl.1.trans hlen) hst (lv_room hcat) hd ⟨by omega, by omega⟩) hS fun v M' H1 locs1 hp hP1 hS1 => kk v M' hp H1 locs1 ls hP1 hS1 hl
/-- a private static method of the nest's host -/
theorem g_callSN (C : Cx cc own ret d n X) {y : MethodName} {cc' : ByteArray} {n' d' idx k : Nat} {ret' : Option FieldType} {As : (Nat → Nat) → List Value} {post : (Nat → Nat) → Option Value → zM → Prop} {Cn host : String} {As' rest st0 : List Value}
    (hM : Mt (zL X) d' y cc' n' ret' As M post) (hm : mS Cn y cc' n' ret') (hl0 : ∀ U, z_N U → va_Nw (.methodLinkNest own idx y host) U) (hy : y.cls = Cn ∧ y.cls ≠ "java/lang/invoke/MethodHandle" ∧ y.cls ≠ "java/lang/invoke/VarHandle" ∧ (parseMethodDescriptor y.desc).map (fun d => d.parameters.length) = some k) (hdep : d' + 1 ≤ d ∧ n' ≤ 20)
    (hAs : As (zA X) = As') (hk : As'.length = k) (hst : st0 = As'.reverse ++ rest) (hcat : (rest.map fun v => v.category).sum ≤ 8) (hlen : lv.length = n) (hd : decode cc pc = .ok (.invokestatic idx, 3))
    (kk : ∀ (v : Option Value) (M' : zM), post (zA X) v M' → G X M' (pc + 3) lv (v.toList ++ rest)) : G X M pc lv st0 := by
  obtain ⟨p, l, e, R, s, m, args, below, meth, c, Q, D, ad, ⟨cI, cJ, cO⟩, lo, cs, sl⟩ := X
  obtain ⟨hx, hb, hr, hml, hown, hts, hK, hN, hD, hlk, ⟨hR1, hR2⟩, hR3⟩ := C
  intro H locs ls hP hS hl
  have hM1 := hM D ad cI cJ cO lo
  have hAs1 : As ad = As' := hAs
  rw [hAs1] at hM1
  refine z_call (va_runSN (As := As') (rest := rest) (own := own) (index := idx) (n := k) (nL := n) (bytes := cc') (maxL := n') (ret := ret') ⟨hx, hb, hml, hown, hts⟩ hM1 ⟨va_cnB k hts (z_good hm.1) rfl rfl rfl (hl0 _ hN) (by rw [hy.1]; exact hts _ hm.2.2) hy.2 ⟨by show d' + 1 ≤ R.frames; omega, by show 8 + (n' + 11) + 40 * d' ≤ R.locals; omega⟩, hts _ hm.2.1, trivial⟩ ⟨z_blind, fun U hU hW => ⟨rfl, by rw [hU]; exact hP, va_K.moved hW.alike hK, hN.warm hW, hD⟩⟩ rfl hk (hl.1.trans hlen) hst (lv_room hcat) hd ⟨by omega, by omega⟩) hS fun v M' H1 locs1 hp hP1 hS1 => kk v M' hp H1 locs1 ls hP1 hS1 hl
/-! ends -/
variable {post : (Nat → Nat) → Option Value → zM → Prop}
theorem g_vret (C : Cx cc own none d n X) (hR : Rx post X) (hd : decode cc pc = .ok (.return_, 1)) (hp : post (zA X) none M) : G X M pc lv [] := by
  obtain ⟨p, l, e, R, s, m, args, below, meth, c, Q, D, ad, ⟨cI, cJ, cO⟩, lo, cs, sl⟩ := X
  obtain ⟨hx, hb, hr, hml, hown, hts, hK, hN, hD, hlk, -⟩ := C
  have hR : Q = MQ below (z_Q D ad cI cJ cO lo (post ad)) args s cs sl (fun q => lo ≤ q) := hR
  subst hR
  exact fun H locs ls hP hS hl => W.vret hx hb hr (fun t ht _ => ⟨⟨none, M, rfl, hp, by rw [ht]; exact hP⟩, hS.F ht⟩) hS.2.2 hd hlk
theorem g_iret (C : Cx cc own (some .int) d n X) (hR : Rx post X) {v : Int32} (hd : decode cc pc = .ok (.ireturn, 1)) (hp : post (zA X) (some (.int v)) M) : G X M pc lv [.int v] := by
  obtain ⟨p, l, e, R, s, m, args, below, meth, c, Q, D, ad, ⟨cI, cJ, cO⟩, lo, cs, sl⟩ := X
  obtain ⟨hx, hb, hr, hml, hown, hts, hK, hN, hD, hlk, -⟩ := C
  have hR : Q = MQ below (z_Q D ad cI cJ cO lo (post ad)) args s cs sl (fun q => lo ≤ q) := hR
  subst hR
  exact fun H locs ls hP hS hl => W.iret hx hb hr (fun t ht _ => ⟨⟨_, M, rfl, hp, by rw [ht]; exact hP⟩, hS.F ht⟩) hS.2.2 hd hlk
theorem g_zret (C : Cx cc own (some .boolean) d n X) (hR : Rx post X) {x : Int} (hz : x = 0 ∨ x = 1) (hd : decode cc pc = .ok (.ireturn, 1)) (hp : post (zA X) (some (.int (jI x))) M) : G X M pc lv [.int (jI x)] := by
  obtain ⟨p, l, e, R, s, m, args, below, meth, c, Q, D, ad, ⟨cI, cJ, cO⟩, lo, cs, sl⟩ := X
  obtain ⟨hx, hb, hr, hml, hown, hts, hK, hN, hD, hlk, -⟩ := C
  have hR : Q = MQ below (z_Q D ad cI cJ cO lo (post ad)) args s cs sl (fun q => lo ≤ q) := hR
  subst hR
  exact fun H locs ls hP hS hl => W.zret hx hb hr (by rcases hz with rfl | rfl <;> rfl) (fun t ht _ => ⟨⟨_, M, rfl, hp, by rw [ht]; exact hP⟩, hS.F ht⟩) hS.2.2 hd hlk
theorem g_lret (C : Cx cc own (some .long) d n X) (hR : Rx post X) {v : Int64} (hd : decode cc pc = .ok (.lreturn, 1)) (hp : post (zA X) (some (.long v)) M) : G X M pc lv [.long v] := by
  obtain ⟨p, l, e, R, s, m, args, below, meth, c, Q, D, ad, ⟨cI, cJ, cO⟩, lo, cs, sl⟩ := X
  obtain ⟨hx, hb, hr, hml, hown, hts, hK, hN, hD, hlk, -⟩ := C
  have hR : Q = MQ below (z_Q D ad cI cJ cO lo (post ad)) args s cs sl (fun q => lo ≤ q) := hR
  subst hR
  exact fun H locs ls hP hS hl => W.lret hx hb hr (fun t ht _ => ⟨⟨_, M, rfl, hp, by rw [ht]; exact hP⟩, hS.F ht⟩) hS.2.2 hd hlk
theorem g_dret (C : Cx cc own (some .double) d n X) (hR : Rx post X) {v : UInt64} (hd : decode cc pc = .ok (.dreturn, 1)) (hp : post (zA X) (some (.double v)) M) : G X M pc lv [.double v] := by
  obtain ⟨p, l, e, R, s, m, args, below, meth, c, Q, D, ad, ⟨cI, cJ, cO⟩, lo, cs, sl⟩ := X
  obtain ⟨hx, hb, hr, hml, hown, hts, hK, hN, hD, hlk, -⟩ := C
  have hR : Q = MQ below (z_Q D ad cI cJ cO lo (post ad)) args s cs sl (fun q => lo ≤ q) := hR
  subst hR
  exact fun H locs ls hP hS hl => W.dret hx hb hr (fun t ht _ => ⟨⟨_, M, rfl, hp, by rw [ht]; exact hP⟩, hS.F ht⟩) hS.2.2 hd hlk
theorem g_aret {cls : String} (C : Cx cc own (some (.object cls)) d n X) (hR : Rx post X) {a : Nat} (hd : decode cc pc = .ok (.areturn, 1)) (hp : post (zA X) (some (.ref a)) M) : G X M pc lv [.ref a] := by
  obtain ⟨p, l, e, R, s, m, args, below, meth, c, Q, D, ad, ⟨cI, cJ, cO⟩, lo, cs, sl⟩ := X
  obtain ⟨hx, hb, hr, hml, hown, hts, hK, hN, hD, hlk, -⟩ := C
  have hR : Q = MQ below (z_Q D ad cI cJ cO lo (post ad)) args s cs sl (fun q => lo ≤ q) := hR
  subst hR
  exact fun H locs ls hP hS hl => W.aret hx hb hr (Or.inl ⟨_, rfl⟩) (Or.inr ⟨_, rfl⟩) (fun t ht _ => ⟨⟨_, M, rfl, hp, by rw [ht]; exact hP⟩, hS.F ht⟩) hS.2.2 hd hlk

theorem gf_Row_keys (C : Cx cc own ret d n X) {r : Nat} (hr : r < 20) {idx : Nat} (hl0 : Cond.fieldLink own idx "MoraineSort$Row" "keys" "[I" ∈ tT) (hd : decode cc pc = .ok (.getfield idx, 3)) (kk : G X M (pc + 3) lv (.ref (zA X (3 * r + 1)) :: st)) : G X M pc lv (.ref (zA X (3 * r)) :: st) := g_getf (v := fun ad => .ref (ad (3 * r + 1))) C (by omega) (fun _ _ _ _ => ze_row hr) rfl uw_X5 (k := 0) (by decide) hl0 (fun _ => rfl) hd kk
theorem gf_Row_marks (C : Cx cc own ret d n X) {r : Nat} (hr : r < 20) {idx : Nat} (hl0 : Cond.fieldLink own idx "MoraineSort$Row" "marks" "[I" ∈ tT) (hd : decode cc pc = .ok (.getfield idx, 3)) (kk : G X M (pc + 3) lv (.ref (zA X (3 * r + 2)) :: st)) : G X M pc lv (.ref (zA X (3 * r)) :: st) := g_getf (v := fun ad => .ref (ad (3 * r + 2))) C (by omega) (fun _ _ _ _ => ze_row hr) rfl uw_X5 (k := 1) (by decide) hl0 (fun _ => rfl) hd kk
theorem gf_Row_count (C : Cx cc own ret d n X) {r : Nat} (hr : r < 20) {idx : Nat} (hl0 : Cond.fieldLink own idx "MoraineSort$Row" "count" "I" ∈ tT) (hd : decode cc pc = .ok (.getfield idx, 3)) (kk : G X M (pc + 3) lv (.int (jI (M (3 * r) 2)) :: st)) : G X M pc lv (.ref (zA X (3 * r)) :: st) := g_getf (v := fun _ => .int (jI (M (3 * r) 2))) C (by omega) (fun _ _ _ _ => ze_row hr) rfl uw_X5 (k := 2) (by decide) hl0 (fun _ => rfl) hd kk
theorem gp_Row_count (C : Cx cc own ret d n X) {r : Nat} (hr : r < 20) {idx : Nat} {x : Int} (hl0 : Cond.fieldLink own idx "MoraineSort$Row" "count" "I" ∈ tT) (hd : decode cc pc = .ok (.putfield idx, 3)) (kk : G X (zu M (3 * r) 2 x) (pc + 3) lv st) : G X M pc lv (.int (jI x) :: .ref (zA X (3 * r)) :: st) := g_putf (v := .int (jI x)) C (by omega) (fun _ _ _ _ => ze_row hr) rfl uw_X5 tyX5_ok nmX5 (k := 2) (by decide) hl0 rfl rfl rfl rfl (fun _ => by simp) (fun _ _ _ _ => by rw [ze_row hr]; simp [va_up]) hd kk
theorem gf_Num_values (C : Cx cc own ret d n X) {r : Nat} (hr : r < 8) {idx : Nat} (hl0 : Cond.fieldLink own idx "MoraineSort$Numbers" "values" "[I" ∈ tT) (hd : decode cc pc = .ok (.getfield idx, 3)) (kk : G X M (pc + 3) lv (.ref (zA X (61 + 2 * r)) :: st)) : G X M pc lv (.ref (zA X (60 + 2 * r)) :: st) := g_getf (v := fun ad => .ref (ad (61 + 2 * r))) C (by omega) (fun _ _ _ _ => ze_num hr) rfl uw_X2 (k := 0) (by decide) hl0 (fun _ => rfl) hd kk
theorem gf_Num_count (C : Cx cc own ret d n X) {r : Nat} (hr : r < 8) {idx : Nat} (hl0 : Cond.fieldLink own idx "MoraineSort$Numbers" "count" "I" ∈ tT) (hd : decode cc pc = .ok (.getfield idx, 3)) (kk : G X M (pc + 3) lv (.int (jI (M (60 + 2 * r) 1)) :: st)) : G X M pc lv (.ref (zA X (60 + 2 * r)) :: st) := g_getf (v := fun _ => .int (jI (M (60 + 2 * r) 1))) C (by omega) (fun _ _ _ _ => ze_num hr) rfl uw_X2 (k := 1) (by decide) hl0 (fun _ => rfl) hd kk
theorem gp_Num_count (C : Cx cc own ret d n X) {r : Nat} (hr : r < 8) {idx : Nat} {x : Int} (hl0 : Cond.fieldLink own idx "MoraineSort$Numbers" "count" "I" ∈ tT) (hd : decode cc pc = .ok (.putfield idx, 3)) (kk : G X (zu M (60 + 2 * r) 1 x) (pc + 3) lv st) : G X M pc lv (.int (jI x) :: .ref (zA X (60 + 2 * r)) :: st) := g_putf (v := .int (jI x)) C (by omega) (fun _ _ _ _ => ze_num hr) rfl uw_X2 tyX2_ok nmX2 (k := 1) (by decide) hl0 rfl rfl rfl rfl (fun _ => by simp) (fun _ _ _ _ => by rw [ze_num hr]; simp [va_up]) hd kk
theorem gf_Heap_held (C : Cx cc own ret d n X) {r : Nat} (hr : r < 3) {idx : Nat} (hl0 : Cond.fieldLink own idx "MoraineSort$Heap" "held" "[I" ∈ tT) (hd : decode cc pc = .ok (.getfield idx, 3)) (kk : G X M (pc + 3) lv (.ref (zA X (77 + 2 * r)) :: st)) : G X M pc lv (.ref (zA X (76 + 2 * r)) :: st) := g_getf (v := fun ad => .ref (ad (77 + 2 * r))) C (by omega) (fun _ _ _ _ => ze_heap hr) rfl uw_X0 (k := 0) (by decide) hl0 (fun _ => rfl) hd kk
theorem gf_Heap_count (C : Cx cc own ret d n X) {r : Nat} (hr : r < 3) {idx : Nat} (hl0 : Cond.fieldLink own idx "MoraineSort$Heap" "count" "I" ∈ tT) (hd : decode cc pc = .ok (.getfield idx, 3)) (kk : G X M (pc + 3) lv (.int (jI (M (76 + 2 * r) 1)) :: st)) : G X M pc lv (.ref (zA X (76 + 2 * r)) :: st) := g_getf (v := fun _ => .int (jI (M (76 + 2 * r) 1))) C (by omega) (fun _ _ _ _ => ze_heap hr) rfl uw_X0 (k := 1) (by decide) hl0 (fun _ => rfl) hd kk
theorem gp_Heap_count (C : Cx cc own ret d n X) {r : Nat} (hr : r < 3) {idx : Nat} {x : Int} (hl0 : Cond.fieldLink own idx "MoraineSort$Heap" "count" "I" ∈ tT) (hd : decode cc pc = .ok (.putfield idx, 3)) (kk : G X (zu M (76 + 2 * r) 1 x) (pc + 3) lv st) : G X M pc lv (.int (jI x) :: .ref (zA X (76 + 2 * r)) :: st) := g_putf (v := .int (jI x)) C (by omega) (fun _ _ _ _ => ze_heap hr) rfl uw_X0 tyX0_ok nmX0 (k := 1) (by decide) hl0 rfl rfl rfl rfl (fun _ => by simp) (fun _ _ _ _ => by rw [ze_heap hr]; simp [va_up]) hd kk
theorem gf_Plan_runSizes (C : Cx cc own ret d n X) {r : Nat} (hr : r < 2) {idx : Nat} (hl0 : Cond.fieldLink own idx "MoraineSort$Plan" "runSizes" "LMoraineSort$Numbers;" ∈ tT) (hd : decode cc pc = .ok (.getfield idx, 3)) (kk : G X M (pc + 3) lv (.ref (zA X (60 + 2 * (4 * r))) :: st)) : G X M pc lv (.ref (zA X (82 + r)) :: st) := g_getf (v := fun ad => .ref (ad (60 + 2 * (4 * r)))) C (by omega) (fun _ _ _ _ => ze_plan hr) rfl uw_X4 (k := 0) (by decide) hl0 (fun _ => rfl) hd kk
theorem gf_Plan_mergeRuns (C : Cx cc own ret d n X) {r : Nat} (hr : r < 2) {idx : Nat} (hl0 : Cond.fieldLink own idx "MoraineSort$Plan" "mergeRuns" "LMoraineSort$Numbers;" ∈ tT) (hd : decode cc pc = .ok (.getfield idx, 3)) (kk : G X M (pc + 3) lv (.ref (zA X (60 + 2 * (4 * r + 1))) :: st)) : G X M pc lv (.ref (zA X (82 + r)) :: st) := g_getf (v := fun ad => .ref (ad (60 + 2 * (4 * r + 1)))) C (by omega) (fun _ _ _ _ => ze_plan hr) rfl uw_X4 (k := 1) (by decide) hl0 (fun _ => rfl) hd kk
theorem gf_Plan_mergeSizes (C : Cx cc own ret d n X) {r : Nat} (hr : r < 2) {idx : Nat} (hl0 : Cond.fieldLink own idx "MoraineSort$Plan" "mergeSizes" "LMoraineSort$Numbers;" ∈ tT) (hd : decode cc pc = .ok (.getfield idx, 3)) (kk : G X M (pc + 3) lv (.ref (zA X (60 + 2 * (4 * r + 2))) :: st)) : G X M pc lv (.ref (zA X (82 + r)) :: st) := g_getf (v := fun ad => .ref (ad (60 + 2 * (4 * r + 2)))) C (by omega) (fun _ _ _ _ => ze_plan hr) rfl uw_X4 (k := 2) (by decide) hl0 (fun _ => rfl) hd kk
theorem gf_Plan_readPages (C : Cx cc own ret d n X) {r : Nat} (hr : r < 2) {idx : Nat} (hl0 : Cond.fieldLink own idx "MoraineSort$Plan" "readPages" "I" ∈ tT) (hd : decode cc pc = .ok (.getfield idx, 3)) (kk : G X M (pc + 3) lv (.int (jI (M (82 + r) 3)) :: st)) : G X M pc lv (.ref (zA X (82 + r)) :: st) := g_getf (v := fun _ => .int (jI (M (82 + r) 3))) C (by omega) (fun _ _ _ _ => ze_plan hr) rfl uw_X4 (k := 3) (by decide) hl0 (fun _ => rfl) hd kk
theorem gp_Plan_readPages (C : Cx cc own ret d n X) {r : Nat} (hr : r < 2) {idx : Nat} {x : Int} (hl0 : Cond.fieldLink own idx "MoraineSort$Plan" "readPages" "I" ∈ tT) (hd : decode cc pc = .ok (.putfield idx, 3)) (kk : G X (zu M (82 + r) 3 x) (pc + 3) lv st) : G X M pc lv (.int (jI x) :: .ref (zA X (82 + r)) :: st) := g_putf (v := .int (jI x)) C (by omega) (fun _ _ _ _ => ze_plan hr) rfl uw_X4 tyX4_ok nmX4 (k := 3) (by decide) hl0 rfl rfl rfl rfl (fun _ => by simp) (fun _ _ _ _ => by rw [ze_plan hr]; simp [va_up]) hd kk
theorem gf_Plan_writtenPages (C : Cx cc own ret d n X) {r : Nat} (hr : r < 2) {idx : Nat} (hl0 : Cond.fieldLink own idx "MoraineSort$Plan" "writtenPages" "I" ∈ tT) (hd : decode cc pc = .ok (.getfield idx, 3)) (kk : G X M (pc + 3) lv (.int (jI (M (82 + r) 4)) :: st)) : G X M pc lv (.ref (zA X (82 + r)) :: st) := g_getf (v := fun _ => .int (jI (M (82 + r) 4))) C (by omega) (fun _ _ _ _ => ze_plan hr) rfl uw_X4 (k := 4) (by decide) hl0 (fun _ => rfl) hd kk
theorem gp_Plan_writtenPages (C : Cx cc own ret d n X) {r : Nat} (hr : r < 2) {idx : Nat} {x : Int} (hl0 : Cond.fieldLink own idx "MoraineSort$Plan" "writtenPages" "I" ∈ tT) (hd : decode cc pc = .ok (.putfield idx, 3)) (kk : G X (zu M (82 + r) 4 x) (pc + 3) lv st) : G X M pc lv (.int (jI x) :: .ref (zA X (82 + r)) :: st) := g_putf (v := .int (jI x)) C (by omega) (fun _ _ _ _ => ze_plan hr) rfl uw_X4 tyX4_ok nmX4 (k := 4) (by decide) hl0 rfl rfl rfl rfl (fun _ => by simp) (fun _ _ _ _ => by rw [ze_plan hr]; simp [va_up]) hd kk
theorem gf_Plan_row (C : Cx cc own ret d n X) {r : Nat} (hr : r < 2) {idx : Nat} (hl0 : Cond.fieldLink own idx "MoraineSort$Plan" "row" "LMoraineSort$Numbers;" ∈ tT) (hd : decode cc pc = .ok (.getfield idx, 3)) (kk : G X M (pc + 3) lv (.ref (zA X (60 + 2 * (4 * r + 3))) :: st)) : G X M pc lv (.ref (zA X (82 + r)) :: st) := g_getf (v := fun ad => .ref (ad (60 + 2 * (4 * r + 3)))) C (by omega) (fun _ _ _ _ => ze_plan hr) rfl uw_X4 (k := 5) (by decide) hl0 (fun _ => rfl) hd kk
theorem gf_Plan_heap (C : Cx cc own ret d n X) {r : Nat} (hr : r < 2) {idx : Nat} (hl0 : Cond.fieldLink own idx "MoraineSort$Plan" "heap" "LMoraineSort$Heap;" ∈ tT) (hd : decode cc pc = .ok (.getfield idx, 3)) (kk : G X M (pc + 3) lv (.ref (zA X (76 + 2 * r)) :: st)) : G X M pc lv (.ref (zA X (82 + r)) :: st) := g_getf (v := fun ad => .ref (ad (76 + 2 * r))) C (by omega) (fun _ _ _ _ => ze_plan hr) rfl uw_X4 (k := 6) (by decide) hl0 (fun _ => rfl) hd kk
theorem gf_Plan_page (C : Cx cc own ret d n X) {r : Nat} (hr : r < 2) {idx : Nat} (hl0 : Cond.fieldLink own idx "MoraineSort$Plan" "page" "I" ∈ tT) (hd : decode cc pc = .ok (.getfield idx, 3)) (kk : G X M (pc + 3) lv (.int (jI (M (82 + r) 7)) :: st)) : G X M pc lv (.ref (zA X (82 + r)) :: st) := g_getf (v := fun _ => .int (jI (M (82 + r) 7))) C (by omega) (fun _ _ _ _ => ze_plan hr) rfl uw_X4 (k := 7) (by decide) hl0 (fun _ => rfl) hd kk
theorem gp_Plan_page (C : Cx cc own ret d n X) {r : Nat} (hr : r < 2) {idx : Nat} {x : Int} (hl0 : Cond.fieldLink own idx "MoraineSort$Plan" "page" "I" ∈ tT) (hd : decode cc pc = .ok (.putfield idx, 3)) (kk : G X (zu M (82 + r) 7 x) (pc + 3) lv st) : G X M pc lv (.int (jI x) :: .ref (zA X (82 + r)) :: st) := g_putf (v := .int (jI x)) C (by omega) (fun _ _ _ _ => ze_plan hr) rfl uw_X4 tyX4_ok nmX4 (k := 7) (by decide) hl0 rfl rfl rfl rfl (fun _ => by simp) (fun _ _ _ _ => by rw [ze_plan hr]; simp [va_up]) hd kk
theorem gf_Tour_isOn (C : Cx cc own ret d n X) {idx : Nat} (hl0 : Cond.fieldLink own idx "MoraineSort$Tournament" "isOn" "Z" ∈ tT) (hd : decode cc pc = .ok (.getfield idx, 3)) (kk : G X M (pc + 3) lv (.int (jI (M (84) 0)) :: st)) : G X M pc lv (.ref (zA X (84)) :: st) := g_getf (v := fun _ => .int (jI (M (84) 0))) C (by omega) (fun _ _ _ _ => ze_tour) rfl uw_X7 (k := 0) (by decide) hl0 (fun _ => rfl) hd kk
theorem gp_Tour_isOn (C : Cx cc own ret d n X) {idx : Nat} {x : Int} (hz : x = 0 ∨ x = 1) (hl0 : Cond.fieldLink own idx "MoraineSort$Tournament" "isOn" "Z" ∈ tT) (hd : decode cc pc = .ok (.putfield idx, 3)) (kk : G X (zu M (84) 0 x) (pc + 3) lv st) : G X M pc lv (.int (jI x) :: .ref (zA X (84)) :: st) := g_putf (v := .int (jI x)) (ty := .boolean) C (by omega) (fun _ _ _ _ => ze_tour) rfl uw_X7 tyX7_ok nmX7 (k := 0) (by decide) hl0 rfl rfl (by rcases hz with rfl | rfl <;> rfl) (by rcases hz with rfl | rfl <;> rfl) (fun _ => by simp) (fun _ _ _ _ => by rw [ze_tour]; simp [va_up]) hd kk
theorem gf_Tour_leafCount (C : Cx cc own ret d n X) {idx : Nat} (hl0 : Cond.fieldLink own idx "MoraineSort$Tournament" "leafCount" "I" ∈ tT) (hd : decode cc pc = .ok (.getfield idx, 3)) (kk : G X M (pc + 3) lv (.int (jI (M (84) 1)) :: st)) : G X M pc lv (.ref (zA X (84)) :: st) := g_getf (v := fun _ => .int (jI (M (84) 1))) C (by omega) (fun _ _ _ _ => ze_tour) rfl uw_X7 (k := 1) (by decide) hl0 (fun _ => rfl) hd kk
theorem gp_Tour_leafCount (C : Cx cc own ret d n X) {idx : Nat} {x : Int} (hl0 : Cond.fieldLink own idx "MoraineSort$Tournament" "leafCount" "I" ∈ tT) (hd : decode cc pc = .ok (.putfield idx, 3)) (kk : G X (zu M (84) 1 x) (pc + 3) lv st) : G X M pc lv (.int (jI x) :: .ref (zA X (84)) :: st) := g_putf (v := .int (jI x)) C (by omega) (fun _ _ _ _ => ze_tour) rfl uw_X7 tyX7_ok nmX7 (k := 1) (by decide) hl0 rfl rfl rfl rfl (fun _ => by simp) (fun _ _ _ _ => by rw [ze_tour]; simp [va_up]) hd kk
theorem gf_Tour_winningLeaf (C : Cx cc own ret d n X) {idx : Nat} (hl0 : Cond.fieldLink own idx "MoraineSort$Tournament" "winningLeaf" "I" ∈ tT) (hd : decode cc pc = .ok (.getfield idx, 3)) (kk : G X M (pc + 3) lv (.int (jI (M (84) 2)) :: st)) : G X M pc lv (.ref (zA X (84)) :: st) := g_getf (v := fun _ => .int (jI (M (84) 2))) C (by omega) (fun _ _ _ _ => ze_tour) rfl uw_X7 (k := 2) (by decide) hl0 (fun _ => rfl) hd kk
theorem gp_Tour_winningLeaf (C : Cx cc own ret d n X) {idx : Nat} {x : Int} (hl0 : Cond.fieldLink own idx "MoraineSort$Tournament" "winningLeaf" "I" ∈ tT) (hd : decode cc pc = .ok (.putfield idx, 3)) (kk : G X (zu M (84) 2 x) (pc + 3) lv st) : G X M pc lv (.int (jI x) :: .ref (zA X (84)) :: st) := g_putf (v := .int (jI x)) C (by omega) (fun _ _ _ _ => ze_tour) rfl uw_X7 tyX7_ok nmX7 (k := 2) (by decide) hl0 rfl rfl rfl rfl (fun _ => by simp) (fun _ _ _ _ => by rw [ze_tour]; simp [va_up]) hd kk
theorem gf_Tour_matchCount (C : Cx cc own ret d n X) {idx : Nat} (hl0 : Cond.fieldLink own idx "MoraineSort$Tournament" "matchCount" "I" ∈ tT) (hd : decode cc pc = .ok (.getfield idx, 3)) (kk : G X M (pc + 3) lv (.int (jI (M (84) 3)) :: st)) : G X M pc lv (.ref (zA X (84)) :: st) := g_getf (v := fun _ => .int (jI (M (84) 3))) C (by omega) (fun _ _ _ _ => ze_tour) rfl uw_X7 (k := 3) (by decide) hl0 (fun _ => rfl) hd kk
theorem gp_Tour_matchCount (C : Cx cc own ret d n X) {idx : Nat} {x : Int} (hl0 : Cond.fieldLink own idx "MoraineSort$Tournament" "matchCount" "I" ∈ tT) (hd : decode cc pc = .ok (.putfield idx, 3)) (kk : G X (zu M (84) 3 x) (pc + 3) lv st) : G X M pc lv (.int (jI x) :: .ref (zA X (84)) :: st) := g_putf (v := .int (jI x)) C (by omega) (fun _ _ _ _ => ze_tour) rfl uw_X7 tyX7_ok nmX7 (k := 3) (by decide) hl0 rfl rfl rfl rfl (fun _ => by simp) (fun _ _ _ _ => by rw [ze_tour]; simp [va_up]) hd kk
theorem gf_Tour_firstFile (C : Cx cc own ret d n X) {idx : Nat} (hl0 : Cond.fieldLink own idx "MoraineSort$Tournament" "firstFile" "I" ∈ tT) (hd : decode cc pc = .ok (.getfield idx, 3)) (kk : G X M (pc + 3) lv (.int (jI (M (84) 4)) :: st)) : G X M pc lv (.ref (zA X (84)) :: st) := g_getf (v := fun _ => .int (jI (M (84) 4))) C (by omega) (fun _ _ _ _ => ze_tour) rfl uw_X7 (k := 4) (by decide) hl0 (fun _ => rfl) hd kk
theorem gp_Tour_firstFile (C : Cx cc own ret d n X) {idx : Nat} {x : Int} (hl0 : Cond.fieldLink own idx "MoraineSort$Tournament" "firstFile" "I" ∈ tT) (hd : decode cc pc = .ok (.putfield idx, 3)) (kk : G X (zu M (84) 4 x) (pc + 3) lv st) : G X M pc lv (.int (jI x) :: .ref (zA X (84)) :: st) := g_putf (v := .int (jI x)) C (by omega) (fun _ _ _ _ => ze_tour) rfl uw_X7 tyX7_ok nmX7 (k := 4) (by decide) hl0 rfl rfl rfl rfl (fun _ => by simp) (fun _ _ _ _ => by rw [ze_tour]; simp [va_up]) hd kk
theorem gf_Tour_rowCount (C : Cx cc own ret d n X) {idx : Nat} (hl0 : Cond.fieldLink own idx "MoraineSort$Tournament" "rowCount" "I" ∈ tT) (hd : decode cc pc = .ok (.getfield idx, 3)) (kk : G X M (pc + 3) lv (.int (jI (M (84) 5)) :: st)) : G X M pc lv (.ref (zA X (84)) :: st) := g_getf (v := fun _ => .int (jI (M (84) 5))) C (by omega) (fun _ _ _ _ => ze_tour) rfl uw_X7 (k := 5) (by decide) hl0 (fun _ => rfl) hd kk
theorem gp_Tour_rowCount (C : Cx cc own ret d n X) {idx : Nat} {x : Int} (hl0 : Cond.fieldLink own idx "MoraineSort$Tournament" "rowCount" "I" ∈ tT) (hd : decode cc pc = .ok (.putfield idx, 3)) (kk : G X (zu M (84) 5 x) (pc + 3) lv st) : G X M pc lv (.int (jI x) :: .ref (zA X (84)) :: st) := g_putf (v := .int (jI x)) C (by omega) (fun _ _ _ _ => ze_tour) rfl uw_X7 tyX7_ok nmX7 (k := 5) (by decide) hl0 rfl rfl rfl rfl (fun _ => by simp) (fun _ _ _ _ => by rw [ze_tour]; simp [va_up]) hd kk
theorem gf_Tour_rows (C : Cx cc own ret d n X) {idx : Nat} (hl0 : Cond.fieldLink own idx "MoraineSort$Tournament" "rows" "[LMoraineSort$Row;" ∈ tT) (hd : decode cc pc = .ok (.getfield idx, 3)) (kk : G X M (pc + 3) lv (.ref (zA X (85)) :: st)) : G X M pc lv (.ref (zA X (84)) :: st) := g_getf (v := fun ad => .ref (ad (85))) C (by omega) (fun _ _ _ _ => ze_tour) rfl uw_X7 (k := 6) (by decide) hl0 (fun _ => rfl) hd kk
theorem gf_Tour_places (C : Cx cc own ret d n X) {idx : Nat} (hl0 : Cond.fieldLink own idx "MoraineSort$Tournament" "places" "[I" ∈ tT) (hd : decode cc pc = .ok (.getfield idx, 3)) (kk : G X M (pc + 3) lv (.ref (zA X (86)) :: st)) : G X M pc lv (.ref (zA X (84)) :: st) := g_getf (v := fun ad => .ref (ad (86))) C (by omega) (fun _ _ _ _ => ze_tour) rfl uw_X7 (k := 7) (by decide) hl0 (fun _ => rfl) hd kk
theorem gf_Tour_losers (C : Cx cc own ret d n X) {idx : Nat} (hl0 : Cond.fieldLink own idx "MoraineSort$Tournament" "losers" "[I" ∈ tT) (hd : decode cc pc = .ok (.getfield idx, 3)) (kk : G X M (pc + 3) lv (.ref (zA X (87)) :: st)) : G X M pc lv (.ref (zA X (84)) :: st) := g_getf (v := fun ad => .ref (ad (87))) C (by omega) (fun _ _ _ _ => ze_tour) rfl uw_X7 (k := 8) (by decide) hl0 (fun _ => rfl) hd kk
theorem gf_Tour_winners (C : Cx cc own ret d n X) {idx : Nat} (hl0 : Cond.fieldLink own idx "MoraineSort$Tournament" "winners" "[I" ∈ tT) (hd : decode cc pc = .ok (.getfield idx, 3)) (kk : G X M (pc + 3) lv (.ref (zA X (88)) :: st)) : G X M pc lv (.ref (zA X (84)) :: st) := g_getf (v := fun ad => .ref (ad (88))) C (by omega) (fun _ _ _ _ => ze_tour) rfl uw_X7 (k := 9) (by decide) hl0 (fun _ => rfl) hd kk
theorem gf_Out_out (C : Cx cc own ret d n X) {idx : Nat} (hl0 : Cond.fieldLink own idx "MoraineSort$Outcome" "out" "LMoraineSort$Row;" ∈ tT) (hd : decode cc pc = .ok (.getfield idx, 3)) (kk : G X M (pc + 3) lv (.ref (zA X (3 * 12)) :: st)) : G X M pc lv (.ref (zA X (89)) :: st) := g_getf (v := fun ad => .ref (ad (3 * 12))) C (by omega) (fun _ _ _ _ => ze_out) rfl uw_X3 (k := 0) (by decide) hl0 (fun _ => rfl) hd kk
theorem gf_Out_made (C : Cx cc own ret d n X) {idx : Nat} (hl0 : Cond.fieldLink own idx "MoraineSort$Outcome" "made" "I" ∈ tT) (hd : decode cc pc = .ok (.getfield idx, 3)) (kk : G X M (pc + 3) lv (.int (jI (M (89) 1)) :: st)) : G X M pc lv (.ref (zA X (89)) :: st) := g_getf (v := fun _ => .int (jI (M (89) 1))) C (by omega) (fun _ _ _ _ => ze_out) rfl uw_X3 (k := 1) (by decide) hl0 (fun _ => rfl) hd kk
theorem gp_Out_made (C : Cx cc own ret d n X) {idx : Nat} {x : Int} (hl0 : Cond.fieldLink own idx "MoraineSort$Outcome" "made" "I" ∈ tT) (hd : decode cc pc = .ok (.putfield idx, 3)) (kk : G X (zu M (89) 1 x) (pc + 3) lv st) : G X M pc lv (.int (jI x) :: .ref (zA X (89)) :: st) := g_putf (v := .int (jI x)) C (by omega) (fun _ _ _ _ => ze_out) rfl uw_X3 tyX3_ok nmX3 (k := 1) (by decide) hl0 rfl rfl rfl rfl (fun _ => by simp) (fun _ _ _ _ => by rw [ze_out]; simp [va_up]) hd kk
theorem gf_Out_readPages (C : Cx cc own ret d n X) {idx : Nat} (hl0 : Cond.fieldLink own idx "MoraineSort$Outcome" "readPages" "I" ∈ tT) (hd : decode cc pc = .ok (.getfield idx, 3)) (kk : G X M (pc + 3) lv (.int (jI (M (89) 2)) :: st)) : G X M pc lv (.ref (zA X (89)) :: st) := g_getf (v := fun _ => .int (jI (M (89) 2))) C (by omega) (fun _ _ _ _ => ze_out) rfl uw_X3 (k := 2) (by decide) hl0 (fun _ => rfl) hd kk
theorem gp_Out_readPages (C : Cx cc own ret d n X) {idx : Nat} {x : Int} (hl0 : Cond.fieldLink own idx "MoraineSort$Outcome" "readPages" "I" ∈ tT) (hd : decode cc pc = .ok (.putfield idx, 3)) (kk : G X (zu M (89) 2 x) (pc + 3) lv st) : G X M pc lv (.int (jI x) :: .ref (zA X (89)) :: st) := g_putf (v := .int (jI x)) C (by omega) (fun _ _ _ _ => ze_out) rfl uw_X3 tyX3_ok nmX3 (k := 2) (by decide) hl0 rfl rfl rfl rfl (fun _ => by simp) (fun _ _ _ _ => by rw [ze_out]; simp [va_up]) hd kk
theorem gf_Out_writtenPages (C : Cx cc own ret d n X) {idx : Nat} (hl0 : Cond.fieldLink own idx "MoraineSort$Outcome" "writtenPages" "I" ∈ tT) (hd : decode cc pc = .ok (.getfield idx, 3)) (kk : G X M (pc + 3) lv (.int (jI (M (89) 3)) :: st)) : G X M pc lv (.ref (zA X (89)) :: st) := g_getf (v := fun _ => .int (jI (M (89) 3))) C (by omega) (fun _ _ _ _ => ze_out) rfl uw_X3 (k := 3) (by decide) hl0 (fun _ => rfl) hd kk
theorem gp_Out_writtenPages (C : Cx cc own ret d n X) {idx : Nat} {x : Int} (hl0 : Cond.fieldLink own idx "MoraineSort$Outcome" "writtenPages" "I" ∈ tT) (hd : decode cc pc = .ok (.putfield idx, 3)) (kk : G X (zu M (89) 3 x) (pc + 3) lv st) : G X M pc lv (.int (jI x) :: .ref (zA X (89)) :: st) := g_putf (v := .int (jI x)) C (by omega) (fun _ _ _ _ => ze_out) rfl uw_X3 tyX3_ok nmX3 (k := 3) (by decide) hl0 rfl rfl rfl rfl (fun _ => by simp) (fun _ _ _ _ => by rw [ze_out]; simp [va_up]) hd kk
theorem gf_Out_spiltPages (C : Cx cc own ret d n X) {idx : Nat} (hl0 : Cond.fieldLink own idx "MoraineSort$Outcome" "spiltPages" "I" ∈ tT) (hd : decode cc pc = .ok (.getfield idx, 3)) (kk : G X M (pc + 3) lv (.int (jI (M (89) 4)) :: st)) : G X M pc lv (.ref (zA X (89)) :: st) := g_getf (v := fun _ => .int (jI (M (89) 4))) C (by omega) (fun _ _ _ _ => ze_out) rfl uw_X3 (k := 4) (by decide) hl0 (fun _ => rfl) hd kk
theorem gp_Out_spiltPages (C : Cx cc own ret d n X) {idx : Nat} {x : Int} (hl0 : Cond.fieldLink own idx "MoraineSort$Outcome" "spiltPages" "I" ∈ tT) (hd : decode cc pc = .ok (.putfield idx, 3)) (kk : G X (zu M (89) 4 x) (pc + 3) lv st) : G X M pc lv (.int (jI x) :: .ref (zA X (89)) :: st) := g_putf (v := .int (jI x)) C (by omega) (fun _ _ _ _ => ze_out) rfl uw_X3 tyX3_ok nmX3 (k := 4) (by decide) hl0 rfl rfl rfl rfl (fun _ => by simp) (fun _ _ _ _ => by rw [ze_out]; simp [va_up]) hd kk
theorem gf_Spl_page (C : Cx cc own ret d n X) {idx : Nat} (hl0 : Cond.fieldLink own idx "MoraineSort$Splitting" "page" "I" ∈ tT) (hd : decode cc pc = .ok (.getfield idx, 3)) (kk : G X M (pc + 3) lv (.int (jI (M (90) 0)) :: st)) : G X M pc lv (.ref (zA X (90)) :: st) := g_getf (v := fun _ => .int (jI (M (90) 0))) C (by omega) (fun _ _ _ _ => ze_spl) rfl uw_X6 (k := 0) (by decide) hl0 (fun _ => rfl) hd kk
theorem gp_Spl_page (C : Cx cc own ret d n X) {idx : Nat} {x : Int} (hl0 : Cond.fieldLink own idx "MoraineSort$Splitting" "page" "I" ∈ tT) (hd : decode cc pc = .ok (.putfield idx, 3)) (kk : G X (zu M (90) 0 x) (pc + 3) lv st) : G X M pc lv (.int (jI x) :: .ref (zA X (90)) :: st) := g_putf (v := .int (jI x)) C (by omega) (fun _ _ _ _ => ze_spl) rfl uw_X6 tyX6_ok nmX6 (k := 0) (by decide) hl0 rfl rfl rfl rfl (fun _ => by simp) (fun _ _ _ _ => by rw [ze_spl]; simp [va_up]) hd kk
theorem gf_Spl_memory (C : Cx cc own ret d n X) {idx : Nat} (hl0 : Cond.fieldLink own idx "MoraineSort$Splitting" "memory" "I" ∈ tT) (hd : decode cc pc = .ok (.getfield idx, 3)) (kk : G X M (pc + 3) lv (.int (jI (M (90) 1)) :: st)) : G X M pc lv (.ref (zA X (90)) :: st) := g_getf (v := fun _ => .int (jI (M (90) 1))) C (by omega) (fun _ _ _ _ => ze_spl) rfl uw_X6 (k := 1) (by decide) hl0 (fun _ => rfl) hd kk
theorem gp_Spl_memory (C : Cx cc own ret d n X) {idx : Nat} {x : Int} (hl0 : Cond.fieldLink own idx "MoraineSort$Splitting" "memory" "I" ∈ tT) (hd : decode cc pc = .ok (.putfield idx, 3)) (kk : G X (zu M (90) 1 x) (pc + 3) lv st) : G X M pc lv (.int (jI x) :: .ref (zA X (90)) :: st) := g_putf (v := .int (jI x)) C (by omega) (fun _ _ _ _ => ze_spl) rfl uw_X6 tyX6_ok nmX6 (k := 1) (by decide) hl0 rfl rfl rfl rfl (fun _ => by simp) (fun _ _ _ _ => by rw [ze_spl]; simp [va_up]) hd kk
theorem gf_Spl_ones (C : Cx cc own ret d n X) {idx : Nat} (hl0 : Cond.fieldLink own idx "MoraineSort$Splitting" "ones" "[LMoraineSort$Row;" ∈ tT) (hd : decode cc pc = .ok (.getfield idx, 3)) (kk : G X M (pc + 3) lv (.ref (zA X (91)) :: st)) : G X M pc lv (.ref (zA X (90)) :: st) := g_getf (v := fun ad => .ref (ad (91))) C (by omega) (fun _ _ _ _ => ze_spl) rfl uw_X6 (k := 2) (by decide) hl0 (fun _ => rfl) hd kk
theorem gf_Spl_others (C : Cx cc own ret d n X) {idx : Nat} (hl0 : Cond.fieldLink own idx "MoraineSort$Splitting" "others" "[LMoraineSort$Row;" ∈ tT) (hd : decode cc pc = .ok (.getfield idx, 3)) (kk : G X M (pc + 3) lv (.ref (zA X (92)) :: st)) : G X M pc lv (.ref (zA X (90)) :: st) := g_getf (v := fun ad => .ref (ad (92))) C (by omega) (fun _ _ _ _ => ze_spl) rfl uw_X6 (k := 3) (by decide) hl0 (fun _ => rfl) hd kk
theorem gf_Spl_spare (C : Cx cc own ret d n X) {idx : Nat} (hl0 : Cond.fieldLink own idx "MoraineSort$Splitting" "spare" "LMoraineSort$Row;" ∈ tT) (hd : decode cc pc = .ok (.getfield idx, 3)) (kk : G X M (pc + 3) lv (.ref (zA X (3 * 19)) :: st)) : G X M pc lv (.ref (zA X (90)) :: st) := g_getf (v := fun ad => .ref (ad (3 * 19))) C (by omega) (fun _ _ _ _ => ze_spl) rfl uw_X6 (k := 4) (by decide) hl0 (fun _ => rfl) hd kk
theorem gf_Kset_words (C : Cx cc own ret d n X) {idx : Nat} (hl0 : Cond.fieldLink own idx "MoraineSort$KeySet" "words" "[J" ∈ tT) (hd : decode cc pc = .ok (.getfield idx, 3)) (kk : G X M (pc + 3) lv (.ref (zA X (94)) :: st)) : G X M pc lv (.ref (zA X (93)) :: st) := g_getf (v := fun ad => .ref (ad (94))) C (by omega) (fun _ _ _ _ => ze_kset) rfl uw_X1 (k := 0) (by decide) hl0 (fun _ => rfl) hd kk
theorem gf_Ms_files (C : Cx cc own ret d n X) {idx : Nat} (hl0 : Cond.fieldLink own idx "MoraineSort" "files" "[LMoraineSort$Row;" ∈ tT) (hd : decode cc pc = .ok (.getfield idx, 3)) (kk : G X M (pc + 3) lv (.ref (zA X (96)) :: st)) : G X M pc lv (.ref (zA X (95)) :: st) := g_getf (v := fun ad => .ref (ad (96))) C (by omega) (fun _ _ _ _ => ze_ms) rfl uw_X8 (k := 0) (by decide) hl0 (fun _ => rfl) hd kk
theorem gf_Ms_fileCount (C : Cx cc own ret d n X) {idx : Nat} (hl0 : Cond.fieldLink own idx "MoraineSort" "fileCount" "I" ∈ tT) (hd : decode cc pc = .ok (.getfield idx, 3)) (kk : G X M (pc + 3) lv (.int (jI (M (95) 1)) :: st)) : G X M pc lv (.ref (zA X (95)) :: st) := g_getf (v := fun _ => .int (jI (M (95) 1))) C (by omega) (fun _ _ _ _ => ze_ms) rfl uw_X8 (k := 1) (by decide) hl0 (fun _ => rfl) hd kk
theorem gp_Ms_fileCount (C : Cx cc own ret d n X) {idx : Nat} {x : Int} (hl0 : Cond.fieldLink own idx "MoraineSort" "fileCount" "I" ∈ tT) (hd : decode cc pc = .ok (.putfield idx, 3)) (kk : G X (zu M (95) 1 x) (pc + 3) lv st) : G X M pc lv (.int (jI x) :: .ref (zA X (95)) :: st) := g_putf (v := .int (jI x)) C (by omega) (fun _ _ _ _ => ze_ms) rfl uw_X8 tyX8_ok nmX8 (k := 1) (by decide) hl0 rfl rfl rfl rfl (fun _ => by simp) (fun _ _ _ _ => by rw [ze_ms]; simp [va_up]) hd kk
theorem gf_Ms_page (C : Cx cc own ret d n X) {idx : Nat} (hl0 : Cond.fieldLink own idx "MoraineSort" "page" "I" ∈ tT) (hd : decode cc pc = .ok (.getfield idx, 3)) (kk : G X M (pc + 3) lv (.int (jI (M (95) 2)) :: st)) : G X M pc lv (.ref (zA X (95)) :: st) := g_getf (v := fun _ => .int (jI (M (95) 2))) C (by omega) (fun _ _ _ _ => ze_ms) rfl uw_X8 (k := 2) (by decide) hl0 (fun _ => rfl) hd kk
theorem gp_Ms_page (C : Cx cc own ret d n X) {idx : Nat} {x : Int} (hl0 : Cond.fieldLink own idx "MoraineSort" "page" "I" ∈ tT) (hd : decode cc pc = .ok (.putfield idx, 3)) (kk : G X (zu M (95) 2 x) (pc + 3) lv st) : G X M pc lv (.int (jI x) :: .ref (zA X (95)) :: st) := g_putf (v := .int (jI x)) C (by omega) (fun _ _ _ _ => ze_ms) rfl uw_X8 tyX8_ok nmX8 (k := 2) (by decide) hl0 rfl rfl rfl rfl (fun _ => by simp) (fun _ _ _ _ => by rw [ze_ms]; simp [va_up]) hd kk
theorem gf_Ms_memory (C : Cx cc own ret d n X) {idx : Nat} (hl0 : Cond.fieldLink own idx "MoraineSort" "memory" "I" ∈ tT) (hd : decode cc pc = .ok (.getfield idx, 3)) (kk : G X M (pc + 3) lv (.int (jI (M (95) 3)) :: st)) : G X M pc lv (.ref (zA X (95)) :: st) := g_getf (v := fun _ => .int (jI (M (95) 3))) C (by omega) (fun _ _ _ _ => ze_ms) rfl uw_X8 (k := 3) (by decide) hl0 (fun _ => rfl) hd kk
theorem gp_Ms_memory (C : Cx cc own ret d n X) {idx : Nat} {x : Int} (hl0 : Cond.fieldLink own idx "MoraineSort" "memory" "I" ∈ tT) (hd : decode cc pc = .ok (.putfield idx, 3)) (kk : G X (zu M (95) 3 x) (pc + 3) lv st) : G X M pc lv (.int (jI x) :: .ref (zA X (95)) :: st) := g_putf (v := .int (jI x)) C (by omega) (fun _ _ _ _ => ze_ms) rfl uw_X8 tyX8_ok nmX8 (k := 3) (by decide) hl0 rfl rfl rfl rfl (fun _ => by simp) (fun _ _ _ _ => by rw [ze_ms]; simp [va_up]) hd kk
theorem gf_Ms_readPages (C : Cx cc own ret d n X) {idx : Nat} (hl0 : Cond.fieldLink own idx "MoraineSort" "readPages" "I" ∈ tT) (hd : decode cc pc = .ok (.getfield idx, 3)) (kk : G X M (pc + 3) lv (.int (jI (M (95) 4)) :: st)) : G X M pc lv (.ref (zA X (95)) :: st) := g_getf (v := fun _ => .int (jI (M (95) 4))) C (by omega) (fun _ _ _ _ => ze_ms) rfl uw_X8 (k := 4) (by decide) hl0 (fun _ => rfl) hd kk
theorem gp_Ms_readPages (C : Cx cc own ret d n X) {idx : Nat} {x : Int} (hl0 : Cond.fieldLink own idx "MoraineSort" "readPages" "I" ∈ tT) (hd : decode cc pc = .ok (.putfield idx, 3)) (kk : G X (zu M (95) 4 x) (pc + 3) lv st) : G X M pc lv (.int (jI x) :: .ref (zA X (95)) :: st) := g_putf (v := .int (jI x)) C (by omega) (fun _ _ _ _ => ze_ms) rfl uw_X8 tyX8_ok nmX8 (k := 4) (by decide) hl0 rfl rfl rfl rfl (fun _ => by simp) (fun _ _ _ _ => by rw [ze_ms]; simp [va_up]) hd kk
theorem gf_Ms_writtenPages (C : Cx cc own ret d n X) {idx : Nat} (hl0 : Cond.fieldLink own idx "MoraineSort" "writtenPages" "I" ∈ tT) (hd : decode cc pc = .ok (.getfield idx, 3)) (kk : G X M (pc + 3) lv (.int (jI (M (95) 5)) :: st)) : G X M pc lv (.ref (zA X (95)) :: st) := g_getf (v := fun _ => .int (jI (M (95) 5))) C (by omega) (fun _ _ _ _ => ze_ms) rfl uw_X8 (k := 5) (by decide) hl0 (fun _ => rfl) hd kk
theorem gp_Ms_writtenPages (C : Cx cc own ret d n X) {idx : Nat} {x : Int} (hl0 : Cond.fieldLink own idx "MoraineSort" "writtenPages" "I" ∈ tT) (hd : decode cc pc = .ok (.putfield idx, 3)) (kk : G X (zu M (95) 5 x) (pc + 3) lv st) : G X M pc lv (.int (jI x) :: .ref (zA X (95)) :: st) := g_putf (v := .int (jI x)) C (by omega) (fun _ _ _ _ => ze_ms) rfl uw_X8 tyX8_ok nmX8 (k := 5) (by decide) hl0 rfl rfl rfl rfl (fun _ => by simp) (fun _ _ _ _ => by rw [ze_ms]; simp [va_up]) hd kk
theorem gf_Ms_spiltPages (C : Cx cc own ret d n X) {idx : Nat} (hl0 : Cond.fieldLink own idx "MoraineSort" "spiltPages" "I" ∈ tT) (hd : decode cc pc = .ok (.getfield idx, 3)) (kk : G X M (pc + 3) lv (.int (jI (M (95) 6)) :: st)) : G X M pc lv (.ref (zA X (95)) :: st) := g_getf (v := fun _ => .int (jI (M (95) 6))) C (by omega) (fun _ _ _ _ => ze_ms) rfl uw_X8 (k := 6) (by decide) hl0 (fun _ => rfl) hd kk
theorem gp_Ms_spiltPages (C : Cx cc own ret d n X) {idx : Nat} {x : Int} (hl0 : Cond.fieldLink own idx "MoraineSort" "spiltPages" "I" ∈ tT) (hd : decode cc pc = .ok (.putfield idx, 3)) (kk : G X (zu M (95) 6 x) (pc + 3) lv st) : G X M pc lv (.int (jI x) :: .ref (zA X (95)) :: st) := g_putf (v := .int (jI x)) C (by omega) (fun _ _ _ _ => ze_ms) rfl uw_X8 tyX8_ok nmX8 (k := 6) (by decide) hl0 rfl rfl rfl rfl (fun _ => by simp) (fun _ _ _ _ => by rw [ze_ms]; simp [va_up]) hd kk
theorem gf_Ms_latest (C : Cx cc own ret d n X) {idx : Nat} (hl0 : Cond.fieldLink own idx "MoraineSort" "latest" "LMoraineSort$Plan;" ∈ tT) (hd : decode cc pc = .ok (.getfield idx, 3)) (kk : G X M (pc + 3) lv (.ref (zA X (82 + 0)) :: st)) : G X M pc lv (.ref (zA X (95)) :: st) := g_getf (v := fun ad => .ref (ad (82 + 0))) C (by omega) (fun _ _ _ _ => ze_ms) rfl uw_X8 (k := 7) (by decide) hl0 (fun _ => rfl) hd kk
theorem gf_Ms_trial (C : Cx cc own ret d n X) {idx : Nat} (hl0 : Cond.fieldLink own idx "MoraineSort" "trial" "LMoraineSort$Plan;" ∈ tT) (hd : decode cc pc = .ok (.getfield idx, 3)) (kk : G X M (pc + 3) lv (.ref (zA X (82 + 1)) :: st)) : G X M pc lv (.ref (zA X (95)) :: st) := g_getf (v := fun ad => .ref (ad (82 + 1))) C (by omega) (fun _ _ _ _ => ze_ms) rfl uw_X8 (k := 8) (by decide) hl0 (fun _ => rfl) hd kk
theorem gf_Ms_heap (C : Cx cc own ret d n X) {idx : Nat} (hl0 : Cond.fieldLink own idx "MoraineSort" "heap" "LMoraineSort$Heap;" ∈ tT) (hd : decode cc pc = .ok (.getfield idx, 3)) (kk : G X M (pc + 3) lv (.ref (zA X (76 + 2 * 2)) :: st)) : G X M pc lv (.ref (zA X (95)) :: st) := g_getf (v := fun ad => .ref (ad (76 + 2 * 2))) C (by omega) (fun _ _ _ _ => ze_ms) rfl uw_X8 (k := 9) (by decide) hl0 (fun _ => rfl) hd kk
theorem gf_Ms_tournament (C : Cx cc own ret d n X) {idx : Nat} (hl0 : Cond.fieldLink own idx "MoraineSort" "tournament" "LMoraineSort$Tournament;" ∈ tT) (hd : decode cc pc = .ok (.getfield idx, 3)) (kk : G X M (pc + 3) lv (.ref (zA X (84)) :: st)) : G X M pc lv (.ref (zA X (95)) :: st) := g_getf (v := fun ad => .ref (ad (84))) C (by omega) (fun _ _ _ _ => ze_ms) rfl uw_X8 (k := 10) (by decide) hl0 (fun _ => rfl) hd kk
theorem gf_Ms_outcome (C : Cx cc own ret d n X) {idx : Nat} (hl0 : Cond.fieldLink own idx "MoraineSort" "outcome" "LMoraineSort$Outcome;" ∈ tT) (hd : decode cc pc = .ok (.getfield idx, 3)) (kk : G X M (pc + 3) lv (.ref (zA X (89)) :: st)) : G X M pc lv (.ref (zA X (95)) :: st) := g_getf (v := fun ad => .ref (ad (89))) C (by omega) (fun _ _ _ _ => ze_ms) rfl uw_X8 (k := 11) (by decide) hl0 (fun _ => rfl) hd kk
theorem gf_Ms_splitting (C : Cx cc own ret d n X) {idx : Nat} (hl0 : Cond.fieldLink own idx "MoraineSort" "splitting" "LMoraineSort$Splitting;" ∈ tT) (hd : decode cc pc = .ok (.getfield idx, 3)) (kk : G X M (pc + 3) lv (.ref (zA X (90)) :: st)) : G X M pc lv (.ref (zA X (95)) :: st) := g_getf (v := fun ad => .ref (ad (90))) C (by omega) (fun _ _ _ _ => ze_ms) rfl uw_X8 (k := 12) (by decide) hl0 (fun _ => rfl) hd kk
theorem gf_Ms_keySet (C : Cx cc own ret d n X) {idx : Nat} (hl0 : Cond.fieldLink own idx "MoraineSort" "keySet" "LMoraineSort$KeySet;" ∈ tT) (hd : decode cc pc = .ok (.getfield idx, 3)) (kk : G X M (pc + 3) lv (.ref (zA X (93)) :: st)) : G X M pc lv (.ref (zA X (95)) :: st) := g_getf (v := fun ad => .ref (ad (93))) C (by omega) (fun _ _ _ _ => ze_ms) rfl uw_X8 (k := 13) (by decide) hl0 (fun _ => rfl) hd kk
theorem ga_keys (C : Cx cc own ret d n X) {r : Nat} (hr : r < 20) (i : Nat) {x : Int} (hi : i < 120) (hx : x = (i : Int)) (hd : decode cc pc = .ok (.iaload, 1)) (kk : G X M (pc + 1) lv (.int (jI (M (3 * r + 1) i)) :: st)) : G X M pc lv (.int (jI x) :: .ref (zA X (3 * r + 1)) :: st) := g_iald C (by omega) (by omega) (fun _ _ _ _ => ze_keys hr) hi hx hd kk
theorem gs_keys (C : Cx cc own ret d n X) {r : Nat} (hr : r < 20) (i : Nat) {x v : Int} (hi : i < 120) (hx : x = (i : Int)) (hd : decode cc pc = .ok (.iastore, 1)) (kk : G X (zu M (3 * r + 1) i v) (pc + 1) lv st) : G X M pc lv (.int (jI v) :: .int (jI x) :: .ref (zA X (3 * r + 1)) :: st) := g_iast C (by omega) (by omega) (fun _ _ _ _ _ => ze_keys hr) hi hx hd kk
theorem gl_keys (C : Cx cc own ret d n X) {r : Nat} (hr : r < 20) (hd : decode cc pc = .ok (.arraylength, 1)) (kk : G X M (pc + 1) lv (.int (jI 120) :: st)) : G X M pc lv (.ref (zA X (3 * r + 1)) :: st) := g_alen (cA := fun c => c.1) (f := fun _ => .inl (fun j => jI (M (3 * r + 1) j))) (t0 := 0) (ty := .int) (N := 120) C (by omega) (fun _ _ _ _ => ze_keys hr) (fun _ _ _ => rfl) hd kk
theorem ga_marks (C : Cx cc own ret d n X) {r : Nat} (hr : r < 20) (i : Nat) {x : Int} (hi : i < 120) (hx : x = (i : Int)) (hd : decode cc pc = .ok (.iaload, 1)) (kk : G X M (pc + 1) lv (.int (jI (M (3 * r + 2) i)) :: st)) : G X M pc lv (.int (jI x) :: .ref (zA X (3 * r + 2)) :: st) := g_iald C (by omega) (by omega) (fun _ _ _ _ => ze_marks hr) hi hx hd kk
theorem gs_marks (C : Cx cc own ret d n X) {r : Nat} (hr : r < 20) (i : Nat) {x v : Int} (hi : i < 120) (hx : x = (i : Int)) (hd : decode cc pc = .ok (.iastore, 1)) (kk : G X (zu M (3 * r + 2) i v) (pc + 1) lv st) : G X M pc lv (.int (jI v) :: .int (jI x) :: .ref (zA X (3 * r + 2)) :: st) := g_iast C (by omega) (by omega) (fun _ _ _ _ _ => ze_marks hr) hi hx hd kk
theorem gl_marks (C : Cx cc own ret d n X) {r : Nat} (hr : r < 20) (hd : decode cc pc = .ok (.arraylength, 1)) (kk : G X M (pc + 1) lv (.int (jI 120) :: st)) : G X M pc lv (.ref (zA X (3 * r + 2)) :: st) := g_alen (cA := fun c => c.1) (f := fun _ => .inl (fun j => jI (M (3 * r + 2) j))) (t0 := 0) (ty := .int) (N := 120) C (by omega) (fun _ _ _ _ => ze_marks hr) (fun _ _ _ => rfl) hd kk
theorem ga_vals (C : Cx cc own ret d n X) {r : Nat} (hr : r < 8) (i : Nat) {x : Int} (hi : i < 120) (hx : x = (i : Int)) (hd : decode cc pc = .ok (.iaload, 1)) (kk : G X M (pc + 1) lv (.int (jI (M (61 + 2 * r) i)) :: st)) : G X M pc lv (.int (jI x) :: .ref (zA X (61 + 2 * r)) :: st) := g_iald C (by omega) (by omega) (fun _ _ _ _ => ze_vals hr) hi hx hd kk
theorem gs_vals (C : Cx cc own ret d n X) {r : Nat} (hr : r < 8) (i : Nat) {x v : Int} (hi : i < 120) (hx : x = (i : Int)) (hd : decode cc pc = .ok (.iastore, 1)) (kk : G X (zu M (61 + 2 * r) i v) (pc + 1) lv st) : G X M pc lv (.int (jI v) :: .int (jI x) :: .ref (zA X (61 + 2 * r)) :: st) := g_iast C (by omega) (by omega) (fun _ _ _ _ _ => ze_vals hr) hi hx hd kk
theorem gl_vals (C : Cx cc own ret d n X) {r : Nat} (hr : r < 8) (hd : decode cc pc = .ok (.arraylength, 1)) (kk : G X M (pc + 1) lv (.int (jI 120) :: st)) : G X M pc lv (.ref (zA X (61 + 2 * r)) :: st) := g_alen (cA := fun c => c.1) (f := fun _ => .inl (fun j => jI (M (61 + 2 * r) j))) (t0 := 0) (ty := .int) (N := 120) C (by omega) (fun _ _ _ _ => ze_vals hr) (fun _ _ _ => rfl) hd kk
theorem ga_held (C : Cx cc own ret d n X) {r : Nat} (hr : r < 3) (i : Nat) {x : Int} (hi : i < 120) (hx : x = (i : Int)) (hd : decode cc pc = .ok (.iaload, 1)) (kk : G X M (pc + 1) lv (.int (jI (M (77 + 2 * r) i)) :: st)) : G X M pc lv (.int (jI x) :: .ref (zA X (77 + 2 * r)) :: st) := g_iald C (by omega) (by omega) (fun _ _ _ _ => ze_held hr) hi hx hd kk
theorem gs_held (C : Cx cc own ret d n X) {r : Nat} (hr : r < 3) (i : Nat) {x v : Int} (hi : i < 120) (hx : x = (i : Int)) (hd : decode cc pc = .ok (.iastore, 1)) (kk : G X (zu M (77 + 2 * r) i v) (pc + 1) lv st) : G X M pc lv (.int (jI v) :: .int (jI x) :: .ref (zA X (77 + 2 * r)) :: st) := g_iast C (by omega) (by omega) (fun _ _ _ _ _ => ze_held hr) hi hx hd kk
theorem gl_held (C : Cx cc own ret d n X) {r : Nat} (hr : r < 3) (hd : decode cc pc = .ok (.arraylength, 1)) (kk : G X M (pc + 1) lv (.int (jI 120) :: st)) : G X M pc lv (.ref (zA X (77 + 2 * r)) :: st) := g_alen (cA := fun c => c.1) (f := fun _ => .inl (fun j => jI (M (77 + 2 * r) j))) (t0 := 0) (ty := .int) (N := 120) C (by omega) (fun _ _ _ _ => ze_held hr) (fun _ _ _ => rfl) hd kk
theorem ga_places (C : Cx cc own ret d n X) (i : Nat) {x : Int} (hi : i < 8) (hx : x = (i : Int)) (hd : decode cc pc = .ok (.iaload, 1)) (kk : G X M (pc + 1) lv (.int (jI (M (86) i)) :: st)) : G X M pc lv (.int (jI x) :: .ref (zA X (86)) :: st) := g_iald C (by omega) (by omega) (fun _ _ _ _ => ze_places) hi hx hd kk
theorem gs_places (C : Cx cc own ret d n X) (i : Nat) {x v : Int} (hi : i < 8) (hx : x = (i : Int)) (hd : decode cc pc = .ok (.iastore, 1)) (kk : G X (zu M (86) i v) (pc + 1) lv st) : G X M pc lv (.int (jI v) :: .int (jI x) :: .ref (zA X (86)) :: st) := g_iast C (by omega) (by omega) (fun _ _ _ _ _ => ze_places) hi hx hd kk
theorem gl_places (C : Cx cc own ret d n X) (hd : decode cc pc = .ok (.arraylength, 1)) (kk : G X M (pc + 1) lv (.int (jI 8) :: st)) : G X M pc lv (.ref (zA X (86)) :: st) := g_alen (cA := fun c => c.1) (f := fun _ => .inl (fun j => jI (M (86) j))) (t0 := 0) (ty := .int) (N := 8) C (by omega) (fun _ _ _ _ => ze_places) (fun _ _ _ => rfl) hd kk
theorem ga_losers (C : Cx cc own ret d n X) (i : Nat) {x : Int} (hi : i < 8) (hx : x = (i : Int)) (hd : decode cc pc = .ok (.iaload, 1)) (kk : G X M (pc + 1) lv (.int (jI (M (87) i)) :: st)) : G X M pc lv (.int (jI x) :: .ref (zA X (87)) :: st) := g_iald C (by omega) (by omega) (fun _ _ _ _ => ze_losers) hi hx hd kk
theorem gs_losers (C : Cx cc own ret d n X) (i : Nat) {x v : Int} (hi : i < 8) (hx : x = (i : Int)) (hd : decode cc pc = .ok (.iastore, 1)) (kk : G X (zu M (87) i v) (pc + 1) lv st) : G X M pc lv (.int (jI v) :: .int (jI x) :: .ref (zA X (87)) :: st) := g_iast C (by omega) (by omega) (fun _ _ _ _ _ => ze_losers) hi hx hd kk
theorem gl_losers (C : Cx cc own ret d n X) (hd : decode cc pc = .ok (.arraylength, 1)) (kk : G X M (pc + 1) lv (.int (jI 8) :: st)) : G X M pc lv (.ref (zA X (87)) :: st) := g_alen (cA := fun c => c.1) (f := fun _ => .inl (fun j => jI (M (87) j))) (t0 := 0) (ty := .int) (N := 8) C (by omega) (fun _ _ _ _ => ze_losers) (fun _ _ _ => rfl) hd kk
theorem ga_winners (C : Cx cc own ret d n X) (i : Nat) {x : Int} (hi : i < 16) (hx : x = (i : Int)) (hd : decode cc pc = .ok (.iaload, 1)) (kk : G X M (pc + 1) lv (.int (jI (M (88) i)) :: st)) : G X M pc lv (.int (jI x) :: .ref (zA X (88)) :: st) := g_iald C (by omega) (by omega) (fun _ _ _ _ => ze_winners) hi hx hd kk
theorem gs_winners (C : Cx cc own ret d n X) (i : Nat) {x v : Int} (hi : i < 16) (hx : x = (i : Int)) (hd : decode cc pc = .ok (.iastore, 1)) (kk : G X (zu M (88) i v) (pc + 1) lv st) : G X M pc lv (.int (jI v) :: .int (jI x) :: .ref (zA X (88)) :: st) := g_iast C (by omega) (by omega) (fun _ _ _ _ _ => ze_winners) hi hx hd kk
theorem gl_winners (C : Cx cc own ret d n X) (hd : decode cc pc = .ok (.arraylength, 1)) (kk : G X M (pc + 1) lv (.int (jI 16) :: st)) : G X M pc lv (.ref (zA X (88)) :: st) := g_alen (cA := fun c => c.1) (f := fun _ => .inl (fun j => jI (M (88) j))) (t0 := 0) (ty := .int) (N := 16) C (by omega) (fun _ _ _ _ => ze_winners) (fun _ _ _ => rfl) hd kk
theorem gl_words (C : Cx cc own ret d n X) (hd : decode cc pc = .ok (.arraylength, 1)) (kk : G X M (pc + 1) lv (.int (jI 32) :: st)) : G X M pc lv (.ref (zA X 94) :: st) := g_alen (cA := fun c => c.2.1) (f := fun _ => .inr (.inl (fun j => jL (M 94 j)))) (t0 := 1) (ty := .long) (N := 32) C (by omega) (fun _ _ _ _ => ze_words) (fun _ _ _ => rfl) hd kk
theorem gl_ones (C : Cx cc own ret d n X) (hd : decode cc pc = .ok (.arraylength, 1)) (kk : G X M (pc + 1) lv (.int (jI 3) :: st)) : G X M pc lv (.ref (zA X 91) :: st) := g_alen (cA := fun c => c.2.2) (f := fun ad => .inr (.inr (.inr (.inr (fun j => some (ad (3 * (13 + j)))))))) (t0 := 2) (ty := .object "MoraineSort$Row") (N := 3) C (by omega) (fun _ _ _ _ => ze_ones) (fun _ _ _ => rfl) hd kk
theorem gl_others (C : Cx cc own ret d n X) (hd : decode cc pc = .ok (.arraylength, 1)) (kk : G X M (pc + 1) lv (.int (jI 3) :: st)) : G X M pc lv (.ref (zA X 92) :: st) := g_alen (cA := fun c => c.2.2) (f := fun ad => .inr (.inr (.inr (.inr (fun j => some (ad (3 * (16 + j)))))))) (t0 := 2) (ty := .object "MoraineSort$Row") (N := 3) C (by omega) (fun _ _ _ _ => ze_others) (fun _ _ _ => rfl) hd kk
theorem ga_files (C : Cx cc own ret d n X) (i : Nat) {x : Int} (hi : i < 12) (hx : x = (i : Int)) (hd : decode cc pc = .ok (.aaload, 1)) (kk : G X M (pc + 1) lv (.ref (zA X (3 * i)) :: st)) : G X M pc lv (.int (jI x) :: .ref (zA X 96) :: st) := g_aald (f := fun ad j => some (ad (3 * j))) C (by omega) (by omega) (fun _ _ _ _ => ze_files) hi hx hd kk
theorem ga_ones (C : Cx cc own ret d n X) (i : Nat) {x : Int} (hi : i < 3) (hx : x = (i : Int)) (hd : decode cc pc = .ok (.aaload, 1)) (kk : G X M (pc + 1) lv (.ref (zA X (3 * (13 + i))) :: st)) : G X M pc lv (.int (jI x) :: .ref (zA X 91) :: st) := g_aald (f := fun ad j => some (ad (3 * (13 + j)))) C (by omega) (by omega) (fun _ _ _ _ => ze_ones) hi hx hd kk
theorem ga_others (C : Cx cc own ret d n X) (i : Nat) {x : Int} (hi : i < 3) (hx : x = (i : Int)) (hd : decode cc pc = .ok (.aaload, 1)) (kk : G X M (pc + 1) lv (.ref (zA X (3 * (16 + i))) :: st)) : G X M pc lv (.int (jI x) :: .ref (zA X 92) :: st) := g_aald (f := fun ad j => some (ad (3 * (16 + j)))) C (by omega) (by omega) (fun _ _ _ _ => ze_others) hi hx hd kk
theorem ga_trows (C : Cx cc own ret d n X) (i r : Nat) {x : Int} (hr : M 85 i = (r : Int)) (hi : i < 8) (hx : x = (i : Int)) (hd : decode cc pc = .ok (.aaload, 1)) (kk : G X M (pc + 1) lv (.ref (zA X (3 * r)) :: st)) : G X M pc lv (.int (jI x) :: .ref (zA X 85) :: st) := g_aald (f := fun ad j => z_rw ad (M 85 j)) C (by omega) (by omega) (fun _ _ _ _ => ze_trows) hi hx hd (by
  have h0 : ¬ (r : Int) < 0 := by omega
  have h : z_rw (zA X) (M 85 i) = some (zA X (3 * r)) := by rw [hr]; simp [z_rw, h0]
  rw [h]; exact kk)
theorem g_ifnull (C : Cx cc own ret d n X) {x : Nat} {off : Int} (hd : decode cc pc = .ok (.ifnull off, 3)) (kk : G X M (pc + 3) lv st) : G X M pc lv (.ref x :: st) := by
  obtain ⟨p, l, e, R, s, m, args, below, meth, c, Q, D, ad, ⟨cI, cJ, cO⟩, lo, cs, sl⟩ := X
  obtain ⟨hx, hb, -⟩ := C
  exact fun H locs ls hP hS hl => lv_ifnull hx hb hd (kk H locs ls hP hS hl)
end
end
section
/-! rows and lists of the world as lists -/
def kA (L : List (Int × Int)) (i : Nat) : Int := (L.getD i (0, 0)).1
def mA (L : List (Int × Int)) (i : Nat) : Int := (L.getD i (0, 0)).2
/-- keys and marks are in their bounds -/
def zIn (L : List (Int × Int)) : Prop := ∀ p ∈ L, (-999 ≤ p.1 ∧ p.1 ≤ 999) ∧ (0 ≤ p.2 ∧ p.2 ≤ 9999)
theorem zIn.at {L : List (Int × Int)} (h : zIn L) (i : Nat) : (-999 ≤ kA L i ∧ kA L i ≤ 999) ∧ (0 ≤ mA L i ∧ mA L i ≤ 9999) := by
  unfold kA mA
  by_cases hi : i < L.length
  · rw [show L.getD i (0, 0) = L[i] by simp [List.getD, hi]]
    exact h _ (List.getElem_mem hi)
  · rw [show L.getD i (0, 0) = (0, 0) by simp [List.getD, List.getElem?_eq_none (Nat.not_lt.mp hi)]]
    decide
theorem zIn.nil : zIn [] := fun _ h => absurd h List.not_mem_nil
theorem zIn.app {L : List (Int × Int)} {k m : Int} (h : zIn L) (hk : -999 ≤ k ∧ k ≤ 999) (hm : 0 ≤ m ∧ m ≤ 9999) : zIn (L ++ [(k, m)]) := by
  intro p hp
  rcases List.mem_append.mp hp with h1 | h1
  · exact h p h1
  · rw [List.mem_singleton.mp h1]; exact ⟨hk, hm⟩
theorem kA_app_l {L L2 : List (Int × Int)} {i : Nat} (h : i < L.length) : kA (L ++ L2) i = kA L i := by
  simp [kA, List.getD, List.getElem?_append_left h]
theorem mA_app_l {L L2 : List (Int × Int)} {i : Nat} (h : i < L.length) : mA (L ++ L2) i = mA L i := by
  simp [mA, List.getD, List.getElem?_append_left h]
theorem kA_app_n {L : List (Int × Int)} {k m : Int} : kA (L ++ [(k, m)]) L.length = k := by simp [kA, List.getD]
theorem mA_app_n {L : List (Int × Int)} {k m : Int} : mA (L ++ [(k, m)]) L.length = m := by simp [mA, List.getD]
/-- row r holds the records L -/
def zRow (M : zM) (r : Nat) (L : List (Int × Int)) : Prop := M (3 * r) 2 = (L.length : Int) ∧ L.length ≤ 120 ∧ ∀ i, i < L.length → M (3 * r + 1) i = kA L i ∧ M (3 * r + 2) i = mA L i
theorem zRow.keep {M M' : zM} {r : Nat} {L : List (Int × Int)} (h : zRow M r L) (h0 : M' (3 * r) = M (3 * r)) (h1 : M' (3 * r + 1) = M (3 * r + 1)) (h2 : M' (3 * r + 2) = M (3 * r + 2)) : zRow M' r L := by
  unfold zRow
  rw [h0, h1, h2]
  exact h
/-- the row r alone has changed -/
def zFr (M M' : zM) (r : Nat) : Prop := ∀ o, o ≠ 3 * r → o ≠ 3 * r + 1 → o ≠ 3 * r + 2 → M' o = M o
theorem zRow.apart {M M' : zM} {r q : Nat} {L : List (Int × Int)} (h : zRow M q L) (hf : zFr M M' r) (hq : q ≠ r) : zRow M' q L :=
  h.keep (hf _ (by omega) (by omega) (by omega)) (hf _ (by omega) (by omega) (by omega)) (hf _ (by omega) (by omega) (by omega))
theorem zFr.refl {M : zM} {r : Nat} : zFr M M r := fun _ _ _ _ => rfl
theorem zFr.trans {M M1 M2 : zM} {r : Nat} (h1 : zFr M M1 r) (h2 : zFr M1 M2 r) : zFr M M2 r := fun o a b c => (h2 o a b c).trans (h1 o a b c)
/-- what add makes of a row that has space -/
theorem zRow.push {M : zM} {r : Nat} {L : List (Int × Int)} (h : zRow M r L) (hs : L.length < 120) (k m : Int) :
    zRow (zu (zu (zu M (3 * r + 1) L.length k) (3 * r + 2) L.length m) (3 * r) 2 ((L.length : Int) + 1)) r (L ++ [(k, m)]) := by
  refine ⟨?_, by simp; omega, fun i hi => ?_⟩
  · rw [zu_s]; simp
  · simp at hi
    simp only [zu_at]
    by_cases h1 : i = L.length
    · subst h1
      rw [kA_app_n, mA_app_n]
      simp
    · have h2 : i < L.length := by omega
      rw [kA_app_l h2, mA_app_l h2]
      simp [h1]
      exact h.2.2 i h2
theorem zFr.push {M : zM} {r j : Nat} {k m c : Int} : zFr M (zu (zu (zu M (3 * r + 1) j k) (3 * r + 2) j m) (3 * r) 2 c) r := fun o h0 h1 h2 => by
  rw [zu_o _ _ _ _ h0, zu_o _ _ _ _ h2, zu_o _ _ _ _ h1]
/-- up, down -/
def upB : List (Int × Int) → Bool
  | a :: b :: t => decide (a.1 ≤ b.1) && upB (b :: t)
  | _ => true
def dnB : List (Int × Int) → Bool
  | a :: b :: t => decide (b.1 ≤ a.1) && dnB (b :: t)
  | _ => true
theorem upB_iff : ∀ L : List (Int × Int), upB L = true ↔ ∀ i, i + 1 < L.length → kA L i ≤ kA L (i + 1)
  | [] => by simp [upB]
  | [a] => by simp [upB]
  | a :: b :: t => by
    rw [upB, Bool.and_eq_true, decide_eq_true_eq, upB_iff (b :: t)]
    constructor
    · rintro ⟨h1, h2⟩ i hi
      cases i with
      | zero => simpa [kA] using h1
      | succ i => simpa [kA] using h2 i (by simpa using hi)
    · intro h
      refine ⟨by simpa [kA] using h 0 (by simp), fun i hi => ?_⟩
      simpa [kA] using h (i + 1) (by simpa using hi)
theorem dnB_iff : ∀ L : List (Int × Int), dnB L = true ↔ ∀ i, i + 1 < L.length → kA L (i + 1) ≤ kA L i
  | [] => by simp [dnB]
  | [a] => by simp [dnB]
  | a :: b :: t => by
    rw [dnB, Bool.and_eq_true, decide_eq_true_eq, dnB_iff (b :: t)]
    constructor
    · rintro ⟨h1, h2⟩ i hi
      cases i with
      | zero => simpa [kA] using h1
      | succ i => simpa [kA] using h2 i (by simpa using hi)
    · intro h
      refine ⟨by simpa [kA] using h 0 (by simp), fun i hi => ?_⟩
      simpa [kA] using h (i + 1) (by simpa using hi)
/-- list n holds the numbers L -/
def nA (L : List Int) (i : Nat) : Int := L.getD i 0
def zNum (M : zM) (n : Nat) (L : List Int) : Prop := M (60 + 2 * n) 1 = (L.length : Int) ∧ L.length ≤ 120 ∧ ∀ i, i < L.length → M (61 + 2 * n) i = nA L i
def zFn (M M' : zM) (n : Nat) : Prop := ∀ o, o ≠ 60 + 2 * n → o ≠ 61 + 2 * n → M' o = M o
theorem zNum.keep {M M' : zM} {n : Nat} {L : List Int} (h : zNum M n L) (h0 : M' (60 + 2 * n) = M (60 + 2 * n)) (h1 : M' (61 + 2 * n) = M (61 + 2 * n)) : zNum M' n L := by
  unfold zNum
  rw [h0, h1]
  exact h
theorem zNum.apart {M M' : zM} {n q : Nat} {L : List Int} (h : zNum M q L) (hf : zFn M M' n) (hq : q ≠ n) : zNum M' q L :=
  h.keep (hf _ (by omega) (by omega)) (hf _ (by omega) (by omega))
theorem zFn.refl {M : zM} {n : Nat} : zFn M M n := fun _ _ _ => rfl
theorem zFn.trans {M M1 M2 : zM} {n : Nat} (h1 : zFn M M1 n) (h2 : zFn M1 M2 n) : zFn M M2 n := fun o a b => (h2 o a b).trans (h1 o a b)
theorem nA_app_l {L L2 : List Int} {i : Nat} (h : i < L.length) : nA (L ++ L2) i = nA L i := by
  simp [nA, List.getD, List.getElem?_append_left h]
theorem nA_app_n {L : List Int} {k : Int} : nA (L ++ [k]) L.length = k := by simp [nA, List.getD]
theorem zNum.push {M : zM} {n : Nat} {L : List Int} (h : zNum M n L) (hs : L.length < 120) (k : Int) :
    zNum (zu (zu M (61 + 2 * n) L.length k) (60 + 2 * n) 1 ((L.length : Int) + 1)) n (L ++ [k]) := by
  refine ⟨?_, by simp; omega, fun i hi => ?_⟩
  · rw [zu_s]; simp
  · simp at hi
    simp only [zu_at]
    by_cases h1 : i = L.length
    · subst h1
      rw [nA_app_n]
      simp
    · have h2 : i < L.length := by omega
      rw [nA_app_l h2]
      simp [h1]
      exact h.2.2 i h2
theorem zFn.push {M : zM} {n j : Nat} {k c : Int} : zFn M (zu (zu M (61 + 2 * n) j k) (60 + 2 * n) 1 c) n := fun o h0 h1 => by
  rw [zu_o _ _ _ _ h0, zu_o _ _ _ _ h1]
/-! more of lists -/
theorem rec_take {L : List (Int × Int)} {i : Nat} (h : i < L.length) : L.take (i + 1) = L.take i ++ [(kA L i, mA L i)] := by
  have e : L[i]? = some (kA L i, mA L i) := by
    rw [List.getElem?_eq_getElem h]; simp [kA, mA, List.getD, h]
  rw [List.take_succ, e]; rfl
theorem num_take {L : List Int} {i : Nat} (h : i < L.length) : L.take (i + 1) = L.take i ++ [nA L i] := by
  have e : L[i]? = some (nA L i) := by
    rw [List.getElem?_eq_getElem h]; simp [nA, List.getD, h]
  rw [List.take_succ, e]; rfl
theorem zRow.is_take {M : zM} {r : Nat} {L : List (Int × Int)} (h : zRow M r L) : zRow M r (L.take L.length) := by rw [List.take_length]; exact h
/-- the first place from f on whose key is not below k -/
def pnb (L : List (Int × Int)) (k : Int) (f : Nat) : Nat := f + ((L.drop f).takeWhile (fun p => decide (p.1 < k))).length
theorem kA_get {L : List (Int × Int)} {i : Nat} (h : i < L.length) : kA L i = L[i].1 := by simp [kA, List.getD, h]
theorem mA_get {L : List (Int × Int)} {i : Nat} (h : i < L.length) : mA L i = L[i].2 := by simp [mA, List.getD, h]
theorem pnb_end {L : List (Int × Int)} {k : Int} {f : Nat} (h : L.length ≤ f) : pnb L k f = f := by simp [pnb, List.drop_eq_nil_of_le h]
theorem pnb_stop {L : List (Int × Int)} {k : Int} {f : Nat} (h : f < L.length) (hk : k ≤ kA L f) : pnb L k f = f := by
  rw [kA_get h] at hk
  rw [pnb, List.drop_eq_getElem_cons h, List.takeWhile_cons_of_neg (by simp; omega)]; rfl
theorem pnb_step {L : List (Int × Int)} {k : Int} {f : Nat} (h : f < L.length) (hk : kA L f < k) : pnb L k f = pnb L k (f + 1) := by
  rw [kA_get h] at hk
  rw [pnb, List.drop_eq_getElem_cons h, List.takeWhile_cons_of_pos (by simp; omega), pnb, List.length_cons]
  omega
theorem nA_get {L : List Int} {i : Nat} (h : i < L.length) : nA L i = L[i] := by simp [nA, List.getD, h]
/-- a place of a list set -/
theorem zNum.put {M : zM} {n i : Nat} {L : List Int} (h : zNum M n L) (hi : i < L.length) (v : Int) : zNum (zu M (61 + 2 * n) i v) n (L.set i v) := by
  refine ⟨by rw [zu_o _ _ _ _ (by omega), List.length_set]; exact h.1, by rw [List.length_set]; exact h.2.1, fun j hj => ?_⟩
  rw [List.length_set] at hj
  by_cases e : j = i
  · subst e
    rw [zu_s, nA_get (by rw [List.length_set]; exact hj)]; simp
  · rw [zu_k _ _ _ _ e, h.2.2 j hj, nA_get hj, nA_get (by rw [List.length_set]; exact hj), List.getElem_set_ne (Ne.symm e)]
theorem zFn.put {M : zM} {n i : Nat} {v : Int} : zFn M (zu M (61 + 2 * n) i v) n := fun o _ h1 => zu_o _ _ _ _ h1
theorem zNum.cut {M : zM} {n c : Nat} {L : List Int} (h : zNum M n L) (hc : c ≤ L.length) : zNum (zu M (60 + 2 * n) 1 (c : Int)) n (L.take c) := by
  refine ⟨by rw [zu_s, List.length_take]; omega, by rw [List.length_take]; have := h.2.1; omega, fun j hj => ?_⟩
  rw [List.length_take] at hj
  rw [zu_o _ _ _ _ (by omega), h.2.2 j (by omega), nA_get (by omega), nA_get (by rw [List.length_take]; omega), List.getElem_take]
/-- the place of the least number among the first i, of several the one ahead -/
def lpF (L : List Int) : Nat → Nat
  | 0 => 0
  | i + 1 => if nA L i < nA L (lpF L i) then i else lpF L i
theorem lpF_lt (L : List Int) : ∀ i, 0 < i → lpF L i < i
  | 0, h => absurd h (Nat.lt_irrefl 0)
  | 1, _ => by simp [lpF]
  | i + 2, _ => by
    have := lpF_lt L (i + 1) (by omega)
    rw [lpF]
    by_cases h : nA L (i + 1) < nA L (lpF L (i + 1))
    · rw [if_pos h]; omega
    · rw [if_neg h]; omega
/-- what stands at place j while the numbers behind place q are moved one ahead, up to place b -/
theorem nA_erase {L : List Int} {q j : Nat} (hj : j < (L.eraseIdx q).length) : nA (L.eraseIdx q) j = if j < q then nA L j else nA L (j + 1) := by
  have h2 : L.eraseIdx q = L.take q ++ L.drop (q + 1) := by
    rw [List.eraseIdx_eq_take_drop_succ]
  rw [nA_get hj, List.getElem_eraseIdx]
  by_cases h : j < q
  · rw [dif_pos h, if_pos h, nA_get]
  · rw [dif_neg h, if_neg h, nA_get]
def pgs (a b : Int) : Int := (a + b - 1) / b
theorem pgs_in {a b : Int} (ha : 0 ≤ a) (hb : 1 ≤ b) : 0 ≤ pgs a b ∧ pgs a b ≤ a := by
  unfold pgs
  refine ⟨Int.ediv_nonneg (by omega) (by omega), ?_⟩
  have h1 : (a + b - 1) / b < a + 1 := by
    apply Int.ediv_lt_of_lt_mul (by omega)
    have : 0 ≤ a * (b - 1) := Int.mul_nonneg ha (by omega)
    have e : (a + 1) * b = a * (b - 1) + a + b := by
      rw [Int.add_mul, Int.mul_sub]; omega
    omega
  omega
/-- division that cuts, and the one that goes down -/
theorem jI_tmod {x y : Int} (hx : -2147483648 ≤ x ∧ x ≤ 2147483647) (hy : 0 < y ∧ y ≤ 2147483647) : jI x - jI x / jI y * jI y = jI (x.tmod y) := by
  have hb := tmod_bounds (a := x) hy.1
  apply Int32.toInt_inj.mp
  rw [rem_toInt, jI_t hx, jI_t (by omega), jI_t (by omega)]
theorem jI_xor_neg {x y : Int} (hx : -2147483648 ≤ x ∧ x ≤ 2147483647) (hy : 0 < y ∧ y ≤ 2147483647) : (jI x ^^^ jI y).toInt < 0 ↔ x < 0 := by
  have h1 : (jI x).toBitVec.msb = decide (x < 0) := by
    rw [BitVec.msb_eq_toInt]; congr 1
    have : (jI x).toBitVec.toInt = x := jI_t hx
    rw [this]
  have h2 : (jI y).toBitVec.msb = false := by
    rw [BitVec.msb_eq_toInt]
    have : (jI y).toBitVec.toInt = y := jI_t (by omega)
    rw [this]; simp; omega
  have h3 : (jI x ^^^ jI y).toBitVec.msb = decide (x < 0) := by
    rw [Int32.toBitVec_xor, BitVec.msb_xor, h1, h2]; simp
  rw [BitVec.msb_eq_toInt] at h3
  have h4 : (jI x ^^^ jI y).toBitVec.toInt = (jI x ^^^ jI y).toInt := rfl
  rw [h4] at h3
  constructor
  · intro h; simpa [h] using h3
  · intro h; simpa [h] using h3
theorem z_tmod {x y : Int} (hx : x < 0) (hy : 0 < y) : x % y = if x.tmod y = 0 then 0 else x.tmod y + y := by
  rw [Int.emod_eq_tmod]
  by_cases h : x.tmod y = 0
  · have : y ∣ x := Int.dvd_of_tmod_eq_zero h
    rw [if_pos h, if_pos (Or.inr this), h]; rfl
  · have : ¬ y ∣ x := fun q => h (Int.tmod_eq_zero_of_dvd q)
    rw [if_neg h, if_neg (by simp [this]; omega)]
    omega
end
section
/-! methods of Math, of a row, of a list -/
set_option maxHeartbeats 4000000 in
set_option maxRecDepth 10000 in
theorem c_max (l : Launch) (a b : Int) (ha : -2147483648 ≤ a ∧ a ≤ 2147483647) (hb : -2147483648 ≤ b ∧ b ≤ 2147483647) (M : zM)  : Mt l 1 yJ9_max_7cf53 cJ9_max_7cf53 2 (some .int) (fun ad => [.int (jI (a)), .int (jI (b))]) M (fun _ vv M' => vv = some (.int (jI (if b ≤ a then a else b))) ∧ M' = M) := by
  refine Mt.of (fun ad => [some (.int (jI (a))), some (.int (jI (b)))]) (by decide +kernel) (fun _ => rfl) (fun _ => rfl) (fun _ => Nat.le_of_ble_eq_true rfl) fun X hX C hR => ?_
  subst hX
  show G X M 0 [some (.int (jI (a))), some (.int (jI (b)))] []
  refine g_iload_n C dJ9_max_7cf53_0 rfl ?_
  refine g_iload_n C dJ9_max_7cf53_1 rfl ?_
  refine g_icmp_lt (tgt := 9) C dJ9_max_7cf53_2 rfl (by omega) (by omega) (fun h2 => ?_) (fun h2 => ?_)
  · refine g_iload_n C dJ9_max_7cf53_9 rfl ?_
    refine g_iret C hR dJ9_max_7cf53_10 ?_
    refine ⟨?_, rfl⟩
    first | rw [if_pos (by omega)] | rw [if_neg (by omega)]
  · refine g_iload_n C dJ9_max_7cf53_5 rfl ?_
    refine g_goto (tgt := 10) C dJ9_max_7cf53_6 rfl ?_
    show G X _ 10 _ _
    refine g_iret C hR dJ9_max_7cf53_10 ?_
    refine ⟨?_, rfl⟩
    first | rw [if_pos (by omega)] | rw [if_neg (by omega)]
theorem gc_max {X : z_X} {cc : ByteArray} {own : String} {ret : Option FieldType} {dC nC : Nat} {M : zM} {pc : Nat} {lv : List (Option Value)} {st : List Value} (C : Cx cc own ret dC nC X) (hdep : 2 ≤ dC) {idx : Nat} (hl0 : Cond.methodLink own idx yJ9_max_7cf53 ∈ tT) (hcat : (st.map fun v => v.category).sum ≤ 8) (hlen : lv.length = nC) (hdec : decode cc pc = .ok (.invokestatic idx, 3)) (a b : Int) (ha : -2147483648 ≤ a ∧ a ≤ 2147483647) (hb : -2147483648 ≤ b ∧ b ≤ 2147483647)  (kk : G X M (pc + 3) lv (.int (jI (if b ≤ a then a else b)) :: st)) : G X M pc lv (.int (jI (b)) :: .int (jI (a)) :: st) := by
  refine g_callS (k := 2) C (c_max (zL X) a b ha hb M ) mfJ9_max_7cf53 hl0 ⟨rfl, by decide +kernel, by decide +kernel, by decide +kernel⟩ ⟨hdep, by decide⟩ rfl rfl rfl hcat hlen hdec (fun v M' h => ?_)
  obtain ⟨rfl, rfl⟩ := h
  exact kk
set_option maxHeartbeats 4000000 in
set_option maxRecDepth 10000 in
theorem c_min (l : Launch) (a b : Int) (ha : -2147483648 ≤ a ∧ a ≤ 2147483647) (hb : -2147483648 ≤ b ∧ b ≤ 2147483647) (M : zM)  : Mt l 1 yJ9_min_7cf53 cJ9_min_7cf53 2 (some .int) (fun ad => [.int (jI (a)), .int (jI (b))]) M (fun _ vv M' => vv = some (.int (jI (if a ≤ b then a else b))) ∧ M' = M) := by
  refine Mt.of (fun ad => [some (.int (jI (a))), some (.int (jI (b)))]) (by decide +kernel) (fun _ => rfl) (fun _ => rfl) (fun _ => Nat.le_of_ble_eq_true rfl) fun X hX C hR => ?_
  subst hX
  show G X M 0 [some (.int (jI (a))), some (.int (jI (b)))] []
  refine g_iload_n C dJ9_min_7cf53_0 rfl ?_
  refine g_iload_n C dJ9_min_7cf53_1 rfl ?_
  refine g_icmp_gt (tgt := 9) C dJ9_min_7cf53_2 rfl (by omega) (by omega) (fun h2 => ?_) (fun h2 => ?_)
  · refine g_iload_n C dJ9_min_7cf53_9 rfl ?_
    refine g_iret C hR dJ9_min_7cf53_10 ?_
    refine ⟨?_, rfl⟩
    first | rw [if_pos (by omega)] | rw [if_neg (by omega)]
  · refine g_iload_n C dJ9_min_7cf53_5 rfl ?_
    refine g_goto (tgt := 10) C dJ9_min_7cf53_6 rfl ?_
    show G X _ 10 _ _
    refine g_iret C hR dJ9_min_7cf53_10 ?_
    refine ⟨?_, rfl⟩
    first | rw [if_pos (by omega)] | rw [if_neg (by omega)]
theorem gc_min {X : z_X} {cc : ByteArray} {own : String} {ret : Option FieldType} {dC nC : Nat} {M : zM} {pc : Nat} {lv : List (Option Value)} {st : List Value} (C : Cx cc own ret dC nC X) (hdep : 2 ≤ dC) {idx : Nat} (hl0 : Cond.methodLink own idx yJ9_min_7cf53 ∈ tT) (hcat : (st.map fun v => v.category).sum ≤ 8) (hlen : lv.length = nC) (hdec : decode cc pc = .ok (.invokestatic idx, 3)) (a b : Int) (ha : -2147483648 ≤ a ∧ a ≤ 2147483647) (hb : -2147483648 ≤ b ∧ b ≤ 2147483647)  (kk : G X M (pc + 3) lv (.int (jI (if a ≤ b then a else b)) :: st)) : G X M pc lv (.int (jI (b)) :: .int (jI (a)) :: st) := by
  refine g_callS (k := 2) C (c_min (zL X) a b ha hb M ) mfJ9_min_7cf53 hl0 ⟨rfl, by decide +kernel, by decide +kernel, by decide +kernel⟩ ⟨hdep, by decide⟩ rfl rfl rfl hcat hlen hdec (fun v M' h => ?_)
  obtain ⟨rfl, rfl⟩ := h
  exact kk
set_option maxHeartbeats 4000000 in
set_option maxRecDepth 10000 in
theorem c_abs (l : Launch) (a : Int) (ha : -2147483647 ≤ a ∧ a ≤ 2147483647) (M : zM)  : Mt l 1 yJ9_abs_0f7a4 cJ9_abs_0f7a4 1 (some .int) (fun ad => [.int (jI (a))]) M (fun _ vv M' => vv = some (.int (jI (if a < 0 then -a else a))) ∧ M' = M) := by
  refine Mt.of (fun ad => [some (.int (jI (a)))]) (by decide +kernel) (fun _ => rfl) (fun _ => rfl) (fun _ => Nat.le_of_ble_eq_true rfl) fun X hX C hR => ?_
  subst hX
  show G X M 0 [some (.int (jI (a)))] []
  refine g_iload_n C dJ9_abs_0f7a4_0 rfl ?_
  refine g_if_ge (tgt := 9) C dJ9_abs_0f7a4_1 rfl (by omega) (fun h1 => ?_) (fun h1 => ?_)
  · refine g_iload_n C dJ9_abs_0f7a4_9 rfl ?_
    refine g_iret C hR dJ9_abs_0f7a4_10 ?_
    refine ⟨?_, rfl⟩
    first | rw [if_pos (by omega)] | rw [if_neg (by omega)]
  · refine g_iload_n C dJ9_abs_0f7a4_4 rfl ?_
    refine g_ineg C dJ9_abs_0f7a4_5 ?_
    refine g_goto (tgt := 10) C dJ9_abs_0f7a4_6 rfl ?_
    show G X _ 10 _ _
    refine g_iret C hR dJ9_abs_0f7a4_10 ?_
    refine ⟨?_, rfl⟩
    first | rw [if_pos (by omega)] | rw [if_neg (by omega)]
theorem gc_abs {X : z_X} {cc : ByteArray} {own : String} {ret : Option FieldType} {dC nC : Nat} {M : zM} {pc : Nat} {lv : List (Option Value)} {st : List Value} (C : Cx cc own ret dC nC X) (hdep : 2 ≤ dC) {idx : Nat} (hl0 : Cond.methodLink own idx yJ9_abs_0f7a4 ∈ tT) (hcat : (st.map fun v => v.category).sum ≤ 8) (hlen : lv.length = nC) (hdec : decode cc pc = .ok (.invokestatic idx, 3)) (a : Int) (ha : -2147483647 ≤ a ∧ a ≤ 2147483647)  (kk : G X M (pc + 3) lv (.int (jI (if a < 0 then -a else a)) :: st)) : G X M pc lv (.int (jI (a)) :: st) := by
  refine g_callS (k := 1) C (c_abs (zL X) a ha M ) mfJ9_abs_0f7a4 hl0 ⟨rfl, by decide +kernel, by decide +kernel, by decide +kernel⟩ ⟨hdep, by decide⟩ rfl rfl rfl hcat hlen hdec (fun v M' h => ?_)
  obtain ⟨rfl, rfl⟩ := h
  exact kk
set_option maxHeartbeats 4000000 in
set_option maxRecDepth 10000 in
theorem c_Row_empty (l : Launch) {r : Nat} (hr : r < 20) (M : zM)  : Mt l 1 yX5_empty cX5_empty 1 none (fun ad => [.ref (ad (3 * r))]) M (fun _ vv M' => vv = none ∧ (zRow M' r [] ∧ zFr M M' r)) := by
  refine Mt.of (fun ad => [some (.ref (ad (3 * r)))]) (by decide +kernel) (fun _ => rfl) (fun _ => rfl) (fun _ => Nat.le_of_ble_eq_true rfl) fun X hX C hR => ?_
  subst hX
  show G X M 0 [some (.ref ((zA X) (3 * r)))] []
  refine g_aload_n C dX5_empty_0 rfl ?_
  refine g_iconst C dX5_empty_1 ?_
  refine gp_Row_count C (by omega) tw_147 dX5_empty_2 ?_
  refine g_vret C hR dX5_empty_5 ?_
  refine ⟨rfl, ⟨by rw [zu_s]; rfl, by simp, fun i hi => by simp at hi⟩, fun o h0 h1 h2 => zu_o _ _ _ _ h0⟩
theorem gc_Row_empty {X : z_X} {cc : ByteArray} {own : String} {ret : Option FieldType} {dC nC : Nat} {M : zM} {pc : Nat} {lv : List (Option Value)} {st : List Value} (C : Cx cc own ret dC nC X) (hdep : 2 ≤ dC) {idx : Nat} (hl0 : Cond.methodLink own idx yX5_empty ∈ tT) (hcat : (st.map fun v => v.category).sum ≤ 8) (hlen : lv.length = nC) (hdec : decode cc pc = .ok (.invokevirtual idx, 3)) {r : Nat} (hr : r < 20)  (kk : ∀ M' : zM, (zRow M' r [] ∧ zFr M M' r) → G X M' (pc + 3) lv st) : G X M pc lv (.ref (zA X (3 * r)) :: st) := by
  refine g_callV (k := 0) (o := 3 * r) C (c_Row_empty (zL X) hr M ) mfX5_empty hl0 ⟨rfl, by decide +kernel, by decide +kernel, by decide +kernel⟩ ⟨hdep, by decide⟩ (by omega) (fun _ _ _ _ => ze_row (by omega)) rfl rfl rfl rfl hcat hlen hdec (fun v M' h => ?_)
  obtain ⟨rfl, h⟩ := h
  exact kk M' h
set_option maxHeartbeats 4000000 in
set_option maxRecDepth 10000 in
theorem c_Row_count (l : Launch) {r : Nat} (hr : r < 20) {L : List (Int × Int)} (M : zM) (hL : zRow M r L) : Mt l 1 yX5_count cX5_count 1 (some .int) (fun ad => [.ref (ad (3 * r))]) M (fun _ vv M' => vv = some (.int (jI ((L.length : Int)))) ∧ M' = M) := by
  refine Mt.of (fun ad => [some (.ref (ad (3 * r)))]) (by decide +kernel) (fun _ => rfl) (fun _ => rfl) (fun _ => Nat.le_of_ble_eq_true rfl) fun X hX C hR => ?_
  subst hX
  show G X M 0 [some (.ref ((zA X) (3 * r)))] []
  refine g_aload_n C dX5_count_0 rfl ?_
  refine gf_Row_count C (by omega) tw_147 dX5_count_1 ?_
  refine g_iret C hR dX5_count_4 ?_
  exact ⟨by rw [hL.1], rfl⟩
theorem gc_Row_count {X : z_X} {cc : ByteArray} {own : String} {ret : Option FieldType} {dC nC : Nat} {M : zM} {pc : Nat} {lv : List (Option Value)} {st : List Value} (C : Cx cc own ret dC nC X) (hdep : 2 ≤ dC) {idx : Nat} (hl0 : Cond.methodLink own idx yX5_count ∈ tT) (hcat : (st.map fun v => v.category).sum ≤ 8) (hlen : lv.length = nC) (hdec : decode cc pc = .ok (.invokevirtual idx, 3)) {r : Nat} (hr : r < 20) {L : List (Int × Int)} (hL : zRow M r L) (kk : G X M (pc + 3) lv (.int (jI ((L.length : Int))) :: st)) : G X M pc lv (.ref (zA X (3 * r)) :: st) := by
  refine g_callV (k := 0) (o := 3 * r) C (c_Row_count (zL X) hr M hL) mfX5_count hl0 ⟨rfl, by decide +kernel, by decide +kernel, by decide +kernel⟩ ⟨hdep, by decide⟩ (by omega) (fun _ _ _ _ => ze_row (by omega)) rfl rfl rfl rfl hcat hlen hdec (fun v M' h => ?_)
  obtain ⟨rfl, rfl⟩ := h
  exact kk
set_option maxHeartbeats 4000000 in
set_option maxRecDepth 10000 in
theorem c_Row_has (l : Launch) {r : Nat} (hr : r < 20) {L : List (Int × Int)} (x : Int) (hx : -2147483648 ≤ x ∧ x ≤ 2147483647) (M : zM) (hL : zRow M r L) : Mt l 1 yX5_has cX5_has 2 (some .boolean) (fun ad => [.ref (ad (3 * r)), .int (jI (x))]) M (fun _ vv M' => vv = some (.int (jI (if 0 ≤ x ∧ x < (L.length : Int) then 1 else 0))) ∧ M' = M) := by
  refine Mt.of (fun ad => [some (.ref (ad (3 * r))), some (.int (jI (x)))]) (by decide +kernel) (fun _ => rfl) (fun _ => rfl) (fun _ => Nat.le_of_ble_eq_true rfl) fun X hX C hR => ?_
  subst hX
  show G X M 0 [some (.ref ((zA X) (3 * r))), some (.int (jI (x)))] []
  obtain ⟨hc, hc2, hc3⟩ := hL
  refine g_iload_n C dX5_has_0 rfl ?_
  refine g_if_lt (tgt := 16) C dX5_has_1 rfl (by omega) (fun h1 => ?_) (fun h1 => ?_)
  · refine g_iconst C dX5_has_16 ?_
    refine g_zret C hR (by omega) dX5_has_17 ?_
    refine ⟨?_, rfl⟩
    first | rw [if_pos (by omega)] | rw [if_neg (by omega)]
  · refine g_iload_n C dX5_has_4 rfl ?_
    refine g_aload_n C dX5_has_5 rfl ?_
    refine gf_Row_count C (by omega) tw_147 dX5_has_6 ?_
    refine g_icmp_ge (tgt := 16) C dX5_has_9 rfl (by omega) (by omega) (fun h9 => ?_) (fun h9 => ?_)
    · refine g_iconst C dX5_has_16 ?_
      refine g_zret C hR (by omega) dX5_has_17 ?_
      refine ⟨?_, rfl⟩
      first | rw [if_pos (by omega)] | rw [if_neg (by omega)]
    · refine g_iconst C dX5_has_12 ?_
      refine g_goto (tgt := 17) C dX5_has_13 rfl ?_
      show G X _ 17 _ _
      refine g_zret C hR (by omega) dX5_has_17 ?_
      refine ⟨?_, rfl⟩
      first | rw [if_pos (by omega)] | rw [if_neg (by omega)]
theorem gc_Row_has {X : z_X} {cc : ByteArray} {own : String} {ret : Option FieldType} {dC nC : Nat} {M : zM} {pc : Nat} {lv : List (Option Value)} {st : List Value} (C : Cx cc own ret dC nC X) (hdep : 2 ≤ dC) {idx : Nat} (hl0 : Cond.methodLink own idx yX5_has ∈ tT) (hcat : (st.map fun v => v.category).sum ≤ 8) (hlen : lv.length = nC) (hdec : decode cc pc = .ok (.invokevirtual idx, 3)) {r : Nat} (hr : r < 20) {L : List (Int × Int)} (x : Int) (hx : -2147483648 ≤ x ∧ x ≤ 2147483647) (hL : zRow M r L) (kk : G X M (pc + 3) lv (.int (jI (if 0 ≤ x ∧ x < (L.length : Int) then 1 else 0)) :: st)) : G X M pc lv (.int (jI (x)) :: .ref (zA X (3 * r)) :: st) := by
  refine g_callV (k := 1) (o := 3 * r) C (c_Row_has (zL X) hr x hx M hL) mfX5_has hl0 ⟨rfl, by decide +kernel, by decide +kernel, by decide +kernel⟩ ⟨hdep, by decide⟩ (by omega) (fun _ _ _ _ => ze_row (by omega)) rfl rfl rfl rfl hcat hlen hdec (fun v M' h => ?_)
  obtain ⟨rfl, rfl⟩ := h
  exact kk
set_option maxHeartbeats 4000000 in
set_option maxRecDepth 10000 in
theorem c_Row_keyAt (l : Launch) {r : Nat} (hr : r < 20) {L : List (Int × Int)} (i : Nat) (hi : i < L.length) (M : zM) (hL : zRow M r L) : Mt l 1 yX5_keyAt cX5_keyAt 2 (some .int) (fun ad => [.ref (ad (3 * r)), .int (jI ((i : Int)))]) M (fun _ vv M' => vv = some (.int (jI (kA L i))) ∧ M' = M) := by
  refine Mt.of (fun ad => [some (.ref (ad (3 * r))), some (.int (jI ((i : Int))))]) (by decide +kernel) (fun _ => rfl) (fun _ => rfl) (fun _ => Nat.le_of_ble_eq_true rfl) fun X hX C hR => ?_
  subst hX
  show G X M 0 [some (.ref ((zA X) (3 * r))), some (.int (jI ((i : Int))))] []
  obtain ⟨hc, hc2, hc3⟩ := hL
  refine g_iload_n C dX5_keyAt_0 rfl ?_
  refine g_if_lt (tgt := 21) C dX5_keyAt_1 rfl (by omega) (fun h1 => ?_) (fun h1 => ?_)
  · omega
  · refine g_iload_n C dX5_keyAt_4 rfl ?_
    refine g_aload_n C dX5_keyAt_5 rfl ?_
    refine gf_Row_count C (by omega) tw_147 dX5_keyAt_6 ?_
    refine g_icmp_ge (tgt := 21) C dX5_keyAt_9 rfl (by omega) (by omega) (fun h9 => ?_) (fun h9 => ?_)
    · omega
    · refine g_aload_n C dX5_keyAt_12 rfl ?_
      refine gf_Row_keys C (by omega) tw_145 dX5_keyAt_13 ?_
      refine g_iload_n C dX5_keyAt_16 rfl ?_
      refine ga_keys C (by omega) _ (by omega) rfl dX5_keyAt_17 ?_
      refine g_goto (tgt := 22) C dX5_keyAt_18 rfl ?_
      show G X _ 22 _ _
      refine g_iret C hR dX5_keyAt_22 ?_
      exact ⟨by rw [(hc3 i hi).1], rfl⟩
theorem gc_Row_keyAt {X : z_X} {cc : ByteArray} {own : String} {ret : Option FieldType} {dC nC : Nat} {M : zM} {pc : Nat} {lv : List (Option Value)} {st : List Value} (C : Cx cc own ret dC nC X) (hdep : 2 ≤ dC) {idx : Nat} (hl0 : Cond.methodLink own idx yX5_keyAt ∈ tT) (hcat : (st.map fun v => v.category).sum ≤ 8) (hlen : lv.length = nC) (hdec : decode cc pc = .ok (.invokevirtual idx, 3)) {r : Nat} (hr : r < 20) {L : List (Int × Int)} (i : Nat) (hi : i < L.length) (hL : zRow M r L) (kk : G X M (pc + 3) lv (.int (jI (kA L i)) :: st)) : G X M pc lv (.int (jI ((i : Int))) :: .ref (zA X (3 * r)) :: st) := by
  refine g_callV (k := 1) (o := 3 * r) C (c_Row_keyAt (zL X) hr i hi M hL) mfX5_keyAt hl0 ⟨rfl, by decide +kernel, by decide +kernel, by decide +kernel⟩ ⟨hdep, by decide⟩ (by omega) (fun _ _ _ _ => ze_row (by omega)) rfl rfl rfl rfl hcat hlen hdec (fun v M' h => ?_)
  obtain ⟨rfl, rfl⟩ := h
  exact kk
set_option maxHeartbeats 4000000 in
set_option maxRecDepth 10000 in
theorem c_Row_markAt (l : Launch) {r : Nat} (hr : r < 20) {L : List (Int × Int)} (i : Nat) (hi : i < L.length) (M : zM) (hL : zRow M r L) : Mt l 1 yX5_markAt cX5_markAt 2 (some .int) (fun ad => [.ref (ad (3 * r)), .int (jI ((i : Int)))]) M (fun _ vv M' => vv = some (.int (jI (mA L i))) ∧ M' = M) := by
  refine Mt.of (fun ad => [some (.ref (ad (3 * r))), some (.int (jI ((i : Int))))]) (by decide +kernel) (fun _ => rfl) (fun _ => rfl) (fun _ => Nat.le_of_ble_eq_true rfl) fun X hX C hR => ?_
  subst hX
  show G X M 0 [some (.ref ((zA X) (3 * r))), some (.int (jI ((i : Int))))] []
  obtain ⟨hc, hc2, hc3⟩ := hL
  refine g_iload_n C dX5_markAt_0 rfl ?_
  refine g_if_lt (tgt := 21) C dX5_markAt_1 rfl (by omega) (fun h1 => ?_) (fun h1 => ?_)
  · omega
  · refine g_iload_n C dX5_markAt_4 rfl ?_
    refine g_aload_n C dX5_markAt_5 rfl ?_
    refine gf_Row_count C (by omega) tw_147 dX5_markAt_6 ?_
    refine g_icmp_ge (tgt := 21) C dX5_markAt_9 rfl (by omega) (by omega) (fun h9 => ?_) (fun h9 => ?_)
    · omega
    · refine g_aload_n C dX5_markAt_12 rfl ?_
      refine gf_Row_marks C (by omega) tw_146 dX5_markAt_13 ?_
      refine g_iload_n C dX5_markAt_16 rfl ?_
      refine ga_marks C (by omega) _ (by omega) rfl dX5_markAt_17 ?_
      refine g_goto (tgt := 22) C dX5_markAt_18 rfl ?_
      show G X _ 22 _ _
      refine g_iret C hR dX5_markAt_22 ?_
      exact ⟨by rw [(hc3 i hi).2], rfl⟩
theorem gc_Row_markAt {X : z_X} {cc : ByteArray} {own : String} {ret : Option FieldType} {dC nC : Nat} {M : zM} {pc : Nat} {lv : List (Option Value)} {st : List Value} (C : Cx cc own ret dC nC X) (hdep : 2 ≤ dC) {idx : Nat} (hl0 : Cond.methodLink own idx yX5_markAt ∈ tT) (hcat : (st.map fun v => v.category).sum ≤ 8) (hlen : lv.length = nC) (hdec : decode cc pc = .ok (.invokevirtual idx, 3)) {r : Nat} (hr : r < 20) {L : List (Int × Int)} (i : Nat) (hi : i < L.length) (hL : zRow M r L) (kk : G X M (pc + 3) lv (.int (jI (mA L i)) :: st)) : G X M pc lv (.int (jI ((i : Int))) :: .ref (zA X (3 * r)) :: st) := by
  refine g_callV (k := 1) (o := 3 * r) C (c_Row_markAt (zL X) hr i hi M hL) mfX5_markAt hl0 ⟨rfl, by decide +kernel, by decide +kernel, by decide +kernel⟩ ⟨hdep, by decide⟩ (by omega) (fun _ _ _ _ => ze_row (by omega)) rfl rfl rfl rfl hcat hlen hdec (fun v M' h => ?_)
  obtain ⟨rfl, rfl⟩ := h
  exact kk
set_option maxHeartbeats 4000000 in
set_option maxRecDepth 10000 in
theorem c_Row_add (l : Launch) {r : Nat} (hr : r < 20) {L : List (Int × Int)} (k m : Int) (hs : L.length < 120) (M : zM) (hL : zRow M r L) : Mt l 1 yX5_add cX5_add 3 none (fun ad => [.ref (ad (3 * r)), .int (jI (k)), .int (jI (m))]) M (fun _ vv M' => vv = none ∧ (zRow M' r (L ++ [(k, m)]) ∧ zFr M M' r)) := by
  refine Mt.of (fun ad => [some (.ref (ad (3 * r))), some (.int (jI (k))), some (.int (jI (m)))]) (by decide +kernel) (fun _ => rfl) (fun _ => rfl) (fun _ => Nat.le_of_ble_eq_true rfl) fun X hX C hR => ?_
  subst hX
  show G X M 0 [some (.ref ((zA X) (3 * r))), some (.int (jI (k))), some (.int (jI (m)))] []
  obtain ⟨hc, hc2, hc3⟩ := id hL
  refine g_aload_n C dX5_add_0 rfl ?_
  refine gf_Row_count C (by omega) tw_147 dX5_add_1 ?_
  refine g_bipush C dX5_add_4 rfl ?_
  refine g_icmp_ge (tgt := 39) C dX5_add_6 rfl (by omega) (by omega) (fun h6 => ?_) (fun h6 => ?_)
  · omega
  · refine g_aload_n C dX5_add_9 rfl ?_
    refine gf_Row_keys C (by omega) tw_145 dX5_add_10 ?_
    refine g_aload_n C dX5_add_13 rfl ?_
    refine gf_Row_count C (by omega) tw_147 dX5_add_14 ?_
    rw [hc]
    refine g_iload_n C dX5_add_17 rfl ?_
    refine gs_keys C (by omega) _ (by omega) rfl dX5_add_18 ?_
    show G X _ 19 _ _
    refine g_aload_n C dX5_add_19 rfl ?_
    refine gf_Row_marks C (by omega) tw_146 dX5_add_20 ?_
    refine g_aload_n C dX5_add_23 rfl ?_
    refine gf_Row_count C (by omega) tw_147 dX5_add_24 ?_
    rw [zu_o _ _ _ _ (by omega), hc]
    refine g_iload_n C dX5_add_27 rfl ?_
    refine gs_marks C (by omega) _ (by omega) rfl dX5_add_28 ?_
    show G X _ 29 _ _
    refine g_aload_n C dX5_add_29 rfl ?_
    refine g_dup C dX5_add_30 rfl ?_
    refine gf_Row_count C (by omega) tw_147 dX5_add_31 ?_
    rw [zu_o _ _ _ _ (by omega), zu_o _ _ _ _ (by omega), hc]
    refine g_iconst C dX5_add_34 ?_
    refine g_iadd C dX5_add_35 ?_
    refine gp_Row_count C (by omega) tw_147 dX5_add_36 ?_
    show G X _ 39 _ _
    refine g_vret C hR dX5_add_39 ?_
    exact ⟨rfl, hL.push hs k m, zFr.push⟩
theorem gc_Row_add {X : z_X} {cc : ByteArray} {own : String} {ret : Option FieldType} {dC nC : Nat} {M : zM} {pc : Nat} {lv : List (Option Value)} {st : List Value} (C : Cx cc own ret dC nC X) (hdep : 2 ≤ dC) {idx : Nat} (hl0 : Cond.methodLink own idx yX5_add ∈ tT) (hcat : (st.map fun v => v.category).sum ≤ 8) (hlen : lv.length = nC) (hdec : decode cc pc = .ok (.invokevirtual idx, 3)) {r : Nat} (hr : r < 20) {L : List (Int × Int)} (k m : Int) (hs : L.length < 120) (hL : zRow M r L) (kk : ∀ M' : zM, (zRow M' r (L ++ [(k, m)]) ∧ zFr M M' r) → G X M' (pc + 3) lv st) : G X M pc lv (.int (jI (m)) :: .int (jI (k)) :: .ref (zA X (3 * r)) :: st) := by
  refine g_callV (k := 2) (o := 3 * r) C (c_Row_add (zL X) hr k m hs M hL) mfX5_add hl0 ⟨rfl, by decide +kernel, by decide +kernel, by decide +kernel⟩ ⟨hdep, by decide⟩ (by omega) (fun _ _ _ _ => ze_row (by omega)) rfl rfl rfl rfl hcat hlen hdec (fun v M' h => ?_)
  obtain ⟨rfl, h⟩ := h
  exact kk M' h
end
section
/-! more methods of a row, of a list, small static ones -/
set_option maxHeartbeats 4000000 in
set_option maxRecDepth 10000 in
theorem c_Row_isUp (l : Launch) {r : Nat} (hr : r < 20) {L : List (Int × Int)} (M : zM) (hL : zRow M r L) (hb : zIn L) : Mt l 1 yX5_isUp cX5_isUp 2 (some .boolean) (fun ad => [.ref (ad (3 * r))]) M (fun _ vv M' => vv = some (.int (jI (if upB L = true then 1 else 0))) ∧ M' = M) := by
  refine Mt.of (fun ad => [some (.ref (ad (3 * r))), none]) (by decide +kernel) (fun _ => rfl) (fun _ => rfl) (fun _ => Nat.le_of_ble_eq_true rfl) fun X hX C hR => ?_
  subst hX
  show G X M 0 [some (.ref ((zA X) (3 * r))), none] []
  obtain ⟨hc, hc2, hc3⟩ := id hL
  have hc : M (3 * r) 2 = _ := hc
  have lp : ∀ (fk : Nat) (q : Nat), 120 - q < fk → q ≤ 120 → (∀ j, j < q → kA L j ≤ kA L (j + 1)) → G X M 2 [some (.ref (zA X (3 * r))), some (.int (jI ((q + 1 : Nat) : Int)))] [] := by
    intro fk
    induction fk with
    | zero => intro q hk; exact absurd hk (Nat.not_lt_zero _)
    | succ fk ih =>
      intro q hk hq0 hq
      refine g_iload_n C dX5_isUp_2 rfl ?_
      refine g_aload_n C dX5_isUp_3 rfl ?_
      refine gf_Row_count C (by omega) tw_147 dX5_isUp_4 ?_
      refine g_icmp_ge (tgt := 35) C dX5_isUp_7 rfl (by omega) (by omega) (fun h7 => ?_) (fun h7 => ?_)
      · refine g_iconst C dX5_isUp_35 ?_
        refine g_zret C hR (by omega) dX5_isUp_36 ?_
        refine ⟨?_, rfl⟩
        rw [if_pos ((upB_iff L).mpr fun j hj => hq j (by omega))]
      · refine g_aload_n C dX5_isUp_10 rfl ?_
        refine gf_Row_keys C (by omega) tw_145 dX5_isUp_11 ?_
        refine g_iload_n C dX5_isUp_14 rfl ?_
        refine ga_keys C (by omega) _ (by omega) rfl dX5_isUp_15 ?_
        rw [(hc3 (q + 1) (by omega)).1]
        refine g_aload_n C dX5_isUp_16 rfl ?_
        refine gf_Row_keys C (by omega) tw_145 dX5_isUp_17 ?_
        show G X _ 20 _ _
        refine g_iload_n C dX5_isUp_20 rfl ?_
        refine g_iconst C dX5_isUp_21 ?_
        refine g_isub C dX5_isUp_22 ?_
        refine ga_keys C (by omega) q (by omega) (by omega) dX5_isUp_23 ?_
        rw [(hc3 q (by omega)).1]
        have b1 := hb.at q
        have b2 := hb.at (q + 1)
        refine g_icmp_ge (tgt := 29) C dX5_isUp_24 rfl (by omega) (by omega) (fun h24 => ?_) (fun h24 => ?_)
        · refine g_iinc C dX5_isUp_29 rfl ?_
          show G X _ 32 [_, _] _
          refine g_goto (tgt := 2) C dX5_isUp_32 rfl ?_
          show G X _ 2 _ _
          exact ih (q + 1) (by omega) (by omega) (fun j hj => by
            rcases Nat.lt_or_ge j q with z | z
            · exact hq j z
            · obtain rfl : j = q := by omega
              omega)
        · refine g_iconst C dX5_isUp_27 ?_
          refine g_zret C hR (by omega) dX5_isUp_28 ?_
          refine ⟨?_, rfl⟩
          rw [if_neg (fun h => absurd ((upB_iff L).mp h q (by omega)) (by omega))]
  refine g_iconst C dX5_isUp_0 ?_
  refine g_istore_n C dX5_isUp_1 (Nat.le_of_ble_eq_true rfl) ?_
  show G X _ 2 [_, _] _
  exact lp 200 0 (by omega) (by omega) (fun j hj => absurd hj (Nat.not_lt_zero _))
theorem gc_Row_isUp {X : z_X} {cc : ByteArray} {own : String} {ret : Option FieldType} {dC nC : Nat} {M : zM} {pc : Nat} {lv : List (Option Value)} {st : List Value} (C : Cx cc own ret dC nC X) (hdep : 2 ≤ dC) {idx : Nat} (hl0 : Cond.methodLink own idx yX5_isUp ∈ tT) (hcat : (st.map fun v => v.category).sum ≤ 8) (hlen : lv.length = nC) (hdec : decode cc pc = .ok (.invokevirtual idx, 3)) {r : Nat} (hr : r < 20) {L : List (Int × Int)} (hL : zRow M r L) (hb : zIn L) (kk : G X M (pc + 3) lv (.int (jI (if upB L = true then 1 else 0)) :: st)) : G X M pc lv (.ref (zA X (3 * r)) :: st) := by
  refine g_callV (k := 0) (o := 3 * r) C (c_Row_isUp (zL X) hr M hL hb) mfX5_isUp hl0 ⟨rfl, by decide +kernel, by decide +kernel, by decide +kernel⟩ ⟨hdep, by decide⟩ (by omega) (fun _ _ _ _ => ze_row (by omega)) rfl rfl rfl rfl hcat hlen hdec (fun v M' h => ?_)
  obtain ⟨rfl, rfl⟩ := h
  exact kk
set_option maxHeartbeats 4000000 in
set_option maxRecDepth 10000 in
theorem c_Row_isDown (l : Launch) {r : Nat} (hr : r < 20) {L : List (Int × Int)} (M : zM) (hL : zRow M r L) (hb : zIn L) : Mt l 1 yX5_isDown cX5_isDown 2 (some .boolean) (fun ad => [.ref (ad (3 * r))]) M (fun _ vv M' => vv = some (.int (jI (if dnB L = true then 1 else 0))) ∧ M' = M) := by
  refine Mt.of (fun ad => [some (.ref (ad (3 * r))), none]) (by decide +kernel) (fun _ => rfl) (fun _ => rfl) (fun _ => Nat.le_of_ble_eq_true rfl) fun X hX C hR => ?_
  subst hX
  show G X M 0 [some (.ref ((zA X) (3 * r))), none] []
  obtain ⟨hc, hc2, hc3⟩ := id hL
  have hc : M (3 * r) 2 = _ := hc
  have lp : ∀ (fk : Nat) (q : Nat), 120 - q < fk → q ≤ 120 → (∀ j, j < q → kA L (j + 1) ≤ kA L j) → G X M 2 [some (.ref (zA X (3 * r))), some (.int (jI ((q + 1 : Nat) : Int)))] [] := by
    intro fk
    induction fk with
    | zero => intro q hk; exact absurd hk (Nat.not_lt_zero _)
    | succ fk ih =>
      intro q hk hq0 hq
      refine g_iload_n C dX5_isDown_2 rfl ?_
      refine g_aload_n C dX5_isDown_3 rfl ?_
      refine gf_Row_count C (by omega) tw_147 dX5_isDown_4 ?_
      refine g_icmp_ge (tgt := 35) C dX5_isDown_7 rfl (by omega) (by omega) (fun h7 => ?_) (fun h7 => ?_)
      · refine g_iconst C dX5_isDown_35 ?_
        refine g_zret C hR (by omega) dX5_isDown_36 ?_
        refine ⟨?_, rfl⟩
        rw [if_pos ((dnB_iff L).mpr fun j hj => hq j (by omega))]
      · refine g_aload_n C dX5_isDown_10 rfl ?_
        refine gf_Row_keys C (by omega) tw_145 dX5_isDown_11 ?_
        refine g_iload_n C dX5_isDown_14 rfl ?_
        refine ga_keys C (by omega) _ (by omega) rfl dX5_isDown_15 ?_
        rw [(hc3 (q + 1) (by omega)).1]
        refine g_aload_n C dX5_isDown_16 rfl ?_
        refine gf_Row_keys C (by omega) tw_145 dX5_isDown_17 ?_
        show G X _ 20 _ _
        refine g_iload_n C dX5_isDown_20 rfl ?_
        refine g_iconst C dX5_isDown_21 ?_
        refine g_isub C dX5_isDown_22 ?_
        refine ga_keys C (by omega) q (by omega) (by omega) dX5_isDown_23 ?_
        rw [(hc3 q (by omega)).1]
        have b1 := hb.at q
        have b2 := hb.at (q + 1)
        refine g_icmp_le (tgt := 29) C dX5_isDown_24 rfl (by omega) (by omega) (fun h24 => ?_) (fun h24 => ?_)
        · refine g_iinc C dX5_isDown_29 rfl ?_
          show G X _ 32 [_, _] _
          refine g_goto (tgt := 2) C dX5_isDown_32 rfl ?_
          show G X _ 2 _ _
          exact ih (q + 1) (by omega) (by omega) (fun j hj => by
            rcases Nat.lt_or_ge j q with z | z
            · exact hq j z
            · obtain rfl : j = q := by omega
              omega)
        · refine g_iconst C dX5_isDown_27 ?_
          refine g_zret C hR (by omega) dX5_isDown_28 ?_
          refine ⟨?_, rfl⟩
          rw [if_neg (fun h => absurd ((dnB_iff L).mp h q (by omega)) (by omega))]
  refine g_iconst C dX5_isDown_0 ?_
  refine g_istore_n C dX5_isDown_1 (Nat.le_of_ble_eq_true rfl) ?_
  show G X _ 2 [_, _] _
  exact lp 200 0 (by omega) (by omega) (fun j hj => absurd hj (Nat.not_lt_zero _))
theorem gc_Row_isDown {X : z_X} {cc : ByteArray} {own : String} {ret : Option FieldType} {dC nC : Nat} {M : zM} {pc : Nat} {lv : List (Option Value)} {st : List Value} (C : Cx cc own ret dC nC X) (hdep : 2 ≤ dC) {idx : Nat} (hl0 : Cond.methodLink own idx yX5_isDown ∈ tT) (hcat : (st.map fun v => v.category).sum ≤ 8) (hlen : lv.length = nC) (hdec : decode cc pc = .ok (.invokevirtual idx, 3)) {r : Nat} (hr : r < 20) {L : List (Int × Int)} (hL : zRow M r L) (hb : zIn L) (kk : G X M (pc + 3) lv (.int (jI (if dnB L = true then 1 else 0)) :: st)) : G X M pc lv (.ref (zA X (3 * r)) :: st) := by
  refine g_callV (k := 0) (o := 3 * r) C (c_Row_isDown (zL X) hr M hL hb) mfX5_isDown hl0 ⟨rfl, by decide +kernel, by decide +kernel, by decide +kernel⟩ ⟨hdep, by decide⟩ (by omega) (fun _ _ _ _ => ze_row (by omega)) rfl rfl rfl rfl hcat hlen hdec (fun v M' h => ?_)
  obtain ⟨rfl, rfl⟩ := h
  exact kk
set_option maxHeartbeats 4000000 in
set_option maxRecDepth 10000 in
theorem c_Row_addAll (l : Launch) {r q : Nat} (hr : r < 20) (hq : q < 20) (hqr : q ≠ r) {L : List (Int × Int)} (M : zM) (hL : zRow M q L) (h0 : zRow M r []) : Mt l 2 yX5_addAll cX5_addAll 3 none (fun ad => [.ref (ad (3 * r)), .ref (ad (3 * q))]) M (fun _ vv M' => vv = none ∧ (zRow M' r L ∧ zFr M M' r)) := by
  refine Mt.of (fun ad => [some (.ref (ad (3 * r))), some (.ref (ad (3 * q))), none]) (by decide +kernel) (fun _ => rfl) (fun _ => rfl) (fun _ => Nat.le_of_ble_eq_true rfl) fun X hX C hR => ?_
  subst hX
  show G X M 0 [some (.ref ((zA X) (3 * r))), some (.ref ((zA X) (3 * q))), none] []
  have hc2 := hL.2.1
  have lp : ∀ (fk : Nat) (i : Nat) (N : zM), 120 - i < fk → i ≤ L.length → zRow N r (L.take i) → zFr M N r → G X N 2 [some (.ref (zA X (3 * r))), some (.ref (zA X (3 * q))), some (.int (jI (i : Int)))] [] := by
    intro fk
    induction fk with
    | zero => intro i N hk; exact absurd hk (Nat.not_lt_zero _)
    | succ fk ih =>
      intro i N hk hi hN hF
      have hQ := hL.apart hF hqr
      refine g_iload_n C dX5_addAll_2 rfl ?_
      refine g_aload_n C dX5_addAll_3 rfl ?_
      refine gf_Row_count C (by omega) tw_147 dX5_addAll_4 ?_
      rw [hQ.1]
      refine g_icmp_ge (tgt := 32) C dX5_addAll_7 rfl (by omega) (by omega) (fun h7 => ?_) (fun h7 => ?_)
      · refine g_vret C hR dX5_addAll_32 ?_
        refine ⟨rfl, ?_, hF⟩
        rw [show i = L.length by omega, List.take_length] at hN
        exact hN
      · refine g_aload_n C dX5_addAll_10 rfl ?_
        refine g_aload_n C dX5_addAll_11 rfl ?_
        refine gf_Row_keys C (by omega) tw_145 dX5_addAll_12 ?_
        refine g_iload_n C dX5_addAll_15 rfl ?_
        refine ga_keys C (by omega) _ (by omega) rfl dX5_addAll_16 ?_
        rw [(hQ.2.2 i (by omega)).1]
        refine g_aload_n C dX5_addAll_17 rfl ?_
        show G X _ 18 _ _
        refine gf_Row_marks C (by omega) tw_146 dX5_addAll_18 ?_
        refine g_iload_n C dX5_addAll_21 rfl ?_
        refine ga_marks C (by omega) _ (by omega) rfl dX5_addAll_22 ?_
        rw [(hQ.2.2 i (by omega)).2]
        refine gc_Row_add C (by decide) tw_619 (Nat.le_of_ble_eq_true rfl) rfl dX5_addAll_23 hr _ _ (by rw [List.length_take]; omega) hN (fun N2 ⟨hN2, hF2⟩ => ?_)
        rw [← rec_take (by omega)] at hN2
        refine g_iinc C dX5_addAll_26 rfl ?_
        show G X _ 29 [_, _, _] _
        refine g_goto (tgt := 2) C dX5_addAll_29 rfl ?_
        show G X _ 2 _ _
        exact ih (i + 1) _ (by omega) (by omega) hN2 (hF.trans hF2)
  refine g_iconst C dX5_addAll_0 ?_
  refine g_istore_n C dX5_addAll_1 (Nat.le_of_ble_eq_true rfl) ?_
  show G X _ 2 [_, _, _] _
  exact lp 200 0 M (by omega) (Nat.zero_le _) h0 zFr.refl
theorem gc_Row_addAll {X : z_X} {cc : ByteArray} {own : String} {ret : Option FieldType} {dC nC : Nat} {M : zM} {pc : Nat} {lv : List (Option Value)} {st : List Value} (C : Cx cc own ret dC nC X) (hdep : 3 ≤ dC) {idx : Nat} (hl0 : Cond.methodLink own idx yX5_addAll ∈ tT) (hcat : (st.map fun v => v.category).sum ≤ 8) (hlen : lv.length = nC) (hdec : decode cc pc = .ok (.invokevirtual idx, 3)) {r q : Nat} (hr : r < 20) (hq : q < 20) (hqr : q ≠ r) {L : List (Int × Int)} (hL : zRow M q L) (h0 : zRow M r []) (kk : ∀ M' : zM, (zRow M' r L ∧ zFr M M' r) → G X M' (pc + 3) lv st) : G X M pc lv (.ref (zA X (3 * q)) :: .ref (zA X (3 * r)) :: st) := by
  refine g_callV (k := 1) (o := 3 * r) C (c_Row_addAll (zL X) hr hq hqr M hL h0) mfX5_addAll hl0 ⟨rfl, by decide +kernel, by decide +kernel, by decide +kernel⟩ ⟨hdep, by decide⟩ (by omega) (fun _ _ _ _ => ze_row (by omega)) rfl rfl rfl rfl hcat hlen hdec (fun v M' h => ?_)
  obtain ⟨rfl, h⟩ := h
  exact kk M' h
set_option maxHeartbeats 4000000 in
set_option maxRecDepth 10000 in
theorem c_Row_placeNotBelow (l : Launch) {r : Nat} (hr : r < 20) {L : List (Int × Int)} (k : Int) (f : Nat) (hk : -2000 ≤ k ∧ k ≤ 2000) (hf : f ≤ 120) (M : zM) (hL : zRow M r L) (hb : zIn L) : Mt l 2 yX5_placeNotBelow cX5_placeNotBelow 4 (some .int) (fun ad => [.ref (ad (3 * r)), .int (jI (k)), .int (jI ((f : Int)))]) M (fun _ vv M' => vv = some (.int (jI ((pnb L k f : Int)))) ∧ M' = M) := by
  refine Mt.of (fun ad => [some (.ref (ad (3 * r))), some (.int (jI (k))), some (.int (jI ((f : Int)))), none]) (by decide +kernel) (fun _ => rfl) (fun _ => rfl) (fun _ => Nat.le_of_ble_eq_true rfl) fun X hX C hR => ?_
  subst hX
  show G X M 0 [some (.ref ((zA X) (3 * r))), some (.int (jI (k))), some (.int (jI ((f : Int)))), none] []
  obtain ⟨hc, hc2, hc3⟩ := id hL
  have lp : ∀ (fk : Nat) (i : Nat), 200 - i < fk → i ≤ 120 → pnb L k i = pnb L k f → G X M 6 [some (.ref (zA X (3 * r))), some (.int (jI k)), some (.int (jI (f : Int))), some (.int (jI (i : Int)))] [] := by
    intro fk
    induction fk with
    | zero => intro i hk; exact absurd hk (Nat.not_lt_zero _)
    | succ fk ih =>
      intro i hk hi hp
      refine g_iload_n C dX5_placeNotBelow_6 rfl ?_
      refine g_aload_n C dX5_placeNotBelow_7 rfl ?_
      refine gf_Row_count C (by omega) tw_147 dX5_placeNotBelow_8 ?_
      refine g_icmp_ge (tgt := 30) C dX5_placeNotBelow_11 rfl (by omega) (by omega) (fun h11 => ?_) (fun h11 => ?_)
      · refine g_iload_n C dX5_placeNotBelow_30 rfl ?_
        refine g_iret C hR dX5_placeNotBelow_31 ?_
        refine ⟨?_, rfl⟩
        rw [← hp]
        first | rw [pnb_end (by omega)] | rw [pnb_stop (by omega) (by omega)]
      · refine g_aload_n C dX5_placeNotBelow_14 rfl ?_
        refine gf_Row_keys C (by omega) tw_145 dX5_placeNotBelow_15 ?_
        refine g_iload_n C dX5_placeNotBelow_18 rfl ?_
        refine ga_keys C (by omega) _ (by omega) rfl dX5_placeNotBelow_19 ?_
        rw [(hc3 i (by omega)).1]
        refine g_iload_n C dX5_placeNotBelow_20 rfl ?_
        have b1 := hb.at i
        refine g_icmp_ge (tgt := 30) C dX5_placeNotBelow_21 rfl (by omega) (by omega) (fun h21 => ?_) (fun h21 => ?_)
        · refine g_iload_n C dX5_placeNotBelow_30 rfl ?_
          refine g_iret C hR dX5_placeNotBelow_31 ?_
          refine ⟨?_, rfl⟩
          rw [← hp]
          first | rw [pnb_end (by omega)] | rw [pnb_stop (by omega) (by omega)]
        · refine g_iinc C dX5_placeNotBelow_24 rfl ?_
          show G X _ 27 [_, _, _, _] _
          refine g_goto (tgt := 6) C dX5_placeNotBelow_27 rfl ?_
          show G X _ 6 _ _
          exact ih (i + 1) (by omega) (by omega) (by rw [← pnb_step (by omega) (by omega)]; exact hp)
  refine g_iconst C dX5_placeNotBelow_0 ?_
  refine g_iload_n C dX5_placeNotBelow_1 rfl ?_
  refine gc_max C (by decide) tw_727 (Nat.le_of_ble_eq_true rfl) rfl dX5_placeNotBelow_2 _ _ (by omega) (by omega) (?_)
  rw [show (if (f : Int) ≤ 0 then (0 : Int) else (f : Int)) = (f : Int) by by_cases q : (f : Int) ≤ 0 <;> simp [q] <;> omega]
  refine g_istore_n C dX5_placeNotBelow_5 (Nat.le_of_ble_eq_true rfl) ?_
  show G X _ 6 [_, _, _, _] _
  exact lp 300 f (by omega) (by omega) rfl
theorem gc_Row_placeNotBelow {X : z_X} {cc : ByteArray} {own : String} {ret : Option FieldType} {dC nC : Nat} {M : zM} {pc : Nat} {lv : List (Option Value)} {st : List Value} (C : Cx cc own ret dC nC X) (hdep : 3 ≤ dC) {idx : Nat} (hl0 : Cond.methodLink own idx yX5_placeNotBelow ∈ tT) (hcat : (st.map fun v => v.category).sum ≤ 8) (hlen : lv.length = nC) (hdec : decode cc pc = .ok (.invokevirtual idx, 3)) {r : Nat} (hr : r < 20) {L : List (Int × Int)} (k : Int) (f : Nat) (hk : -2000 ≤ k ∧ k ≤ 2000) (hf : f ≤ 120) (hL : zRow M r L) (hb : zIn L) (kk : G X M (pc + 3) lv (.int (jI ((pnb L k f : Int))) :: st)) : G X M pc lv (.int (jI ((f : Int))) :: .int (jI (k)) :: .ref (zA X (3 * r)) :: st) := by
  refine g_callV (k := 2) (o := 3 * r) C (c_Row_placeNotBelow (zL X) hr k f hk hf M hL hb) mfX5_placeNotBelow hl0 ⟨rfl, by decide +kernel, by decide +kernel, by decide +kernel⟩ ⟨hdep, by decide⟩ (by omega) (fun _ _ _ _ => ze_row (by omega)) rfl rfl rfl rfl hcat hlen hdec (fun v M' h => ?_)
  obtain ⟨rfl, rfl⟩ := h
  exact kk
set_option maxHeartbeats 4000000 in
set_option maxRecDepth 10000 in
theorem c_Num_empty (l : Launch) {r : Nat} (hr : r < 8) (M : zM)  : Mt l 1 yX2_empty cX2_empty 1 none (fun ad => [.ref (ad (60 + 2 * r))]) M (fun _ vv M' => vv = none ∧ (zNum M' r [] ∧ zFn M M' r)) := by
  refine Mt.of (fun ad => [some (.ref (ad (60 + 2 * r)))]) (by decide +kernel) (fun _ => rfl) (fun _ => rfl) (fun _ => Nat.le_of_ble_eq_true rfl) fun X hX C hR => ?_
  subst hX
  show G X M 0 [some (.ref ((zA X) (60 + 2 * r)))] []
  refine g_aload_n C dX2_empty_0 rfl ?_
  refine g_iconst C dX2_empty_1 ?_
  refine gp_Num_count C (by omega) tw_40 dX2_empty_2 ?_
  refine g_vret C hR dX2_empty_5 ?_
  refine ⟨rfl, ⟨by rw [zu_s]; rfl, by simp, fun i hi => by simp at hi⟩, fun o h0 h1 => zu_o _ _ _ _ h0⟩
theorem gc_Num_empty {X : z_X} {cc : ByteArray} {own : String} {ret : Option FieldType} {dC nC : Nat} {M : zM} {pc : Nat} {lv : List (Option Value)} {st : List Value} (C : Cx cc own ret dC nC X) (hdep : 2 ≤ dC) {idx : Nat} (hl0 : Cond.methodLink own idx yX2_empty ∈ tT) (hcat : (st.map fun v => v.category).sum ≤ 8) (hlen : lv.length = nC) (hdec : decode cc pc = .ok (.invokevirtual idx, 3)) {r : Nat} (hr : r < 8)  (kk : ∀ M' : zM, (zNum M' r [] ∧ zFn M M' r) → G X M' (pc + 3) lv st) : G X M pc lv (.ref (zA X (60 + 2 * r)) :: st) := by
  refine g_callV (k := 0) (o := 60 + 2 * r) C (c_Num_empty (zL X) hr M ) mfX2_empty hl0 ⟨rfl, by decide +kernel, by decide +kernel, by decide +kernel⟩ ⟨hdep, by decide⟩ (by omega) (fun _ _ _ _ => ze_num (by omega)) rfl rfl rfl rfl hcat hlen hdec (fun v M' h => ?_)
  obtain ⟨rfl, h⟩ := h
  exact kk M' h
set_option maxHeartbeats 4000000 in
set_option maxRecDepth 10000 in
theorem c_Num_count (l : Launch) {r : Nat} (hr : r < 8) {L : List Int} (M : zM) (hL : zNum M r L) : Mt l 1 yX2_count cX2_count 1 (some .int) (fun ad => [.ref (ad (60 + 2 * r))]) M (fun _ vv M' => vv = some (.int (jI ((L.length : Int)))) ∧ M' = M) := by
  refine Mt.of (fun ad => [some (.ref (ad (60 + 2 * r)))]) (by decide +kernel) (fun _ => rfl) (fun _ => rfl) (fun _ => Nat.le_of_ble_eq_true rfl) fun X hX C hR => ?_
  subst hX
  show G X M 0 [some (.ref ((zA X) (60 + 2 * r)))] []
  refine g_aload_n C dX2_count_0 rfl ?_
  refine gf_Num_count C (by omega) tw_40 dX2_count_1 ?_
  refine g_iret C hR dX2_count_4 ?_
  exact ⟨by rw [hL.1], rfl⟩
theorem gc_Num_count {X : z_X} {cc : ByteArray} {own : String} {ret : Option FieldType} {dC nC : Nat} {M : zM} {pc : Nat} {lv : List (Option Value)} {st : List Value} (C : Cx cc own ret dC nC X) (hdep : 2 ≤ dC) {idx : Nat} (hl0 : Cond.methodLink own idx yX2_count ∈ tT) (hcat : (st.map fun v => v.category).sum ≤ 8) (hlen : lv.length = nC) (hdec : decode cc pc = .ok (.invokevirtual idx, 3)) {r : Nat} (hr : r < 8) {L : List Int} (hL : zNum M r L) (kk : G X M (pc + 3) lv (.int (jI ((L.length : Int))) :: st)) : G X M pc lv (.ref (zA X (60 + 2 * r)) :: st) := by
  refine g_callV (k := 0) (o := 60 + 2 * r) C (c_Num_count (zL X) hr M hL) mfX2_count hl0 ⟨rfl, by decide +kernel, by decide +kernel, by decide +kernel⟩ ⟨hdep, by decide⟩ (by omega) (fun _ _ _ _ => ze_num (by omega)) rfl rfl rfl rfl hcat hlen hdec (fun v M' h => ?_)
  obtain ⟨rfl, rfl⟩ := h
  exact kk
set_option maxHeartbeats 4000000 in
set_option maxRecDepth 10000 in
theorem c_Num_has (l : Launch) {r : Nat} (hr : r < 8) {L : List Int} (x : Int) (hx : -2147483648 ≤ x ∧ x ≤ 2147483647) (M : zM) (hL : zNum M r L) : Mt l 1 yX2_has cX2_has 2 (some .boolean) (fun ad => [.ref (ad (60 + 2 * r)), .int (jI (x))]) M (fun _ vv M' => vv = some (.int (jI (if 0 ≤ x ∧ x < (L.length : Int) then 1 else 0))) ∧ M' = M) := by
  refine Mt.of (fun ad => [some (.ref (ad (60 + 2 * r))), some (.int (jI (x)))]) (by decide +kernel) (fun _ => rfl) (fun _ => rfl) (fun _ => Nat.le_of_ble_eq_true rfl) fun X hX C hR => ?_
  subst hX
  show G X M 0 [some (.ref ((zA X) (60 + 2 * r))), some (.int (jI (x)))] []
  obtain ⟨hc, hc2, hc3⟩ := hL
  refine g_iload_n C dX2_has_0 rfl ?_
  refine g_if_lt (tgt := 16) C dX2_has_1 rfl (by omega) (fun h1 => ?_) (fun h1 => ?_)
  · refine g_iconst C dX2_has_16 ?_
    refine g_zret C hR (by omega) dX2_has_17 ?_
    refine ⟨?_, rfl⟩
    first | rw [if_pos (by omega)] | rw [if_neg (by omega)]
  · refine g_iload_n C dX2_has_4 rfl ?_
    refine g_aload_n C dX2_has_5 rfl ?_
    refine gf_Num_count C (by omega) tw_40 dX2_has_6 ?_
    refine g_icmp_ge (tgt := 16) C dX2_has_9 rfl (by omega) (by omega) (fun h9 => ?_) (fun h9 => ?_)
    · refine g_iconst C dX2_has_16 ?_
      refine g_zret C hR (by omega) dX2_has_17 ?_
      refine ⟨?_, rfl⟩
      first | rw [if_pos (by omega)] | rw [if_neg (by omega)]
    · refine g_iconst C dX2_has_12 ?_
      refine g_goto (tgt := 17) C dX2_has_13 rfl ?_
      show G X _ 17 _ _
      refine g_zret C hR (by omega) dX2_has_17 ?_
      refine ⟨?_, rfl⟩
      first | rw [if_pos (by omega)] | rw [if_neg (by omega)]
theorem gc_Num_has {X : z_X} {cc : ByteArray} {own : String} {ret : Option FieldType} {dC nC : Nat} {M : zM} {pc : Nat} {lv : List (Option Value)} {st : List Value} (C : Cx cc own ret dC nC X) (hdep : 2 ≤ dC) {idx : Nat} (hl0 : Cond.methodLink own idx yX2_has ∈ tT) (hcat : (st.map fun v => v.category).sum ≤ 8) (hlen : lv.length = nC) (hdec : decode cc pc = .ok (.invokevirtual idx, 3)) {r : Nat} (hr : r < 8) {L : List Int} (x : Int) (hx : -2147483648 ≤ x ∧ x ≤ 2147483647) (hL : zNum M r L) (kk : G X M (pc + 3) lv (.int (jI (if 0 ≤ x ∧ x < (L.length : Int) then 1 else 0)) :: st)) : G X M pc lv (.int (jI (x)) :: .ref (zA X (60 + 2 * r)) :: st) := by
  refine g_callV (k := 1) (o := 60 + 2 * r) C (c_Num_has (zL X) hr x hx M hL) mfX2_has hl0 ⟨rfl, by decide +kernel, by decide +kernel, by decide +kernel⟩ ⟨hdep, by decide⟩ (by omega) (fun _ _ _ _ => ze_num (by omega)) rfl rfl rfl rfl hcat hlen hdec (fun v M' h => ?_)
  obtain ⟨rfl, rfl⟩ := h
  exact kk
set_option maxHeartbeats 4000000 in
set_option maxRecDepth 10000 in
theorem c_Num_valueAt (l : Launch) {r : Nat} (hr : r < 8) {L : List Int} (i : Nat) (hi : i < L.length) (M : zM) (hL : zNum M r L) : Mt l 1 yX2_valueAt cX2_valueAt 2 (some .int) (fun ad => [.ref (ad (60 + 2 * r)), .int (jI ((i : Int)))]) M (fun _ vv M' => vv = some (.int (jI (nA L i))) ∧ M' = M) := by
  refine Mt.of (fun ad => [some (.ref (ad (60 + 2 * r))), some (.int (jI ((i : Int))))]) (by decide +kernel) (fun _ => rfl) (fun _ => rfl) (fun _ => Nat.le_of_ble_eq_true rfl) fun X hX C hR => ?_
  subst hX
  show G X M 0 [some (.ref ((zA X) (60 + 2 * r))), some (.int (jI ((i : Int))))] []
  obtain ⟨hc, hc2, hc3⟩ := hL
  refine g_iload_n C dX2_valueAt_0 rfl ?_
  refine g_if_lt (tgt := 21) C dX2_valueAt_1 rfl (by omega) (fun h1 => ?_) (fun h1 => ?_)
  · omega
  · refine g_iload_n C dX2_valueAt_4 rfl ?_
    refine g_aload_n C dX2_valueAt_5 rfl ?_
    refine gf_Num_count C (by omega) tw_40 dX2_valueAt_6 ?_
    refine g_icmp_ge (tgt := 21) C dX2_valueAt_9 rfl (by omega) (by omega) (fun h9 => ?_) (fun h9 => ?_)
    · omega
    · refine g_aload_n C dX2_valueAt_12 rfl ?_
      refine gf_Num_values C (by omega) tw_39 dX2_valueAt_13 ?_
      refine g_iload_n C dX2_valueAt_16 rfl ?_
      refine ga_vals C (by omega) _ (by omega) rfl dX2_valueAt_17 ?_
      refine g_goto (tgt := 22) C dX2_valueAt_18 rfl ?_
      show G X _ 22 _ _
      refine g_iret C hR dX2_valueAt_22 ?_
      exact ⟨by rw [hc3 i hi], rfl⟩
theorem gc_Num_valueAt {X : z_X} {cc : ByteArray} {own : String} {ret : Option FieldType} {dC nC : Nat} {M : zM} {pc : Nat} {lv : List (Option Value)} {st : List Value} (C : Cx cc own ret dC nC X) (hdep : 2 ≤ dC) {idx : Nat} (hl0 : Cond.methodLink own idx yX2_valueAt ∈ tT) (hcat : (st.map fun v => v.category).sum ≤ 8) (hlen : lv.length = nC) (hdec : decode cc pc = .ok (.invokevirtual idx, 3)) {r : Nat} (hr : r < 8) {L : List Int} (i : Nat) (hi : i < L.length) (hL : zNum M r L) (kk : G X M (pc + 3) lv (.int (jI (nA L i)) :: st)) : G X M pc lv (.int (jI ((i : Int))) :: .ref (zA X (60 + 2 * r)) :: st) := by
  refine g_callV (k := 1) (o := 60 + 2 * r) C (c_Num_valueAt (zL X) hr i hi M hL) mfX2_valueAt hl0 ⟨rfl, by decide +kernel, by decide +kernel, by decide +kernel⟩ ⟨hdep, by decide⟩ (by omega) (fun _ _ _ _ => ze_num (by omega)) rfl rfl rfl rfl hcat hlen hdec (fun v M' h => ?_)
  obtain ⟨rfl, rfl⟩ := h
  exact kk
set_option maxHeartbeats 4000000 in
set_option maxRecDepth 10000 in
theorem c_Num_add (l : Launch) {r : Nat} (hr : r < 8) {L : List Int} (k : Int) (hs : L.length < 120) (M : zM) (hL : zNum M r L) : Mt l 1 yX2_add cX2_add 2 none (fun ad => [.ref (ad (60 + 2 * r)), .int (jI (k))]) M (fun _ vv M' => vv = none ∧ (zNum M' r (L ++ [k]) ∧ zFn M M' r)) := by
  refine Mt.of (fun ad => [some (.ref (ad (60 + 2 * r))), some (.int (jI (k)))]) (by decide +kernel) (fun _ => rfl) (fun _ => rfl) (fun _ => Nat.le_of_ble_eq_true rfl) fun X hX C hR => ?_
  subst hX
  show G X M 0 [some (.ref ((zA X) (60 + 2 * r))), some (.int (jI (k)))] []
  obtain ⟨hc, hc2, hc3⟩ := id hL
  refine g_aload_n C dX2_add_0 rfl ?_
  refine gf_Num_count C (by omega) tw_40 dX2_add_1 ?_
  refine g_aload_n C dX2_add_4 rfl ?_
  refine gf_Num_values C (by omega) tw_39 dX2_add_5 ?_
  refine gl_vals C (by omega) dX2_add_8 ?_
  refine g_icmp_ge (tgt := 32) C dX2_add_9 rfl (by omega) (by omega) (fun h9 => ?_) (fun h9 => ?_)
  · omega
  · refine g_aload_n C dX2_add_12 rfl ?_
    refine gf_Num_values C (by omega) tw_39 dX2_add_13 ?_
    refine g_aload_n C dX2_add_16 rfl ?_
    refine gf_Num_count C (by omega) tw_40 dX2_add_17 ?_
    rw [hc]
    refine g_iload_n C dX2_add_20 rfl ?_
    refine gs_vals C (by omega) _ (by omega) rfl dX2_add_21 ?_
    show G X _ 22 _ _
    refine g_aload_n C dX2_add_22 rfl ?_
    refine g_dup C dX2_add_23 rfl ?_
    refine gf_Num_count C (by omega) tw_40 dX2_add_24 ?_
    rw [zu_o _ _ _ _ (by omega), hc]
    refine g_iconst C dX2_add_27 ?_
    refine g_iadd C dX2_add_28 ?_
    refine gp_Num_count C (by omega) tw_40 dX2_add_29 ?_
    show G X _ 32 _ _
    refine g_vret C hR dX2_add_32 ?_
    exact ⟨rfl, hL.push hs k, zFn.push⟩
theorem gc_Num_add {X : z_X} {cc : ByteArray} {own : String} {ret : Option FieldType} {dC nC : Nat} {M : zM} {pc : Nat} {lv : List (Option Value)} {st : List Value} (C : Cx cc own ret dC nC X) (hdep : 2 ≤ dC) {idx : Nat} (hl0 : Cond.methodLink own idx yX2_add ∈ tT) (hcat : (st.map fun v => v.category).sum ≤ 8) (hlen : lv.length = nC) (hdec : decode cc pc = .ok (.invokevirtual idx, 3)) {r : Nat} (hr : r < 8) {L : List Int} (k : Int) (hs : L.length < 120) (hL : zNum M r L) (kk : ∀ M' : zM, (zNum M' r (L ++ [k]) ∧ zFn M M' r) → G X M' (pc + 3) lv st) : G X M pc lv (.int (jI (k)) :: .ref (zA X (60 + 2 * r)) :: st) := by
  refine g_callV (k := 1) (o := 60 + 2 * r) C (c_Num_add (zL X) hr k hs M hL) mfX2_add hl0 ⟨rfl, by decide +kernel, by decide +kernel, by decide +kernel⟩ ⟨hdep, by decide⟩ (by omega) (fun _ _ _ _ => ze_num (by omega)) rfl rfl rfl rfl hcat hlen hdec (fun v M' h => ?_)
  obtain ⟨rfl, h⟩ := h
  exact kk M' h
set_option maxHeartbeats 4000000 in
set_option maxRecDepth 10000 in
theorem c_Num_addAll (l : Launch) {r q : Nat} (hr : r < 8) (hq : q < 8) (hqr : q ≠ r) {L : List Int} (M : zM) (hL : zNum M q L) (h0 : zNum M r []) : Mt l 2 yX2_addAll cX2_addAll 3 none (fun ad => [.ref (ad (60 + 2 * r)), .ref (ad (60 + 2 * q))]) M (fun _ vv M' => vv = none ∧ (zNum M' r L ∧ zFn M M' r)) := by
  refine Mt.of (fun ad => [some (.ref (ad (60 + 2 * r))), some (.ref (ad (60 + 2 * q))), none]) (by decide +kernel) (fun _ => rfl) (fun _ => rfl) (fun _ => Nat.le_of_ble_eq_true rfl) fun X hX C hR => ?_
  subst hX
  show G X M 0 [some (.ref ((zA X) (60 + 2 * r))), some (.ref ((zA X) (60 + 2 * q))), none] []
  have hc2 := hL.2.1
  have lp : ∀ (fk : Nat) (i : Nat) (N : zM), 120 - i < fk → i ≤ L.length → zNum N r (L.take i) → zFn M N r → G X N 2 [some (.ref (zA X (60 + 2 * r))), some (.ref (zA X (60 + 2 * q))), some (.int (jI (i : Int)))] [] := by
    intro fk
    induction fk with
    | zero => intro i N hk; exact absurd hk (Nat.not_lt_zero _)
    | succ fk ih =>
      intro i N hk hi hN hF
      have hQ := hL.apart hF hqr
      refine g_iload_n C dX2_addAll_2 rfl ?_
      refine g_aload_n C dX2_addAll_3 rfl ?_
      refine gf_Num_count C (by omega) tw_40 dX2_addAll_4 ?_
      rw [hQ.1]
      refine g_icmp_ge (tgt := 26) C dX2_addAll_7 rfl (by omega) (by omega) (fun h7 => ?_) (fun h7 => ?_)
      · refine g_vret C hR dX2_addAll_26 ?_
        refine ⟨rfl, ?_, hF⟩
        rw [show i = L.length by omega, List.take_length] at hN
        exact hN
      · refine g_aload_n C dX2_addAll_10 rfl ?_
        refine g_aload_n C dX2_addAll_11 rfl ?_
        refine gf_Num_values C (by omega) tw_39 dX2_addAll_12 ?_
        refine g_iload_n C dX2_addAll_15 rfl ?_
        refine ga_vals C (by omega) _ (by omega) rfl dX2_addAll_16 ?_
        rw [hQ.2.2 i (by omega)]
        refine gc_Num_add C (by decide) tw_554 (Nat.le_of_ble_eq_true rfl) rfl dX2_addAll_17 hr _ (by rw [List.length_take]; omega) hN (fun N2 ⟨hN2, hF2⟩ => ?_)
        rw [← num_take (by omega)] at hN2
        show G X _ 20 _ _
        refine g_iinc C dX2_addAll_20 rfl ?_
        show G X _ 23 [_, _, _] _
        refine g_goto (tgt := 2) C dX2_addAll_23 rfl ?_
        show G X _ 2 _ _
        exact ih (i + 1) _ (by omega) (by omega) hN2 (hF.trans hF2)
  refine g_iconst C dX2_addAll_0 ?_
  refine g_istore_n C dX2_addAll_1 (Nat.le_of_ble_eq_true rfl) ?_
  show G X _ 2 [_, _, _] _
  exact lp 200 0 M (by omega) (Nat.zero_le _) h0 zFn.refl
theorem gc_Num_addAll {X : z_X} {cc : ByteArray} {own : String} {ret : Option FieldType} {dC nC : Nat} {M : zM} {pc : Nat} {lv : List (Option Value)} {st : List Value} (C : Cx cc own ret dC nC X) (hdep : 3 ≤ dC) {idx : Nat} (hl0 : Cond.methodLink own idx yX2_addAll ∈ tT) (hcat : (st.map fun v => v.category).sum ≤ 8) (hlen : lv.length = nC) (hdec : decode cc pc = .ok (.invokevirtual idx, 3)) {r q : Nat} (hr : r < 8) (hq : q < 8) (hqr : q ≠ r) {L : List Int} (hL : zNum M q L) (h0 : zNum M r []) (kk : ∀ M' : zM, (zNum M' r L ∧ zFn M M' r) → G X M' (pc + 3) lv st) : G X M pc lv (.ref (zA X (60 + 2 * q)) :: .ref (zA X (60 + 2 * r)) :: st) := by
  refine g_callV (k := 1) (o := 60 + 2 * r) C (c_Num_addAll (zL X) hr hq hqr M hL h0) mfX2_addAll hl0 ⟨rfl, by decide +kernel, by decide +kernel, by decide +kernel⟩ ⟨hdep, by decide⟩ (by omega) (fun _ _ _ _ => ze_num (by omega)) rfl rfl rfl rfl hcat hlen hdec (fun v M' h => ?_)
  obtain ⟨rfl, h⟩ := h
  exact kk M' h
set_option maxHeartbeats 4000000 in
set_option maxRecDepth 10000 in
theorem c_Num_set (l : Launch) {r : Nat} (hr : r < 8) {L : List Int} (i : Nat) (v : Int) (hi : i < L.length) (M : zM) (hL : zNum M r L) : Mt l 1 yX2_set cX2_set 3 none (fun ad => [.ref (ad (60 + 2 * r)), .int (jI ((i : Int))), .int (jI (v))]) M (fun _ vv M' => vv = none ∧ (zNum M' r (L.set i v) ∧ zFn M M' r)) := by
  refine Mt.of (fun ad => [some (.ref (ad (60 + 2 * r))), some (.int (jI ((i : Int)))), some (.int (jI (v)))]) (by decide +kernel) (fun _ => rfl) (fun _ => rfl) (fun _ => Nat.le_of_ble_eq_true rfl) fun X hX C hR => ?_
  subst hX
  show G X M 0 [some (.ref ((zA X) (60 + 2 * r))), some (.int (jI ((i : Int)))), some (.int (jI (v)))] []
  obtain ⟨hc, hc2, hc3⟩ := id hL
  refine g_iload_n C dX2_set_0 rfl ?_
  refine g_if_lt (tgt := 19) C dX2_set_1 rfl (by omega) (fun h1 => ?_) (fun h1 => ?_)
  · omega
  · refine g_iload_n C dX2_set_4 rfl ?_
    refine g_aload_n C dX2_set_5 rfl ?_
    refine gf_Num_count C (by omega) tw_40 dX2_set_6 ?_
    refine g_icmp_ge (tgt := 19) C dX2_set_9 rfl (by omega) (by omega) (fun h9 => ?_) (fun h9 => ?_)
    · omega
    · refine g_aload_n C dX2_set_12 rfl ?_
      refine gf_Num_values C (by omega) tw_39 dX2_set_13 ?_
      refine g_iload_n C dX2_set_16 rfl ?_
      refine g_iload_n C dX2_set_17 rfl ?_
      refine gs_vals C (by omega) _ (by omega) rfl dX2_set_18 ?_
      refine g_vret C hR dX2_set_19 ?_
      exact ⟨rfl, hL.put hi v, zFn.put⟩
theorem gc_Num_set {X : z_X} {cc : ByteArray} {own : String} {ret : Option FieldType} {dC nC : Nat} {M : zM} {pc : Nat} {lv : List (Option Value)} {st : List Value} (C : Cx cc own ret dC nC X) (hdep : 2 ≤ dC) {idx : Nat} (hl0 : Cond.methodLink own idx yX2_set ∈ tT) (hcat : (st.map fun v => v.category).sum ≤ 8) (hlen : lv.length = nC) (hdec : decode cc pc = .ok (.invokevirtual idx, 3)) {r : Nat} (hr : r < 8) {L : List Int} (i : Nat) (v : Int) (hi : i < L.length) (hL : zNum M r L) (kk : ∀ M' : zM, (zNum M' r (L.set i v) ∧ zFn M M' r) → G X M' (pc + 3) lv st) : G X M pc lv (.int (jI (v)) :: .int (jI ((i : Int))) :: .ref (zA X (60 + 2 * r)) :: st) := by
  refine g_callV (k := 2) (o := 60 + 2 * r) C (c_Num_set (zL X) hr i v hi M hL) mfX2_set hl0 ⟨rfl, by decide +kernel, by decide +kernel, by decide +kernel⟩ ⟨hdep, by decide⟩ (by omega) (fun _ _ _ _ => ze_num (by omega)) rfl rfl rfl rfl hcat hlen hdec (fun v M' h => ?_)
  obtain ⟨rfl, h⟩ := h
  exact kk M' h
set_option maxHeartbeats 4000000 in
set_option maxRecDepth 10000 in
theorem c_Num_cutTo (l : Launch) {r : Nat} (hr : r < 8) {L : List Int} (c : Nat) (hc0 : c ≤ L.length) (M : zM) (hL : zNum M r L) : Mt l 1 yX2_cutTo cX2_cutTo 2 none (fun ad => [.ref (ad (60 + 2 * r)), .int (jI ((c : Int)))]) M (fun _ vv M' => vv = none ∧ (zNum M' r (L.take c) ∧ zFn M M' r)) := by
  refine Mt.of (fun ad => [some (.ref (ad (60 + 2 * r))), some (.int (jI ((c : Int))))]) (by decide +kernel) (fun _ => rfl) (fun _ => rfl) (fun _ => Nat.le_of_ble_eq_true rfl) fun X hX C hR => ?_
  subst hX
  show G X M 0 [some (.ref ((zA X) (60 + 2 * r))), some (.int (jI ((c : Int))))] []
  obtain ⟨hc, hc2, hc3⟩ := id hL
  refine g_iload_n C dX2_cutTo_0 rfl ?_
  refine g_if_lt (tgt := 17) C dX2_cutTo_1 rfl (by omega) (fun h1 => ?_) (fun h1 => ?_)
  · omega
  · refine g_iload_n C dX2_cutTo_4 rfl ?_
    refine g_aload_n C dX2_cutTo_5 rfl ?_
    refine gf_Num_count C (by omega) tw_40 dX2_cutTo_6 ?_
    refine g_icmp_ge (tgt := 17) C dX2_cutTo_9 rfl (by omega) (by omega) (fun h9 => ?_) (fun h9 => ?_)
    · refine g_vret C hR dX2_cutTo_17 ⟨rfl, ?_, zFn.refl⟩
      rw [show c = L.length by omega, List.take_length]
      exact hL
    · refine g_aload_n C dX2_cutTo_12 rfl ?_
      refine g_iload_n C dX2_cutTo_13 rfl ?_
      refine gp_Num_count C (by omega) tw_40 dX2_cutTo_14 ?_
      refine g_vret C hR dX2_cutTo_17 ?_
      exact ⟨rfl, hL.cut hc0, fun o h0 _ => zu_o _ _ _ _ h0⟩
theorem gc_Num_cutTo {X : z_X} {cc : ByteArray} {own : String} {ret : Option FieldType} {dC nC : Nat} {M : zM} {pc : Nat} {lv : List (Option Value)} {st : List Value} (C : Cx cc own ret dC nC X) (hdep : 2 ≤ dC) {idx : Nat} (hl0 : Cond.methodLink own idx yX2_cutTo ∈ tT) (hcat : (st.map fun v => v.category).sum ≤ 8) (hlen : lv.length = nC) (hdec : decode cc pc = .ok (.invokevirtual idx, 3)) {r : Nat} (hr : r < 8) {L : List Int} (c : Nat) (hc0 : c ≤ L.length) (hL : zNum M r L) (kk : ∀ M' : zM, (zNum M' r (L.take c) ∧ zFn M M' r) → G X M' (pc + 3) lv st) : G X M pc lv (.int (jI ((c : Int))) :: .ref (zA X (60 + 2 * r)) :: st) := by
  refine g_callV (k := 1) (o := 60 + 2 * r) C (c_Num_cutTo (zL X) hr c hc0 M hL) mfX2_cutTo hl0 ⟨rfl, by decide +kernel, by decide +kernel, by decide +kernel⟩ ⟨hdep, by decide⟩ (by omega) (fun _ _ _ _ => ze_num (by omega)) rfl rfl rfl rfl hcat hlen hdec (fun v M' h => ?_)
  obtain ⟨rfl, h⟩ := h
  exact kk M' h
set_option maxHeartbeats 4000000 in
set_option maxRecDepth 10000 in
theorem c_Num_leastPlace (l : Launch) {r : Nat} (hr : r < 8) {L : List Int} (M : zM) (hL : zNum M r L) (hb : ∀ i, 0 ≤ nA L i ∧ nA L i ≤ 2000000000) : Mt l 1 yX2_leastPlace cX2_leastPlace 3 (some .int) (fun ad => [.ref (ad (60 + 2 * r))]) M (fun _ vv M' => vv = some (.int (jI ((lpF L L.length : Int)))) ∧ M' = M) := by
  refine Mt.of (fun ad => [some (.ref (ad (60 + 2 * r))), none, none]) (by decide +kernel) (fun _ => rfl) (fun _ => rfl) (fun _ => Nat.le_of_ble_eq_true rfl) fun X hX C hR => ?_
  subst hX
  show G X M 0 [some (.ref ((zA X) (60 + 2 * r))), none, none] []
  obtain ⟨hc, hc2, hc3⟩ := id hL
  have lp : ∀ (fk : Nat) (i b : Nat), 200 - i < fk → 1 ≤ i → (i ≤ 1 ∨ i ≤ L.length) → b = lpF L i → b < i → G X M 4 [some (.ref (zA X (60 + 2 * r))), some (.int (jI (b : Int))), some (.int (jI (i : Int)))] [] := by
    intro fk
    induction fk with
    | zero => intro i b hk; exact absurd hk (Nat.not_lt_zero _)
    | succ fk ih =>
      intro i b hk h1 h2 h3 h4
      refine g_iload_n C dX2_leastPlace_4 rfl ?_
      refine g_aload_n C dX2_leastPlace_5 rfl ?_
      refine gf_Num_count C (by omega) tw_40 dX2_leastPlace_6 ?_
      refine g_icmp_ge (tgt := 35) C dX2_leastPlace_9 rfl (by omega) (by omega) (fun h9 => ?_) (fun h9 => ?_)
      · refine g_iload_n C dX2_leastPlace_35 rfl ?_
        refine g_iret C hR dX2_leastPlace_36 ?_
        refine ⟨?_, rfl⟩
        rcases Nat.lt_or_ge 0 L.length with z | z
        · rw [h3, show i = L.length by omega]
        · have e0 : L.length = 0 := by omega
          obtain rfl : i = 1 := by omega
          have : b = 0 := by omega
          rw [this, e0]; rfl
      · refine g_aload_n C dX2_leastPlace_12 rfl ?_
        refine gf_Num_values C (by omega) tw_39 dX2_leastPlace_13 ?_
        refine g_iload_n C dX2_leastPlace_16 rfl ?_
        refine ga_vals C (by omega) _ (by omega) rfl dX2_leastPlace_17 ?_
        rw [hc3 i (by omega)]
        refine g_aload_n C dX2_leastPlace_18 rfl ?_
        refine gf_Num_values C (by omega) tw_39 dX2_leastPlace_19 ?_
        show G X _ 22 _ _
        refine g_iload_n C dX2_leastPlace_22 rfl ?_
        refine ga_vals C (by omega) _ (by omega) rfl dX2_leastPlace_23 ?_
        rw [hc3 b (by omega)]
        have b1 := hb i
        have b2 := hb b
        refine g_icmp_ge (tgt := 29) C dX2_leastPlace_24 rfl (by omega) (by omega) (fun h24 => ?_) (fun h24 => ?_)
        · refine g_iinc C dX2_leastPlace_29 rfl ?_
          show G X _ 32 [_, _, _] _
          refine g_goto (tgt := 4) C dX2_leastPlace_32 rfl ?_
          show G X _ 4 _ _
          exact ih (i + 1) b (by omega) (by omega) (by omega) (by rw [lpF, ← h3, if_neg (by omega)]) (by omega)
        · refine g_iload_n C dX2_leastPlace_27 rfl ?_
          refine g_istore_n C dX2_leastPlace_28 (Nat.le_of_ble_eq_true rfl) ?_
          show G X _ 29 [_, _, _] _
          refine g_iinc C dX2_leastPlace_29 rfl ?_
          show G X _ 32 [_, _, _] _
          refine g_goto (tgt := 4) C dX2_leastPlace_32 rfl ?_
          show G X _ 4 _ _
          exact ih (i + 1) i (by omega) (by omega) (by omega) (by rw [lpF, ← h3, if_pos (by omega)]) (by omega)
  refine g_iconst C dX2_leastPlace_0 ?_
  refine g_istore_n C dX2_leastPlace_1 (Nat.le_of_ble_eq_true rfl) ?_
  show G X _ 2 [_, _, _] _
  refine g_iconst C dX2_leastPlace_2 ?_
  refine g_istore_n C dX2_leastPlace_3 (Nat.le_of_ble_eq_true rfl) ?_
  show G X _ 4 [_, _, _] _
  exact lp 300 1 0 (by omega) (by omega) (by omega) (by simp [lpF]) (by omega)
theorem gc_Num_leastPlace {X : z_X} {cc : ByteArray} {own : String} {ret : Option FieldType} {dC nC : Nat} {M : zM} {pc : Nat} {lv : List (Option Value)} {st : List Value} (C : Cx cc own ret dC nC X) (hdep : 2 ≤ dC) {idx : Nat} (hl0 : Cond.methodLink own idx yX2_leastPlace ∈ tT) (hcat : (st.map fun v => v.category).sum ≤ 8) (hlen : lv.length = nC) (hdec : decode cc pc = .ok (.invokevirtual idx, 3)) {r : Nat} (hr : r < 8) {L : List Int} (hL : zNum M r L) (hb : ∀ i, 0 ≤ nA L i ∧ nA L i ≤ 2000000000) (kk : G X M (pc + 3) lv (.int (jI ((lpF L L.length : Int))) :: st)) : G X M pc lv (.ref (zA X (60 + 2 * r)) :: st) := by
  refine g_callV (k := 0) (o := 60 + 2 * r) C (c_Num_leastPlace (zL X) hr M hL hb) mfX2_leastPlace hl0 ⟨rfl, by decide +kernel, by decide +kernel, by decide +kernel⟩ ⟨hdep, by decide⟩ (by omega) (fun _ _ _ _ => ze_num (by omega)) rfl rfl rfl rfl hcat hlen hdec (fun v M' h => ?_)
  obtain ⟨rfl, rfl⟩ := h
  exact kk
set_option maxHeartbeats 4000000 in
set_option maxRecDepth 10000 in
theorem c_Num_takeAt (l : Launch) {r : Nat} (hr : r < 8) {L : List Int} (q : Nat) (hq : q < L.length) (M : zM) (hL : zNum M r L) : Mt l 1 yX2_takeAt cX2_takeAt 4 (some .int) (fun ad => [.ref (ad (60 + 2 * r)), .int (jI ((q : Int)))]) M (fun _ vv M' => ∃ x : Int, vv = some (.int (jI x)) ∧ (x = nA L q ∧ zNum M' r (L.eraseIdx q) ∧ zFn M M' r)) := by
  refine Mt.of (fun ad => [some (.ref (ad (60 + 2 * r))), some (.int (jI ((q : Int)))), none, none]) (by decide +kernel) (fun _ => rfl) (fun _ => rfl) (fun _ => Nat.le_of_ble_eq_true rfl) fun X hX C hR => ?_
  subst hX
  show G X M 0 [some (.ref ((zA X) (60 + 2 * r))), some (.int (jI ((q : Int)))), none, none] []
  obtain ⟨hc, hc2, hc3⟩ := id hL
  have lp : ∀ (fk : Nat) (b : Nat) (N : zM), 200 - b < fk → q + 1 ≤ b → b ≤ L.length → zFn M N r → N (60 + 2 * r) = M (60 + 2 * r) → (∀ j, j < L.length → N (61 + 2 * r) j = if q ≤ j ∧ j + 1 < b then nA L (j + 1) else nA L j) → G X N 25 [some (.ref (zA X (60 + 2 * r))), some (.int (jI (q : Int))), some (.int (jI (nA L q))), some (.int (jI (b : Int)))] [] := by
    intro fk
    induction fk with
    | zero => intro b N hk; exact absurd hk (Nat.not_lt_zero _)
    | succ fk ih =>
      intro b N hk h1 h2 hF h0 hN
      refine g_iload_n C dX2_takeAt_25 rfl ?_
      refine g_aload_n C dX2_takeAt_26 rfl ?_
      refine gf_Num_count C (by omega) tw_40 dX2_takeAt_27 ?_
      rw [h0, hc]
      refine g_icmp_ge (tgt := 53) C dX2_takeAt_30 rfl (by omega) (by omega) (fun h30 => ?_) (fun h30 => ?_)
      · refine g_aload_n C dX2_takeAt_53 rfl ?_
        refine g_dup C dX2_takeAt_54 rfl ?_
        refine gf_Num_count C (by omega) tw_40 dX2_takeAt_55 ?_
        rw [h0, hc]
        refine g_iconst C dX2_takeAt_58 ?_
        refine g_isub C dX2_takeAt_59 ?_
        refine gp_Num_count C (by omega) tw_40 dX2_takeAt_60 ?_
        show G X _ 63 _ _
        refine g_iload_n C dX2_takeAt_63 rfl ?_
        refine g_iret C hR dX2_takeAt_64 ?_
        refine ⟨_, rfl, rfl, ?_, hF.trans (fun o g0 g1 => zu_o _ _ _ _ g0)⟩
        have hz : (L.eraseIdx q).length = L.length - 1 := List.length_eraseIdx_of_lt hq
        refine ⟨by rw [zu_s, hz]; omega, by omega, fun j hj => ?_⟩
        rw [zu_o _ _ _ _ (by omega), hN j (by omega), nA_erase hj]
        by_cases e : j < q
        · rw [if_pos e, if_neg (by omega)]
        · rw [if_neg e, if_pos (by omega)]
      · refine g_aload_n C dX2_takeAt_33 rfl ?_
        refine gf_Num_values C (by omega) tw_39 dX2_takeAt_34 ?_
        refine g_iload_n C dX2_takeAt_37 rfl ?_
        refine g_iconst C dX2_takeAt_38 ?_
        refine g_isub C dX2_takeAt_39 ?_
        refine g_aload_n C dX2_takeAt_40 rfl ?_
        show G X _ 41 _ _
        refine gf_Num_values C (by omega) tw_39 dX2_takeAt_41 ?_
        refine g_iload_n C dX2_takeAt_44 rfl ?_
        refine ga_vals C (by omega) _ (by omega) rfl dX2_takeAt_45 ?_
        rw [hN b (by omega), if_neg (by omega)]
        refine gs_vals C (by omega) (b - 1) (by omega) (by omega) dX2_takeAt_46 ?_
        refine g_iinc C dX2_takeAt_47 rfl ?_
        show G X _ 50 [_, _, _, _] _
        refine g_goto (tgt := 25) C dX2_takeAt_50 rfl ?_
        show G X _ 25 _ _
        refine ih (b + 1) _ (by omega) (by omega) (by omega) (hF.trans zFn.put) (by rw [zu_o _ _ _ _ (by omega)]; exact h0) (fun j hj => ?_)
        by_cases e : j = b - 1
        · subst e
          rw [zu_s, if_pos (by omega), show b - 1 + 1 = b by omega]
        · rw [zu_k _ _ _ _ e, hN j hj]
          by_cases e2 : q ≤ j ∧ j + 1 < b
          · rw [if_pos e2, if_pos (by omega)]
          · rw [if_neg e2, if_neg (by omega)]
  refine g_iload_n C dX2_takeAt_0 rfl ?_
  refine g_if_lt (tgt := 12) C dX2_takeAt_1 rfl (by omega) (fun h1 => ?_) (fun h1 => ?_)
  · omega
  · refine g_iload_n C dX2_takeAt_4 rfl ?_
    refine g_aload_n C dX2_takeAt_5 rfl ?_
    refine gf_Num_count C (by omega) tw_40 dX2_takeAt_6 ?_
    refine g_icmp_lt (tgt := 14) C dX2_takeAt_9 rfl (by omega) (by omega) (fun h9 => ?_) (fun h9 => ?_)
    · refine g_aload_n C dX2_takeAt_14 rfl ?_
      refine gf_Num_values C (by omega) tw_39 dX2_takeAt_15 ?_
      refine g_iload_n C dX2_takeAt_18 rfl ?_
      refine ga_vals C (by omega) _ (by omega) rfl dX2_takeAt_19 ?_
      rw [hc3 q hq]
      refine g_istore_n C dX2_takeAt_20 (Nat.le_of_ble_eq_true rfl) ?_
      show G X _ 21 [_, _, _, _] _
      refine g_iload_n C dX2_takeAt_21 rfl ?_
      refine g_iconst C dX2_takeAt_22 ?_
      refine g_iadd C dX2_takeAt_23 ?_
      refine g_istore_n C dX2_takeAt_24 (Nat.le_of_ble_eq_true rfl) ?_
      show G X _ 25 [_, _, _, _] _
      exact lp 300 (q + 1) M (by omega) (by omega) (by omega) zFn.refl rfl (fun j hj => by rw [hc3 j hj, if_neg (by omega)])
    · omega
theorem gc_Num_takeAt {X : z_X} {cc : ByteArray} {own : String} {ret : Option FieldType} {dC nC : Nat} {M : zM} {pc : Nat} {lv : List (Option Value)} {st : List Value} (C : Cx cc own ret dC nC X) (hdep : 2 ≤ dC) {idx : Nat} (hl0 : Cond.methodLink own idx yX2_takeAt ∈ tT) (hcat : (st.map fun v => v.category).sum ≤ 8) (hlen : lv.length = nC) (hdec : decode cc pc = .ok (.invokevirtual idx, 3)) {r : Nat} (hr : r < 8) {L : List Int} (q : Nat) (hq : q < L.length) (hL : zNum M r L) (kk : ∀ (x : Int) (M' : zM), (x = nA L q ∧ zNum M' r (L.eraseIdx q) ∧ zFn M M' r) → G X M' (pc + 3) lv (.int (jI x) :: st)) : G X M pc lv (.int (jI ((q : Int))) :: .ref (zA X (60 + 2 * r)) :: st) := by
  refine g_callV (k := 1) (o := 60 + 2 * r) C (c_Num_takeAt (zL X) hr q hq M hL) mfX2_takeAt hl0 ⟨rfl, by decide +kernel, by decide +kernel, by decide +kernel⟩ ⟨hdep, by decide⟩ (by omega) (fun _ _ _ _ => ze_num (by omega)) rfl rfl rfl rfl hcat hlen hdec (fun v M' h => ?_)
  obtain ⟨x, rfl, h⟩ := h
  exact kk x M' h
set_option maxHeartbeats 4000000 in
set_option maxRecDepth 10000 in
theorem c_pagesFor (l : Launch) (a b : Int) (ha : 0 ≤ a ∧ a ≤ 100000) (hb : 1 ≤ b ∧ b ≤ 1000) (M : zM)  : Mt l 1 yX8_pagesFor cX8_pagesFor 2 (some .int) (fun ad => [.int (jI (a)), .int (jI (b))]) M (fun _ vv M' => vv = some (.int (jI (pgs a b))) ∧ M' = M) := by
  refine Mt.of (fun ad => [some (.int (jI (a))), some (.int (jI (b)))]) (by decide +kernel) (fun _ => rfl) (fun _ => rfl) (fun _ => Nat.le_of_ble_eq_true rfl) fun X hX C hR => ?_
  subst hX
  show G X M 0 [some (.int (jI (a))), some (.int (jI (b)))] []
  refine g_iload_n C dX8_pagesFor_0 rfl ?_
  refine g_iconst C dX8_pagesFor_1 ?_
  refine g_icmp_ge (tgt := 9) C dX8_pagesFor_2 rfl (by omega) (by omega) (fun h2 => ?_) (fun h2 => ?_)
  · refine g_iload_n C dX8_pagesFor_9 rfl ?_
    refine g_iload_n C dX8_pagesFor_10 rfl ?_
    refine g_iadd C dX8_pagesFor_11 ?_
    refine g_iconst C dX8_pagesFor_12 ?_
    refine g_isub C dX8_pagesFor_13 ?_
    refine g_iload_n C dX8_pagesFor_14 rfl ?_
    show G X _ 15 _ _
    refine g_idiv C dX8_pagesFor_15 (by omega) (by omega) ?_
    refine g_iret C hR dX8_pagesFor_16 ?_
    exact ⟨rfl, rfl⟩
  · omega
theorem gc_pagesFor {X : z_X} {cc : ByteArray} {own : String} {ret : Option FieldType} {dC nC : Nat} {M : zM} {pc : Nat} {lv : List (Option Value)} {st : List Value} (C : Cx cc own ret dC nC X) (hdep : 2 ≤ dC) {idx : Nat} (hl0 : Cond.methodLink own idx yX8_pagesFor ∈ tT) (hcat : (st.map fun v => v.category).sum ≤ 8) (hlen : lv.length = nC) (hdec : decode cc pc = .ok (.invokestatic idx, 3)) (a b : Int) (ha : 0 ≤ a ∧ a ≤ 100000) (hb : 1 ≤ b ∧ b ≤ 1000)  (kk : G X M (pc + 3) lv (.int (jI (pgs a b)) :: st)) : G X M pc lv (.int (jI (b)) :: .int (jI (a)) :: st) := by
  refine g_callS (k := 2) C (c_pagesFor (zL X) a b ha hb M ) mfX8_pagesFor hl0 ⟨rfl, by decide +kernel, by decide +kernel, by decide +kernel⟩ ⟨hdep, by decide⟩ rfl rfl rfl hcat hlen hdec (fun v M' h => ?_)
  obtain ⟨rfl, rfl⟩ := h
  exact kk
theorem gc_pagesForN {X : z_X} {cc : ByteArray} {own : String} {ret : Option FieldType} {dC nC : Nat} {M : zM} {pc : Nat} {lv : List (Option Value)} {st : List Value} (C : Cx cc own ret dC nC X) (hdep : 2 ≤ dC) {idx : Nat} (hl0 : ∀ U, z_N U → va_Nw (.methodLinkNest own idx yX8_pagesFor RX8) U) (hcat : (st.map fun v => v.category).sum ≤ 8) (hlen : lv.length = nC) (hdec : decode cc pc = .ok (.invokestatic idx, 3)) (a b : Int) (ha : 0 ≤ a ∧ a ≤ 100000) (hb : 1 ≤ b ∧ b ≤ 1000)  (kk : G X M (pc + 3) lv (.int (jI (pgs a b)) :: st)) : G X M pc lv (.int (jI (b)) :: .int (jI (a)) :: st) := by
  refine g_callSN (k := 2) C (c_pagesFor (zL X) a b ha hb M ) mfX8_pagesFor hl0 ⟨rfl, by decide +kernel, by decide +kernel, by decide +kernel⟩ ⟨hdep, by decide⟩ rfl rfl rfl hcat hlen hdec (fun v M' h => ?_)
  obtain ⟨rfl, rfl⟩ := h
  exact kk
set_option maxHeartbeats 4000000 in
set_option maxRecDepth 10000 in
theorem c_weightOf (l : Launch) {r : Nat} (hr : r < 20) {L : List (Int × Int)} (i : Nat) (hi : i < L.length) (M : zM) (hL : zRow M r L) (hb : zIn L) : Mt l 2 yX8_weightOf cX8_weightOf 4 (some .int) (fun ad => [.ref (ad (3 * r)), .int (jI ((i : Int))), .int (jI (0))]) M (fun _ vv M' => vv = some (.int (jI ((kA L i + 999) * 120 + (i : Int)))) ∧ M' = M) := by
  refine Mt.of (fun ad => [some (.ref (ad (3 * r))), some (.int (jI ((i : Int)))), some (.int (jI (0))), none]) (by decide +kernel) (fun _ => rfl) (fun _ => rfl) (fun _ => Nat.le_of_ble_eq_true rfl) fun X hX C hR => ?_
  subst hX
  show G X M 0 [some (.ref ((zA X) (3 * r))), some (.int (jI ((i : Int)))), some (.int (jI (0))), none] []
  refine g_aload_n C dX8_weightOf_0 rfl ?_
  refine g_iload_n C dX8_weightOf_1 rfl ?_
  refine gc_Row_keyAt C (by decide) tw_431 (Nat.le_of_ble_eq_true rfl) rfl dX8_weightOf_2 hr i hi hL (?_)
  refine g_istore_n C dX8_weightOf_5 (Nat.le_of_ble_eq_true rfl) ?_
  show G X _ 6 [_, _, _, _] _
  refine g_iload_n C dX8_weightOf_6 rfl ?_
  refine g_if_eq (tgt := 15) C dX8_weightOf_7 rfl (by omega) (fun h7 => ?_) (fun h7 => ?_)
  · refine g_iload_n C dX8_weightOf_15 rfl ?_
    refine g_sipush C dX8_weightOf_16 rfl ?_
    refine g_iadd C dX8_weightOf_19 ?_
    refine g_bipush C dX8_weightOf_20 rfl ?_
    refine g_imul C dX8_weightOf_22 ?_
    refine g_iload_n C dX8_weightOf_23 rfl ?_
    show G X _ 24 _ _
    refine g_iadd C dX8_weightOf_24 ?_
    refine g_iret C hR dX8_weightOf_25 ?_
    exact ⟨rfl, rfl⟩
  · omega
theorem gc_weightOf {X : z_X} {cc : ByteArray} {own : String} {ret : Option FieldType} {dC nC : Nat} {M : zM} {pc : Nat} {lv : List (Option Value)} {st : List Value} (C : Cx cc own ret dC nC X) (hdep : 3 ≤ dC) {idx : Nat} (hl0 : Cond.methodLink own idx yX8_weightOf ∈ tT) (hcat : (st.map fun v => v.category).sum ≤ 8) (hlen : lv.length = nC) (hdec : decode cc pc = .ok (.invokestatic idx, 3)) {r : Nat} (hr : r < 20) {L : List (Int × Int)} (i : Nat) (hi : i < L.length) (hL : zRow M r L) (hb : zIn L) (kk : G X M (pc + 3) lv (.int (jI ((kA L i + 999) * 120 + (i : Int))) :: st)) : G X M pc lv (.int (jI (0)) :: .int (jI ((i : Int))) :: .ref (zA X (3 * r)) :: st) := by
  refine g_callS (k := 3) C (c_weightOf (zL X) hr i hi M hL hb) mfX8_weightOf hl0 ⟨rfl, by decide +kernel, by decide +kernel, by decide +kernel⟩ ⟨hdep, by decide⟩ rfl rfl rfl hcat hlen hdec (fun v M' h => ?_)
  obtain ⟨rfl, rfl⟩ := h
  exact kk
theorem gc_weightOfN {X : z_X} {cc : ByteArray} {own : String} {ret : Option FieldType} {dC nC : Nat} {M : zM} {pc : Nat} {lv : List (Option Value)} {st : List Value} (C : Cx cc own ret dC nC X) (hdep : 3 ≤ dC) {idx : Nat} (hl0 : ∀ U, z_N U → va_Nw (.methodLinkNest own idx yX8_weightOf RX8) U) (hcat : (st.map fun v => v.category).sum ≤ 8) (hlen : lv.length = nC) (hdec : decode cc pc = .ok (.invokestatic idx, 3)) {r : Nat} (hr : r < 20) {L : List (Int × Int)} (i : Nat) (hi : i < L.length) (hL : zRow M r L) (hb : zIn L) (kk : G X M (pc + 3) lv (.int (jI ((kA L i + 999) * 120 + (i : Int))) :: st)) : G X M pc lv (.int (jI (0)) :: .int (jI ((i : Int))) :: .ref (zA X (3 * r)) :: st) := by
  refine g_callSN (k := 3) C (c_weightOf (zL X) hr i hi M hL hb) mfX8_weightOf hl0 ⟨rfl, by decide +kernel, by decide +kernel, by decide +kernel⟩ ⟨hdep, by decide⟩ rfl rfl rfl hcat hlen hdec (fun v M' h => ?_)
  obtain ⟨rfl, rfl⟩ := h
  exact kk
set_option maxHeartbeats 4000000 in
set_option maxRecDepth 10000 in
theorem c_orderOf (l : Launch) {r : Nat} (hr : r < 20) {L : List (Int × Int)} (M : zM) (hL : zRow M r L) (hb : zIn L) : Mt l 2 yX8_orderOf cX8_orderOf 1 (some .int) (fun ad => [.ref (ad (3 * r))]) M (fun _ vv M' => vv = some (.int (jI ((if upB L = true then 1 else 0) + (if dnB L = true then 2 else 0)))) ∧ M' = M) := by
  refine Mt.of (fun ad => [some (.ref (ad (3 * r)))]) (by decide +kernel) (fun _ => rfl) (fun _ => rfl) (fun _ => Nat.le_of_ble_eq_true rfl) fun X hX C hR => ?_
  subst hX
  show G X M 0 [some (.ref ((zA X) (3 * r)))] []
  refine g_aload_n C dX8_orderOf_0 rfl ?_
  refine gc_Row_isUp C (by decide) tw_442 (Nat.le_of_ble_eq_true rfl) rfl dX8_orderOf_1 hr hL hb (?_)
  generalize hu : (if upB L = true then (1 : Int) else 0) = u
  have hu2 : u = 0 ∨ u = 1 := by rw [← hu]; by_cases q : upB L = true <;> simp [q]
  refine g_if_eq (tgt := 11) C dX8_orderOf_4 rfl (by omega) (fun h4 => ?_) (fun h4 => ?_)
  · refine g_iconst C dX8_orderOf_11 ?_
    refine g_aload_n C dX8_orderOf_12 rfl ?_
    refine gc_Row_isDown C (by decide) tw_446 (Nat.le_of_ble_eq_true rfl) rfl dX8_orderOf_13 hr hL hb (?_)
    generalize hv : (if dnB L = true then (1 : Int) else 0) = w
    have hv2 : (w = 0 ∧ (if dnB L = true then (2 : Int) else 0) = 0) ∨ (w = 1 ∧ (if dnB L = true then (2 : Int) else 0) = 2) := by rw [← hv]; by_cases q : dnB L = true <;> simp [q]
    refine g_if_eq (tgt := 23) C dX8_orderOf_16 rfl (by omega) (fun h16 => ?_) (fun h16 => ?_)
    · refine g_iconst C dX8_orderOf_23 ?_
      refine g_iadd C dX8_orderOf_24 ?_
      refine g_iret C hR dX8_orderOf_25 ?_
      refine ⟨?_, rfl⟩
      congr 3
      omega
    · refine g_iconst C dX8_orderOf_19 ?_
      refine g_goto (tgt := 24) C dX8_orderOf_20 rfl ?_
      show G X _ 24 _ _
      refine g_iadd C dX8_orderOf_24 ?_
      refine g_iret C hR dX8_orderOf_25 ?_
      refine ⟨?_, rfl⟩
      congr 3
      omega
  · refine g_iconst C dX8_orderOf_7 ?_
    refine g_goto (tgt := 12) C dX8_orderOf_8 rfl ?_
    show G X _ 12 _ _
    refine g_aload_n C dX8_orderOf_12 rfl ?_
    refine gc_Row_isDown C (by decide) tw_446 (Nat.le_of_ble_eq_true rfl) rfl dX8_orderOf_13 hr hL hb (?_)
    generalize hv : (if dnB L = true then (1 : Int) else 0) = w
    have hv2 : (w = 0 ∧ (if dnB L = true then (2 : Int) else 0) = 0) ∨ (w = 1 ∧ (if dnB L = true then (2 : Int) else 0) = 2) := by rw [← hv]; by_cases q : dnB L = true <;> simp [q]
    refine g_if_eq (tgt := 23) C dX8_orderOf_16 rfl (by omega) (fun h16 => ?_) (fun h16 => ?_)
    · refine g_iconst C dX8_orderOf_23 ?_
      refine g_iadd C dX8_orderOf_24 ?_
      refine g_iret C hR dX8_orderOf_25 ?_
      refine ⟨?_, rfl⟩
      congr 3
      omega
    · refine g_iconst C dX8_orderOf_19 ?_
      refine g_goto (tgt := 24) C dX8_orderOf_20 rfl ?_
      show G X _ 24 _ _
      refine g_iadd C dX8_orderOf_24 ?_
      refine g_iret C hR dX8_orderOf_25 ?_
      refine ⟨?_, rfl⟩
      congr 3
      omega
theorem gc_orderOf {X : z_X} {cc : ByteArray} {own : String} {ret : Option FieldType} {dC nC : Nat} {M : zM} {pc : Nat} {lv : List (Option Value)} {st : List Value} (C : Cx cc own ret dC nC X) (hdep : 3 ≤ dC) {idx : Nat} (hl0 : Cond.methodLink own idx yX8_orderOf ∈ tT) (hcat : (st.map fun v => v.category).sum ≤ 8) (hlen : lv.length = nC) (hdec : decode cc pc = .ok (.invokestatic idx, 3)) {r : Nat} (hr : r < 20) {L : List (Int × Int)} (hL : zRow M r L) (hb : zIn L) (kk : G X M (pc + 3) lv (.int (jI ((if upB L = true then 1 else 0) + (if dnB L = true then 2 else 0))) :: st)) : G X M pc lv (.ref (zA X (3 * r)) :: st) := by
  refine g_callS (k := 1) C (c_orderOf (zL X) hr M hL hb) mfX8_orderOf hl0 ⟨rfl, by decide +kernel, by decide +kernel, by decide +kernel⟩ ⟨hdep, by decide⟩ rfl rfl rfl hcat hlen hdec (fun v M' h => ?_)
  obtain ⟨rfl, rfl⟩ := h
  exact kk
set_option maxHeartbeats 4000000 in
set_option maxRecDepth 10000 in
theorem c_floorMod (l : Launch) (x y : Int) (hx : -2147483648 ≤ x ∧ x ≤ 2147483647) (hy : 0 < y ∧ y ≤ 1000000) (M : zM)  : Mt l 1 yJ9_floorMod_7cf53 cJ9_floorMod_7cf53 3 (some .int) (fun ad => [.int (jI (x)), .int (jI (y))]) M (fun _ vv M' => vv = some (.int (jI (x % y))) ∧ M' = M) := by
  refine Mt.of (fun ad => [some (.int (jI (x))), some (.int (jI (y))), none]) (by decide +kernel) (fun _ => rfl) (fun _ => rfl) (fun _ => Nat.le_of_ble_eq_true rfl) fun X hX C hR => ?_
  subst hX
  show G X M 0 [some (.int (jI (x))), some (.int (jI (y))), none] []
  refine g_iload_n C dJ9_floorMod_7cf53_0 rfl ?_
  refine g_iload_n C dJ9_floorMod_7cf53_1 rfl ?_
  refine g_iremR C dJ9_floorMod_7cf53_2 (jI_ne0 (by omega) (by omega)) ?_
  rw [jI_tmod hx (by omega)]
  refine g_istore_n C dJ9_floorMod_7cf53_3 (Nat.le_of_ble_eq_true rfl) ?_
  show G X _ 4 [_, _, _] _
  refine g_iload_n C dJ9_floorMod_7cf53_4 rfl ?_
  refine g_iload_n C dJ9_floorMod_7cf53_5 rfl ?_
  refine g_ixor C dJ9_floorMod_7cf53_6 ?_
  rw [← jI_of (jI x ^^^ jI y)]
  have hs := jI_xor_neg hx (show 0 < y ∧ y ≤ 2147483647 by omega)
  have hs2 := Int32.toInt_lt (jI x ^^^ jI y)
  have hs3 := Int32.le_toInt (jI x ^^^ jI y)
  have hp : 0 ≤ x → x.tmod y = x % y := fun q => Int.tmod_eq_emod_of_nonneg q
  have hn : x < 0 → x % y = if x.tmod y = 0 then 0 else x.tmod y + y := fun q => z_tmod q hy.1
  have hb1 : -y < x.tmod y ∧ x.tmod y < y := tmod_bounds hy.1
  refine g_if_ge (tgt := 18) C dJ9_floorMod_7cf53_7 rfl (by omega) (fun h7 => ?_) (fun h7 => ?_)
  · refine g_iload_n C dJ9_floorMod_7cf53_18 rfl ?_
    refine g_iret C hR dJ9_floorMod_7cf53_19 ?_
    refine ⟨?_, rfl⟩
    congr 3
    first | (rw [hp (by omega)]) | (rw [hn (by omega)]; by_cases q : x.tmod y = 0 <;> simp [q] <;> omega)
  · refine g_iload_n C dJ9_floorMod_7cf53_10 rfl ?_
    refine g_if_eq (tgt := 18) C dJ9_floorMod_7cf53_11 rfl (by omega) (fun h11 => ?_) (fun h11 => ?_)
    · refine g_iload_n C dJ9_floorMod_7cf53_18 rfl ?_
      refine g_iret C hR dJ9_floorMod_7cf53_19 ?_
      refine ⟨?_, rfl⟩
      congr 3
      first | (rw [hp (by omega)]) | (rw [hn (by omega)]; by_cases q : x.tmod y = 0 <;> simp [q] <;> omega)
    · refine g_iload_n C dJ9_floorMod_7cf53_14 rfl ?_
      refine g_iload_n C dJ9_floorMod_7cf53_15 rfl ?_
      refine g_iadd C dJ9_floorMod_7cf53_16 ?_
      refine g_iret C hR dJ9_floorMod_7cf53_17 ?_
      refine ⟨?_, rfl⟩
      congr 3
      first | (rw [hp (by omega)]) | (rw [hn (by omega)]; by_cases q : x.tmod y = 0 <;> simp [q] <;> omega)
theorem gc_floorMod {X : z_X} {cc : ByteArray} {own : String} {ret : Option FieldType} {dC nC : Nat} {M : zM} {pc : Nat} {lv : List (Option Value)} {st : List Value} (C : Cx cc own ret dC nC X) (hdep : 2 ≤ dC) {idx : Nat} (hl0 : Cond.methodLink own idx yJ9_floorMod_7cf53 ∈ tT) (hcat : (st.map fun v => v.category).sum ≤ 8) (hlen : lv.length = nC) (hdec : decode cc pc = .ok (.invokestatic idx, 3)) (x y : Int) (hx : -2147483648 ≤ x ∧ x ≤ 2147483647) (hy : 0 < y ∧ y ≤ 1000000)  (kk : G X M (pc + 3) lv (.int (jI (x % y)) :: st)) : G X M pc lv (.int (jI (y)) :: .int (jI (x)) :: st) := by
  refine g_callS (k := 2) C (c_floorMod (zL X) x y hx hy M ) mfJ9_floorMod_7cf53 hl0 ⟨rfl, by decide +kernel, by decide +kernel, by decide +kernel⟩ ⟨hdep, by decide⟩ rfl rfl rfl hcat hlen hdec (fun v M' h => ?_)
  obtain ⟨rfl, rfl⟩ := h
  exact kk
end
section
/-! the binary heap: counts of a row of numbers, a sorted list as what it holds -/
def cN (A : Nat → Int) : Nat → Int → Nat
  | 0, _ => 0
  | n + 1, w => cN A n w + (if A n = w then 1 else 0)
theorem cN_congr {A B : Nat → Int} : ∀ {n : Nat} {w : Int}, (∀ i, i < n → A i = B i) → cN A n w = cN B n w
  | 0, _, _ => rfl
  | n + 1, w, h => by
    rw [cN, cN, cN_congr (fun i hi => h i (by omega)), h n (by omega)]
theorem cN_up {A : Nat → Int} {k : Nat} {x : Int} : ∀ {n : Nat} {w : Int}, k < n → cN (va_up A k x) n w + (if A k = w then 1 else 0) = cN A n w + (if x = w then 1 else 0)
  | 0, _, h => absurd h (Nat.not_lt_zero _)
  | n + 1, w, h => by
    rw [cN, cN]
    by_cases hk : k = n
    · subst hk
      rw [cN_congr (B := A) (fun i hi => by simp [va_up]; omega)]
      have : va_up A k x k = x := by simp [va_up]
      rw [this]
      omega
    · have h1 := cN_up (A := A) (x := x) (n := n) (w := w) (k := k) (by omega)
      have : va_up A k x n = A n := by simp [va_up]; omega
      rw [this]
      omega
theorem cN_pos {A : Nat → Int} {i : Nat} : ∀ {n : Nat}, i < n → 0 < cN A n (A i)
  | 0, h => absurd h (Nat.not_lt_zero _)
  | n + 1, h => by
    rw [cN]
    by_cases hi : i = n
    · subst hi; simp
    · have := cN_pos (A := A) (i := i) (n := n) (by omega)
      omega
theorem cN_ex {A : Nat → Int} {w : Int} : ∀ {n : Nat}, 0 < cN A n w → ∃ i, i < n ∧ A i = w
  | 0, h => absurd h (Nat.lt_irrefl 0)
  | n + 1, h => by
    rw [cN] at h
    by_cases hn : A n = w
    · exact ⟨n, by omega, hn⟩
    · rw [if_neg hn] at h
      obtain ⟨i, h1, h2⟩ := cN_ex (n := n) h
      exact ⟨i, by omega, h2⟩
/-- two places change what they hold -/
theorem cN_swap {C : Nat → Int} {p q n : Nat} {w : Int} (hp : p < n) (hq : q < n) (hne : q ≠ p) : cN (va_up (va_up C p (C q)) q (C p)) n w = cN C n w := by
  have h1 := cN_up (A := va_up C p (C q)) (k := q) (x := C p) (w := w) hq
  have h2 := cN_up (A := C) (k := p) (x := C q) (w := w) hp
  have e : va_up C p (C q) q = C q := by simp [va_up, hne]
  rw [e] at h1
  omega
def insS (v : Int) : List Int → List Int
  | [] => [v]
  | a :: t => if v ≤ a then v :: a :: t else a :: insS v t
theorem insS_len (v : Int) : ∀ l, (insS v l).length = l.length + 1
  | [] => rfl
  | a :: t => by
    rw [insS]
    by_cases h : v ≤ a
    · rw [if_pos h]; rfl
    · rw [if_neg h, List.length_cons, insS_len v t]; rfl
theorem cnt_cons (a w : Int) (l : List Int) : (a :: l).count w = l.count w + (if a = w then 1 else 0) := by
  rw [List.count_cons]
  by_cases h : a = w <;> simp [h]
theorem insS_count (v w : Int) : ∀ l, (insS v l).count w = l.count w + (if v = w then 1 else 0)
  | [] => by rw [insS, cnt_cons]
  | a :: t => by
    rw [insS]
    by_cases h : v ≤ a
    · rw [if_pos h, cnt_cons]
    · rw [if_neg h, cnt_cons, cnt_cons, insS_count v w t]; omega
theorem insS_mem {v w : Int} {l : List Int} : w ∈ insS v l ↔ w = v ∨ w ∈ l := by
  rw [← List.count_pos_iff, ← List.count_pos_iff, insS_count]
  by_cases h : v = w
  · simp [h]
  · simp [h, Ne.symm h]
theorem insS_sorted {v : Int} : ∀ {l : List Int}, l.Pairwise (· ≤ ·) → (insS v l).Pairwise (· ≤ ·)
  | [], _ => List.pairwise_singleton _ _
  | a :: t, h => by
    obtain ⟨h1, h2⟩ := List.pairwise_cons.mp h
    rw [insS]
    by_cases hv : v ≤ a
    · rw [if_pos hv]
      refine List.pairwise_cons.mpr ⟨fun b hb => ?_, h⟩
      rcases List.mem_cons.mp hb with rfl | hb
      · exact hv
      · exact Int.le_trans hv (h1 b hb)
    · rw [if_neg hv]
      refine List.pairwise_cons.mpr ⟨fun b hb => ?_, insS_sorted h2⟩
      rcases insS_mem.mp hb with rfl | hb
      · omega
      · exact h1 b hb
/-- no number stands below its parent -/
def hord (A : Nat → Int) (n : Nat) : Prop := ∀ i, 0 < i → i < n → A ((i - 1) / 2) ≤ A i
theorem hord_min {A : Nat → Int} {n : Nat} (h : hord A n) : ∀ i, i < n → A 0 ≤ A i := by
  intro i
  induction i using Nat.strongRecOn with
  | ind i ih =>
    intro hi
    by_cases h0 : i = 0
    · subst h0; exact Int.le_refl _
    · exact Int.le_trans (ih ((i - 1) / 2) (by omega) (by omega)) (h i (by omega) hi)
/-- heap h holds the sorted numbers S -/
def zHp (M : zM) (h : Nat) (S : List Int) : Prop := M (76 + 2 * h) 1 = (S.length : Int) ∧ S.length ≤ 120 ∧ S.Pairwise (· ≤ ·) ∧ (∀ w ∈ S, 0 ≤ w ∧ w ≤ 2000000000) ∧ (∀ w, cN (M (77 + 2 * h)) S.length w = S.count w) ∧ hord (M (77 + 2 * h)) S.length
def zFh (M M' : zM) (h : Nat) : Prop := ∀ o, o ≠ 76 + 2 * h → o ≠ 77 + 2 * h → M' o = M o
theorem zFh.refl {M : zM} {h : Nat} : zFh M M h := fun _ _ _ => rfl
theorem zFh.trans {M M1 M2 : zM} {h : Nat} (h1 : zFh M M1 h) (h2 : zFh M1 M2 h) : zFh M M2 h := fun o a b => (h2 o a b).trans (h1 o a b)
theorem zHp.keep {M M' : zM} {h : Nat} {S : List Int} (H : zHp M h S) (h0 : M' (76 + 2 * h) = M (76 + 2 * h)) (h1 : M' (77 + 2 * h) = M (77 + 2 * h)) : zHp M' h S := by
  unfold zHp
  rw [h0, h1]
  exact H
/-- the least is at the top -/
theorem zHp.top {M : zM} {h : Nat} {a : Int} {T : List Int} (H : zHp M h (a :: T)) : M (77 + 2 * h) 0 = a := by
  obtain ⟨-, -, hs, -, hc, ho⟩ := H
  have h1 : M (77 + 2 * h) 0 ∈ a :: T := List.count_pos_iff.mp (by rw [← hc]; exact cN_pos (by simp))
  obtain ⟨i, hi, e⟩ := cN_ex (A := M (77 + 2 * h)) (w := a) (n := (a :: T).length) (by rw [hc]; exact List.count_pos_iff.mpr List.mem_cons_self)
  have h2 := hord_min ho i hi
  rcases List.mem_cons.mp h1 with h3 | h3
  · exact h3
  · have := (List.pairwise_cons.mp hs).1 _ h3
    omega
/-- what the loop of push keeps: C: the row with the new number in its hole p; n: the place of the last number -/
def hJ (C : Nat → Int) (n p : Nat) : Prop := (∀ i, 0 < i → i ≤ n → i ≠ p → C ((i - 1) / 2) ≤ C i) ∧ (0 < p → ∀ i, 0 < i → i ≤ n → (i - 1) / 2 = p → C ((p - 1) / 2) ≤ C i)
theorem hJ_step {B : Nat → Int} {v : Int} {n p : Nat} (h : hJ (va_up B p v) n p) (h0 : 0 < p) (hn : p ≤ n) (hlt : v < B ((p - 1) / 2)) : hJ (va_up (va_up B p (B ((p - 1) / 2))) ((p - 1) / 2) v) n ((p - 1) / 2) := by
  obtain ⟨h1, h2⟩ := h
  generalize hq : (p - 1) / 2 = q at hlt h2 ⊢
  have hqp : q ≠ p := by omega
  have C1 : ∀ i, i ≠ p → va_up B p v i = B i := fun i hi => by simp [va_up, hi]
  have C2 : ∀ i, i ≠ q → i ≠ p → va_up (va_up B p (B q)) q v i = B i := fun i hi hj => by simp [va_up, hi, hj]
  have C3 : va_up (va_up B p (B q)) q v q = v := by simp [va_up]
  have C4 : va_up (va_up B p (B q)) q v p = B q := by simp [va_up, Ne.symm hqp]
  have e : ∀ i, 0 < i → i ≤ n → i ≠ p → (i - 1) / 2 ≠ p → B ((i - 1) / 2) ≤ B i := fun i g1 g2 g3 g4 => by
    have := h1 i g1 g2 g3
    rw [C1 _ g4, C1 _ g3] at this
    exact this
  have e2 : ∀ i, 0 < i → i ≤ n → (i - 1) / 2 = p → B q ≤ B i := fun i g1 g2 g3 => by
    have := h2 h0 i g1 g2 g3
    rw [C1 _ hqp, C1 i (by omega)] at this
    exact this
  refine ⟨fun i g1 g2 g3 => ?_, fun g0 i g1 g2 g3 => ?_⟩
  · by_cases a1 : i = p
    · subst a1
      rw [hq, C3, C4]; omega
    · rw [C2 i g3 a1]
      by_cases a2 : (i - 1) / 2 = p
      · rw [a2, C4]; exact e2 i g1 g2 a2
      · by_cases a3 : (i - 1) / 2 = q
        · rw [a3, C3]
          have := e i g1 g2 a1 a2
          rw [a3] at this
          omega
        · rw [C2 _ a3 a2]; exact e i g1 g2 a1 a2
  · have b1 : (q - 1) / 2 ≠ q := by omega
    have b2 : (q - 1) / 2 ≠ p := by omega
    rw [C2 _ b1 b2]
    have b3 := e q g0 (by omega) hqp b2
    by_cases a1 : i = p
    · subst a1
      rw [C4]; exact b3
    · rw [C2 i (by omega) a1]
      have := e i g1 g2 a1 (by omega)
      rw [g3] at this
      omega
theorem hJ_end {C : Nat → Int} {n p : Nat} (h : hJ C n p) (h0 : p = 0 ∨ C ((p - 1) / 2) ≤ C p) : hord C (n + 1) := by
  intro i h1 h2
  by_cases e : i = p
  · subst e
    rcases h0 with h0 | h0
    · omega
    · exact h0
  · exact h.1 i h1 (by omega) e
/-- what the loop of the sinking keeps: n: how many numbers there are -/
def hK (C : Nat → Int) (n p : Nat) : Prop := (∀ i, 0 < i → i < n → (i - 1) / 2 ≠ p → C ((i - 1) / 2) ≤ C i) ∧ (0 < p → ∀ i, 0 < i → i < n → (i - 1) / 2 = p → C ((p - 1) / 2) ≤ C i)
theorem hK_step {B : Nat → Int} {v : Int} {n p q : Nat} (h : hK (va_up B p v) n p) (hq : 0 < q) (hqn : q < n) (hqp : (q - 1) / 2 = p) (hle : B q ≤ v) (hmin : ∀ i, 0 < i → i < n → (i - 1) / 2 = p → B q ≤ B i) : hK (va_up (va_up B p (B q)) q v) n q := by
  obtain ⟨h1, h2⟩ := h
  have hne : q ≠ p := by omega
  have C1 : ∀ i, i ≠ p → va_up B p v i = B i := fun i hi => by simp [va_up, hi]
  have C2 : ∀ i, i ≠ q → i ≠ p → va_up (va_up B p (B q)) q v i = B i := fun i hi hj => by simp [va_up, hi, hj]
  have C3 : va_up (va_up B p (B q)) q v q = v := by simp [va_up]
  have C4 : va_up (va_up B p (B q)) q v p = B q := by simp [va_up, Ne.symm hne]
  refine ⟨fun i g1 g2 g3 => ?_, fun _ i g1 g2 g3 => ?_⟩
  · by_cases a1 : i = q
    · subst a1
      rw [hqp, C3, C4]; exact hle
    · by_cases a2 : i = p
      · subst a2
        have a3 : (i - 1) / 2 ≠ i := by omega
        have := h2 g1 q hq hqn hqp
        rw [C1 _ a3, C1 _ hne] at this
        rw [C2 _ g3 a3, C4]; exact this
      · rw [C2 i a1 a2]
        by_cases a4 : (i - 1) / 2 = p
        · rw [a4, C4]; exact hmin i g1 g2 a4
        · have := h1 i g1 g2 a4
          rw [C1 _ a4, C1 _ a2] at this
          rw [C2 _ g3 a4]; exact this
  · have a2 : i ≠ p := by omega
    have a1 : i ≠ q := by omega
    have := h1 i g1 g2 (by omega)
    rw [g3, C1 _ hne, C1 _ a2] at this
    rw [hqp, C4, C2 i a1 a2]; exact this
theorem hK_end {C : Nat → Int} {n p : Nat} (h : hK C n p) (h0 : ∀ i, 0 < i → i < n → (i - 1) / 2 = p → C p ≤ C i) : hord C n := by
  intro i h1 h2
  by_cases e : (i - 1) / 2 = p
  · rw [e]; exact h0 i h1 h2 e
  · exact h.1 i h1 h2 e
end
section
/-! the heap's methods -/
set_option maxHeartbeats 4000000 in
set_option maxRecDepth 10000 in
theorem c_Heap_empty (l : Launch) {r : Nat} (hr : r < 3) (M : zM)  : Mt l 1 yX0_empty cX0_empty 1 none (fun ad => [.ref (ad (76 + 2 * r))]) M (fun _ vv M' => vv = none ∧ (zHp M' r [] ∧ zFh M M' r)) := by
  refine Mt.of (fun ad => [some (.ref (ad (76 + 2 * r)))]) (by decide +kernel) (fun _ => rfl) (fun _ => rfl) (fun _ => Nat.le_of_ble_eq_true rfl) fun X hX C hR => ?_
  subst hX
  show G X M 0 [some (.ref ((zA X) (76 + 2 * r)))] []
  refine g_aload_n C dX0_empty_0 rfl ?_
  refine g_iconst C dX0_empty_1 ?_
  refine gp_Heap_count C (by omega) tw_54 dX0_empty_2 ?_
  refine g_vret C hR dX0_empty_5 ?_
  refine ⟨rfl, ⟨by rw [zu_s]; rfl, by simp, List.Pairwise.nil, fun w hw => absurd hw List.not_mem_nil, fun w => rfl, fun i h1 h2 => absurd h2 (Nat.not_lt_zero _)⟩, fun o h0 h1 => zu_o _ _ _ _ h0⟩
theorem gc_Heap_empty {X : z_X} {cc : ByteArray} {own : String} {ret : Option FieldType} {dC nC : Nat} {M : zM} {pc : Nat} {lv : List (Option Value)} {st : List Value} (C : Cx cc own ret dC nC X) (hdep : 2 ≤ dC) {idx : Nat} (hl0 : Cond.methodLink own idx yX0_empty ∈ tT) (hcat : (st.map fun v => v.category).sum ≤ 8) (hlen : lv.length = nC) (hdec : decode cc pc = .ok (.invokevirtual idx, 3)) {r : Nat} (hr : r < 3)  (kk : ∀ M' : zM, (zHp M' r [] ∧ zFh M M' r) → G X M' (pc + 3) lv st) : G X M pc lv (.ref (zA X (76 + 2 * r)) :: st) := by
  refine g_callV (k := 0) (o := 76 + 2 * r) C (c_Heap_empty (zL X) hr M ) mfX0_empty hl0 ⟨rfl, by decide +kernel, by decide +kernel, by decide +kernel⟩ ⟨hdep, by decide⟩ (by omega) (fun _ _ _ _ => ze_heap (by omega)) rfl rfl rfl rfl hcat hlen hdec (fun v M' h => ?_)
  obtain ⟨rfl, h⟩ := h
  exact kk M' h
set_option maxHeartbeats 4000000 in
set_option maxRecDepth 10000 in
theorem c_Heap_push (l : Launch) {r : Nat} (hr : r < 3) {S : List Int} (v : Int) (hv : 0 ≤ v ∧ v ≤ 2000000000) (hs : S.length < 120) (M : zM) (hS : zHp M r S) : Mt l 1 yX0_push cX0_push 3 none (fun ad => [.ref (ad (76 + 2 * r)), .int (jI (v))]) M (fun _ vv M' => vv = none ∧ (zHp M' r (insS v S) ∧ zFh M M' r)) := by
  refine Mt.of (fun ad => [some (.ref (ad (76 + 2 * r))), some (.int (jI (v))), none]) (by decide +kernel) (fun _ => rfl) (fun _ => rfl) (fun _ => Nat.le_of_ble_eq_true rfl) fun X hX C hR => ?_
  subst hX
  show G X M 0 [some (.ref ((zA X) (76 + 2 * r))), some (.int (jI (v))), none] []
  have hl2 := hS.2.1
  have lp : ∀ (fk : Nat) (p : Nat) (N : zM), p < fk → p ≤ S.length → zFh M N r → N (76 + 2 * r) 1 = (S.length : Int) + 1 → (∀ w, cN (va_up (N (77 + 2 * r)) p v) (S.length + 1) w = S.count w + (if v = w then 1 else 0)) → hJ (va_up (N (77 + 2 * r)) p v) S.length p → G X N 28 [some (.ref (zA X (76 + 2 * r))), some (.int (jI v)), some (.int (jI (p : Int)))] [] := by
    intro fk
    induction fk with
    | zero => intro p N hk; exact absurd hk (Nat.not_lt_zero _)
    | succ fk ih =>
      intro p N hk h1 hF h2 hN hJ1
      have zb : ∀ i, i < S.length + 1 → 0 ≤ va_up (N (77 + 2 * r)) p v i ∧ va_up (N (77 + 2 * r)) p v i ≤ 2000000000 := fun i hi => by
        have g := cN_pos (A := va_up (N (77 + 2 * r)) p v) hi
        rw [hN] at g
        by_cases q : v = va_up (N (77 + 2 * r)) p v i
        · rw [← q]; exact hv
        · rw [if_neg q] at g
          exact hS.2.2.2.1 _ (List.count_pos_iff.mp (by omega))
      refine g_iload_n C dX0_push_28 rfl ?_
      refine g_if_le (tgt := 71) C dX0_push_29 rfl (by omega) (fun h29 => ?_) (fun h29 => ?_)
      · refine g_aload_n C dX0_push_71 rfl ?_
        refine gf_Heap_held C (by omega) tw_53 dX0_push_72 ?_
        refine g_iload_n C dX0_push_75 rfl ?_
        refine g_iload_n C dX0_push_76 rfl ?_
        refine gs_held C (by omega) _ (by omega) rfl dX0_push_77 ?_
        refine g_vret C hR dX0_push_78 ?_
        have e4 : zu N (77 + 2 * r) p v (77 + 2 * r) = va_up (N (77 + 2 * r)) p v := by simp [zu, va_up]
        have hl : (insS v S).length = S.length + 1 := insS_len v S
        refine ⟨rfl, ⟨by rw [zu_o _ _ _ _ (by omega), h2, hl]; rfl, by omega, insS_sorted hS.2.2.1, fun w hw => ?_, fun w => ?_, ?_⟩, hF.trans fun o g1 g2 => zu_o _ _ _ _ g2⟩
        · rcases insS_mem.mp hw with rfl | hw
          · exact hv
          · exact hS.2.2.2.1 w hw
        · rw [e4, hl, hN w, insS_count]
        · rw [e4, hl]
          refine hJ_end hJ1 ?_
          first
            | exact Or.inl (by omega)
            | refine Or.inr ?_
              have e5 : va_up (N (77 + 2 * r)) p v p = v := by simp [va_up]
              rw [e0, e5]; omega
      · refine g_aload_n C dX0_push_32 rfl ?_
        refine gf_Heap_held C (by omega) tw_53 dX0_push_33 ?_
        refine g_iload_n C dX0_push_36 rfl ?_
        refine g_iconst C dX0_push_37 ?_
        refine g_isub C dX0_push_38 ?_
        refine g_iconst C dX0_push_39 ?_
        show G X _ 40 _ _
        refine g_idiv C dX0_push_40 (by omega) (by omega) ?_
        refine ga_held C (by omega) ((p - 1) / 2) (by omega) (by omega) dX0_push_41 ?_
        refine g_iload_n C dX0_push_42 rfl ?_
        have hq : (p - 1) / 2 ≠ p := by omega
        have hb := zb ((p - 1) / 2) (by omega)
        have e0 : va_up (N (77 + 2 * r)) p v ((p - 1) / 2) = N (77 + 2 * r) ((p - 1) / 2) := by simp [va_up, hq]
        rw [e0] at hb
        refine g_icmp_le (tgt := 71) C dX0_push_43 rfl (by omega) (by omega) (fun h43 => ?_) (fun h43 => ?_)
        · refine g_aload_n C dX0_push_71 rfl ?_
          refine gf_Heap_held C (by omega) tw_53 dX0_push_72 ?_
          refine g_iload_n C dX0_push_75 rfl ?_
          refine g_iload_n C dX0_push_76 rfl ?_
          refine gs_held C (by omega) _ (by omega) rfl dX0_push_77 ?_
          refine g_vret C hR dX0_push_78 ?_
          have e4 : zu N (77 + 2 * r) p v (77 + 2 * r) = va_up (N (77 + 2 * r)) p v := by simp [zu, va_up]
          have hl : (insS v S).length = S.length + 1 := insS_len v S
          refine ⟨rfl, ⟨by rw [zu_o _ _ _ _ (by omega), h2, hl]; rfl, by omega, insS_sorted hS.2.2.1, fun w hw => ?_, fun w => ?_, ?_⟩, hF.trans fun o g1 g2 => zu_o _ _ _ _ g2⟩
          · rcases insS_mem.mp hw with rfl | hw
            · exact hv
            · exact hS.2.2.2.1 w hw
          · rw [e4, hl, hN w, insS_count]
          · rw [e4, hl]
            refine hJ_end hJ1 ?_
            first
              | exact Or.inl (by omega)
              | refine Or.inr ?_
                have e5 : va_up (N (77 + 2 * r)) p v p = v := by simp [va_up]
                rw [e0, e5]; omega
        · have e3 : zu N (77 + 2 * r) p (N (77 + 2 * r) ((p - 1) / 2)) (77 + 2 * r) = va_up (N (77 + 2 * r)) p (N (77 + 2 * r) ((p - 1) / 2)) := by simp [zu, va_up]
          have hsw : ∀ w, cN (va_up (va_up (N (77 + 2 * r)) p (N (77 + 2 * r) ((p - 1) / 2))) ((p - 1) / 2) v) (S.length + 1) w = cN (va_up (N (77 + 2 * r)) p v) (S.length + 1) w := fun w => by
            rw [← cN_swap (C := va_up (N (77 + 2 * r)) p v) (p := p) (q := (p - 1) / 2) (by omega) (by omega) hq]
            congr 1
            funext j
            simp only [va_up]
            by_cases j1 : j = (p - 1) / 2 <;> by_cases j2 : j = p <;> simp [j1, j2, hq]
          refine g_aload_n C dX0_push_46 rfl ?_
          refine gf_Heap_held C (by omega) tw_53 dX0_push_47 ?_
          refine g_iload_n C dX0_push_50 rfl ?_
          refine g_aload_n C dX0_push_51 rfl ?_
          refine gf_Heap_held C (by omega) tw_53 dX0_push_52 ?_
          refine g_iload_n C dX0_push_55 rfl ?_
          show G X _ 56 _ _
          refine g_iconst C dX0_push_56 ?_
          refine g_isub C dX0_push_57 ?_
          refine g_iconst C dX0_push_58 ?_
          refine g_idiv C dX0_push_59 (by omega) (by omega) ?_
          refine ga_held C (by omega) ((p - 1) / 2) (by omega) (by omega) dX0_push_60 ?_
          refine gs_held C (by omega) _ (by omega) rfl dX0_push_61 ?_
          show G X _ 62 _ _
          refine g_iload_n C dX0_push_62 rfl ?_
          refine g_iconst C dX0_push_63 ?_
          refine g_isub C dX0_push_64 ?_
          refine g_iconst C dX0_push_65 ?_
          refine g_idiv C dX0_push_66 (by omega) (by omega) ?_
          show G X _ 67 _ (.int (jI (((p : Int) - 1) / 2)) :: _)
          rw [show ((p : Int) - 1) / 2 = (((p - 1) / 2 : Nat) : Int) by omega]
          refine g_istore_n C dX0_push_67 (Nat.le_of_ble_eq_true rfl) ?_
          show G X _ 68 [_, _, _] _
          refine g_goto (tgt := 28) C dX0_push_68 rfl ?_
          show G X _ 28 _ _
          refine ih ((p - 1) / 2) _ (by omega) (by omega) (hF.trans fun o g1 g2 => zu_o _ _ _ _ g2) (by rw [zu_o _ _ _ _ (by omega)]; exact h2) (fun w => ?_) ?_
          · show cN (va_up (zu N (77 + 2 * r) p (N (77 + 2 * r) ((p - 1) / 2)) (77 + 2 * r)) ((p - 1) / 2) v) (S.length + 1) w = _
            rw [e3, ← hN w, ← hsw w]
          · rw [e3]; exact hJ_step hJ1 (by omega) h1 (by omega)
  refine g_aload_n C dX0_push_0 rfl ?_
  refine gf_Heap_count C (by omega) tw_54 dX0_push_1 ?_
  rw [hS.1]
  refine g_aload_n C dX0_push_4 rfl ?_
  refine gf_Heap_held C (by omega) tw_53 dX0_push_5 ?_
  refine gl_held C (by omega) dX0_push_8 ?_
  refine g_icmp_lt (tgt := 13) C dX0_push_9 rfl (by omega) (by omega) (fun h9 => ?_) (fun h9 => ?_)
  · refine g_aload_n C dX0_push_13 rfl ?_
    refine gf_Heap_count C (by omega) tw_54 dX0_push_14 ?_
    rw [hS.1]
    refine g_istore_n C dX0_push_17 (Nat.le_of_ble_eq_true rfl) ?_
    show G X _ 18 [_, _, _] _
    refine g_aload_n C dX0_push_18 rfl ?_
    refine g_dup C dX0_push_19 rfl ?_
    refine gf_Heap_count C (by omega) tw_54 dX0_push_20 ?_
    rw [hS.1]
    refine g_iconst C dX0_push_23 ?_
    refine g_iadd C dX0_push_24 ?_
    refine gp_Heap_count C (by omega) tw_54 dX0_push_25 ?_
    show G X _ 28 _ _
    refine lp 200 S.length _ (by omega) (Nat.le_refl _) (fun o g1 g2 => zu_o _ _ _ _ g1) (zu_s _ _ _ _) (fun w => ?_) ⟨fun i g1 g2 g3 => ?_, fun g0 i g1 g2 g3 => by omega⟩
    · rw [zu_o _ _ _ _ (by omega), cN, ← hS.2.2.2.2.1 w, cN_congr (B := M (77 + 2 * r)) (fun i hi => by simp [va_up]; omega)]
      simp [va_up]
    · rw [zu_o _ _ _ _ (by omega)]
      have a1 : (i - 1) / 2 ≠ S.length := by omega
      simp only [va_up, if_neg a1, if_neg g3]
      exact hS.2.2.2.2.2 i g1 (by omega)
  · omega
theorem gc_Heap_push {X : z_X} {cc : ByteArray} {own : String} {ret : Option FieldType} {dC nC : Nat} {M : zM} {pc : Nat} {lv : List (Option Value)} {st : List Value} (C : Cx cc own ret dC nC X) (hdep : 2 ≤ dC) {idx : Nat} (hl0 : Cond.methodLink own idx yX0_push ∈ tT) (hcat : (st.map fun v => v.category).sum ≤ 8) (hlen : lv.length = nC) (hdec : decode cc pc = .ok (.invokevirtual idx, 3)) {r : Nat} (hr : r < 3) {S : List Int} (v : Int) (hv : 0 ≤ v ∧ v ≤ 2000000000) (hs : S.length < 120) (hS : zHp M r S) (kk : ∀ M' : zM, (zHp M' r (insS v S) ∧ zFh M M' r) → G X M' (pc + 3) lv st) : G X M pc lv (.int (jI (v)) :: .ref (zA X (76 + 2 * r)) :: st) := by
  refine g_callV (k := 1) (o := 76 + 2 * r) C (c_Heap_push (zL X) hr v hv hs M hS) mfX0_push hl0 ⟨rfl, by decide +kernel, by decide +kernel, by decide +kernel⟩ ⟨hdep, by decide⟩ (by omega) (fun _ _ _ _ => ze_heap (by omega)) rfl rfl rfl rfl hcat hlen hdec (fun v M' h => ?_)
  obtain ⟨rfl, h⟩ := h
  exact kk M' h
set_option maxHeartbeats 4000000 in
set_option maxRecDepth 10000 in
theorem c_Heap_sink (l : Launch) {r : Nat} (hr : r < 3) {S : List Int} (v : Int) (hv : 0 ≤ v ∧ v ≤ 2000000000) (hs : S.length < 120) (M : zM) (h0 : M (76 + 2 * r) 1 = (S.length : Int)) (hb : ∀ w ∈ S, 0 ≤ w ∧ w ≤ 2000000000) (hc : ∀ w, cN (va_up (M (77 + 2 * r)) 0 v) S.length w = S.count w) (ho : hK (va_up (M (77 + 2 * r)) 0 v) S.length 0) : Mt l 1 yX0_sinkFromTop cX0_sinkFromTop 5 none (fun ad => [.ref (ad (76 + 2 * r)), .int (jI (v))]) M (fun _ vv M' => vv = none ∧ (M' (76 + 2 * r) = M (76 + 2 * r) ∧ (∀ w, cN (M' (77 + 2 * r)) S.length w = S.count w) ∧ hord (M' (77 + 2 * r)) S.length ∧ zFh M M' r)) := by
  refine Mt.of (fun ad => [some (.ref (ad (76 + 2 * r))), some (.int (jI (v))), none, none, none]) (by decide +kernel) (fun _ => rfl) (fun _ => rfl) (fun _ => Nat.le_of_ble_eq_true rfl) fun X hX C hR => ?_
  subst hX
  show G X M 0 [some (.ref ((zA X) (76 + 2 * r))), some (.int (jI (v))), none, none, none] []
  have lp : ∀ (fk : Nat) (p : Nat) (N : zM), 200 - p < fk → (p = 0 ∨ p < S.length) → zFh M N r → N (76 + 2 * r) = M (76 + 2 * r) → (∀ w, cN (va_up (N (77 + 2 * r)) p v) S.length w = S.count w) → hK (va_up (N (77 + 2 * r)) p v) S.length p → G X N 4 [some (.ref (zA X (76 + 2 * r))), some (.int (jI v)), some (.int (jI (p : Int))), some (.int (jI ((2 * p + 1 : Nat) : Int))), none] [] := by
    intro fk
    induction fk with
    | zero => intro p N hk; exact absurd hk (Nat.not_lt_zero _)
    | succ fk ih =>
      intro p N hk h1 hF h2 hN hK1
      have zb : ∀ i, i < S.length → 0 ≤ va_up (N (77 + 2 * r)) p v i ∧ va_up (N (77 + 2 * r)) p v i ≤ 2000000000 := fun i hi => by
        have g := cN_pos (A := va_up (N (77 + 2 * r)) p v) hi
        rw [hN] at g
        exact hb _ (List.count_pos_iff.mp g)
      have join : ∀ c : Nat, c < S.length → (c - 1) / 2 = p → 0 < c → (∀ i, 0 < i → i < S.length → (i - 1) / 2 = p → N (77 + 2 * r) c ≤ N (77 + 2 * r) i) → G X N 46 [some (.ref (zA X (76 + 2 * r))), some (.int (jI v)), some (.int (jI (p : Int))), some (.int (jI ((2 * p + 1 : Nat) : Int))), none] [.int (jI (c : Int))] := by
        intro c h5 h6 h7 hm
        refine g_istore C dX0_sinkFromTop_46 (Nat.le_of_ble_eq_true rfl) ?_
        show G X _ 48 [_, _, _, _, _] _
        refine g_aload_n C dX0_sinkFromTop_48 rfl ?_
        refine gf_Heap_held C (by omega) tw_53 dX0_sinkFromTop_49 ?_
        refine g_iload C dX0_sinkFromTop_52 rfl ?_
        
        refine ga_held C (by omega) _ (by omega) rfl dX0_sinkFromTop_54 ?_
        have hcp : c ≠ p := by omega
        have hbc := zb c h5
        have e0 : va_up (N (77 + 2 * r)) p v c = N (77 + 2 * r) c := by simp [va_up, hcp]
        rw [e0] at hbc
        refine g_iload_n C dX0_sinkFromTop_55 rfl ?_
        refine g_icmp_le (tgt := 62) C dX0_sinkFromTop_56 rfl (by omega) (by omega) (fun h56 => ?_) (fun h56 => ?_)
        · have e3 : zu N (77 + 2 * r) p (N (77 + 2 * r) c) (77 + 2 * r) = va_up (N (77 + 2 * r)) p (N (77 + 2 * r) c) := by simp [zu, va_up]
          have hsw : ∀ w, cN (va_up (va_up (N (77 + 2 * r)) p (N (77 + 2 * r) c)) c v) S.length w = cN (va_up (N (77 + 2 * r)) p v) S.length w := fun w => by
            rw [← cN_swap (C := va_up (N (77 + 2 * r)) p v) (p := p) (q := c) (by omega) (by omega) hcp]
            congr 1
            funext j
            simp only [va_up]
            by_cases j1 : j = c <;> by_cases j2 : j = p <;> simp [j1, j2, hcp]
          refine g_aload_n C dX0_sinkFromTop_62 rfl ?_
          refine gf_Heap_held C (by omega) tw_53 dX0_sinkFromTop_63 ?_
          refine g_iload_n C dX0_sinkFromTop_66 rfl ?_
          refine g_aload_n C dX0_sinkFromTop_67 rfl ?_
          refine gf_Heap_held C (by omega) tw_53 dX0_sinkFromTop_68 ?_
          refine g_iload C dX0_sinkFromTop_71 rfl ?_
          show G X _ 73 _ _
          refine ga_held C (by omega) _ (by omega) rfl dX0_sinkFromTop_73 ?_
          refine gs_held C (by omega) _ (by omega) rfl dX0_sinkFromTop_74 ?_
          refine g_iload C dX0_sinkFromTop_75 rfl ?_
          refine g_istore_n C dX0_sinkFromTop_77 (Nat.le_of_ble_eq_true rfl) ?_
          show G X _ 78 [_, _, _, _, _] _
          refine g_iconst C dX0_sinkFromTop_78 ?_
          refine g_iload_n C dX0_sinkFromTop_79 rfl ?_
          refine g_imul C dX0_sinkFromTop_80 ?_
          refine g_iconst C dX0_sinkFromTop_81 ?_
          refine g_iadd C dX0_sinkFromTop_82 ?_
          refine g_istore_n C dX0_sinkFromTop_83 (Nat.le_of_ble_eq_true rfl) ?_
          show G X _ 84 [_, _, _, _, _] _
          refine g_goto (tgt := 4) C dX0_sinkFromTop_84 rfl ?_
          show G X _ 4 _ _
          refine g_mask [true, true, true, true, false] rfl ?_
          show G X _ 4 [_, _, _, _, _] _
          rw [show 2 * (c : Int) + 1 = ((2 * c + 1 : Nat) : Int) by omega]
          refine ih c _ (by omega) (by omega) (hF.trans fun o g1 g2 => zu_o _ _ _ _ g2) (by rw [zu_o _ _ _ _ (by omega)]; exact h2) (fun w => ?_) ?_
          · rw [e3, hsw w]; exact hN w
          · rw [e3]; exact hK_step hK1 (by omega) h5 (by omega) (by omega) hm
        · refine g_goto (tgt := 87) C dX0_sinkFromTop_59 rfl ?_
          show G X _ 87 _ _
          refine g_aload_n C dX0_sinkFromTop_87 rfl ?_
          refine gf_Heap_held C (by omega) tw_53 dX0_sinkFromTop_88 ?_
          refine g_iload_n C dX0_sinkFromTop_91 rfl ?_
          refine g_iload_n C dX0_sinkFromTop_92 rfl ?_
          refine gs_held C (by omega) _ (by omega) rfl dX0_sinkFromTop_93 ?_
          refine g_vret C hR dX0_sinkFromTop_94 ?_
          have e4 : zu N (77 + 2 * r) p v (77 + 2 * r) = va_up (N (77 + 2 * r)) p v := by simp [zu, va_up]
          refine ⟨rfl, (zu_o _ _ _ _ (by omega)).trans h2, fun w => by rw [e4]; exact hN w, ?_, hF.trans fun o g1 g2 => zu_o _ _ _ _ g2⟩
          rw [e4]
          have e5 : va_up (N (77 + 2 * r)) p v p = v := by simp [va_up]
          refine hK_end hK1 fun i g1 g2 g3 => ?_
          have e8 : i ≠ p := by omega
          have e6 : va_up (N (77 + 2 * r)) p v i = N (77 + 2 * r) i := by simp [va_up, e8]
          have e7 := hm i g1 g2 g3
          rw [e5, e6]; omega
      refine g_iload_n C dX0_sinkFromTop_4 rfl ?_
      refine g_aload_n C dX0_sinkFromTop_5 rfl ?_
      refine gf_Heap_count C (by omega) tw_54 dX0_sinkFromTop_6 ?_
      rw [h2, h0]
      refine g_icmp_ge (tgt := 87) C dX0_sinkFromTop_9 rfl (by omega) (by omega) (fun h9 => ?_) (fun h9 => ?_)
      · refine g_aload_n C dX0_sinkFromTop_87 rfl ?_
        refine gf_Heap_held C (by omega) tw_53 dX0_sinkFromTop_88 ?_
        refine g_iload_n C dX0_sinkFromTop_91 rfl ?_
        refine g_iload_n C dX0_sinkFromTop_92 rfl ?_
        refine gs_held C (by omega) _ (by omega) rfl dX0_sinkFromTop_93 ?_
        refine g_vret C hR dX0_sinkFromTop_94 ?_
        have e4 : zu N (77 + 2 * r) p v (77 + 2 * r) = va_up (N (77 + 2 * r)) p v := by simp [zu, va_up]
        refine ⟨rfl, (zu_o _ _ _ _ (by omega)).trans h2, fun w => by rw [e4]; exact hN w, ?_, hF.trans fun o g1 g2 => zu_o _ _ _ _ g2⟩
        rw [e4]
        have e5 : va_up (N (77 + 2 * r)) p v p = v := by simp [va_up]
        refine hK_end hK1 fun i g1 g2 g3 => ?_
        omega
      · refine g_iload_n C dX0_sinkFromTop_12 rfl ?_
        refine g_iconst C dX0_sinkFromTop_13 ?_
        refine g_iadd C dX0_sinkFromTop_14 ?_
        refine g_aload_n C dX0_sinkFromTop_15 rfl ?_
        refine gf_Heap_count C (by omega) tw_54 dX0_sinkFromTop_16 ?_
        rw [h2, h0]
        refine g_icmp_ge (tgt := 45) C dX0_sinkFromTop_19 rfl (by omega) (by omega) (fun h19 => ?_) (fun h19 => ?_)
        · refine g_iload_n C dX0_sinkFromTop_45 rfl ?_
          exact join (2 * p + 1) (by omega) (by omega) (by omega) (fun i g1 g2 g3 => by
            obtain rfl : i = 2 * p + 1 := by omega
            exact Int.le_refl _)
        · refine g_aload_n C dX0_sinkFromTop_22 rfl ?_
          refine gf_Heap_held C (by omega) tw_53 dX0_sinkFromTop_23 ?_
          refine g_iload_n C dX0_sinkFromTop_26 rfl ?_
          refine g_iconst C dX0_sinkFromTop_27 ?_
          refine g_iadd C dX0_sinkFromTop_28 ?_
          refine ga_held C (by omega) (2 * p + 2) (by omega) (by omega) dX0_sinkFromTop_29 ?_
          show G X _ 30 _ _
          refine g_aload_n C dX0_sinkFromTop_30 rfl ?_
          refine gf_Heap_held C (by omega) tw_53 dX0_sinkFromTop_31 ?_
          refine g_iload_n C dX0_sinkFromTop_34 rfl ?_
          refine ga_held C (by omega) (2 * p + 1) (by omega) rfl dX0_sinkFromTop_35 ?_
          have b1 := zb (2 * p + 1) (by omega)
          have b2 := zb (2 * p + 2) (by omega)
          have n1 : 2 * p + 1 ≠ p := by omega
          have n2 : 2 * p + 2 ≠ p := by omega
          rw [show va_up (N (77 + 2 * r)) p v (2 * p + 1) = N (77 + 2 * r) (2 * p + 1) by simp [va_up, n1]] at b1
          rw [show va_up (N (77 + 2 * r)) p v (2 * p + 2) = N (77 + 2 * r) (2 * p + 2) by simp [va_up, n2]] at b2
          refine g_icmp_ge (tgt := 45) C dX0_sinkFromTop_36 rfl (by omega) (by omega) (fun h36 => ?_) (fun h36 => ?_)
          · refine g_iload_n C dX0_sinkFromTop_45 rfl ?_
            exact join (2 * p + 1) (by omega) (by omega) (by omega) (fun i g1 g2 g3 => by
              rcases (show i = 2 * p + 1 ∨ i = 2 * p + 2 by omega) with rfl | rfl
              · exact Int.le_refl _
              · omega)
          · refine g_iload_n C dX0_sinkFromTop_39 rfl ?_
            refine g_iconst C dX0_sinkFromTop_40 ?_
            refine g_iadd C dX0_sinkFromTop_41 ?_
            refine g_goto (tgt := 46) C dX0_sinkFromTop_42 rfl ?_
            show G X _ 46 _ _
            rw [show ((2 * p + 1 : Nat) : Int) + 1 = ((2 * p + 2 : Nat) : Int) by omega]
            exact join (2 * p + 2) (by omega) (by omega) (by omega) (fun i g1 g2 g3 => by
              rcases (show i = 2 * p + 1 ∨ i = 2 * p + 2 by omega) with rfl | rfl
              · omega
              · exact Int.le_refl _)
  refine g_iconst C dX0_sinkFromTop_0 ?_
  refine g_istore_n C dX0_sinkFromTop_1 (Nat.le_of_ble_eq_true rfl) ?_
  show G X _ 2 [_, _, _, _, _] _
  refine g_iconst C dX0_sinkFromTop_2 ?_
  refine g_istore_n C dX0_sinkFromTop_3 (Nat.le_of_ble_eq_true rfl) ?_
  show G X _ 4 [_, _, _, _, _] _
  exact lp 300 0 M (by omega) (Or.inl rfl) zFh.refl rfl hc ho
theorem gc_Heap_sink {X : z_X} {cc : ByteArray} {own : String} {ret : Option FieldType} {dC nC : Nat} {M : zM} {pc : Nat} {lv : List (Option Value)} {st : List Value} (C : Cx cc own ret dC nC X) (hdep : 2 ≤ dC) {idx : Nat} (hl0 : Cond.methodLink own idx yX0_sinkFromTop ∈ tT) (hcat : (st.map fun v => v.category).sum ≤ 8) (hlen : lv.length = nC) (hdec : decode cc pc = .ok (.invokevirtual idx, 3)) {r : Nat} (hr : r < 3) {S : List Int} (v : Int) (hv : 0 ≤ v ∧ v ≤ 2000000000) (hs : S.length < 120) (h0 : M (76 + 2 * r) 1 = (S.length : Int)) (hb : ∀ w ∈ S, 0 ≤ w ∧ w ≤ 2000000000) (hc : ∀ w, cN (va_up (M (77 + 2 * r)) 0 v) S.length w = S.count w) (ho : hK (va_up (M (77 + 2 * r)) 0 v) S.length 0) (kk : ∀ M' : zM, (M' (76 + 2 * r) = M (76 + 2 * r) ∧ (∀ w, cN (M' (77 + 2 * r)) S.length w = S.count w) ∧ hord (M' (77 + 2 * r)) S.length ∧ zFh M M' r) → G X M' (pc + 3) lv st) : G X M pc lv (.int (jI (v)) :: .ref (zA X (76 + 2 * r)) :: st) := by
  refine g_callV (k := 1) (o := 76 + 2 * r) C (c_Heap_sink (zL X) hr v hv hs M h0 hb hc ho) mfX0_sinkFromTop hl0 ⟨rfl, by decide +kernel, by decide +kernel, by decide +kernel⟩ ⟨hdep, by decide⟩ (by omega) (fun _ _ _ _ => ze_heap (by omega)) rfl rfl rfl rfl hcat hlen hdec (fun v M' h => ?_)
  obtain ⟨rfl, h⟩ := h
  exact kk M' h
set_option maxHeartbeats 4000000 in
set_option maxRecDepth 10000 in
theorem c_Heap_pull (l : Launch) {r : Nat} (hr : r < 3) {a : Int} {S : List Int} (M : zM) (hS : zHp M r (a :: S)) : Mt l 2 yX0_pull cX0_pull 2 (some .int) (fun ad => [.ref (ad (76 + 2 * r))]) M (fun _ vv M' => ∃ x : Int, vv = some (.int (jI x)) ∧ (x = a ∧ zHp M' r S ∧ zFh M M' r)) := by
  refine Mt.of (fun ad => [some (.ref (ad (76 + 2 * r))), none]) (by decide +kernel) (fun _ => rfl) (fun _ => rfl) (fun _ => Nat.le_of_ble_eq_true rfl) fun X hX C hR => ?_
  subst hX
  show G X M 0 [some (.ref ((zA X) (76 + 2 * r))), none] []
  have ht := hS.top
  obtain ⟨h0, h1, h2, h3, h4, h5⟩ := id hS
  rw [List.length_cons] at h0 h1 h4 h5
  obtain ⟨h6, h7⟩ := List.pairwise_cons.mp h2
  have hlast : 0 ≤ M (77 + 2 * r) S.length ∧ M (77 + 2 * r) S.length ≤ 2000000000 := by
    have g := cN_pos (A := M (77 + 2 * r)) (i := S.length) (n := S.length + 1) (by omega)
    rw [h4] at g
    exact h3 _ (List.count_pos_iff.mp g)
  have hcnt : ∀ w, cN (va_up (M (77 + 2 * r)) 0 (M (77 + 2 * r) S.length)) S.length w = S.count w := fun w => by
    have g1 := h4 w
    rw [cN, cnt_cons] at g1
    rcases Nat.eq_zero_or_pos S.length with z | z
    · rw [z, cN]
      rw [List.length_eq_zero_iff.mp z]; rfl
    · have g2 := cN_up (A := M (77 + 2 * r)) (x := M (77 + 2 * r) S.length) (w := w) z
      rw [ht] at g2
      omega
  have hK0 : hK (va_up (M (77 + 2 * r)) 0 (M (77 + 2 * r) S.length)) S.length 0 := by
    refine ⟨fun i g1 g2 g3 => ?_, fun g0 => absurd g0 (Nat.lt_irrefl 0)⟩
    have g4 : i ≠ 0 := by omega
    simp only [va_up, if_neg g3, if_neg g4]
    exact h5 i g1 (by omega)
  refine g_aload_n C dX0_pull_0 rfl ?_
  refine gf_Heap_count C (by omega) tw_54 dX0_pull_1 ?_
  rw [h0]
  refine g_iconst C dX0_pull_4 ?_
  refine g_icmp_ge (tgt := 10) C dX0_pull_5 rfl (by omega) (by omega) (fun h5 => ?_) (fun h5 => ?_)
  · refine g_aload_n C dX0_pull_10 rfl ?_
    refine gf_Heap_held C (by omega) tw_53 dX0_pull_11 ?_
    refine g_iconst C dX0_pull_14 ?_
    refine ga_held C (by omega) 0 (by omega) rfl dX0_pull_15 ?_
    rw [ht]
    refine g_istore_n C dX0_pull_16 (Nat.le_of_ble_eq_true rfl) ?_
    show G X _ 17 [_, _] _
    refine g_aload_n C dX0_pull_17 rfl ?_
    refine g_dup C dX0_pull_18 rfl ?_
    refine gf_Heap_count C (by omega) tw_54 dX0_pull_19 ?_
    rw [h0]
    refine g_iconst C dX0_pull_22 ?_
    refine g_isub C dX0_pull_23 ?_
    rw [show ((S.length + 1 : Nat) : Int) - 1 = (S.length : Int) by omega]
    refine gp_Heap_count C (by omega) tw_54 dX0_pull_24 ?_
    show G X _ 27 _ _
    refine g_aload_n C dX0_pull_27 rfl ?_
    refine g_aload_n C dX0_pull_28 rfl ?_
    refine gf_Heap_held C (by omega) tw_53 dX0_pull_29 ?_
    refine g_aload_n C dX0_pull_32 rfl ?_
    refine gf_Heap_count C (by omega) tw_54 dX0_pull_33 ?_
    rw [zu_s]
    refine ga_held C (by omega) _ (by omega) rfl dX0_pull_36 ?_
    rw [zu_o _ _ _ _ (by omega)]
    show G X _ 37 _ _
    refine gc_Heap_sink C (by decide) tw_519 (Nat.le_of_ble_eq_true rfl) rfl dX0_pull_37 hr _ hlast (by omega) (zu_s _ _ _ _) (fun w hw => h3 w (List.mem_cons_of_mem _ hw)) (by rw [zu_o _ _ _ _ (by omega)]; exact hcnt) (by rw [zu_o _ _ _ _ (by omega)]; exact hK0) (fun N ⟨n1, n2, n3, n4⟩ => ?_)
    refine g_iload_n C dX0_pull_40 rfl ?_
    refine g_iret C hR dX0_pull_41 ?_
    refine ⟨_, rfl, rfl, ⟨by rw [n1, zu_s], by omega, h7, fun w hw => h3 w (List.mem_cons_of_mem _ hw), n2, n3⟩, fun o g1 g2 => (n4 o g1 g2).trans (zu_o _ _ _ _ g1)⟩
  · omega
theorem gc_Heap_pull {X : z_X} {cc : ByteArray} {own : String} {ret : Option FieldType} {dC nC : Nat} {M : zM} {pc : Nat} {lv : List (Option Value)} {st : List Value} (C : Cx cc own ret dC nC X) (hdep : 3 ≤ dC) {idx : Nat} (hl0 : Cond.methodLink own idx yX0_pull ∈ tT) (hcat : (st.map fun v => v.category).sum ≤ 8) (hlen : lv.length = nC) (hdec : decode cc pc = .ok (.invokevirtual idx, 3)) {r : Nat} (hr : r < 3) {a : Int} {S : List Int} (hS : zHp M r (a :: S)) (kk : ∀ (x : Int) (M' : zM), (x = a ∧ zHp M' r S ∧ zFh M M' r) → G X M' (pc + 3) lv (.int (jI x) :: st)) : G X M pc lv (.ref (zA X (76 + 2 * r)) :: st) := by
  refine g_callV (k := 0) (o := 76 + 2 * r) C (c_Heap_pull (zL X) hr M hS) mfX0_pull hl0 ⟨rfl, by decide +kernel, by decide +kernel, by decide +kernel⟩ ⟨hdep, by decide⟩ (by omega) (fun _ _ _ _ => ze_heap (by omega)) rfl rfl rfl rfl hcat hlen hdec (fun v M' h => ?_)
  obtain ⟨x, rfl, h⟩ := h
  exact kk x M' h
end
section
/-! the set of keys: a bit for each; the outcome; the splitting -/
/-- the words hold the keys S (key k is bit k + 999) -/
def zKs (M : zM) (S : List Int) : Prop := ∀ n : Nat, n < 1999 → (jL (M 94 (n / 64))).toBitVec.getLsbD (n % 64) = decide ((n : Int) - 999 ∈ S)
theorem ks_bit : ∀ k : Nat, k < 64 → ((Int64.ofNat 1) <<< ((nI k).toInt64 &&& 63)).toBitVec = BitVec.twoPow 64 k := by decide +kernel
theorem ks_word {n : Nat} (h : n < 1999) : jI ((n : Int) - 999 + 999) >>> (jI 6 &&& 31) = jI ((n / 64 : Nat) : Int) := by
  rw [show (n : Int) - 999 + 999 = (n : Int) by omega, jI_n, jI_n]
  exact pk_shrN (by omega) _ 6 (by decide)
theorem ks_bitOf {n : Nat} (h : n < 1999) : ((Int64.ofNat 1) <<< ((jI ((n : Int) - 999 + 999) &&& jI 63).toInt64 &&& 63)).toBitVec = BitVec.twoPow 64 (n % 64) := by
  rw [show (n : Int) - 999 + 999 = (n : Int) by omega, jI_n, pk_andN (by omega) 6 (by decide)]
  exact ks_bit _ (Nat.mod_lt _ (by omega))
theorem ks_and {x b : Int64} {j : Nat} (hj : j < 64) (hb : b.toBitVec = BitVec.twoPow 64 j) : (x &&& b) = Int64.ofNat 0 ↔ x.toBitVec.getLsbD j = false := by
  rw [← Int64.toBitVec_inj, Int64.toBitVec_and, hb, BitVec.and_twoPow, show (Int64.ofNat 0).toBitVec = 0#64 from rfl]
  cases hx : x.toBitVec.getLsbD j with
  | false => simp
  | true =>
    simp
    intro h
    have h1 := congrArg (fun z => z.getLsbD j) h
    simp [BitVec.getLsbD_twoPow, hj] at h1
theorem ks_or {x b : Int64} {j : Nat} (hb : b.toBitVec = BitVec.twoPow 64 j) (hj : j < 64) (i : Nat) (hi : i < 64) : (x ||| b).toBitVec.getLsbD i = (x.toBitVec.getLsbD i || decide (i = j)) := by
  rw [Int64.toBitVec_or, hb, BitVec.getLsbD_or]
  congr 1
  rw [BitVec.getLsbD_twoPow]
  by_cases e : j = i
  · subst e; simp [hj]
  · simp [e, Ne.symm e]
theorem zKs.put {M : zM} {S : List Int} {n : Nat} {b : Int64} (h : zKs M S) (hn : n < 1999) (hb : b.toBitVec = BitVec.twoPow 64 (n % 64)) : zKs (zu M 94 (n / 64) (jL (M 94 (n / 64)) ||| b).toInt) (((n : Int) - 999) :: S) := by
  intro q hq
  by_cases e : q / 64 = n / 64
  · rw [e, zu_s, jL_of, ks_or hb (Nat.mod_lt _ (by omega)) _ (Nat.mod_lt _ (by omega))]
    have h1 := h q hq
    rw [e] at h1
    rw [h1]
    by_cases e2 : q = n
    · subst e2; simp
    · have e3 : q % 64 ≠ n % 64 := by omega
      have e4 : ¬ (q : Int) - 999 = (n : Int) - 999 := by omega
      simp [e3, e4]
  · rw [zu_k _ _ _ _ e, h q hq]
    have e4 : ¬ (q : Int) - 999 = (n : Int) - 999 := by
      intro z
      exact e (by rw [show q = n by omega])
    simp [e4]
theorem zKs.old {M : zM} {S : List Int} {k : Int} (h : zKs M S) (hk : k ∈ S) : zKs M (k :: S) := by
  intro q hq
  rw [h q hq]
  by_cases e : (q : Int) - 999 = k
  · simp [e, hk]
  · simp [e]
theorem zKs.keep {M M' : zM} {S : List Int} (h : zKs M S) (h0 : M' 94 = M 94) : zKs M' S := by
  unfold zKs; rw [h0]; exact h
/-- the outcome holds the records L, and their number -/
def zOut (M : zM) (L : List (Int × Int)) : Prop := zRow M 12 L ∧ M 89 1 = (L.length : Int)
/-- row 12 and the outcome alone have changed; of the outcome the number alone -/
def zFo (M M' : zM) : Prop := (∀ o, o ≠ 36 → o ≠ 37 → o ≠ 38 → o ≠ 89 → M' o = M o) ∧ ∀ k, k ≠ 1 → M' 89 k = M 89 k
theorem zFo.refl {M : zM} : zFo M M := ⟨fun _ _ _ _ _ => rfl, fun _ _ => rfl⟩
theorem zFo.trans {M M1 M2 : zM} (h1 : zFo M M1) (h2 : zFo M1 M2) : zFo M M2 := ⟨fun o a b c d => (h2.1 o a b c d).trans (h1.1 o a b c d), fun k a => (h2.2 k a).trans (h1.2 k a)⟩
theorem zRow.apo {M M' : zM} {q : Nat} {L : List (Int × Int)} (h : zRow M q L) (hf : ∀ o, o ≠ 36 → o ≠ 37 → o ≠ 38 → o ≠ 89 → M' o = M o) (hq : q ≠ 12) (hq2 : q < 20) : zRow M' q L :=
  h.keep (hf _ (by omega) (by omega) (by omega) (by omega)) (hf _ (by omega) (by omega) (by omega) (by omega)) (hf _ (by omega) (by omega) (by omega) (by omega))
/-- the mark of a pair -/
def pMk (a b : Int) : Int := (100 * a + b) % 10000
theorem pMk_in {a b : Int} (ha : 0 ≤ a) (hb : 0 ≤ b) : 0 ≤ pMk a b ∧ pMk a b ≤ 9999 := by unfold pMk; omega
/-- which part a key belongs to -/
def spN (f : Int) (d : Nat) (k : Int) : Int := (if k < 0 then -k else k) / f ^ d % f
def spL (f : Int) (d : Nat) (num : Int) (L : List (Int × Int)) : List (Int × Int) := L.filter (fun p => decide (spN f d p.1 = num))
theorem spL_take {f num : Int} {d i : Nat} {L : List (Int × Int)} (h : i < L.length) : spL f d num (L.take (i + 1)) = spL f d num (L.take i) ++ (if spN f d (kA L i) = num then [(kA L i, mA L i)] else []) := by
  rw [rec_take h]
  unfold spL
  rw [List.filter_append]
  congr 1
  by_cases e : spN f d (kA L i) = num <;> simp [e]
theorem spL_len {f num : Int} {d : Nat} {L : List (Int × Int)} : (spL f d num L).length ≤ L.length := List.length_filter_le _ _
theorem zIn.sub {L L2 : List (Int × Int)} (h : zIn L) (hs : ∀ p ∈ L2, p ∈ L) : zIn L2 := fun p hp => h p (hs p hp)
theorem zIn.spL {f num : Int} {d : Nat} {L : List (Int × Int)} (h : zIn L) : zIn (spL f d num L) := h.sub fun _ hp => (List.mem_filter.mp hp).1
end
section
/-! methods of the set of keys, of the outcome, of the splitting -/
set_option maxHeartbeats 4000000 in
set_option maxRecDepth 10000 in
theorem c_wordOf (l : Launch) (n : Nat) (hn : n < 1999) (M : zM)  : Mt l 1 yX1_wordOf cX1_wordOf 1 (some .int) (fun ad => [.int (jI (((n : Int) - 999)))]) M (fun _ vv M' => vv = some (.int (jI (((n / 64 : Nat) : Int)))) ∧ M' = M) := by
  refine Mt.of (fun ad => [some (.int (jI (((n : Int) - 999))))]) (by decide +kernel) (fun _ => rfl) (fun _ => rfl) (fun _ => Nat.le_of_ble_eq_true rfl) fun X hX C hR => ?_
  subst hX
  show G X M 0 [some (.int (jI (((n : Int) - 999))))] []
  refine g_iload_n C dX1_wordOf_0 rfl ?_
  refine g_sipush C dX1_wordOf_1 rfl ?_
  refine g_iadd C dX1_wordOf_4 ?_
  refine g_bipush C dX1_wordOf_5 rfl ?_
  refine g_ishr C dX1_wordOf_7 ?_
  refine g_iret C hR dX1_wordOf_8 ?_
  exact ⟨by rw [ks_word hn], rfl⟩
theorem gc_wordOf {X : z_X} {cc : ByteArray} {own : String} {ret : Option FieldType} {dC nC : Nat} {M : zM} {pc : Nat} {lv : List (Option Value)} {st : List Value} (C : Cx cc own ret dC nC X) (hdep : 2 ≤ dC) {idx : Nat} (hl0 : Cond.methodLink own idx yX1_wordOf ∈ tT) (hcat : (st.map fun v => v.category).sum ≤ 8) (hlen : lv.length = nC) (hdec : decode cc pc = .ok (.invokestatic idx, 3)) (n : Nat) (hn : n < 1999)  (kk : G X M (pc + 3) lv (.int (jI (((n / 64 : Nat) : Int))) :: st)) : G X M pc lv (.int (jI (((n : Int) - 999))) :: st) := by
  refine g_callS (k := 1) C (c_wordOf (zL X) n hn M ) mfX1_wordOf hl0 ⟨rfl, by decide +kernel, by decide +kernel, by decide +kernel⟩ ⟨hdep, by decide⟩ rfl rfl rfl hcat hlen hdec (fun v M' h => ?_)
  obtain ⟨rfl, rfl⟩ := h
  exact kk
set_option maxHeartbeats 4000000 in
set_option maxRecDepth 10000 in
theorem c_bitOf (l : Launch) (n : Nat) (hn : n < 1999) (M : zM)  : Mt l 1 yX1_bitOf cX1_bitOf 1 (some .long) (fun ad => [.int (jI (((n : Int) - 999)))]) M (fun _ vv M' => ∃ x : Int64, vv = some (.long x) ∧ (x.toBitVec = BitVec.twoPow 64 (n % 64) ∧ M' = M)) := by
  refine Mt.of (fun ad => [some (.int (jI (((n : Int) - 999))))]) (by decide +kernel) (fun _ => rfl) (fun _ => rfl) (fun _ => Nat.le_of_ble_eq_true rfl) fun X hX C hR => ?_
  subst hX
  show G X M 0 [some (.int (jI (((n : Int) - 999))))] []
  refine g_lconst C dX1_bitOf_0 ?_
  refine g_iload_n C dX1_bitOf_1 rfl ?_
  refine g_sipush C dX1_bitOf_2 rfl ?_
  refine g_iadd C dX1_bitOf_5 ?_
  refine g_bipush C dX1_bitOf_6 rfl ?_
  refine g_iand C dX1_bitOf_8 ?_
  show G X _ 9 _ _
  refine g_lshl C dX1_bitOf_9 ?_
  refine g_lret C hR dX1_bitOf_10 ?_
  exact ⟨_, rfl, ks_bitOf hn, rfl⟩
theorem gc_bitOf {X : z_X} {cc : ByteArray} {own : String} {ret : Option FieldType} {dC nC : Nat} {M : zM} {pc : Nat} {lv : List (Option Value)} {st : List Value} (C : Cx cc own ret dC nC X) (hdep : 2 ≤ dC) {idx : Nat} (hl0 : Cond.methodLink own idx yX1_bitOf ∈ tT) (hcat : (st.map fun v => v.category).sum ≤ 8) (hlen : lv.length = nC) (hdec : decode cc pc = .ok (.invokestatic idx, 3)) (n : Nat) (hn : n < 1999)  (kk : ∀ (x : Int64) (M' : zM), (x.toBitVec = BitVec.twoPow 64 (n % 64) ∧ M' = M) → G X M' (pc + 3) lv (.long x :: st)) : G X M pc lv (.int (jI (((n : Int) - 999))) :: st) := by
  refine g_callS (k := 1) C (c_bitOf (zL X) n hn M ) mfX1_bitOf hl0 ⟨rfl, by decide +kernel, by decide +kernel, by decide +kernel⟩ ⟨hdep, by decide⟩ rfl rfl rfl hcat hlen hdec (fun v M' h => ?_)
  obtain ⟨x, rfl, h⟩ := h
  exact kk x M' h
set_option maxHeartbeats 4000000 in
set_option maxRecDepth 10000 in
theorem c_Ks_clear (l : Launch)  (M : zM)  : Mt l 1 yX1_clear cX1_clear 2 none (fun ad => [.ref (ad (93))]) M (fun _ vv M' => vv = none ∧ (zKs M' [] ∧ ∀ o, o ≠ 94 → M' o = M o)) := by
  refine Mt.of (fun ad => [some (.ref (ad (93))), none]) (by decide +kernel) (fun _ => rfl) (fun _ => rfl) (fun _ => Nat.le_of_ble_eq_true rfl) fun X hX C hR => ?_
  subst hX
  show G X M 0 [some (.ref ((zA X) (93))), none] []
  have lp : ∀ (fk : Nat) (i : Nat) (N : zM), 40 - i < fk → i ≤ 32 → (∀ j, j < i → N 94 j = 0) → (∀ o, o ≠ 94 → N o = M o) → G X N 2 [some (.ref (zA X 93)), some (.int (jI (i : Int)))] [] := by
    intro fk
    induction fk with
    | zero => intro i N hk; exact absurd hk (Nat.not_lt_zero _)
    | succ fk ih =>
      intro i N hk hi hN hF
      refine g_iload_n C dX1_clear_2 rfl ?_
      refine g_aload_n C dX1_clear_3 rfl ?_
      refine gf_Kset_words C tw_208 dX1_clear_4 ?_
      refine gl_words C dX1_clear_7 ?_
      refine g_icmp_ge (tgt := 24) C dX1_clear_8 rfl (by omega) (by omega) (fun h8 => ?_) (fun h8 => ?_)
      · refine g_vret C hR dX1_clear_24 ?_
        refine ⟨rfl, fun n hn => ?_, hF⟩
        rw [hN (n / 64) (by omega), show (jL 0).toBitVec = 0#64 from rfl]
        simp
      · refine g_aload_n C dX1_clear_11 rfl ?_
        refine gf_Kset_words C tw_208 dX1_clear_12 ?_
        refine g_iload_n C dX1_clear_15 rfl ?_
        refine g_lconst C dX1_clear_16 ?_
        show G X _ 17 _ (.long (jL 0) :: _)
        refine g_last C (by omega) rfl dX1_clear_17 ?_
        refine g_iinc C dX1_clear_18 rfl ?_
        show G X _ 21 [_, _] _
        refine g_goto (tgt := 2) C dX1_clear_21 rfl ?_
        show G X _ 2 _ _
        exact ih (i + 1) _ (by omega) (by omega) (fun j hj => by
          by_cases e : j = i
          · subst e; exact zu_s _ _ _ _
          · rw [zu_k _ _ _ _ e]; exact hN j (by omega)) (fun o h => (zu_o _ _ _ _ h).trans (hF o h))
  refine g_iconst C dX1_clear_0 ?_
  refine g_istore_n C dX1_clear_1 (Nat.le_of_ble_eq_true rfl) ?_
  show G X _ 2 [_, _] _
  exact lp 100 0 M (by omega) (by omega) (fun j hj => absurd hj (Nat.not_lt_zero _)) (fun _ _ => rfl)
theorem gc_Ks_clear {X : z_X} {cc : ByteArray} {own : String} {ret : Option FieldType} {dC nC : Nat} {M : zM} {pc : Nat} {lv : List (Option Value)} {st : List Value} (C : Cx cc own ret dC nC X) (hdep : 2 ≤ dC) {idx : Nat} (hl0 : Cond.methodLink own idx yX1_clear ∈ tT) (hcat : (st.map fun v => v.category).sum ≤ 8) (hlen : lv.length = nC) (hdec : decode cc pc = .ok (.invokevirtual idx, 3))   (kk : ∀ M' : zM, (zKs M' [] ∧ ∀ o, o ≠ 94 → M' o = M o) → G X M' (pc + 3) lv st) : G X M pc lv (.ref (zA X (93)) :: st) := by
  refine g_callV (k := 0) (o := 93) C (c_Ks_clear (zL X)  M ) mfX1_clear hl0 ⟨rfl, by decide +kernel, by decide +kernel, by decide +kernel⟩ ⟨hdep, by decide⟩ (by omega) (fun _ _ _ _ => ze_kset) rfl rfl rfl rfl hcat hlen hdec (fun v M' h => ?_)
  obtain ⟨rfl, h⟩ := h
  exact kk M' h
set_option maxHeartbeats 4000000 in
set_option maxRecDepth 10000 in
theorem c_Ks_has (l : Launch) {S : List Int} (n : Nat) (hn : n < 1999) (M : zM) (hS : zKs M S) : Mt l 2 yX1_has cX1_has 3 (some .boolean) (fun ad => [.ref (ad (93)), .int (jI (((n : Int) - 999)))]) M (fun _ vv M' => vv = some (.int (jI (if (n : Int) - 999 ∈ S then 1 else 0))) ∧ M' = M) := by
  refine Mt.of (fun ad => [some (.ref (ad (93))), some (.int (jI (((n : Int) - 999)))), none]) (by decide +kernel) (fun _ => rfl) (fun _ => rfl) (fun _ => Nat.le_of_ble_eq_true rfl) fun X hX C hR => ?_
  subst hX
  show G X M 0 [some (.ref ((zA X) (93))), some (.int (jI (((n : Int) - 999)))), none] []
  refine g_iload_n C dX1_has_0 rfl ?_
  refine gc_wordOf C (by decide) tw_466 (Nat.le_of_ble_eq_true rfl) rfl dX1_has_1 n hn (?_)
  refine g_istore_n C dX1_has_4 (Nat.le_of_ble_eq_true rfl) ?_
  show G X _ 5 [_, _, _] _
  refine g_iload_n C dX1_has_5 rfl ?_
  refine g_if_lt (tgt := 38) C dX1_has_6 rfl (by omega) (fun h6 => ?_) (fun h6 => ?_)
  · omega
  · refine g_iload_n C dX1_has_9 rfl ?_
    refine g_aload_n C dX1_has_10 rfl ?_
    refine gf_Kset_words C tw_208 dX1_has_11 ?_
    refine gl_words C dX1_has_14 ?_
    refine g_icmp_ge (tgt := 38) C dX1_has_15 rfl (by omega) (by omega) (fun h15 => ?_) (fun h15 => ?_)
    · omega
    · refine g_aload_n C dX1_has_18 rfl ?_
      refine gf_Kset_words C tw_208 dX1_has_19 ?_
      refine g_iload_n C dX1_has_22 rfl ?_
      refine g_lald C (by omega) rfl dX1_has_23 ?_
      refine g_iload_n C dX1_has_24 rfl ?_
      refine gc_bitOf C (by decide) tw_469 (Nat.le_of_ble_eq_true rfl) rfl dX1_has_25 n hn (fun b M1 ⟨hb, hm⟩ => ?_)
      rw [hm]
      show G X _ 28 _ _
      refine g_land C dX1_has_28 ?_
      refine g_lconst C dX1_has_29 ?_
      have g := hS n hn
      have g2 := ks_and (x := jL (M 94 (n / 64))) (b := b) (Nat.mod_lt n (by omega)) hb
      refine g_lcmp C dX1_has_30 (fun h30 => ?_) (fun h30 z30 hz1 hz2 hz3 => ?_)
      · refine g_if_eq (tgt := 38) C dX1_has_31 rfl (by omega) (fun h31 => ?_) (fun h31 => ?_)
        · refine g_iconst C dX1_has_38 ?_
          refine g_zret C hR (by omega) dX1_has_39 ?_
          have e : ¬ (n : Int) - 999 ∈ S := by
            intro e
            rw [decide_eq_true e, g2.mp h30] at g; cases g
          exact ⟨by rw [if_neg e], rfl⟩
        · exact absurd rfl h31
      · refine g_if_eq (tgt := 38) C dX1_has_31 rfl (by omega) (fun h31 => ?_) (fun h31 => ?_)
        · exact absurd h31 hz3
        · refine g_iconst C dX1_has_34 ?_
          refine g_goto (tgt := 39) C dX1_has_35 rfl ?_
          show G X _ 39 _ _
          refine g_zret C hR (by omega) dX1_has_39 ?_
          have e : (n : Int) - 999 ∈ S := by
            by_cases e : (n : Int) - 999 ∈ S
            · exact e
            · rw [decide_eq_false e] at g; exact absurd (g2.mpr g) h30
          exact ⟨by rw [if_pos e], rfl⟩
theorem gc_Ks_has {X : z_X} {cc : ByteArray} {own : String} {ret : Option FieldType} {dC nC : Nat} {M : zM} {pc : Nat} {lv : List (Option Value)} {st : List Value} (C : Cx cc own ret dC nC X) (hdep : 3 ≤ dC) {idx : Nat} (hl0 : Cond.methodLink own idx yX1_has ∈ tT) (hcat : (st.map fun v => v.category).sum ≤ 8) (hlen : lv.length = nC) (hdec : decode cc pc = .ok (.invokevirtual idx, 3)) {S : List Int} (n : Nat) (hn : n < 1999) (hS : zKs M S) (kk : G X M (pc + 3) lv (.int (jI (if (n : Int) - 999 ∈ S then 1 else 0)) :: st)) : G X M pc lv (.int (jI (((n : Int) - 999))) :: .ref (zA X (93)) :: st) := by
  refine g_callV (k := 1) (o := 93) C (c_Ks_has (zL X) n hn M hS) mfX1_has hl0 ⟨rfl, by decide +kernel, by decide +kernel, by decide +kernel⟩ ⟨hdep, by decide⟩ (by omega) (fun _ _ _ _ => ze_kset) rfl rfl rfl rfl hcat hlen hdec (fun v M' h => ?_)
  obtain ⟨rfl, rfl⟩ := h
  exact kk
set_option maxHeartbeats 4000000 in
set_option maxRecDepth 10000 in
theorem c_Ks_add (l : Launch) {S : List Int} (n : Nat) (hn : n < 1999) (M : zM) (hS : zKs M S) : Mt l 2 yX1_add cX1_add 3 (some .boolean) (fun ad => [.ref (ad (93)), .int (jI (((n : Int) - 999)))]) M (fun _ vv M' => ∃ x : Int, vv = some (.int (jI x)) ∧ (x = (if (n : Int) - 999 ∈ S then 0 else 1) ∧ zKs M' (((n : Int) - 999) :: S) ∧ ∀ o, o ≠ 94 → M' o = M o)) := by
  refine Mt.of (fun ad => [some (.ref (ad (93))), some (.int (jI (((n : Int) - 999)))), none]) (by decide +kernel) (fun _ => rfl) (fun _ => rfl) (fun _ => Nat.le_of_ble_eq_true rfl) fun X hX C hR => ?_
  subst hX
  show G X M 0 [some (.ref ((zA X) (93))), some (.int (jI (((n : Int) - 999)))), none] []
  refine g_iload_n C dX1_add_0 rfl ?_
  refine gc_wordOf C (by decide) tw_466 (Nat.le_of_ble_eq_true rfl) rfl dX1_add_1 n hn (?_)
  refine g_istore_n C dX1_add_4 (Nat.le_of_ble_eq_true rfl) ?_
  show G X _ 5 [_, _, _] _
  refine g_iload_n C dX1_add_5 rfl ?_
  refine g_if_lt (tgt := 34) C dX1_add_6 rfl (by omega) (fun h6 => ?_) (fun h6 => ?_)
  · omega
  · refine g_iload_n C dX1_add_9 rfl ?_
    refine g_aload_n C dX1_add_10 rfl ?_
    refine gf_Kset_words C tw_208 dX1_add_11 ?_
    refine gl_words C dX1_add_14 ?_
    refine g_icmp_ge (tgt := 34) C dX1_add_15 rfl (by omega) (by omega) (fun h15 => ?_) (fun h15 => ?_)
    · omega
    · refine g_aload_n C dX1_add_18 rfl ?_
      refine gf_Kset_words C tw_208 dX1_add_19 ?_
      refine g_iload_n C dX1_add_22 rfl ?_
      refine g_lald C (by omega) rfl dX1_add_23 ?_
      refine g_iload_n C dX1_add_24 rfl ?_
      refine gc_bitOf C (by decide) tw_469 (Nat.le_of_ble_eq_true rfl) rfl dX1_add_25 n hn (fun b M1 ⟨hb, hm⟩ => ?_)
      rw [hm]
      show G X _ 28 _ _
      refine g_land C dX1_add_28 ?_
      refine g_lconst C dX1_add_29 ?_
      have g := hS n hn
      have g2 := ks_and (x := jL (M 94 (n / 64))) (b := b) (Nat.mod_lt n (by omega)) hb
      refine g_lcmp C dX1_add_30 (fun h30 => ?_) (fun h30 z30 hz1 hz2 hz3 => ?_)
      · refine g_if_eq (tgt := 36) C dX1_add_31 rfl (by omega) (fun h31 => ?_) (fun h31 => ?_)
        · refine g_aload_n C dX1_add_36 rfl ?_
          refine gf_Kset_words C tw_208 dX1_add_37 ?_
          refine g_iload_n C dX1_add_40 rfl ?_
          refine g_dup2 C dX1_add_41 rfl rfl ?_
          refine g_lald C (by omega) rfl dX1_add_42 ?_
          refine g_iload_n C dX1_add_43 rfl ?_
          show G X _ 44 _ _
          refine gc_bitOf C (by decide) tw_469 (Nat.le_of_ble_eq_true rfl) rfl dX1_add_44 n hn (fun b2 M1 ⟨hb2, hm⟩ => ?_)
          rw [hm]
          refine g_lor C dX1_add_47 ?_
          rw [← jL_of (jL (M 94 (n / 64)) ||| b2)]
          refine g_last C (by omega) rfl dX1_add_48 ?_
          refine g_iconst C dX1_add_49 ?_
          refine g_zret C hR (by omega) dX1_add_50 ?_
          have e : ¬ (n : Int) - 999 ∈ S := by
            intro e
            rw [decide_eq_true e, g2.mp h30] at g; cases g
          exact ⟨_, rfl, by rw [if_neg e], hS.put hn hb2, fun o h => zu_o _ _ _ _ h⟩
        · exact absurd rfl h31
      · refine g_if_eq (tgt := 36) C dX1_add_31 rfl (by omega) (fun h31 => ?_) (fun h31 => ?_)
        · exact absurd h31 hz3
        · refine g_iconst C dX1_add_34 ?_
          refine g_zret C hR (by omega) dX1_add_35 ?_
          have e : (n : Int) - 999 ∈ S := by
            by_cases e : (n : Int) - 999 ∈ S
            · exact e
            · rw [decide_eq_false e] at g; exact absurd (g2.mpr g) h30
          exact ⟨_, rfl, by rw [if_pos e], hS.old e, fun _ _ => rfl⟩
theorem gc_Ks_add {X : z_X} {cc : ByteArray} {own : String} {ret : Option FieldType} {dC nC : Nat} {M : zM} {pc : Nat} {lv : List (Option Value)} {st : List Value} (C : Cx cc own ret dC nC X) (hdep : 3 ≤ dC) {idx : Nat} (hl0 : Cond.methodLink own idx yX1_add ∈ tT) (hcat : (st.map fun v => v.category).sum ≤ 8) (hlen : lv.length = nC) (hdec : decode cc pc = .ok (.invokevirtual idx, 3)) {S : List Int} (n : Nat) (hn : n < 1999) (hS : zKs M S) (kk : ∀ (x : Int) (M' : zM), (x = (if (n : Int) - 999 ∈ S then 0 else 1) ∧ zKs M' (((n : Int) - 999) :: S) ∧ ∀ o, o ≠ 94 → M' o = M o) → G X M' (pc + 3) lv (.int (jI x) :: st)) : G X M pc lv (.int (jI (((n : Int) - 999))) :: .ref (zA X (93)) :: st) := by
  refine g_callV (k := 1) (o := 93) C (c_Ks_add (zL X) n hn M hS) mfX1_add hl0 ⟨rfl, by decide +kernel, by decide +kernel, by decide +kernel⟩ ⟨hdep, by decide⟩ (by omega) (fun _ _ _ _ => ze_kset) rfl rfl rfl rfl hcat hlen hdec (fun v M' h => ?_)
  obtain ⟨x, rfl, h⟩ := h
  exact kk x M' h
set_option maxHeartbeats 4000000 in
set_option maxRecDepth 10000 in
theorem c_Out_clear (l : Launch)  (M : zM)  : Mt l 2 yX3_clear cX3_clear 1 none (fun ad => [.ref (ad (89))]) M (fun _ vv M' => vv = none ∧ (zOut M' [] ∧ M' 89 2 = 0 ∧ M' 89 3 = 0 ∧ M' 89 4 = 0 ∧ ∀ o, o ≠ 36 → o ≠ 37 → o ≠ 38 → o ≠ 89 → M' o = M o)) := by
  refine Mt.of (fun ad => [some (.ref (ad (89)))]) (by decide +kernel) (fun _ => rfl) (fun _ => rfl) (fun _ => Nat.le_of_ble_eq_true rfl) fun X hX C hR => ?_
  subst hX
  show G X M 0 [some (.ref ((zA X) (89)))] []
  refine g_aload_n C dX3_clear_0 rfl ?_
  refine gf_Out_out C tw_155 dX3_clear_1 ?_
  refine gc_Row_empty C (by decide) tw_596 (Nat.le_of_ble_eq_true rfl) rfl dX3_clear_4 (r := 12) (by omega) (fun N ⟨hN, hF⟩ => ?_)
  refine g_aload_n C dX3_clear_7 rfl ?_
  refine g_iconst C dX3_clear_8 ?_
  refine gp_Out_made C tw_157 dX3_clear_9 ?_
  show G X _ 12 _ _
  refine g_aload_n C dX3_clear_12 rfl ?_
  refine g_iconst C dX3_clear_13 ?_
  refine gp_Out_readPages C tw_159 dX3_clear_14 ?_
  refine g_aload_n C dX3_clear_17 rfl ?_
  refine g_iconst C dX3_clear_18 ?_
  refine gp_Out_writtenPages C tw_161 dX3_clear_19 ?_
  show G X _ 22 _ _
  refine g_aload_n C dX3_clear_22 rfl ?_
  refine g_iconst C dX3_clear_23 ?_
  refine gp_Out_spiltPages C tw_163 dX3_clear_24 ?_
  refine g_vret C hR dX3_clear_27 ?_
  refine ⟨rfl, ⟨hN.keep ?_ ?_ ?_, ?_⟩, ?_, ?_, ?_, fun o h1 h2 h3 h4 => ?_⟩
  · simp [zu_o]
  · simp [zu_o]
  · simp [zu_o]
  · simp [zu_at]
  · simp [zu_at]
  · simp [zu_at]
  · simp [zu_at]
  · rw [zu_o _ _ _ _ h4, zu_o _ _ _ _ h4, zu_o _ _ _ _ h4, zu_o _ _ _ _ h4]
    exact hF o (by omega) (by omega) (by omega)
theorem gc_Out_clear {X : z_X} {cc : ByteArray} {own : String} {ret : Option FieldType} {dC nC : Nat} {M : zM} {pc : Nat} {lv : List (Option Value)} {st : List Value} (C : Cx cc own ret dC nC X) (hdep : 3 ≤ dC) {idx : Nat} (hl0 : Cond.methodLink own idx yX3_clear ∈ tT) (hcat : (st.map fun v => v.category).sum ≤ 8) (hlen : lv.length = nC) (hdec : decode cc pc = .ok (.invokevirtual idx, 3))   (kk : ∀ M' : zM, (zOut M' [] ∧ M' 89 2 = 0 ∧ M' 89 3 = 0 ∧ M' 89 4 = 0 ∧ ∀ o, o ≠ 36 → o ≠ 37 → o ≠ 38 → o ≠ 89 → M' o = M o) → G X M' (pc + 3) lv st) : G X M pc lv (.ref (zA X (89)) :: st) := by
  refine g_callV (k := 0) (o := 89) C (c_Out_clear (zL X)  M ) mfX3_clear hl0 ⟨rfl, by decide +kernel, by decide +kernel, by decide +kernel⟩ ⟨hdep, by decide⟩ (by omega) (fun _ _ _ _ => ze_out) rfl rfl rfl rfl hcat hlen hdec (fun v M' h => ?_)
  obtain ⟨rfl, h⟩ := h
  exact kk M' h
set_option maxHeartbeats 4000000 in
set_option maxRecDepth 10000 in
theorem c_Out_give (l : Launch) {L : List (Int × Int)} (k m : Int) (hs : L.length < 120) (M : zM) (hL : zOut M L) : Mt l 2 yX3_give cX3_give 3 none (fun ad => [.ref (ad (89)), .int (jI (k)), .int (jI (m))]) M (fun _ vv M' => vv = none ∧ (zOut M' (L ++ [(k, m)]) ∧ zFo M M')) := by
  refine Mt.of (fun ad => [some (.ref (ad (89))), some (.int (jI (k))), some (.int (jI (m)))]) (by decide +kernel) (fun _ => rfl) (fun _ => rfl) (fun _ => Nat.le_of_ble_eq_true rfl) fun X hX C hR => ?_
  subst hX
  show G X M 0 [some (.ref ((zA X) (89))), some (.int (jI (k))), some (.int (jI (m)))] []
  refine g_aload_n C dX3_give_0 rfl ?_
  refine g_dup C dX3_give_1 rfl ?_
  refine gf_Out_made C tw_157 dX3_give_2 ?_
  rw [hL.2]
  refine g_iconst C dX3_give_5 ?_
  refine g_iadd C dX3_give_6 ?_
  refine gp_Out_made C tw_157 dX3_give_7 ?_
  show G X _ 10 _ _
  refine g_aload_n C dX3_give_10 rfl ?_
  refine gf_Out_out C tw_155 dX3_give_11 ?_
  refine g_iload_n C dX3_give_14 rfl ?_
  refine g_iload_n C dX3_give_15 rfl ?_
  refine gc_Row_add C (by decide) tw_609 (Nat.le_of_ble_eq_true rfl) rfl dX3_give_16 (r := 12) (L := L) (by omega) k m hs (hL.1.keep (by rw [zu_o _ _ _ _ (by omega)]) (by rw [zu_o _ _ _ _ (by omega)]) (by rw [zu_o _ _ _ _ (by omega)])) (fun N ⟨hN, hF⟩ => ?_)
  refine g_vret C hR dX3_give_19 ?_
  refine ⟨rfl, ⟨hN, ?_⟩, fun o h1 h2 h3 h4 => ?_, fun k h => ?_⟩
  · rw [hF 89 (by omega) (by omega) (by omega), zu_s]; simp
  · rw [hF o (by omega) (by omega) (by omega), zu_o _ _ _ _ h4]
  · rw [hF 89 (by omega) (by omega) (by omega), zu_k _ _ _ _ h]
theorem gc_Out_give {X : z_X} {cc : ByteArray} {own : String} {ret : Option FieldType} {dC nC : Nat} {M : zM} {pc : Nat} {lv : List (Option Value)} {st : List Value} (C : Cx cc own ret dC nC X) (hdep : 3 ≤ dC) {idx : Nat} (hl0 : Cond.methodLink own idx yX3_give ∈ tT) (hcat : (st.map fun v => v.category).sum ≤ 8) (hlen : lv.length = nC) (hdec : decode cc pc = .ok (.invokevirtual idx, 3)) {L : List (Int × Int)} (k m : Int) (hs : L.length < 120) (hL : zOut M L) (kk : ∀ M' : zM, (zOut M' (L ++ [(k, m)]) ∧ zFo M M') → G X M' (pc + 3) lv st) : G X M pc lv (.int (jI (m)) :: .int (jI (k)) :: .ref (zA X (89)) :: st) := by
  refine g_callV (k := 2) (o := 89) C (c_Out_give (zL X) k m hs M hL) mfX3_give hl0 ⟨rfl, by decide +kernel, by decide +kernel, by decide +kernel⟩ ⟨hdep, by decide⟩ (by omega) (fun _ _ _ _ => ze_out) rfl rfl rfl rfl hcat hlen hdec (fun v M' h => ?_)
  obtain ⟨rfl, h⟩ := h
  exact kk M' h
set_option maxHeartbeats 4000000 in
set_option maxRecDepth 10000 in
theorem c_Out_givePair (l : Launch) {r q : Nat} (hr : r < 20) (hq : q < 20) {A B L : List (Int × Int)} (i j : Nat) (hi : i < A.length) (hj : j < B.length) (hs : L.length < 120) (hbA : zIn A) (hbB : zIn B) (M : zM) (hA : zRow M r A) (hB : zRow M q B) (hL : zOut M L) : Mt l 3 yX3_givePair cX3_givePair 5 none (fun ad => [.ref (ad (89)), .ref (ad (3 * r)), .int (jI ((i : Int))), .ref (ad (3 * q)), .int (jI ((j : Int)))]) M (fun _ vv M' => vv = none ∧ (zOut M' (L ++ [(kA A i, pMk (mA A i) (mA B j))]) ∧ zFo M M')) := by
  refine Mt.of (fun ad => [some (.ref (ad (89))), some (.ref (ad (3 * r))), some (.int (jI ((i : Int)))), some (.ref (ad (3 * q))), some (.int (jI ((j : Int))))]) (by decide +kernel) (fun _ => rfl) (fun _ => rfl) (fun _ => Nat.le_of_ble_eq_true rfl) fun X hX C hR => ?_
  subst hX
  show G X M 0 [some (.ref ((zA X) (89))), some (.ref ((zA X) (3 * r))), some (.int (jI ((i : Int)))), some (.ref ((zA X) (3 * q))), some (.int (jI ((j : Int))))] []
  refine g_aload_n C dX3_givePair_0 rfl ?_
  refine g_aload_n C dX3_givePair_1 rfl ?_
  refine g_iload_n C dX3_givePair_2 rfl ?_
  refine gc_Row_keyAt C (by decide) tw_740 (Nat.le_of_ble_eq_true rfl) rfl dX3_givePair_3 hr i hi hA (?_)
  refine g_bipush C dX3_givePair_6 rfl ?_
  refine g_aload_n C dX3_givePair_8 rfl ?_
  show G X _ 9 _ _
  refine g_iload_n C dX3_givePair_9 rfl ?_
  refine gc_Row_markAt C (by decide) tw_741 (Nat.le_of_ble_eq_true rfl) rfl dX3_givePair_10 hr i hi hA (?_)
  refine g_imul C dX3_givePair_13 ?_
  refine g_aload_n C dX3_givePair_14 rfl ?_
  refine g_iload C dX3_givePair_15 rfl ?_
  refine gc_Row_markAt C (by decide) tw_741 (Nat.le_of_ble_eq_true rfl) rfl dX3_givePair_17 hq j hj hB (?_)
  show G X _ 20 _ _
  refine g_iadd C dX3_givePair_20 ?_
  refine g_sipush C dX3_givePair_21 rfl ?_
  have b1 := hbA.at i
  have b2 := hbB.at j
  refine g_irem C dX3_givePair_24 (by omega) (by omega) ?_
  refine gc_Out_give C (by decide) tw_742 (Nat.le_of_ble_eq_true rfl) rfl dX3_givePair_25 _ _ hs hL (fun N ⟨hN, hF⟩ => ?_)
  refine g_vret C hR dX3_givePair_28 ?_
  exact ⟨rfl, hN, hF⟩
theorem gc_Out_givePair {X : z_X} {cc : ByteArray} {own : String} {ret : Option FieldType} {dC nC : Nat} {M : zM} {pc : Nat} {lv : List (Option Value)} {st : List Value} (C : Cx cc own ret dC nC X) (hdep : 4 ≤ dC) {idx : Nat} (hl0 : Cond.methodLink own idx yX3_givePair ∈ tT) (hcat : (st.map fun v => v.category).sum ≤ 8) (hlen : lv.length = nC) (hdec : decode cc pc = .ok (.invokevirtual idx, 3)) {r q : Nat} (hr : r < 20) (hq : q < 20) {A B L : List (Int × Int)} (i j : Nat) (hi : i < A.length) (hj : j < B.length) (hs : L.length < 120) (hbA : zIn A) (hbB : zIn B) (hA : zRow M r A) (hB : zRow M q B) (hL : zOut M L) (kk : ∀ M' : zM, (zOut M' (L ++ [(kA A i, pMk (mA A i) (mA B j))]) ∧ zFo M M') → G X M' (pc + 3) lv st) : G X M pc lv (.int (jI ((j : Int))) :: .ref (zA X (3 * q)) :: .int (jI ((i : Int))) :: .ref (zA X (3 * r)) :: .ref (zA X (89)) :: st) := by
  refine g_callV (k := 4) (o := 89) C (c_Out_givePair (zL X) hr hq i j hi hj hs hbA hbB M hA hB hL) mfX3_givePair hl0 ⟨rfl, by decide +kernel, by decide +kernel, by decide +kernel⟩ ⟨hdep, by decide⟩ (by omega) (fun _ _ _ _ => ze_out) rfl rfl rfl rfl hcat hlen hdec (fun v M' h => ?_)
  obtain ⟨rfl, h⟩ := h
  exact kk M' h
set_option maxHeartbeats 4000000 in
set_option maxRecDepth 10000 in
theorem c_Spl_fill (l : Launch) {r q : Nat} (hr : r < 20) (hq : q < 20) (hqr : q ≠ r) {L : List (Int × Int)} (f d : Nat) (num : Int) (hf : 2 ≤ f ∧ f ≤ 11) (hd : d < 3) (hnum : 0 ≤ num ∧ num ≤ 20) (hb : zIn L) (M : zM) (hm : M 90 1 = (f : Int) + 1) (hL : zRow M q L) : Mt l 2 yX6_fill cX6_fill 9 none (fun ad => [.ref (ad (90)), .ref (ad (3 * r)), .ref (ad (3 * q)), .int (jI ((d : Int))), .int (jI (num))]) M (fun _ vv M' => vv = none ∧ (zRow M' r (spL (f : Int) d num L) ∧ zFr M M' r)) := by
  refine Mt.of (fun ad => [some (.ref (ad (90))), some (.ref (ad (3 * r))), some (.ref (ad (3 * q))), some (.int (jI ((d : Int)))), some (.int (jI (num))), none, none, none, none]) (by decide +kernel) (fun _ => rfl) (fun _ => rfl) (fun _ => Nat.le_of_ble_eq_true rfl) fun X hX C hR => ?_
  subst hX
  show G X M 0 [some (.ref ((zA X) (90))), some (.ref ((zA X) (3 * r))), some (.ref ((zA X) (3 * q))), some (.int (jI ((d : Int)))), some (.int (jI (num))), none, none, none, none] []
  have hc2 := hL.2.1
  have hpw : 0 < (f : Int) ^ d ∧ (f : Int) ^ d ≤ 1331 := by
    rcases (show f = 2 ∨ f = 3 ∨ f = 4 ∨ f = 5 ∨ f = 6 ∨ f = 7 ∨ f = 8 ∨ f = 9 ∨ f = 10 ∨ f = 11 by omega) with rfl | rfl | rfl | rfl | rfl | rfl | rfl | rfl | rfl | rfl <;> rcases (show d = 0 ∨ d = 1 ∨ d = 2 by omega) with rfl | rfl | rfl <;> decide
  have lp2 : ∀ (fk : Nat) (i : Nat) (N : zM), 130 - i < fk → i ≤ L.length → zRow N r (spL (f : Int) d num (L.take i)) → zFr M N r → G X N 50 [some (.ref (zA X 90)), some (.ref (zA X (3 * r))), some (.ref (zA X (3 * q))), some (.int (jI (d : Int))), some (.int (jI num)), some (.int (jI (f : Int))), some (.int (jI ((f : Int) ^ d))), some (.int (jI (i : Int))), none] [] := by
    intro fk
    induction fk with
    | zero => intro i N hk; exact absurd hk (Nat.not_lt_zero _)
    | succ fk ih =>
      intro i N hk hi hN hF
      have hQ := hL.apart hF hqr
      have b1 := hb.at i
      refine g_iload C dX6_fill_50 rfl ?_
      refine g_aload_n C dX6_fill_52 rfl ?_
      refine gc_Row_count C (by decide) tw_774 (Nat.le_of_ble_eq_true rfl) rfl dX6_fill_53 hq hQ (?_)
      refine g_icmp_ge (tgt := 101) C dX6_fill_56 rfl (by omega) (by omega) (fun h56 => ?_) (fun h56 => ?_)
      · refine g_vret C hR dX6_fill_101 ?_
        refine ⟨rfl, ?_, hF⟩
        rw [show i = L.length by omega, List.take_length] at hN
        exact hN
      · refine g_aload_n C dX6_fill_59 rfl ?_
        refine g_iload C dX6_fill_60 rfl ?_
        refine gc_Row_keyAt C (by decide) tw_775 (Nat.le_of_ble_eq_true rfl) rfl dX6_fill_62 hq i (by omega) hQ (?_)
        refine g_istore C dX6_fill_65 (Nat.le_of_ble_eq_true rfl) ?_
        show G X _ 67 [_, _, _, _, _, _, _, _, _] _
        refine g_iload C dX6_fill_67 rfl ?_
        refine gc_abs C (by decide) tw_776 (Nat.le_of_ble_eq_true rfl) rfl dX6_fill_69 _ (by omega) (?_)
        generalize ha : (if kA L i < 0 then -kA L i else kA L i) = a
        have ha2 : 0 ≤ a ∧ a ≤ 999 := by rw [← ha]; by_cases z : kA L i < 0 <;> simp [z] <;> omega
        refine g_iload C dX6_fill_72 rfl ?_
        refine g_idiv C dX6_fill_74 (by omega) (by omega) ?_
        generalize hw : a / (f : Int) ^ d = w
        have hw2 : 0 ≤ w ∧ w ≤ 999 := by
          rw [← hw]
          exact ⟨Int.ediv_nonneg (by omega) (by omega), Int.le_trans (Int.ediv_le_self _ (by omega)) (by omega)⟩
        refine g_iload C dX6_fill_75 rfl ?_
        refine g_irem C dX6_fill_77 (by omega) (by omega) ?_
        show G X _ 78 _ _
        have hx1 := Int.emod_nonneg w (show (f : Int) ≠ 0 by omega)
        have hx2 := Int.emod_lt_of_pos w (show 0 < (f : Int) by omega)
        have hsp : spN (f : Int) d (kA L i) = w % (f : Int) := by unfold spN; rw [ha, hw]
        refine g_iload C dX6_fill_78 rfl ?_
        refine g_icmp_ne (tgt := 95) C dX6_fill_80 rfl (by omega) (by omega) (fun h80 => ?_) (fun h80 => ?_)
        · refine g_iinc C dX6_fill_95 rfl ?_
          show G X _ 98 [_, _, _, _, _, _, _, _, _] _
          refine g_goto (tgt := 50) C dX6_fill_98 rfl ?_
          show G X _ 50 _ _
          refine g_mask [true, true, true, true, true, true, true, true, false] rfl ?_
          show G X _ 50 [_, _, _, _, _, _, _, _, _] _
          exact ih (i + 1) _ (by omega) (by omega) (by rw [spL_take (by omega), if_neg (by rw [hsp]; assumption), List.append_nil]; exact hN) hF
        · refine g_aload_n C dX6_fill_83 rfl ?_
          refine g_iload C dX6_fill_84 rfl ?_
          refine g_aload_n C dX6_fill_86 rfl ?_
          refine g_iload C dX6_fill_87 rfl ?_
          refine gc_Row_markAt C (by decide) tw_779 (Nat.le_of_ble_eq_true rfl) rfl dX6_fill_89 hq i (by omega) hQ (?_)
          refine gc_Row_add C (by decide) tw_780 (Nat.le_of_ble_eq_true rfl) rfl dX6_fill_92 hr _ _ (Nat.lt_of_le_of_lt spL_len (by rw [List.length_take]; omega)) hN (fun N2 ⟨hN2, hF2⟩ => ?_)
          show G X _ 95 _ _
          refine g_iinc C dX6_fill_95 rfl ?_
          show G X _ 98 [_, _, _, _, _, _, _, _, _] _
          refine g_goto (tgt := 50) C dX6_fill_98 rfl ?_
          show G X _ 50 _ _
          refine g_mask [true, true, true, true, true, true, true, true, false] rfl ?_
          show G X _ 50 [_, _, _, _, _, _, _, _, _] _
          exact ih (i + 1) _ (by omega) (by omega) (by rw [spL_take (by omega), if_pos (by rw [hsp]; assumption)]; exact hN2) (hF.trans hF2)
  have hb43 : ∀ z : Option Value, G X M 43 [some (.ref (zA X 90)), some (.ref (zA X (3 * r))), some (.ref (zA X (3 * q))), some (.int (jI (d : Int))), some (.int (jI num)), some (.int (jI (f : Int))), some (.int (jI ((f : Int) ^ d))), z, none] [] := by
    intro z
    refine g_aload_n C dX6_fill_43 rfl ?_
    refine gc_Row_empty C (by decide) tw_773 (Nat.le_of_ble_eq_true rfl) rfl dX6_fill_44 hr (fun N ⟨hN, hF⟩ => ?_)
    refine g_iconst C dX6_fill_47 ?_
    refine g_istore C dX6_fill_48 (Nat.le_of_ble_eq_true rfl) ?_
    show G X _ 50 [_, _, _, _, _, _, _, _, _] _
    exact lp2 200 0 N (by omega) (by omega) hN hF
  have lp1 : ∀ (fk : Nat) (e : Nat), 10 - e < fk → e ≤ d → G X M 18 [some (.ref (zA X 90)), some (.ref (zA X (3 * r))), some (.ref (zA X (3 * q))), some (.int (jI (d : Int))), some (.int (jI num)), some (.int (jI (f : Int))), some (.int (jI ((f : Int) ^ e))), some (.int (jI (e : Int))), none] [] := by
    intro fk
    induction fk with
    | zero => intro e hk; exact absurd hk (Nat.not_lt_zero _)
    | succ fk ih =>
      intro e hk he
      refine g_iload C dX6_fill_18 rfl ?_
      refine g_iload_n C dX6_fill_20 rfl ?_
      refine g_icmp_ge (tgt := 43) C dX6_fill_21 rfl (by omega) (by omega) (fun h21 => ?_) (fun h21 => ?_)
      · obtain rfl : e = d := by omega
        exact hb43 _
      · refine g_iload C dX6_fill_24 rfl ?_
        refine g_iconst C dX6_fill_26 ?_
        refine g_icmp_ge (tgt := 43) C dX6_fill_27 rfl (by omega) (by omega) (fun h27 => ?_) (fun h27 => ?_)
        · omega
        · refine g_iload C dX6_fill_30 rfl ?_
          refine g_iload C dX6_fill_32 rfl ?_
          refine g_imul C dX6_fill_34 ?_
          refine g_istore C dX6_fill_35 (Nat.le_of_ble_eq_true rfl) ?_
          show G X _ 37 [_, _, _, _, _, _, _, _, _] _
          refine g_iinc C dX6_fill_37 rfl ?_
          show G X _ 40 [_, _, _, _, _, _, _, _, _] _
          refine g_goto (tgt := 18) C dX6_fill_40 rfl ?_
          show G X _ 18 _ _
          rw [show (f : Int) ^ e * (f : Int) = (f : Int) ^ (e + 1) from (Int.pow_succ _ _).symm]
          exact ih (e + 1) (by omega) (by omega)
  refine g_iconst C dX6_fill_0 ?_
  refine g_aload_n C dX6_fill_1 rfl ?_
  refine gf_Spl_memory C tw_186 dX6_fill_2 ?_
  rw [hm]
  refine g_iconst C dX6_fill_5 ?_
  refine g_isub C dX6_fill_6 ?_
  refine gc_max C (by decide) tw_772 (Nat.le_of_ble_eq_true rfl) rfl dX6_fill_7 _ _ (by omega) (by omega) (?_)
  rw [show (if (f : Int) + 1 - 1 ≤ 2 then (2 : Int) else (f : Int) + 1 - 1) = (f : Int) by by_cases z : (f : Int) + 1 - 1 ≤ 2 <;> simp [z] <;> omega]
  show G X _ 10 _ _
  refine g_istore C dX6_fill_10 (Nat.le_of_ble_eq_true rfl) ?_
  show G X _ 12 [_, _, _, _, _, _, _, _, _] _
  refine g_iconst C dX6_fill_12 ?_
  refine g_istore C dX6_fill_13 (Nat.le_of_ble_eq_true rfl) ?_
  show G X _ 15 [_, _, _, _, _, _, _, _, _] _
  refine g_iconst C dX6_fill_15 ?_
  refine g_istore C dX6_fill_16 (Nat.le_of_ble_eq_true rfl) ?_
  show G X _ 18 [_, _, _, _, _, _, _, _, _] _
  exact lp1 20 0 (by omega) (Nat.zero_le _)
theorem gc_Spl_fill {X : z_X} {cc : ByteArray} {own : String} {ret : Option FieldType} {dC nC : Nat} {M : zM} {pc : Nat} {lv : List (Option Value)} {st : List Value} (C : Cx cc own ret dC nC X) (hdep : 3 ≤ dC) {idx : Nat} (hl0 : Cond.methodLink own idx yX6_fill ∈ tT) (hcat : (st.map fun v => v.category).sum ≤ 8) (hlen : lv.length = nC) (hdec : decode cc pc = .ok (.invokevirtual idx, 3)) {r q : Nat} (hr : r < 20) (hq : q < 20) (hqr : q ≠ r) {L : List (Int × Int)} (f d : Nat) (num : Int) (hf : 2 ≤ f ∧ f ≤ 11) (hd : d < 3) (hnum : 0 ≤ num ∧ num ≤ 20) (hb : zIn L) (hm : M 90 1 = (f : Int) + 1) (hL : zRow M q L) (kk : ∀ M' : zM, (zRow M' r (spL (f : Int) d num L) ∧ zFr M M' r) → G X M' (pc + 3) lv st) : G X M pc lv (.int (jI (num)) :: .int (jI ((d : Int))) :: .ref (zA X (3 * q)) :: .ref (zA X (3 * r)) :: .ref (zA X (90)) :: st) := by
  refine g_callV (k := 4) (o := 90) C (c_Spl_fill (zL X) hr hq hqr f d num hf hd hnum hb M hm hL) mfX6_fill hl0 ⟨rfl, by decide +kernel, by decide +kernel, by decide +kernel⟩ ⟨hdep, by decide⟩ (by omega) (fun _ _ _ _ => ze_spl) rfl rfl rfl rfl hcat hlen hdec (fun v M' h => ?_)
  obtain ⟨rfl, h⟩ := h
  exact kk M' h
set_option maxHeartbeats 4000000 in
set_option maxRecDepth 10000 in
theorem c_Spl_fillOne (l : Launch) {q : Nat} (hq : q < 20) {L : List (Int × Int)} (f d : Nat) (num : Int) (hf : 2 ≤ f ∧ f ≤ 11) (hd : d < 3) (hqr : q ≠ 13 + d) (hnum : 0 ≤ num ∧ num ≤ 20) (hb : zIn L) (M : zM) (hm : M 90 1 = (f : Int) + 1) (hL : zRow M q L) : Mt l 3 yX6_fillOne cX6_fillOne 5 (some (.object "MoraineSort$Row")) (fun ad => [.ref (ad (90)), .ref (ad (3 * q)), .int (jI ((d : Int))), .int (jI (num))]) M (fun ad vv M' => vv = some (.ref (ad (3 * (13 + d)))) ∧ (zRow M' (13 + d) (spL (f : Int) d num L) ∧ zFr M M' (13 + d))) := by
  refine Mt.of (fun ad => [some (.ref (ad (90))), some (.ref (ad (3 * q))), some (.int (jI ((d : Int)))), some (.int (jI (num))), none]) (by decide +kernel) (fun _ => rfl) (fun _ => rfl) (fun _ => Nat.le_of_ble_eq_true rfl) fun X hX C hR => ?_
  subst hX
  show G X M 0 [some (.ref ((zA X) (90))), some (.ref ((zA X) (3 * q))), some (.int (jI ((d : Int)))), some (.int (jI (num))), none] []
  refine g_iload_n C dX6_fillOne_0 rfl ?_
  refine g_if_lt (tgt := 22) C dX6_fillOne_1 rfl (by omega) (fun h1 => ?_) (fun h1 => ?_)
  · omega
  · refine g_iload_n C dX6_fillOne_4 rfl ?_
    refine g_aload_n C dX6_fillOne_5 rfl ?_
    refine gf_Spl_ones C tw_188 dX6_fillOne_6 ?_
    refine gl_ones C dX6_fillOne_9 ?_
    refine g_icmp_ge (tgt := 22) C dX6_fillOne_10 rfl (by omega) (by omega) (fun h10 => ?_) (fun h10 => ?_)
    · omega
    · refine g_aload_n C dX6_fillOne_13 rfl ?_
      refine gf_Spl_ones C tw_188 dX6_fillOne_14 ?_
      refine g_iload_n C dX6_fillOne_17 rfl ?_
      refine ga_ones C _ (by omega) rfl dX6_fillOne_18 ?_
      refine g_goto (tgt := 26) C dX6_fillOne_19 rfl ?_
      show G X _ 26 _ _
      refine g_astore C dX6_fillOne_26 (Nat.le_of_ble_eq_true rfl) ?_
      show G X _ 28 [_, _, _, _, _] _
      refine g_aload_n C dX6_fillOne_28 rfl ?_
      refine g_aload C dX6_fillOne_29 rfl ?_
      refine g_aload_n C dX6_fillOne_31 rfl ?_
      refine g_iload_n C dX6_fillOne_32 rfl ?_
      refine g_iload_n C dX6_fillOne_33 rfl ?_
      refine gc_Spl_fill C (by decide) tw_768 (Nat.le_of_ble_eq_true rfl) rfl dX6_fillOne_34 (r := 13 + d) (by omega) hq hqr f d num hf hd hnum hb hm hL (fun N ⟨hN, hF⟩ => ?_)
      show G X _ 37 _ _
      refine g_aload C dX6_fillOne_37 rfl ?_
      refine g_aret C hR dX6_fillOne_39 ?_
      exact ⟨rfl, hN, hF⟩
theorem gc_Spl_fillOne {X : z_X} {cc : ByteArray} {own : String} {ret : Option FieldType} {dC nC : Nat} {M : zM} {pc : Nat} {lv : List (Option Value)} {st : List Value} (C : Cx cc own ret dC nC X) (hdep : 4 ≤ dC) {idx : Nat} (hl0 : Cond.methodLink own idx yX6_fillOne ∈ tT) (hcat : (st.map fun v => v.category).sum ≤ 8) (hlen : lv.length = nC) (hdec : decode cc pc = .ok (.invokevirtual idx, 3)) {q : Nat} (hq : q < 20) {L : List (Int × Int)} (f d : Nat) (num : Int) (hf : 2 ≤ f ∧ f ≤ 11) (hd : d < 3) (hqr : q ≠ 13 + d) (hnum : 0 ≤ num ∧ num ≤ 20) (hb : zIn L) (hm : M 90 1 = (f : Int) + 1) (hL : zRow M q L) (kk : ∀ M' : zM, (zRow M' (13 + d) (spL (f : Int) d num L) ∧ zFr M M' (13 + d)) → G X M' (pc + 3) lv (.ref (zA X (3 * (13 + d))) :: st)) : G X M pc lv (.int (jI (num)) :: .int (jI ((d : Int))) :: .ref (zA X (3 * q)) :: .ref (zA X (90)) :: st) := by
  refine g_callV (k := 3) (o := 90) C (c_Spl_fillOne (zL X) hq f d num hf hd hqr hnum hb M hm hL) mfX6_fillOne hl0 ⟨rfl, by decide +kernel, by decide +kernel, by decide +kernel⟩ ⟨hdep, by decide⟩ (by omega) (fun _ _ _ _ => ze_spl) rfl rfl rfl rfl hcat hlen hdec (fun v M' h => ?_)
  obtain ⟨rfl, h⟩ := h
  exact kk M' h
set_option maxHeartbeats 4000000 in
set_option maxRecDepth 10000 in
theorem c_Spl_fillOther (l : Launch) {q : Nat} (hq : q < 20) {L : List (Int × Int)} (f d : Nat) (num : Int) (hf : 2 ≤ f ∧ f ≤ 11) (hd : d < 3) (hqr : q ≠ 16 + d) (hnum : 0 ≤ num ∧ num ≤ 20) (hb : zIn L) (M : zM) (hm : M 90 1 = (f : Int) + 1) (hL : zRow M q L) : Mt l 3 yX6_fillOther cX6_fillOther 5 (some (.object "MoraineSort$Row")) (fun ad => [.ref (ad (90)), .ref (ad (3 * q)), .int (jI ((d : Int))), .int (jI (num))]) M (fun ad vv M' => vv = some (.ref (ad (3 * (16 + d)))) ∧ (zRow M' (16 + d) (spL (f : Int) d num L) ∧ zFr M M' (16 + d))) := by
  refine Mt.of (fun ad => [some (.ref (ad (90))), some (.ref (ad (3 * q))), some (.int (jI ((d : Int)))), some (.int (jI (num))), none]) (by decide +kernel) (fun _ => rfl) (fun _ => rfl) (fun _ => Nat.le_of_ble_eq_true rfl) fun X hX C hR => ?_
  subst hX
  show G X M 0 [some (.ref ((zA X) (90))), some (.ref ((zA X) (3 * q))), some (.int (jI ((d : Int)))), some (.int (jI (num))), none] []
  refine g_iload_n C dX6_fillOther_0 rfl ?_
  refine g_if_lt (tgt := 22) C dX6_fillOther_1 rfl (by omega) (fun h1 => ?_) (fun h1 => ?_)
  · omega
  · refine g_iload_n C dX6_fillOther_4 rfl ?_
    refine g_aload_n C dX6_fillOther_5 rfl ?_
    refine gf_Spl_others C tw_189 dX6_fillOther_6 ?_
    refine gl_others C dX6_fillOther_9 ?_
    refine g_icmp_ge (tgt := 22) C dX6_fillOther_10 rfl (by omega) (by omega) (fun h10 => ?_) (fun h10 => ?_)
    · omega
    · refine g_aload_n C dX6_fillOther_13 rfl ?_
      refine gf_Spl_others C tw_189 dX6_fillOther_14 ?_
      refine g_iload_n C dX6_fillOther_17 rfl ?_
      refine ga_others C _ (by omega) rfl dX6_fillOther_18 ?_
      refine g_goto (tgt := 26) C dX6_fillOther_19 rfl ?_
      show G X _ 26 _ _
      refine g_astore C dX6_fillOther_26 (Nat.le_of_ble_eq_true rfl) ?_
      show G X _ 28 [_, _, _, _, _] _
      refine g_aload_n C dX6_fillOther_28 rfl ?_
      refine g_aload C dX6_fillOther_29 rfl ?_
      refine g_aload_n C dX6_fillOther_31 rfl ?_
      refine g_iload_n C dX6_fillOther_32 rfl ?_
      refine g_iload_n C dX6_fillOther_33 rfl ?_
      refine gc_Spl_fill C (by decide) tw_768 (Nat.le_of_ble_eq_true rfl) rfl dX6_fillOther_34 (r := 16 + d) (by omega) hq hqr f d num hf hd hnum hb hm hL (fun N ⟨hN, hF⟩ => ?_)
      show G X _ 37 _ _
      refine g_aload C dX6_fillOther_37 rfl ?_
      refine g_aret C hR dX6_fillOther_39 ?_
      exact ⟨rfl, hN, hF⟩
theorem gc_Spl_fillOther {X : z_X} {cc : ByteArray} {own : String} {ret : Option FieldType} {dC nC : Nat} {M : zM} {pc : Nat} {lv : List (Option Value)} {st : List Value} (C : Cx cc own ret dC nC X) (hdep : 4 ≤ dC) {idx : Nat} (hl0 : Cond.methodLink own idx yX6_fillOther ∈ tT) (hcat : (st.map fun v => v.category).sum ≤ 8) (hlen : lv.length = nC) (hdec : decode cc pc = .ok (.invokevirtual idx, 3)) {q : Nat} (hq : q < 20) {L : List (Int × Int)} (f d : Nat) (num : Int) (hf : 2 ≤ f ∧ f ≤ 11) (hd : d < 3) (hqr : q ≠ 16 + d) (hnum : 0 ≤ num ∧ num ≤ 20) (hb : zIn L) (hm : M 90 1 = (f : Int) + 1) (hL : zRow M q L) (kk : ∀ M' : zM, (zRow M' (16 + d) (spL (f : Int) d num L) ∧ zFr M M' (16 + d)) → G X M' (pc + 3) lv (.ref (zA X (3 * (16 + d))) :: st)) : G X M pc lv (.int (jI (num)) :: .int (jI ((d : Int))) :: .ref (zA X (3 * q)) :: .ref (zA X (90)) :: st) := by
  refine g_callV (k := 3) (o := 90) C (c_Spl_fillOther (zL X) hq f d num hf hd hqr hnum hb M hm hL) mfX6_fillOther hl0 ⟨rfl, by decide +kernel, by decide +kernel, by decide +kernel⟩ ⟨hdep, by decide⟩ (by omega) (fun _ _ _ _ => ze_spl) rfl rfl rfl rfl hcat hlen hdec (fun v M' h => ?_)
  obtain ⟨rfl, h⟩ := h
  exact kk M' h
end
section
/-! runs and merges as functions of lists -/
def zV (L : List Int) (n : Int) : Prop := (∀ v ∈ L, 0 ≤ v) ∧ L.sum = n
theorem sum_nn : ∀ {L : List Int}, (∀ v ∈ L, 0 ≤ v) → 0 ≤ L.sum
  | [], _ => by simp
  | a :: t, h => by
    have h1 := h a List.mem_cons_self
    have h2 := sum_nn (L := t) (fun v hv => h v (List.mem_cons_of_mem _ hv))
    rw [List.sum_cons]; omega
theorem sum_mem_le : ∀ {L : List Int} {v : Int}, (∀ w ∈ L, 0 ≤ w) → v ∈ L → v ≤ L.sum
  | a :: t, v, h, hv => by
    have h1 := h a List.mem_cons_self
    have h3 : ∀ w ∈ t, 0 ≤ w := fun w hw => h w (List.mem_cons_of_mem _ hw)
    have h2 := sum_nn h3
    rw [List.sum_cons]
    rcases List.mem_cons.mp hv with rfl | hv
    · omega
    · have := sum_mem_le h3 hv
      omega
theorem zV.at {L : List Int} {n : Int} (h : zV L n) (hn : 0 ≤ n) (i : Nat) : 0 ≤ nA L i ∧ nA L i ≤ n := by
  unfold nA
  by_cases hi : i < L.length
  · rw [show L.getD i 0 = L[i] by simp [List.getD, hi]]
    have := sum_mem_le h.1 (List.getElem_mem hi)
    rw [h.2] at this
    exact ⟨h.1 _ (List.getElem_mem hi), this⟩
  · rw [show L.getD i 0 = 0 by simp [List.getD, List.getElem?_eq_none (Nat.not_lt.mp hi)]]
    omega
/-- the sum of a stretch -/
def sm (L : List Int) (a b : Nat) : Int := ((L.drop a).take (b - a)).sum
theorem sm_0 {L : List Int} {a : Nat} : sm L a a = 0 := by simp [sm]
theorem sm_1 {L : List Int} {a b : Nat} (h1 : a ≤ b) (h2 : b < L.length) : sm L a (b + 1) = sm L a b + nA L b := by
  unfold sm
  rw [show b + 1 - a = (b - a) + 1 by omega, List.take_succ, List.getElem?_drop, show a + (b - a) = b by omega, List.getElem?_eq_getElem h2, nA_get h2]
  simp
theorem sum_app (A B : List Int) : (A ++ B).sum = A.sum + B.sum := by simp
theorem sm_in {L : List Int} {n : Int} (h : zV L n) (a b : Nat) : 0 ≤ sm L a b ∧ sm L a b ≤ n := by
  obtain ⟨h1, h2⟩ := h
  have e : L = L.take a ++ ((L.drop a).take (b - a) ++ (L.drop a).drop (b - a)) := by rw [List.take_append_drop, List.take_append_drop]
  have g1 : 0 ≤ (L.take a).sum := sum_nn fun v hv => h1 v (List.mem_of_mem_take hv)
  have g2 : 0 ≤ ((L.drop a).take (b - a)).sum := sum_nn fun v hv => h1 v (List.mem_of_mem_drop (List.mem_of_mem_take hv))
  have g3 : 0 ≤ ((L.drop a).drop (b - a)).sum := sum_nn fun v hv => h1 v (List.mem_of_mem_drop (List.mem_of_mem_drop hv))
  have g4 := congrArg List.sum e
  rw [sum_app, sum_app, h2] at g4
  unfold sm
  omega
abbrev zZ : Type := List Int × Int × Int × List Int × List Int
/-- a chunk of runs: one merge, if there is more than one -/
def mlC (pg : Int) (c : List Int) (z : zZ) : zZ :=
  if 1 < c.length then (z.1 ++ [c.sum], z.2.1 + sm (c.map (fun a => pgs a pg)) 0 c.length, z.2.2.1 + pgs c.sum pg, z.2.2.2.1 ++ [(c.length : Int)], z.2.2.2.2 ++ [c.sum])
  else (z.1 ++ [c.sum], z.2)
def mlS (pg : Int) (fan : Nat) : Nat → List Int → zZ → zZ
  | 0, _, z => z
  | f + 1, L, z => if L.length = 0 then z else mlS pg fan f (L.drop fan) (mlC pg (L.take fan) z)
theorem mlS_nil (pg : Int) (fan f : Nat) (z : zZ) : mlS pg fan f [] z = z := by
  cases f <;> simp [mlS]
theorem mlS_cons {pg : Int} {fan f : Nat} {L : List Int} {z : zZ} (h : 0 < L.length) : mlS pg fan (f + 1) L z = mlS pg fan f (L.drop fan) (mlC pg (L.take fan) z) := by
  rw [mlS, if_neg (by omega)]
def lvS (pg : Int) (fan : Nat) : Nat → zZ → zZ
  | 0, z => z
  | f + 1, z => if z.1.length ≤ 1 then z else lvS pg fan f (mlS pg fan z.1.length z.1 ([], z.2))
/-- the least ones taken -/
def tkS (pg : Int) : Nat → (List Int × Int × Int) → (List Int × Int × Int)
  | 0, w => w
  | k + 1, w => tkS pg k (w.1.eraseIdx (lpF w.1 w.1.length), w.2.1 + pgs (nA w.1 (lpF w.1 w.1.length)) pg, w.2.2 + nA w.1 (lpF w.1 w.1.length))
def lsS (pg : Int) (k : Nat) (z : zZ) : zZ :=
  ((tkS pg k (z.1, z.2.1, 0)).1 ++ [(tkS pg k (z.1, z.2.1, 0)).2.2], (tkS pg k (z.1, z.2.1, 0)).2.1, z.2.2.1 + pgs (tkS pg k (z.1, z.2.1, 0)).2.2 pg, z.2.2.2.1 ++ [(k : Int)], z.2.2.2.2 ++ [(tkS pg k (z.1, z.2.1, 0)).2.2])
def leS (pg : Int) (fan : Nat) : Nat → Nat → zZ → zZ
  | 0, _, z => z
  | f + 1, k, z => if z.1.length ≤ 1 then z else leS pg fan f fan (lsS pg k z)
/-- runs that are loaded -/
def rlS (step : Nat) : Nat → Nat → List Int → List Int
  | 0, _, acc => acc
  | f + 1, rem, acc => if rem = 0 then acc else rlS step f (rem - step) (acc ++ [((min step rem : Nat) : Int)])
/-- the weight of a record -/
def wt (L : List (Int × Int)) (i : Nat) : Int := (kA L i + 999) * 120 + (i : Int)
theorem wt_in {L : List (Int × Int)} {i : Nat} (h : zIn L) (hi : i < 120) : 0 ≤ wt L i ∧ wt L i < 239880 := by
  have := h.at i
  unfold wt
  omega
/-- the first k weights, sorted -/
def ini (L : List (Int × Int)) : Nat → List Int
  | 0 => []
  | k + 1 => insS (wt L k) (ini L k)
theorem ini_len (L : List (Int × Int)) : ∀ k, (ini L k).length = k
  | 0 => rfl
  | k + 1 => by rw [ini, insS_len, ini_len L k]
abbrev zR : Type := List Int × Int × Int × Nat × List Int
/-- one record given: what is held, the run, its size, how many are read, the runs that are ended -/
def rpT (L : List (Int × Int)) (s : zR) : zR := match s with
  | ([], run, size, filled, acc) => ([], run, size, filled, acc)
  | (a :: T, run, size, filled, acc) =>
    if run < a / 239880 then
      (if filled < L.length then (insS ((if wt L filled < a % 239880 then run + 1 + 1 else run + 1) * 239880 + wt L filled) T, run + 1, 0 + 1, filled + 1, acc ++ [size]) else (T, run + 1, 0 + 1, filled, acc ++ [size]))
    else
      (if filled < L.length then (insS ((if wt L filled < a % 239880 then run + 1 else run) * 239880 + wt L filled) T, run, size + 1, filled + 1, acc) else (T, run, size + 1, filled, acc))
def rpS (L : List (Int × Int)) : Nat → zR → List Int
  | 0, s => if 0 < s.2.2.1 then s.2.2.2.2 ++ [s.2.2.1] else s.2.2.2.2
  | k + 1, s => rpS L k (rpT L s)
def rpR (L : List (Int × Int)) (room : Nat) : List Int := rpS L L.length (ini L (min room L.length), 0, 0, min room L.length, [])
/-- the runs of a sort -/
def mkR (L : List (Int × Int)) (rep : Bool) (room : Nat) : List Int := if rep then rpR L room else rlS (max 1 room) L.length L.length []
def mkK (n fan : Nat) : Nat := ((((n : Int) - 2) % (if (fan : Int) - 1 ≤ 1 then 1 else (fan : Int) - 1)) + 2).toNat
/-- runs and merges of a sort, and their costs -/
def mkZ (L : List (Int × Int)) (rep least : Bool) (pg mem : Nat) : zZ :=
  let rs := mkR L rep (mem * pg)
  let z0 : zZ := (rs, pgs (L.length : Int) (pg : Int), sm (rs.map (fun a => pgs a (pg : Int))) 0 rs.length, [], [])
  if least then leS (pg : Int) (mem - 1) 120 (mkK rs.length (mem - 1)) z0 else lvS (pg : Int) (mem - 1) 120 z0
/-! their bounds -/
theorem sm_all {L : List Int} : sm L 0 L.length = L.sum := by simp [sm]
theorem mem_drop_take {L : List Int} {a : Nat} {v : Int} (h : v ∈ L.take a) : v ∈ L := List.mem_of_mem_take h
theorem mlC_row (pg : Int) (c : List Int) (z : zZ) : (mlC pg c z).1 = z.1 ++ [c.sum] := by
  unfold mlC; by_cases h : 1 < c.length <;> simp [h]
/-- what a level keeps: the sum; the new row is no longer than the old one -/
theorem mlS_keep (pg : Int) (fan : Nat) (hf : 1 ≤ fan) : ∀ (f : Nat) (L : List Int) (z : zZ), L.length ≤ f → (∀ v ∈ L, 0 ≤ v) → (∀ v ∈ z.1, 0 ≤ v) →
    (∀ v ∈ (mlS pg fan f L z).1, 0 ≤ v) ∧ (mlS pg fan f L z).1.sum = z.1.sum + L.sum ∧ (mlS pg fan f L z).1.length ≤ z.1.length + L.length ∧
    (mlS pg fan f L z).2.2.2.1.length + (mlS pg fan f L z).1.length ≤ z.2.2.2.1.length + z.1.length + L.length ∧ ((mlS pg fan f L z).2.2.2.1.length = (mlS pg fan f L z).2.2.2.2.length ↔ z.2.2.2.1.length = z.2.2.2.2.length)
  | 0, L, z, h1, h2, h3 => by
    have : L = [] := List.length_eq_zero_iff.mp (by omega)
    subst this
    simp [mlS]; exact h3
  | f + 1, L, z, h1, h2, h3 => by
    by_cases h0 : L.length = 0
    · have : L = [] := List.length_eq_zero_iff.mp h0
      subst this
      simp [mlS]; exact h3
    · rw [mlS_cons (by omega)]
      have hz : ∀ v ∈ (mlC pg (L.take fan) z).1, 0 ≤ v := by
        rw [mlC_row]
        intro v hv
        rcases List.mem_append.mp hv with q | q
        · exact h3 v q
        · rw [List.mem_singleton.mp q]; exact sum_nn fun w hw => h2 w (List.mem_of_mem_take hw)
      obtain ⟨i1, i2, i3, i4, i5⟩ := mlS_keep pg fan hf f (L.drop fan) (mlC pg (L.take fan) z) (by rw [List.length_drop]; omega) (fun v hv => h2 v (List.mem_of_mem_drop hv)) hz
      have hs : L.sum = (L.take fan).sum + (L.drop fan).sum := by rw [← sum_app, List.take_append_drop]
      have hl : (mlC pg (L.take fan) z).1.length = z.1.length + 1 := by rw [mlC_row]; simp
      have hd : (L.drop fan).length = L.length - fan := List.length_drop
      have ht : (L.take fan).length = min fan L.length := List.length_take
      have hm : (mlC pg (L.take fan) z).2.2.2.1.length + 1 + (L.length - fan) ≤ z.2.2.2.1.length + L.length := by
        unfold mlC
        by_cases q : 1 < (L.take fan).length
        · rw [if_pos q]; simp; omega
        · rw [if_neg q]; simp; omega
      have hb : (mlC pg (L.take fan) z).2.2.2.1.length = (mlC pg (L.take fan) z).2.2.2.2.length ↔ z.2.2.2.1.length = z.2.2.2.2.length := by
        unfold mlC
        by_cases q : 1 < (L.take fan).length
        · rw [if_pos q]; simp
        · rw [if_neg q]
      refine ⟨i1, ?_, by omega, by omega, i5.trans hb⟩
      rw [i2, mlC_row, sum_app, hs]; simp; omega
theorem erase_sum {L : List Int} : ∀ {q : Nat}, q < L.length → (L.eraseIdx q).sum + nA L q = L.sum := by
  induction L with
  | nil => intro q h; simp at h
  | cons a t ih =>
    intro q h
    cases q with
    | zero => simp [nA]; omega
    | succ q =>
      have := ih (q := q) (by simpa using h)
      simp [nA] at this ⊢
      omega
theorem mem_erase {L : List Int} {q : Nat} {v : Int} (h : v ∈ L.eraseIdx q) : v ∈ L := List.mem_of_mem_eraseIdx h
theorem tkS_keep (pg : Int) : ∀ (k : Nat) (w : List Int × Int × Int), k ≤ w.1.length → (∀ v ∈ w.1, 0 ≤ v) → 0 ≤ w.2.2 →
    (∀ v ∈ (tkS pg k w).1, 0 ≤ v) ∧ (tkS pg k w).1.sum + (tkS pg k w).2.2 = w.1.sum + w.2.2 ∧ (tkS pg k w).1.length = w.1.length - k ∧ 0 ≤ (tkS pg k w).2.2
  | 0, w, h1, h2, h3 => ⟨h2, rfl, rfl, h3⟩
  | k + 1, w, h1, h2, h3 => by
    have hq : lpF w.1 w.1.length < w.1.length := lpF_lt _ _ (by omega)
    have h4 : 0 ≤ nA w.1 (lpF w.1 w.1.length) := by rw [nA_get hq]; exact h2 _ (List.getElem_mem hq)
    have hl : (w.1.eraseIdx (lpF w.1 w.1.length)).length = w.1.length - 1 := List.length_eraseIdx_of_lt hq
    obtain ⟨i1, i2, i3, i4⟩ := tkS_keep pg k (w.1.eraseIdx (lpF w.1 w.1.length), w.2.1 + pgs (nA w.1 (lpF w.1 w.1.length)) pg, w.2.2 + nA w.1 (lpF w.1 w.1.length)) (by show k ≤ (w.1.eraseIdx _).length; omega) (fun v hv => h2 v (mem_erase hv)) (by show 0 ≤ w.2.2 + _; omega)
    have := erase_sum hq
    refine ⟨i1, ?_, ?_, i4⟩
    · rw [tkS, i2]; show (w.1.eraseIdx _).sum + (w.2.2 + _) = _; omega
    · rw [tkS, i3]; show (w.1.eraseIdx _).length - k = _; omega
/-- what a merge of the least keeps -/
theorem lsS_keep {pg : Int} {k : Nat} {z : zZ} (h1 : k ≤ z.1.length) (h2 : ∀ v ∈ z.1, 0 ≤ v) : (∀ v ∈ (lsS pg k z).1, 0 ≤ v) ∧ (lsS pg k z).1.sum = z.1.sum ∧ (lsS pg k z).1.length = z.1.length - k + 1 := by
  obtain ⟨i1, i2, i3, i4⟩ := tkS_keep pg k (z.1, z.2.1, 0) h1 h2 (Int.le_refl 0)
  refine ⟨fun v hv => ?_, ?_, ?_⟩
  · rcases List.mem_append.mp hv with q | q
    · exact i1 v q
    · rw [List.mem_singleton.mp q]; exact i4
  · show ((tkS pg k (z.1, z.2.1, 0)).1 ++ [_]).sum = _
    rw [sum_app]; simp at i2 ⊢; omega
  · show ((tkS pg k (z.1, z.2.1, 0)).1 ++ [_]).length = _
    rw [List.length_append, i3]; rfl
/-- runs of a sort: they have all records, each one has some, and all but the last as many as there is room for -/
def rsOK (rs : List Int) (n : Nat) (room : Int) : Prop := rs.sum = (n : Int) ∧ ∀ k, k < rs.length → 1 ≤ nA rs k ∧ (k + 1 < rs.length → room ≤ nA rs k)
theorem nA_mem {L : List Int} {k : Nat} (h : k < L.length) : nA L k ∈ L := by rw [nA_get h]; exact List.getElem_mem h
theorem rsOK_app {acc : List Int} {v : Int} {n : Nat} {room : Int} (hr : 1 ≤ room) (h : ∀ w ∈ acc, room ≤ w) (hv : 1 ≤ v) (hs : acc.sum + v = (n : Int)) : rsOK (acc ++ [v]) n room := by
  refine ⟨by rw [sum_app]; simpa using hs, fun k hk => ?_⟩
  simp at hk
  by_cases e : k < acc.length
  · rw [nA_app_l e]
    have := h _ (nA_mem e)
    exact ⟨by omega, fun _ => this⟩
  · have : k = acc.length := by omega
    subst this
    rw [nA_app_n]
    exact ⟨hv, fun q => by simp at q⟩
theorem rsOK_acc {acc : List Int} {n : Nat} {room : Int} (hr : 1 ≤ room) (h : ∀ w ∈ acc, room ≤ w) (hs : acc.sum = (n : Int)) : rsOK acc n room :=
  ⟨hs, fun k hk => by have := h _ (nA_mem hk); exact ⟨by omega, fun _ => this⟩⟩
theorem rsOK.pos {rs : List Int} {n : Nat} {room : Int} (h : rsOK rs n room) : ∀ v ∈ rs, 1 ≤ v := fun v hv => by
  obtain ⟨k, hk, e⟩ := List.getElem_of_mem hv
  rw [← e, ← nA_get hk]
  exact (h.2 k hk).1
theorem len_le_sum : ∀ {L : List Int}, (∀ v ∈ L, 1 ≤ v) → (L.length : Int) ≤ L.sum
  | [], _ => by simp
  | a :: t, h => by
    have h1 := h a List.mem_cons_self
    have h2 := len_le_sum (L := t) (fun v hv => h v (List.mem_cons_of_mem _ hv))
    rw [List.sum_cons, List.length_cons]; omega
theorem rsOK.len {rs : List Int} {n : Nat} {room : Int} (h : rsOK rs n room) : rs.length ≤ n := by
  have := len_le_sum h.pos
  rw [h.1] at this
  omega
theorem rsOK.zv {rs : List Int} {n : Nat} {room : Int} (h : rsOK rs n room) : zV rs (n : Int) := ⟨fun v hv => by have := h.pos v hv; omega, h.1⟩
theorem rlS_ok (step n : Nat) (hs : 1 ≤ step) : ∀ (f rem : Nat) (acc : List Int), rem ≤ f → (∀ v ∈ acc, (step : Int) ≤ v) → acc.sum + (rem : Int) = (n : Int) → rsOK (rlS step f rem acc) n step
  | 0, rem, acc, h1, h2, h3 => by
    have : rem = 0 := by omega
    subst this
    rw [rlS]
    exact rsOK_acc (by omega) h2 (by simpa using h3)
  | f + 1, rem, acc, h1, h2, h3 => by
    by_cases h0 : rem = 0
    · subst h0
      rw [rlS, if_pos rfl]
      exact rsOK_acc (by omega) h2 (by simpa using h3)
    · rw [rlS, if_neg h0]
      by_cases h4 : rem ≤ step
      · rw [show rem - step = 0 by omega, show min step rem = rem by omega]
        have e : rlS step f 0 (acc ++ [(rem : Int)]) = acc ++ [(rem : Int)] := by cases f <;> simp [rlS]
        rw [e]
        exact rsOK_app (by omega) h2 (by omega) h3
      · rw [show min step rem = step by omega]
        refine rlS_ok step n hs f (rem - step) _ (by omega) (fun v hv => ?_) (by rw [sum_app]; simp; omega)
        rcases List.mem_append.mp hv with q | q
        · exact h2 v q
        · rw [List.mem_singleton.mp q]; exact Int.le_refl _
theorem rlS_acc_len (step : Nat) (hs : 1 ≤ step) : ∀ (f rem : Nat) (acc : List Int), acc.length ≤ (rlS step f rem acc).length
  | 0, _, _ => Nat.le_refl _
  | f + 1, rem, acc => by
    rw [rlS]
    by_cases h0 : rem = 0
    · rw [if_pos h0]; exact Nat.le_refl _
    · rw [if_neg h0]
      have := rlS_acc_len step hs f (rem - step) (acc ++ [((min step rem : Nat) : Int)])
      rw [List.length_append] at this
      omega
/-- how many of the held ones are below b -/
def cur (b : Int) (S : List Int) : Nat := S.countP (fun w => decide (w < b))
theorem cur_cons (b a : Int) (S : List Int) : cur b (a :: S) = cur b S + (if a < b then 1 else 0) := by
  unfold cur; rw [List.countP_cons]; simp
theorem cur_ins (b v : Int) : ∀ S : List Int, cur b (insS v S) = cur b S + (if v < b then 1 else 0)
  | [] => by rw [insS, cur_cons]
  | a :: t => by
    rw [insS]
    by_cases h : v ≤ a
    · rw [if_pos h, cur_cons]
    · rw [if_neg h, cur_cons, cur_cons, cur_ins b v t]; omega
theorem cur_all {b : Int} : ∀ {S : List Int}, (∀ w ∈ S, w < b) → cur b S = S.length
  | [], _ => rfl
  | a :: t, h => by
    rw [cur_cons, if_pos (h a List.mem_cons_self), cur_all (fun w hw => h w (List.mem_cons_of_mem _ hw))]; rfl
theorem cur_none {b : Int} : ∀ {S : List Int}, (∀ w ∈ S, b ≤ w) → cur b S = 0
  | [], _ => rfl
  | a :: t, h => by
    have := h a List.mem_cons_self
    rw [cur_cons, if_neg (by omega), cur_none (fun w hw => h w (List.mem_cons_of_mem _ hw))]
/-- what stands while records are given; g: how many are -/
def rpJ (L : List (Int × Int)) (room g : Nat) (s : zR) : Prop :=
  s.1.length + g = s.2.2.2.1 ∧ s.2.2.2.1 = min L.length (room + g) ∧ (∀ w ∈ s.1, s.2.1 * 239880 ≤ w ∧ w < (s.2.1 + 2) * 239880) ∧ s.2.1 = (s.2.2.2.2.length : Int) ∧
  (∀ v ∈ s.2.2.2.2, (room : Int) ≤ v) ∧ s.2.2.2.2.sum + s.2.2.1 = (g : Int) ∧ s.1.Pairwise (· ≤ ·) ∧
  ((room : Int) ≤ s.2.2.1 + (cur ((s.2.1 + 1) * 239880) s.1 : Int) ∨ (s.2.2.2.1 = L.length ∧ ∀ w ∈ s.1, w < (s.2.1 + 1) * 239880)) ∧ ((g = 0 ∧ s.2.2.1 = 0) ∨ 1 ≤ s.2.2.1)
theorem ini_sorted (L : List (Int × Int)) : ∀ k, (ini L k).Pairwise (· ≤ ·)
  | 0 => List.Pairwise.nil
  | k + 1 => insS_sorted (ini_sorted L k)
theorem ini_mem {L : List (Int × Int)} {w : Int} : ∀ {k : Nat}, w ∈ ini L k → ∃ i, i < k ∧ w = wt L i
  | 0, h => absurd h List.not_mem_nil
  | k + 1, h => by
    rcases insS_mem.mp h with q | q
    · exact ⟨k, by omega, q⟩
    · obtain ⟨i, h1, h2⟩ := ini_mem q
      exact ⟨i, by omega, h2⟩
theorem rpJ_0 {L : List (Int × Int)} {room : Nat} (hb : zIn L) (hn : L.length ≤ 120) : rpJ L room 0 (ini L (min room L.length), 0, 0, min room L.length, []) := by
  have hw : ∀ w ∈ ini L (min room L.length), 0 ≤ w ∧ w < 239880 := fun w hw => by
    obtain ⟨i, h1, rfl⟩ := ini_mem hw
    exact wt_in hb (by omega)
  have hl := ini_len L (min room L.length)
  refine ⟨by simp [hl], by simp; omega, fun w h => by have := hw w h; simp; omega, by simp, by simp, by simp, ini_sorted L _, ?_, Or.inl ⟨rfl, rfl⟩⟩
  show (room : Int) ≤ 0 + (cur ((0 + 1) * 239880) (ini L (min room L.length)) : Int) ∨ _
  rw [cur_all (fun w h => by have := hw w h; omega), hl]
  by_cases e : room ≤ L.length
  · exact Or.inl (by omega)
  · refine Or.inr ⟨by show min room L.length = L.length; omega, fun w h => ?_⟩
    have := hw w h
    show w < (0 + 1) * 239880
    omega
theorem rpJ_1 {L : List (Int × Int)} {room g : Nat} {s : zR} (hr : 1 ≤ room) (hb : zIn L) (hn : L.length ≤ 120) (hg : g < L.length) (h : rpJ L room g s) : rpJ L room (g + 1) (rpT L s) := by
  obtain ⟨S, run, size, filled, acc⟩ := s
  obtain ⟨j1, j2, j3, j4, j5, j6, j7, j8, j9⟩ := h
  dsimp only at j1 j2 j3 j4 j5 j6 j7 j8 j9
  cases S with
  | nil => simp at j1; omega
  | cons a T =>
    obtain ⟨p1, p2⟩ := List.pairwise_cons.mp j7
    have ha := j3 a List.mem_cons_self
    have hT : ∀ w ∈ T, run * 239880 ≤ w ∧ w < (run + 2) * 239880 := fun w hw => j3 w (List.mem_cons_of_mem _ hw)
    have hrun0 : 0 ≤ run := by omega
    have hq : run ≤ a / 239880 ∧ a / 239880 ≤ run + 1 := by omega
    rw [List.length_cons] at j1
    have hwt : ∀ i, i < 120 → 0 ≤ wt L i ∧ wt L i < 239880 := fun i hi => wt_in hb hi
    by_cases hs : run < a / 239880
    · -- a new run
      have ha2 : (run + 1) * 239880 ≤ a := by omega
      have hT2 : ∀ w ∈ T, (run + 1) * 239880 ≤ w := fun w hw => Int.le_trans ha2 (p1 w hw)
      have hc0 : cur ((run + 1) * 239880) (a :: T) = 0 := cur_none fun w hw => by
        rcases List.mem_cons.mp hw with rfl | hw
        · exact ha2
        · exact hT2 w hw
      have hsz : (room : Int) ≤ size := by
        rcases j8 with j8 | ⟨-, j8⟩
        · rw [hc0] at j8; omega
        · have := j8 a List.mem_cons_self
          omega
      have hcT : cur ((run + 1 + 1) * 239880) T = T.length := cur_all fun w hw => by have := (hT w hw).2; omega
      have hacc : ∀ v ∈ acc ++ [size], (room : Int) ≤ v := fun v hv => by
        rcases List.mem_append.mp hv with q | q
        · exact j5 v q
        · rw [List.mem_singleton.mp q]; exact hsz
      have hsum : (acc ++ [size]).sum + 1 = ((g + 1 : Nat) : Int) := by rw [sum_app]; simp; omega
      by_cases hf : filled < L.length
      · simp only [rpT, if_pos hs, if_pos hf]
        have hw := hwt filled (by omega)
        generalize hnw : ((if wt L filled < a % 239880 then run + 1 + 1 else run + 1) * 239880 + wt L filled) = nw
        have hnw2 : (run + 1) * 239880 ≤ nw ∧ nw < (run + 1 + 2) * 239880 := by
          rw [← hnw]; by_cases q : wt L filled < a % 239880 <;> simp [q] <;> omega
        refine ⟨by show (insS nw T).length + (g + 1) = filled + 1; rw [insS_len]; omega, by show filled + 1 = min L.length (room + (g + 1)); omega, fun w hw => ?_, by show run + 1 = ((acc ++ [size]).length : Int); rw [List.length_append]; simp; omega, hacc, by show (acc ++ [size]).sum + (0 + 1) = ((g + 1 : Nat) : Int); omega, insS_sorted p2, Or.inl ?_, Or.inr (by show (1 : Int) ≤ 0 + 1; omega)⟩
        · show (run + 1) * 239880 ≤ w ∧ w < (run + 1 + 2) * 239880
          rcases insS_mem.mp hw with rfl | hw
          · exact hnw2
          · have := hT w hw
            have := hT2 w hw
            omega
        · show (room : Int) ≤ 0 + 1 + (cur ((run + 1 + 1) * 239880) (insS nw T) : Int)
          rw [cur_ins, hcT]
          by_cases q : nw < (run + 1 + 1) * 239880 <;> simp [q] <;> omega
      · simp only [rpT, if_pos hs, if_neg hf]
        refine ⟨by show T.length + (g + 1) = filled; omega, by show filled = min L.length (room + (g + 1)); omega, fun w hw => ?_, by show run + 1 = ((acc ++ [size]).length : Int); rw [List.length_append]; simp; omega, hacc, by show (acc ++ [size]).sum + (0 + 1) = ((g + 1 : Nat) : Int); omega, p2, Or.inr ⟨by show filled = L.length; omega, fun w hw => ?_⟩, Or.inr (by show (1 : Int) ≤ 0 + 1; omega)⟩
        · show (run + 1) * 239880 ≤ w ∧ w < (run + 1 + 2) * 239880
          have := hT w hw
          have := hT2 w hw
          omega
        · show w < (run + 1 + 1) * 239880
          have := hT w hw
          omega
    · -- the same run
      have ha2 : a < (run + 1) * 239880 := by omega
      rw [cur_cons, if_pos ha2] at j8
      have hsz : 1 ≤ size + 1 := by omega
      by_cases hf : filled < L.length
      · simp only [rpT, if_neg hs, if_pos hf]
        have hw := hwt filled (by omega)
        generalize hnw : ((if wt L filled < a % 239880 then run + 1 else run) * 239880 + wt L filled) = nw
        have hnw2 : run * 239880 ≤ nw ∧ nw < (run + 2) * 239880 := by
          rw [← hnw]; by_cases q : wt L filled < a % 239880 <;> simp [q] <;> omega
        refine ⟨by show (insS nw T).length + (g + 1) = filled + 1; rw [insS_len]; omega, by show filled + 1 = min L.length (room + (g + 1)); omega, fun w hw => ?_, j4, j5, by show acc.sum + (size + 1) = ((g + 1 : Nat) : Int); omega, insS_sorted p2, ?_, Or.inr hsz⟩
        · show run * 239880 ≤ w ∧ w < (run + 2) * 239880
          rcases insS_mem.mp hw with rfl | hw
          · exact hnw2
          · exact hT w hw
        · show (room : Int) ≤ size + 1 + (cur ((run + 1) * 239880) (insS nw T) : Int) ∨ (filled + 1 = L.length ∧ _)
          rw [cur_ins]
          rcases j8 with j8 | ⟨j8, -⟩
          · refine Or.inl ?_
            by_cases q : nw < (run + 1) * 239880 <;> simp [q] <;> omega
          · omega
      · simp only [rpT, if_neg hs, if_neg hf]
        refine ⟨by show T.length + (g + 1) = filled; omega, by show filled = min L.length (room + (g + 1)); omega, hT, j4, j5, by show acc.sum + (size + 1) = ((g + 1 : Nat) : Int); omega, p2, ?_, Or.inr hsz⟩
        show (room : Int) ≤ size + 1 + (cur ((run + 1) * 239880) T : Int) ∨ (filled = L.length ∧ ∀ w ∈ T, w < (run + 1) * 239880)
        rcases j8 with j8 | ⟨j8, j9⟩
        · exact Or.inl (by omega)
        · exact Or.inr ⟨j8, fun w hw => j9 w (List.mem_cons_of_mem _ hw)⟩
theorem rpJ_end {L : List (Int × Int)} {room : Nat} {s : zR} (hr : 1 ≤ room) (h : rpJ L room L.length s) : rsOK (rpS L 0 s) L.length room := by
  obtain ⟨S, run, size, filled, acc⟩ := s
  obtain ⟨j1, j2, j3, j4, j5, j6, j7, j8, j9⟩ := h
  dsimp only at j1 j2 j3 j4 j5 j6 j7 j8 j9
  show rsOK (if 0 < size then acc ++ [size] else acc) L.length room
  by_cases q : 0 < size
  · rw [if_pos q]
    exact rsOK_app (by omega) j5 (by omega) j6
  · rw [if_neg q]
    exact rsOK_acc (by omega) j5 (by omega)
theorem rpS_ok {L : List (Int × Int)} {room : Nat} (hr : 1 ≤ room) (hb : zIn L) (hn : L.length ≤ 120) : ∀ (k g : Nat) (s : zR), g + k = L.length → rpJ L room g s → rsOK (rpS L k s) L.length room
  | 0, g, s, h1, h2 => by
    have : g = L.length := by omega
    subst this
    exact rpJ_end hr h2
  | k + 1, g, s, h1, h2 => rpS_ok hr hb hn k (g + 1) (rpT L s) (by omega) (rpJ_1 hr hb hn (by omega) h2)
theorem mkR_ok {L : List (Int × Int)} {rep : Bool} {room : Nat} (hr : 1 ≤ room) (hb : zIn L) (hn : L.length ≤ 120) : rsOK (mkR L rep room) L.length room := by
  cases rep
  · show rsOK (rlS (max 1 room) L.length L.length []) L.length room
    rw [show max 1 room = room by omega]
    exact rlS_ok room L.length hr L.length L.length [] (Nat.le_refl _) (by simp) (by simp)
  · exact rpS_ok hr hb hn L.length 0 _ (by omega) (rpJ_0 hb hn)
end
section
/-! a plan's cells -/
def zPl (M : zM) (p : Nat) (pg : Int) (rs : List Int) (z : zZ) : Prop := zNum M (4 * p) rs ∧ zNum M (4 * p + 3) z.1 ∧ M (82 + p) 3 = z.2.1 ∧ M (82 + p) 4 = z.2.2.1 ∧ zNum M (4 * p + 1) z.2.2.2.1 ∧ zNum M (4 * p + 2) z.2.2.2.2 ∧ M (82 + p) 7 = pg
def zFp (M M' : zM) (p : Nat) : Prop := ∀ o, (o < 60 + 8 * p ∨ 68 + 8 * p ≤ o) → o ≠ 76 + 2 * p → o ≠ 77 + 2 * p → o ≠ 82 + p → M' o = M o
theorem zFp.refl {M : zM} {p : Nat} : zFp M M p := fun _ _ _ _ _ => rfl
theorem zFp.trans {M M1 M2 : zM} {p : Nat} (h1 : zFp M M1 p) (h2 : zFp M1 M2 p) : zFp M M2 p := fun o a b c d => (h2 o a b c d).trans (h1 o a b c d)
theorem zFp.num {M M' : zM} {p n : Nat} (h : zFn M M' n) (h1 : 4 * p ≤ n) (h2 : n ≤ 4 * p + 3) : zFp M M' p := fun o a _ _ _ => h o (by omega) (by omega)
theorem zFp.heap {M M' : zM} {p : Nat} (h : zFh M M' p) : zFp M M' p := fun o _ b c _ => h o b c
theorem zFp.fld {M : zM} {p k : Nat} {v : Int} : zFp M (zu M (82 + p) k v) p := fun o _ _ _ d => zu_o _ _ _ _ d
theorem zNum.fld {M : zM} {p n k : Nat} {v : Int} {L : List Int} (hp : p < 2) (hn : n < 8) (h : zNum M n L) : zNum (zu M (82 + p) k v) n L := h.keep (zu_o _ _ _ _ (by omega)) (zu_o _ _ _ _ (by omega))
section
variable {M M' : zM} {p : Nat} {pg : Int} {rs : List Int} {z : zZ}
theorem zPl.rd (hp : p < 2) (h : zPl M p pg rs z) (v : Int) : zPl (zu M (82 + p) 3 v) p pg rs (z.1, v, z.2.2) :=
  ⟨h.1.fld hp (by omega), h.2.1.fld hp (by omega), zu_s _ _ _ _, (zu_k _ _ _ _ (by omega)).trans h.2.2.2.1, h.2.2.2.2.1.fld hp (by omega), h.2.2.2.2.2.1.fld hp (by omega), (zu_k _ _ _ _ (by omega)).trans h.2.2.2.2.2.2⟩
theorem zPl.wr (hp : p < 2) (h : zPl M p pg rs z) (v : Int) : zPl (zu M (82 + p) 4 v) p pg rs (z.1, z.2.1, v, z.2.2.2) :=
  ⟨h.1.fld hp (by omega), h.2.1.fld hp (by omega), (zu_k _ _ _ _ (by omega)).trans h.2.2.1, zu_s _ _ _ _, h.2.2.2.2.1.fld hp (by omega), h.2.2.2.2.2.1.fld hp (by omega), (zu_k _ _ _ _ (by omega)).trans h.2.2.2.2.2.2⟩
theorem zPl.row (hp : p < 2) (h : zPl M p pg rs z) {L : List Int} (h1 : zNum M' (4 * p + 3) L) (hf : zFn M M' (4 * p + 3)) : zPl M' p pg rs (L, z.2) := by
  have e := hf (82 + p) (by omega) (by omega)
  exact ⟨h.1.apart hf (by omega), h1, by rw [e]; exact h.2.2.1, by rw [e]; exact h.2.2.2.1, h.2.2.2.2.1.apart hf (by omega), h.2.2.2.2.2.1.apart hf (by omega), by rw [e]; exact h.2.2.2.2.2.2⟩
theorem zPl.mr (hp : p < 2) (h : zPl M p pg rs z) {L : List Int} (h1 : zNum M' (4 * p + 1) L) (hf : zFn M M' (4 * p + 1)) : zPl M' p pg rs (z.1, z.2.1, z.2.2.1, L, z.2.2.2.2) := by
  have e := hf (82 + p) (by omega) (by omega)
  exact ⟨h.1.apart hf (by omega), h.2.1.apart hf (by omega), by rw [e]; exact h.2.2.1, by rw [e]; exact h.2.2.2.1, h1, h.2.2.2.2.2.1.apart hf (by omega), by rw [e]; exact h.2.2.2.2.2.2⟩
theorem zPl.ms (hp : p < 2) (h : zPl M p pg rs z) {L : List Int} (h1 : zNum M' (4 * p + 2) L) (hf : zFn M M' (4 * p + 2)) : zPl M' p pg rs (z.1, z.2.1, z.2.2.1, z.2.2.2.1, L) := by
  have e := hf (82 + p) (by omega) (by omega)
  exact ⟨h.1.apart hf (by omega), h.2.1.apart hf (by omega), by rw [e]; exact h.2.2.1, by rw [e]; exact h.2.2.2.1, h.2.2.2.2.1.apart hf (by omega), h1, by rw [e]; exact h.2.2.2.2.2.2⟩
theorem zPl.runs (hp : p < 2) (h : zPl M p pg rs z) {L : List Int} (h1 : zNum M' (4 * p) L) (hf : zFn M M' (4 * p)) : zPl M' p pg L z := by
  have e := hf (82 + p) (by omega) (by omega)
  exact ⟨h1, h.2.1.apart hf (by omega), by rw [e]; exact h.2.2.1, by rw [e]; exact h.2.2.2.1, h.2.2.2.2.1.apart hf (by omega), h.2.2.2.2.2.1.apart hf (by omega), by rw [e]; exact h.2.2.2.2.2.2⟩
theorem zPl.heap (h : zPl M p pg rs z) (hp : p < 2) (hf : zFh M M' p) : zPl M' p pg rs z := by
  have e := hf (82 + p) (by omega) (by omega)
  have k : ∀ n L, n < 8 → zNum M n L → zNum M' n L := fun n L hn g => g.keep (hf _ (by omega) (by omega)) (hf _ (by omega) (by omega))
  exact ⟨k _ _ (by omega) h.1, k _ _ (by omega) h.2.1, by rw [e]; exact h.2.2.1, by rw [e]; exact h.2.2.2.1, k _ _ (by omega) h.2.2.2.2.1, k _ _ (by omega) h.2.2.2.2.2.1, by rw [e]; exact h.2.2.2.2.2.2⟩
end
/-- a stretch's pages, one more -/
theorem sm_map1 {L : List Int} {pg : Int} {a b : Nat} (h1 : a ≤ b) (h2 : b < L.length) : sm (L.map (fun v => pgs v pg)) a (b + 1) = sm (L.map (fun v => pgs v pg)) a b + pgs (nA L b) pg := by
  rw [sm_1 h1 (by simpa using h2)]
  congr 1
  rw [nA_get (by simpa using h2), nA_get h2]; simp
theorem sm_take {L : List Int} {a fan : Nat} : ((L.drop a).take fan).sum = sm L a (min (a + fan) L.length) := by
  unfold sm
  by_cases h : a + fan ≤ L.length
  · rw [show min (a + fan) L.length - a = fan by omega]
  · rw [show min (a + fan) L.length = L.length by omega, List.take_of_length_le (by rw [List.length_drop]; omega), List.take_of_length_le (by rw [List.length_drop]; omega)]
theorem sm_takemap {L : List Int} {f : Int → Int} {a fan : Nat} (h : a < L.length) : sm (((L.drop a).take fan).map f) 0 ((L.drop a).take fan).length = sm (L.map f) a (min (a + fan) L.length) := by
  rw [show ((L.drop a).take fan).length = (((L.drop a).take fan).map f).length by simp, sm_all, List.map_take, List.map_drop, sm_take]
  simp
/-- the chunk at a place of a row, as the machine goes through it -/
theorem mlC_at {pg : Int} {L : List Int} {a fan : Nat} {z : zZ} (h : a < L.length) : mlC pg ((L.drop a).take fan) z =
    if 1 < min (a + fan) L.length - a then (z.1 ++ [sm L a (min (a + fan) L.length)], z.2.1 + sm (L.map (fun v => pgs v pg)) a (min (a + fan) L.length), z.2.2.1 + pgs (sm L a (min (a + fan) L.length)) pg, z.2.2.2.1 ++ [((min (a + fan) L.length - a : Nat) : Int)], z.2.2.2.2 ++ [sm L a (min (a + fan) L.length)])
    else (z.1 ++ [sm L a (min (a + fan) L.length)], z.2) := by
  have hl : ((L.drop a).take fan).length = min (a + fan) L.length - a := by rw [List.length_take, List.length_drop]; omega
  unfold mlC
  rw [sm_takemap h, sm_take, hl]
theorem set_take {L nw : List Int} {v : Int} (h : L.take nw.length = nw) (hl : nw.length < L.length) : (L.set nw.length v).take (nw.length + 1) = nw ++ [v] := by
  rw [List.take_succ, List.take_set_of_le (Nat.le_refl _), h]
  simp [hl]
theorem nA_set {L : List Int} {i j : Nat} {v : Int} (h : j ≠ i) : nA (L.set i v) j = nA L j := by
  unfold nA
  simp [List.getD, List.getElem?_set_ne (Ne.symm h)]
/-- more fuel than is needed changes nothing -/
theorem rlS_fuel (step : Nat) : ∀ (f g rem : Nat) (acc : List Int), rem ≤ f → rem ≤ g → (1 ≤ step ∨ rem = 0) → rlS step f rem acc = rlS step g rem acc
  | 0, g, rem, acc, h1, h2, _ => by
    have : rem = 0 := by omega
    subst this
    cases g <;> simp [rlS]
  | f + 1, 0, rem, acc, h1, h2, _ => by
    have : rem = 0 := by omega
    subst this
    simp [rlS]
  | f + 1, g + 1, rem, acc, h1, h2, h3 => by
    rw [rlS, rlS]
    by_cases h0 : rem = 0
    · rw [if_pos h0, if_pos h0]
    · rw [if_neg h0, if_neg h0]
      exact rlS_fuel step f g (rem - step) _ (by omega) (by omega) (by omega)
end
section
/-! the plan's methods -/
set_option maxHeartbeats 4000000 in
set_option maxRecDepth 10000 in
theorem c_Plan_noteMerge (l : Launch) {r : Nat} (hr : r < 2) {pg : Int} {rs : List Int} {z : zZ} (k v : Int) (h1 : z.2.2.2.1.length < 120) (h2 : z.2.2.2.2.length < 120) (M : zM) (h : zPl M r pg rs z) : Mt l 2 yX4_noteMerge cX4_noteMerge 3 none (fun ad => [.ref (ad (82 + r)), .int (jI (k)), .int (jI (v))]) M (fun _ vv M' => vv = none ∧ (zPl M' r pg rs (z.1, z.2.1, z.2.2.1, z.2.2.2.1 ++ [k], z.2.2.2.2 ++ [v]) ∧ zFp M M' r)) := by
  refine Mt.of (fun ad => [some (.ref (ad (82 + r))), some (.int (jI (k))), some (.int (jI (v)))]) (by decide +kernel) (fun _ => rfl) (fun _ => rfl) (fun _ => Nat.le_of_ble_eq_true rfl) fun X hX C hR => ?_
  subst hX
  show G X M 0 [some (.ref ((zA X) (82 + r))), some (.int (jI (k))), some (.int (jI (v)))] []
  refine g_aload_n C dX4_noteMerge_0 rfl ?_
  refine gf_Plan_mergeRuns C (by omega) tw_62 dX4_noteMerge_1 ?_
  refine g_iload_n C dX4_noteMerge_4 rfl ?_
  refine gc_Num_add C (by decide) tw_524 (Nat.le_of_ble_eq_true rfl) rfl dX4_noteMerge_5 (by omega) _ h1 h.2.2.2.2.1 (fun N ⟨n1, n2⟩ => ?_)
  have g := h.mr hr n1 n2
  refine g_aload_n C dX4_noteMerge_8 rfl ?_
  refine gf_Plan_mergeSizes C (by omega) tw_64 dX4_noteMerge_9 ?_
  show G X _ 12 _ _
  refine g_iload_n C dX4_noteMerge_12 rfl ?_
  refine gc_Num_add C (by decide) tw_524 (Nat.le_of_ble_eq_true rfl) rfl dX4_noteMerge_13 (by omega) _ h2 g.2.2.2.2.2.1 (fun N2 ⟨n3, n4⟩ => ?_)
  refine g_vret C hR dX4_noteMerge_16 ?_
  exact ⟨rfl, g.ms hr n3 n4, (zFp.num n2 (by omega) (by omega)).trans (zFp.num n4 (by omega) (by omega))⟩
theorem gc_Plan_noteMerge {X : z_X} {cc : ByteArray} {own : String} {ret : Option FieldType} {dC nC : Nat} {M : zM} {pc : Nat} {lv : List (Option Value)} {st : List Value} (C : Cx cc own ret dC nC X) (hdep : 3 ≤ dC) {idx : Nat} (hl0 : Cond.methodLink own idx yX4_noteMerge ∈ tT) (hcat : (st.map fun v => v.category).sum ≤ 8) (hlen : lv.length = nC) (hdec : decode cc pc = .ok (.invokevirtual idx, 3)) {r : Nat} (hr : r < 2) {pg : Int} {rs : List Int} {z : zZ} (k v : Int) (h1 : z.2.2.2.1.length < 120) (h2 : z.2.2.2.2.length < 120) (h : zPl M r pg rs z) (kk : ∀ M' : zM, (zPl M' r pg rs (z.1, z.2.1, z.2.2.1, z.2.2.2.1 ++ [k], z.2.2.2.2 ++ [v]) ∧ zFp M M' r) → G X M' (pc + 3) lv st) : G X M pc lv (.int (jI (v)) :: .int (jI (k)) :: .ref (zA X (82 + r)) :: st) := by
  refine g_callV (k := 2) (o := 82 + r) C (c_Plan_noteMerge (zL X) hr k v h1 h2 M h) mfX4_noteMerge hl0 ⟨rfl, by decide +kernel, by decide +kernel, by decide +kernel⟩ ⟨hdep, by decide⟩ (by omega) (fun _ _ _ _ => ze_plan (by omega)) rfl rfl rfl rfl hcat hlen hdec (fun v M' h => ?_)
  obtain ⟨rfl, h⟩ := h
  exact kk M' h
set_option maxHeartbeats 4000000 in
set_option maxRecDepth 10000 in
theorem c_Plan_runByLoading (l : Launch) {r : Nat} (hr : r < 2) (n step : Nat) (hn : n ≤ 100) (hs : 1 ≤ step ∧ step ≤ 10000) (M : zM) (h : zNum M (4 * r) []) : Mt l 2 yX4_runByLoading cX4_runByLoading 5 none (fun ad => [.ref (ad (82 + r)), .int (jI ((n : Int))), .int (jI ((step : Int)))]) M (fun _ vv M' => vv = none ∧ (zNum M' (4 * r) (rlS step n n []) ∧ zFn M M' (4 * r))) := by
  refine Mt.of (fun ad => [some (.ref (ad (82 + r))), some (.int (jI ((n : Int)))), some (.int (jI ((step : Int)))), none, none]) (by decide +kernel) (fun _ => rfl) (fun _ => rfl) (fun _ => Nat.le_of_ble_eq_true rfl) fun X hX C hR => ?_
  subst hX
  show G X M 0 [some (.ref ((zA X) (82 + r))), some (.int (jI ((n : Int)))), some (.int (jI ((step : Int)))), none, none] []
  have lp : ∀ (fk : Nat) (from_ : Nat) (acc : List Int) (N : zM), n - from_ < fk → acc.length ≤ from_ → from_ ≤ 20000 → rlS step (n - from_) (n - from_) acc = rlS step n n [] → zNum N (4 * r) acc → zFn M N (4 * r) → G X N 9 [some (.ref (zA X (82 + r))), some (.int (jI (n : Int))), some (.int (jI (step : Int))), some (.int (jI (step : Int))), some (.int (jI (from_ : Int)))] [] := by
    intro fk
    induction fk with
    | zero => intro from_ acc N hk; exact absurd hk (Nat.not_lt_zero _)
    | succ fk ih =>
      intro from_ acc N hk h1 _ h3 h4 h5
      refine g_iload C dX4_runByLoading_9 rfl ?_
      refine g_iload_n C dX4_runByLoading_11 rfl ?_
      refine g_icmp_ge (tgt := 39) C dX4_runByLoading_12 rfl (by omega) (by omega) (fun h12 => ?_) (fun h12 => ?_)
      · refine g_vret C hR dX4_runByLoading_39 ?_
        refine ⟨rfl, ?_, h5⟩
        rw [← h3, show n - from_ = 0 by omega, rlS]
        exact h4
      · refine g_aload_n C dX4_runByLoading_15 rfl ?_
        refine gf_Plan_runSizes C (by omega) tw_60 dX4_runByLoading_16 ?_
        refine g_iload_n C dX4_runByLoading_19 rfl ?_
        refine g_iload_n C dX4_runByLoading_20 rfl ?_
        refine g_iload C dX4_runByLoading_21 rfl ?_
        refine g_isub C dX4_runByLoading_23 ?_
        show G X _ 24 _ _
        refine gc_min C (by decide) tw_505 (Nat.le_of_ble_eq_true rfl) rfl dX4_runByLoading_24 _ _ (by omega) (by omega) (?_)
        refine gc_Num_add C (by decide) tw_524 (Nat.le_of_ble_eq_true rfl) rfl dX4_runByLoading_27 (by omega) _ (by omega) h4 (fun N2 ⟨n1, n2⟩ => ?_)
        refine g_iload C dX4_runByLoading_30 rfl ?_
        refine g_iload_n C dX4_runByLoading_32 rfl ?_
        refine g_iadd C dX4_runByLoading_33 ?_
        refine g_istore C dX4_runByLoading_34 (Nat.le_of_ble_eq_true rfl) ?_
        show G X _ 36 [_, _, _, _, _] _
        refine g_goto (tgt := 9) C dX4_runByLoading_36 rfl ?_
        show G X _ 9 _ _
        rw [show (from_ : Int) + (step : Int) = ((from_ + step : Nat) : Int) by omega]
        refine ih (from_ + step) (acc ++ [((min step (n - from_) : Nat) : Int)]) _ (by omega) (by rw [List.length_append]; simp; omega) (by omega) ?_ ?_ (h5.trans n2)
        · rw [← h3, show n - from_ = (n - from_ - 1) + 1 by omega, rlS, if_neg (by omega), show n - from_ - 1 + 1 = n - from_ by omega]
          rw [show n - (from_ + step) = n - from_ - step by omega]
          exact (rlS_fuel _ _ _ _ _ (by omega) (by omega) (by omega))
        · rw [show ((min step (n - from_) : Nat) : Int) = (if (step : Int) ≤ (n : Int) - (from_ : Int) then (step : Int) else (n : Int) - (from_ : Int)) by by_cases q : (step : Int) ≤ (n : Int) - (from_ : Int) <;> simp [q] <;> omega]
          exact n1
  refine g_iconst C dX4_runByLoading_0 ?_
  refine g_iload_n C dX4_runByLoading_1 rfl ?_
  refine gc_max C (by decide) tw_532 (Nat.le_of_ble_eq_true rfl) rfl dX4_runByLoading_2 _ _ (by omega) (by omega) (?_)
  rw [show (if (step : Int) ≤ 1 then (1 : Int) else (step : Int)) = (step : Int) by by_cases q : (step : Int) ≤ 1 <;> simp [q] <;> omega]
  refine g_istore_n C dX4_runByLoading_5 (Nat.le_of_ble_eq_true rfl) ?_
  show G X _ 6 [_, _, _, _, _] _
  refine g_iconst C dX4_runByLoading_6 ?_
  refine g_istore C dX4_runByLoading_7 (Nat.le_of_ble_eq_true rfl) ?_
  show G X _ 9 [_, _, _, _, _] _
  exact lp 300 0 [] M (by omega) (Nat.le_refl _) (by omega) rfl h zFn.refl
theorem gc_Plan_runByLoading {X : z_X} {cc : ByteArray} {own : String} {ret : Option FieldType} {dC nC : Nat} {M : zM} {pc : Nat} {lv : List (Option Value)} {st : List Value} (C : Cx cc own ret dC nC X) (hdep : 3 ≤ dC) {idx : Nat} (hl0 : Cond.methodLink own idx yX4_runByLoading ∈ tT) (hcat : (st.map fun v => v.category).sum ≤ 8) (hlen : lv.length = nC) (hdec : decode cc pc = .ok (.invokevirtual idx, 3)) {r : Nat} (hr : r < 2) (n step : Nat) (hn : n ≤ 100) (hs : 1 ≤ step ∧ step ≤ 10000) (h : zNum M (4 * r) []) (kk : ∀ M' : zM, (zNum M' (4 * r) (rlS step n n []) ∧ zFn M M' (4 * r)) → G X M' (pc + 3) lv st) : G X M pc lv (.int (jI ((step : Int))) :: .int (jI ((n : Int))) :: .ref (zA X (82 + r)) :: st) := by
  refine g_callV (k := 2) (o := 82 + r) C (c_Plan_runByLoading (zL X) hr n step hn hs M h) mfX4_runByLoading hl0 ⟨rfl, by decide +kernel, by decide +kernel, by decide +kernel⟩ ⟨hdep, by decide⟩ (by omega) (fun _ _ _ _ => ze_plan (by omega)) rfl rfl rfl rfl hcat hlen hdec (fun v M' h => ?_)
  obtain ⟨rfl, h⟩ := h
  exact kk M' h
set_option maxHeartbeats 4000000 in
set_option maxRecDepth 10000 in
theorem c_Plan_countRuns (l : Launch) {r : Nat} (hr : r < 2) (n pg : Nat) {rs : List Int} (hn : n ≤ 120) (hpg : 1 ≤ pg ∧ pg ≤ 100) (hv : zV rs (n : Int)) (M : zM) (h : zNum M (4 * r) rs) (hp : M (82 + r) 7 = (pg : Int)) : Mt l 2 yX4_countRuns cX4_countRuns 3 none (fun ad => [.ref (ad (82 + r)), .int (jI ((n : Int)))]) M (fun _ vv M' => vv = none ∧ (M' (82 + r) 3 = pgs (n : Int) (pg : Int) ∧ M' (82 + r) 4 = sm (rs.map (fun a => pgs a (pg : Int))) 0 rs.length ∧ M' (82 + r) 7 = (pg : Int) ∧ ∀ o, o ≠ 82 + r → M' o = M o)) := by
  refine Mt.of (fun ad => [some (.ref (ad (82 + r))), some (.int (jI ((n : Int)))), none]) (by decide +kernel) (fun _ => rfl) (fun _ => rfl) (fun _ => Nat.le_of_ble_eq_true rfl) fun X hX C hR => ?_
  subst hX
  show G X M 0 [some (.ref ((zA X) (82 + r))), some (.int (jI ((n : Int)))), none] []
  have lp : ∀ (fk : Nat) (i : Nat) (N : zM), 200 - i < fk → i ≤ rs.length → N (82 + r) 3 = pgs (n : Int) (pg : Int) → N (82 + r) 4 = sm (rs.map (fun a => pgs a (pg : Int))) 0 i → N (82 + r) 7 = (pg : Int) → (∀ o, o ≠ 82 + r → N o = M o) → G X N 19 [some (.ref (zA X (82 + r))), some (.int (jI (n : Int))), some (.int (jI (i : Int)))] [] := by
    intro fk
    induction fk with
    | zero => intro i N hk; exact absurd hk (Nat.not_lt_zero _)
    | succ fk ih =>
      intro i N hk h1 h2 h3 h4 h5
      have hN : zNum N (4 * r) rs := h.keep (h5 _ (by omega)) (h5 _ (by omega))
      have hl2 := h.2.1
      have b1 := hv.at (by omega) i
      refine g_iload_n C dX4_countRuns_19 rfl ?_
      refine g_aload_n C dX4_countRuns_20 rfl ?_
      refine gf_Plan_runSizes C (by omega) tw_60 dX4_countRuns_21 ?_
      refine gc_Num_count C (by decide) tw_542 (Nat.le_of_ble_eq_true rfl) rfl dX4_countRuns_24 (by omega) hN (?_)
      refine g_icmp_ge (tgt := 60) C dX4_countRuns_27 rfl (by omega) (by omega) (fun h27 => ?_) (fun h27 => ?_)
      · refine g_vret C hR dX4_countRuns_60 ?_
        refine ⟨rfl, h2, ?_, h4, h5⟩
        rw [h3, show i = rs.length by omega]
      · refine g_aload_n C dX4_countRuns_30 rfl ?_
        refine g_dup C dX4_countRuns_31 rfl ?_
        refine gf_Plan_writtenPages C (by omega) tw_68 dX4_countRuns_32 ?_
        rw [h3]
        refine g_aload_n C dX4_countRuns_35 rfl ?_
        refine gf_Plan_runSizes C (by omega) tw_60 dX4_countRuns_36 ?_
        refine g_iload_n C dX4_countRuns_39 rfl ?_
        show G X _ 40 _ _
        refine gc_Num_valueAt C (by decide) tw_546 (Nat.le_of_ble_eq_true rfl) rfl dX4_countRuns_40 (by omega) i (by omega) hN (?_)
        refine g_aload_n C dX4_countRuns_43 rfl ?_
        refine gf_Plan_page C (by omega) tw_72 dX4_countRuns_44 ?_
        rw [h4]
        refine gc_pagesForN C (by decide) (fun _ h => h.2) (Nat.le_of_ble_eq_true rfl) rfl dX4_countRuns_47 _ _ (by omega) (by omega) (?_)
        refine g_iadd C dX4_countRuns_50 ?_
        refine gp_Plan_writtenPages C (by omega) tw_68 dX4_countRuns_51 ?_
        show G X _ 54 _ _
        refine g_iinc C dX4_countRuns_54 rfl ?_
        show G X _ 57 [_, _, _] _
        refine g_goto (tgt := 19) C dX4_countRuns_57 rfl ?_
        show G X _ 19 _ _
        exact ih (i + 1) _ (by omega) (by omega) (by rw [zu_k _ _ _ _ (by omega)]; exact h2) (by rw [zu_s, sm_map1 (by omega) (by omega)]) (by rw [zu_k _ _ _ _ (by omega)]; exact h4) (fun o g => (zu_o _ _ _ _ g).trans (h5 o g))
  refine g_aload_n C dX4_countRuns_0 rfl ?_
  refine g_iload_n C dX4_countRuns_1 rfl ?_
  refine g_aload_n C dX4_countRuns_2 rfl ?_
  refine gf_Plan_page C (by omega) tw_72 dX4_countRuns_3 ?_
  rw [hp]
  refine gc_pagesForN C (by decide) (fun _ h => h.2) (Nat.le_of_ble_eq_true rfl) rfl dX4_countRuns_6 _ _ (by omega) (by omega) (?_)
  refine gp_Plan_readPages C (by omega) tw_66 dX4_countRuns_9 ?_
  show G X _ 12 _ _
  refine g_aload_n C dX4_countRuns_12 rfl ?_
  refine g_iconst C dX4_countRuns_13 ?_
  refine gp_Plan_writtenPages C (by omega) tw_68 dX4_countRuns_14 ?_
  refine g_iconst C dX4_countRuns_17 ?_
  refine g_istore_n C dX4_countRuns_18 (Nat.le_of_ble_eq_true rfl) ?_
  show G X _ 19 [_, _, _] _
  exact lp 300 0 _ (by omega) (Nat.zero_le _) (by rw [zu_k _ _ _ _ (by omega), zu_s]) (by rw [zu_s, sm_0]) (by rw [zu_k _ _ _ _ (by omega), zu_k _ _ _ _ (by omega)]; exact hp) (fun o g => by rw [zu_o _ _ _ _ g, zu_o _ _ _ _ g])
theorem gc_Plan_countRuns {X : z_X} {cc : ByteArray} {own : String} {ret : Option FieldType} {dC nC : Nat} {M : zM} {pc : Nat} {lv : List (Option Value)} {st : List Value} (C : Cx cc own ret dC nC X) (hdep : 3 ≤ dC) {idx : Nat} (hl0 : Cond.methodLink own idx yX4_countRuns ∈ tT) (hcat : (st.map fun v => v.category).sum ≤ 8) (hlen : lv.length = nC) (hdec : decode cc pc = .ok (.invokevirtual idx, 3)) {r : Nat} (hr : r < 2) (n pg : Nat) {rs : List Int} (hn : n ≤ 120) (hpg : 1 ≤ pg ∧ pg ≤ 100) (hv : zV rs (n : Int)) (h : zNum M (4 * r) rs) (hp : M (82 + r) 7 = (pg : Int)) (kk : ∀ M' : zM, (M' (82 + r) 3 = pgs (n : Int) (pg : Int) ∧ M' (82 + r) 4 = sm (rs.map (fun a => pgs a (pg : Int))) 0 rs.length ∧ M' (82 + r) 7 = (pg : Int) ∧ ∀ o, o ≠ 82 + r → M' o = M o) → G X M' (pc + 3) lv st) : G X M pc lv (.int (jI ((n : Int))) :: .ref (zA X (82 + r)) :: st) := by
  refine g_callV (k := 1) (o := 82 + r) C (c_Plan_countRuns (zL X) hr n pg hn hpg hv M h hp) mfX4_countRuns hl0 ⟨rfl, by decide +kernel, by decide +kernel, by decide +kernel⟩ ⟨hdep, by decide⟩ (by omega) (fun _ _ _ _ => ze_plan (by omega)) rfl rfl rfl rfl hcat hlen hdec (fun v M' h => ?_)
  obtain ⟨rfl, h⟩ := h
  exact kk M' h
set_option maxHeartbeats 4000000 in
set_option maxRecDepth 10000 in
theorem c_Plan_mergeLeast (l : Launch) {r : Nat} (hr : r < 2) (k pg : Nat) (n : Int) {rs : List Int} {z : zZ} (hpg : 1 ≤ pg ∧ pg ≤ 100) (hn : 0 ≤ n ∧ n ≤ 1000) (hv : zV z.1 n) (hkk : 1 ≤ k ∧ k ≤ z.1.length) (h1 : z.2.2.2.1.length < 120) (h2 : z.2.2.2.2.length < 120) (M : zM) (h : zPl M r (pg : Int) rs z) : Mt l 3 yX4_mergeLeast cX4_mergeLeast 5 none (fun ad => [.ref (ad (82 + r)), .int (jI ((k : Int)))]) M (fun _ vv M' => vv = none ∧ (zPl M' r (pg : Int) rs (lsS (pg : Int) k z) ∧ zFp M M' r)) := by
  refine Mt.of (fun ad => [some (.ref (ad (82 + r))), some (.int (jI ((k : Int)))), none, none, none]) (by decide +kernel) (fun _ => rfl) (fun _ => rfl) (fun _ => Nat.le_of_ble_eq_true rfl) fun X hX C hR => ?_
  subst hX
  show G X M 0 [some (.ref ((zA X) (82 + r))), some (.int (jI ((k : Int)))), none, none, none] []
  have hb54 : ∀ (sz : Int) (Lr : List Int) (rd : Int) (N : zM) {y3 : Option Value}, sz = (tkS (pg : Int) k (z.1, z.2.1, 0)).2.2 → Lr = (tkS (pg : Int) k (z.1, z.2.1, 0)).1 → rd = (tkS (pg : Int) k (z.1, z.2.1, 0)).2.1 → (Lr.length < 120 ∧ 0 ≤ sz ∧ sz ≤ 1000) → zPl N r (pg : Int) rs (Lr, rd, z.2.2) → zFp M N r → G X N 54 [some (.ref (zA X (82 + r))), some (.int (jI (k : Int))), some (.int (jI sz)), y3, none] [] := by
    intro sz Lr rd N y3 e1 e2 e3 hs hN hF
    refine g_aload_n C dX4_mergeLeast_54 rfl ?_
    refine gf_Plan_row C (by omega) tw_70 dX4_mergeLeast_55 ?_
    refine g_iload_n C dX4_mergeLeast_58 rfl ?_
    refine gc_Num_add C (by decide) tw_524 (Nat.le_of_ble_eq_true rfl) rfl dX4_mergeLeast_59 (by omega) (L := Lr) _ hs.1 hN.2.1 (fun N2 ⟨n1, n2⟩ => ?_)
    have g1 : zPl N2 r (pg : Int) rs (Lr ++ [sz], rd, z.2.2) := hN.row hr n1 n2
    refine g_aload_n C dX4_mergeLeast_62 rfl ?_
    refine g_dup C dX4_mergeLeast_63 rfl ?_
    show G X _ 64 _ _
    refine gf_Plan_writtenPages C (by omega) tw_68 dX4_mergeLeast_64 ?_
    rw [show N2 (82 + r) 4 = z.2.2.1 from g1.2.2.2.1]
    refine g_iload_n C dX4_mergeLeast_67 rfl ?_
    refine g_aload_n C dX4_mergeLeast_68 rfl ?_
    refine gf_Plan_page C (by omega) tw_72 dX4_mergeLeast_69 ?_
    rw [g1.2.2.2.2.2.2]
    refine gc_pagesForN C (by decide) (fun _ h => h.2) (Nat.le_of_ble_eq_true rfl) rfl dX4_mergeLeast_72 _ _ (by omega) (by omega) (?_)
    refine g_iadd C dX4_mergeLeast_75 ?_
    show G X _ 76 _ _
    refine gp_Plan_writtenPages C (by omega) tw_68 dX4_mergeLeast_76 ?_
    have g2 : zPl (zu N2 (82 + r) 4 (z.2.2.1 + pgs sz (pg : Int))) r (pg : Int) rs (Lr ++ [sz], rd, z.2.2.1 + pgs sz (pg : Int), z.2.2.2) := g1.wr hr _
    refine g_aload_n C dX4_mergeLeast_79 rfl ?_
    refine g_iload_n C dX4_mergeLeast_80 rfl ?_
    refine g_iload_n C dX4_mergeLeast_81 rfl ?_
    refine gc_Plan_noteMerge C (by decide) tw_572 (Nat.le_of_ble_eq_true rfl) rfl dX4_mergeLeast_82 hr (pg := (pg : Int)) (rs := rs) (z := (Lr ++ [sz], rd, z.2.2.1 + pgs sz (pg : Int), z.2.2.2)) _ _ h1 h2 g2 (fun N4 ⟨n3, n4⟩ => ?_)
    refine g_vret C hR dX4_mergeLeast_85 ?_
    refine ⟨rfl, ?_, ((hF.trans (zFp.num n2 (by omega) (by omega))).trans zFp.fld).trans n4⟩
    unfold lsS
    rw [← e1, ← e2, ← e3]
    exact n3
  have lp : ∀ (fk : Nat) (t : Nat) (w : List Int × Int × Int) (N : zM), k - t < fk → t ≤ k → k - t ≤ w.1.length → (∀ v ∈ w.1, 0 ≤ v) → 0 ≤ w.2.2 → w.1.sum + w.2.2 = n → tkS (pg : Int) (k - t) w = tkS (pg : Int) k (z.1, z.2.1, 0) → zPl N r (pg : Int) rs (w.1, w.2.1, z.2.2) → zFp M N r → G X N 4 [some (.ref (zA X (82 + r))), some (.int (jI (k : Int))), some (.int (jI w.2.2)), some (.int (jI (t : Int))), none] [] := by
    intro fk
    induction fk with
    | zero => intro t w N hk; exact absurd hk (Nat.not_lt_zero _)
    | succ fk ih =>
      intro t w N hk t1 t2 t3 t4 t5 t6 hN hF
      have hz := h.2.1.2.1
      have hw : zV w.1 (n - w.2.2) := ⟨t3, by omega⟩
      have hnn := sum_nn t3
      have hbb : ∀ i, 0 ≤ nA w.1 i ∧ nA w.1 i ≤ 2000000000 := fun i => by have := hw.at (by omega) i; omega
      have hrow : zNum N (4 * r + 3) w.1 := hN.2.1
      have hq0 : t < k → lpF w.1 w.1.length < w.1.length := fun g => lpF_lt _ _ (by omega)
      have b1 := hw.at (by omega) (lpF w.1 w.1.length)
      refine g_iload_n C dX4_mergeLeast_4 rfl ?_
      refine g_iload_n C dX4_mergeLeast_5 rfl ?_
      refine g_icmp_ge (tgt := 54) C dX4_mergeLeast_6 rfl (by omega) (by omega) (fun h6 => ?_) (fun h6 => ?_)
      · refine hb54 w.2.2 w.1 w.2.1 _ ?_ ?_ ?_ ?_ hN hF
        · rw [← t6, show k - t = 0 by omega, tkS]
        · rw [← t6, show k - t = 0 by omega, tkS]
        · rw [← t6, show k - t = 0 by omega, tkS]
        · refine ⟨?_, t4, ?_⟩
          · have e1 := hN.2.1.2.1
            have e2 : w.1.length = z.1.length - k := by
              have := (tkS_keep (pg : Int) k (z.1, z.2.1, 0) hkk.2 hv.1 (Int.le_refl 0)).2.2.1
              rw [← t6, show k - t = 0 by omega, tkS] at this
              exact this
            omega
          · have := sum_nn t3
            omega
      · have hq := hq0 (by omega)
        refine g_aload_n C dX4_mergeLeast_9 rfl ?_
        refine gf_Plan_row C (by omega) tw_70 dX4_mergeLeast_10 ?_
        refine g_aload_n C dX4_mergeLeast_13 rfl ?_
        refine gf_Plan_row C (by omega) tw_70 dX4_mergeLeast_14 ?_
        refine gc_Num_leastPlace C (by decide) tw_564 (Nat.le_of_ble_eq_true rfl) rfl dX4_mergeLeast_17 (by omega) hrow hbb (?_)
        refine gc_Num_takeAt C (by decide) tw_568 (Nat.le_of_ble_eq_true rfl) rfl dX4_mergeLeast_20 (by omega) _ hq hrow (fun x N2 ⟨n1, n2, n3⟩ => ?_)
        rw [n1]
        have g1 : zPl N2 r (pg : Int) rs (w.1.eraseIdx (lpF w.1 w.1.length), w.2.1, z.2.2) := hN.row hr n2 n3
        show G X _ 23 _ _
        refine g_istore C dX4_mergeLeast_23 (Nat.le_of_ble_eq_true rfl) ?_
        show G X _ 25 [_, _, _, _, _] _
        refine g_aload_n C dX4_mergeLeast_25 rfl ?_
        refine g_dup C dX4_mergeLeast_26 rfl ?_
        refine gf_Plan_readPages C (by omega) tw_66 dX4_mergeLeast_27 ?_
        rw [show N2 (82 + r) 3 = w.2.1 from g1.2.2.1]
        refine g_iload C dX4_mergeLeast_30 rfl ?_
        refine g_aload_n C dX4_mergeLeast_32 rfl ?_
        refine gf_Plan_page C (by omega) tw_72 dX4_mergeLeast_33 ?_
        rw [g1.2.2.2.2.2.2]
        show G X _ 36 _ _
        refine gc_pagesForN C (by decide) (fun _ h => h.2) (Nat.le_of_ble_eq_true rfl) rfl dX4_mergeLeast_36 _ _ (by omega) (by omega) (?_)
        refine g_iadd C dX4_mergeLeast_39 ?_
        refine gp_Plan_readPages C (by omega) tw_66 dX4_mergeLeast_40 ?_
        refine g_iload_n C dX4_mergeLeast_43 rfl ?_
        refine g_iload C dX4_mergeLeast_44 rfl ?_
        refine g_iadd C dX4_mergeLeast_46 ?_
        show G X _ 47 _ _
        refine g_istore_n C dX4_mergeLeast_47 (Nat.le_of_ble_eq_true rfl) ?_
        show G X _ 48 [_, _, _, _, _] _
        refine g_iinc C dX4_mergeLeast_48 rfl ?_
        show G X _ 51 [_, _, _, _, _] _
        refine g_goto (tgt := 4) C dX4_mergeLeast_51 rfl ?_
        show G X _ 4 _ _
        refine g_mask [true, true, true, true, false] rfl ?_
        show G X _ 4 [_, _, _, _, _] _
        have e1 := erase_sum hq
        exact ih (t + 1) (w.1.eraseIdx (lpF w.1 w.1.length), w.2.1 + pgs (nA w.1 (lpF w.1 w.1.length)) (pg : Int), w.2.2 + nA w.1 (lpF w.1 w.1.length)) _ (by omega) (by omega) (by show k - (t + 1) ≤ (w.1.eraseIdx _).length; rw [List.length_eraseIdx_of_lt hq]; omega) (fun v hv => t3 v (mem_erase hv)) (by show 0 ≤ w.2.2 + _; omega) (by show (w.1.eraseIdx _).sum + (w.2.2 + _) = n; omega) (by rw [← t6, show k - t = (k - (t + 1)) + 1 by omega, tkS]) (g1.rd hr _) ((hF.trans (zFp.num n3 (by omega) (by omega))).trans zFp.fld)
  refine g_iconst C dX4_mergeLeast_0 ?_
  refine g_istore_n C dX4_mergeLeast_1 (Nat.le_of_ble_eq_true rfl) ?_
  show G X _ 2 [_, _, _, _, _] _
  refine g_iconst C dX4_mergeLeast_2 ?_
  refine g_istore_n C dX4_mergeLeast_3 (Nat.le_of_ble_eq_true rfl) ?_
  show G X _ 4 [_, _, _, _, _] _
  exact lp 300 0 (z.1, z.2.1, 0) M (by have := h.2.1.2.1; omega) (Nat.zero_le _) (by show k - 0 ≤ z.1.length; omega) hv.1 (Int.le_refl 0) (by show z.1.sum + 0 = n; rw [hv.2]; omega) rfl h zFp.refl
theorem gc_Plan_mergeLeast {X : z_X} {cc : ByteArray} {own : String} {ret : Option FieldType} {dC nC : Nat} {M : zM} {pc : Nat} {lv : List (Option Value)} {st : List Value} (C : Cx cc own ret dC nC X) (hdep : 4 ≤ dC) {idx : Nat} (hl0 : Cond.methodLink own idx yX4_mergeLeast ∈ tT) (hcat : (st.map fun v => v.category).sum ≤ 8) (hlen : lv.length = nC) (hdec : decode cc pc = .ok (.invokevirtual idx, 3)) {r : Nat} (hr : r < 2) (k pg : Nat) (n : Int) {rs : List Int} {z : zZ} (hpg : 1 ≤ pg ∧ pg ≤ 100) (hn : 0 ≤ n ∧ n ≤ 1000) (hv : zV z.1 n) (hkk : 1 ≤ k ∧ k ≤ z.1.length) (h1 : z.2.2.2.1.length < 120) (h2 : z.2.2.2.2.length < 120) (h : zPl M r (pg : Int) rs z) (kk : ∀ M' : zM, (zPl M' r (pg : Int) rs (lsS (pg : Int) k z) ∧ zFp M M' r) → G X M' (pc + 3) lv st) : G X M pc lv (.int (jI ((k : Int))) :: .ref (zA X (82 + r)) :: st) := by
  refine g_callV (k := 1) (o := 82 + r) C (c_Plan_mergeLeast (zL X) hr k pg n hpg hn hv hkk h1 h2 M h) mfX4_mergeLeast hl0 ⟨rfl, by decide +kernel, by decide +kernel, by decide +kernel⟩ ⟨hdep, by decide⟩ (by omega) (fun _ _ _ _ => ze_plan (by omega)) rfl rfl rfl rfl hcat hlen hdec (fun v M' h => ?_)
  obtain ⟨rfl, h⟩ := h
  exact kk M' h
end
section
theorem mlS_fuel (pg : Int) (fan : Nat) (hf : 1 ≤ fan) : ∀ (f g : Nat) (L : List Int) (z : zZ), L.length ≤ f → L.length ≤ g → mlS pg fan f L z = mlS pg fan g L z
  | 0, g, L, z, h1, h2 => by
    have : L = [] := List.length_eq_zero_iff.mp (by omega)
    subst this
    rw [mlS_nil, mlS_nil]
  | f + 1, 0, L, z, h1, h2 => by
    have : L = [] := List.length_eq_zero_iff.mp (by omega)
    subst this
    rw [mlS_nil, mlS_nil]
  | f + 1, g + 1, L, z, h1, h2 => by
    by_cases h0 : L.length = 0
    · have : L = [] := List.length_eq_zero_iff.mp h0
      subst this
      rw [mlS_nil, mlS_nil]
    · rw [mlS_cons (by omega), mlS_cons (by omega)]
      exact mlS_fuel pg fan hf f g _ _ (by rw [List.length_drop]; omega) (by rw [List.length_drop]; omega)
/-- one chunk more -/
theorem mlS_next {pg : Int} {fan a : Nat} {L : List Int} {z : zZ} (hf : 1 ≤ fan) (h : a < L.length) : mlS pg fan (L.length - a) (L.drop a) z = mlS pg fan (L.length - (a + fan)) (L.drop (a + fan)) (mlC pg ((L.drop a).take fan) z) := by
  rw [show L.length - a = (L.length - a - 1) + 1 by omega, mlS_cons (by rw [List.length_drop]; omega), List.drop_drop]
  exact mlS_fuel pg fan hf _ _ _ _ (by rw [List.length_drop]; omega) (by rw [List.length_drop]; omega)
/-- how many are merged: as many as there are, and what is left fits -/
def mkD (fan len k : Nat) : Prop := 1 < len → 2 ≤ k ∧ k ≤ len ∧ (fan - 1) ∣ (len - k) ∧ k ≤ fan
theorem mkD_next {fan len k : Nat} (hf : 2 ≤ fan) (h : mkD fan len k) (hl : 1 < len) : mkD fan (len - k + 1) fan := by
  obtain ⟨h1, h2, h3, -⟩ := h hl
  intro h4
  have h5 : fan - 1 ≤ len - k := Nat.le_of_dvd (by omega) h3
  refine ⟨hf, by omega, ?_, Nat.le_refl _⟩
  rw [show len - k + 1 - fan = (len - k) - (fan - 1) by omega]
  exact Nat.dvd_sub h3 (Nat.dvd_refl _)
theorem mkK_D {fan len : Nat} (hf : 2 ≤ fan) : mkD fan len (mkK len fan) := by
  intro h
  have e : mkK len fan = (len - 2) % (fan - 1) + 2 := by
    unfold mkK
    have h1 : (if (fan : Int) - 1 ≤ 1 then (1 : Int) else (fan : Int) - 1) = ((fan - 1 : Nat) : Int) := by
      by_cases q : (fan : Int) - 1 ≤ 1 <;> simp [q] <;> omega
    rw [h1, show (len : Int) - 2 = ((len - 2 : Nat) : Int) by omega]
    omega
  have h2 := Nat.mod_le (len - 2) (fan - 1)
  have h3 := Nat.mod_lt (len - 2) (show 0 < fan - 1 by omega)
  rw [e]
  refine ⟨by omega, by omega, ?_, by omega⟩
  rw [show len - ((len - 2) % (fan - 1) + 2) = (len - 2) - (len - 2) % (fan - 1) by omega]
  exact Nat.dvd_sub_mod _
theorem mkK_i {fan len : Nat} (hf : 2 ≤ fan) : ((mkK len fan : Nat) : Int) = (((len : Int) - 2) % (if (fan : Int) - 1 ≤ 1 then 1 else (fan : Int) - 1)) + 2 := by
  unfold mkK
  have h0 : 0 ≤ ((len : Int) - 2) % (if (fan : Int) - 1 ≤ 1 then 1 else (fan : Int) - 1) := Int.emod_nonneg _ (by by_cases q : (fan : Int) - 1 ≤ 1 <;> simp [q] <;> omega)
  omega
def bI (b : Bool) : Int := if b then 1 else 0
theorem bI_in (b : Bool) : bI b = 0 ∨ bI b = 1 := by cases b <;> simp [bI]
theorem mlC_len2 (pg : Int) (c : List Int) (z : zZ) : (mlC pg c z).2.2.2.2.length ≤ z.2.2.2.2.length + (if 1 < c.length then 1 else 0) := by
  unfold mlC
  by_cases h : 1 < c.length <;> simp [h]
theorem mlS_keep2 (pg : Int) (fan : Nat) (hf : 1 ≤ fan) : ∀ (f : Nat) (L : List Int) (z : zZ), L.length ≤ f →
    (mlS pg fan f L z).2.2.2.2.length + (mlS pg fan f L z).1.length ≤ z.2.2.2.2.length + z.1.length + L.length
  | 0, L, z, h1 => by
    have : L = [] := List.length_eq_zero_iff.mp (by omega)
    subst this
    simp [mlS]
  | f + 1, L, z, h1 => by
    by_cases h0 : L.length = 0
    · have : L = [] := List.length_eq_zero_iff.mp h0
      subst this
      simp [mlS]
    · rw [mlS_cons (by omega)]
      have i4 := mlS_keep2 pg fan hf f (L.drop fan) (mlC pg (L.take fan) z) (by rw [List.length_drop]; omega)
      have hl : (mlC pg (L.take fan) z).1.length = z.1.length + 1 := by rw [mlC_row]; simp
      have hd : (L.drop fan).length = L.length - fan := List.length_drop
      have ht : (L.take fan).length = min fan L.length := List.length_take
      have hm := mlC_len2 pg (L.take fan) z
      by_cases q : 1 < (L.take fan).length
      · rw [if_pos q] at hm; omega
      · rw [if_neg q] at hm; omega
end
section
/-! the plan's methods, the rest -/
set_option maxHeartbeats 4000000 in
set_option maxRecDepth 10000 in
theorem c_Plan_mergeByLeast (l : Launch) {r : Nat} (hr : r < 2) (fan pg n : Nat) {rs : List Int} {z : zZ} (hpg : 1 ≤ pg ∧ pg ≤ 100) (hn : n ≤ 120) (hv : zV z.1 (n : Int)) (hf : 2 ≤ fan ∧ fan ≤ 11) (h1 : z.2.2.2.1.length + z.1.length ≤ 119) (h2 : z.2.2.2.2.length + z.1.length ≤ 119) (M : zM) (h : zPl M r (pg : Int) rs z) : Mt l 4 yX4_mergeByLeast cX4_mergeByLeast 4 none (fun ad => [.ref (ad (82 + r)), .int (jI ((fan : Int)))]) M (fun _ vv M' => vv = none ∧ (zPl M' r (pg : Int) rs (leS (pg : Int) fan 120 (mkK z.1.length fan) z) ∧ zFp M M' r)) := by
  refine Mt.of (fun ad => [some (.ref (ad (82 + r))), some (.int (jI ((fan : Int)))), none, none]) (by decide +kernel) (fun _ => rfl) (fun _ => rfl) (fun _ => Nat.le_of_ble_eq_true rfl) fun X hX C hR => ?_
  subst hX
  show G X M 0 [some (.ref ((zA X) (82 + r))), some (.int (jI ((fan : Int)))), none, none] []
  have hrl := h.2.1.2.1
  have hk9 : mkK z.1.length fan ≤ 1000 := by
    have e := mkK_i (len := z.1.length) hf.1
    have h3 : ((z.1.length : Int) - 2) % (if (fan : Int) - 1 ≤ 1 then 1 else (fan : Int) - 1) < (if (fan : Int) - 1 ≤ 1 then 1 else (fan : Int) - 1) := Int.emod_lt_of_pos _ (by by_cases q : (fan : Int) - 1 ≤ 1 <;> simp [q] <;> omega)
    have h4 : (if (fan : Int) - 1 ≤ 1 then (1 : Int) else (fan : Int) - 1) ≤ 100 := by by_cases q : (fan : Int) - 1 ≤ 1 <;> simp [q] <;> omega
    omega
  have lp : ∀ (fk : Nat) (t k : Nat) (w : zZ) (N : zM), 120 - t < fk → t ≤ 120 → k ≤ 1000 → zV w.1 (n : Int) → w.2.2.2.1.length + w.1.length ≤ 119 → w.2.2.2.2.length + w.1.length ≤ 119 → mkD fan w.1.length k → leS (pg : Int) fan (120 - t) k w = leS (pg : Int) fan 120 (mkK z.1.length fan) z → zPl N r (pg : Int) rs w → zFp M N r → G X N 24 [some (.ref (zA X (82 + r))), some (.int (jI (fan : Int))), some (.int (jI (k : Int))), some (.int (jI (t : Int)))] [] := by
    intro fk
    induction fk with
    | zero => intro t k w N hk; exact absurd hk (Nat.not_lt_zero _)
    | succ fk ih =>
      intro t k w N hk t1 t2 t3 t4 t5 t6 t7 hN hF
      have hrl := hN.2.1.2.1
      refine g_iload_n C dX4_mergeByLeast_24 rfl ?_
      refine g_bipush C dX4_mergeByLeast_25 rfl ?_
      refine g_icmp_ge (tgt := 54) C dX4_mergeByLeast_27 rfl (by omega) (by omega) (fun h27 => ?_) (fun h27 => ?_)
      · refine g_vret C hR dX4_mergeByLeast_54 ?_
        refine ⟨rfl, ?_, hF⟩
        have e : leS (pg : Int) fan (120 - t) k w = w := by
          rcases Nat.eq_zero_or_pos (120 - t) with q | q
          · rw [q, leS]
          · rw [show 120 - t = (120 - t - 1) + 1 by omega, leS, if_pos (by omega)]
        rw [← t7, e]
        exact hN
      · refine g_aload_n C dX4_mergeByLeast_30 rfl ?_
        refine gf_Plan_row C (by omega) tw_70 dX4_mergeByLeast_31 ?_
        refine gc_Num_count C (by decide) tw_542 (Nat.le_of_ble_eq_true rfl) rfl dX4_mergeByLeast_34 (by omega) hN.2.1 (?_)
        refine g_iconst C dX4_mergeByLeast_37 ?_
        refine g_icmp_le (tgt := 54) C dX4_mergeByLeast_38 rfl (by omega) (by omega) (fun h38 => ?_) (fun h38 => ?_)
        · refine g_vret C hR dX4_mergeByLeast_54 ?_
          refine ⟨rfl, ?_, hF⟩
          have e : leS (pg : Int) fan (120 - t) k w = w := by
            rcases Nat.eq_zero_or_pos (120 - t) with q | q
            · rw [q, leS]
            · rw [show 120 - t = (120 - t - 1) + 1 by omega, leS, if_pos (by omega)]
          rw [← t7, e]
          exact hN
        · refine g_aload_n C dX4_mergeByLeast_41 rfl ?_
          refine g_iload_n C dX4_mergeByLeast_42 rfl ?_
          have hl : 1 < w.1.length := by omega
          have hd := t6 hl
          refine gc_Plan_mergeLeast C (by decide) tw_560 (Nat.le_of_ble_eq_true rfl) rfl dX4_mergeByLeast_43 hr k pg (n : Int) hpg (by omega) t3 (by omega) (by omega) (by omega) hN (fun N2 ⟨n1, n2⟩ => ?_)
          refine g_iload_n C dX4_mergeByLeast_46 rfl ?_
          refine g_istore_n C dX4_mergeByLeast_47 (Nat.le_of_ble_eq_true rfl) ?_
          show G X _ 48 [_, _, _, _] _
          refine g_iinc C dX4_mergeByLeast_48 rfl ?_
          show G X _ 51 [_, _, _, _] _
          refine g_goto (tgt := 24) C dX4_mergeByLeast_51 rfl ?_
          show G X _ 24 _ _
          have g1 := lsS_keep (pg := (pg : Int)) hd.2.1 t3.1
          exact ih (t + 1) fan _ N2 (by omega) (by omega) (by omega) ⟨g1.1, by rw [g1.2.1]; exact t3.2⟩ (by rw [g1.2.2]; show (w.2.2.2.1 ++ [_]).length + _ ≤ 119; rw [List.length_append]; simp; omega) (by rw [g1.2.2]; show (w.2.2.2.2 ++ [_]).length + _ ≤ 119; rw [List.length_append]; simp; omega) (by rw [g1.2.2]; exact mkD_next hf.1 t6 hl) (by rw [← t7, show 120 - t = (120 - (t + 1)) + 1 by omega, leS, if_neg (by omega)]) n1 (hF.trans n2)
  refine g_aload_n C dX4_mergeByLeast_0 rfl ?_
  refine gf_Plan_row C (by omega) tw_70 dX4_mergeByLeast_1 ?_
  refine gc_Num_count C (by decide) tw_542 (Nat.le_of_ble_eq_true rfl) rfl dX4_mergeByLeast_4 (by omega) h.2.1 (?_)
  refine g_iconst C dX4_mergeByLeast_7 ?_
  refine g_isub C dX4_mergeByLeast_8 ?_
  refine g_iconst C dX4_mergeByLeast_9 ?_
  show G X _ 10 _ _
  refine g_iload_n C dX4_mergeByLeast_10 rfl ?_
  refine g_iconst C dX4_mergeByLeast_11 ?_
  refine g_isub C dX4_mergeByLeast_12 ?_
  refine gc_max C (by decide) tw_532 (Nat.le_of_ble_eq_true rfl) rfl dX4_mergeByLeast_13 _ _ (by omega) (by omega) (?_)
  have hmx : 0 < (if (fan : Int) - 1 ≤ 1 then (1 : Int) else (fan : Int) - 1) ∧ (if (fan : Int) - 1 ≤ 1 then (1 : Int) else (fan : Int) - 1) ≤ 100 := by by_cases q : (fan : Int) - 1 ≤ 1 <;> simp [q] <;> omega
  refine gc_floorMod C (by decide) tw_559 (Nat.le_of_ble_eq_true rfl) rfl dX4_mergeByLeast_16 _ _ (by omega) (by omega) (?_)
  refine g_iconst C dX4_mergeByLeast_19 ?_
  show G X _ 20 _ _
  refine g_iadd C dX4_mergeByLeast_20 ?_
  rw [← mkK_i hf.1]
  refine g_istore_n C dX4_mergeByLeast_21 (Nat.le_of_ble_eq_true rfl) ?_
  show G X _ 22 [_, _, _, _] _
  refine g_iconst C dX4_mergeByLeast_22 ?_
  refine g_istore_n C dX4_mergeByLeast_23 (Nat.le_of_ble_eq_true rfl) ?_
  show G X _ 24 [_, _, _, _] _
  exact lp 300 0 (mkK z.1.length fan) z M (by omega) (Nat.zero_le _) hk9 hv h1 h2 (mkK_D hf.1) rfl h zFp.refl
theorem gc_Plan_mergeByLeast {X : z_X} {cc : ByteArray} {own : String} {ret : Option FieldType} {dC nC : Nat} {M : zM} {pc : Nat} {lv : List (Option Value)} {st : List Value} (C : Cx cc own ret dC nC X) (hdep : 5 ≤ dC) {idx : Nat} (hl0 : Cond.methodLink own idx yX4_mergeByLeast ∈ tT) (hcat : (st.map fun v => v.category).sum ≤ 8) (hlen : lv.length = nC) (hdec : decode cc pc = .ok (.invokevirtual idx, 3)) {r : Nat} (hr : r < 2) (fan pg n : Nat) {rs : List Int} {z : zZ} (hpg : 1 ≤ pg ∧ pg ≤ 100) (hn : n ≤ 120) (hv : zV z.1 (n : Int)) (hf : 2 ≤ fan ∧ fan ≤ 11) (h1 : z.2.2.2.1.length + z.1.length ≤ 119) (h2 : z.2.2.2.2.length + z.1.length ≤ 119) (h : zPl M r (pg : Int) rs z) (kk : ∀ M' : zM, (zPl M' r (pg : Int) rs (leS (pg : Int) fan 120 (mkK z.1.length fan) z) ∧ zFp M M' r) → G X M' (pc + 3) lv st) : G X M pc lv (.int (jI ((fan : Int))) :: .ref (zA X (82 + r)) :: st) := by
  refine g_callV (k := 1) (o := 82 + r) C (c_Plan_mergeByLeast (zL X) hr fan pg n hpg hn hv hf h1 h2 M h) mfX4_mergeByLeast hl0 ⟨rfl, by decide +kernel, by decide +kernel, by decide +kernel⟩ ⟨hdep, by decide⟩ (by omega) (fun _ _ _ _ => ze_plan (by omega)) rfl rfl rfl rfl hcat hlen hdec (fun v M' h => ?_)
  obtain ⟨rfl, h⟩ := h
  exact kk M' h
set_option maxHeartbeats 4000000 in
set_option maxRecDepth 10000 in
theorem c_Plan_mergeLevel (l : Launch) {r : Nat} (hr : r < 2) (fan pg n : Nat) {rs L : List Int} {z0 : Int × Int × List Int × List Int} (hpg : 1 ≤ pg ∧ pg ≤ 100) (hn : n ≤ 120) (hv : zV L (n : Int)) (hf : 2 ≤ fan ∧ fan ≤ 11) (h1 : z0.2.2.1.length + L.length ≤ 119) (h2 : z0.2.2.2.length + L.length ≤ 119) (M : zM) (h : zPl M r (pg : Int) rs (L, z0)) : Mt l 3 yX4_mergeLevel cX4_mergeLevel 8 none (fun ad => [.ref (ad (82 + r)), .int (jI ((fan : Int)))]) M (fun _ vv M' => vv = none ∧ (zPl M' r (pg : Int) rs (mlS (pg : Int) fan L.length L ([], z0)) ∧ zFp M M' r)) := by
  refine Mt.of (fun ad => [some (.ref (ad (82 + r))), some (.int (jI ((fan : Int)))), none, none, none, none, none, none]) (by decide +kernel) (fun _ => rfl) (fun _ => rfl) (fun _ => Nat.le_of_ble_eq_true rfl) fun X hX C hR => ?_
  subst hX
  show G X M 0 [some (.ref ((zA X) (82 + r))), some (.int (jI ((fan : Int)))), none, none, none, none, none, none] []
  have lp : ∀ (fk : Nat) (a : Nat) (z : zZ) (Lc : List Int) (N : zM), L.length - a < fk → a ≤ 300 → z.1.length ≤ a → Lc.length = L.length → (∀ j, a ≤ j → nA Lc j = nA L j) → Lc.take z.1.length = z.1 → z.1.length ≤ L.length → mlS (pg : Int) fan (L.length - a) (L.drop a) z = mlS (pg : Int) fan L.length L ([], z0) → z.2.2.2.1.length + (L.length - a) ≤ 119 → z.2.2.2.2.length + (L.length - a) ≤ 119 → zPl N r (pg : Int) rs (Lc, z.2) → zFp M N r → G X N 13 [some (.ref (zA X (82 + r))), some (.int (jI (fan : Int))), some (.int (jI (L.length : Int))), some (.int (jI (z.1.length : Int))), some (.int (jI (a : Int))), none, none, none] [] := by
    intro fk
    induction fk with
    | zero => intro a z Lc N hk; exact absurd hk (Nat.not_lt_zero _)
    | succ fk ih =>
      intro a z Lc N hk i1 i2 i3 i4 i5 i6 i7 i8 i9 hN hF
      have hrl := h.2.1.2.1
      refine g_iload C dX4_mergeLevel_13 rfl ?_
      refine g_iload_n C dX4_mergeLevel_15 rfl ?_
      refine g_icmp_ge (tgt := 165) C dX4_mergeLevel_16 rfl (by omega) (by omega) (fun h16 => ?_) (fun h16 => ?_)
      · refine g_aload_n C dX4_mergeLevel_165 rfl ?_
        refine gf_Plan_row C (by omega) tw_70 dX4_mergeLevel_166 ?_
        refine g_iload_n C dX4_mergeLevel_169 rfl ?_
        refine gc_Num_cutTo C (by decide) tw_588 (Nat.le_of_ble_eq_true rfl) rfl dX4_mergeLevel_170 (by omega) (L := Lc) _ (by omega) hN.2.1 (fun N2 ⟨n1, n2⟩ => ?_)
        refine g_vret C hR dX4_mergeLevel_173 ?_
        refine ⟨rfl, ?_, hF.trans (zFp.num n2 (by omega) (by omega))⟩
        rw [← i7, List.drop_eq_nil_of_le (by omega), mlS_nil]
        have g := hN.row hr n1 n2
        rw [i5] at g
        exact g
      · have hsm := sm_in hv a (min (a + fan) L.length)
        have hb143 : ∀ (N2 : zM) (z2 : zZ) (y7 : Option Value), z2 = mlC (pg : Int) ((L.drop a).take fan) z → zPl N2 r (pg : Int) rs (Lc, z2.2) → zFp M N2 r → z2.2.2.2.1.length + (L.length - (a + fan)) ≤ 119 → z2.2.2.2.2.length + (L.length - (a + fan)) ≤ 119 → G X N2 143 [some (.ref (zA X (82 + r))), some (.int (jI (fan : Int))), some (.int (jI (L.length : Int))), some (.int (jI (z.1.length : Int))), some (.int (jI (a : Int))), some (.int (jI ((min (a + fan) L.length : Nat) : Int))), some (.int (jI (sm L a (min (a + fan) L.length)))), y7] [] := by
          intro N2 z2 y7 q0 q1 q2 q3 q4
          refine g_aload_n C dX4_mergeLevel_143 rfl ?_
          refine gf_Plan_row C (by omega) tw_70 dX4_mergeLevel_144 ?_
          refine g_iload_n C dX4_mergeLevel_147 rfl ?_
          refine g_iload C dX4_mergeLevel_148 rfl ?_
          refine gc_Num_set C (by decide) tw_584 (Nat.le_of_ble_eq_true rfl) rfl dX4_mergeLevel_150 (by omega) (L := Lc) _ _ (by omega) q1.2.1 (fun N3 ⟨n1, n2⟩ => ?_)
          refine g_iinc C dX4_mergeLevel_153 rfl ?_
          show G X _ 156 [_, _, _, _, _, _, _, _] _
          refine g_iload C dX4_mergeLevel_156 rfl ?_
          refine g_iload_n C dX4_mergeLevel_158 rfl ?_
          refine g_iadd C dX4_mergeLevel_159 ?_
          refine g_istore C dX4_mergeLevel_160 (Nat.le_of_ble_eq_true rfl) ?_
          show G X _ 162 [_, _, _, _, _, _, _, _] _
          refine g_goto (tgt := 13) C dX4_mergeLevel_162 rfl ?_
          show G X _ 13 _ _
          rw [show (a : Int) + (fan : Int) = ((a + fan : Nat) : Int) by omega]
          refine g_mask [true, true, true, true, true, false, false, false] rfl ?_
          show G X _ 13 [_, _, _, _, _, _, _, _] _
          have hz2 : z2.1 = z.1 ++ [sm L a (min (a + fan) L.length)] := by rw [q0, mlC_row, sm_take]
          have hz3 : z2.1.length = z.1.length + 1 := by rw [hz2]; simp
          rw [show (z.1.length : Int) + 1 = (z2.1.length : Int) by omega]
          refine ih (a + fan) z2 (Lc.set z.1.length (sm L a (min (a + fan) L.length))) N3 (by omega) (by omega) (by omega) (by rw [List.length_set]; exact i3) (fun j hj => by rw [nA_set (by omega)]; exact i4 j (by omega)) (by rw [hz3, set_take i5 (by omega), hz2]) (by omega) (by rw [← i7, mlS_next (a := a) (by omega) (by omega), q0]) q3 q4 (q1.row hr n1 n2) (q2.trans (zFp.num n2 (by omega) (by omega)))
        have lpB : ∀ (fb : Nat) (i : Nat) (N2 : zM), L.length - i < fb → 1 < min (a + fan) L.length - a → a ≤ i → i ≤ min (a + fan) L.length → zPl N2 r (pg : Int) rs (Lc, z.2.1 + sm (L.map (fun v => pgs v (pg : Int))) a i, z.2.2) → zFp M N2 r → G X N2 76 [some (.ref (zA X (82 + r))), some (.int (jI (fan : Int))), some (.int (jI (L.length : Int))), some (.int (jI (z.1.length : Int))), some (.int (jI (a : Int))), some (.int (jI ((min (a + fan) L.length : Nat) : Int))), some (.int (jI (sm L a (min (a + fan) L.length)))), some (.int (jI (i : Int)))] [] := by
          intro fb
          induction fb with
          | zero => intro i N2 hk; exact absurd hk (Nat.not_lt_zero _)
          | succ fb ihB =>
            intro i N2 hkB b0 b1 b2 g1 g2
            
            refine g_iload C dX4_mergeLevel_76 rfl ?_
            refine g_iload C dX4_mergeLevel_78 rfl ?_
            refine g_icmp_ge (tgt := 114) C dX4_mergeLevel_80 rfl (by omega) (by omega) (fun h80 => ?_) (fun h80 => ?_)
            · obtain rfl : i = min (a + fan) L.length := by omega
              refine g_aload_n C dX4_mergeLevel_114 rfl ?_
              refine g_dup C dX4_mergeLevel_115 rfl ?_
              refine gf_Plan_writtenPages C (by omega) tw_68 dX4_mergeLevel_116 ?_
              rw [show N2 (82 + r) 4 = z.2.2.1 from g1.2.2.2.1]
              refine g_iload C dX4_mergeLevel_119 rfl ?_
              refine g_aload_n C dX4_mergeLevel_121 rfl ?_
              refine gf_Plan_page C (by omega) tw_72 dX4_mergeLevel_122 ?_
              rw [g1.2.2.2.2.2.2]
              show G X _ 125 _ _
              refine gc_pagesForN C (by decide) (fun _ h => h.2) (Nat.le_of_ble_eq_true rfl) rfl dX4_mergeLevel_125 _ _ (by omega) (by omega) (?_)
              refine g_iadd C dX4_mergeLevel_128 ?_
              refine gp_Plan_writtenPages C (by omega) tw_68 dX4_mergeLevel_129 ?_
              have g4 : zPl (zu N2 (82 + r) 4 (z.2.2.1 + pgs (sm L a (min (a + fan) L.length)) (pg : Int))) r (pg : Int) rs (Lc, z.2.1 + sm (L.map (fun v => pgs v (pg : Int))) a (min (a + fan) L.length), z.2.2.1 + pgs (sm L a (min (a + fan) L.length)) (pg : Int), z.2.2.2) := g1.wr hr _
              refine g_aload_n C dX4_mergeLevel_132 rfl ?_
              refine g_iload C dX4_mergeLevel_133 rfl ?_
              refine g_iload C dX4_mergeLevel_135 rfl ?_
              show G X _ 137 _ _
              
              refine g_isub C dX4_mergeLevel_137 ?_
              refine g_iload C dX4_mergeLevel_138 rfl ?_
              rw [show ((min (a + fan) L.length : Nat) : Int) - (a : Int) = ((min (a + fan) L.length - a : Nat) : Int) by omega]
              refine gc_Plan_noteMerge C (by decide) tw_572 (Nat.le_of_ble_eq_true rfl) rfl dX4_mergeLevel_140 hr (pg := (pg : Int)) (rs := rs) (z := (Lc, z.2.1 + sm (L.map (fun v => pgs v (pg : Int))) a (min (a + fan) L.length), z.2.2.1 + pgs (sm L a (min (a + fan) L.length)) (pg : Int), z.2.2.2)) _ _ (by show z.2.2.2.1.length < 120; omega) (by show z.2.2.2.2.length < 120; omega) g4 (fun N5 ⟨n5, n6⟩ => ?_)
              refine hb143 N5 _ _ rfl ?_ ((g2.trans zFp.fld).trans n6) ?_ ?_
              · rw [mlC_at (by omega), if_pos (by omega)]; exact n5
              · rw [mlC_at (by omega), if_pos (by omega)]; show (z.2.2.2.1 ++ [_]).length + _ ≤ 119; rw [List.length_append]; simp; omega
              · rw [mlC_at (by omega), if_pos (by omega)]; show (z.2.2.2.2 ++ [_]).length + _ ≤ 119; rw [List.length_append]; simp; omega
            · refine g_aload_n C dX4_mergeLevel_83 rfl ?_
              refine g_dup C dX4_mergeLevel_84 rfl ?_
              refine gf_Plan_readPages C (by omega) tw_66 dX4_mergeLevel_85 ?_
              rw [show N2 (82 + r) 3 = _ from g1.2.2.1]
              refine g_aload_n C dX4_mergeLevel_88 rfl ?_
              refine gf_Plan_row C (by omega) tw_70 dX4_mergeLevel_89 ?_
              refine g_iload C dX4_mergeLevel_92 rfl ?_
              show G X _ 94 _ _
              refine gc_Num_valueAt C (by decide) tw_546 (Nat.le_of_ble_eq_true rfl) rfl dX4_mergeLevel_94 (by omega) (L := Lc) i (by omega) g1.2.1 (?_)
              rw [i4 i (by omega)]
              refine g_aload_n C dX4_mergeLevel_97 rfl ?_
              refine gf_Plan_page C (by omega) tw_72 dX4_mergeLevel_98 ?_
              rw [g1.2.2.2.2.2.2]
              refine gc_pagesForN C (by decide) (fun _ h => h.2) (Nat.le_of_ble_eq_true rfl) rfl dX4_mergeLevel_101 _ _ (by have := hv.at (by omega) i; omega) (by omega) (?_)
              refine g_iadd C dX4_mergeLevel_104 ?_
              refine gp_Plan_readPages C (by omega) tw_66 dX4_mergeLevel_105 ?_
              show G X _ 108 _ _
              refine g_iinc C dX4_mergeLevel_108 rfl ?_
              show G X _ 111 [_, _, _, _, _, _, _, _] _
              refine g_goto (tgt := 76) C dX4_mergeLevel_111 rfl ?_
              show G X _ 76 _ _
              refine ihB (i + 1) _ (by omega) b0 (by omega) (by omega) ?_ (g2.trans zFp.fld)
              have g3 := g1.rd hr (z.2.1 + sm (L.map (fun v => pgs v (pg : Int))) a i + pgs (nA L i) (pg : Int))
              rw [sm_map1 (by omega) (by omega), ← Int.add_assoc]
              exact g3
        have lpA : ∀ (fb : Nat) (i : Nat), L.length - i < fb → a ≤ i → i ≤ min (a + fan) L.length → G X N 36 [some (.ref (zA X (82 + r))), some (.int (jI (fan : Int))), some (.int (jI (L.length : Int))), some (.int (jI (z.1.length : Int))), some (.int (jI (a : Int))), some (.int (jI ((min (a + fan) L.length : Nat) : Int))), some (.int (jI (sm L a i))), some (.int (jI (i : Int)))] [] := by
          intro fb
          induction fb with
          | zero => intro i hk; exact absurd hk (Nat.not_lt_zero _)
          | succ fb ihA =>
            intro i hkA b1 b2
            refine g_iload C dX4_mergeLevel_36 rfl ?_
            refine g_iload C dX4_mergeLevel_38 rfl ?_
            refine g_icmp_ge (tgt := 63) C dX4_mergeLevel_40 rfl (by omega) (by omega) (fun h40 => ?_) (fun h40 => ?_)
            · obtain rfl : i = min (a + fan) L.length := by omega
              refine g_iload C dX4_mergeLevel_63 rfl ?_
              refine g_iload C dX4_mergeLevel_65 rfl ?_
              refine g_isub C dX4_mergeLevel_67 ?_
              refine g_iconst C dX4_mergeLevel_68 ?_
              rw [show ((min (a + fan) L.length : Nat) : Int) - (a : Int) = ((min (a + fan) L.length - a : Nat) : Int) by omega]
              refine g_icmp_le (tgt := 143) C dX4_mergeLevel_69 rfl (by omega) (by omega) (fun h69 => ?_) (fun h69 => ?_)
              · refine hb143 N _ _ rfl ?_ hF ?_ ?_
                · rw [mlC_at (by omega), if_neg (by omega)]; exact hN
                · rw [mlC_at (by omega), if_neg (by omega)]; show z.2.2.2.1.length + _ ≤ 119; omega
                · rw [mlC_at (by omega), if_neg (by omega)]; show z.2.2.2.2.length + _ ≤ 119; omega
              · refine g_iload C dX4_mergeLevel_72 rfl ?_
                refine g_istore C dX4_mergeLevel_74 (Nat.le_of_ble_eq_true rfl) ?_
                show G X _ 76 [_, _, _, _, _, _, _, _] _
                exact lpB 300 a N (by omega) (by omega) (Nat.le_refl _) (by omega) (by rw [sm_0, Int.add_zero]; exact hN) hF
            · refine g_iload C dX4_mergeLevel_43 rfl ?_
              refine g_aload_n C dX4_mergeLevel_45 rfl ?_
              refine gf_Plan_row C (by omega) tw_70 dX4_mergeLevel_46 ?_
              refine g_iload C dX4_mergeLevel_49 rfl ?_
              refine gc_Num_valueAt C (by decide) tw_546 (Nat.le_of_ble_eq_true rfl) rfl dX4_mergeLevel_51 (by omega) (L := Lc) i (by omega) hN.2.1 (?_)
              rw [i4 i (by omega)]
              refine g_iadd C dX4_mergeLevel_54 ?_
              show G X _ 55 _ _
              rw [← sm_1 (by omega) (by omega)]
              refine g_istore C dX4_mergeLevel_55 (Nat.le_of_ble_eq_true rfl) ?_
              show G X _ 57 [_, _, _, _, _, _, _, _] _
              refine g_iinc C dX4_mergeLevel_57 rfl ?_
              show G X _ 60 [_, _, _, _, _, _, _, _] _
              refine g_goto (tgt := 36) C dX4_mergeLevel_60 rfl ?_
              show G X _ 36 _ _
              exact ihA (i + 1) (by omega) (by omega) (by omega)
        refine g_iload C dX4_mergeLevel_19 rfl ?_
        refine g_iload_n C dX4_mergeLevel_21 rfl ?_
        refine g_iadd C dX4_mergeLevel_22 ?_
        refine g_iload_n C dX4_mergeLevel_23 rfl ?_
        refine gc_min C (by decide) tw_505 (Nat.le_of_ble_eq_true rfl) rfl dX4_mergeLevel_24 _ _ (by omega) (by omega) (?_)
        rw [show (if (a : Int) + (fan : Int) ≤ (L.length : Int) then (a : Int) + (fan : Int) else (L.length : Int)) = ((min (a + fan) L.length : Nat) : Int) by by_cases q : (a : Int) + (fan : Int) ≤ (L.length : Int) <;> simp [q] <;> omega]
        refine g_istore C dX4_mergeLevel_27 (Nat.le_of_ble_eq_true rfl) ?_
        show G X _ 29 [_, _, _, _, _, _, _, _] _
        refine g_iconst C dX4_mergeLevel_29 ?_
        refine g_istore C dX4_mergeLevel_30 (Nat.le_of_ble_eq_true rfl) ?_
        show G X _ 32 [_, _, _, _, _, _, _, _] _
        refine g_iload C dX4_mergeLevel_32 rfl ?_
        refine g_istore C dX4_mergeLevel_34 (Nat.le_of_ble_eq_true rfl) ?_
        show G X _ 36 [_, _, _, _, _, _, _, _] _
        rw [show (0 : Int) = sm L a a from sm_0.symm]
        exact lpA 300 a (by omega) (Nat.le_refl _) (by omega)
  refine g_aload_n C dX4_mergeLevel_0 rfl ?_
  refine gf_Plan_row C (by omega) tw_70 dX4_mergeLevel_1 ?_
  refine gc_Num_count C (by decide) tw_542 (Nat.le_of_ble_eq_true rfl) rfl dX4_mergeLevel_4 (by omega) h.2.1 (?_)
  refine g_istore_n C dX4_mergeLevel_7 (Nat.le_of_ble_eq_true rfl) ?_
  show G X _ 8 [_, _, _, _, _, _, _, _] _
  refine g_iconst C dX4_mergeLevel_8 ?_
  refine g_istore_n C dX4_mergeLevel_9 (Nat.le_of_ble_eq_true rfl) ?_
  show G X _ 10 [_, _, _, _, _, _, _, _] _
  refine g_iconst C dX4_mergeLevel_10 ?_
  refine g_istore C dX4_mergeLevel_11 (Nat.le_of_ble_eq_true rfl) ?_
  show G X _ 13 [_, _, _, _, _, _, _, _] _
  exact lp 300 0 ([], z0) L M (by have := h.2.1.2.1; show L.length - 0 < 300; simp at this; omega) (by omega) (Nat.le_refl _) rfl (fun _ _ => rfl) rfl (Nat.zero_le _) rfl (by show z0.2.2.1.length + (L.length - 0) ≤ 119; omega) (by show z0.2.2.2.length + (L.length - 0) ≤ 119; omega) h zFp.refl
theorem gc_Plan_mergeLevel {X : z_X} {cc : ByteArray} {own : String} {ret : Option FieldType} {dC nC : Nat} {M : zM} {pc : Nat} {lv : List (Option Value)} {st : List Value} (C : Cx cc own ret dC nC X) (hdep : 4 ≤ dC) {idx : Nat} (hl0 : Cond.methodLink own idx yX4_mergeLevel ∈ tT) (hcat : (st.map fun v => v.category).sum ≤ 8) (hlen : lv.length = nC) (hdec : decode cc pc = .ok (.invokevirtual idx, 3)) {r : Nat} (hr : r < 2) (fan pg n : Nat) {rs L : List Int} {z0 : Int × Int × List Int × List Int} (hpg : 1 ≤ pg ∧ pg ≤ 100) (hn : n ≤ 120) (hv : zV L (n : Int)) (hf : 2 ≤ fan ∧ fan ≤ 11) (h1 : z0.2.2.1.length + L.length ≤ 119) (h2 : z0.2.2.2.length + L.length ≤ 119) (h : zPl M r (pg : Int) rs (L, z0)) (kk : ∀ M' : zM, (zPl M' r (pg : Int) rs (mlS (pg : Int) fan L.length L ([], z0)) ∧ zFp M M' r) → G X M' (pc + 3) lv st) : G X M pc lv (.int (jI ((fan : Int))) :: .ref (zA X (82 + r)) :: st) := by
  refine g_callV (k := 1) (o := 82 + r) C (c_Plan_mergeLevel (zL X) hr fan pg n hpg hn hv hf h1 h2 M h) mfX4_mergeLevel hl0 ⟨rfl, by decide +kernel, by decide +kernel, by decide +kernel⟩ ⟨hdep, by decide⟩ (by omega) (fun _ _ _ _ => ze_plan (by omega)) rfl rfl rfl rfl hcat hlen hdec (fun v M' h => ?_)
  obtain ⟨rfl, h⟩ := h
  exact kk M' h
set_option maxHeartbeats 4000000 in
set_option maxRecDepth 10000 in
theorem c_Plan_mergeByLevels (l : Launch) {r : Nat} (hr : r < 2) (fan pg n : Nat) {rs : List Int} {z : zZ} (hpg : 1 ≤ pg ∧ pg ≤ 100) (hn : n ≤ 120) (hv : zV z.1 (n : Int)) (hf : 2 ≤ fan ∧ fan ≤ 11) (h1 : z.2.2.2.1.length + z.1.length ≤ 119) (h2 : z.2.2.2.2.length + z.1.length ≤ 119) (M : zM) (h : zPl M r (pg : Int) rs z) : Mt l 4 yX4_mergeByLevels cX4_mergeByLevels 3 none (fun ad => [.ref (ad (82 + r)), .int (jI ((fan : Int)))]) M (fun _ vv M' => vv = none ∧ (zPl M' r (pg : Int) rs (lvS (pg : Int) fan 120 z) ∧ zFp M M' r)) := by
  refine Mt.of (fun ad => [some (.ref (ad (82 + r))), some (.int (jI ((fan : Int)))), none]) (by decide +kernel) (fun _ => rfl) (fun _ => rfl) (fun _ => Nat.le_of_ble_eq_true rfl) fun X hX C hR => ?_
  subst hX
  show G X M 0 [some (.ref ((zA X) (82 + r))), some (.int (jI ((fan : Int)))), none] []
  have lp : ∀ (fk : Nat) (t : Nat) (w : zZ) (N : zM), 120 - t < fk → t ≤ 120 → zV w.1 (n : Int) → w.2.2.2.1.length + w.1.length ≤ 119 → w.2.2.2.2.length + w.1.length ≤ 119 → lvS (pg : Int) fan (120 - t) w = lvS (pg : Int) fan 120 z → zPl N r (pg : Int) rs w → zFp M N r → G X N 2 [some (.ref (zA X (82 + r))), some (.int (jI (fan : Int))), some (.int (jI (t : Int)))] [] := by
    intro fk
    induction fk with
    | zero => intro t w N hk; exact absurd hk (Nat.not_lt_zero _)
    | succ fk ih =>
      intro t w N hk t1 t3 t4 t5 t7 hN hF
      have hrl := hN.2.1.2.1
      refine g_iload_n C dX4_mergeByLevels_2 rfl ?_
      refine g_bipush C dX4_mergeByLevels_3 rfl ?_
      refine g_icmp_ge (tgt := 34) C dX4_mergeByLevels_5 rfl (by omega) (by omega) (fun h5 => ?_) (fun h5 => ?_)
      · refine g_vret C hR dX4_mergeByLevels_34 ?_
        refine ⟨rfl, ?_, hF⟩
        have e : lvS (pg : Int) fan (120 - t) w = w := by
          rcases Nat.eq_zero_or_pos (120 - t) with q | q
          · rw [q, lvS]
          · rw [show 120 - t = (120 - t - 1) + 1 by omega, lvS, if_pos (by omega)]
        rw [← t7, e]
        exact hN
      · refine g_aload_n C dX4_mergeByLevels_8 rfl ?_
        refine gf_Plan_row C (by omega) tw_70 dX4_mergeByLevels_9 ?_
        refine gc_Num_count C (by decide) tw_542 (Nat.le_of_ble_eq_true rfl) rfl dX4_mergeByLevels_12 (by omega) hN.2.1 (?_)
        refine g_iconst C dX4_mergeByLevels_15 ?_
        refine g_icmp_le (tgt := 34) C dX4_mergeByLevels_16 rfl (by omega) (by omega) (fun h16 => ?_) (fun h16 => ?_)
        · refine g_vret C hR dX4_mergeByLevels_34 ?_
          refine ⟨rfl, ?_, hF⟩
          have e : lvS (pg : Int) fan (120 - t) w = w := by
            rcases Nat.eq_zero_or_pos (120 - t) with q | q
            · rw [q, lvS]
            · rw [show 120 - t = (120 - t - 1) + 1 by omega, lvS, if_pos (by omega)]
          rw [← t7, e]
          exact hN
        · refine g_aload_n C dX4_mergeByLevels_19 rfl ?_
          refine g_iconst C dX4_mergeByLevels_20 ?_
          refine g_iload_n C dX4_mergeByLevels_21 rfl ?_
          refine gc_max C (by decide) tw_532 (Nat.le_of_ble_eq_true rfl) rfl dX4_mergeByLevels_22 _ _ (by omega) (by omega) (?_)
          rw [show (if (fan : Int) ≤ 2 then (2 : Int) else (fan : Int)) = (fan : Int) by by_cases q : (fan : Int) ≤ 2 <;> simp [q] <;> omega]
          refine gc_Plan_mergeLevel C (by decide) tw_580 (Nat.le_of_ble_eq_true rfl) rfl dX4_mergeByLevels_25 hr (L := w.1) (z0 := w.2) fan pg n hpg hn t3 hf t4 t5 hN (fun N2 ⟨n1, n2⟩ => ?_)
          refine g_iinc C dX4_mergeByLevels_28 rfl ?_
          show G X _ 31 [_, _, _] _
          refine g_goto (tgt := 2) C dX4_mergeByLevels_31 rfl ?_
          show G X _ 2 _ _
          have g1 := mlS_keep (pg : Int) fan (by omega) w.1.length w.1 ([], w.2) (Nat.le_refl _) t3.1 (by simp)
          have g2 := mlS_keep2 (pg : Int) fan (by omega) w.1.length w.1 ([], w.2) (Nat.le_refl _)
          refine ih (t + 1) _ N2 (by omega) (by omega) ⟨g1.1, by rw [g1.2.1]; simpa using t3.2⟩ ?_ ?_ (by rw [← t7, show 120 - t = (120 - (t + 1)) + 1 by omega, lvS, if_neg (by omega)]) n1 (hF.trans n2)
          · have := g1.2.2.2.1
            simp at this
            omega
          · have := g2
            simp at this
            omega
  refine g_iconst C dX4_mergeByLevels_0 ?_
  refine g_istore_n C dX4_mergeByLevels_1 (Nat.le_of_ble_eq_true rfl) ?_
  show G X _ 2 [_, _, _] _
  exact lp 300 0 z M (by omega) (Nat.zero_le _) hv h1 h2 rfl h zFp.refl
theorem gc_Plan_mergeByLevels {X : z_X} {cc : ByteArray} {own : String} {ret : Option FieldType} {dC nC : Nat} {M : zM} {pc : Nat} {lv : List (Option Value)} {st : List Value} (C : Cx cc own ret dC nC X) (hdep : 5 ≤ dC) {idx : Nat} (hl0 : Cond.methodLink own idx yX4_mergeByLevels ∈ tT) (hcat : (st.map fun v => v.category).sum ≤ 8) (hlen : lv.length = nC) (hdec : decode cc pc = .ok (.invokevirtual idx, 3)) {r : Nat} (hr : r < 2) (fan pg n : Nat) {rs : List Int} {z : zZ} (hpg : 1 ≤ pg ∧ pg ≤ 100) (hn : n ≤ 120) (hv : zV z.1 (n : Int)) (hf : 2 ≤ fan ∧ fan ≤ 11) (h1 : z.2.2.2.1.length + z.1.length ≤ 119) (h2 : z.2.2.2.2.length + z.1.length ≤ 119) (h : zPl M r (pg : Int) rs z) (kk : ∀ M' : zM, (zPl M' r (pg : Int) rs (lvS (pg : Int) fan 120 z) ∧ zFp M M' r) → G X M' (pc + 3) lv st) : G X M pc lv (.int (jI ((fan : Int))) :: .ref (zA X (82 + r)) :: st) := by
  refine g_callV (k := 1) (o := 82 + r) C (c_Plan_mergeByLevels (zL X) hr fan pg n hpg hn hv hf h1 h2 M h) mfX4_mergeByLevels hl0 ⟨rfl, by decide +kernel, by decide +kernel, by decide +kernel⟩ ⟨hdep, by decide⟩ (by omega) (fun _ _ _ _ => ze_plan (by omega)) rfl rfl rfl rfl hcat hlen hdec (fun v M' h => ?_)
  obtain ⟨rfl, h⟩ := h
  exact kk M' h
set_option maxHeartbeats 4000000 in
set_option maxRecDepth 10000 in
theorem c_Plan_runByReplacing (l : Launch) {r : Nat} (hr : r < 2) {q : Nat} (hq : q < 20) {L : List (Int × Int)} (room : Nat) (hrm : 1 ≤ room ∧ room ≤ 10000) (hb : zIn L) (hn : L.length ≤ 100) (M : zM) (hL : zRow M q L) (h : zNum M (4 * r) []) : Mt l 4 yX4_runByReplacing cX4_runByReplacing 12 none (fun ad => [.ref (ad (82 + r)), .ref (ad (3 * q)), .int (jI (0)), .int (jI ((room : Int)))]) M (fun _ vv M' => vv = none ∧ (zNum M' (4 * r) (rpR L room) ∧ ∀ o, o ≠ 60 + 2 * (4 * r) → o ≠ 61 + 2 * (4 * r) → o ≠ 76 + 2 * r → o ≠ 77 + 2 * r → M' o = M o)) := by
  refine Mt.of (fun ad => [some (.ref (ad (82 + r))), some (.ref (ad (3 * q))), some (.int (jI (0))), some (.int (jI ((room : Int)))), none, none, none, none, none, none, none, none]) (by decide +kernel) (fun _ => rfl) (fun _ => rfl) (fun _ => Nat.le_of_ble_eq_true rfl) fun X hX C hR => ?_
  subst hX
  show G X M 0 [some (.ref ((zA X) (82 + r))), some (.ref ((zA X) (3 * q))), some (.int (jI (0))), some (.int (jI ((room : Int)))), none, none, none, none, none, none, none, none] []
  have lp2 : ∀ (fk : Nat) (g : Nat) (s : zR) (N : zM), 200 - g < fk → g ≤ L.length → rpJ L room g s → rpS L (L.length - g) s = rpR L room → zHp N r s.1 → zNum N (4 * r) s.2.2.2.2 → (∀ o, o ≠ 60 + 2 * (4 * r) → o ≠ 61 + 2 * (4 * r) → o ≠ 76 + 2 * r → o ≠ 77 + 2 * r → N o = M o) → G X N 60 [some (.ref (zA X (82 + r))), some (.ref (zA X (3 * q))), some (.int (jI 0)), some (.int (jI (room : Int))), some (.int (jI (L.length : Int))), some (.int (jI (s.2.2.2.1 : Int))), some (.int (jI s.2.1)), some (.int (jI s.2.2.1)), some (.int (jI (g : Int))), none, none, none] [] := by
    intro fk
    induction fk with
    | zero => intro g s N hk; exact absurd hk (Nat.not_lt_zero _)
    | succ fk ih =>
      intro g s N hk i1 hJ hS hH hN hF
      obtain ⟨S1, run0, size0, filled, acc0⟩ := s
      dsimp only at hH hN ⊢
      refine g_iload C dX4_runByReplacing_60 rfl ?_
      refine g_iload C dX4_runByReplacing_62 rfl ?_
      refine g_icmp_ge (tgt := 173) C dX4_runByReplacing_64 rfl (by omega) (by omega) (fun h64 => ?_) (fun h64 => ?_)
      · have hg : g = L.length := by omega
        have js := hJ.2.2.2.2.2.1
        have jq := len_le_sum (L := acc0) (fun v hv => by have := hJ.2.2.2.2.1 v hv; omega)
        have j9 := hJ.2.2.2.2.2.2.2.2
        have jz := sum_nn (L := acc0) (fun v hv => by have := hJ.2.2.2.2.1 v hv; omega)
        dsimp only at js j9
        refine g_iload C dX4_runByReplacing_173 rfl ?_
        refine g_if_le (tgt := 187) C dX4_runByReplacing_175 rfl (by omega) (fun h175 => ?_) (fun h175 => ?_)
        · refine g_vret C hR dX4_runByReplacing_187 ?_
          refine ⟨rfl, ?_, hF⟩
          rw [← hS, hg, Nat.sub_self, rpS, if_neg (by show ¬ 0 < size0; omega)]
          exact hN
        · refine g_aload_n C dX4_runByReplacing_178 rfl ?_
          refine gf_Plan_runSizes C (by omega) tw_60 dX4_runByReplacing_179 ?_
          refine g_iload C dX4_runByReplacing_182 rfl ?_
          refine gc_Num_add C (by decide) tw_524 (Nat.le_of_ble_eq_true rfl) rfl dX4_runByReplacing_184 (by omega) _ (by omega) hN (fun N3 ⟨n3, n4⟩ => ?_)
          refine g_vret C hR dX4_runByReplacing_187 ?_
          refine ⟨rfl, ?_, fun o a b c d => (n4 o a b).trans (hF o a b c d)⟩
          rw [← hS, hg, Nat.sub_self, rpS, if_pos (by show 0 < size0; omega)]
          exact n3
      · have hg : g < L.length := by omega
        obtain ⟨a0, S0, e0⟩ : ∃ a0 S0, S1 = a0 :: S0 := by
          cases S1 with
          | nil => exfalso; have := hJ.1; have := hJ.2.1; simp at *; omega
          | cons a0 S0 => exact ⟨a0, S0, rfl⟩
        subst e0
        have ja := hJ.2.2.1 a0 List.mem_cons_self
        have jl := hJ.2.2.2.1
        have js := hJ.2.2.2.2.2.1
        have jf := hJ.2.1
        have jh := hJ.1
        have jz := sum_nn (L := acc0) (fun v hv => by have := hJ.2.2.2.2.1 v hv; omega)
        have jq := len_le_sum (L := acc0) (fun v hv => by have := hJ.2.2.2.2.1 v hv; omega)
        have j9 := hJ.2.2.2.2.2.2.2.2
        dsimp only at ja jl js jf jh j9
        rw [List.length_cons] at jh
        have hdone : ∀ (s2 : zR) (N : zM), rpT L (a0 :: S0, run0, size0, filled, acc0) = s2 → rpT L (a0 :: S0, run0, size0, filled, acc0) = rpT L (a0 :: S0, run0, size0, filled, acc0) → zHp N r s2.1 → zNum N (4 * r) s2.2.2.2.2 → (∀ o, o ≠ 60 + 2 * (4 * r) → o ≠ 61 + 2 * (4 * r) → o ≠ 76 + 2 * r → o ≠ 77 + 2 * r → N o = M o) → G X N 60 [some (.ref (zA X (82 + r))), some (.ref (zA X (3 * q))), some (.int (jI 0)), some (.int (jI (room : Int))), some (.int (jI (L.length : Int))), some (.int (jI (s2.2.2.2.1 : Int))), some (.int (jI s2.2.1)), some (.int (jI s2.2.2.1)), some (.int (jI ((g : Int) + 1))), none, none, none] [] := by
          intro s2 N e1 _ k1 k2 k3
          exact ih (g + 1) s2 N (by omega) (by omega) (by rw [← e1]; exact rpJ_1 hrm.1 hb (by omega) (by omega) hJ) (by rw [← e1, ← hS, show L.length - g = (L.length - (g + 1)) + 1 by omega, rpS]) k1 k2 k3
        have hb101 : ∀ (run size : Int) (acc : List Int) (N : zM), (0 ≤ run ∧ run ≤ 200) → (0 ≤ size ∧ size ≤ 200) → rpT L (a0 :: S0, run0, size0, filled, acc0) = (if filled < L.length then (insS ((if wt L filled < a0 % 239880 then run + 1 else run) * 239880 + wt L filled) S0, run, size + 1, filled + 1, acc) else (S0, run, size + 1, filled, acc)) → zHp N r S0 → zNum N (4 * r) acc → (∀ o, o ≠ 60 + 2 * (4 * r) → o ≠ 61 + 2 * (4 * r) → o ≠ 76 + 2 * r → o ≠ 77 + 2 * r → N o = M o) → G X N 101 [some (.ref (zA X (82 + r))), some (.ref (zA X (3 * q))), some (.int (jI 0)), some (.int (jI (room : Int))), some (.int (jI (L.length : Int))), some (.int (jI (filled : Int))), some (.int (jI run)), some (.int (jI size)), some (.int (jI (g : Int))), some (.int (jI a0)), none, none] [] := by
          intro run size acc N u1 u2 hrp hH hN hF
          have hRow : zRow N q L := hL.keep (hF _ (by omega) (by omega) (by omega) (by omega)) (hF _ (by omega) (by omega) (by omega) (by omega)) (hF _ (by omega) (by omega) (by omega) (by omega))
          refine g_iinc C dX4_runByReplacing_101 rfl ?_
          show G X _ 104 [_, _, _, _, _, _, _, _, _, _, _, _] _
          refine g_iload C dX4_runByReplacing_104 rfl ?_
          refine g_iload C dX4_runByReplacing_106 rfl ?_
          refine g_icmp_ge (tgt := 167) C dX4_runByReplacing_108 rfl (by omega) (by omega) (fun h108 => ?_) (fun h108 => ?_)
          · refine g_iinc C dX4_runByReplacing_167 rfl ?_
            show G X _ 170 [_, _, _, _, _, _, _, _, _, _, _, _] _
            refine g_goto (tgt := 60) C dX4_runByReplacing_170 rfl ?_
            show G X _ 60 _ _
            refine g_mask [true, true, true, true, true, true, true, true, true, false, false, false] rfl ?_
            show G X _ 60 [_, _, _, _, _, _, _, _, _, _, _, _] _
            rw [if_neg (by omega)] at hrp
            exact hdone _ N hrp rfl hH hN hF
          · refine g_aload_n C dX4_runByReplacing_111 rfl ?_
            refine g_iload C dX4_runByReplacing_112 rfl ?_
            refine g_iload_n C dX4_runByReplacing_114 rfl ?_
            refine gc_weightOfN C (by decide) (fun _ h => h.1) (Nat.le_of_ble_eq_true rfl) rfl dX4_runByReplacing_115 hq filled (by omega) hRow hb (?_)
            have hw := wt_in hb (show filled < 120 by omega)
            rw [show (kA L filled + 999) * 120 + (filled : Int) = wt L filled from rfl]
            refine g_istore C dX4_runByReplacing_118 (Nat.le_of_ble_eq_true rfl) ?_
            show G X _ 120 [_, _, _, _, _, _, _, _, _, _, _, _] _
            refine g_iload C dX4_runByReplacing_120 rfl ?_
            refine g_iload C dX4_runByReplacing_122 rfl ?_
            refine g_ldc C tw_523 dX4_runByReplacing_124 ?_
            show G X _ _ _ (.int (jI 239880) :: _)
            refine g_irem C dX4_runByReplacing_126 (by omega) (by omega) ?_
            have hm1 := Int.emod_nonneg a0 (show (239880 : Int) ≠ 0 by omega)
            have hm2 := Int.emod_lt_of_pos a0 (show (0 : Int) < 239880 by omega)
            refine g_icmp_ge (tgt := 134) C dX4_runByReplacing_127 rfl (by omega) (by omega) (fun h127 => ?_) (fun h127 => ?_)
            · refine g_iconst C dX4_runByReplacing_134 ?_
              refine g_istore C dX4_runByReplacing_135 (Nat.le_of_ble_eq_true rfl) ?_
              show G X _ 137 [_, _, _, _, _, _, _, _, _, _, _, _] _
              refine g_aload_n C dX4_runByReplacing_137 rfl ?_
              refine gf_Plan_heap C (by omega) tw_71 dX4_runByReplacing_138 ?_
              refine g_iload C dX4_runByReplacing_141 rfl ?_
              refine g_if_eq (tgt := 153) C dX4_runByReplacing_143 rfl (by omega) (fun h143 => ?_) (fun h143 => ?_)
              · refine g_iload C dX4_runByReplacing_153 rfl ?_
                refine g_ldc C tw_523 dX4_runByReplacing_155 ?_
                show G X _ _ _ (.int (jI 239880) :: _)
                refine g_imul C dX4_runByReplacing_157 ?_
                refine g_iload C dX4_runByReplacing_158 rfl ?_
                refine g_iadd C dX4_runByReplacing_160 ?_
                refine gc_Heap_push C (by decide) tw_511 (Nat.le_of_ble_eq_true rfl) rfl dX4_runByReplacing_161 (by omega) _ (by omega) (by omega) hH (fun N3 ⟨n1, n2⟩ => ?_)
                show G X _ 164 _ _
                refine g_iinc C dX4_runByReplacing_164 rfl ?_
                show G X _ 167 [_, _, _, _, _, _, _, _, _, _, _, _] _
                refine g_iinc C dX4_runByReplacing_167 rfl ?_
                show G X _ 170 [_, _, _, _, _, _, _, _, _, _, _, _] _
                refine g_goto (tgt := 60) C dX4_runByReplacing_170 rfl ?_
                show G X _ 60 _ _
                refine g_mask [true, true, true, true, true, true, true, true, true, false, false, false] rfl ?_
                show G X _ 60 [_, _, _, _, _, _, _, _, _, _, _, _] _
                rw [if_pos (by omega), if_neg (by omega)] at hrp
                exact hdone _ N3 hrp rfl n1 (hN.keep (n2 _ (by omega) (by omega)) (n2 _ (by omega) (by omega))) (fun o a b c d => (n2 o c d).trans (hF o a b c d))
              · omega
            · refine g_iconst C dX4_runByReplacing_130 ?_
              refine g_goto (tgt := 135) C dX4_runByReplacing_131 rfl ?_
              show G X _ 135 _ _
              refine g_istore C dX4_runByReplacing_135 (Nat.le_of_ble_eq_true rfl) ?_
              show G X _ 137 [_, _, _, _, _, _, _, _, _, _, _, _] _
              refine g_aload_n C dX4_runByReplacing_137 rfl ?_
              refine gf_Plan_heap C (by omega) tw_71 dX4_runByReplacing_138 ?_
              refine g_iload C dX4_runByReplacing_141 rfl ?_
              refine g_if_eq (tgt := 153) C dX4_runByReplacing_143 rfl (by omega) (fun h143 => ?_) (fun h143 => ?_)
              · omega
              · refine g_iload C dX4_runByReplacing_146 rfl ?_
                refine g_iconst C dX4_runByReplacing_148 ?_
                refine g_iadd C dX4_runByReplacing_149 ?_
                refine g_goto (tgt := 155) C dX4_runByReplacing_150 rfl ?_
                show G X _ 155 _ _
                refine g_ldc C tw_523 dX4_runByReplacing_155 ?_
                show G X _ _ _ (.int (jI 239880) :: _)
                refine g_imul C dX4_runByReplacing_157 ?_
                refine g_iload C dX4_runByReplacing_158 rfl ?_
                refine g_iadd C dX4_runByReplacing_160 ?_
                refine gc_Heap_push C (by decide) tw_511 (Nat.le_of_ble_eq_true rfl) rfl dX4_runByReplacing_161 (by omega) _ (by omega) (by omega) hH (fun N3 ⟨n1, n2⟩ => ?_)
                refine g_iinc C dX4_runByReplacing_164 rfl ?_
                show G X _ 167 [_, _, _, _, _, _, _, _, _, _, _, _] _
                refine g_iinc C dX4_runByReplacing_167 rfl ?_
                show G X _ 170 [_, _, _, _, _, _, _, _, _, _, _, _] _
                refine g_goto (tgt := 60) C dX4_runByReplacing_170 rfl ?_
                show G X _ 60 _ _
                refine g_mask [true, true, true, true, true, true, true, true, true, false, false, false] rfl ?_
                show G X _ 60 [_, _, _, _, _, _, _, _, _, _, _, _] _
                rw [if_pos (by omega), if_pos (by omega)] at hrp
                exact hdone _ N3 hrp rfl n1 (hN.keep (n2 _ (by omega) (by omega)) (n2 _ (by omega) (by omega))) (fun o a b c d => (n2 o c d).trans (hF o a b c d))
        refine g_aload_n C dX4_runByReplacing_67 rfl ?_
        refine gf_Plan_heap C (by omega) tw_71 dX4_runByReplacing_68 ?_
        refine gc_Heap_pull C (by decide) tw_515 (Nat.le_of_ble_eq_true rfl) rfl dX4_runByReplacing_71 (by omega) hH (fun x N2 ⟨n0, n1, n2⟩ => ?_)
        rw [n0]
        have hN2 : zNum N2 (4 * r) acc0 := hN.keep (n2 _ (by omega) (by omega)) (n2 _ (by omega) (by omega))
        have hF2 : ∀ o, o ≠ 60 + 2 * (4 * r) → o ≠ 61 + 2 * (4 * r) → o ≠ 76 + 2 * r → o ≠ 77 + 2 * r → N2 o = M o := fun o a b c d => (n2 o c d).trans (hF o a b c d)
        refine g_istore C dX4_runByReplacing_74 (Nat.le_of_ble_eq_true rfl) ?_
        show G X _ 76 [_, _, _, _, _, _, _, _, _, _, _, _] _
        refine g_iload C dX4_runByReplacing_76 rfl ?_
        refine g_ldc C tw_523 dX4_runByReplacing_78 ?_
        show G X _ _ _ (.int (jI 239880) :: _)
        refine g_idiv C dX4_runByReplacing_80 (by omega) (by omega) ?_
        refine g_iload C dX4_runByReplacing_81 rfl ?_
        refine g_icmp_le (tgt := 101) C dX4_runByReplacing_83 rfl (by omega) (by omega) (fun h83 => ?_) (fun h83 => ?_)
        · refine g_mask [true, true, true, true, true, true, true, true, true, true, false, false] rfl ?_
          show G X _ 101 [_, _, _, _, _, _, _, _, _, _, _, _] _
          refine hb101 run0 size0 acc0 N2 (by omega) (by omega) ?_ n1 hN2 hF2
          have hs : ¬ run0 < a0 / 239880 := by omega
          simp only [rpT, if_neg hs]
        · refine g_aload_n C dX4_runByReplacing_86 rfl ?_
          refine gf_Plan_runSizes C (by omega) tw_60 dX4_runByReplacing_87 ?_
          refine g_iload C dX4_runByReplacing_90 rfl ?_
          refine gc_Num_add C (by decide) tw_524 (Nat.le_of_ble_eq_true rfl) rfl dX4_runByReplacing_92 (by omega) _ (by omega) hN2 (fun N3 ⟨n3, n4⟩ => ?_)
          refine g_iinc C dX4_runByReplacing_95 rfl ?_
          show G X _ 98 [_, _, _, _, _, _, _, _, _, _, _, _] _
          refine g_iconst C dX4_runByReplacing_98 ?_
          refine g_istore C dX4_runByReplacing_99 (Nat.le_of_ble_eq_true rfl) ?_
          show G X _ 101 [_, _, _, _, _, _, _, _, _, _, _, _] _
          refine g_mask [true, true, true, true, true, true, true, true, true, true, false, false] rfl ?_
          show G X _ 101 [_, _, _, _, _, _, _, _, _, _, _, _] _
          refine hb101 (run0 + 1) 0 (acc0 ++ [size0]) N3 (by omega) (by omega) ?_ (n1.keep (n4 _ (by omega) (by omega)) (n4 _ (by omega) (by omega))) n3 (fun o a b c d => (n4 o a b).trans (hF2 o a b c d))
          have hs : run0 < a0 / 239880 := by omega
          simp only [rpT, if_pos hs]
  have hb51 : ∀ (y6 : Option Value) (N : zM), zHp N r (ini L (min room L.length)) → zNum N (4 * r) [] → (∀ o, o ≠ 60 + 2 * (4 * r) → o ≠ 61 + 2 * (4 * r) → o ≠ 76 + 2 * r → o ≠ 77 + 2 * r → N o = M o) → G X N 51 [some (.ref (zA X (82 + r))), some (.ref (zA X (3 * q))), some (.int (jI 0)), some (.int (jI (room : Int))), some (.int (jI (L.length : Int))), some (.int (jI ((min room L.length : Nat) : Int))), y6, none, none, none, none, none] [] := by
    intro y6 N hH hN hF
    refine g_iconst C dX4_runByReplacing_51 ?_
    refine g_istore C dX4_runByReplacing_52 (Nat.le_of_ble_eq_true rfl) ?_
    show G X _ 54 [_, _, _, _, _, _, _, _, _, _, _, _] _
    refine g_iconst C dX4_runByReplacing_54 ?_
    refine g_istore C dX4_runByReplacing_55 (Nat.le_of_ble_eq_true rfl) ?_
    show G X _ 57 [_, _, _, _, _, _, _, _, _, _, _, _] _
    refine g_iconst C dX4_runByReplacing_57 ?_
    refine g_istore C dX4_runByReplacing_58 (Nat.le_of_ble_eq_true rfl) ?_
    show G X _ 60 [_, _, _, _, _, _, _, _, _, _, _, _] _
    exact lp2 300 0 (ini L (min room L.length), 0, 0, min room L.length, []) N (by omega) (Nat.zero_le _) (rpJ_0 hb (by omega)) rfl hH hN hF
  have lp1 : ∀ (fk : Nat) (i : Nat) (N : zM), 200 - i < fk → i ≤ min room L.length → zHp N r (ini L i) → zNum N (4 * r) [] → (∀ o, o ≠ 60 + 2 * (4 * r) → o ≠ 61 + 2 * (4 * r) → o ≠ 76 + 2 * r → o ≠ 77 + 2 * r → N o = M o) → G X N 24 [some (.ref (zA X (82 + r))), some (.ref (zA X (3 * q))), some (.int (jI 0)), some (.int (jI (room : Int))), some (.int (jI (L.length : Int))), some (.int (jI ((min room L.length : Nat) : Int))), some (.int (jI (i : Int))), none, none, none, none, none] [] := by
    intro fk
    induction fk with
    | zero => intro i N hk; exact absurd hk (Nat.not_lt_zero _)
    | succ fk ih =>
      intro i N hk i1 hH hN hF
      have hRow : zRow N q L := hL.keep (hF _ (by omega) (by omega) (by omega) (by omega)) (hF _ (by omega) (by omega) (by omega) (by omega)) (hF _ (by omega) (by omega) (by omega) (by omega))
      refine g_iload C dX4_runByReplacing_24 rfl ?_
      refine g_iload C dX4_runByReplacing_26 rfl ?_
      refine g_icmp_ge (tgt := 51) C dX4_runByReplacing_28 rfl (by omega) (by omega) (fun h28 => ?_) (fun h28 => ?_)
      · obtain rfl : i = min room L.length := by omega
        exact hb51 _ N hH hN hF
      · refine g_aload_n C dX4_runByReplacing_31 rfl ?_
        refine gf_Plan_heap C (by omega) tw_71 dX4_runByReplacing_32 ?_
        refine g_aload_n C dX4_runByReplacing_35 rfl ?_
        refine g_iload C dX4_runByReplacing_36 rfl ?_
        refine g_iload_n C dX4_runByReplacing_38 rfl ?_
        refine gc_weightOfN C (by decide) (fun _ h => h.1) (Nat.le_of_ble_eq_true rfl) rfl dX4_runByReplacing_39 hq i (by omega) hRow hb (?_)
        show G X _ 42 _ _
        have hw := wt_in hb (show i < 120 by omega)
        rw [show (kA L i + 999) * 120 + (i : Int) = wt L i from rfl]
        refine gc_Heap_push C (by decide) tw_511 (Nat.le_of_ble_eq_true rfl) rfl dX4_runByReplacing_42 (by omega) _ (by omega) (by rw [ini_len]; omega) hH (fun N2 ⟨n1, n2⟩ => ?_)
        refine g_iinc C dX4_runByReplacing_45 rfl ?_
        show G X _ 48 [_, _, _, _, _, _, _, _, _, _, _, _] _
        refine g_goto (tgt := 24) C dX4_runByReplacing_48 rfl ?_
        show G X _ 24 _ _
        exact ih (i + 1) N2 (by omega) (by omega) n1 (hN.keep (n2 _ (by omega) (by omega)) (n2 _ (by omega) (by omega))) (fun o a b c d => (n2 o c d).trans (hF o a b c d))
  refine g_aload_n C dX4_runByReplacing_0 rfl ?_
  refine gf_Plan_heap C (by omega) tw_71 dX4_runByReplacing_1 ?_
  refine gc_Heap_empty C (by decide) tw_500 (Nat.le_of_ble_eq_true rfl) rfl dX4_runByReplacing_4 (by omega) (fun N ⟨n1, n2⟩ => ?_)
  have hRow : zRow N q L := hL.keep (n2 _ (by omega) (by omega)) (n2 _ (by omega) (by omega)) (n2 _ (by omega) (by omega))
  refine g_aload_n C dX4_runByReplacing_7 rfl ?_
  refine gc_Row_count C (by decide) tw_504 (Nat.le_of_ble_eq_true rfl) rfl dX4_runByReplacing_8 hq hRow (?_)
  refine g_istore C dX4_runByReplacing_11 (Nat.le_of_ble_eq_true rfl) ?_
  show G X _ 13 [_, _, _, _, _, _, _, _, _, _, _, _] _
  refine g_iload_n C dX4_runByReplacing_13 rfl ?_
  refine g_iload C dX4_runByReplacing_14 rfl ?_
  refine gc_min C (by decide) tw_505 (Nat.le_of_ble_eq_true rfl) rfl dX4_runByReplacing_16 _ _ (by omega) (by omega) (?_)
  rw [show (if (room : Int) ≤ (L.length : Int) then (room : Int) else (L.length : Int)) = ((min room L.length : Nat) : Int) by by_cases u : (room : Int) ≤ (L.length : Int) <;> simp [u] <;> omega]
  refine g_istore C dX4_runByReplacing_19 (Nat.le_of_ble_eq_true rfl) ?_
  show G X _ 21 [_, _, _, _, _, _, _, _, _, _, _, _] _
  refine g_iconst C dX4_runByReplacing_21 ?_
  refine g_istore C dX4_runByReplacing_22 (Nat.le_of_ble_eq_true rfl) ?_
  show G X _ 24 [_, _, _, _, _, _, _, _, _, _, _, _] _
  exact lp1 300 0 N (by omega) (Nat.zero_le _) n1 (h.keep (n2 _ (by omega) (by omega)) (n2 _ (by omega) (by omega))) (fun o a b c d => n2 o c d)
theorem gc_Plan_runByReplacing {X : z_X} {cc : ByteArray} {own : String} {ret : Option FieldType} {dC nC : Nat} {M : zM} {pc : Nat} {lv : List (Option Value)} {st : List Value} (C : Cx cc own ret dC nC X) (hdep : 5 ≤ dC) {idx : Nat} (hl0 : Cond.methodLink own idx yX4_runByReplacing ∈ tT) (hcat : (st.map fun v => v.category).sum ≤ 8) (hlen : lv.length = nC) (hdec : decode cc pc = .ok (.invokevirtual idx, 3)) {r : Nat} (hr : r < 2) {q : Nat} (hq : q < 20) {L : List (Int × Int)} (room : Nat) (hrm : 1 ≤ room ∧ room ≤ 10000) (hb : zIn L) (hn : L.length ≤ 100) (hL : zRow M q L) (h : zNum M (4 * r) []) (kk : ∀ M' : zM, (zNum M' (4 * r) (rpR L room) ∧ ∀ o, o ≠ 60 + 2 * (4 * r) → o ≠ 61 + 2 * (4 * r) → o ≠ 76 + 2 * r → o ≠ 77 + 2 * r → M' o = M o) → G X M' (pc + 3) lv st) : G X M pc lv (.int (jI ((room : Int))) :: .int (jI (0)) :: .ref (zA X (3 * q)) :: .ref (zA X (82 + r)) :: st) := by
  refine g_callV (k := 3) (o := 82 + r) C (c_Plan_runByReplacing (zL X) hr hq room hrm hb hn M hL h) mfX4_runByReplacing hl0 ⟨rfl, by decide +kernel, by decide +kernel, by decide +kernel⟩ ⟨hdep, by decide⟩ (by omega) (fun _ _ _ _ => ze_plan (by omega)) rfl rfl rfl rfl hcat hlen hdec (fun v M' h => ?_)
  obtain ⟨rfl, h⟩ := h
  exact kk M' h
set_option maxHeartbeats 4000000 in
set_option maxRecDepth 10000 in
theorem c_Plan_make (l : Launch) {r : Nat} (hr : r < 2) {q : Nat} (hq : q < 20) {L : List (Int × Int)} (rep least : Bool) (pg mem : Nat) (hpg : 1 ≤ pg ∧ pg ≤ 100) (hm : 3 ≤ mem ∧ mem ≤ 12) (hb : zIn L) (hn : L.length ≤ 100) (M : zM) (hL : zRow M q L) : Mt l 5 yX4_make cX4_make 7 none (fun ad => [.ref (ad (82 + r)), .ref (ad (3 * q)), .int (jI (bI rep)), .int (jI (bI least)), .int (jI (0)), .int (jI ((pg : Int))), .int (jI ((mem : Int)))]) M (fun _ vv M' => vv = none ∧ (zPl M' r (pg : Int) (mkR L rep (mem * pg)) (mkZ L rep least pg mem) ∧ zFp M M' r)) := by
  refine Mt.of (fun ad => [some (.ref (ad (82 + r))), some (.ref (ad (3 * q))), some (.int (jI (bI rep))), some (.int (jI (bI least))), some (.int (jI (0))), some (.int (jI ((pg : Int)))), some (.int (jI ((mem : Int))))]) (by decide +kernel) (fun _ => rfl) (fun _ => rfl) (fun _ => Nat.le_of_ble_eq_true rfl) fun X hX C hR => ?_
  subst hX
  show G X M 0 [some (.ref ((zA X) (82 + r))), some (.ref ((zA X) (3 * q))), some (.int (jI (bI rep))), some (.int (jI (bI least))), some (.int (jI (0))), some (.int (jI ((pg : Int)))), some (.int (jI ((mem : Int))))] []
  have hroom : 1 ≤ mem * pg ∧ mem * pg ≤ 10000 := ⟨Nat.mul_pos (by omega) (by omega), Nat.le_trans (Nat.mul_le_mul hm.2 hpg.2) (by omega)⟩
  have hok := mkR_ok (rep := rep) hroom.1 hb (show L.length ≤ 120 by omega)
  have hb59 : ∀ N : zM, zNum N (4 * r) (mkR L rep (mem * pg)) → zNum N (4 * r + 1) [] → zNum N (4 * r + 2) [] → N (82 + r) 7 = (pg : Int) → zFp M N r → G X N 59 [some (.ref (zA X (82 + r))), some (.ref (zA X (3 * q))), some (.int (jI (bI rep))), some (.int (jI (bI least))), some (.int (jI 0)), some (.int (jI (pg : Int))), some (.int (jI (mem : Int)))] [] := by
    intro N hN h1 h2 h7 hF
    have hRow : zRow N q L := hL.keep (hF _ (by omega) (by omega) (by omega) (by omega)) (hF _ (by omega) (by omega) (by omega) (by omega)) (hF _ (by omega) (by omega) (by omega) (by omega))
    refine g_aload_n C dX4_make_59 rfl ?_
    refine g_aload_n C dX4_make_60 rfl ?_
    refine gc_Row_count C (by decide) tw_504 (Nat.le_of_ble_eq_true rfl) rfl dX4_make_61 hq hRow (?_)
    refine gc_Plan_countRuns C (by decide) tw_535 (Nat.le_of_ble_eq_true rfl) rfl dX4_make_64 hr L.length pg (by omega) hpg hok.zv hN h7 (fun N2 ⟨n1, n2, n3, n4⟩ => ?_)
    refine g_aload_n C dX4_make_67 rfl ?_
    refine gf_Plan_row C (by omega) tw_70 dX4_make_68 ?_
    show G X _ 71 _ _
    refine gc_Num_empty C (by decide) tw_492 (Nat.le_of_ble_eq_true rfl) rfl dX4_make_71 (by omega) (fun N3 ⟨n5, n6⟩ => ?_)
    refine g_aload_n C dX4_make_74 rfl ?_
    refine gf_Plan_row C (by omega) tw_70 dX4_make_75 ?_
    refine g_aload_n C dX4_make_78 rfl ?_
    refine gf_Plan_runSizes C (by omega) tw_60 dX4_make_79 ?_
    refine gc_Num_addAll C (by decide) tw_550 (Nat.le_of_ble_eq_true rfl) rfl dX4_make_82 (r := 4 * r + 3) (q := 4 * r) (by omega) (by omega) (by omega) (hN.keep ((n6 _ (by omega) (by omega)).trans (n4 _ (by omega))) ((n6 _ (by omega) (by omega)).trans (n4 _ (by omega)))) n5 (fun N4 ⟨n7, n8⟩ => ?_)
    have hz : zPl N4 r (pg : Int) (mkR L rep (mem * pg)) (mkR L rep (mem * pg), pgs (L.length : Int) (pg : Int), sm ((mkR L rep (mem * pg)).map (fun a => pgs a (pg : Int))) 0 (mkR L rep (mem * pg)).length, [], []) := by
      have e : ∀ o, o ≠ 82 + r → o ≠ 60 + 2 * (4 * r + 3) → o ≠ 61 + 2 * (4 * r + 3) → N4 o = N o := fun o a b c => (n8 o b c).trans ((n6 o b c).trans (n4 o a))
      have e2 : N4 (82 + r) = N2 (82 + r) := (n8 _ (by omega) (by omega)).trans (n6 _ (by omega) (by omega))
      exact ⟨hN.keep (e _ (by omega) (by omega) (by omega)) (e _ (by omega) (by omega) (by omega)), n7, by rw [e2]; exact n1, by rw [e2]; exact n2, h1.keep (e _ (by omega) (by omega) (by omega)) (e _ (by omega) (by omega) (by omega)), h2.keep (e _ (by omega) (by omega) (by omega)) (e _ (by omega) (by omega) (by omega)), by rw [e2]; exact n3⟩
    have hF4 : zFp M N4 r := ((hF.trans (fun o _ _ _ d => n4 o d)).trans (zFp.num n6 (by omega) (by omega))).trans (zFp.num n8 (by omega) (by omega))
    have hlen := hok.len
    show G X _ 85 _ _
    refine g_iload_n C dX4_make_85 rfl ?_
    refine g_if_eq (tgt := 100) C dX4_make_86 rfl (by have := bI_in least; omega) (fun h86 => ?_) (fun h86 => ?_)
    · refine g_aload_n C dX4_make_100 rfl ?_
      refine g_iload C dX4_make_101 rfl ?_
      refine g_iconst C dX4_make_103 ?_
      refine g_isub C dX4_make_104 ?_
      rw [show (mem : Int) - 1 = ((mem - 1 : Nat) : Int) by omega]
      refine gc_Plan_mergeByLevels C (by decide) tw_576 (Nat.le_of_ble_eq_true rfl) rfl dX4_make_105 hr (mem - 1) pg L.length hpg (by omega) (z := (mkR L rep (mem * pg), pgs (L.length : Int) (pg : Int), sm ((mkR L rep (mem * pg)).map (fun a => pgs a (pg : Int))) 0 (mkR L rep (mem * pg)).length, [], [])) hok.zv (by omega) (by show 0 + (mkR L rep (mem * pg)).length ≤ 119; omega) (by show 0 + (mkR L rep (mem * pg)).length ≤ 119; omega) hz (fun N5 ⟨n9, n10⟩ => ?_)
      have hle : least = false := by cases least; rfl; simp [bI] at h86
      refine g_vret C hR dX4_make_108 ?_
      refine ⟨rfl, ?_, hF4.trans n10⟩
      subst hle
      exact n9
    · refine g_aload_n C dX4_make_89 rfl ?_
      refine g_iload C dX4_make_90 rfl ?_
      refine g_iconst C dX4_make_92 ?_
      refine g_isub C dX4_make_93 ?_
      rw [show (mem : Int) - 1 = ((mem - 1 : Nat) : Int) by omega]
      refine gc_Plan_mergeByLeast C (by decide) tw_555 (Nat.le_of_ble_eq_true rfl) rfl dX4_make_94 hr (mem - 1) pg L.length hpg (by omega) (z := (mkR L rep (mem * pg), pgs (L.length : Int) (pg : Int), sm ((mkR L rep (mem * pg)).map (fun a => pgs a (pg : Int))) 0 (mkR L rep (mem * pg)).length, [], [])) hok.zv (by omega) (by show 0 + (mkR L rep (mem * pg)).length ≤ 119; omega) (by show 0 + (mkR L rep (mem * pg)).length ≤ 119; omega) hz (fun N5 ⟨n9, n10⟩ => ?_)
      refine g_goto (tgt := 108) C dX4_make_97 rfl ?_
      show G X _ 108 _ _
      have hle : least = true := by cases least; simp [bI] at h86; rfl
      refine g_vret C hR dX4_make_108 ?_
      refine ⟨rfl, ?_, hF4.trans n10⟩
      subst hle
      exact n9
  refine g_aload_n C dX4_make_0 rfl ?_
  refine g_iload C dX4_make_1 rfl ?_
  refine gp_Plan_page C (by omega) tw_72 dX4_make_3 ?_
  refine g_aload_n C dX4_make_6 rfl ?_
  refine gf_Plan_runSizes C (by omega) tw_60 dX4_make_7 ?_
  refine gc_Num_empty C (by decide) tw_492 (Nat.le_of_ble_eq_true rfl) rfl dX4_make_10 (r := 4 * r) (by omega) (fun N1 ⟨a1, a2⟩ => ?_)
  show G X _ 13 _ _
  refine g_aload_n C dX4_make_13 rfl ?_
  refine gf_Plan_mergeRuns C (by omega) tw_62 dX4_make_14 ?_
  refine gc_Num_empty C (by decide) tw_492 (Nat.le_of_ble_eq_true rfl) rfl dX4_make_17 (r := 4 * r + 1) (by omega) (fun N2 ⟨b1, b2⟩ => ?_)
  refine g_aload_n C dX4_make_20 rfl ?_
  refine gf_Plan_mergeSizes C (by omega) tw_64 dX4_make_21 ?_
  refine gc_Num_empty C (by decide) tw_492 (Nat.le_of_ble_eq_true rfl) rfl dX4_make_24 (r := 4 * r + 2) (by omega) (fun N3 ⟨c1, c2⟩ => ?_)
  have a3 : zNum N3 (4 * r) [] := (a1.apart b2 (by omega)).apart c2 (by omega)
  have b3 : zNum N3 (4 * r + 1) [] := b1.apart c2 (by omega)
  have h7 : N3 (82 + r) 7 = (pg : Int) := by rw [c2 _ (by omega) (by omega), b2 _ (by omega) (by omega), a2 _ (by omega) (by omega), zu_s]
  have hF3 : zFp M N3 r := ((zFp.fld.trans (zFp.num a2 (by omega) (by omega))).trans (zFp.num b2 (by omega) (by omega))).trans (zFp.num c2 (by omega) (by omega))
  have hRow : zRow N3 q L := hL.keep (hF3 _ (by omega) (by omega) (by omega) (by omega)) (hF3 _ (by omega) (by omega) (by omega) (by omega)) (hF3 _ (by omega) (by omega) (by omega) (by omega))
  show G X _ 27 _ _
  refine g_iload_n C dX4_make_27 rfl ?_
  refine g_if_eq (tgt := 46) C dX4_make_28 rfl (by have := bI_in rep; omega) (fun h28 => ?_) (fun h28 => ?_)
  · refine g_aload_n C dX4_make_46 rfl ?_
    refine g_aload_n C dX4_make_47 rfl ?_
    refine gc_Row_count C (by decide) tw_504 (Nat.le_of_ble_eq_true rfl) rfl dX4_make_48 hq hRow (?_)
    refine g_iload C dX4_make_51 rfl ?_
    refine g_iload C dX4_make_53 rfl ?_
    refine g_imul C dX4_make_55 ?_
    show G X _ 56 _ _
    have hrp : rep = false := by cases rep; rfl; simp [bI] at h28
    rw [show (mem : Int) * (pg : Int) = ((mem * pg : Nat) : Int) from rfl]
    refine gc_Plan_runByLoading C (by decide) tw_528 (Nat.le_of_ble_eq_true rfl) rfl dX4_make_56 hr L.length (mem * pg) hn hroom a3 (fun N4 ⟨d1, d2⟩ => ?_)
    exact hb59 N4 (by subst hrp; show zNum N4 (4 * r) (rlS (max 1 (mem * pg)) L.length L.length []); rw [show max 1 (mem * pg) = mem * pg by omega]; exact d1) (b3.apart d2 (by omega)) (c1.apart d2 (by omega)) (by rw [d2 _ (by omega) (by omega)]; exact h7) (hF3.trans (zFp.num d2 (by omega) (by omega)))
  · refine g_aload_n C dX4_make_31 rfl ?_
    refine g_aload_n C dX4_make_32 rfl ?_
    refine g_iload C dX4_make_33 rfl ?_
    refine g_iload C dX4_make_35 rfl ?_
    refine g_iload C dX4_make_37 rfl ?_
    refine g_imul C dX4_make_39 ?_
    show G X _ 40 _ _
    have hrp : rep = true := by cases rep; simp [bI] at h28; rfl
    rw [show (mem : Int) * (pg : Int) = ((mem * pg : Nat) : Int) from rfl]
    refine gc_Plan_runByReplacing C (by decide) tw_496 (Nat.le_of_ble_eq_true rfl) rfl dX4_make_40 hr hq (mem * pg) hroom hb hn hRow a3 (fun N4 ⟨d1, d2⟩ => ?_)
    refine g_goto (tgt := 59) C dX4_make_43 rfl ?_
    show G X _ 59 _ _
    exact hb59 N4 (by subst hrp; exact d1) (b3.keep (d2 _ (by omega) (by omega) (by omega) (by omega)) (d2 _ (by omega) (by omega) (by omega) (by omega))) (c1.keep (d2 _ (by omega) (by omega) (by omega) (by omega)) (d2 _ (by omega) (by omega) (by omega) (by omega))) (by rw [d2 _ (by omega) (by omega) (by omega) (by omega)]; exact h7) (hF3.trans fun o a b c d => d2 o (by omega) (by omega) b c)
theorem gc_Plan_make {X : z_X} {cc : ByteArray} {own : String} {ret : Option FieldType} {dC nC : Nat} {M : zM} {pc : Nat} {lv : List (Option Value)} {st : List Value} (C : Cx cc own ret dC nC X) (hdep : 6 ≤ dC) {idx : Nat} (hl0 : Cond.methodLink own idx yX4_make ∈ tT) (hcat : (st.map fun v => v.category).sum ≤ 8) (hlen : lv.length = nC) (hdec : decode cc pc = .ok (.invokevirtual idx, 3)) {r : Nat} (hr : r < 2) {q : Nat} (hq : q < 20) {L : List (Int × Int)} (rep least : Bool) (pg mem : Nat) (hpg : 1 ≤ pg ∧ pg ≤ 100) (hm : 3 ≤ mem ∧ mem ≤ 12) (hb : zIn L) (hn : L.length ≤ 100) (hL : zRow M q L) (kk : ∀ M' : zM, (zPl M' r (pg : Int) (mkR L rep (mem * pg)) (mkZ L rep least pg mem) ∧ zFp M M' r) → G X M' (pc + 3) lv st) : G X M pc lv (.int (jI ((mem : Int))) :: .int (jI ((pg : Int))) :: .int (jI (0)) :: .int (jI (bI least)) :: .int (jI (bI rep)) :: .ref (zA X (3 * q)) :: .ref (zA X (82 + r)) :: st) := by
  refine g_callV (k := 6) (o := 82 + r) C (c_Plan_make (zL X) hr hq rep least pg mem hpg hm hb hn M hL) mfX4_make hl0 ⟨rfl, by decide +kernel, by decide +kernel, by decide +kernel⟩ ⟨hdep, by decide⟩ (by omega) (fun _ _ _ _ => ze_plan (by omega)) rfl rfl rfl rfl hcat hlen hdec (fun v M' h => ?_)
  obtain ⟨rfl, h⟩ := h
  exact kk M' h
end
section
/-! what the sorter's methods answer, as functions of lists -/
/-- the keys of the first i records, and how many there are -/
def ksL (L : List (Int × Int)) : Nat → List Int
  | 0 => []
  | i + 1 => kA L i :: ksL L i
def dcL (L : List (Int × Int)) : Nat → Nat
  | 0 => 0
  | i + 1 => if kA L i ∈ ksL L i then dcL L i else dcL L i + 1
theorem dcL_le (L : List (Int × Int)) : ∀ i, dcL L i ≤ i
  | 0 => Nat.le_refl 0
  | i + 1 => by
    have := dcL_le L i
    rw [dcL]
    by_cases h : kA L i ∈ ksL L i
    · rw [if_pos h]; omega
    · rw [if_neg h]; omega
/-- records that a putRow adds -/
def prL (first step span : Int) : Nat → List (Int × Int)
  | 0 => []
  | k + 1 => prL first step span k ++ [((first + (k : Int) * step) % span, (k : Int) % 100)]
theorem prL_len (first step span : Int) : ∀ k, (prL first step span k).length = k
  | 0 => rfl
  | k + 1 => by rw [prL, List.length_append, prL_len first step span k]; rfl
/-- a record by its weight -/
def rcL (L : List (Int × Int)) (w : Int) : Int × Int := (kA L (w % 120).toNat, mA L (w % 120).toNat)
/-- the sorted row -/
def srL (L : List (Int × Int)) : List (Int × Int) := (ini L L.length).map (rcL L)
theorem srL_len (L : List (Int × Int)) : (srL L).length = L.length := by simp [srL, ini_len]
theorem wt_mod {L : List (Int × Int)} {i : Nat} (h : i < 120) : (wt L i % 120).toNat = i := by
  unfold wt
  omega
theorem wt_rem {L : List (Int × Int)} {i : Nat} (h : i < 120) : wt L i % 120 = (i : Int) := by
  unfold wt
  omega
theorem up_le {L : List (Int × Int)} (h : upB L = true) : ∀ (i j : Nat), i ≤ j → j < L.length → kA L i ≤ kA L j := by
  intro i j
  induction j with
  | zero => intro h1 _; rw [show i = 0 by omega]; exact Int.le_refl _
  | succ j ih =>
    intro h1 h2
    by_cases e : i = j + 1
    · subst e; exact Int.le_refl _
    · exact Int.le_trans (ih (by omega) (by omega)) ((upB_iff L).mp h j h2)
/-- the sorter: how many files, page, memory, the files -/
def zSt (M : zM) (c pg mem : Nat) (F : Nat → List (Int × Int)) : Prop := M 95 1 = (c : Int) ∧ M 95 2 = (pg : Int) ∧ M 95 3 = (mem : Int) ∧ (∀ f, f < c → zRow M f (F f)) ∧ c ≤ 12
theorem zRow.same {M M' : zM} {q : Nat} {L : List (Int × Int)} (h : zRow M q L) (hf : ∀ o, 3 * q ≤ o → o ≤ 3 * q + 2 → M' o = M o) : zRow M' q L :=
  h.keep (hf _ (by omega) (by omega)) (hf _ (by omega) (by omega)) (hf _ (by omega) (by omega))
theorem zPl.same {M M' : zM} {p : Nat} {pg : Int} {rs : List Int} {z : zZ} (h : zPl M p pg rs z) (hp : p < 2) (hf : ∀ o, (60 + 8 * p ≤ o ∧ o < 68 + 8 * p) ∨ o = 82 + p → M' o = M o) : zPl M' p pg rs z := by
  have k : ∀ n L, 4 * p ≤ n → n ≤ 4 * p + 3 → zNum M n L → zNum M' n L := fun n L h1 h2 g => g.keep (hf _ (by omega)) (hf _ (by omega))
  have e := hf (82 + p) (Or.inr rfl)
  exact ⟨k _ _ (by omega) (by omega) h.1, k _ _ (by omega) (by omega) h.2.1, by rw [e]; exact h.2.2.1, by rw [e]; exact h.2.2.2.1, k _ _ (by omega) (by omega) h.2.2.2.2.1, k _ _ (by omega) (by omega) h.2.2.2.2.2.1, by rw [e]; exact h.2.2.2.2.2.2⟩
end
section
/-! the sorter's small methods -/
set_option maxHeartbeats 4000000 in
set_option maxRecDepth 10000 in
theorem c_needMemory (l : Launch) (x : Int) (hx : 3 ≤ x ∧ x ≤ 12) (M : zM)  : Mt l 1 yX8_needMemory cX8_needMemory 1 none (fun ad => [.int (jI (x))]) M (fun _ vv M' => vv = none ∧ M' = M) := by
  refine Mt.of (fun ad => [some (.int (jI (x)))]) (by decide +kernel) (fun _ => rfl) (fun _ => rfl) (fun _ => Nat.le_of_ble_eq_true rfl) fun X hX C hR => ?_
  subst hX
  show G X M 0 [some (.int (jI (x)))] []
  refine g_iload_n C dX8_needMemory_0 rfl ?_
  refine g_iconst C dX8_needMemory_1 ?_
  refine g_icmp_lt (tgt := 11) C dX8_needMemory_2 rfl (by omega) (by omega) (fun h2 => ?_) (fun h2 => ?_)
  · omega
  · refine g_iload_n C dX8_needMemory_5 rfl ?_
    refine g_bipush C dX8_needMemory_6 rfl ?_
    refine g_icmp_le (tgt := 22) C dX8_needMemory_8 rfl (by omega) (by omega) (fun h8 => ?_) (fun h8 => ?_)
    · refine g_vret C hR dX8_needMemory_22 ?_
      exact ⟨rfl, rfl⟩
    · omega
theorem gc_needMemory {X : z_X} {cc : ByteArray} {own : String} {ret : Option FieldType} {dC nC : Nat} {M : zM} {pc : Nat} {lv : List (Option Value)} {st : List Value} (C : Cx cc own ret dC nC X) (hdep : 2 ≤ dC) {idx : Nat} (hl0 : Cond.methodLink own idx yX8_needMemory ∈ tT) (hcat : (st.map fun v => v.category).sum ≤ 8) (hlen : lv.length = nC) (hdec : decode cc pc = .ok (.invokestatic idx, 3)) (x : Int) (hx : 3 ≤ x ∧ x ≤ 12)  (kk : G X M (pc + 3) lv st) : G X M pc lv (.int (jI (x)) :: st) := by
  refine g_callS (k := 1) C (c_needMemory (zL X) x hx M ) mfX8_needMemory hl0 ⟨rfl, by decide +kernel, by decide +kernel, by decide +kernel⟩ ⟨hdep, by decide⟩ rfl rfl rfl hcat hlen hdec (fun v M' h => ?_)
  obtain ⟨rfl, rfl⟩ := h
  exact kk
set_option maxHeartbeats 4000000 in
set_option maxRecDepth 10000 in
theorem c_needHow (l : Launch) (x : Int) (hx : 0 ≤ x ∧ x ≤ 3) (M : zM)  : Mt l 1 yX8_needHow cX8_needHow 1 none (fun ad => [.int (jI (x))]) M (fun _ vv M' => vv = none ∧ M' = M) := by
  refine Mt.of (fun ad => [some (.int (jI (x)))]) (by decide +kernel) (fun _ => rfl) (fun _ => rfl) (fun _ => Nat.le_of_ble_eq_true rfl) fun X hX C hR => ?_
  subst hX
  show G X M 0 [some (.int (jI (x)))] []
  refine g_iload_n C dX8_needHow_0 rfl ?_
  refine g_if_lt (tgt := 9) C dX8_needHow_1 rfl (by omega) (fun h1 => ?_) (fun h1 => ?_)
  · omega
  · refine g_iload_n C dX8_needHow_4 rfl ?_
    refine g_iconst C dX8_needHow_5 ?_
    refine g_icmp_le (tgt := 20) C dX8_needHow_6 rfl (by omega) (by omega) (fun h6 => ?_) (fun h6 => ?_)
    · refine g_vret C hR dX8_needHow_20 ?_
      exact ⟨rfl, rfl⟩
    · omega
theorem gc_needHow {X : z_X} {cc : ByteArray} {own : String} {ret : Option FieldType} {dC nC : Nat} {M : zM} {pc : Nat} {lv : List (Option Value)} {st : List Value} (C : Cx cc own ret dC nC X) (hdep : 2 ≤ dC) {idx : Nat} (hl0 : Cond.methodLink own idx yX8_needHow ∈ tT) (hcat : (st.map fun v => v.category).sum ≤ 8) (hlen : lv.length = nC) (hdec : decode cc pc = .ok (.invokestatic idx, 3)) (x : Int) (hx : 0 ≤ x ∧ x ≤ 3)  (kk : G X M (pc + 3) lv st) : G X M pc lv (.int (jI (x)) :: st) := by
  refine g_callS (k := 1) C (c_needHow (zL X) x hx M ) mfX8_needHow hl0 ⟨rfl, by decide +kernel, by decide +kernel, by decide +kernel⟩ ⟨hdep, by decide⟩ rfl rfl rfl hcat hlen hdec (fun v M' h => ?_)
  obtain ⟨rfl, rfl⟩ := h
  exact kk
set_option maxHeartbeats 4000000 in
set_option maxRecDepth 10000 in
theorem c_needRoom (l : Launch) (c : Nat) (hc : c < 12) (M : zM) (hM : M 95 1 = (c : Int)) : Mt l 1 yX8_needRoom cX8_needRoom 1 none (fun ad => [.ref (ad (95))]) M (fun _ vv M' => vv = none ∧ M' = M) := by
  refine Mt.of (fun ad => [some (.ref (ad (95)))]) (by decide +kernel) (fun _ => rfl) (fun _ => rfl) (fun _ => Nat.le_of_ble_eq_true rfl) fun X hX C hR => ?_
  subst hX
  show G X M 0 [some (.ref ((zA X) (95)))] []
  refine g_aload_n C dX8_needRoom_0 rfl ?_
  refine gf_Ms_fileCount C tw_215 dX8_needRoom_1 ?_
  rw [hM]
  refine g_bipush C dX8_needRoom_4 rfl ?_
  refine g_icmp_lt (tgt := 20) C dX8_needRoom_6 rfl (by omega) (by omega) (fun h6 => ?_) (fun h6 => ?_)
  · refine g_vret C hR dX8_needRoom_20 ?_
    exact ⟨rfl, rfl⟩
  · omega
theorem gc_needRoom {X : z_X} {cc : ByteArray} {own : String} {ret : Option FieldType} {dC nC : Nat} {M : zM} {pc : Nat} {lv : List (Option Value)} {st : List Value} (C : Cx cc own ret dC nC X) (hdep : 2 ≤ dC) {idx : Nat} (hl0 : Cond.methodLink own idx yX8_needRoom ∈ tT) (hcat : (st.map fun v => v.category).sum ≤ 8) (hlen : lv.length = nC) (hdec : decode cc pc = .ok (.invokevirtual idx, 3)) (c : Nat) (hc : c < 12) (hM : M 95 1 = (c : Int)) (kk : G X M (pc + 3) lv st) : G X M pc lv (.ref (zA X (95)) :: st) := by
  refine g_callV (k := 0) (o := 95) C (c_needRoom (zL X) c hc M hM) mfX8_needRoom hl0 ⟨rfl, by decide +kernel, by decide +kernel, by decide +kernel⟩ ⟨hdep, by decide⟩ (by omega) (fun _ _ _ _ => ze_ms) rfl rfl rfl rfl hcat hlen hdec (fun v M' h => ?_)
  obtain ⟨rfl, rfl⟩ := h
  exact kk
set_option maxHeartbeats 4000000 in
set_option maxRecDepth 10000 in
theorem c_needFit (l : Launch) (x : Nat) (hx : x ≤ 120) (M : zM) (hM : M 89 1 = (x : Int)) : Mt l 1 yX8_needFit cX8_needFit 1 none (fun ad => [.ref (ad (95))]) M (fun _ vv M' => vv = none ∧ M' = M) := by
  refine Mt.of (fun ad => [some (.ref (ad (95)))]) (by decide +kernel) (fun _ => rfl) (fun _ => rfl) (fun _ => Nat.le_of_ble_eq_true rfl) fun X hX C hR => ?_
  subst hX
  show G X M 0 [some (.ref ((zA X) (95)))] []
  refine g_aload_n C dX8_needFit_0 rfl ?_
  refine gf_Ms_outcome C tw_225 dX8_needFit_1 ?_
  refine gf_Out_made C tw_158 dX8_needFit_4 ?_
  rw [hM]
  refine g_bipush C dX8_needFit_7 rfl ?_
  refine g_icmp_le (tgt := 23) C dX8_needFit_9 rfl (by omega) (by omega) (fun h9 => ?_) (fun h9 => ?_)
  · refine g_vret C hR dX8_needFit_23 ?_
    exact ⟨rfl, rfl⟩
  · omega
theorem gc_needFit {X : z_X} {cc : ByteArray} {own : String} {ret : Option FieldType} {dC nC : Nat} {M : zM} {pc : Nat} {lv : List (Option Value)} {st : List Value} (C : Cx cc own ret dC nC X) (hdep : 2 ≤ dC) {idx : Nat} (hl0 : Cond.methodLink own idx yX8_needFit ∈ tT) (hcat : (st.map fun v => v.category).sum ≤ 8) (hlen : lv.length = nC) (hdec : decode cc pc = .ok (.invokevirtual idx, 3)) (x : Nat) (hx : x ≤ 120) (hM : M 89 1 = (x : Int)) (kk : G X M (pc + 3) lv st) : G X M pc lv (.ref (zA X (95)) :: st) := by
  refine g_callV (k := 0) (o := 95) C (c_needFit (zL X) x hx M hM) mfX8_needFit hl0 ⟨rfl, by decide +kernel, by decide +kernel, by decide +kernel⟩ ⟨hdep, by decide⟩ (by omega) (fun _ _ _ _ => ze_ms) rfl rfl rfl rfl hcat hlen hdec (fun v M' h => ?_)
  obtain ⟨rfl, rfl⟩ := h
  exact kk
set_option maxHeartbeats 4000000 in
set_option maxRecDepth 10000 in
theorem c_needTournament (l : Launch)  (M : zM) (hM : M 84 0 = 1) : Mt l 1 yX8_needTournament cX8_needTournament 1 none (fun ad => [.ref (ad (95))]) M (fun _ vv M' => vv = none ∧ M' = M) := by
  refine Mt.of (fun ad => [some (.ref (ad (95)))]) (by decide +kernel) (fun _ => rfl) (fun _ => rfl) (fun _ => Nat.le_of_ble_eq_true rfl) fun X hX C hR => ?_
  subst hX
  show G X M 0 [some (.ref ((zA X) (95)))] []
  refine g_aload_n C dX8_needTournament_0 rfl ?_
  refine gf_Ms_tournament C tw_224 dX8_needTournament_1 ?_
  refine gf_Tour_isOn C tw_100 dX8_needTournament_4 ?_
  rw [hM]
  refine g_if_ne (tgt := 21) C dX8_needTournament_7 rfl (by omega) (fun h7 => ?_) (fun h7 => ?_)
  · refine g_vret C hR dX8_needTournament_21 ?_
    exact ⟨rfl, rfl⟩
  · omega
theorem gc_needTournament {X : z_X} {cc : ByteArray} {own : String} {ret : Option FieldType} {dC nC : Nat} {M : zM} {pc : Nat} {lv : List (Option Value)} {st : List Value} (C : Cx cc own ret dC nC X) (hdep : 2 ≤ dC) {idx : Nat} (hl0 : Cond.methodLink own idx yX8_needTournament ∈ tT) (hcat : (st.map fun v => v.category).sum ≤ 8) (hlen : lv.length = nC) (hdec : decode cc pc = .ok (.invokevirtual idx, 3))  (hM : M 84 0 = 1) (kk : G X M (pc + 3) lv st) : G X M pc lv (.ref (zA X (95)) :: st) := by
  refine g_callV (k := 0) (o := 95) C (c_needTournament (zL X)  M hM) mfX8_needTournament hl0 ⟨rfl, by decide +kernel, by decide +kernel, by decide +kernel⟩ ⟨hdep, by decide⟩ (by omega) (fun _ _ _ _ => ze_ms) rfl rfl rfl rfl hcat hlen hdec (fun v M' h => ?_)
  obtain ⟨rfl, rfl⟩ := h
  exact kk
set_option maxHeartbeats 4000000 in
set_option maxRecDepth 10000 in
theorem c_needUp (l : Launch) {r : Nat} (hr : r < 20) {L : List (Int × Int)} (M : zM) (hL : zRow M r L) (hb : zIn L) (hu : upB L = true) : Mt l 2 yX8_needUp cX8_needUp 1 none (fun ad => [.ref (ad (3 * r))]) M (fun _ vv M' => vv = none ∧ M' = M) := by
  refine Mt.of (fun ad => [some (.ref (ad (3 * r)))]) (by decide +kernel) (fun _ => rfl) (fun _ => rfl) (fun _ => Nat.le_of_ble_eq_true rfl) fun X hX C hR => ?_
  subst hX
  show G X M 0 [some (.ref ((zA X) (3 * r)))] []
  refine g_aload_n C dX8_needUp_0 rfl ?_
  refine gc_Row_isUp C (by decide) tw_442 (Nat.le_of_ble_eq_true rfl) rfl dX8_needUp_1 hr hL hb (?_)
  rw [if_pos hu]
  refine g_if_ne (tgt := 18) C dX8_needUp_4 rfl (by omega) (fun h4 => ?_) (fun h4 => ?_)
  · refine g_vret C hR dX8_needUp_18 ?_
    exact ⟨rfl, rfl⟩
  · omega
theorem gc_needUp {X : z_X} {cc : ByteArray} {own : String} {ret : Option FieldType} {dC nC : Nat} {M : zM} {pc : Nat} {lv : List (Option Value)} {st : List Value} (C : Cx cc own ret dC nC X) (hdep : 3 ≤ dC) {idx : Nat} (hl0 : Cond.methodLink own idx yX8_needUp ∈ tT) (hcat : (st.map fun v => v.category).sum ≤ 8) (hlen : lv.length = nC) (hdec : decode cc pc = .ok (.invokestatic idx, 3)) {r : Nat} (hr : r < 20) {L : List (Int × Int)} (hL : zRow M r L) (hb : zIn L) (hu : upB L = true) (kk : G X M (pc + 3) lv st) : G X M pc lv (.ref (zA X (3 * r)) :: st) := by
  refine g_callS (k := 1) C (c_needUp (zL X) hr M hL hb hu) mfX8_needUp hl0 ⟨rfl, by decide +kernel, by decide +kernel, by decide +kernel⟩ ⟨hdep, by decide⟩ rfl rfl rfl hcat hlen hdec (fun v M' h => ?_)
  obtain ⟨rfl, rfl⟩ := h
  exact kk
set_option maxHeartbeats 4000000 in
set_option maxRecDepth 10000 in
theorem c_needSpace (l : Launch) {r : Nat} (hr : r < 20) {L : List (Int × Int)} (x : Int) (hx : 0 ≤ x ∧ (L.length : Int) + x ≤ 120) (M : zM) (hL : zRow M r L) : Mt l 2 yX8_needSpace cX8_needSpace 2 none (fun ad => [.ref (ad (3 * r)), .int (jI (x))]) M (fun _ vv M' => vv = none ∧ M' = M) := by
  refine Mt.of (fun ad => [some (.ref (ad (3 * r))), some (.int (jI (x)))]) (by decide +kernel) (fun _ => rfl) (fun _ => rfl) (fun _ => Nat.le_of_ble_eq_true rfl) fun X hX C hR => ?_
  subst hX
  show G X M 0 [some (.ref ((zA X) (3 * r))), some (.int (jI (x)))] []
  refine g_aload_n C dX8_needSpace_0 rfl ?_
  refine gc_Row_count C (by decide) tw_390 (Nat.le_of_ble_eq_true rfl) rfl dX8_needSpace_1 hr hL (?_)
  refine g_iload_n C dX8_needSpace_4 rfl ?_
  refine g_iadd C dX8_needSpace_5 ?_
  refine g_bipush C dX8_needSpace_6 rfl ?_
  refine g_icmp_le (tgt := 22) C dX8_needSpace_8 rfl (by omega) (by omega) (fun h8 => ?_) (fun h8 => ?_)
  · refine g_vret C hR dX8_needSpace_22 ?_
    exact ⟨rfl, rfl⟩
  · omega
theorem gc_needSpace {X : z_X} {cc : ByteArray} {own : String} {ret : Option FieldType} {dC nC : Nat} {M : zM} {pc : Nat} {lv : List (Option Value)} {st : List Value} (C : Cx cc own ret dC nC X) (hdep : 3 ≤ dC) {idx : Nat} (hl0 : Cond.methodLink own idx yX8_needSpace ∈ tT) (hcat : (st.map fun v => v.category).sum ≤ 8) (hlen : lv.length = nC) (hdec : decode cc pc = .ok (.invokestatic idx, 3)) {r : Nat} (hr : r < 20) {L : List (Int × Int)} (x : Int) (hx : 0 ≤ x ∧ (L.length : Int) + x ≤ 120) (hL : zRow M r L) (kk : G X M (pc + 3) lv st) : G X M pc lv (.int (jI (x)) :: .ref (zA X (3 * r)) :: st) := by
  refine g_callS (k := 2) C (c_needSpace (zL X) hr x hx M hL) mfX8_needSpace hl0 ⟨rfl, by decide +kernel, by decide +kernel, by decide +kernel⟩ ⟨hdep, by decide⟩ rfl rfl rfl hcat hlen hdec (fun v M' h => ?_)
  obtain ⟨rfl, rfl⟩ := h
  exact kk
set_option maxHeartbeats 4000000 in
set_option maxRecDepth 10000 in
theorem c_setMemory (l : Launch) (p m : Int) (hp : 2 ≤ p ∧ p ≤ 10) (hm : 3 ≤ m ∧ m ≤ 12) (M : zM)  : Mt l 2 yX8_setMemory cX8_setMemory 4 (some .int) (fun ad => [.ref (ad (95)), .int (jI (p)), .int (jI (m))]) M (fun _ vv M' => ∃ x : Int, vv = some (.int (jI x)) ∧ (M' = zu (zu M 95 2 p) 95 3 m)) := by
  refine Mt.of (fun ad => [some (.ref (ad (95))), some (.int (jI (p))), some (.int (jI (m))), none]) (by decide +kernel) (fun _ => rfl) (fun _ => rfl) (fun _ => Nat.le_of_ble_eq_true rfl) fun X hX C hR => ?_
  subst hX
  show G X M 0 [some (.ref ((zA X) (95))), some (.int (jI (p))), some (.int (jI (m))), none] []
  refine g_iload_n C dX8_setMemory_0 rfl ?_
  refine g_iconst C dX8_setMemory_1 ?_
  refine g_icmp_lt (tgt := 11) C dX8_setMemory_2 rfl (by omega) (by omega) (fun h2 => ?_) (fun h2 => ?_)
  · omega
  · refine g_iload_n C dX8_setMemory_5 rfl ?_
    refine g_bipush C dX8_setMemory_6 rfl ?_
    refine g_icmp_le (tgt := 21) C dX8_setMemory_8 rfl (by omega) (by omega) (fun h8 => ?_) (fun h8 => ?_)
    · refine g_iload_n C dX8_setMemory_21 rfl ?_
      refine gc_needMemory C (by decide) tw_329 (Nat.le_of_ble_eq_true rfl) rfl dX8_setMemory_22 _ hm (?_)
      refine g_aload_n C dX8_setMemory_25 rfl ?_
      refine gf_Ms_memory C tw_217 dX8_setMemory_26 ?_
      refine g_istore_n C dX8_setMemory_29 (Nat.le_of_ble_eq_true rfl) ?_
      show G X _ 30 [_, _, _, _] _
      refine g_aload_n C dX8_setMemory_30 rfl ?_
      refine g_iload_n C dX8_setMemory_31 rfl ?_
      refine gp_Ms_page C tw_216 dX8_setMemory_32 ?_
      refine g_aload_n C dX8_setMemory_35 rfl ?_
      refine g_iload_n C dX8_setMemory_36 rfl ?_
      refine gp_Ms_memory C tw_217 dX8_setMemory_37 ?_
      show G X _ 40 _ _
      refine g_iload_n C dX8_setMemory_40 rfl ?_
      refine g_iret C hR dX8_setMemory_41 ?_
      exact ⟨_, rfl, rfl⟩
    · omega
theorem gc_setMemory {X : z_X} {cc : ByteArray} {own : String} {ret : Option FieldType} {dC nC : Nat} {M : zM} {pc : Nat} {lv : List (Option Value)} {st : List Value} (C : Cx cc own ret dC nC X) (hdep : 3 ≤ dC) {idx : Nat} (hl0 : Cond.methodLink own idx yX8_setMemory ∈ tT) (hcat : (st.map fun v => v.category).sum ≤ 8) (hlen : lv.length = nC) (hdec : decode cc pc = .ok (.invokevirtual idx, 3)) (p m : Int) (hp : 2 ≤ p ∧ p ≤ 10) (hm : 3 ≤ m ∧ m ≤ 12)  (kk : ∀ (x : Int) (M' : zM), (M' = zu (zu M 95 2 p) 95 3 m) → G X M' (pc + 3) lv (.int (jI x) :: st)) : G X M pc lv (.int (jI (m)) :: .int (jI (p)) :: .ref (zA X (95)) :: st) := by
  refine g_callV (k := 2) (o := 95) C (c_setMemory (zL X) p m hp hm M ) mfX8_setMemory hl0 ⟨rfl, by decide +kernel, by decide +kernel, by decide +kernel⟩ ⟨hdep, by decide⟩ (by omega) (fun _ _ _ _ => ze_ms) rfl rfl rfl rfl hcat hlen hdec (fun v M' h => ?_)
  obtain ⟨x, rfl, h⟩ := h
  exact kk x M' h
set_option maxHeartbeats 4000000 in
set_option maxRecDepth 10000 in
theorem c_addFile (l : Launch) (c : Nat) (hc : c < 12) (M : zM) (hM : M 95 1 = (c : Int)) : Mt l 2 yX8_addFile cX8_addFile 2 (some .int) (fun ad => [.ref (ad (95))]) M (fun _ vv M' => ∃ x : Int, vv = some (.int (jI x)) ∧ (x = (c : Int) ∧ zRow M' c [] ∧ M' 95 1 = (c : Int) + 1 ∧ (∀ k, k ≠ 1 → M' 95 k = M 95 k) ∧ ∀ o, o ≠ 3 * c → o ≠ 3 * c + 1 → o ≠ 3 * c + 2 → o ≠ 95 → M' o = M o)) := by
  refine Mt.of (fun ad => [some (.ref (ad (95))), none]) (by decide +kernel) (fun _ => rfl) (fun _ => rfl) (fun _ => Nat.le_of_ble_eq_true rfl) fun X hX C hR => ?_
  subst hX
  show G X M 0 [some (.ref ((zA X) (95))), none] []
  refine g_aload_n C dX8_addFile_0 rfl ?_
  refine gc_needRoom C (by decide) tw_337 (Nat.le_of_ble_eq_true rfl) rfl dX8_addFile_1 c hc hM (?_)
  refine g_aload_n C dX8_addFile_4 rfl ?_
  refine gf_Ms_fileCount C tw_215 dX8_addFile_5 ?_
  rw [hM]
  refine g_istore_n C dX8_addFile_8 (Nat.le_of_ble_eq_true rfl) ?_
  show G X _ 9 [_, _] _
  refine g_aload_n C dX8_addFile_9 rfl ?_
  refine gf_Ms_files C tw_214 dX8_addFile_10 ?_
  refine g_iload_n C dX8_addFile_13 rfl ?_
  refine ga_files C _ (by omega) rfl dX8_addFile_14 ?_
  refine gc_Row_empty C (by decide) tw_357 (Nat.le_of_ble_eq_true rfl) rfl dX8_addFile_15 (by omega) (fun N ⟨n1, n2⟩ => ?_)
  refine g_aload_n C dX8_addFile_18 rfl ?_
  show G X _ 19 _ _
  refine g_dup C dX8_addFile_19 rfl ?_
  refine gf_Ms_fileCount C tw_215 dX8_addFile_20 ?_
  rw [n2 _ (by omega) (by omega) (by omega), hM]
  refine g_iconst C dX8_addFile_23 ?_
  refine g_iadd C dX8_addFile_24 ?_
  refine gp_Ms_fileCount C tw_215 dX8_addFile_25 ?_
  refine g_iload_n C dX8_addFile_28 rfl ?_
  show G X _ 29 _ _
  refine g_iret C hR dX8_addFile_29 ?_
  refine ⟨_, rfl, rfl, n1.same (fun o a b => zu_o _ _ _ _ (by omega)), zu_s _ _ _ _, fun k hk => ?_, fun o a b d e => ?_⟩
  · rw [zu_k _ _ _ _ hk, n2 _ (by omega) (by omega) (by omega)]
  · rw [zu_o _ _ _ _ e]; exact n2 o a b d
theorem gc_addFile {X : z_X} {cc : ByteArray} {own : String} {ret : Option FieldType} {dC nC : Nat} {M : zM} {pc : Nat} {lv : List (Option Value)} {st : List Value} (C : Cx cc own ret dC nC X) (hdep : 3 ≤ dC) {idx : Nat} (hl0 : Cond.methodLink own idx yX8_addFile ∈ tT) (hcat : (st.map fun v => v.category).sum ≤ 8) (hlen : lv.length = nC) (hdec : decode cc pc = .ok (.invokevirtual idx, 3)) (c : Nat) (hc : c < 12) (hM : M 95 1 = (c : Int)) (kk : ∀ (x : Int) (M' : zM), (x = (c : Int) ∧ zRow M' c [] ∧ M' 95 1 = (c : Int) + 1 ∧ (∀ k, k ≠ 1 → M' 95 k = M 95 k) ∧ ∀ o, o ≠ 3 * c → o ≠ 3 * c + 1 → o ≠ 3 * c + 2 → o ≠ 95 → M' o = M o) → G X M' (pc + 3) lv (.int (jI x) :: st)) : G X M pc lv (.ref (zA X (95)) :: st) := by
  refine g_callV (k := 0) (o := 95) C (c_addFile (zL X) c hc M hM) mfX8_addFile hl0 ⟨rfl, by decide +kernel, by decide +kernel, by decide +kernel⟩ ⟨hdep, by decide⟩ (by omega) (fun _ _ _ _ => ze_ms) rfl rfl rfl rfl hcat hlen hdec (fun v M' h => ?_)
  obtain ⟨x, rfl, h⟩ := h
  exact kk x M' h
set_option maxHeartbeats 4000000 in
set_option maxRecDepth 10000 in
theorem c_rowOf (l : Launch) {c : Nat} (f : Nat) (hf : f < c) (hc : c ≤ 12) (M : zM) (hM : M 95 1 = (c : Int)) : Mt l 1 yX8_rowOf cX8_rowOf 2 (some (.object "MoraineSort$Row")) (fun ad => [.ref (ad (95)), .int (jI ((f : Int)))]) M (fun ad vv M' => vv = some (.ref (ad (3 * f))) ∧ M' = M) := by
  refine Mt.of (fun ad => [some (.ref (ad (95))), some (.int (jI ((f : Int))))]) (by decide +kernel) (fun _ => rfl) (fun _ => rfl) (fun _ => Nat.le_of_ble_eq_true rfl) fun X hX C hR => ?_
  subst hX
  show G X M 0 [some (.ref ((zA X) (95))), some (.int (jI ((f : Int))))] []
  refine g_iload_n C dX8_rowOf_0 rfl ?_
  refine g_if_lt (tgt := 12) C dX8_rowOf_1 rfl (by omega) (fun h1 => ?_) (fun h1 => ?_)
  · omega
  · refine g_iload_n C dX8_rowOf_4 rfl ?_
    refine g_aload_n C dX8_rowOf_5 rfl ?_
    refine gf_Ms_fileCount C tw_215 dX8_rowOf_6 ?_
    rw [hM]
    refine g_icmp_lt (tgt := 23) C dX8_rowOf_9 rfl (by omega) (by omega) (fun h9 => ?_) (fun h9 => ?_)
    · refine g_aload_n C dX8_rowOf_23 rfl ?_
      refine gf_Ms_files C tw_214 dX8_rowOf_24 ?_
      refine g_iload_n C dX8_rowOf_27 rfl ?_
      refine ga_files C _ (by omega) rfl dX8_rowOf_28 ?_
      refine g_aret C hR dX8_rowOf_29 ?_
      exact ⟨rfl, rfl⟩
    · omega
theorem gc_rowOf {X : z_X} {cc : ByteArray} {own : String} {ret : Option FieldType} {dC nC : Nat} {M : zM} {pc : Nat} {lv : List (Option Value)} {st : List Value} (C : Cx cc own ret dC nC X) (hdep : 2 ≤ dC) {idx : Nat} (hl0 : Cond.methodLink own idx yX8_rowOf ∈ tT) (hcat : (st.map fun v => v.category).sum ≤ 8) (hlen : lv.length = nC) (hdec : decode cc pc = .ok (.invokevirtual idx, 3)) {c : Nat} (f : Nat) (hf : f < c) (hc : c ≤ 12) (hM : M 95 1 = (c : Int)) (kk : G X M (pc + 3) lv (.ref (zA X (3 * f)) :: st)) : G X M pc lv (.int (jI ((f : Int))) :: .ref (zA X (95)) :: st) := by
  refine g_callV (k := 1) (o := 95) C (c_rowOf (zL X) f hf hc M hM) mfX8_rowOf hl0 ⟨rfl, by decide +kernel, by decide +kernel, by decide +kernel⟩ ⟨hdep, by decide⟩ (by omega) (fun _ _ _ _ => ze_ms) rfl rfl rfl rfl hcat hlen hdec (fun v M' h => ?_)
  obtain ⟨rfl, rfl⟩ := h
  exact kk
set_option maxHeartbeats 4000000 in
set_option maxRecDepth 10000 in
theorem c_forget (l : Launch) (x : Int) (hx : 0 ≤ x ∧ x ≤ 12) (M : zM) (h4 : 0 ≤ M 84 4 ∧ M 84 4 ≤ 12) (h5 : 0 ≤ M 84 5 ∧ M 84 5 ≤ 12) : Mt l 1 yX7_forget cX7_forget 2 none (fun ad => [.ref (ad (84)), .int (jI (x))]) M (fun _ vv M' => vv = none ∧ ((∀ o, o ≠ 84 → M' o = M o) ∧ (∀ k, k ≠ 0 → M' 84 k = M 84 k) ∧ (M' 84 0 = M 84 0 ∨ M' 84 0 = 0))) := by
  refine Mt.of (fun ad => [some (.ref (ad (84))), some (.int (jI (x)))]) (by decide +kernel) (fun _ => rfl) (fun _ => rfl) (fun _ => Nat.le_of_ble_eq_true rfl) fun X hX C hR => ?_
  subst hX
  show G X M 0 [some (.ref ((zA X) (84))), some (.int (jI (x)))] []
  refine g_iload_n C dX7_forget_0 rfl ?_
  refine g_aload_n C dX7_forget_1 rfl ?_
  refine gf_Tour_firstFile C tw_106 dX7_forget_2 ?_
  refine g_icmp_lt (tgt := 26) C dX7_forget_5 rfl (by omega) (by omega) (fun h5 => ?_) (fun h5 => ?_)
  · refine g_vret C hR dX7_forget_26 ?_
    exact ⟨rfl, fun _ _ => rfl, fun _ _ => rfl, Or.inl rfl⟩
  · refine g_iload_n C dX7_forget_8 rfl ?_
    refine g_aload_n C dX7_forget_9 rfl ?_
    refine gf_Tour_firstFile C tw_106 dX7_forget_10 ?_
    refine g_aload_n C dX7_forget_13 rfl ?_
    refine gf_Tour_rowCount C tw_107 dX7_forget_14 ?_
    refine g_iadd C dX7_forget_17 ?_
    show G X _ 18 _ _
    refine g_icmp_ge (tgt := 26) C dX7_forget_18 rfl (by omega) (by omega) (fun h18 => ?_) (fun h18 => ?_)
    · refine g_vret C hR dX7_forget_26 ?_
      exact ⟨rfl, fun _ _ => rfl, fun _ _ => rfl, Or.inl rfl⟩
    · refine g_aload_n C dX7_forget_21 rfl ?_
      refine g_iconst C dX7_forget_22 ?_
      refine gp_Tour_isOn C (by omega) tw_99 dX7_forget_23 ?_
      refine g_vret C hR dX7_forget_26 ?_
      exact ⟨rfl, fun o h => zu_o _ _ _ _ h, fun k h => zu_k _ _ _ _ h, Or.inr (zu_s _ _ _ _)⟩
theorem gc_forget {X : z_X} {cc : ByteArray} {own : String} {ret : Option FieldType} {dC nC : Nat} {M : zM} {pc : Nat} {lv : List (Option Value)} {st : List Value} (C : Cx cc own ret dC nC X) (hdep : 2 ≤ dC) {idx : Nat} (hl0 : Cond.methodLink own idx yX7_forget ∈ tT) (hcat : (st.map fun v => v.category).sum ≤ 8) (hlen : lv.length = nC) (hdec : decode cc pc = .ok (.invokevirtual idx, 3)) (x : Int) (hx : 0 ≤ x ∧ x ≤ 12) (h4 : 0 ≤ M 84 4 ∧ M 84 4 ≤ 12) (h5 : 0 ≤ M 84 5 ∧ M 84 5 ≤ 12) (kk : ∀ M' : zM, ((∀ o, o ≠ 84 → M' o = M o) ∧ (∀ k, k ≠ 0 → M' 84 k = M 84 k) ∧ (M' 84 0 = M 84 0 ∨ M' 84 0 = 0)) → G X M' (pc + 3) lv st) : G X M pc lv (.int (jI (x)) :: .ref (zA X (84)) :: st) := by
  refine g_callV (k := 1) (o := 84) C (c_forget (zL X) x hx M h4 h5) mfX7_forget hl0 ⟨rfl, by decide +kernel, by decide +kernel, by decide +kernel⟩ ⟨hdep, by decide⟩ (by omega) (fun _ _ _ _ => ze_tour) rfl rfl rfl rfl hcat hlen hdec (fun v M' h => ?_)
  obtain ⟨rfl, h⟩ := h
  exact kk M' h
set_option maxHeartbeats 4000000 in
set_option maxRecDepth 10000 in
theorem c_put (l : Launch) {c : Nat} (f : Nat) (hf : f < c) (hc : c ≤ 12) {L : List (Int × Int)} (k m : Int) (hk : -999 ≤ k ∧ k ≤ 999) (hm : 0 ≤ m ∧ m ≤ 9999) (hs : L.length < 120) (M : zM) (hM : M 95 1 = (c : Int)) (hL : zRow M f L) (h4 : 0 ≤ M 84 4 ∧ M 84 4 ≤ 12) (h5 : 0 ≤ M 84 5 ∧ M 84 5 ≤ 12) : Mt l 3 yX8_put cX8_put 5 (some .int) (fun ad => [.ref (ad (95)), .int (jI ((f : Int))), .int (jI (k)), .int (jI (m))]) M (fun _ vv M' => ∃ x : Int, vv = some (.int (jI x)) ∧ (x = (L.length : Int) + 1 ∧ zRow M' f (L ++ [(k, m)]) ∧ (∀ o, o ≠ 3 * f → o ≠ 3 * f + 1 → o ≠ 3 * f + 2 → o ≠ 84 → M' o = M o) ∧ (∀ k, k ≠ 0 → M' 84 k = M 84 k) ∧ (M' 84 0 = M 84 0 ∨ M' 84 0 = 0))) := by
  refine Mt.of (fun ad => [some (.ref (ad (95))), some (.int (jI ((f : Int)))), some (.int (jI (k))), some (.int (jI (m))), none]) (by decide +kernel) (fun _ => rfl) (fun _ => rfl) (fun _ => Nat.le_of_ble_eq_true rfl) fun X hX C hR => ?_
  subst hX
  show G X M 0 [some (.ref ((zA X) (95))), some (.int (jI ((f : Int)))), some (.int (jI (k))), some (.int (jI (m))), none] []
  refine g_aload_n C dX8_put_0 rfl ?_
  refine g_iload_n C dX8_put_1 rfl ?_
  refine gc_rowOf C (by decide) tw_365 (Nat.le_of_ble_eq_true rfl) rfl dX8_put_2 f hf hc hM (?_)
  refine g_astore C dX8_put_5 (Nat.le_of_ble_eq_true rfl) ?_
  show G X _ 7 [_, _, _, _, _] _
  refine g_iload_n C dX8_put_7 rfl ?_
  refine g_sipush C dX8_put_8 rfl ?_
  refine g_icmp_lt (tgt := 21) C dX8_put_11 rfl (by omega) (by omega) (fun h11 => ?_) (fun h11 => ?_)
  · omega
  · refine g_iload_n C dX8_put_14 rfl ?_
    refine g_sipush C dX8_put_15 rfl ?_
    refine g_icmp_le (tgt := 31) C dX8_put_18 rfl (by omega) (by omega) (fun h18 => ?_) (fun h18 => ?_)
    · refine g_iload_n C dX8_put_31 rfl ?_
      refine g_if_lt (tgt := 42) C dX8_put_32 rfl (by omega) (fun h32 => ?_) (fun h32 => ?_)
      · omega
      · refine g_iload_n C dX8_put_35 rfl ?_
        refine g_sipush C dX8_put_36 rfl ?_
        refine g_icmp_lt (tgt := 52) C dX8_put_39 rfl (by omega) (by omega) (fun h39 => ?_) (fun h39 => ?_)
        · refine g_aload C dX8_put_52 rfl ?_
          refine g_iconst C dX8_put_54 ?_
          refine gc_needSpace C (by decide) tw_387 (Nat.le_of_ble_eq_true rfl) rfl dX8_put_55 (by omega) 1 (by omega) hL (?_)
          refine g_aload_n C dX8_put_58 rfl ?_
          refine gf_Ms_tournament C tw_224 dX8_put_59 ?_
          refine g_iload_n C dX8_put_62 rfl ?_
          show G X _ 63 _ _
          refine gc_forget C (by decide) tw_395 (Nat.le_of_ble_eq_true rfl) rfl dX8_put_63 _ (by omega) h4 h5 (fun N ⟨n1, n2, n3⟩ => ?_)
          refine g_aload C dX8_put_66 rfl ?_
          refine g_iload_n C dX8_put_68 rfl ?_
          refine g_iload_n C dX8_put_69 rfl ?_
          refine gc_Row_add C (by decide) tw_399 (Nat.le_of_ble_eq_true rfl) rfl dX8_put_70 (by omega) k m hs (hL.same (fun o a b => n1 o (by omega))) (fun N2 ⟨n4, n5⟩ => ?_)
          refine g_aload C dX8_put_73 rfl ?_
          show G X _ 75 _ _
          refine gc_Row_count C (by decide) tw_390 (Nat.le_of_ble_eq_true rfl) rfl dX8_put_75 (by omega) n4 (?_)
          refine g_iret C hR dX8_put_78 ?_
          refine ⟨_, rfl, by simp, n4, fun o a b d e => (n5 o a b d).trans (n1 o e), fun q hq => by rw [n5 84 (by omega) (by omega) (by omega)]; exact n2 q hq, by rw [n5 84 (by omega) (by omega) (by omega)]; exact n3⟩
        · omega
    · omega
theorem gc_put {X : z_X} {cc : ByteArray} {own : String} {ret : Option FieldType} {dC nC : Nat} {M : zM} {pc : Nat} {lv : List (Option Value)} {st : List Value} (C : Cx cc own ret dC nC X) (hdep : 4 ≤ dC) {idx : Nat} (hl0 : Cond.methodLink own idx yX8_put ∈ tT) (hcat : (st.map fun v => v.category).sum ≤ 8) (hlen : lv.length = nC) (hdec : decode cc pc = .ok (.invokevirtual idx, 3)) {c : Nat} (f : Nat) (hf : f < c) (hc : c ≤ 12) {L : List (Int × Int)} (k m : Int) (hk : -999 ≤ k ∧ k ≤ 999) (hm : 0 ≤ m ∧ m ≤ 9999) (hs : L.length < 120) (hM : M 95 1 = (c : Int)) (hL : zRow M f L) (h4 : 0 ≤ M 84 4 ∧ M 84 4 ≤ 12) (h5 : 0 ≤ M 84 5 ∧ M 84 5 ≤ 12) (kk : ∀ (x : Int) (M' : zM), (x = (L.length : Int) + 1 ∧ zRow M' f (L ++ [(k, m)]) ∧ (∀ o, o ≠ 3 * f → o ≠ 3 * f + 1 → o ≠ 3 * f + 2 → o ≠ 84 → M' o = M o) ∧ (∀ k, k ≠ 0 → M' 84 k = M 84 k) ∧ (M' 84 0 = M 84 0 ∨ M' 84 0 = 0)) → G X M' (pc + 3) lv (.int (jI x) :: st)) : G X M pc lv (.int (jI (m)) :: .int (jI (k)) :: .int (jI ((f : Int))) :: .ref (zA X (95)) :: st) := by
  refine g_callV (k := 3) (o := 95) C (c_put (zL X) f hf hc k m hk hm hs M hM hL h4 h5) mfX8_put hl0 ⟨rfl, by decide +kernel, by decide +kernel, by decide +kernel⟩ ⟨hdep, by decide⟩ (by omega) (fun _ _ _ _ => ze_ms) rfl rfl rfl rfl hcat hlen hdec (fun v M' h => ?_)
  obtain ⟨x, rfl, h⟩ := h
  exact kk x M' h
set_option maxHeartbeats 4000000 in
set_option maxRecDepth 10000 in
theorem c_putRow (l : Launch) {c : Nat} (f : Nat) (hf : f < c) (hc : c ≤ 12) {L : List (Int × Int)} (first step span : Int) (count : Nat) (h1 : 0 ≤ first ∧ first ≤ 999) (h2 : -999 ≤ step ∧ step ≤ 999) (h3 : 1 ≤ span ∧ span ≤ 999) (hn : 1 ≤ count ∧ L.length + count ≤ 120) (M : zM) (hM : M 95 1 = (c : Int)) (hL : zRow M f L) (h4 : 0 ≤ M 84 4 ∧ M 84 4 ≤ 12) (h5 : 0 ≤ M 84 5 ∧ M 84 5 ≤ 12) : Mt l 3 yX8_putRow cX8_putRow 8 (some .int) (fun ad => [.ref (ad (95)), .int (jI ((f : Int))), .int (jI (first)), .int (jI (step)), .int (jI (span)), .int (jI ((count : Int)))]) M (fun _ vv M' => ∃ x : Int, vv = some (.int (jI x)) ∧ (zRow M' f (L ++ prL first step span count) ∧ (∀ o, o ≠ 3 * f → o ≠ 3 * f + 1 → o ≠ 3 * f + 2 → o ≠ 84 → M' o = M o) ∧ (∀ k, k ≠ 0 → M' 84 k = M 84 k) ∧ (M' 84 0 = M 84 0 ∨ M' 84 0 = 0))) := by
  refine Mt.of (fun ad => [some (.ref (ad (95))), some (.int (jI ((f : Int)))), some (.int (jI (first))), some (.int (jI (step))), some (.int (jI (span))), some (.int (jI ((count : Int)))), none, none]) (by decide +kernel) (fun _ => rfl) (fun _ => rfl) (fun _ => Nat.le_of_ble_eq_true rfl) fun X hX C hR => ?_
  subst hX
  show G X M 0 [some (.ref ((zA X) (95))), some (.int (jI ((f : Int)))), some (.int (jI (first))), some (.int (jI (step))), some (.int (jI (span))), some (.int (jI ((count : Int)))), none, none] []
  have hbl : ∀ N1 : zM, (∀ o, o ≠ 84 → N1 o = M o) → (∀ k, k ≠ 0 → N1 84 k = M 84 k) → (N1 84 0 = M 84 0 ∨ N1 84 0 = 0) → zRow N1 f L → G X N1 117 [some (.ref (zA X 95)), some (.int (jI (f : Int))), some (.int (jI first)), some (.int (jI step)), some (.int (jI span)), some (.int (jI (count : Int))), some (.ref (zA X (3 * f))), some (.int (jI 0))] [] := by
    intro N1 m1 m2 m3 hL1
    have lp : ∀ (fk : Nat) (k : Nat) (N : zM), 200 - k < fk → k ≤ count → zRow N f (L ++ prL first step span k) → zFr N1 N f → G X N 117 [some (.ref (zA X 95)), some (.int (jI (f : Int))), some (.int (jI first)), some (.int (jI step)), some (.int (jI span)), some (.int (jI (count : Int))), some (.ref (zA X (3 * f))), some (.int (jI (k : Int)))] [] := by
      intro fk
      induction fk with
      | zero => intro k N hk; exact absurd hk (Nat.not_lt_zero _)
      | succ fk ih =>
        intro k N hk k1 hN hF
        refine g_iload C dX8_putRow_117 rfl ?_
        refine g_iload C dX8_putRow_119 rfl ?_
        refine g_icmp_ge (tgt := 151) C dX8_putRow_121 rfl (by omega) (by omega) (fun h121 => ?_) (fun h121 => ?_)
        · refine g_aload C dX8_putRow_151 rfl ?_
          refine gc_Row_count C (by decide) tw_390 (Nat.le_of_ble_eq_true rfl) rfl dX8_putRow_153 (by omega) hN (?_)
          refine g_iret C hR dX8_putRow_156 ?_
          refine ⟨_, rfl, ?_, fun o a b d e => (hF o a b d).trans (m1 o e), fun q hq => by rw [hF 84 (by omega) (by omega) (by omega)]; exact m2 q hq, by rw [hF 84 (by omega) (by omega) (by omega)]; exact m3⟩
          rw [show k = count by omega] at hN
          exact hN
        · refine g_aload C dX8_putRow_124 rfl ?_
          refine g_iload_n C dX8_putRow_126 rfl ?_
          refine g_iload C dX8_putRow_127 rfl ?_
          refine g_iload_n C dX8_putRow_129 rfl ?_
          refine g_imul C dX8_putRow_130 ?_
          refine g_iadd C dX8_putRow_131 ?_
          show G X _ 132 _ _
          refine g_iload C dX8_putRow_132 rfl ?_
          have hq : -300000 ≤ (k : Int) * step ∧ (k : Int) * step ≤ 300000 := by
            have g1 : (k : Int) * step ≤ (k : Int) * 999 := Int.mul_le_mul_of_nonneg_left h2.2 (by omega)
            have g2 : (k : Int) * (-999) ≤ (k : Int) * step := Int.mul_le_mul_of_nonneg_left h2.1 (by omega)
            omega
          refine gc_floorMod C (by decide) tw_411 (Nat.le_of_ble_eq_true rfl) rfl dX8_putRow_134 _ _ (by omega) (by omega) (?_)
          refine g_iload C dX8_putRow_137 rfl ?_
          refine g_bipush C dX8_putRow_139 rfl ?_
          refine g_irem C dX8_putRow_141 (by omega) (by omega) ?_
          refine gc_Row_add C (by decide) tw_399 (Nat.le_of_ble_eq_true rfl) rfl dX8_putRow_142 (by omega) _ _ (by rw [List.length_append, prL_len]; omega) hN (fun N2 ⟨n1, n2⟩ => ?_)
          show G X _ 145 _ _
          refine g_iinc C dX8_putRow_145 rfl ?_
          show G X _ 148 [_, _, _, _, _, _, _, _] _
          refine g_goto (tgt := 117) C dX8_putRow_148 rfl ?_
          show G X _ 117 _ _
          exact ih (k + 1) N2 (by omega) (by omega) (by rw [prL, ← List.append_assoc]; exact n1) (hF.trans n2)
    exact lp 300 0 N1 (by omega) (Nat.zero_le _) (by rw [prL, List.append_nil]; exact hL1) zFr.refl
  refine g_aload_n C dX8_putRow_0 rfl ?_
  refine g_iload_n C dX8_putRow_1 rfl ?_
  refine gc_rowOf C (by decide) tw_365 (Nat.le_of_ble_eq_true rfl) rfl dX8_putRow_2 f hf hc hM (?_)
  refine g_astore C dX8_putRow_5 (Nat.le_of_ble_eq_true rfl) ?_
  show G X _ 7 [_, _, _, _, _, _, _, _] _
  refine g_iload_n C dX8_putRow_7 rfl ?_
  refine g_if_lt (tgt := 18) C dX8_putRow_8 rfl (by omega) (fun h8 => ?_) (fun h8 => ?_)
  · omega
  · refine g_iload_n C dX8_putRow_11 rfl ?_
    refine g_sipush C dX8_putRow_12 rfl ?_
    refine g_icmp_le (tgt := 28) C dX8_putRow_15 rfl (by omega) (by omega) (fun h15 => ?_) (fun h15 => ?_)
    · refine g_iload_n C dX8_putRow_28 rfl ?_
      refine g_sipush C dX8_putRow_29 rfl ?_
      refine g_icmp_lt (tgt := 42) C dX8_putRow_32 rfl (by omega) (by omega) (fun h32 => ?_) (fun h32 => ?_)
      · omega
      · refine g_iload_n C dX8_putRow_35 rfl ?_
        refine g_sipush C dX8_putRow_36 rfl ?_
        refine g_icmp_le (tgt := 52) C dX8_putRow_39 rfl (by omega) (by omega) (fun h39 => ?_) (fun h39 => ?_)
        · refine g_iload C dX8_putRow_52 rfl ?_
          refine g_iconst C dX8_putRow_54 ?_
          refine g_icmp_lt (tgt := 66) C dX8_putRow_55 rfl (by omega) (by omega) (fun h55 => ?_) (fun h55 => ?_)
          · omega
          · refine g_iload C dX8_putRow_58 rfl ?_
            refine g_sipush C dX8_putRow_60 rfl ?_
            refine g_icmp_le (tgt := 76) C dX8_putRow_63 rfl (by omega) (by omega) (fun h63 => ?_) (fun h63 => ?_)
            · refine g_iload C dX8_putRow_76 rfl ?_
              refine g_iconst C dX8_putRow_78 ?_
              refine g_icmp_lt (tgt := 89) C dX8_putRow_79 rfl (by omega) (by omega) (fun h79 => ?_) (fun h79 => ?_)
              · omega
              · refine g_iload C dX8_putRow_82 rfl ?_
                refine g_bipush C dX8_putRow_84 rfl ?_
                refine g_icmp_le (tgt := 99) C dX8_putRow_86 rfl (by omega) (by omega) (fun h86 => ?_) (fun h86 => ?_)
                · refine g_aload C dX8_putRow_99 rfl ?_
                  refine g_iload C dX8_putRow_101 rfl ?_
                  refine gc_needSpace C (by decide) tw_387 (Nat.le_of_ble_eq_true rfl) rfl dX8_putRow_103 (by omega) (count : Int) (by omega) hL (?_)
                  refine g_aload_n C dX8_putRow_106 rfl ?_
                  refine gf_Ms_tournament C tw_224 dX8_putRow_107 ?_
                  refine g_iload_n C dX8_putRow_110 rfl ?_
                  show G X _ 111 _ _
                  refine gc_forget C (by decide) tw_395 (Nat.le_of_ble_eq_true rfl) rfl dX8_putRow_111 _ (by omega) h4 h5 (fun N1 ⟨m1, m2, m3⟩ => ?_)
                  refine g_iconst C dX8_putRow_114 ?_
                  refine g_istore C dX8_putRow_115 (Nat.le_of_ble_eq_true rfl) ?_
                  show G X _ 117 [_, _, _, _, _, _, _, _] _
                  exact hbl N1 m1 m2 m3 (hL.same (fun o a b => m1 o (by omega)))
                · omega
            · omega
        · omega
    · omega
theorem gc_putRow {X : z_X} {cc : ByteArray} {own : String} {ret : Option FieldType} {dC nC : Nat} {M : zM} {pc : Nat} {lv : List (Option Value)} {st : List Value} (C : Cx cc own ret dC nC X) (hdep : 4 ≤ dC) {idx : Nat} (hl0 : Cond.methodLink own idx yX8_putRow ∈ tT) (hcat : (st.map fun v => v.category).sum ≤ 8) (hlen : lv.length = nC) (hdec : decode cc pc = .ok (.invokevirtual idx, 3)) {c : Nat} (f : Nat) (hf : f < c) (hc : c ≤ 12) {L : List (Int × Int)} (first step span : Int) (count : Nat) (h1 : 0 ≤ first ∧ first ≤ 999) (h2 : -999 ≤ step ∧ step ≤ 999) (h3 : 1 ≤ span ∧ span ≤ 999) (hn : 1 ≤ count ∧ L.length + count ≤ 120) (hM : M 95 1 = (c : Int)) (hL : zRow M f L) (h4 : 0 ≤ M 84 4 ∧ M 84 4 ≤ 12) (h5 : 0 ≤ M 84 5 ∧ M 84 5 ≤ 12) (kk : ∀ (x : Int) (M' : zM), (zRow M' f (L ++ prL first step span count) ∧ (∀ o, o ≠ 3 * f → o ≠ 3 * f + 1 → o ≠ 3 * f + 2 → o ≠ 84 → M' o = M o) ∧ (∀ k, k ≠ 0 → M' 84 k = M 84 k) ∧ (M' 84 0 = M 84 0 ∨ M' 84 0 = 0)) → G X M' (pc + 3) lv (.int (jI x) :: st)) : G X M pc lv (.int (jI ((count : Int))) :: .int (jI (span)) :: .int (jI (step)) :: .int (jI (first)) :: .int (jI ((f : Int))) :: .ref (zA X (95)) :: st) := by
  refine g_callV (k := 5) (o := 95) C (c_putRow (zL X) f hf hc first step span count h1 h2 h3 hn M hM hL h4 h5) mfX8_putRow hl0 ⟨rfl, by decide +kernel, by decide +kernel, by decide +kernel⟩ ⟨hdep, by decide⟩ (by omega) (fun _ _ _ _ => ze_ms) rfl rfl rfl rfl hcat hlen hdec (fun v M' h => ?_)
  obtain ⟨x, rfl, h⟩ := h
  exact kk x M' h
set_option maxHeartbeats 4000000 in
set_option maxRecDepth 10000 in
theorem c_size (l : Launch) {c : Nat} (f : Nat) (hf : f < c) (hc : c ≤ 12) {L : List (Int × Int)} (M : zM) (hM : M 95 1 = (c : Int)) (hL : zRow M f L) : Mt l 2 yX8_size cX8_size 2 (some .int) (fun ad => [.ref (ad (95)), .int (jI ((f : Int)))]) M (fun _ vv M' => vv = some (.int (jI ((L.length : Int)))) ∧ M' = M) := by
  refine Mt.of (fun ad => [some (.ref (ad (95))), some (.int (jI ((f : Int))))]) (by decide +kernel) (fun _ => rfl) (fun _ => rfl) (fun _ => Nat.le_of_ble_eq_true rfl) fun X hX C hR => ?_
  subst hX
  show G X M 0 [some (.ref ((zA X) (95))), some (.int (jI ((f : Int))))] []
  refine g_aload_n C dX8_size_0 rfl ?_
  refine g_iload_n C dX8_size_1 rfl ?_
  refine gc_rowOf C (by decide) tw_365 (Nat.le_of_ble_eq_true rfl) rfl dX8_size_2 f hf hc hM (?_)
  refine gc_Row_count C (by decide) tw_390 (Nat.le_of_ble_eq_true rfl) rfl dX8_size_5 (by omega) hL (?_)
  refine g_iret C hR dX8_size_8 ?_
  exact ⟨rfl, rfl⟩
theorem gc_size {X : z_X} {cc : ByteArray} {own : String} {ret : Option FieldType} {dC nC : Nat} {M : zM} {pc : Nat} {lv : List (Option Value)} {st : List Value} (C : Cx cc own ret dC nC X) (hdep : 3 ≤ dC) {idx : Nat} (hl0 : Cond.methodLink own idx yX8_size ∈ tT) (hcat : (st.map fun v => v.category).sum ≤ 8) (hlen : lv.length = nC) (hdec : decode cc pc = .ok (.invokevirtual idx, 3)) {c : Nat} (f : Nat) (hf : f < c) (hc : c ≤ 12) {L : List (Int × Int)} (hM : M 95 1 = (c : Int)) (hL : zRow M f L) (kk : G X M (pc + 3) lv (.int (jI ((L.length : Int))) :: st)) : G X M pc lv (.int (jI ((f : Int))) :: .ref (zA X (95)) :: st) := by
  refine g_callV (k := 1) (o := 95) C (c_size (zL X) f hf hc M hM hL) mfX8_size hl0 ⟨rfl, by decide +kernel, by decide +kernel, by decide +kernel⟩ ⟨hdep, by decide⟩ (by omega) (fun _ _ _ _ => ze_ms) rfl rfl rfl rfl hcat hlen hdec (fun v M' h => ?_)
  obtain ⟨rfl, rfl⟩ := h
  exact kk
set_option maxHeartbeats 4000000 in
set_option maxRecDepth 10000 in
theorem c_at (l : Launch) {c : Nat} (f : Nat) (hf : f < c) (hc : c ≤ 12) {L : List (Int × Int)} (i : Nat) (b : Bool) (hi : i < L.length) (M : zM) (hM : M 95 1 = (c : Int)) (hL : zRow M f L) : Mt l 2 yX8_at cX8_at 5 (some .int) (fun ad => [.ref (ad (95)), .int (jI ((f : Int))), .int (jI ((i : Int))), .int (jI (bI b))]) M (fun _ vv M' => vv = some (.int (jI (if b = true then mA L i else kA L i))) ∧ M' = M) := by
  refine Mt.of (fun ad => [some (.ref (ad (95))), some (.int (jI ((f : Int)))), some (.int (jI ((i : Int)))), some (.int (jI (bI b))), none]) (by decide +kernel) (fun _ => rfl) (fun _ => rfl) (fun _ => Nat.le_of_ble_eq_true rfl) fun X hX C hR => ?_
  subst hX
  show G X M 0 [some (.ref ((zA X) (95))), some (.int (jI ((f : Int)))), some (.int (jI ((i : Int)))), some (.int (jI (bI b))), none] []
  have hl2 := hL.2.1
  refine g_aload_n C dX8_at_0 rfl ?_
  refine g_iload_n C dX8_at_1 rfl ?_
  refine gc_rowOf C (by decide) tw_365 (Nat.le_of_ble_eq_true rfl) rfl dX8_at_2 f hf hc hM (?_)
  refine g_astore C dX8_at_5 (Nat.le_of_ble_eq_true rfl) ?_
  show G X _ 7 [_, _, _, _, _] _
  refine g_aload C dX8_at_7 rfl ?_
  refine g_iload_n C dX8_at_9 rfl ?_
  refine gc_Row_has C (by decide) tw_422 (Nat.le_of_ble_eq_true rfl) rfl dX8_at_10 (by omega) _ (by omega) hL (?_)
  rw [if_pos (by omega)]
  refine g_if_ne (tgt := 26) C dX8_at_13 rfl (by omega) (fun h13 => ?_) (fun h13 => ?_)
  · refine g_iload_n C dX8_at_26 rfl ?_
    refine g_if_eq (tgt := 39) C dX8_at_27 rfl (by have := bI_in b; omega) (fun h27 => ?_) (fun h27 => ?_)
    · refine g_aload C dX8_at_39 rfl ?_
      refine g_iload_n C dX8_at_41 rfl ?_
      refine gc_Row_keyAt C (by decide) tw_431 (Nat.le_of_ble_eq_true rfl) rfl dX8_at_42 (by omega) i hi hL (?_)
      refine g_iret C hR dX8_at_45 ?_
      have hb : b = false := by cases b; rfl; simp [bI] at h27
      exact ⟨by simp [hb], rfl⟩
    · refine g_aload C dX8_at_30 rfl ?_
      refine g_iload_n C dX8_at_32 rfl ?_
      refine gc_Row_markAt C (by decide) tw_427 (Nat.le_of_ble_eq_true rfl) rfl dX8_at_33 (by omega) i hi hL (?_)
      refine g_goto (tgt := 45) C dX8_at_36 rfl ?_
      show G X _ 45 _ _
      refine g_iret C hR dX8_at_45 ?_
      have hb : b = true := by cases b; simp [bI] at h27; rfl
      exact ⟨by simp [hb], rfl⟩
  · omega
theorem gc_at {X : z_X} {cc : ByteArray} {own : String} {ret : Option FieldType} {dC nC : Nat} {M : zM} {pc : Nat} {lv : List (Option Value)} {st : List Value} (C : Cx cc own ret dC nC X) (hdep : 3 ≤ dC) {idx : Nat} (hl0 : Cond.methodLink own idx yX8_at ∈ tT) (hcat : (st.map fun v => v.category).sum ≤ 8) (hlen : lv.length = nC) (hdec : decode cc pc = .ok (.invokevirtual idx, 3)) {c : Nat} (f : Nat) (hf : f < c) (hc : c ≤ 12) {L : List (Int × Int)} (i : Nat) (b : Bool) (hi : i < L.length) (hM : M 95 1 = (c : Int)) (hL : zRow M f L) (kk : G X M (pc + 3) lv (.int (jI (if b = true then mA L i else kA L i)) :: st)) : G X M pc lv (.int (jI (bI b)) :: .int (jI ((i : Int))) :: .int (jI ((f : Int))) :: .ref (zA X (95)) :: st) := by
  refine g_callV (k := 3) (o := 95) C (c_at (zL X) f hf hc i b hi M hM hL) mfX8_at hl0 ⟨rfl, by decide +kernel, by decide +kernel, by decide +kernel⟩ ⟨hdep, by decide⟩ (by omega) (fun _ _ _ _ => ze_ms) rfl rfl rfl rfl hcat hlen hdec (fun v M' h => ?_)
  obtain ⟨rfl, rfl⟩ := h
  exact kk
set_option maxHeartbeats 4000000 in
set_option maxRecDepth 10000 in
theorem c_order (l : Launch) {c : Nat} (f : Nat) (hf : f < c) (hc : c ≤ 12) {L : List (Int × Int)} (M : zM) (hM : M 95 1 = (c : Int)) (hL : zRow M f L) (hb : zIn L) : Mt l 3 yX8_order cX8_order 2 (some .int) (fun ad => [.ref (ad (95)), .int (jI ((f : Int)))]) M (fun _ vv M' => vv = some (.int (jI ((if upB L = true then 1 else 0) + (if dnB L = true then 2 else 0)))) ∧ M' = M) := by
  refine Mt.of (fun ad => [some (.ref (ad (95))), some (.int (jI ((f : Int))))]) (by decide +kernel) (fun _ => rfl) (fun _ => rfl) (fun _ => Nat.le_of_ble_eq_true rfl) fun X hX C hR => ?_
  subst hX
  show G X M 0 [some (.ref ((zA X) (95))), some (.int (jI ((f : Int))))] []
  refine g_aload_n C dX8_order_0 rfl ?_
  refine g_iload_n C dX8_order_1 rfl ?_
  refine gc_rowOf C (by decide) tw_365 (Nat.le_of_ble_eq_true rfl) rfl dX8_order_2 f hf hc hM (?_)
  refine gc_orderOf C (by decide) tw_439 (Nat.le_of_ble_eq_true rfl) rfl dX8_order_5 (by omega) hL hb (?_)
  refine g_iret C hR dX8_order_8 ?_
  exact ⟨rfl, rfl⟩
theorem gc_order {X : z_X} {cc : ByteArray} {own : String} {ret : Option FieldType} {dC nC : Nat} {M : zM} {pc : Nat} {lv : List (Option Value)} {st : List Value} (C : Cx cc own ret dC nC X) (hdep : 4 ≤ dC) {idx : Nat} (hl0 : Cond.methodLink own idx yX8_order ∈ tT) (hcat : (st.map fun v => v.category).sum ≤ 8) (hlen : lv.length = nC) (hdec : decode cc pc = .ok (.invokevirtual idx, 3)) {c : Nat} (f : Nat) (hf : f < c) (hc : c ≤ 12) {L : List (Int × Int)} (hM : M 95 1 = (c : Int)) (hL : zRow M f L) (hb : zIn L) (kk : G X M (pc + 3) lv (.int (jI ((if upB L = true then 1 else 0) + (if dnB L = true then 2 else 0))) :: st)) : G X M pc lv (.int (jI ((f : Int))) :: .ref (zA X (95)) :: st) := by
  refine g_callV (k := 1) (o := 95) C (c_order (zL X) f hf hc M hM hL hb) mfX8_order hl0 ⟨rfl, by decide +kernel, by decide +kernel, by decide +kernel⟩ ⟨hdep, by decide⟩ (by omega) (fun _ _ _ _ => ze_ms) rfl rfl rfl rfl hcat hlen hdec (fun v M' h => ?_)
  obtain ⟨rfl, rfl⟩ := h
  exact kk
set_option maxHeartbeats 4000000 in
set_option maxRecDepth 10000 in
theorem c_keysIn (l : Launch) {r : Nat} (hr : r < 20) {L : List (Int × Int)} (M : zM) (hL : zRow M r L) (hb : zIn L) : Mt l 3 yX8_keysIn cX8_keysIn 4 (some .int) (fun ad => [.ref (ad (95)), .ref (ad (3 * r))]) M (fun _ vv M' => ∃ x : Int, vv = some (.int (jI x)) ∧ (x = (dcL L L.length : Int) ∧ ∀ o, o ≠ 94 → M' o = M o)) := by
  refine Mt.of (fun ad => [some (.ref (ad (95))), some (.ref (ad (3 * r))), none, none]) (by decide +kernel) (fun _ => rfl) (fun _ => rfl) (fun _ => Nat.le_of_ble_eq_true rfl) fun X hX C hR => ?_
  subst hX
  show G X M 0 [some (.ref ((zA X) (95))), some (.ref ((zA X) (3 * r))), none, none] []
  have lp : ∀ (fk : Nat) (i : Nat) (N : zM), 200 - i < fk → i ≤ L.length → zKs N (ksL L i) → (∀ o, o ≠ 94 → N o = M o) → G X N 11 [some (.ref (zA X 95)), some (.ref (zA X (3 * r))), some (.int (jI (dcL L i : Int))), some (.int (jI (i : Int)))] [] := by
    intro fk
    induction fk with
    | zero => intro i N hk; exact absurd hk (Nat.not_lt_zero _)
    | succ fk ih =>
      intro i N hk i1 hK hF
      have hQ : zRow N r L := hL.same (fun o a b => hF o (by omega))
      have hl2 := hL.2.1
      have hdc := dcL_le L i
      refine g_iload_n C dX8_keysIn_11 rfl ?_
      refine g_aload_n C dX8_keysIn_12 rfl ?_
      refine gc_Row_count C (by decide) tw_390 (Nat.le_of_ble_eq_true rfl) rfl dX8_keysIn_13 hr hQ (?_)
      refine g_icmp_ge (tgt := 43) C dX8_keysIn_16 rfl (by omega) (by omega) (fun h16 => ?_) (fun h16 => ?_)
      · refine g_iload_n C dX8_keysIn_43 rfl ?_
        refine g_iret C hR dX8_keysIn_44 ?_
        exact ⟨_, rfl, by rw [show i = L.length by omega], hF⟩
      · refine g_aload_n C dX8_keysIn_19 rfl ?_
        refine gf_Ms_keySet C tw_227 dX8_keysIn_20 ?_
        refine g_aload_n C dX8_keysIn_23 rfl ?_
        refine g_iload_n C dX8_keysIn_24 rfl ?_
        refine gc_Row_keyAt C (by decide) tw_431 (Nat.le_of_ble_eq_true rfl) rfl dX8_keysIn_25 hr i (by omega) hQ (?_)
        have b1 := hb.at i
        obtain ⟨nk, hnk, ek⟩ : ∃ nk : Nat, nk < 1999 ∧ kA L i = (nk : Int) - 999 := ⟨(kA L i + 999).toNat, by omega, by omega⟩
        rw [ek]
        refine gc_Ks_add C (by decide) tw_462 (Nat.le_of_ble_eq_true rfl) rfl dX8_keysIn_28 nk hnk hK (fun x N2 ⟨n1, n2, n3⟩ => ?_)
        rw [n1]
        rw [← ek] at n2 ⊢
        have hF2 : ∀ o, o ≠ 94 → N2 o = M o := fun o h => (n3 o h).trans (hF o h)
        show G X _ 31 _ _
        refine g_if_eq (tgt := 37) C dX8_keysIn_31 rfl (by by_cases z : kA L i ∈ ksL L i <;> simp [z]) (fun h31 => ?_) (fun h31 => ?_)
        · refine g_iinc C dX8_keysIn_37 rfl ?_
          show G X _ 40 [_, _, _, _] _
          refine g_goto (tgt := 11) C dX8_keysIn_40 rfl ?_
          show G X _ 11 _ _
          have z : kA L i ∈ ksL L i := by
            by_cases z : kA L i ∈ ksL L i
            · exact z
            · rw [if_neg z] at h31; omega
          rw [show (dcL L i : Int) = (dcL L (i + 1) : Int) by rw [dcL, if_pos z]]
          exact ih (i + 1) N2 (by omega) (by omega) n2 hF2
        · refine g_iinc C dX8_keysIn_34 rfl ?_
          show G X _ 37 [_, _, _, _] _
          refine g_iinc C dX8_keysIn_37 rfl ?_
          show G X _ 40 [_, _, _, _] _
          refine g_goto (tgt := 11) C dX8_keysIn_40 rfl ?_
          show G X _ 11 _ _
          have z : ¬ kA L i ∈ ksL L i := by
            intro z
            rw [if_pos z] at h31; omega
          rw [show (dcL L i : Int) + 1 = (dcL L (i + 1) : Int) by rw [dcL, if_neg z]; rfl]
          exact ih (i + 1) N2 (by omega) (by omega) n2 hF2
  refine g_aload_n C dX8_keysIn_0 rfl ?_
  refine gf_Ms_keySet C tw_227 dX8_keysIn_1 ?_
  refine gc_Ks_clear C (by decide) tw_458 (Nat.le_of_ble_eq_true rfl) rfl dX8_keysIn_4  (fun N ⟨n1, n2⟩ => ?_)
  refine g_iconst C dX8_keysIn_7 ?_
  refine g_istore_n C dX8_keysIn_8 (Nat.le_of_ble_eq_true rfl) ?_
  show G X _ 9 [_, _, _, _] _
  refine g_iconst C dX8_keysIn_9 ?_
  refine g_istore_n C dX8_keysIn_10 (Nat.le_of_ble_eq_true rfl) ?_
  show G X _ 11 [_, _, _, _] _
  exact lp 300 0 N (by omega) (Nat.zero_le _) n1 n2
theorem gc_keysIn {X : z_X} {cc : ByteArray} {own : String} {ret : Option FieldType} {dC nC : Nat} {M : zM} {pc : Nat} {lv : List (Option Value)} {st : List Value} (C : Cx cc own ret dC nC X) (hdep : 4 ≤ dC) {idx : Nat} (hl0 : Cond.methodLink own idx yX8_keysIn ∈ tT) (hcat : (st.map fun v => v.category).sum ≤ 8) (hlen : lv.length = nC) (hdec : decode cc pc = .ok (.invokevirtual idx, 3)) {r : Nat} (hr : r < 20) {L : List (Int × Int)} (hL : zRow M r L) (hb : zIn L) (kk : ∀ (x : Int) (M' : zM), (x = (dcL L L.length : Int) ∧ ∀ o, o ≠ 94 → M' o = M o) → G X M' (pc + 3) lv (.int (jI x) :: st)) : G X M pc lv (.ref (zA X (3 * r)) :: .ref (zA X (95)) :: st) := by
  refine g_callV (k := 1) (o := 95) C (c_keysIn (zL X) hr M hL hb) mfX8_keysIn hl0 ⟨rfl, by decide +kernel, by decide +kernel, by decide +kernel⟩ ⟨hdep, by decide⟩ (by omega) (fun _ _ _ _ => ze_ms) rfl rfl rfl rfl hcat hlen hdec (fun v M' h => ?_)
  obtain ⟨x, rfl, h⟩ := h
  exact kk x M' h
set_option maxHeartbeats 4000000 in
set_option maxRecDepth 10000 in
theorem c_distinct (l : Launch) {c : Nat} (f : Nat) (hf : f < c) (hc : c ≤ 12) {L : List (Int × Int)} (M : zM) (hM : M 95 1 = (c : Int)) (hL : zRow M f L) (hb : zIn L) : Mt l 4 yX8_distinct cX8_distinct 2 (some .int) (fun ad => [.ref (ad (95)), .int (jI ((f : Int)))]) M (fun _ vv M' => ∃ x : Int, vv = some (.int (jI x)) ∧ (x = (dcL L L.length : Int) ∧ ∀ o, o ≠ 94 → M' o = M o)) := by
  refine Mt.of (fun ad => [some (.ref (ad (95))), some (.int (jI ((f : Int))))]) (by decide +kernel) (fun _ => rfl) (fun _ => rfl) (fun _ => Nat.le_of_ble_eq_true rfl) fun X hX C hR => ?_
  subst hX
  show G X M 0 [some (.ref ((zA X) (95))), some (.int (jI ((f : Int))))] []
  refine g_aload_n C dX8_distinct_0 rfl ?_
  refine g_aload_n C dX8_distinct_1 rfl ?_
  refine g_iload_n C dX8_distinct_2 rfl ?_
  refine gc_rowOf C (by decide) tw_365 (Nat.le_of_ble_eq_true rfl) rfl dX8_distinct_3 f hf hc hM (?_)
  refine gc_keysIn C (by decide) tw_454 (Nat.le_of_ble_eq_true rfl) rfl dX8_distinct_6 (by omega) hL hb (fun x N ⟨n1, n2⟩ => ?_)
  refine g_iret C hR dX8_distinct_9 ?_
  exact ⟨_, rfl, n1, n2⟩
theorem gc_distinct {X : z_X} {cc : ByteArray} {own : String} {ret : Option FieldType} {dC nC : Nat} {M : zM} {pc : Nat} {lv : List (Option Value)} {st : List Value} (C : Cx cc own ret dC nC X) (hdep : 5 ≤ dC) {idx : Nat} (hl0 : Cond.methodLink own idx yX8_distinct ∈ tT) (hcat : (st.map fun v => v.category).sum ≤ 8) (hlen : lv.length = nC) (hdec : decode cc pc = .ok (.invokevirtual idx, 3)) {c : Nat} (f : Nat) (hf : f < c) (hc : c ≤ 12) {L : List (Int × Int)} (hM : M 95 1 = (c : Int)) (hL : zRow M f L) (hb : zIn L) (kk : ∀ (x : Int) (M' : zM), (x = (dcL L L.length : Int) ∧ ∀ o, o ≠ 94 → M' o = M o) → G X M' (pc + 3) lv (.int (jI x) :: st)) : G X M pc lv (.int (jI ((f : Int))) :: .ref (zA X (95)) :: st) := by
  refine g_callV (k := 1) (o := 95) C (c_distinct (zL X) f hf hc M hM hL hb) mfX8_distinct hl0 ⟨rfl, by decide +kernel, by decide +kernel, by decide +kernel⟩ ⟨hdep, by decide⟩ (by omega) (fun _ _ _ _ => ze_ms) rfl rfl rfl rfl hcat hlen hdec (fun v M' h => ?_)
  obtain ⟨x, rfl, h⟩ := h
  exact kk x M' h
set_option maxHeartbeats 4000000 in
set_option maxRecDepth 10000 in
theorem c_inversions (l : Launch) {c : Nat} (f : Nat) (hf : f < c) (hc : c ≤ 12) {L : List (Int × Int)} (M : zM) (hM : M 95 1 = (c : Int)) (hL : zRow M f L) (hb : zIn L) (hu : upB L = true) : Mt l 2 yX8_inversions cX8_inversions 6 (some .int) (fun ad => [.ref (ad (95)), .int (jI ((f : Int)))]) M (fun _ vv M' => vv = some (.int (jI (0))) ∧ M' = M) := by
  refine Mt.of (fun ad => [some (.ref (ad (95))), some (.int (jI ((f : Int)))), none, none, none, none]) (by decide +kernel) (fun _ => rfl) (fun _ => rfl) (fun _ => Nat.le_of_ble_eq_true rfl) fun X hX C hR => ?_
  subst hX
  show G X M 0 [some (.ref ((zA X) (95))), some (.int (jI ((f : Int)))), none, none, none, none] []
  have lp2 : ∀ (fk : Nat) (i j : Nat), i - j < fk → j ≤ i → i < L.length → (∀ k2 : Nat, k2 = i + 1 → G X M 11 [some (.ref (zA X 95)), some (.int (jI (f : Int))), some (.ref (zA X (3 * f))), some (.int (jI 0)), some (.int (jI (k2 : Int))), none] []) → G X M 23 [some (.ref (zA X 95)), some (.int (jI (f : Int))), some (.ref (zA X (3 * f))), some (.int (jI 0)), some (.int (jI (i : Int))), some (.int (jI (j : Int)))] [] := by
    intro fk
    induction fk with
    | zero => intro i j hk; exact absurd hk (Nat.not_lt_zero _)
    | succ fk ih =>
      intro i j hk j1 j2 j3
      refine g_iload C dX8_inversions_23 rfl ?_
      refine g_iload C dX8_inversions_25 rfl ?_
      refine g_icmp_ge (tgt := 54) C dX8_inversions_27 rfl (by have := hL.2.1; omega) (by have := hL.2.1; omega) (fun h27 => ?_) (fun h27 => ?_)
      · refine g_iinc C dX8_inversions_54 rfl ?_
        show G X _ 57 [_, _, _, _, _, _] _
        refine g_goto (tgt := 11) C dX8_inversions_57 rfl ?_
        show G X _ 11 _ _
        refine g_mask [true, true, true, true, true, false] rfl ?_
        show G X _ 11 [_, _, _, _, _, _] _
        exact j3 (i + 1) rfl
      · refine g_aload_n C dX8_inversions_30 rfl ?_
        refine g_iload C dX8_inversions_31 rfl ?_
        refine gc_Row_keyAt C (by decide) tw_431 (Nat.le_of_ble_eq_true rfl) rfl dX8_inversions_33 (by omega) j (by omega) hL (?_)
        refine g_aload_n C dX8_inversions_36 rfl ?_
        refine g_iload C dX8_inversions_37 rfl ?_
        refine gc_Row_keyAt C (by decide) tw_431 (Nat.le_of_ble_eq_true rfl) rfl dX8_inversions_39 (by omega) i (by omega) hL (?_)
        show G X _ 42 _ _
        have b1 := hb.at i
        have b2 := hb.at j
        have b3 := up_le hu j i (by omega) (by omega)
        have hl2 := hL.2.1
        refine g_icmp_le (tgt := 48) C dX8_inversions_42 rfl (by omega) (by omega) (fun h42 => ?_) (fun h42 => ?_)
        · refine g_iinc C dX8_inversions_48 rfl ?_
          show G X _ 51 [_, _, _, _, _, _] _
          refine g_goto (tgt := 23) C dX8_inversions_51 rfl ?_
          show G X _ 23 _ _
          exact ih i (j + 1) (by omega) (by omega) j2 j3
        · omega
  have lp1 : ∀ (fk : Nat) (i : Nat), 300 - i < fk → i ≤ 121 → G X M 11 [some (.ref (zA X 95)), some (.int (jI (f : Int))), some (.ref (zA X (3 * f))), some (.int (jI 0)), some (.int (jI (i : Int))), none] [] := by
    intro fk
    induction fk with
    | zero => intro i hk; exact absurd hk (Nat.not_lt_zero _)
    | succ fk ih =>
      intro i hk i1
      refine g_iload C dX8_inversions_11 rfl ?_
      refine g_aload_n C dX8_inversions_13 rfl ?_
      refine gc_Row_count C (by decide) tw_390 (Nat.le_of_ble_eq_true rfl) rfl dX8_inversions_14 (by omega) hL (?_)
      refine g_icmp_ge (tgt := 60) C dX8_inversions_17 rfl (by omega) (by have := hL.2.1; omega) (fun h17 => ?_) (fun h17 => ?_)
      · refine g_iload_n C dX8_inversions_60 rfl ?_
        refine g_iret C hR dX8_inversions_61 ?_
        exact ⟨rfl, rfl⟩
      · refine g_iconst C dX8_inversions_20 ?_
        refine g_istore C dX8_inversions_21 (Nat.le_of_ble_eq_true rfl) ?_
        show G X _ 23 [_, _, _, _, _, _] _
        exact lp2 300 i 0 (by have := hL.2.1; omega) (Nat.zero_le _) (by omega) (fun k2 e => by subst e; exact ih (i + 1) (by omega) (by have := hL.2.1; omega))
  refine g_aload_n C dX8_inversions_0 rfl ?_
  refine g_iload_n C dX8_inversions_1 rfl ?_
  refine gc_rowOf C (by decide) tw_365 (Nat.le_of_ble_eq_true rfl) rfl dX8_inversions_2 f hf hc hM (?_)
  refine g_astore_n C dX8_inversions_5 (Nat.le_of_ble_eq_true rfl) ?_
  show G X _ 6 [_, _, _, _, _, _] _
  refine g_iconst C dX8_inversions_6 ?_
  refine g_istore_n C dX8_inversions_7 (Nat.le_of_ble_eq_true rfl) ?_
  show G X _ 8 [_, _, _, _, _, _] _
  refine g_iconst C dX8_inversions_8 ?_
  refine g_istore C dX8_inversions_9 (Nat.le_of_ble_eq_true rfl) ?_
  show G X _ 11 [_, _, _, _, _, _] _
  exact lp1 400 1 (by omega) (by omega)
theorem gc_inversions {X : z_X} {cc : ByteArray} {own : String} {ret : Option FieldType} {dC nC : Nat} {M : zM} {pc : Nat} {lv : List (Option Value)} {st : List Value} (C : Cx cc own ret dC nC X) (hdep : 3 ≤ dC) {idx : Nat} (hl0 : Cond.methodLink own idx yX8_inversions ∈ tT) (hcat : (st.map fun v => v.category).sum ≤ 8) (hlen : lv.length = nC) (hdec : decode cc pc = .ok (.invokevirtual idx, 3)) {c : Nat} (f : Nat) (hf : f < c) (hc : c ≤ 12) {L : List (Int × Int)} (hM : M 95 1 = (c : Int)) (hL : zRow M f L) (hb : zIn L) (hu : upB L = true) (kk : G X M (pc + 3) lv (.int (jI (0)) :: st)) : G X M pc lv (.int (jI ((f : Int))) :: .ref (zA X (95)) :: st) := by
  refine g_callV (k := 1) (o := 95) C (c_inversions (zL X) f hf hc M hM hL hb hu) mfX8_inversions hl0 ⟨rfl, by decide +kernel, by decide +kernel, by decide +kernel⟩ ⟨hdep, by decide⟩ (by omega) (fun _ _ _ _ => ze_ms) rfl rfl rfl rfl hcat hlen hdec (fun v M' h => ?_)
  obtain ⟨rfl, rfl⟩ := h
  exact kk
set_option maxHeartbeats 4000000 in
set_option maxRecDepth 10000 in
theorem c_read (l : Launch)  (M : zM)  : Mt l 1 yX8_read cX8_read 1 (some .int) (fun ad => [.ref (ad (95))]) M (fun _ vv M' => vv = some (.int (jI (M 95 4))) ∧ M' = M) := by
  refine Mt.of (fun ad => [some (.ref (ad (95)))]) (by decide +kernel) (fun _ => rfl) (fun _ => rfl) (fun _ => Nat.le_of_ble_eq_true rfl) fun X hX C hR => ?_
  subst hX
  show G X M 0 [some (.ref ((zA X) (95)))] []
  refine g_aload_n C dX8_read_0 rfl ?_
  refine gf_Ms_readPages C tw_218 dX8_read_1 ?_
  refine g_iret C hR dX8_read_4 ?_
  exact ⟨rfl, rfl⟩
theorem gc_read {X : z_X} {cc : ByteArray} {own : String} {ret : Option FieldType} {dC nC : Nat} {M : zM} {pc : Nat} {lv : List (Option Value)} {st : List Value} (C : Cx cc own ret dC nC X) (hdep : 2 ≤ dC) {idx : Nat} (hl0 : Cond.methodLink own idx yX8_read ∈ tT) (hcat : (st.map fun v => v.category).sum ≤ 8) (hlen : lv.length = nC) (hdec : decode cc pc = .ok (.invokevirtual idx, 3))   (kk : G X M (pc + 3) lv (.int (jI (M 95 4)) :: st)) : G X M pc lv (.ref (zA X (95)) :: st) := by
  refine g_callV (k := 0) (o := 95) C (c_read (zL X)  M ) mfX8_read hl0 ⟨rfl, by decide +kernel, by decide +kernel, by decide +kernel⟩ ⟨hdep, by decide⟩ (by omega) (fun _ _ _ _ => ze_ms) rfl rfl rfl rfl hcat hlen hdec (fun v M' h => ?_)
  obtain ⟨rfl, rfl⟩ := h
  exact kk
set_option maxHeartbeats 4000000 in
set_option maxRecDepth 10000 in
theorem c_written (l : Launch)  (M : zM)  : Mt l 1 yX8_written cX8_written 1 (some .int) (fun ad => [.ref (ad (95))]) M (fun _ vv M' => vv = some (.int (jI (M 95 5))) ∧ M' = M) := by
  refine Mt.of (fun ad => [some (.ref (ad (95)))]) (by decide +kernel) (fun _ => rfl) (fun _ => rfl) (fun _ => Nat.le_of_ble_eq_true rfl) fun X hX C hR => ?_
  subst hX
  show G X M 0 [some (.ref ((zA X) (95)))] []
  refine g_aload_n C dX8_written_0 rfl ?_
  refine gf_Ms_writtenPages C tw_219 dX8_written_1 ?_
  refine g_iret C hR dX8_written_4 ?_
  exact ⟨rfl, rfl⟩
theorem gc_written {X : z_X} {cc : ByteArray} {own : String} {ret : Option FieldType} {dC nC : Nat} {M : zM} {pc : Nat} {lv : List (Option Value)} {st : List Value} (C : Cx cc own ret dC nC X) (hdep : 2 ≤ dC) {idx : Nat} (hl0 : Cond.methodLink own idx yX8_written ∈ tT) (hcat : (st.map fun v => v.category).sum ≤ 8) (hlen : lv.length = nC) (hdec : decode cc pc = .ok (.invokevirtual idx, 3))   (kk : G X M (pc + 3) lv (.int (jI (M 95 5)) :: st)) : G X M pc lv (.ref (zA X (95)) :: st) := by
  refine g_callV (k := 0) (o := 95) C (c_written (zL X)  M ) mfX8_written hl0 ⟨rfl, by decide +kernel, by decide +kernel, by decide +kernel⟩ ⟨hdep, by decide⟩ (by omega) (fun _ _ _ _ => ze_ms) rfl rfl rfl rfl hcat hlen hdec (fun v M' h => ?_)
  obtain ⟨rfl, rfl⟩ := h
  exact kk
set_option maxHeartbeats 4000000 in
set_option maxRecDepth 10000 in
theorem c_runs (l : Launch) {pg : Int} {rs : List Int} {z : zZ} (M : zM) (h : zPl M 0 pg rs z) : Mt l 2 yX8_runs cX8_runs 1 (some .int) (fun ad => [.ref (ad (95))]) M (fun _ vv M' => vv = some (.int (jI ((rs.length : Int)))) ∧ M' = M) := by
  refine Mt.of (fun ad => [some (.ref (ad (95)))]) (by decide +kernel) (fun _ => rfl) (fun _ => rfl) (fun _ => Nat.le_of_ble_eq_true rfl) fun X hX C hR => ?_
  subst hX
  show G X M 0 [some (.ref ((zA X) (95)))] []
  refine g_aload_n C dX8_runs_0 rfl ?_
  refine gf_Ms_latest C tw_221 dX8_runs_1 ?_
  refine gf_Plan_runSizes C (by omega) tw_61 dX8_runs_4 ?_
  refine gc_Num_count C (by decide) tw_624 (Nat.le_of_ble_eq_true rfl) rfl dX8_runs_7 (r := 4 * 0) (by omega) h.1 (?_)
  refine g_iret C hR dX8_runs_10 ?_
  exact ⟨rfl, rfl⟩
theorem gc_runs {X : z_X} {cc : ByteArray} {own : String} {ret : Option FieldType} {dC nC : Nat} {M : zM} {pc : Nat} {lv : List (Option Value)} {st : List Value} (C : Cx cc own ret dC nC X) (hdep : 3 ≤ dC) {idx : Nat} (hl0 : Cond.methodLink own idx yX8_runs ∈ tT) (hcat : (st.map fun v => v.category).sum ≤ 8) (hlen : lv.length = nC) (hdec : decode cc pc = .ok (.invokevirtual idx, 3)) {pg : Int} {rs : List Int} {z : zZ} (h : zPl M 0 pg rs z) (kk : G X M (pc + 3) lv (.int (jI ((rs.length : Int))) :: st)) : G X M pc lv (.ref (zA X (95)) :: st) := by
  refine g_callV (k := 0) (o := 95) C (c_runs (zL X)  M h) mfX8_runs hl0 ⟨rfl, by decide +kernel, by decide +kernel, by decide +kernel⟩ ⟨hdep, by decide⟩ (by omega) (fun _ _ _ _ => ze_ms) rfl rfl rfl rfl hcat hlen hdec (fun v M' h => ?_)
  obtain ⟨rfl, rfl⟩ := h
  exact kk
set_option maxHeartbeats 4000000 in
set_option maxRecDepth 10000 in
theorem c_runSize (l : Launch) {pg : Int} {rs : List Int} {z : zZ} (k : Nat) (hk : k < rs.length) (M : zM) (h : zPl M 0 pg rs z) : Mt l 2 yX8_runSize cX8_runSize 2 (some .int) (fun ad => [.ref (ad (95)), .int (jI ((k : Int)))]) M (fun _ vv M' => vv = some (.int (jI (nA rs k))) ∧ M' = M) := by
  refine Mt.of (fun ad => [some (.ref (ad (95))), some (.int (jI ((k : Int))))]) (by decide +kernel) (fun _ => rfl) (fun _ => rfl) (fun _ => Nat.le_of_ble_eq_true rfl) fun X hX C hR => ?_
  subst hX
  show G X M 0 [some (.ref ((zA X) (95))), some (.int (jI ((k : Int))))] []
  have hl2 := h.1.2.1
  refine g_aload_n C dX8_runSize_0 rfl ?_
  refine gf_Ms_latest C tw_221 dX8_runSize_1 ?_
  refine gf_Plan_runSizes C (by omega) tw_61 dX8_runSize_4 ?_
  refine g_iload_n C dX8_runSize_7 rfl ?_
  refine gc_Num_has C (by decide) tw_629 (Nat.le_of_ble_eq_true rfl) rfl dX8_runSize_8 (r := 4 * 0) (by omega) _ (by omega) h.1 (?_)
  rw [if_pos (by omega)]
  refine g_if_ne (tgt := 24) C dX8_runSize_11 rfl (by omega) (fun h11 => ?_) (fun h11 => ?_)
  · refine g_aload_n C dX8_runSize_24 rfl ?_
    refine gf_Ms_latest C tw_221 dX8_runSize_25 ?_
    refine gf_Plan_runSizes C (by omega) tw_61 dX8_runSize_28 ?_
    refine g_iload_n C dX8_runSize_31 rfl ?_
    refine gc_Num_valueAt C (by decide) tw_634 (Nat.le_of_ble_eq_true rfl) rfl dX8_runSize_32 (r := 4 * 0) (by omega) k hk h.1 (?_)
    refine g_iret C hR dX8_runSize_35 ?_
    exact ⟨rfl, rfl⟩
  · omega
theorem gc_runSize {X : z_X} {cc : ByteArray} {own : String} {ret : Option FieldType} {dC nC : Nat} {M : zM} {pc : Nat} {lv : List (Option Value)} {st : List Value} (C : Cx cc own ret dC nC X) (hdep : 3 ≤ dC) {idx : Nat} (hl0 : Cond.methodLink own idx yX8_runSize ∈ tT) (hcat : (st.map fun v => v.category).sum ≤ 8) (hlen : lv.length = nC) (hdec : decode cc pc = .ok (.invokevirtual idx, 3)) {pg : Int} {rs : List Int} {z : zZ} (k : Nat) (hk : k < rs.length) (h : zPl M 0 pg rs z) (kk : G X M (pc + 3) lv (.int (jI (nA rs k)) :: st)) : G X M pc lv (.int (jI ((k : Int))) :: .ref (zA X (95)) :: st) := by
  refine g_callV (k := 1) (o := 95) C (c_runSize (zL X) k hk M h) mfX8_runSize hl0 ⟨rfl, by decide +kernel, by decide +kernel, by decide +kernel⟩ ⟨hdep, by decide⟩ (by omega) (fun _ _ _ _ => ze_ms) rfl rfl rfl rfl hcat hlen hdec (fun v M' h => ?_)
  obtain ⟨rfl, rfl⟩ := h
  exact kk
set_option maxHeartbeats 4000000 in
set_option maxRecDepth 10000 in
theorem c_merges (l : Launch) {pg : Int} {rs : List Int} {z : zZ} (M : zM) (h : zPl M 0 pg rs z) : Mt l 2 yX8_merges cX8_merges 1 (some .int) (fun ad => [.ref (ad (95))]) M (fun _ vv M' => vv = some (.int (jI ((z.2.2.2.2.length : Int)))) ∧ M' = M) := by
  refine Mt.of (fun ad => [some (.ref (ad (95)))]) (by decide +kernel) (fun _ => rfl) (fun _ => rfl) (fun _ => Nat.le_of_ble_eq_true rfl) fun X hX C hR => ?_
  subst hX
  show G X M 0 [some (.ref ((zA X) (95)))] []
  refine g_aload_n C dX8_merges_0 rfl ?_
  refine gf_Ms_latest C tw_221 dX8_merges_1 ?_
  refine gf_Plan_mergeSizes C (by omega) tw_65 dX8_merges_4 ?_
  refine gc_Num_count C (by decide) tw_624 (Nat.le_of_ble_eq_true rfl) rfl dX8_merges_7 (r := 4 * 0 + 2) (by omega) h.2.2.2.2.2.1 (?_)
  refine g_iret C hR dX8_merges_10 ?_
  exact ⟨rfl, rfl⟩
theorem gc_merges {X : z_X} {cc : ByteArray} {own : String} {ret : Option FieldType} {dC nC : Nat} {M : zM} {pc : Nat} {lv : List (Option Value)} {st : List Value} (C : Cx cc own ret dC nC X) (hdep : 3 ≤ dC) {idx : Nat} (hl0 : Cond.methodLink own idx yX8_merges ∈ tT) (hcat : (st.map fun v => v.category).sum ≤ 8) (hlen : lv.length = nC) (hdec : decode cc pc = .ok (.invokevirtual idx, 3)) {pg : Int} {rs : List Int} {z : zZ} (h : zPl M 0 pg rs z) (kk : G X M (pc + 3) lv (.int (jI ((z.2.2.2.2.length : Int))) :: st)) : G X M pc lv (.ref (zA X (95)) :: st) := by
  refine g_callV (k := 0) (o := 95) C (c_merges (zL X)  M h) mfX8_merges hl0 ⟨rfl, by decide +kernel, by decide +kernel, by decide +kernel⟩ ⟨hdep, by decide⟩ (by omega) (fun _ _ _ _ => ze_ms) rfl rfl rfl rfl hcat hlen hdec (fun v M' h => ?_)
  obtain ⟨rfl, rfl⟩ := h
  exact kk
set_option maxHeartbeats 4000000 in
set_option maxRecDepth 10000 in
theorem c_merge (l : Launch) {pg : Int} {rs : List Int} {z : zZ} (k : Nat) (b : Bool) (hk : k < z.2.2.2.2.length) (hk2 : k < z.2.2.2.1.length) (M : zM) (h : zPl M 0 pg rs z) : Mt l 2 yX8_merge cX8_merge 3 (some .int) (fun ad => [.ref (ad (95)), .int (jI ((k : Int))), .int (jI (bI b))]) M (fun _ vv M' => vv = some (.int (jI (if b = true then nA z.2.2.2.2 k else nA z.2.2.2.1 k))) ∧ M' = M) := by
  refine Mt.of (fun ad => [some (.ref (ad (95))), some (.int (jI ((k : Int)))), some (.int (jI (bI b)))]) (by decide +kernel) (fun _ => rfl) (fun _ => rfl) (fun _ => Nat.le_of_ble_eq_true rfl) fun X hX C hR => ?_
  subst hX
  show G X M 0 [some (.ref ((zA X) (95))), some (.int (jI ((k : Int)))), some (.int (jI (bI b)))] []
  have hl2 := h.2.2.2.2.2.1.2.1
  have hbi := bI_in b
  refine g_aload_n C dX8_merge_0 rfl ?_
  refine gf_Ms_latest C tw_221 dX8_merge_1 ?_
  refine gf_Plan_mergeSizes C (by omega) tw_65 dX8_merge_4 ?_
  refine g_iload_n C dX8_merge_7 rfl ?_
  refine gc_Num_has C (by decide) tw_629 (Nat.le_of_ble_eq_true rfl) rfl dX8_merge_8 (r := 4 * 0 + 2) (by omega) _ (by omega) h.2.2.2.2.2.1 (?_)
  rw [if_pos (by omega)]
  refine g_if_ne (tgt := 24) C dX8_merge_11 rfl (by omega) (fun h11 => ?_) (fun h11 => ?_)
  · refine g_iload_n C dX8_merge_24 rfl ?_
    refine g_if_eq (tgt := 43) C dX8_merge_25 rfl (by omega) (fun h25 => ?_) (fun h25 => ?_)
    · refine g_iload_n C dX8_merge_43 rfl ?_
      refine g_if_ne (tgt := 61) C dX8_merge_44 rfl (by omega) (fun h44 => ?_) (fun h44 => ?_)
      · omega
      · refine g_aload_n C dX8_merge_47 rfl ?_
        refine gf_Ms_latest C tw_221 dX8_merge_48 ?_
        refine gf_Plan_mergeRuns C (by omega) tw_63 dX8_merge_51 ?_
        refine g_iload_n C dX8_merge_54 rfl ?_
        refine gc_Num_valueAt C (by decide) tw_634 (Nat.le_of_ble_eq_true rfl) rfl dX8_merge_55 (r := 4 * 0 + 1) (by omega) k hk2 h.2.2.2.2.1 (?_)
        refine g_goto (tgt := 72) C dX8_merge_58 rfl ?_
        show G X _ 72 _ _
        refine g_iret C hR dX8_merge_72 ?_
        have hb : b = false := by cases b; rfl; simp [bI] at h25
        exact ⟨by simp [hb], rfl⟩
    · refine g_iload_n C dX8_merge_28 rfl ?_
      refine g_iconst C dX8_merge_29 ?_
      refine g_icmp_eq (tgt := 43) C dX8_merge_30 rfl (by omega) (by omega) (fun h30 => ?_) (fun h30 => ?_)
      · refine g_iload_n C dX8_merge_43 rfl ?_
        refine g_if_ne (tgt := 61) C dX8_merge_44 rfl (by omega) (fun h44 => ?_) (fun h44 => ?_)
        · refine g_aload_n C dX8_merge_61 rfl ?_
          refine gf_Ms_latest C tw_221 dX8_merge_62 ?_
          refine gf_Plan_mergeSizes C (by omega) tw_65 dX8_merge_65 ?_
          refine g_iload_n C dX8_merge_68 rfl ?_
          refine gc_Num_valueAt C (by decide) tw_634 (Nat.le_of_ble_eq_true rfl) rfl dX8_merge_69 (r := 4 * 0 + 2) (by omega) k hk h.2.2.2.2.2.1 (?_)
          refine g_iret C hR dX8_merge_72 ?_
          have hb : b = true := by cases b; simp [bI] at h25; rfl
          exact ⟨by simp [hb], rfl⟩
        · omega
      · omega
  · omega
theorem gc_merge {X : z_X} {cc : ByteArray} {own : String} {ret : Option FieldType} {dC nC : Nat} {M : zM} {pc : Nat} {lv : List (Option Value)} {st : List Value} (C : Cx cc own ret dC nC X) (hdep : 3 ≤ dC) {idx : Nat} (hl0 : Cond.methodLink own idx yX8_merge ∈ tT) (hcat : (st.map fun v => v.category).sum ≤ 8) (hlen : lv.length = nC) (hdec : decode cc pc = .ok (.invokevirtual idx, 3)) {pg : Int} {rs : List Int} {z : zZ} (k : Nat) (b : Bool) (hk : k < z.2.2.2.2.length) (hk2 : k < z.2.2.2.1.length) (h : zPl M 0 pg rs z) (kk : G X M (pc + 3) lv (.int (jI (if b = true then nA z.2.2.2.2 k else nA z.2.2.2.1 k)) :: st)) : G X M pc lv (.int (jI (bI b)) :: .int (jI ((k : Int))) :: .ref (zA X (95)) :: st) := by
  refine g_callV (k := 2) (o := 95) C (c_merge (zL X) k b hk hk2 M h) mfX8_merge hl0 ⟨rfl, by decide +kernel, by decide +kernel, by decide +kernel⟩ ⟨hdep, by decide⟩ (by omega) (fun _ _ _ _ => ze_ms) rfl rfl rfl rfl hcat hlen hdec (fun v M' h => ?_)
  obtain ⟨rfl, rfl⟩ := h
  exact kk
set_option maxHeartbeats 4000000 in
set_option maxRecDepth 10000 in
theorem c_matches (l : Launch)  (M : zM) (hM : M 84 0 = 0 ∨ M 84 0 = 1) : Mt l 1 yX8_matches cX8_matches 1 (some .int) (fun ad => [.ref (ad (95))]) M (fun _ vv M' => vv = some (.int (jI (if M 84 0 = 0 then 0 else M 84 3))) ∧ M' = M) := by
  refine Mt.of (fun ad => [some (.ref (ad (95)))]) (by decide +kernel) (fun _ => rfl) (fun _ => rfl) (fun _ => Nat.le_of_ble_eq_true rfl) fun X hX C hR => ?_
  subst hX
  show G X M 0 [some (.ref ((zA X) (95)))] []
  refine g_aload_n C dX8_matches_0 rfl ?_
  refine gf_Ms_tournament C tw_224 dX8_matches_1 ?_
  refine gf_Tour_isOn C tw_100 dX8_matches_4 ?_
  refine g_if_eq (tgt := 20) C dX8_matches_7 rfl (by omega) (fun h7 => ?_) (fun h7 => ?_)
  · refine g_iconst C dX8_matches_20 ?_
    refine g_iret C hR dX8_matches_21 ?_
    refine ⟨?_, rfl⟩
    first | rw [if_pos (by assumption)] | rw [if_neg (by assumption)]
  · refine g_aload_n C dX8_matches_10 rfl ?_
    refine gf_Ms_tournament C tw_224 dX8_matches_11 ?_
    refine gf_Tour_matchCount C tw_105 dX8_matches_14 ?_
    refine g_goto (tgt := 21) C dX8_matches_17 rfl ?_
    show G X _ 21 _ _
    refine g_iret C hR dX8_matches_21 ?_
    refine ⟨?_, rfl⟩
    first | rw [if_pos (by assumption)] | rw [if_neg (by assumption)]
theorem gc_matches {X : z_X} {cc : ByteArray} {own : String} {ret : Option FieldType} {dC nC : Nat} {M : zM} {pc : Nat} {lv : List (Option Value)} {st : List Value} (C : Cx cc own ret dC nC X) (hdep : 2 ≤ dC) {idx : Nat} (hl0 : Cond.methodLink own idx yX8_matches ∈ tT) (hcat : (st.map fun v => v.category).sum ≤ 8) (hlen : lv.length = nC) (hdec : decode cc pc = .ok (.invokevirtual idx, 3))  (hM : M 84 0 = 0 ∨ M 84 0 = 1) (kk : G X M (pc + 3) lv (.int (jI (if M 84 0 = 0 then 0 else M 84 3)) :: st)) : G X M pc lv (.ref (zA X (95)) :: st) := by
  refine g_callV (k := 0) (o := 95) C (c_matches (zL X)  M hM) mfX8_matches hl0 ⟨rfl, by decide +kernel, by decide +kernel, by decide +kernel⟩ ⟨hdep, by decide⟩ (by omega) (fun _ _ _ _ => ze_ms) rfl rfl rfl rfl hcat hlen hdec (fun v M' h => ?_)
  obtain ⟨rfl, rfl⟩ := h
  exact kk
end
section
/-! sorting, and what it would cost -/
/-- what a sort leaves alone -/
def zOs (M M' : zM) (c : Nat) : Prop := ∀ o, o ≠ 3 * c → o ≠ 3 * c + 1 → o ≠ 3 * c + 2 → o ≠ 36 → o ≠ 37 → o ≠ 38 → o ≠ 89 → o ≠ 95 → (o < 60 ∨ 68 ≤ o) → o ≠ 82 → o ≠ 76 → o ≠ 77 → o ≠ 80 → o ≠ 81 → M' o = M o
def csL (L : List (Int × Int)) (rep least : Bool) (pg mem : Nat) : Int := (mkZ L rep least pg mem).2.1 + (mkZ L rep least pg mem).2.2.1
set_option maxHeartbeats 4000000 in
set_option maxRecDepth 10000 in
theorem c_giveSorted (l : Launch) {q : Nat} (hq : q < 20) (hq2 : q ≠ 12) {L : List (Int × Int)} (hn : L.length < 120) (hb : zIn L) (M : zM) (hL : zRow M q L) (hO : zOut M []) : Mt l 3 yX8_giveSorted cX8_giveSorted 5 none (fun ad => [.ref (ad (95)), .ref (ad (3 * q)), .int (jI (0))]) M (fun _ vv M' => vv = none ∧ (zOut M' (srL L) ∧ (∀ k, k ≠ 1 → M' 89 k = M 89 k) ∧ ∀ o, o ≠ 36 → o ≠ 37 → o ≠ 38 → o ≠ 89 → o ≠ 80 → o ≠ 81 → M' o = M o)) := by
  refine Mt.of (fun ad => [some (.ref (ad (95))), some (.ref (ad (3 * q))), some (.int (jI (0))), none, none]) (by decide +kernel) (fun _ => rfl) (fun _ => rfl) (fun _ => Nat.le_of_ble_eq_true rfl) fun X hX C hR => ?_
  subst hX
  show G X M 0 [some (.ref ((zA X) (95))), some (.ref ((zA X) (3 * q))), some (.int (jI (0))), none, none] []
  have lp2 : ∀ (fk : Nat) (g : Nat) (N : zM), 200 - g < fk → g ≤ L.length → zHp N 2 ((ini L L.length).drop g) → zOut N (((ini L L.length).take g).map (rcL L)) → (∀ k, k ≠ 1 → N 89 k = M 89 k) → (∀ o, o ≠ 36 → o ≠ 37 → o ≠ 38 → o ≠ 89 → o ≠ 80 → o ≠ 81 → N o = M o) → G X N 38 [some (.ref (zA X 95)), some (.ref (zA X (3 * q))), some (.int (jI 0)), some (.int (jI (g : Int))), none] [] := by
    intro fk
    induction fk with
    | zero => intro g N hk; exact absurd hk (Nat.not_lt_zero _)
    | succ fk ih =>
      intro g N hk i1 hH hO2 hk9 hF
      have hQ : zRow N q L := hL.same (fun o a b => hF o (by omega) (by omega) (by omega) (by omega) (by omega) (by omega))
      refine g_iload_n C dX8_giveSorted_38 rfl ?_
      refine g_aload_n C dX8_giveSorted_39 rfl ?_
      refine gc_Row_count C (by decide) tw_390 (Nat.le_of_ble_eq_true rfl) rfl dX8_giveSorted_40 hq hQ (?_)
      refine g_icmp_ge (tgt := 83) C dX8_giveSorted_43 rfl (by omega) (by omega) (fun h43 => ?_) (fun h43 => ?_)
      · refine g_vret C hR dX8_giveSorted_83 ?_
        refine ⟨rfl, ?_, hk9, hF⟩
        rw [show g = L.length by omega, List.take_of_length_le (by rw [ini_len]; omega)] at hO2
        exact hO2
      · refine g_aload_n C dX8_giveSorted_46 rfl ?_
        refine gf_Ms_heap C tw_223 dX8_giveSorted_47 ?_
        have hgl : g < (ini L L.length).length := by rw [ini_len]; omega
        rw [List.drop_eq_getElem_cons hgl] at hH
        obtain ⟨i, hi, e3⟩ := ini_mem (List.getElem_mem hgl)
        refine gc_Heap_pull C (by decide) tw_604 (Nat.le_of_ble_eq_true rfl) rfl dX8_giveSorted_50 (r := 2) (by omega) hH (fun x N2 ⟨n1, n2, n3⟩ => ?_)
        rw [n1, e3]
        have hw := wt_in hb (show i < 120 by omega)
        have hQ2 : zRow N2 q L := hQ.same (fun o a b => n3 o (by omega) (by omega))
        have hO3 : zOut N2 (((ini L L.length).take g).map (rcL L)) := ⟨hO2.1.same (fun o a b => n3 o (by omega) (by omega)), by rw [n3 89 (by omega) (by omega)]; exact hO2.2⟩
        refine g_bipush C dX8_giveSorted_53 rfl ?_
        refine g_irem C dX8_giveSorted_55 (by omega) (by omega) ?_
        rw [wt_rem (by omega)]
        refine g_istore C dX8_giveSorted_56 (Nat.le_of_ble_eq_true rfl) ?_
        show G X _ 58 [_, _, _, _, _] _
        refine g_aload_n C dX8_giveSorted_58 rfl ?_
        refine gf_Ms_outcome C tw_225 dX8_giveSorted_59 ?_
        refine g_aload_n C dX8_giveSorted_62 rfl ?_
        refine g_iload C dX8_giveSorted_63 rfl ?_
        refine gc_Row_keyAt C (by decide) tw_431 (Nat.le_of_ble_eq_true rfl) rfl dX8_giveSorted_65 hq i (by omega) hQ2 (?_)
        refine g_aload_n C dX8_giveSorted_68 rfl ?_
        show G X _ 69 _ _
        refine g_iload C dX8_giveSorted_69 rfl ?_
        refine gc_Row_markAt C (by decide) tw_427 (Nat.le_of_ble_eq_true rfl) rfl dX8_giveSorted_71 hq i (by omega) hQ2 (?_)
        refine gc_Out_give C (by decide) tw_605 (Nat.le_of_ble_eq_true rfl) rfl dX8_giveSorted_74 _ _ (by rw [List.length_map, List.length_take, ini_len]; omega) hO3 (fun N4 ⟨n5, n6⟩ => ?_)
        refine g_iinc C dX8_giveSorted_77 rfl ?_
        show G X _ 80 [_, _, _, _, _] _
        refine g_goto (tgt := 38) C dX8_giveSorted_80 rfl ?_
        show G X _ 38 _ _
        refine g_mask [true, true, true, true, false] rfl ?_
        show G X _ 38 [_, _, _, _, _] _
        have e2 : (ini L L.length).take (g + 1) = (ini L L.length).take g ++ [(ini L L.length)[g]] := by rw [List.take_succ, List.getElem?_eq_getElem hgl]; rfl
        refine ih (g + 1) N4 (by omega) (by omega) (n2.keep (n6.1 _ (by omega) (by omega) (by omega) (by omega)) (n6.1 _ (by omega) (by omega) (by omega) (by omega))) ?_ (fun k hk => (n6.2 k hk).trans (by rw [n3 89 (by omega) (by omega)]; exact hk9 k hk)) (fun o a b d e f h => (n6.1 o a b d e).trans ((n3 o f h).trans (hF o a b d e f h)))
        rw [e2, List.map_append, List.map_singleton, e3]
        have e4 : rcL L (wt L i) = (kA L i, mA L i) := by unfold rcL; rw [wt_mod (by omega)]
        rw [e4]; exact n5
  have hb36 : ∀ (y3 : Option Value) (N : zM), zHp N 2 (ini L L.length) → zFh M N 2 → G X N 36 [some (.ref (zA X 95)), some (.ref (zA X (3 * q))), some (.int (jI 0)), y3, none] [] := by
    intro y3 N hH hF
    refine g_iconst C dX8_giveSorted_36 ?_
    refine g_istore_n C dX8_giveSorted_37 (Nat.le_of_ble_eq_true rfl) ?_
    show G X _ 38 [_, _, _, _, _] _
    exact lp2 300 0 N (by omega) (Nat.zero_le _) hH ⟨hO.1.same (fun o a b => hF o (by omega) (by omega)), by rw [hF 89 (by omega) (by omega)]; exact hO.2⟩ (fun k _ => by rw [hF 89 (by omega) (by omega)]) (fun o _ _ _ _ f h => hF o f h)
  have lp1 : ∀ (fk : Nat) (i : Nat) (N : zM), 200 - i < fk → i ≤ L.length → zHp N 2 (ini L i) → zFh M N 2 → G X N 9 [some (.ref (zA X 95)), some (.ref (zA X (3 * q))), some (.int (jI 0)), some (.int (jI (i : Int))), none] [] := by
    intro fk
    induction fk with
    | zero => intro i N hk; exact absurd hk (Nat.not_lt_zero _)
    | succ fk ih =>
      intro i N hk i1 hH hF
      have hQ : zRow N q L := hL.same (fun o a b => hF o (by omega) (by omega))
      refine g_iload_n C dX8_giveSorted_9 rfl ?_
      refine g_aload_n C dX8_giveSorted_10 rfl ?_
      refine gc_Row_count C (by decide) tw_390 (Nat.le_of_ble_eq_true rfl) rfl dX8_giveSorted_11 hq hQ (?_)
      refine g_icmp_ge (tgt := 36) C dX8_giveSorted_14 rfl (by omega) (by omega) (fun h14 => ?_) (fun h14 => ?_)
      · obtain rfl : i = L.length := by omega
        exact hb36 _ N hH hF
      · refine g_aload_n C dX8_giveSorted_17 rfl ?_
        refine gf_Ms_heap C tw_223 dX8_giveSorted_18 ?_
        refine g_aload_n C dX8_giveSorted_21 rfl ?_
        refine g_iload_n C dX8_giveSorted_22 rfl ?_
        refine g_iload_n C dX8_giveSorted_23 rfl ?_
        refine gc_weightOf C (by decide) tw_602 (Nat.le_of_ble_eq_true rfl) rfl dX8_giveSorted_24 hq i (by omega) hQ hb (?_)
        show G X _ 27 _ _
        have hw := wt_in hb (show i < 120 by omega)
        rw [show (kA L i + 999) * 120 + (i : Int) = wt L i from rfl]
        refine gc_Heap_push C (by decide) tw_603 (Nat.le_of_ble_eq_true rfl) rfl dX8_giveSorted_27 (r := 2) (by omega) _ (by omega) (by rw [ini_len]; omega) hH (fun N2 ⟨n1, n2⟩ => ?_)
        refine g_iinc C dX8_giveSorted_30 rfl ?_
        show G X _ 33 [_, _, _, _, _] _
        refine g_goto (tgt := 9) C dX8_giveSorted_33 rfl ?_
        show G X _ 9 _ _
        exact ih (i + 1) N2 (by omega) (by omega) n1 (hF.trans n2)
  refine g_aload_n C dX8_giveSorted_0 rfl ?_
  refine gf_Ms_heap C tw_223 dX8_giveSorted_1 ?_
  refine gc_Heap_empty C (by decide) tw_601 (Nat.le_of_ble_eq_true rfl) rfl dX8_giveSorted_4 (r := 2) (by omega) (fun N ⟨n1, n2⟩ => ?_)
  refine g_iconst C dX8_giveSorted_7 ?_
  refine g_istore_n C dX8_giveSorted_8 (Nat.le_of_ble_eq_true rfl) ?_
  show G X _ 9 [_, _, _, _, _] _
  exact lp1 300 0 N (by omega) (Nat.zero_le _) n1 n2
theorem gc_giveSorted {X : z_X} {cc : ByteArray} {own : String} {ret : Option FieldType} {dC nC : Nat} {M : zM} {pc : Nat} {lv : List (Option Value)} {st : List Value} (C : Cx cc own ret dC nC X) (hdep : 4 ≤ dC) {idx : Nat} (hl0 : Cond.methodLink own idx yX8_giveSorted ∈ tT) (hcat : (st.map fun v => v.category).sum ≤ 8) (hlen : lv.length = nC) (hdec : decode cc pc = .ok (.invokevirtual idx, 3)) {q : Nat} (hq : q < 20) (hq2 : q ≠ 12) {L : List (Int × Int)} (hn : L.length < 120) (hb : zIn L) (hL : zRow M q L) (hO : zOut M []) (kk : ∀ M' : zM, (zOut M' (srL L) ∧ (∀ k, k ≠ 1 → M' 89 k = M 89 k) ∧ ∀ o, o ≠ 36 → o ≠ 37 → o ≠ 38 → o ≠ 89 → o ≠ 80 → o ≠ 81 → M' o = M o) → G X M' (pc + 3) lv st) : G X M pc lv (.int (jI (0)) :: .ref (zA X (3 * q)) :: .ref (zA X (95)) :: st) := by
  refine g_callV (k := 2) (o := 95) C (c_giveSorted (zL X) hq hq2 hn hb M hL hO) mfX8_giveSorted hl0 ⟨rfl, by decide +kernel, by decide +kernel, by decide +kernel⟩ ⟨hdep, by decide⟩ (by omega) (fun _ _ _ _ => ze_ms) rfl rfl rfl rfl hcat hlen hdec (fun v M' h => ?_)
  obtain ⟨rfl, h⟩ := h
  exact kk M' h
set_option maxHeartbeats 4000000 in
set_option maxRecDepth 10000 in
theorem c_land (l : Launch) (c : Nat) (hc : c < 12) {L : List (Int × Int)} (M : zM) (hM : M 95 1 = (c : Int)) (hO : zOut M L) : Mt l 3 yX8_land cX8_land 2 (some .int) (fun ad => [.ref (ad (95))]) M (fun _ vv M' => ∃ x : Int, vv = some (.int (jI x)) ∧ (x = (c : Int) ∧ zRow M' c L ∧ M' 95 1 = (c : Int) + 1 ∧ M' 95 2 = M 95 2 ∧ M' 95 3 = M 95 3 ∧ M' 95 4 = M 95 4 + M 89 2 ∧ M' 95 5 = M 95 5 + M 89 3 ∧ M' 95 6 = M 95 6 + M 89 4 ∧ ∀ o, o ≠ 3 * c → o ≠ 3 * c + 1 → o ≠ 3 * c + 2 → o ≠ 95 → M' o = M o)) := by
  refine Mt.of (fun ad => [some (.ref (ad (95))), none]) (by decide +kernel) (fun _ => rfl) (fun _ => rfl) (fun _ => Nat.le_of_ble_eq_true rfl) fun X hX C hR => ?_
  subst hX
  show G X M 0 [some (.ref ((zA X) (95))), none] []
  refine g_aload_n C dX8_land_0 rfl ?_
  refine g_dup C dX8_land_1 rfl ?_
  refine gf_Ms_readPages C tw_218 dX8_land_2 ?_
  refine g_aload_n C dX8_land_5 rfl ?_
  refine gf_Ms_outcome C tw_225 dX8_land_6 ?_
  refine gf_Out_readPages C tw_160 dX8_land_9 ?_
  
  show G X _ 12 _ _
  refine g_iadd C dX8_land_12 ?_
  refine gp_Ms_readPages C tw_218 dX8_land_13 ?_
  refine g_aload_n C dX8_land_16 rfl ?_
  refine g_dup C dX8_land_17 rfl ?_
  refine gf_Ms_writtenPages C tw_219 dX8_land_18 ?_
  refine g_aload_n C dX8_land_21 rfl ?_
  show G X _ 22 _ _
  refine gf_Ms_outcome C tw_225 dX8_land_22 ?_
  refine gf_Out_writtenPages C tw_162 dX8_land_25 ?_
  
  refine g_iadd C dX8_land_28 ?_
  refine gp_Ms_writtenPages C tw_219 dX8_land_29 ?_
  refine g_aload_n C dX8_land_32 rfl ?_
  refine g_dup C dX8_land_33 rfl ?_
  show G X _ 34 _ _
  refine gf_Ms_spiltPages C tw_220 dX8_land_34 ?_
  refine g_aload_n C dX8_land_37 rfl ?_
  refine gf_Ms_outcome C tw_225 dX8_land_38 ?_
  refine gf_Out_spiltPages C tw_164 dX8_land_41 ?_
  refine g_iadd C dX8_land_44 ?_
  refine gp_Ms_spiltPages C tw_220 dX8_land_45 ?_
  show G X _ 48 _ _
  refine g_aload_n C dX8_land_48 rfl ?_
  generalize hM1 : zu (zu (zu M 95 4 (M 95 4 + M 89 2)) 95 5 _) 95 6 _ = M1
  have m1 : M1 95 4 = M 95 4 + M 89 2 ∧ M1 95 5 = M 95 5 + M 89 3 ∧ M1 95 6 = M 95 6 + M 89 4 ∧ M1 95 1 = M 95 1 ∧ M1 95 2 = M 95 2 ∧ M1 95 3 = M 95 3 := by
    rw [← hM1]; simp [zu_at]
  have m2 : ∀ o, o ≠ 95 → M1 o = M o := fun o h => by rw [← hM1, zu_o _ _ _ _ h, zu_o _ _ _ _ h, zu_o _ _ _ _ h]
  refine gc_addFile C (by decide) tw_614 (Nat.le_of_ble_eq_true rfl) rfl dX8_land_49 c hc (m1.2.2.2.1.trans hM) (fun x N ⟨n0, n1, n2, n3, n4⟩ => ?_)
  rw [n0]
  refine g_istore_n C dX8_land_52 (Nat.le_of_ble_eq_true rfl) ?_
  show G X _ 53 [_, _] _
  refine g_aload_n C dX8_land_53 rfl ?_
  refine gf_Ms_files C tw_214 dX8_land_54 ?_
  refine g_iload_n C dX8_land_57 rfl ?_
  refine ga_files C _ (by omega) rfl dX8_land_58 ?_
  refine g_aload_n C dX8_land_59 rfl ?_
  refine gf_Ms_outcome C tw_225 dX8_land_60 ?_
  show G X _ 63 _ _
  refine gf_Out_out C tw_156 dX8_land_63 ?_
  refine gc_Row_addAll C (by decide) tw_615 (Nat.le_of_ble_eq_true rfl) rfl dX8_land_66 (r := c) (q := 12) (by omega) (by omega) (by omega) (hO.1.same (fun o a b => (n4 o (by omega) (by omega) (by omega) (by omega)).trans (m2 o (by omega)))) n1 (fun N2 ⟨n5, n6⟩ => ?_)
  refine g_iload_n C dX8_land_69 rfl ?_
  refine g_iret C hR dX8_land_70 ?_
  have e := n6 95 (by omega) (by omega) (by omega)
  refine ⟨_, rfl, rfl, n5, by rw [e]; exact n2, ?_, ?_, ?_, ?_, ?_, fun o a b d g => (n6 o a b d).trans ((n4 o a b d g).trans (m2 o g))⟩
  · rw [e, n3 2 (by omega)]; exact m1.2.2.2.2.1
  · rw [e, n3 3 (by omega)]; exact m1.2.2.2.2.2
  · rw [e, n3 4 (by omega)]; exact m1.1
  · rw [e, n3 5 (by omega)]; exact m1.2.1
  · rw [e, n3 6 (by omega)]; exact m1.2.2.1
theorem gc_land {X : z_X} {cc : ByteArray} {own : String} {ret : Option FieldType} {dC nC : Nat} {M : zM} {pc : Nat} {lv : List (Option Value)} {st : List Value} (C : Cx cc own ret dC nC X) (hdep : 4 ≤ dC) {idx : Nat} (hl0 : Cond.methodLink own idx yX8_land ∈ tT) (hcat : (st.map fun v => v.category).sum ≤ 8) (hlen : lv.length = nC) (hdec : decode cc pc = .ok (.invokevirtual idx, 3)) (c : Nat) (hc : c < 12) {L : List (Int × Int)} (hM : M 95 1 = (c : Int)) (hO : zOut M L) (kk : ∀ (x : Int) (M' : zM), (x = (c : Int) ∧ zRow M' c L ∧ M' 95 1 = (c : Int) + 1 ∧ M' 95 2 = M 95 2 ∧ M' 95 3 = M 95 3 ∧ M' 95 4 = M 95 4 + M 89 2 ∧ M' 95 5 = M 95 5 + M 89 3 ∧ M' 95 6 = M 95 6 + M 89 4 ∧ ∀ o, o ≠ 3 * c → o ≠ 3 * c + 1 → o ≠ 3 * c + 2 → o ≠ 95 → M' o = M o) → G X M' (pc + 3) lv (.int (jI x) :: st)) : G X M pc lv (.ref (zA X (95)) :: st) := by
  refine g_callV (k := 0) (o := 95) C (c_land (zL X) c hc M hM hO) mfX8_land hl0 ⟨rfl, by decide +kernel, by decide +kernel, by decide +kernel⟩ ⟨hdep, by decide⟩ (by omega) (fun _ _ _ _ => ze_ms) rfl rfl rfl rfl hcat hlen hdec (fun v M' h => ?_)
  obtain ⟨x, rfl, h⟩ := h
  exact kk x M' h
set_option maxHeartbeats 4000000 in
set_option maxRecDepth 10000 in
theorem c_sort (l : Launch) {c : Nat} (f : Nat) (hf : f < c) (hc : c < 12) {L : List (Int × Int)} (rep least : Bool) (pg mem : Nat) (hpg : 1 ≤ pg ∧ pg ≤ 100) (hm : 3 ≤ mem ∧ mem ≤ 12) (hb : zIn L) (hn : L.length ≤ 100) (M : zM) (hM : M 95 1 = (c : Int)) (hp : M 95 2 = (pg : Int)) (hmem : M 95 3 = (mem : Int)) (hL : zRow M f L) : Mt l 6 yX8_sort cX8_sort 6 (some .int) (fun ad => [.ref (ad (95)), .int (jI ((f : Int))), .int (jI (bI rep)), .int (jI (bI least)), .int (jI (0))]) M (fun _ vv M' => ∃ x : Int, vv = some (.int (jI x)) ∧ (x = (c : Int) ∧ zRow M' c (srL L) ∧ M' 95 1 = (c : Int) + 1 ∧ M' 95 2 = M 95 2 ∧ M' 95 3 = M 95 3 ∧ M' 95 4 + M' 95 5 = M 95 4 + M 95 5 + csL L rep least pg mem ∧ zPl M' 0 (pg : Int) (mkR L rep (mem * pg)) (mkZ L rep least pg mem) ∧ zOs M M' c)) := by
  refine Mt.of (fun ad => [some (.ref (ad (95))), some (.int (jI ((f : Int)))), some (.int (jI (bI rep))), some (.int (jI (bI least))), some (.int (jI (0))), none]) (by decide +kernel) (fun _ => rfl) (fun _ => rfl) (fun _ => Nat.le_of_ble_eq_true rfl) fun X hX C hR => ?_
  subst hX
  show G X M 0 [some (.ref ((zA X) (95))), some (.int (jI ((f : Int)))), some (.int (jI (bI rep))), some (.int (jI (bI least))), some (.int (jI (0))), none] []
  refine g_aload_n C dX8_sort_0 rfl ?_
  refine g_iload_n C dX8_sort_1 rfl ?_
  refine gc_rowOf C (by decide) tw_365 (Nat.le_of_ble_eq_true rfl) rfl dX8_sort_2 f hf (by omega) hM (?_)
  refine g_astore C dX8_sort_5 (Nat.le_of_ble_eq_true rfl) ?_
  show G X _ 7 [_, _, _, _, _, _] _
  refine g_aload_n C dX8_sort_7 rfl ?_
  refine gc_needRoom C (by decide) tw_337 (Nat.le_of_ble_eq_true rfl) rfl dX8_sort_8 c hc hM (?_)
  refine g_aload_n C dX8_sort_11 rfl ?_
  refine gf_Ms_latest C tw_221 dX8_sort_12 ?_
  refine g_aload C dX8_sort_15 rfl ?_
  refine g_iload_n C dX8_sort_17 rfl ?_
  show G X _ 18 _ _
  refine g_iload_n C dX8_sort_18 rfl ?_
  refine g_iload C dX8_sort_19 rfl ?_
  refine g_aload_n C dX8_sort_21 rfl ?_
  refine gf_Ms_page C tw_216 dX8_sort_22 ?_
  rw [hp]
  refine g_aload_n C dX8_sort_25 rfl ?_
  refine gf_Ms_memory C tw_217 dX8_sort_26 ?_
  rw [hmem]
  show G X _ 29 _ _
  refine gc_Plan_make C (by decide) tw_488 (Nat.le_of_ble_eq_true rfl) rfl dX8_sort_29 (r := 0) (q := f) (by omega) (by omega) rep least pg mem hpg hm hb hn hL (fun N1 ⟨a1, a2⟩ => ?_)
  refine g_aload_n C dX8_sort_32 rfl ?_
  refine gf_Ms_outcome C tw_225 dX8_sort_33 ?_
  refine gc_Out_clear C (by decide) tw_592 (Nat.le_of_ble_eq_true rfl) rfl dX8_sort_36  (fun N2 ⟨b1, b2, b3, b4, b5⟩ => ?_)
  have a3 : zPl N2 0 (pg : Int) (mkR L rep (mem * pg)) (mkZ L rep least pg mem) := a1.same (by omega) (fun o h => b5 o (by omega) (by omega) (by omega) (by omega))
  refine g_aload_n C dX8_sort_39 rfl ?_
  refine gf_Ms_outcome C tw_225 dX8_sort_40 ?_
  show G X _ 43 _ _
  refine g_aload_n C dX8_sort_43 rfl ?_
  refine gf_Ms_latest C tw_221 dX8_sort_44 ?_
  refine gf_Plan_readPages C (by omega) tw_67 dX8_sort_47 ?_
  rw [show N2 (82 + 0) 3 = _ from a3.2.2.1]
  refine gp_Out_readPages C tw_160 dX8_sort_50 ?_
  refine g_aload_n C dX8_sort_53 rfl ?_
  refine gf_Ms_outcome C tw_225 dX8_sort_54 ?_
  show G X _ 57 _ _
  refine g_aload_n C dX8_sort_57 rfl ?_
  refine gf_Ms_latest C tw_221 dX8_sort_58 ?_
  refine gf_Plan_writtenPages C (by omega) tw_69 dX8_sort_61 ?_
  rw [show zu N2 89 2 (mkZ L rep least pg mem).2.1 (82 + 0) 4 = (mkZ L rep least pg mem).2.2.1 by rw [zu_o _ _ _ _ (by omega)]; exact a3.2.2.2.1]
  refine gp_Out_writtenPages C tw_162 dX8_sort_64 ?_
  refine g_aload_n C dX8_sort_67 rfl ?_
  refine g_aload C dX8_sort_68 rfl ?_
  show G X _ 70 _ _
  refine g_iload C dX8_sort_70 rfl ?_
  generalize hN3 : zu (zu N2 89 2 (mkZ L rep least pg mem).2.1) 89 3 (mkZ L rep least pg mem).2.2.1 = N3
  have c1 : ∀ o, o ≠ 89 → N3 o = N2 o := fun o h => by rw [← hN3, zu_o _ _ _ _ h, zu_o _ _ _ _ h]
  have c2 : N3 89 2 = (mkZ L rep least pg mem).2.1 ∧ N3 89 3 = (mkZ L rep least pg mem).2.2.1 ∧ N3 89 1 = N2 89 1 ∧ N3 89 4 = N2 89 4 := by rw [← hN3]; simp [zu_at]
  have c3 : ∀ o, (o < 60 ∨ 68 ≤ o) → o ≠ 76 → o ≠ 77 → o ≠ 82 → o ≠ 36 → o ≠ 37 → o ≠ 38 → o ≠ 89 → N3 o = M o := fun o a b d e f g i j => (c1 o j).trans ((b5 o f g i j).trans (a2 o a b d e))
  have c4 : zRow N3 f L := hL.same (fun o a b => c3 o (by omega) (by omega) (by omega) (by omega) (by omega) (by omega) (by omega) (by omega))
  refine gc_giveSorted C (by decide) tw_597 (Nat.le_of_ble_eq_true rfl) rfl dX8_sort_72 (q := f) (by omega) (by omega) (by omega) hb c4 ⟨b1.1.same (fun o a b => c1 o (by omega)), by rw [c2.2.2.1]; exact b1.2⟩ (fun N4 ⟨d1, d2, d3⟩ => ?_)
  refine g_aload_n C dX8_sort_75 rfl ?_
  have e95 : N4 95 = M 95 := (d3 95 (by omega) (by omega) (by omega) (by omega) (by omega) (by omega)).trans (c3 95 (by omega) (by omega) (by omega) (by omega) (by omega) (by omega) (by omega) (by omega))
  refine gc_land C (by decide) tw_610 (Nat.le_of_ble_eq_true rfl) rfl dX8_sort_76 c hc (by rw [e95]; exact hM) d1 (fun x N5 ⟨e0, e1, e2, e3, e4, e5, e6, e7, e8⟩ => ?_)
  refine g_iret C hR dX8_sort_79 ?_
  refine ⟨_, rfl, e0, e1, e2, by rw [e3, e95], by rw [e4, e95], ?_, ?_, ?_⟩
  · rw [e5, e6, e95, d2 2 (by omega), d2 3 (by omega), c2.1, c2.2.1]
    unfold csL
    omega
  · exact a3.same (by omega) (fun o h => (e8 o (by omega) (by omega) (by omega) (by omega)).trans ((d3 o (by omega) (by omega) (by omega) (by omega) (by omega) (by omega)).trans (c1 o (by omega))))
  · intro o g1 g2 g3 g4 g5 g6 g7 g8 g9 g10 g11 g12 g13 g14
    exact (e8 o g1 g2 g3 g8).trans ((d3 o g4 g5 g6 g7 g13 g14).trans (c3 o g9 g11 g12 g10 g4 g5 g6 g7))
theorem gc_sort {X : z_X} {cc : ByteArray} {own : String} {ret : Option FieldType} {dC nC : Nat} {M : zM} {pc : Nat} {lv : List (Option Value)} {st : List Value} (C : Cx cc own ret dC nC X) (hdep : 7 ≤ dC) {idx : Nat} (hl0 : Cond.methodLink own idx yX8_sort ∈ tT) (hcat : (st.map fun v => v.category).sum ≤ 8) (hlen : lv.length = nC) (hdec : decode cc pc = .ok (.invokevirtual idx, 3)) {c : Nat} (f : Nat) (hf : f < c) (hc : c < 12) {L : List (Int × Int)} (rep least : Bool) (pg mem : Nat) (hpg : 1 ≤ pg ∧ pg ≤ 100) (hm : 3 ≤ mem ∧ mem ≤ 12) (hb : zIn L) (hn : L.length ≤ 100) (hM : M 95 1 = (c : Int)) (hp : M 95 2 = (pg : Int)) (hmem : M 95 3 = (mem : Int)) (hL : zRow M f L) (kk : ∀ (x : Int) (M' : zM), (x = (c : Int) ∧ zRow M' c (srL L) ∧ M' 95 1 = (c : Int) + 1 ∧ M' 95 2 = M 95 2 ∧ M' 95 3 = M 95 3 ∧ M' 95 4 + M' 95 5 = M 95 4 + M 95 5 + csL L rep least pg mem ∧ zPl M' 0 (pg : Int) (mkR L rep (mem * pg)) (mkZ L rep least pg mem) ∧ zOs M M' c) → G X M' (pc + 3) lv (.int (jI x) :: st)) : G X M pc lv (.int (jI (0)) :: .int (jI (bI least)) :: .int (jI (bI rep)) :: .int (jI ((f : Int))) :: .ref (zA X (95)) :: st) := by
  refine g_callV (k := 4) (o := 95) C (c_sort (zL X) f hf hc rep least pg mem hpg hm hb hn M hM hp hmem hL) mfX8_sort hl0 ⟨rfl, by decide +kernel, by decide +kernel, by decide +kernel⟩ ⟨hdep, by decide⟩ (by omega) (fun _ _ _ _ => ze_ms) rfl rfl rfl rfl hcat hlen hdec (fun v M' h => ?_)
  obtain ⟨x, rfl, h⟩ := h
  exact kk x M' h
set_option maxHeartbeats 4000000 in
set_option maxRecDepth 10000 in
theorem c_costOf (l : Launch) {q : Nat} (hq : q < 20) {L : List (Int × Int)} (rep least : Bool) (pg mem : Nat) (hpg : 1 ≤ pg ∧ pg ≤ 100) (hm : 3 ≤ mem ∧ mem ≤ 12) (hb : zIn L) (hn : L.length ≤ 100) (M : zM) (hp : M 95 2 = (pg : Int)) (hL : zRow M q L) : Mt l 6 yX8_costOf cX8_costOf 5 (some .int) (fun ad => [.ref (ad (95)), .ref (ad (3 * q)), .int (jI (bI rep)), .int (jI (bI least)), .int (jI ((mem : Int)))]) M (fun _ vv M' => ∃ x : Int, vv = some (.int (jI x)) ∧ (x = csL L rep least pg mem ∧ zFp M M' 1)) := by
  refine Mt.of (fun ad => [some (.ref (ad (95))), some (.ref (ad (3 * q))), some (.int (jI (bI rep))), some (.int (jI (bI least))), some (.int (jI ((mem : Int))))]) (by decide +kernel) (fun _ => rfl) (fun _ => rfl) (fun _ => Nat.le_of_ble_eq_true rfl) fun X hX C hR => ?_
  subst hX
  show G X M 0 [some (.ref ((zA X) (95))), some (.ref ((zA X) (3 * q))), some (.int (jI (bI rep))), some (.int (jI (bI least))), some (.int (jI ((mem : Int))))] []
  refine g_aload_n C dX8_costOf_0 rfl ?_
  refine gf_Ms_trial C tw_222 dX8_costOf_1 ?_
  refine g_aload_n C dX8_costOf_4 rfl ?_
  refine g_iload_n C dX8_costOf_5 rfl ?_
  refine g_iload_n C dX8_costOf_6 rfl ?_
  refine g_iconst C dX8_costOf_7 ?_
  show G X _ 8 _ _
  refine g_aload_n C dX8_costOf_8 rfl ?_
  refine gf_Ms_page C tw_216 dX8_costOf_9 ?_
  rw [hp]
  refine g_iload C dX8_costOf_12 rfl ?_
  refine gc_Plan_make C (by decide) tw_488 (Nat.le_of_ble_eq_true rfl) rfl dX8_costOf_14 (r := 1) (by omega) hq rep least pg mem hpg hm hb hn hL (fun N1 ⟨a1, a2⟩ => ?_)
  refine g_aload_n C dX8_costOf_17 rfl ?_
  refine gf_Ms_trial C tw_222 dX8_costOf_18 ?_
  show G X _ 21 _ _
  refine gf_Plan_readPages C (by omega) tw_67 dX8_costOf_21 ?_
  rw [show N1 (82 + 1) 3 = _ from a1.2.2.1]
  refine g_aload_n C dX8_costOf_24 rfl ?_
  refine gf_Ms_trial C tw_222 dX8_costOf_25 ?_
  refine gf_Plan_writtenPages C (by omega) tw_69 dX8_costOf_28 ?_
  rw [show N1 (82 + 1) 4 = _ from a1.2.2.2.1]
  refine g_iadd C dX8_costOf_31 ?_
  refine g_iret C hR dX8_costOf_32 ?_
  exact ⟨_, rfl, rfl, a2⟩
theorem gc_costOf {X : z_X} {cc : ByteArray} {own : String} {ret : Option FieldType} {dC nC : Nat} {M : zM} {pc : Nat} {lv : List (Option Value)} {st : List Value} (C : Cx cc own ret dC nC X) (hdep : 7 ≤ dC) {idx : Nat} (hl0 : Cond.methodLink own idx yX8_costOf ∈ tT) (hcat : (st.map fun v => v.category).sum ≤ 8) (hlen : lv.length = nC) (hdec : decode cc pc = .ok (.invokevirtual idx, 3)) {q : Nat} (hq : q < 20) {L : List (Int × Int)} (rep least : Bool) (pg mem : Nat) (hpg : 1 ≤ pg ∧ pg ≤ 100) (hm : 3 ≤ mem ∧ mem ≤ 12) (hb : zIn L) (hn : L.length ≤ 100) (hp : M 95 2 = (pg : Int)) (hL : zRow M q L) (kk : ∀ (x : Int) (M' : zM), (x = csL L rep least pg mem ∧ zFp M M' 1) → G X M' (pc + 3) lv (.int (jI x) :: st)) : G X M pc lv (.int (jI ((mem : Int))) :: .int (jI (bI least)) :: .int (jI (bI rep)) :: .ref (zA X (3 * q)) :: .ref (zA X (95)) :: st) := by
  refine g_callV (k := 4) (o := 95) C (c_costOf (zL X) hq rep least pg mem hpg hm hb hn M hp hL) mfX8_costOf hl0 ⟨rfl, by decide +kernel, by decide +kernel, by decide +kernel⟩ ⟨hdep, by decide⟩ (by omega) (fun _ _ _ _ => ze_ms) rfl rfl rfl rfl hcat hlen hdec (fun v M' h => ?_)
  obtain ⟨x, rfl, h⟩ := h
  exact kk x M' h
set_option maxHeartbeats 4000000 in
set_option maxRecDepth 10000 in
theorem c_sortCost (l : Launch) {c : Nat} (f : Nat) (hf : f < c) (hc : c ≤ 12) {L : List (Int × Int)} (rep least : Bool) (pg mem : Nat) (hpg : 1 ≤ pg ∧ pg ≤ 100) (hm : 3 ≤ mem ∧ mem ≤ 12) (hb : zIn L) (hn : L.length ≤ 100) (M : zM) (hM : M 95 1 = (c : Int)) (hp : M 95 2 = (pg : Int)) (hL : zRow M f L) : Mt l 7 yX8_sortCost cX8_sortCost 6 (some .int) (fun ad => [.ref (ad (95)), .int (jI ((f : Int))), .int (jI (bI rep)), .int (jI (bI least)), .int (jI ((mem : Int)))]) M (fun _ vv M' => ∃ x : Int, vv = some (.int (jI x)) ∧ (x = csL L rep least pg mem ∧ zFp M M' 1)) := by
  refine Mt.of (fun ad => [some (.ref (ad (95))), some (.int (jI ((f : Int)))), some (.int (jI (bI rep))), some (.int (jI (bI least))), some (.int (jI ((mem : Int)))), none]) (by decide +kernel) (fun _ => rfl) (fun _ => rfl) (fun _ => Nat.le_of_ble_eq_true rfl) fun X hX C hR => ?_
  subst hX
  show G X M 0 [some (.ref ((zA X) (95))), some (.int (jI ((f : Int)))), some (.int (jI (bI rep))), some (.int (jI (bI least))), some (.int (jI ((mem : Int)))), none] []
  refine g_aload_n C dX8_sortCost_0 rfl ?_
  refine g_iload_n C dX8_sortCost_1 rfl ?_
  refine gc_rowOf C (by decide) tw_365 (Nat.le_of_ble_eq_true rfl) rfl dX8_sortCost_2 f hf hc hM (?_)
  refine g_astore C dX8_sortCost_5 (Nat.le_of_ble_eq_true rfl) ?_
  show G X _ 7 [_, _, _, _, _, _] _
  refine g_iload C dX8_sortCost_7 rfl ?_
  refine gc_needMemory C (by decide) tw_329 (Nat.le_of_ble_eq_true rfl) rfl dX8_sortCost_9 _ (by omega) (?_)
  refine g_aload_n C dX8_sortCost_12 rfl ?_
  refine g_aload C dX8_sortCost_13 rfl ?_
  refine g_iload_n C dX8_sortCost_15 rfl ?_
  refine g_iload_n C dX8_sortCost_16 rfl ?_
  show G X _ 17 _ _
  refine g_iload C dX8_sortCost_17 rfl ?_
  refine gc_costOf C (by decide) tw_804 (Nat.le_of_ble_eq_true rfl) rfl dX8_sortCost_19 (by omega) rep least pg mem hpg hm hb hn hp hL (fun x N1 ⟨a1, a2⟩ => ?_)
  refine g_iret C hR dX8_sortCost_22 ?_
  exact ⟨_, rfl, a1, a2⟩
theorem gc_sortCost {X : z_X} {cc : ByteArray} {own : String} {ret : Option FieldType} {dC nC : Nat} {M : zM} {pc : Nat} {lv : List (Option Value)} {st : List Value} (C : Cx cc own ret dC nC X) (hdep : 8 ≤ dC) {idx : Nat} (hl0 : Cond.methodLink own idx yX8_sortCost ∈ tT) (hcat : (st.map fun v => v.category).sum ≤ 8) (hlen : lv.length = nC) (hdec : decode cc pc = .ok (.invokevirtual idx, 3)) {c : Nat} (f : Nat) (hf : f < c) (hc : c ≤ 12) {L : List (Int × Int)} (rep least : Bool) (pg mem : Nat) (hpg : 1 ≤ pg ∧ pg ≤ 100) (hm : 3 ≤ mem ∧ mem ≤ 12) (hb : zIn L) (hn : L.length ≤ 100) (hM : M 95 1 = (c : Int)) (hp : M 95 2 = (pg : Int)) (hL : zRow M f L) (kk : ∀ (x : Int) (M' : zM), (x = csL L rep least pg mem ∧ zFp M M' 1) → G X M' (pc + 3) lv (.int (jI x) :: st)) : G X M pc lv (.int (jI ((mem : Int))) :: .int (jI (bI least)) :: .int (jI (bI rep)) :: .int (jI ((f : Int))) :: .ref (zA X (95)) :: st) := by
  refine g_callV (k := 4) (o := 95) C (c_sortCost (zL X) f hf hc rep least pg mem hpg hm hb hn M hM hp hL) mfX8_sortCost hl0 ⟨rfl, by decide +kernel, by decide +kernel, by decide +kernel⟩ ⟨hdep, by decide⟩ (by omega) (fun _ _ _ _ => ze_ms) rfl rfl rfl rfl hcat hlen hdec (fun v M' h => ?_)
  obtain ⟨x, rfl, h⟩ := h
  exact kk x M' h
set_option maxHeartbeats 4000000 in
set_option maxRecDepth 10000 in
theorem c_memoryFor (l : Launch) {c : Nat} (f : Nat) (hf : f < c) (hc : c ≤ 12) {L : List (Int × Int)} (rep : Bool) (pg k : Nat) (hpg : 1 ≤ pg ∧ pg ≤ 100) (hk : k ≤ 100) (hb : zIn L) (hn : L.length ≤ 100) (M : zM) (hM : M 95 1 = (c : Int)) (hp : M 95 2 = (pg : Int)) (hL : zRow M f L) : Mt l 6 yX8_memoryFor cX8_memoryFor 6 (some .int) (fun ad => [.ref (ad (95)), .int (jI ((f : Int))), .int (jI (bI rep)), .int (jI ((k : Int)))]) M (fun _ vv M' => ∃ x : Int, vv = some (.int (jI x)) ∧ ((∀ mm : Nat, 3 ≤ mm → mm ≤ 12 → (mkZ L rep false pg mm).2.2.2.2.length ≤ k → x ≤ (mm : Int)) ∧ (-1 ≤ x ∧ x ≤ 12) ∧ zFp M M' 1)) := by
  refine Mt.of (fun ad => [some (.ref (ad (95))), some (.int (jI ((f : Int)))), some (.int (jI (bI rep))), some (.int (jI ((k : Int)))), none, none]) (by decide +kernel) (fun _ => rfl) (fun _ => rfl) (fun _ => Nat.le_of_ble_eq_true rfl) fun X hX C hR => ?_
  subst hX
  show G X M 0 [some (.ref ((zA X) (95))), some (.int (jI ((f : Int)))), some (.int (jI (bI rep))), some (.int (jI ((k : Int)))), none, none] []
  have lp : ∀ (fk : Nat) (s : Nat) (N : zM), 20 - s < fk → 3 ≤ s → s ≤ 13 → (∀ mm : Nat, 3 ≤ mm → mm < s → ¬ (mkZ L rep false pg mm).2.2.2.2.length ≤ k) → zFp M N 1 → G X N 31 [some (.ref (zA X 95)), some (.int (jI (f : Int))), some (.int (jI (bI rep))), some (.int (jI (k : Int))), some (.ref (zA X (3 * f))), some (.int (jI (s : Int)))] [] := by
    intro fk
    induction fk with
    | zero => intro s N hk; exact absurd hk (Nat.not_lt_zero _)
    | succ fk ih =>
      intro s N hk s1 s2 s3 hF
      refine g_iload C dX8_memoryFor_31 rfl ?_
      refine g_bipush C dX8_memoryFor_33 rfl ?_
      refine g_icmp_gt (tgt := 79) C dX8_memoryFor_35 rfl (by omega) (by omega) (fun h35 => ?_) (fun h35 => ?_)
      · refine g_iconst C dX8_memoryFor_79 ?_
        refine g_iret C hR dX8_memoryFor_80 ?_
        refine ⟨_, rfl, fun mm q1 q2 q3 => absurd q3 (s3 mm q1 (by omega)), by omega, hF⟩
      · refine g_aload_n C dX8_memoryFor_38 rfl ?_
        refine gf_Ms_trial C tw_222 dX8_memoryFor_39 ?_
        refine g_aload C dX8_memoryFor_42 rfl ?_
        refine g_iload_n C dX8_memoryFor_44 rfl ?_
        refine g_iconst C dX8_memoryFor_45 ?_
        refine g_iconst C dX8_memoryFor_46 ?_
        show G X _ 47 _ _
        refine g_aload_n C dX8_memoryFor_47 rfl ?_
        refine gf_Ms_page C tw_216 dX8_memoryFor_48 ?_
        rw [hF 95 (by omega) (by omega) (by omega) (by omega), hp]
        refine g_iload C dX8_memoryFor_51 rfl ?_
        refine gc_Plan_make C (by decide) tw_488 (Nat.le_of_ble_eq_true rfl) rfl dX8_memoryFor_53 (r := 1) (q := f) (by omega) (by omega) rep false pg s hpg (by omega) hb hn (hL.same (fun o a b => hF o (by omega) (by omega) (by omega) (by omega))) (fun N2 ⟨a1, a2⟩ => ?_)
        have hl2 := a1.2.2.2.2.2.1.2.1
        refine g_aload_n C dX8_memoryFor_56 rfl ?_
        refine gf_Ms_trial C tw_222 dX8_memoryFor_57 ?_
        show G X _ 60 _ _
        refine gf_Plan_mergeSizes C (by omega) tw_65 dX8_memoryFor_60 ?_
        refine gc_Num_count C (by decide) tw_624 (Nat.le_of_ble_eq_true rfl) rfl dX8_memoryFor_63 (r := 4 * 1 + 2) (by omega) a1.2.2.2.2.2.1 (?_)
        refine g_iload_n C dX8_memoryFor_66 rfl ?_
        refine g_icmp_gt (tgt := 73) C dX8_memoryFor_67 rfl (by omega) (by omega) (fun h67 => ?_) (fun h67 => ?_)
        · refine g_iinc C dX8_memoryFor_73 rfl ?_
          show G X _ 76 [_, _, _, _, _, _] _
          refine g_goto (tgt := 31) C dX8_memoryFor_76 rfl ?_
          show G X _ 31 _ _
          refine ih (s + 1) N2 (by omega) (by omega) (by omega) (fun mm q1 q2 => ?_) (hF.trans a2)
          rcases Nat.lt_or_ge mm s with q | q
          · exact s3 mm q1 q
          · obtain rfl : mm = s := by omega
            omega
        · refine g_iload C dX8_memoryFor_70 rfl ?_
          refine g_iret C hR dX8_memoryFor_72 ?_
          refine ⟨_, rfl, fun mm q1 q2 q3 => ?_, by omega, hF.trans a2⟩
          rcases Nat.lt_or_ge mm s with q | q
          · exact absurd q3 (s3 mm q1 q)
          · omega
  refine g_aload_n C dX8_memoryFor_0 rfl ?_
  refine g_iload_n C dX8_memoryFor_1 rfl ?_
  refine gc_rowOf C (by decide) tw_365 (Nat.le_of_ble_eq_true rfl) rfl dX8_memoryFor_2 f hf hc hM (?_)
  refine g_astore C dX8_memoryFor_5 (Nat.le_of_ble_eq_true rfl) ?_
  show G X _ 7 [_, _, _, _, _, _] _
  refine g_iload_n C dX8_memoryFor_7 rfl ?_
  refine g_if_lt (tgt := 17) C dX8_memoryFor_8 rfl (by omega) (fun h8 => ?_) (fun h8 => ?_)
  · omega
  · refine g_iload_n C dX8_memoryFor_11 rfl ?_
    refine g_bipush C dX8_memoryFor_12 rfl ?_
    refine g_icmp_le (tgt := 28) C dX8_memoryFor_14 rfl (by omega) (by omega) (fun h14 => ?_) (fun h14 => ?_)
    · refine g_iconst C dX8_memoryFor_28 ?_
      refine g_istore C dX8_memoryFor_29 (Nat.le_of_ble_eq_true rfl) ?_
      show G X _ 31 [_, _, _, _, _, _] _
      exact lp 30 3 M (by omega) (by omega) (by omega) (fun mm q1 q2 => by omega) zFp.refl
    · omega
theorem gc_memoryFor {X : z_X} {cc : ByteArray} {own : String} {ret : Option FieldType} {dC nC : Nat} {M : zM} {pc : Nat} {lv : List (Option Value)} {st : List Value} (C : Cx cc own ret dC nC X) (hdep : 7 ≤ dC) {idx : Nat} (hl0 : Cond.methodLink own idx yX8_memoryFor ∈ tT) (hcat : (st.map fun v => v.category).sum ≤ 8) (hlen : lv.length = nC) (hdec : decode cc pc = .ok (.invokevirtual idx, 3)) {c : Nat} (f : Nat) (hf : f < c) (hc : c ≤ 12) {L : List (Int × Int)} (rep : Bool) (pg k : Nat) (hpg : 1 ≤ pg ∧ pg ≤ 100) (hk : k ≤ 100) (hb : zIn L) (hn : L.length ≤ 100) (hM : M 95 1 = (c : Int)) (hp : M 95 2 = (pg : Int)) (hL : zRow M f L) (kk : ∀ (x : Int) (M' : zM), ((∀ mm : Nat, 3 ≤ mm → mm ≤ 12 → (mkZ L rep false pg mm).2.2.2.2.length ≤ k → x ≤ (mm : Int)) ∧ (-1 ≤ x ∧ x ≤ 12) ∧ zFp M M' 1) → G X M' (pc + 3) lv (.int (jI x) :: st)) : G X M pc lv (.int (jI ((k : Int))) :: .int (jI (bI rep)) :: .int (jI ((f : Int))) :: .ref (zA X (95)) :: st) := by
  refine g_callV (k := 3) (o := 95) C (c_memoryFor (zL X) f hf hc rep pg k hpg hk hb hn M hM hp hL) mfX8_memoryFor hl0 ⟨rfl, by decide +kernel, by decide +kernel, by decide +kernel⟩ ⟨hdep, by decide⟩ (by omega) (fun _ _ _ _ => ze_ms) rfl rfl rfl rfl hcat hlen hdec (fun v M' h => ?_)
  obtain ⟨x, rfl, h⟩ := h
  exact kk x M' h
end
