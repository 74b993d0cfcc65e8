/-! methods of the set of keys, of the outcome, of the splitting -/
set_option maxHeartbeats 4000000 in
set_option maxRecDepth 10000 in
theorem c_wordOf (l : Launch) (n : Nat) (hn : n < 1999) (M : zM)  : Mt l 1 yX1_wordOf cX1_wordOf 1 (some .int) (fun ad => [.int (jI (((n : Int) - 999)))]) M (fun _ vv M' => vv = some (.int (jI (((n / 64 : Nat) : Int)))) ∧ M' = M) := by
  refine Mt.of (fun ad => [some (.int (jI (((n : Int) - 999))))]) (by decide +kernel) (fun _ => rfl) (fun _ => rfl) (fun _ => Nat.le_of_ble_eq_true rfl) fun X hX C hR => ?_
  subst hX
  show G X M 0 [some (.int (jI (((n : Int) - 999))))] []
  refine g_iload_n C dX1_wordOf_0 rfl ?_
  refine g_sipush C dX1_wordOf_1 rfl ?_
  refine g_iadd C dX1_wordOf_4 ?_
  refine g_bipush C dX1_wordOf_5 rfl ?_
  refine g_ishr C dX1_wordOf_7 ?_
  refine g_iret C hR dX1_wordOf_8 ?_
  exact ⟨by rw [ks_word hn], rfl⟩
theorem gc_wordOf {X : z_X} {cc : ByteArray} {own : String} {ret : Option FieldType} {dC nC : Nat} {M : zM} {pc : Nat} {lv : List (Option Value)} {st : List Value} (C : Cx cc own ret dC nC X) (hdep : 2 ≤ dC) {idx : Nat} (hl0 : Cond.methodLink own idx yX1_wordOf ∈ tT) (hcat : (st.map fun v => v.category).sum ≤ 8) (hlen : lv.length = nC) (hdec : decode cc pc = .ok (.invokestatic idx, 3)) (n : Nat) (hn : n < 1999)  (kk : G X M (pc + 3) lv (.int (jI (((n / 64 : Nat) : Int))) :: st)) : G X M pc lv (.int (jI (((n : Int) - 999))) :: st) := by
  refine g_callS (k := 1) C (c_wordOf (zL X) n hn M ) mfX1_wordOf hl0 ⟨rfl, by decide +kernel, by decide +kernel, by decide +kernel⟩ ⟨hdep, by decide⟩ rfl rfl rfl hcat hlen hdec (fun v M' h => ?_)
  obtain ⟨rfl, rfl⟩ := h
  exact kk
set_option maxHeartbeats 4000000 in
set_option maxRecDepth 10000 in
theorem c_bitOf (l : Launch) (n : Nat) (hn : n < 1999) (M : zM)  : Mt l 1 yX1_bitOf cX1_bitOf 1 (some .long) (fun ad => [.int (jI (((n : Int) - 999)))]) M (fun _ vv M' => ∃ x : Int64, vv = some (.long x) ∧ (x.toBitVec = BitVec.twoPow 64 (n % 64) ∧ M' = M)) := by
  refine Mt.of (fun ad => [some (.int (jI (((n : Int) - 999))))]) (by decide +kernel) (fun _ => rfl) (fun _ => rfl) (fun _ => Nat.le_of_ble_eq_true rfl) fun X hX C hR => ?_
  subst hX
  show G X M 0 [some (.int (jI (((n : Int) - 999))))] []
  refine g_lconst C dX1_bitOf_0 ?_
  refine g_iload_n C dX1_bitOf_1 rfl ?_
  refine g_sipush C dX1_bitOf_2 rfl ?_
  refine g_iadd C dX1_bitOf_5 ?_
  refine g_bipush C dX1_bitOf_6 rfl ?_
  refine g_iand C dX1_bitOf_8 ?_
  show G X _ 9 _ _
  refine g_lshl C dX1_bitOf_9 ?_
  refine g_lret C hR dX1_bitOf_10 ?_
  exact ⟨_, rfl, ks_bitOf hn, rfl⟩
theorem gc_bitOf {X : z_X} {cc : ByteArray} {own : String} {ret : Option FieldType} {dC nC : Nat} {M : zM} {pc : Nat} {lv : List (Option Value)} {st : List Value} (C : Cx cc own ret dC nC X) (hdep : 2 ≤ dC) {idx : Nat} (hl0 : Cond.methodLink own idx yX1_bitOf ∈ tT) (hcat : (st.map fun v => v.category).sum ≤ 8) (hlen : lv.length = nC) (hdec : decode cc pc = .ok (.invokestatic idx, 3)) (n : Nat) (hn : n < 1999)  (kk : ∀ (x : Int64) (M' : zM), (x.toBitVec = BitVec.twoPow 64 (n % 64) ∧ M' = M) → G X M' (pc + 3) lv (.long x :: st)) : G X M pc lv (.int (jI (((n : Int) - 999))) :: st) := by
  refine g_callS (k := 1) C (c_bitOf (zL X) n hn M ) mfX1_bitOf hl0 ⟨rfl, by decide +kernel, by decide +kernel, by decide +kernel⟩ ⟨hdep, by decide⟩ rfl rfl rfl hcat hlen hdec (fun v M' h => ?_)
  obtain ⟨x, rfl, h⟩ := h
  exact kk x M' h
set_option maxHeartbeats 4000000 in
set_option maxRecDepth 10000 in
theorem c_Ks_clear (l : Launch)  (M : zM)  : Mt l 1 yX1_clear cX1_clear 2 none (fun ad => [.ref (ad (93))]) M (fun _ vv M' => vv = none ∧ (zKs M' [] ∧ ∀ o, o ≠ 94 → M' o = M o)) := by
  refine Mt.of (fun ad => [some (.ref (ad (93))), none]) (by decide +kernel) (fun _ => rfl) (fun _ => rfl) (fun _ => Nat.le_of_ble_eq_true rfl) fun X hX C hR => ?_
  subst hX
  show G X M 0 [some (.ref ((zA X) (93))), none] []
  have lp : ∀ (fk : Nat) (i : Nat) (N : zM), 40 - i < fk → i ≤ 32 → (∀ j, j < i → N 94 j = 0) → (∀ o, o ≠ 94 → N o = M o) → G X N 2 [some (.ref (zA X 93)), some (.int (jI (i : Int)))] [] := by
    intro fk
    induction fk with
    | zero => intro i N hk; exact absurd hk (Nat.not_lt_zero _)
    | succ fk ih =>
      intro i N hk hi hN hF
      refine g_iload_n C dX1_clear_2 rfl ?_
      refine g_aload_n C dX1_clear_3 rfl ?_
      refine gf_Kset_words C tw_208 dX1_clear_4 ?_
      refine gl_words C dX1_clear_7 ?_
      refine g_icmp_ge (tgt := 24) C dX1_clear_8 rfl (by omega) (by omega) (fun h8 => ?_) (fun h8 => ?_)
      · refine g_vret C hR dX1_clear_24 ?_
        refine ⟨rfl, fun n hn => ?_, hF⟩
        rw [hN (n / 64) (by omega), show (jL 0).toBitVec = 0#64 from rfl]
        simp
      · refine g_aload_n C dX1_clear_11 rfl ?_
        refine gf_Kset_words C tw_208 dX1_clear_12 ?_
        refine g_iload_n C dX1_clear_15 rfl ?_
        refine g_lconst C dX1_clear_16 ?_
        show G X _ 17 _ (.long (jL 0) :: _)
        refine g_last C (by omega) rfl dX1_clear_17 ?_
        refine g_iinc C dX1_clear_18 rfl ?_
        show G X _ 21 [_, _] _
        refine g_goto (tgt := 2) C dX1_clear_21 rfl ?_
        show G X _ 2 _ _
        exact ih (i + 1) _ (by omega) (by omega) (fun j hj => by
          by_cases e : j = i
          · subst e; exact zu_s _ _ _ _
          · rw [zu_k _ _ _ _ e]; exact hN j (by omega)) (fun o h => (zu_o _ _ _ _ h).trans (hF o h))
  refine g_iconst C dX1_clear_0 ?_
  refine g_istore_n C dX1_clear_1 (Nat.le_of_ble_eq_true rfl) ?_
  show G X _ 2 [_, _] _
  exact lp 100 0 M (by omega) (by omega) (fun j hj => absurd hj (Nat.not_lt_zero _)) (fun _ _ => rfl)
theorem gc_Ks_clear {X : z_X} {cc : ByteArray} {own : String} {ret : Option FieldType} {dC nC : Nat} {M : zM} {pc : Nat} {lv : List (Option Value)} {st : List Value} (C : Cx cc own ret dC nC X) (hdep : 2 ≤ dC) {idx : Nat} (hl0 : Cond.methodLink own idx yX1_clear ∈ tT) (hcat : (st.map fun v => v.category).sum ≤ 8) (hlen : lv.length = nC) (hdec : decode cc pc = .ok (.invokevirtual idx, 3))   (kk : ∀ M' : zM, (zKs M' [] ∧ ∀ o, o ≠ 94 → M' o = M o) → G X M' (pc + 3) lv st) : G X M pc lv (.ref (zA X (93)) :: st) := by
  refine g_callV (k := 0) (o := 93) C (c_Ks_clear (zL X)  M ) mfX1_clear hl0 ⟨rfl, by decide +kernel, by decide +kernel, by decide +kernel⟩ ⟨hdep, by decide⟩ (by omega) (fun _ _ _ _ => ze_kset) rfl rfl rfl rfl hcat hlen hdec (fun v M' h => ?_)
  obtain ⟨rfl, h⟩ := h
  exact kk M' h
set_option maxHeartbeats 4000000 in
set_option maxRecDepth 10000 in
theorem c_Ks_has (l : Launch) {S : List Int} (n : Nat) (hn : n < 1999) (M : zM) (hS : zKs M S) : Mt l 2 yX1_has cX1_has 3 (some .boolean) (fun ad => [.ref (ad (93)), .int (jI (((n : Int) - 999)))]) M (fun _ vv M' => vv = some (.int (jI (if (n : Int) - 999 ∈ S then 1 else 0))) ∧ M' = M) := by
  refine Mt.of (fun ad => [some (.ref (ad (93))), some (.int (jI (((n : Int) - 999)))), none]) (by decide +kernel) (fun _ => rfl) (fun _ => rfl) (fun _ => Nat.le_of_ble_eq_true rfl) fun X hX C hR => ?_
  subst hX
  show G X M 0 [some (.ref ((zA X) (93))), some (.int (jI (((n : Int) - 999)))), none] []
  refine g_iload_n C dX1_has_0 rfl ?_
  refine gc_wordOf C (by decide) tw_466 (Nat.le_of_ble_eq_true rfl) rfl dX1_has_1 n hn (?_)
  refine g_istore_n C dX1_has_4 (Nat.le_of_ble_eq_true rfl) ?_
  show G X _ 5 [_, _, _] _
  refine g_iload_n C dX1_has_5 rfl ?_
  refine g_if_lt (tgt := 38) C dX1_has_6 rfl (by omega) (fun h6 => ?_) (fun h6 => ?_)
  · omega
  · refine g_iload_n C dX1_has_9 rfl ?_
    refine g_aload_n C dX1_has_10 rfl ?_
    refine gf_Kset_words C tw_208 dX1_has_11 ?_
    refine gl_words C dX1_has_14 ?_
    refine g_icmp_ge (tgt := 38) C dX1_has_15 rfl (by omega) (by omega) (fun h15 => ?_) (fun h15 => ?_)
    · omega
    · refine g_aload_n C dX1_has_18 rfl ?_
      refine gf_Kset_words C tw_208 dX1_has_19 ?_
      refine g_iload_n C dX1_has_22 rfl ?_
      refine g_lald C (by omega) rfl dX1_has_23 ?_
      refine g_iload_n C dX1_has_24 rfl ?_
      refine gc_bitOf C (by decide) tw_469 (Nat.le_of_ble_eq_true rfl) rfl dX1_has_25 n hn (fun b M1 ⟨hb, hm⟩ => ?_)
      rw [hm]
      show G X _ 28 _ _
      refine g_land C dX1_has_28 ?_
      refine g_lconst C dX1_has_29 ?_
      have g := hS n hn
      have g2 := ks_and (x := jL (M 94 (n / 64))) (b := b) (Nat.mod_lt n (by omega)) hb
      refine g_lcmp C dX1_has_30 (fun h30 => ?_) (fun h30 z30 hz1 hz2 hz3 => ?_)
      · refine g_if_eq (tgt := 38) C dX1_has_31 rfl (by omega) (fun h31 => ?_) (fun h31 => ?_)
        · refine g_iconst C dX1_has_38 ?_
          refine g_zret C hR (by omega) dX1_has_39 ?_
          have e : ¬ (n : Int) - 999 ∈ S := by
            intro e
            rw [decide_eq_true e, g2.mp h30] at g; cases g
          exact ⟨by rw [if_neg e], rfl⟩
        · exact absurd rfl h31
      · refine g_if_eq (tgt := 38) C dX1_has_31 rfl (by omega) (fun h31 => ?_) (fun h31 => ?_)
        · exact absurd h31 hz3
        · refine g_iconst C dX1_has_34 ?_
          refine g_goto (tgt := 39) C dX1_has_35 rfl ?_
          show G X _ 39 _ _
          refine g_zret C hR (by omega) dX1_has_39 ?_
          have e : (n : Int) - 999 ∈ S := by
            by_cases e : (n : Int) - 999 ∈ S
            · exact e
            · rw [decide_eq_false e] at g; exact absurd (g2.mpr g) h30
          exact ⟨by rw [if_pos e], rfl⟩
theorem gc_Ks_has {X : z_X} {cc : ByteArray} {own : String} {ret : Option FieldType} {dC nC : Nat} {M : zM} {pc : Nat} {lv : List (Option Value)} {st : List Value} (C : Cx cc own ret dC nC X) (hdep : 3 ≤ dC) {idx : Nat} (hl0 : Cond.methodLink own idx yX1_has ∈ tT) (hcat : (st.map fun v => v.category).sum ≤ 8) (hlen : lv.length = nC) (hdec : decode cc pc = .ok (.invokevirtual idx, 3)) {S : List Int} (n : Nat) (hn : n < 1999) (hS : zKs M S) (kk : G X M (pc + 3) lv (.int (jI (if (n : Int) - 999 ∈ S then 1 else 0)) :: st)) : G X M pc lv (.int (jI (((n : Int) - 999))) :: .ref (zA X (93)) :: st) := by
  refine g_callV (k := 1) (o := 93) C (c_Ks_has (zL X) n hn M hS) mfX1_has hl0 ⟨rfl, by decide +kernel, by decide +kernel, by decide +kernel⟩ ⟨hdep, by decide⟩ (by omega) (fun _ _ _ _ => ze_kset) rfl rfl rfl rfl hcat hlen hdec (fun v M' h => ?_)
  obtain ⟨rfl, rfl⟩ := h
  exact kk
set_option maxHeartbeats 4000000 in
set_option maxRecDepth 10000 in
theorem c_Ks_add (l : Launch) {S : List Int} (n : Nat) (hn : n < 1999) (M : zM) (hS : zKs M S) : Mt l 2 yX1_add cX1_add 3 (some .boolean) (fun ad => [.ref (ad (93)), .int (jI (((n : Int) - 999)))]) M (fun _ vv M' => ∃ x : Int, vv = some (.int (jI x)) ∧ (x = (if (n : Int) - 999 ∈ S then 0 else 1) ∧ zKs M' (((n : Int) - 999) :: S) ∧ ∀ o, o ≠ 94 → M' o = M o)) := by
  refine Mt.of (fun ad => [some (.ref (ad (93))), some (.int (jI (((n : Int) - 999)))), none]) (by decide +kernel) (fun _ => rfl) (fun _ => rfl) (fun _ => Nat.le_of_ble_eq_true rfl) fun X hX C hR => ?_
  subst hX
  show G X M 0 [some (.ref ((zA X) (93))), some (.int (jI (((n : Int) - 999)))), none] []
  refine g_iload_n C dX1_add_0 rfl ?_
  refine gc_wordOf C (by decide) tw_466 (Nat.le_of_ble_eq_true rfl) rfl dX1_add_1 n hn (?_)
  refine g_istore_n C dX1_add_4 (Nat.le_of_ble_eq_true rfl) ?_
  show G X _ 5 [_, _, _] _
  refine g_iload_n C dX1_add_5 rfl ?_
  refine g_if_lt (tgt := 34) C dX1_add_6 rfl (by omega) (fun h6 => ?_) (fun h6 => ?_)
  · omega
  · refine g_iload_n C dX1_add_9 rfl ?_
    refine g_aload_n C dX1_add_10 rfl ?_
    refine gf_Kset_words C tw_208 dX1_add_11 ?_
    refine gl_words C dX1_add_14 ?_
    refine g_icmp_ge (tgt := 34) C dX1_add_15 rfl (by omega) (by omega) (fun h15 => ?_) (fun h15 => ?_)
    · omega
    · refine g_aload_n C dX1_add_18 rfl ?_
      refine gf_Kset_words C tw_208 dX1_add_19 ?_
      refine g_iload_n C dX1_add_22 rfl ?_
      refine g_lald C (by omega) rfl dX1_add_23 ?_
      refine g_iload_n C dX1_add_24 rfl ?_
      refine gc_bitOf C (by decide) tw_469 (Nat.le_of_ble_eq_true rfl) rfl dX1_add_25 n hn (fun b M1 ⟨hb, hm⟩ => ?_)
      rw [hm]
      show G X _ 28 _ _
      refine g_land C dX1_add_28 ?_
      refine g_lconst C dX1_add_29 ?_
      have g := hS n hn
      have g2 := ks_and (x := jL (M 94 (n / 64))) (b := b) (Nat.mod_lt n (by omega)) hb
      refine g_lcmp C dX1_add_30 (fun h30 => ?_) (fun h30 z30 hz1 hz2 hz3 => ?_)
      · refine g_if_eq (tgt := 36) C dX1_add_31 rfl (by omega) (fun h31 => ?_) (fun h31 => ?_)
        · refine g_aload_n C dX1_add_36 rfl ?_
          refine gf_Kset_words C tw_208 dX1_add_37 ?_
          refine g_iload_n C dX1_add_40 rfl ?_
          refine g_dup2 C dX1_add_41 rfl rfl ?_
          refine g_lald C (by omega) rfl dX1_add_42 ?_
          refine g_iload_n C dX1_add_43 rfl ?_
          show G X _ 44 _ _
          refine gc_bitOf C (by decide) tw_469 (Nat.le_of_ble_eq_true rfl) rfl dX1_add_44 n hn (fun b2 M1 ⟨hb2, hm⟩ => ?_)
          rw [hm]
          refine g_lor C dX1_add_47 ?_
          rw [← jL_of (jL (M 94 (n / 64)) ||| b2)]
          refine g_last C (by omega) rfl dX1_add_48 ?_
          refine g_iconst C dX1_add_49 ?_
          refine g_zret C hR (by omega) dX1_add_50 ?_
          have e : ¬ (n : Int) - 999 ∈ S := by
            intro e
            rw [decide_eq_true e, g2.mp h30] at g; cases g
          exact ⟨_, rfl, by rw [if_neg e], hS.put hn hb2, fun o h => zu_o _ _ _ _ h⟩
        · exact absurd rfl h31
      · refine g_if_eq (tgt := 36) C dX1_add_31 rfl (by omega) (fun h31 => ?_) (fun h31 => ?_)
        · exact absurd h31 hz3
        · refine g_iconst C dX1_add_34 ?_
          refine g_zret C hR (by omega) dX1_add_35 ?_
          have e : (n : Int) - 999 ∈ S := by
            by_cases e : (n : Int) - 999 ∈ S
            · exact e
            · rw [decide_eq_false e] at g; exact absurd (g2.mpr g) h30
          exact ⟨_, rfl, by rw [if_pos e], hS.old e, fun _ _ => rfl⟩
theorem gc_Ks_add {X : z_X} {cc : ByteArray} {own : String} {ret : Option FieldType} {dC nC : Nat} {M : zM} {pc : Nat} {lv : List (Option Value)} {st : List Value} (C : Cx cc own ret dC nC X) (hdep : 3 ≤ dC) {idx : Nat} (hl0 : Cond.methodLink own idx yX1_add ∈ tT) (hcat : (st.map fun v => v.category).sum ≤ 8) (hlen : lv.length = nC) (hdec : decode cc pc = .ok (.invokevirtual idx, 3)) {S : List Int} (n : Nat) (hn : n < 1999) (hS : zKs M S) (kk : ∀ (x : Int) (M' : zM), (x = (if (n : Int) - 999 ∈ S then 0 else 1) ∧ zKs M' (((n : Int) - 999) :: S) ∧ ∀ o, o ≠ 94 → M' o = M o) → G X M' (pc + 3) lv (.int (jI x) :: st)) : G X M pc lv (.int (jI (((n : Int) - 999))) :: .ref (zA X (93)) :: st) := by
  refine g_callV (k := 1) (o := 93) C (c_Ks_add (zL X) n hn M hS) mfX1_add hl0 ⟨rfl, by decide +kernel, by decide +kernel, by decide +kernel⟩ ⟨hdep, by decide⟩ (by omega) (fun _ _ _ _ => ze_kset) rfl rfl rfl rfl hcat hlen hdec (fun v M' h => ?_)
  obtain ⟨x, rfl, h⟩ := h
  exact kk x M' h
set_option maxHeartbeats 4000000 in
set_option maxRecDepth 10000 in
theorem c_Out_clear (l : Launch)  (M : zM)  : Mt l 2 yX3_clear cX3_clear 1 none (fun ad => [.ref (ad (89))]) M (fun _ vv M' => vv = none ∧ (zOut M' [] ∧ M' 89 2 = 0 ∧ M' 89 3 = 0 ∧ M' 89 4 = 0 ∧ ∀ o, o ≠ 36 → o ≠ 37 → o ≠ 38 → o ≠ 89 → M' o = M o)) := by
  refine Mt.of (fun ad => [some (.ref (ad (89)))]) (by decide +kernel) (fun _ => rfl) (fun _ => rfl) (fun _ => Nat.le_of_ble_eq_true rfl) fun X hX C hR => ?_
  subst hX
  show G X M 0 [some (.ref ((zA X) (89)))] []
  refine g_aload_n C dX3_clear_0 rfl ?_
  refine gf_Out_out C tw_155 dX3_clear_1 ?_
  refine gc_Row_empty C (by decide) tw_596 (Nat.le_of_ble_eq_true rfl) rfl dX3_clear_4 (r := 12) (by omega) (fun N ⟨hN, hF⟩ => ?_)
  refine g_aload_n C dX3_clear_7 rfl ?_
  refine g_iconst C dX3_clear_8 ?_
  refine gp_Out_made C tw_157 dX3_clear_9 ?_
  show G X _ 12 _ _
  refine g_aload_n C dX3_clear_12 rfl ?_
  refine g_iconst C dX3_clear_13 ?_
  refine gp_Out_readPages C tw_159 dX3_clear_14 ?_
  refine g_aload_n C dX3_clear_17 rfl ?_
  refine g_iconst C dX3_clear_18 ?_
  refine gp_Out_writtenPages C tw_161 dX3_clear_19 ?_
  show G X _ 22 _ _
  refine g_aload_n C dX3_clear_22 rfl ?_
  refine g_iconst C dX3_clear_23 ?_
  refine gp_Out_spiltPages C tw_163 dX3_clear_24 ?_
  refine g_vret C hR dX3_clear_27 ?_
  refine ⟨rfl, ⟨hN.keep ?_ ?_ ?_, ?_⟩, ?_, ?_, ?_, fun o h1 h2 h3 h4 => ?_⟩
  · simp [zu_o]
  · simp [zu_o]
  · simp [zu_o]
  · simp [zu_at]
  · simp [zu_at]
  · simp [zu_at]
  · simp [zu_at]
  · rw [zu_o _ _ _ _ h4, zu_o _ _ _ _ h4, zu_o _ _ _ _ h4, zu_o _ _ _ _ h4]
    exact hF o (by omega) (by omega) (by omega)
theorem gc_Out_clear {X : z_X} {cc : ByteArray} {own : String} {ret : Option FieldType} {dC nC : Nat} {M : zM} {pc : Nat} {lv : List (Option Value)} {st : List Value} (C : Cx cc own ret dC nC X) (hdep : 3 ≤ dC) {idx : Nat} (hl0 : Cond.methodLink own idx yX3_clear ∈ tT) (hcat : (st.map fun v => v.category).sum ≤ 8) (hlen : lv.length = nC) (hdec : decode cc pc = .ok (.invokevirtual idx, 3))   (kk : ∀ M' : zM, (zOut M' [] ∧ M' 89 2 = 0 ∧ M' 89 3 = 0 ∧ M' 89 4 = 0 ∧ ∀ o, o ≠ 36 → o ≠ 37 → o ≠ 38 → o ≠ 89 → M' o = M o) → G X M' (pc + 3) lv st) : G X M pc lv (.ref (zA X (89)) :: st) := by
  refine g_callV (k := 0) (o := 89) C (c_Out_clear (zL X)  M ) mfX3_clear hl0 ⟨rfl, by decide +kernel, by decide +kernel, by decide +kernel⟩ ⟨hdep, by decide⟩ (by omega) (fun _ _ _ _ => ze_out) rfl rfl rfl rfl hcat hlen hdec (fun v M' h => ?_)
  obtain ⟨rfl, h⟩ := h
  exact kk M' h
set_option maxHeartbeats 4000000 in
set_option maxRecDepth 10000 in
theorem c_Out_give (l : Launch) {L : List (Int × Int)} (k m : Int) (hs : L.length < 120) (M : zM) (hL : zOut M L) : Mt l 2 yX3_give cX3_give 3 none (fun ad => [.ref (ad (89)), .int (jI (k)), .int (jI (m))]) M (fun _ vv M' => vv = none ∧ (zOut M' (L ++ [(k, m)]) ∧ zFo M M')) := by
  refine Mt.of (fun ad => [some (.ref (ad (89))), some (.int (jI (k))), some (.int (jI (m)))]) (by decide +kernel) (fun _ => rfl) (fun _ => rfl) (fun _ => Nat.le_of_ble_eq_true rfl) fun X hX C hR => ?_
  subst hX
  show G X M 0 [some (.ref ((zA X) (89))), some (.int (jI (k))), some (.int (jI (m)))] []
  refine g_aload_n C dX3_give_0 rfl ?_
  refine g_dup C dX3_give_1 rfl ?_
  refine gf_Out_made C tw_157 dX3_give_2 ?_
  rw [hL.2]
  refine g_iconst C dX3_give_5 ?_
  refine g_iadd C dX3_give_6 ?_
  refine gp_Out_made C tw_157 dX3_give_7 ?_
  show G X _ 10 _ _
  refine g_aload_n C dX3_give_10 rfl ?_
  refine gf_Out_out C tw_155 dX3_give_11 ?_
  refine g_iload_n C dX3_give_14 rfl ?_
  refine g_iload_n C dX3_give_15 rfl ?_
  refine gc_Row_add C (by decide) tw_609 (Nat.le_of_ble_eq_true rfl) rfl dX3_give_16 (r := 12) (L := L) (by omega) k m hs (hL.1.keep (by rw [zu_o _ _ _ _ (by omega)]) (by rw [zu_o _ _ _ _ (by omega)]) (by rw [zu_o _ _ _ _ (by omega)])) (fun N ⟨hN, hF⟩ => ?_)
  refine g_vret C hR dX3_give_19 ?_
  refine ⟨rfl, ⟨hN, ?_⟩, fun o h1 h2 h3 h4 => ?_, fun k h => ?_⟩
  · rw [hF 89 (by omega) (by omega) (by omega), zu_s]; simp
  · rw [hF o (by omega) (by omega) (by omega), zu_o _ _ _ _ h4]
  · rw [hF 89 (by omega) (by omega) (by omega), zu_k _ _ _ _ h]
theorem gc_Out_give {X : z_X} {cc : ByteArray} {own : String} {ret : Option FieldType} {dC nC : Nat} {M : zM} {pc : Nat} {lv : List (Option Value)} {st : List Value} (C : Cx cc own ret dC nC X) (hdep : 3 ≤ dC) {idx : Nat} (hl0 : Cond.methodLink own idx yX3_give ∈ tT) (hcat : (st.map fun v => v.category).sum ≤ 8) (hlen : lv.length = nC) (hdec : decode cc pc = .ok (.invokevirtual idx, 3)) {L : List (Int × Int)} (k m : Int) (hs : L.length < 120) (hL : zOut M L) (kk : ∀ M' : zM, (zOut M' (L ++ [(k, m)]) ∧ zFo M M') → G X M' (pc + 3) lv st) : G X M pc lv (.int (jI (m)) :: .int (jI (k)) :: .ref (zA X (89)) :: st) := by
  refine g_callV (k := 2) (o := 89) C (c_Out_give (zL X) k m hs M hL) mfX3_give hl0 ⟨rfl, by decide +kernel, by decide +kernel, by decide +kernel⟩ ⟨hdep, by decide⟩ (by omega) (fun _ _ _ _ => ze_out) rfl rfl rfl rfl hcat hlen hdec (fun v M' h => ?_)
  obtain ⟨rfl, h⟩ := h
  exact kk M' h
set_option maxHeartbeats 4000000 in
set_option maxRecDepth 10000 in
theorem c_Out_givePair (l : Launch) {r q : Nat} (hr : r < 20) (hq : q < 20) {A B L : List (Int × Int)} (i j : Nat) (hi : i < A.length) (hj : j < B.length) (hs : L.length < 120) (hbA : zIn A) (hbB : zIn B) (M : zM) (hA : zRow M r A) (hB : zRow M q B) (hL : zOut M L) : Mt l 3 yX3_givePair cX3_givePair 5 none (fun ad => [.ref (ad (89)), .ref (ad (3 * r)), .int (jI ((i : Int))), .ref (ad (3 * q)), .int (jI ((j : Int)))]) M (fun _ vv M' => vv = none ∧ (zOut M' (L ++ [(kA A i, pMk (mA A i) (mA B j))]) ∧ zFo M M')) := by
  refine Mt.of (fun ad => [some (.ref (ad (89))), some (.ref (ad (3 * r))), some (.int (jI ((i : Int)))), some (.ref (ad (3 * q))), some (.int (jI ((j : Int))))]) (by decide +kernel) (fun _ => rfl) (fun _ => rfl) (fun _ => Nat.le_of_ble_eq_true rfl) fun X hX C hR => ?_
  subst hX
  show G X M 0 [some (.ref ((zA X) (89))), some (.ref ((zA X) (3 * r))), some (.int (jI ((i : Int)))), some (.ref ((zA X) (3 * q))), some (.int (jI ((j : Int))))] []
  refine g_aload_n C dX3_givePair_0 rfl ?_
  refine g_aload_n C dX3_givePair_1 rfl ?_
  refine g_iload_n C dX3_givePair_2 rfl ?_
  refine gc_Row_keyAt C (by decide) tw_740 (Nat.le_of_ble_eq_true rfl) rfl dX3_givePair_3 hr i hi hA (?_)
  refine g_bipush C dX3_givePair_6 rfl ?_
  refine g_aload_n C dX3_givePair_8 rfl ?_
  show G X _ 9 _ _
  refine g_iload_n C dX3_givePair_9 rfl ?_
  refine gc_Row_markAt C (by decide) tw_741 (Nat.le_of_ble_eq_true rfl) rfl dX3_givePair_10 hr i hi hA (?_)
  refine g_imul C dX3_givePair_13 ?_
  refine g_aload_n C dX3_givePair_14 rfl ?_
  refine g_iload C dX3_givePair_15 rfl ?_
  refine gc_Row_markAt C (by decide) tw_741 (Nat.le_of_ble_eq_true rfl) rfl dX3_givePair_17 hq j hj hB (?_)
  show G X _ 20 _ _
  refine g_iadd C dX3_givePair_20 ?_
  refine g_sipush C dX3_givePair_21 rfl ?_
  have b1 := hbA.at i
  have b2 := hbB.at j
  refine g_irem C dX3_givePair_24 (by omega) (by omega) ?_
  refine gc_Out_give C (by decide) tw_742 (Nat.le_of_ble_eq_true rfl) rfl dX3_givePair_25 _ _ hs hL (fun N ⟨hN, hF⟩ => ?_)
  refine g_vret C hR dX3_givePair_28 ?_
  exact ⟨rfl, hN, hF⟩
theorem gc_Out_givePair {X : z_X} {cc : ByteArray} {own : String} {ret : Option FieldType} {dC nC : Nat} {M : zM} {pc : Nat} {lv : List (Option Value)} {st : List Value} (C : Cx cc own ret dC nC X) (hdep : 4 ≤ dC) {idx : Nat} (hl0 : Cond.methodLink own idx yX3_givePair ∈ tT) (hcat : (st.map fun v => v.category).sum ≤ 8) (hlen : lv.length = nC) (hdec : decode cc pc = .ok (.invokevirtual idx, 3)) {r q : Nat} (hr : r < 20) (hq : q < 20) {A B L : List (Int × Int)} (i j : Nat) (hi : i < A.length) (hj : j < B.length) (hs : L.length < 120) (hbA : zIn A) (hbB : zIn B) (hA : zRow M r A) (hB : zRow M q B) (hL : zOut M L) (kk : ∀ M' : zM, (zOut M' (L ++ [(kA A i, pMk (mA A i) (mA B j))]) ∧ zFo M M') → G X M' (pc + 3) lv st) : G X M pc lv (.int (jI ((j : Int))) :: .ref (zA X (3 * q)) :: .int (jI ((i : Int))) :: .ref (zA X (3 * r)) :: .ref (zA X (89)) :: st) := by
  refine g_callV (k := 4) (o := 89) C (c_Out_givePair (zL X) hr hq i j hi hj hs hbA hbB M hA hB hL) mfX3_givePair hl0 ⟨rfl, by decide +kernel, by decide +kernel, by decide +kernel⟩ ⟨hdep, by decide⟩ (by omega) (fun _ _ _ _ => ze_out) rfl rfl rfl rfl hcat hlen hdec (fun v M' h => ?_)
  obtain ⟨rfl, h⟩ := h
  exact kk M' h
set_option maxHeartbeats 4000000 in
set_option maxRecDepth 10000 in
theorem c_Spl_fill (l : Launch) {r q : Nat} (hr : r < 20) (hq : q < 20) (hqr : q ≠ r) {L : List (Int × Int)} (f d : Nat) (num : Int) (hf : 2 ≤ f ∧ f ≤ 11) (hd : d < 3) (hnum : 0 ≤ num ∧ num ≤ 20) (hb : zIn L) (M : zM) (hm : M 90 1 = (f : Int) + 1) (hL : zRow M q L) : Mt l 2 yX6_fill cX6_fill 9 none (fun ad => [.ref (ad (90)), .ref (ad (3 * r)), .ref (ad (3 * q)), .int (jI ((d : Int))), .int (jI (num))]) M (fun _ vv M' => vv = none ∧ (zRow M' r (spL (f : Int) d num L) ∧ zFr M M' r)) := by
  refine Mt.of (fun ad => [some (.ref (ad (90))), some (.ref (ad (3 * r))), some (.ref (ad (3 * q))), some (.int (jI ((d : Int)))), some (.int (jI (num))), none, none, none, none]) (by decide +kernel) (fun _ => rfl) (fun _ => rfl) (fun _ => Nat.le_of_ble_eq_true rfl) fun X hX C hR => ?_
  subst hX
  show G X M 0 [some (.ref ((zA X) (90))), some (.ref ((zA X) (3 * r))), some (.ref ((zA X) (3 * q))), some (.int (jI ((d : Int)))), some (.int (jI (num))), none, none, none, none] []
  have hc2 := hL.2.1
  have hpw : 0 < (f : Int) ^ d ∧ (f : Int) ^ d ≤ 1331 := by
    rcases (show f = 2 ∨ f = 3 ∨ f = 4 ∨ f = 5 ∨ f = 6 ∨ f = 7 ∨ f = 8 ∨ f = 9 ∨ f = 10 ∨ f = 11 by omega) with rfl | rfl | rfl | rfl | rfl | rfl | rfl | rfl | rfl | rfl <;> rcases (show d = 0 ∨ d = 1 ∨ d = 2 by omega) with rfl | rfl | rfl <;> decide
  have lp2 : ∀ (fk : Nat) (i : Nat) (N : zM), 130 - i < fk → i ≤ L.length → zRow N r (spL (f : Int) d num (L.take i)) → zFr M N r → G X N 50 [some (.ref (zA X 90)), some (.ref (zA X (3 * r))), some (.ref (zA X (3 * q))), some (.int (jI (d : Int))), some (.int (jI num)), some (.int (jI (f : Int))), some (.int (jI ((f : Int) ^ d))), some (.int (jI (i : Int))), none] [] := by
    intro fk
    induction fk with
    | zero => intro i N hk; exact absurd hk (Nat.not_lt_zero _)
    | succ fk ih =>
      intro i N hk hi hN hF
      have hQ := hL.apart hF hqr
      have b1 := hb.at i
      refine g_iload C dX6_fill_50 rfl ?_
      refine g_aload_n C dX6_fill_52 rfl ?_
      refine gc_Row_count C (by decide) tw_774 (Nat.le_of_ble_eq_true rfl) rfl dX6_fill_53 hq hQ (?_)
      refine g_icmp_ge (tgt := 101) C dX6_fill_56 rfl (by omega) (by omega) (fun h56 => ?_) (fun h56 => ?_)
      · refine g_vret C hR dX6_fill_101 ?_
        refine ⟨rfl, ?_, hF⟩
        rw [show i = L.length by omega, List.take_length] at hN
        exact hN
      · refine g_aload_n C dX6_fill_59 rfl ?_
        refine g_iload C dX6_fill_60 rfl ?_
        refine gc_Row_keyAt C (by decide) tw_775 (Nat.le_of_ble_eq_true rfl) rfl dX6_fill_62 hq i (by omega) hQ (?_)
        refine g_istore C dX6_fill_65 (Nat.le_of_ble_eq_true rfl) ?_
        show G X _ 67 [_, _, _, _, _, _, _, _, _] _
        refine g_iload C dX6_fill_67 rfl ?_
        refine gc_abs C (by decide) tw_776 (Nat.le_of_ble_eq_true rfl) rfl dX6_fill_69 _ (by omega) (?_)
        generalize ha : (if kA L i < 0 then -kA L i else kA L i) = a
        have ha2 : 0 ≤ a ∧ a ≤ 999 := by rw [← ha]; by_cases z : kA L i < 0 <;> simp [z] <;> omega
        refine g_iload C dX6_fill_72 rfl ?_
        refine g_idiv C dX6_fill_74 (by omega) (by omega) ?_
        generalize hw : a / (f : Int) ^ d = w
        have hw2 : 0 ≤ w ∧ w ≤ 999 := by
          rw [← hw]
          exact ⟨Int.ediv_nonneg (by omega) (by omega), Int.le_trans (Int.ediv_le_self _ (by omega)) (by omega)⟩
        refine g_iload C dX6_fill_75 rfl ?_
        refine g_irem C dX6_fill_77 (by omega) (by omega) ?_
        show G X _ 78 _ _
        have hx1 := Int.emod_nonneg w (show (f : Int) ≠ 0 by omega)
        have hx2 := Int.emod_lt_of_pos w (show 0 < (f : Int) by omega)
        have hsp : spN (f : Int) d (kA L i) = w % (f : Int) := by unfold spN; rw [ha, hw]
        refine g_iload C dX6_fill_78 rfl ?_
        refine g_icmp_ne (tgt := 95) C dX6_fill_80 rfl (by omega) (by omega) (fun h80 => ?_) (fun h80 => ?_)
        · refine g_iinc C dX6_fill_95 rfl ?_
          show G X _ 98 [_, _, _, _, _, _, _, _, _] _
          refine g_goto (tgt := 50) C dX6_fill_98 rfl ?_
          show G X _ 50 _ _
          refine g_mask [true, true, true, true, true, true, true, true, false] rfl ?_
          show G X _ 50 [_, _, _, _, _, _, _, _, _] _
          exact ih (i + 1) _ (by omega) (by omega) (by rw [spL_take (by omega), if_neg (by rw [hsp]; assumption), List.append_nil]; exact hN) hF
        · refine g_aload_n C dX6_fill_83 rfl ?_
          refine g_iload C dX6_fill_84 rfl ?_
          refine g_aload_n C dX6_fill_86 rfl ?_
          refine g_iload C dX6_fill_87 rfl ?_
          refine gc_Row_markAt C (by decide) tw_779 (Nat.le_of_ble_eq_true rfl) rfl dX6_fill_89 hq i (by omega) hQ (?_)
          refine gc_Row_add C (by decide) tw_780 (Nat.le_of_ble_eq_true rfl) rfl dX6_fill_92 hr _ _ (Nat.lt_of_le_of_lt spL_len (by rw [List.length_take]; omega)) hN (fun N2 ⟨hN2, hF2⟩ => ?_)
          show G X _ 95 _ _
          refine g_iinc C dX6_fill_95 rfl ?_
          show G X _ 98 [_, _, _, _, _, _, _, _, _] _
          refine g_goto (tgt := 50) C dX6_fill_98 rfl ?_
          show G X _ 50 _ _
          refine g_mask [true, true, true, true, true, true, true, true, false] rfl ?_
          show G X _ 50 [_, _, _, _, _, _, _, _, _] _
          exact ih (i + 1) _ (by omega) (by omega) (by rw [spL_take (by omega), if_pos (by rw [hsp]; assumption)]; exact hN2) (hF.trans hF2)
  have hb43 : ∀ z : Option Value, G X M 43 [some (.ref (zA X 90)), some (.ref (zA X (3 * r))), some (.ref (zA X (3 * q))), some (.int (jI (d : Int))), some (.int (jI num)), some (.int (jI (f : Int))), some (.int (jI ((f : Int) ^ d))), z, none] [] := by
    intro z
    refine g_aload_n C dX6_fill_43 rfl ?_
    refine gc_Row_empty C (by decide) tw_773 (Nat.le_of_ble_eq_true rfl) rfl dX6_fill_44 hr (fun N ⟨hN, hF⟩ => ?_)
    refine g_iconst C dX6_fill_47 ?_
    refine g_istore C dX6_fill_48 (Nat.le_of_ble_eq_true rfl) ?_
    show G X _ 50 [_, _, _, _, _, _, _, _, _] _
    exact lp2 200 0 N (by omega) (by omega) hN hF
  have lp1 : ∀ (fk : Nat) (e : Nat), 10 - e < fk → e ≤ d → G X M 18 [some (.ref (zA X 90)), some (.ref (zA X (3 * r))), some (.ref (zA X (3 * q))), some (.int (jI (d : Int))), some (.int (jI num)), some (.int (jI (f : Int))), some (.int (jI ((f : Int) ^ e))), some (.int (jI (e : Int))), none] [] := by
    intro fk
    induction fk with
    | zero => intro e hk; exact absurd hk (Nat.not_lt_zero _)
    | succ fk ih =>
      intro e hk he
      refine g_iload C dX6_fill_18 rfl ?_
      refine g_iload_n C dX6_fill_20 rfl ?_
      refine g_icmp_ge (tgt := 43) C dX6_fill_21 rfl (by omega) (by omega) (fun h21 => ?_) (fun h21 => ?_)
      · obtain rfl : e = d := by omega
        exact hb43 _
      · refine g_iload C dX6_fill_24 rfl ?_
        refine g_iconst C dX6_fill_26 ?_
        refine g_icmp_ge (tgt := 43) C dX6_fill_27 rfl (by omega) (by omega) (fun h27 => ?_) (fun h27 => ?_)
        · omega
        · refine g_iload C dX6_fill_30 rfl ?_
          refine g_iload C dX6_fill_32 rfl ?_
          refine g_imul C dX6_fill_34 ?_
          refine g_istore C dX6_fill_35 (Nat.le_of_ble_eq_true rfl) ?_
          show G X _ 37 [_, _, _, _, _, _, _, _, _] _
          refine g_iinc C dX6_fill_37 rfl ?_
          show G X _ 40 [_, _, _, _, _, _, _, _, _] _
          refine g_goto (tgt := 18) C dX6_fill_40 rfl ?_
          show G X _ 18 _ _
          rw [show (f : Int) ^ e * (f : Int) = (f : Int) ^ (e + 1) from (Int.pow_succ _ _).symm]
          exact ih (e + 1) (by omega) (by omega)
  refine g_iconst C dX6_fill_0 ?_
  refine g_aload_n C dX6_fill_1 rfl ?_
  refine gf_Spl_memory C tw_186 dX6_fill_2 ?_
  rw [hm]
  refine g_iconst C dX6_fill_5 ?_
  refine g_isub C dX6_fill_6 ?_
  refine gc_max C (by decide) tw_772 (Nat.le_of_ble_eq_true rfl) rfl dX6_fill_7 _ _ (by omega) (by omega) (?_)
  rw [show (if (f : Int) + 1 - 1 ≤ 2 then (2 : Int) else (f : Int) + 1 - 1) = (f : Int) by by_cases z : (f : Int) + 1 - 1 ≤ 2 <;> simp [z] <;> omega]
  show G X _ 10 _ _
  refine g_istore C dX6_fill_10 (Nat.le_of_ble_eq_true rfl) ?_
  show G X _ 12 [_, _, _, _, _, _, _, _, _] _
  refine g_iconst C dX6_fill_12 ?_
  refine g_istore C dX6_fill_13 (Nat.le_of_ble_eq_true rfl) ?_
  show G X _ 15 [_, _, _, _, _, _, _, _, _] _
  refine g_iconst C dX6_fill_15 ?_
  refine g_istore C dX6_fill_16 (Nat.le_of_ble_eq_true rfl) ?_
  show G X _ 18 [_, _, _, _, _, _, _, _, _] _
  exact lp1 20 0 (by omega) (Nat.zero_le _)
theorem gc_Spl_fill {X : z_X} {cc : ByteArray} {own : String} {ret : Option FieldType} {dC nC : Nat} {M : zM} {pc : Nat} {lv : List (Option Value)} {st : List Value} (C : Cx cc own ret dC nC X) (hdep : 3 ≤ dC) {idx : Nat} (hl0 : Cond.methodLink own idx yX6_fill ∈ tT) (hcat : (st.map fun v => v.category).sum ≤ 8) (hlen : lv.length = nC) (hdec : decode cc pc = .ok (.invokevirtual idx, 3)) {r q : Nat} (hr : r < 20) (hq : q < 20) (hqr : q ≠ r) {L : List (Int × Int)} (f d : Nat) (num : Int) (hf : 2 ≤ f ∧ f ≤ 11) (hd : d < 3) (hnum : 0 ≤ num ∧ num ≤ 20) (hb : zIn L) (hm : M 90 1 = (f : Int) + 1) (hL : zRow M q L) (kk : ∀ M' : zM, (zRow M' r (spL (f : Int) d num L) ∧ zFr M M' r) → G X M' (pc + 3) lv st) : G X M pc lv (.int (jI (num)) :: .int (jI ((d : Int))) :: .ref (zA X (3 * q)) :: .ref (zA X (3 * r)) :: .ref (zA X (90)) :: st) := by
  refine g_callV (k := 4) (o := 90) C (c_Spl_fill (zL X) hr hq hqr f d num hf hd hnum hb M hm hL) mfX6_fill hl0 ⟨rfl, by decide +kernel, by decide +kernel, by decide +kernel⟩ ⟨hdep, by decide⟩ (by omega) (fun _ _ _ _ => ze_spl) rfl rfl rfl rfl hcat hlen hdec (fun v M' h => ?_)
  obtain ⟨rfl, h⟩ := h
  exact kk M' h
set_option maxHeartbeats 4000000 in
set_option maxRecDepth 10000 in
theorem c_Spl_fillOne (l : Launch) {q : Nat} (hq : q < 20) {L : List (Int × Int)} (f d : Nat) (num : Int) (hf : 2 ≤ f ∧ f ≤ 11) (hd : d < 3) (hqr : q ≠ 13 + d) (hnum : 0 ≤ num ∧ num ≤ 20) (hb : zIn L) (M : zM) (hm : M 90 1 = (f : Int) + 1) (hL : zRow M q L) : Mt l 3 yX6_fillOne cX6_fillOne 5 (some (.object "MoraineSort$Row")) (fun ad => [.ref (ad (90)), .ref (ad (3 * q)), .int (jI ((d : Int))), .int (jI (num))]) M (fun ad vv M' => vv = some (.ref (ad (3 * (13 + d)))) ∧ (zRow M' (13 + d) (spL (f : Int) d num L) ∧ zFr M M' (13 + d))) := by
  refine Mt.of (fun ad => [some (.ref (ad (90))), some (.ref (ad (3 * q))), some (.int (jI ((d : Int)))), some (.int (jI (num))), none]) (by decide +kernel) (fun _ => rfl) (fun _ => rfl) (fun _ => Nat.le_of_ble_eq_true rfl) fun X hX C hR => ?_
  subst hX
  show G X M 0 [some (.ref ((zA X) (90))), some (.ref ((zA X) (3 * q))), some (.int (jI ((d : Int)))), some (.int (jI (num))), none] []
  refine g_iload_n C dX6_fillOne_0 rfl ?_
  refine g_if_lt (tgt := 22) C dX6_fillOne_1 rfl (by omega) (fun h1 => ?_) (fun h1 => ?_)
  · omega
  · refine g_iload_n C dX6_fillOne_4 rfl ?_
    refine g_aload_n C dX6_fillOne_5 rfl ?_
    refine gf_Spl_ones C tw_188 dX6_fillOne_6 ?_
    refine gl_ones C dX6_fillOne_9 ?_
    refine g_icmp_ge (tgt := 22) C dX6_fillOne_10 rfl (by omega) (by omega) (fun h10 => ?_) (fun h10 => ?_)
    · omega
    · refine g_aload_n C dX6_fillOne_13 rfl ?_
      refine gf_Spl_ones C tw_188 dX6_fillOne_14 ?_
      refine g_iload_n C dX6_fillOne_17 rfl ?_
      refine ga_ones C _ (by omega) rfl dX6_fillOne_18 ?_
      refine g_goto (tgt := 26) C dX6_fillOne_19 rfl ?_
      show G X _ 26 _ _
      refine g_astore C dX6_fillOne_26 (Nat.le_of_ble_eq_true rfl) ?_
      show G X _ 28 [_, _, _, _, _] _
      refine g_aload_n C dX6_fillOne_28 rfl ?_
      refine g_aload C dX6_fillOne_29 rfl ?_
      refine g_aload_n C dX6_fillOne_31 rfl ?_
      refine g_iload_n C dX6_fillOne_32 rfl ?_
      refine g_iload_n C dX6_fillOne_33 rfl ?_
      refine gc_Spl_fill C (by decide) tw_768 (Nat.le_of_ble_eq_true rfl) rfl dX6_fillOne_34 (r := 13 + d) (by omega) hq hqr f d num hf hd hnum hb hm hL (fun N ⟨hN, hF⟩ => ?_)
      show G X _ 37 _ _
      refine g_aload C dX6_fillOne_37 rfl ?_
      refine g_aret C hR dX6_fillOne_39 ?_
      exact ⟨rfl, hN, hF⟩
theorem gc_Spl_fillOne {X : z_X} {cc : ByteArray} {own : String} {ret : Option FieldType} {dC nC : Nat} {M : zM} {pc : Nat} {lv : List (Option Value)} {st : List Value} (C : Cx cc own ret dC nC X) (hdep : 4 ≤ dC) {idx : Nat} (hl0 : Cond.methodLink own idx yX6_fillOne ∈ tT) (hcat : (st.map fun v => v.category).sum ≤ 8) (hlen : lv.length = nC) (hdec : decode cc pc = .ok (.invokevirtual idx, 3)) {q : Nat} (hq : q < 20) {L : List (Int × Int)} (f d : Nat) (num : Int) (hf : 2 ≤ f ∧ f ≤ 11) (hd : d < 3) (hqr : q ≠ 13 + d) (hnum : 0 ≤ num ∧ num ≤ 20) (hb : zIn L) (hm : M 90 1 = (f : Int) + 1) (hL : zRow M q L) (kk : ∀ M' : zM, (zRow M' (13 + d) (spL (f : Int) d num L) ∧ zFr M M' (13 + d)) → G X M' (pc + 3) lv (.ref (zA X (3 * (13 + d))) :: st)) : G X M pc lv (.int (jI (num)) :: .int (jI ((d : Int))) :: .ref (zA X (3 * q)) :: .ref (zA X (90)) :: st) := by
  refine g_callV (k := 3) (o := 90) C (c_Spl_fillOne (zL X) hq f d num hf hd hqr hnum hb M hm hL) mfX6_fillOne hl0 ⟨rfl, by decide +kernel, by decide +kernel, by decide +kernel⟩ ⟨hdep, by decide⟩ (by omega) (fun _ _ _ _ => ze_spl) rfl rfl rfl rfl hcat hlen hdec (fun v M' h => ?_)
  obtain ⟨rfl, h⟩ := h
  exact kk M' h
set_option maxHeartbeats 4000000 in
set_option maxRecDepth 10000 in
theorem c_Spl_fillOther (l : Launch) {q : Nat} (hq : q < 20) {L : List (Int × Int)} (f d : Nat) (num : Int) (hf : 2 ≤ f ∧ f ≤ 11) (hd : d < 3) (hqr : q ≠ 16 + d) (hnum : 0 ≤ num ∧ num ≤ 20) (hb : zIn L) (M : zM) (hm : M 90 1 = (f : Int) + 1) (hL : zRow M q L) : Mt l 3 yX6_fillOther cX6_fillOther 5 (some (.object "MoraineSort$Row")) (fun ad => [.ref (ad (90)), .ref (ad (3 * q)), .int (jI ((d : Int))), .int (jI (num))]) M (fun ad vv M' => vv = some (.ref (ad (3 * (16 + d)))) ∧ (zRow M' (16 + d) (spL (f : Int) d num L) ∧ zFr M M' (16 + d))) := by
  refine Mt.of (fun ad => [some (.ref (ad (90))), some (.ref (ad (3 * q))), some (.int (jI ((d : Int)))), some (.int (jI (num))), none]) (by decide +kernel) (fun _ => rfl) (fun _ => rfl) (fun _ => Nat.le_of_ble_eq_true rfl) fun X hX C hR => ?_
  subst hX
  show G X M 0 [some (.ref ((zA X) (90))), some (.ref ((zA X) (3 * q))), some (.int (jI ((d : Int)))), some (.int (jI (num))), none] []
  refine g_iload_n C dX6_fillOther_0 rfl ?_
  refine g_if_lt (tgt := 22) C dX6_fillOther_1 rfl (by omega) (fun h1 => ?_) (fun h1 => ?_)
  · omega
  · refine g_iload_n C dX6_fillOther_4 rfl ?_
    refine g_aload_n C dX6_fillOther_5 rfl ?_
    refine gf_Spl_others C tw_189 dX6_fillOther_6 ?_
    refine gl_others C dX6_fillOther_9 ?_
    refine g_icmp_ge (tgt := 22) C dX6_fillOther_10 rfl (by omega) (by omega) (fun h10 => ?_) (fun h10 => ?_)
    · omega
    · refine g_aload_n C dX6_fillOther_13 rfl ?_
      refine gf_Spl_others C tw_189 dX6_fillOther_14 ?_
      refine g_iload_n C dX6_fillOther_17 rfl ?_
      refine ga_others C _ (by omega) rfl dX6_fillOther_18 ?_
      refine g_goto (tgt := 26) C dX6_fillOther_19 rfl ?_
      show G X _ 26 _ _
      refine g_astore C dX6_fillOther_26 (Nat.le_of_ble_eq_true rfl) ?_
      show G X _ 28 [_, _, _, _, _] _
      refine g_aload_n C dX6_fillOther_28 rfl ?_
      refine g_aload C dX6_fillOther_29 rfl ?_
      refine g_aload_n C dX6_fillOther_31 rfl ?_
      refine g_iload_n C dX6_fillOther_32 rfl ?_
      refine g_iload_n C dX6_fillOther_33 rfl ?_
      refine gc_Spl_fill C (by decide) tw_768 (Nat.le_of_ble_eq_true rfl) rfl dX6_fillOther_34 (r := 16 + d) (by omega) hq hqr f d num hf hd hnum hb hm hL (fun N ⟨hN, hF⟩ => ?_)
      show G X _ 37 _ _
      refine g_aload C dX6_fillOther_37 rfl ?_
      refine g_aret C hR dX6_fillOther_39 ?_
      exact ⟨rfl, hN, hF⟩
theorem gc_Spl_fillOther {X : z_X} {cc : ByteArray} {own : String} {ret : Option FieldType} {dC nC : Nat} {M : zM} {pc : Nat} {lv : List (Option Value)} {st : List Value} (C : Cx cc own ret dC nC X) (hdep : 4 ≤ dC) {idx : Nat} (hl0 : Cond.methodLink own idx yX6_fillOther ∈ tT) (hcat : (st.map fun v => v.category).sum ≤ 8) (hlen : lv.length = nC) (hdec : decode cc pc = .ok (.invokevirtual idx, 3)) {q : Nat} (hq : q < 20) {L : List (Int × Int)} (f d : Nat) (num : Int) (hf : 2 ≤ f ∧ f ≤ 11) (hd : d < 3) (hqr : q ≠ 16 + d) (hnum : 0 ≤ num ∧ num ≤ 20) (hb : zIn L) (hm : M 90 1 = (f : Int) + 1) (hL : zRow M q L) (kk : ∀ M' : zM, (zRow M' (16 + d) (spL (f : Int) d num L) ∧ zFr M M' (16 + d)) → G X M' (pc + 3) lv (.ref (zA X (3 * (16 + d))) :: st)) : G X M pc lv (.int (jI (num)) :: .int (jI ((d : Int))) :: .ref (zA X (3 * q)) :: .ref (zA X (90)) :: st) := by
  refine g_callV (k := 3) (o := 90) C (c_Spl_fillOther (zL X) hq f d num hf hd hqr hnum hb M hm hL) mfX6_fillOther hl0 ⟨rfl, by decide +kernel, by decide +kernel, by decide +kernel⟩ ⟨hdep, by decide⟩ (by omega) (fun _ _ _ _ => ze_spl) rfl rfl rfl rfl hcat hlen hdec (fun v M' h => ?_)
  obtain ⟨rfl, h⟩ := h
  exact kk M' h
