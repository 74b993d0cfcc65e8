/-! the tournament's methods -/
theorem zTo.same {M M' : zM} {F : Nat → List (Int × Int)} {P : Nat → Nat} (h : zTo M F P) (h1 : M' 84 1 = M 84 1) (h5 : M' 84 5 = M 84 5) (hf : ∀ o, o ≠ 84 → o ≠ 87 → M' o = M o) : zTo M' F P :=
  ⟨h1.trans h.1, h5.trans h.2.1, fun i hi => by
    obtain ⟨a, b, c, d, e⟩ := h.2.2 i hi
    exact ⟨by rw [hf 85 (by omega) (by omega)]; exact a, by rw [hf 86 (by omega) (by omega)]; exact b, c, d.same (fun o _ _ => hf o (by omega) (by omega)), e⟩⟩
theorem zTo.same2 {M M' : zM} {F : Nat → List (Int × Int)} {P : Nat → Nat} (h : zTo M F P) (h1 : M' 84 = M 84) (hf : ∀ o, o ≠ 84 → o ≠ 88 → M' o = M o) : zTo M' F P :=
  ⟨by rw [h1]; exact h.1, by rw [h1]; exact h.2.1, fun i hi => by
    obtain ⟨a, b, c, d, e⟩ := h.2.2 i hi
    exact ⟨by rw [hf 85 (by omega) (by omega)]; exact a, by rw [hf 86 (by omega) (by omega)]; exact b, c, d.same (fun o _ _ => hf o (by omega) (by omega)), e⟩⟩
theorem zTo.same3 {M M' : zM} {F : Nat → List (Int × Int)} {P : Nat → Nat} (h : zTo M F P) (h1 : M' 84 1 = M 84 1) (h5 : M' 84 5 = M 84 5) (hf : ∀ o, o ≠ 84 → o ≠ 87 → o ≠ 88 → M' o = M o) : zTo M' F P :=
  ⟨h1.trans h.1, h5.trans h.2.1, fun i hi => by
    obtain ⟨a, b, c, d, e⟩ := h.2.2 i hi
    exact ⟨by rw [hf 85 (by omega) (by omega) (by omega)]; exact a, by rw [hf 86 (by omega) (by omega) (by omega)]; exact b, c, d.same (fun o _ _ => hf o (by omega) (by omega) (by omega)), e⟩⟩
set_option maxHeartbeats 4000000 in
set_option maxRecDepth 10000 in
theorem c_isOver (l : Launch) {F : Nat → List (Int × Int)} {P : Nat → Nat} (i : Nat) (hi : i < 8) (M : zM) (h : zTo M F P) : Mt l 2 yX7_isOver cX7_isOver 2 (some .boolean) (fun ad => [.ref (ad (84)), .int (jI ((i : Int)))]) M (fun _ vv M' => vv = some (.int (jI ((if i < 5 ∧ P i < (F i).length then 0 else 1)))) ∧ M' = M) := by
  refine Mt.of (fun ad => [some (.ref (ad (84))), some (.int (jI ((i : Int))))]) (by decide +kernel) (fun _ => rfl) (fun _ => rfl) (fun _ => Nat.le_of_ble_eq_true rfl) fun X hX C hR => ?_
  subst hX
  show G X M 0 [some (.ref ((zA X) (84))), some (.int (jI ((i : Int))))] []
  refine g_iload_n C dX7_isOver_0 rfl ?_
  refine g_if_lt (tgt := 39) C dX7_isOver_1 rfl (by omega) (fun h1 => ?_) (fun h1 => ?_)
  · omega
  · refine g_iload_n C dX7_isOver_4 rfl ?_
    refine g_aload_n C dX7_isOver_5 rfl ?_
    refine gf_Tour_rowCount C tw_107 dX7_isOver_6 ?_
    rw [h.2.1]
    refine g_icmp_ge (tgt := 39) C dX7_isOver_9 rfl (by omega) (by omega) (fun h9 => ?_) (fun h9 => ?_)
    · refine g_iconst C dX7_isOver_39 ?_
      refine g_goto (tgt := 44) C dX7_isOver_40 rfl ?_
      show G X _ 44 _ _
      refine g_zret C hR (by omega) dX7_isOver_44 ?_
      exact ⟨by rw [if_neg (by omega)], rfl⟩
    · have hi5 : i < 5 := by omega
      obtain ⟨a1, a2, a3, a4, a5⟩ := h.2.2 i hi5
      have a6 := a4.2.1
      refine g_aload_n C dX7_isOver_12 rfl ?_
      refine gf_Tour_rows C tw_108 dX7_isOver_13 ?_
      refine g_iload_n C dX7_isOver_16 rfl ?_
      refine ga_trows C _ (2 + i) a1 (by omega) rfl dX7_isOver_17 ?_
      refine g_ifnull C dX7_isOver_18 ?_
      refine g_aload_n C dX7_isOver_21 rfl ?_
      show G X _ 22 _ _
      refine gf_Tour_places C tw_109 dX7_isOver_22 ?_
      refine g_iload_n C dX7_isOver_25 rfl ?_
      refine ga_places C _ (by omega) rfl dX7_isOver_26 ?_
      rw [a2]
      refine g_aload_n C dX7_isOver_27 rfl ?_
      refine gf_Tour_rows C tw_108 dX7_isOver_28 ?_
      refine g_iload_n C dX7_isOver_31 rfl ?_
      show G X _ 32 _ _
      refine ga_trows C _ (2 + i) a1 (by omega) rfl dX7_isOver_32 ?_
      refine gc_Row_count C (by decide) tw_679 (Nat.le_of_ble_eq_true rfl) rfl dX7_isOver_33 (by omega) a4 (?_)
      refine g_icmp_lt (tgt := 43) C dX7_isOver_36 rfl (by omega) (by omega) (fun h36 => ?_) (fun h36 => ?_)
      · refine g_iconst C dX7_isOver_43 ?_
        refine g_zret C hR (by omega) dX7_isOver_44 ?_
        exact ⟨by rw [if_pos (by omega)], rfl⟩
      · refine g_iconst C dX7_isOver_39 ?_
        refine g_goto (tgt := 44) C dX7_isOver_40 rfl ?_
        show G X _ 44 _ _
        refine g_zret C hR (by omega) dX7_isOver_44 ?_
        exact ⟨by rw [if_neg (by omega)], rfl⟩
theorem gc_isOver {X : z_X} {cc : ByteArray} {own : String} {ret : Option FieldType} {dC nC : Nat} {M : zM} {pc : Nat} {lv : List (Option Value)} {st : List Value} (C : Cx cc own ret dC nC X) (hdep : 3 ≤ dC) {idx : Nat} (hl0 : Cond.methodLink own idx yX7_isOver ∈ tT) (hcat : (st.map fun v => v.category).sum ≤ 8) (hlen : lv.length = nC) (hdec : decode cc pc = .ok (.invokevirtual idx, 3)) {F : Nat → List (Int × Int)} {P : Nat → Nat} (i : Nat) (hi : i < 8) (h : zTo M F P) (kk : G X M (pc + 3) lv (.int (jI ((if i < 5 ∧ P i < (F i).length then 0 else 1))) :: st)) : G X M pc lv (.int (jI ((i : Int))) :: .ref (zA X (84)) :: st) := by
  refine g_callV (k := 1) (o := 84) C (c_isOver (zL X) i hi M h) mfX7_isOver hl0 ⟨rfl, by decide +kernel, by decide +kernel, by decide +kernel⟩ ⟨hdep, by decide⟩ (by omega) (fun _ _ _ _ => ze_tour) rfl rfl rfl rfl hcat hlen hdec (fun v M' h => ?_)
  obtain ⟨rfl, rfl⟩ := h
  exact kk
set_option maxHeartbeats 4000000 in
set_option maxRecDepth 10000 in
theorem c_keyOf (l : Launch) {F : Nat → List (Int × Int)} {P : Nat → Nat} (i : Nat) (hi : i < 8) (M : zM) (h : zTo M F P) : Mt l 3 yX7_keyOf cX7_keyOf 2 (some .int) (fun ad => [.ref (ad (84)), .int (jI ((i : Int)))]) M (fun _ vv M' => vv = some (.int (jI (tk F P i))) ∧ M' = M) := by
  refine Mt.of (fun ad => [some (.ref (ad (84))), some (.int (jI ((i : Int))))]) (by decide +kernel) (fun _ => rfl) (fun _ => rfl) (fun _ => Nat.le_of_ble_eq_true rfl) fun X hX C hR => ?_
  subst hX
  show G X M 0 [some (.ref ((zA X) (84))), some (.int (jI ((i : Int))))] []
  refine g_aload_n C dX7_keyOf_0 rfl ?_
  refine g_iload_n C dX7_keyOf_1 rfl ?_
  refine gc_isOver C (by decide) tw_675 (Nat.le_of_ble_eq_true rfl) rfl dX7_keyOf_2 i hi h (?_)
  refine g_if_eq (tgt := 14) C dX7_keyOf_5 rfl (by by_cases q : i < 5 ∧ P i < (F i).length <;> simp [q]) (fun h5 => ?_) (fun h5 => ?_)
  · have hq : i < 5 ∧ P i < (F i).length := by
      by_cases q : i < 5 ∧ P i < (F i).length
      · exact q
      · rw [if_neg q] at h5; omega
    obtain ⟨a1, a2, a3, a4, a5⟩ := h.2.2 i hq.1
    have a6 := a4.2.1
    refine g_aload_n C dX7_keyOf_14 rfl ?_
    refine gf_Tour_rows C tw_108 dX7_keyOf_15 ?_
    refine g_iload_n C dX7_keyOf_18 rfl ?_
    refine ga_trows C _ (2 + i) a1 (by omega) rfl dX7_keyOf_19 ?_
    refine g_aload_n C dX7_keyOf_20 rfl ?_
    refine gf_Tour_places C tw_109 dX7_keyOf_21 ?_
    show G X _ 24 _ _
    refine g_iload_n C dX7_keyOf_24 rfl ?_
    refine ga_places C _ (by omega) rfl dX7_keyOf_25 ?_
    rw [a2]
    refine gc_Row_keyAt C (by decide) tw_684 (Nat.le_of_ble_eq_true rfl) rfl dX7_keyOf_26 (by omega) (P i) hq.2 a4 (?_)
    refine g_iret C hR dX7_keyOf_29 ?_
    exact ⟨by unfold tk; rw [if_pos hq], rfl⟩
  · refine g_sipush C dX7_keyOf_8 rfl ?_
    refine g_goto (tgt := 29) C dX7_keyOf_11 rfl ?_
    show G X _ 29 _ _
    refine g_iret C hR dX7_keyOf_29 ?_
    have hq : ¬ (i < 5 ∧ P i < (F i).length) := by
      intro q
      rw [if_pos q] at h5; omega
    exact ⟨by unfold tk; rw [if_neg hq], rfl⟩
theorem gc_keyOf {X : z_X} {cc : ByteArray} {own : String} {ret : Option FieldType} {dC nC : Nat} {M : zM} {pc : Nat} {lv : List (Option Value)} {st : List Value} (C : Cx cc own ret dC nC X) (hdep : 4 ≤ dC) {idx : Nat} (hl0 : Cond.methodLink own idx yX7_keyOf ∈ tT) (hcat : (st.map fun v => v.category).sum ≤ 8) (hlen : lv.length = nC) (hdec : decode cc pc = .ok (.invokevirtual idx, 3)) {F : Nat → List (Int × Int)} {P : Nat → Nat} (i : Nat) (hi : i < 8) (h : zTo M F P) (kk : G X M (pc + 3) lv (.int (jI (tk F P i)) :: st)) : G X M pc lv (.int (jI ((i : Int))) :: .ref (zA X (84)) :: st) := by
  refine g_callV (k := 1) (o := 84) C (c_keyOf (zL X) i hi M h) mfX7_keyOf hl0 ⟨rfl, by decide +kernel, by decide +kernel, by decide +kernel⟩ ⟨hdep, by decide⟩ (by omega) (fun _ _ _ _ => ze_tour) rfl rfl rfl rfl hcat hlen hdec (fun v M' h => ?_)
  obtain ⟨rfl, rfl⟩ := h
  exact kk
set_option maxHeartbeats 4000000 in
set_option maxRecDepth 10000 in
theorem c_isWinning (l : Launch) {F : Nat → List (Int × Int)} {P : Nat → Nat} (a b : Nat) (ha : a < 8) (hb : b < 8) (hab : a ≠ b) (M : zM) (h : zTo M F P) : Mt l 4 yX7_isWinning cX7_isWinning 3 (some .boolean) (fun ad => [.ref (ad (84)), .int (jI ((a : Int))), .int (jI ((b : Int)))]) M (fun _ vv M' => vv = some (.int (jI (if rk F P a < rk F P b then 1 else 0))) ∧ M' = M) := by
  refine Mt.of (fun ad => [some (.ref (ad (84))), some (.int (jI ((a : Int)))), some (.int (jI ((b : Int))))]) (by decide +kernel) (fun _ => rfl) (fun _ => rfl) (fun _ => Nat.le_of_ble_eq_true rfl) fun X hX C hR => ?_
  subst hX
  show G X M 0 [some (.ref ((zA X) (84))), some (.int (jI ((a : Int)))), some (.int (jI ((b : Int))))] []
  have ka := tk_in (F := F) (P := P) (fun i hi => (h.2.2 i hi).2.2.2.2) a
  have kb := tk_in (F := F) (P := P) (fun i hi => (h.2.2 i hi).2.2.2.2) b
  obtain ⟨ua, hua⟩ : ∃ u : Int, u = (if a < 5 ∧ P a < (F a).length then (0 : Int) else 1) := ⟨_, rfl⟩
  obtain ⟨ub, hub⟩ : ∃ u : Int, u = (if b < 5 ∧ P b < (F b).length then (0 : Int) else 1) := ⟨_, rfl⟩
  have va : (ua = 0 ∧ tk F P a < 1000) ∨ (ua = 1 ∧ tk F P a = 1000) := by
    rw [hua]
    by_cases q : a < 5 ∧ P a < (F a).length
    · rw [if_pos q]; exact Or.inl ⟨rfl, by have := ka.2.2; omega⟩
    · rw [if_neg q]; exact Or.inr ⟨rfl, ka.2.2.mpr q⟩
  have vb : (ub = 0 ∧ tk F P b < 1000) ∨ (ub = 1 ∧ tk F P b = 1000) := by
    rw [hub]
    by_cases q : b < 5 ∧ P b < (F b).length
    · rw [if_pos q]; exact Or.inl ⟨rfl, by have := kb.2.2; omega⟩
    · rw [if_neg q]; exact Or.inr ⟨rfl, kb.2.2.mpr q⟩
  have fin : ∀ x : Int, (x = if rk F P a < rk F P b then 1 else 0) → some (Value.int (jI x)) = some (Value.int (jI (if rk F P a < rk F P b then 1 else 0))) := fun x e => by rw [e]
  refine g_aload_n C dX7_isWinning_0 rfl ?_
  refine g_iload_n C dX7_isWinning_1 rfl ?_
  refine gc_isOver C (by decide) tw_675 (Nat.le_of_ble_eq_true rfl) rfl dX7_isWinning_2 a ha h (?_)
  rw [← hua]
  refine g_aload_n C dX7_isWinning_5 rfl ?_
  refine g_iload_n C dX7_isWinning_6 rfl ?_
  refine gc_isOver C (by decide) tw_675 (Nat.le_of_ble_eq_true rfl) rfl dX7_isWinning_7 b hb h (?_)
  rw [← hub]
  show G X _ 10 _ _
  refine g_icmp_eq (tgt := 19) C dX7_isWinning_10 rfl (by omega) (by omega) (fun h10 => ?_) (fun h10 => ?_)
  · refine g_aload_n C dX7_isWinning_19 rfl ?_
    refine g_iload_n C dX7_isWinning_20 rfl ?_
    refine gc_isOver C (by decide) tw_675 (Nat.le_of_ble_eq_true rfl) rfl dX7_isWinning_21 a ha h (?_)
    rw [← hua]
    refine g_if_ne (tgt := 59) C dX7_isWinning_24 rfl (by omega) (fun h24 => ?_) (fun h24 => ?_)
    · refine g_iload_n C dX7_isWinning_59 rfl ?_
      refine g_iload_n C dX7_isWinning_60 rfl ?_
      refine g_icmp_ge (tgt := 68) C dX7_isWinning_61 rfl (by omega) (by omega) (fun h61 => ?_) (fun h61 => ?_)
      · refine g_iconst C dX7_isWinning_68 ?_
        refine g_zret C hR (by omega) dX7_isWinning_69 ?_
        refine ⟨fin _ ?_, rfl⟩
        unfold rk
        first | rw [if_pos (by omega)] | rw [if_neg (by omega)]
      · refine g_iconst C dX7_isWinning_64 ?_
        refine g_goto (tgt := 69) C dX7_isWinning_65 rfl ?_
        show G X _ 69 _ _
        refine g_zret C hR (by omega) dX7_isWinning_69 ?_
        refine ⟨fin _ ?_, rfl⟩
        unfold rk
        first | rw [if_pos (by omega)] | rw [if_neg (by omega)]
    · refine g_aload_n C dX7_isWinning_27 rfl ?_
      refine g_iload_n C dX7_isWinning_28 rfl ?_
      refine gc_keyOf C (by decide) tw_680 (Nat.le_of_ble_eq_true rfl) rfl dX7_isWinning_29 a ha h (?_)
      refine g_aload_n C dX7_isWinning_32 rfl ?_
      refine g_iload_n C dX7_isWinning_33 rfl ?_
      refine gc_keyOf C (by decide) tw_680 (Nat.le_of_ble_eq_true rfl) rfl dX7_isWinning_34 b hb h (?_)
      show G X _ 37 _ _
      refine g_icmp_eq (tgt := 59) C dX7_isWinning_37 rfl (by omega) (by omega) (fun h37 => ?_) (fun h37 => ?_)
      · refine g_iload_n C dX7_isWinning_59 rfl ?_
        refine g_iload_n C dX7_isWinning_60 rfl ?_
        refine g_icmp_ge (tgt := 68) C dX7_isWinning_61 rfl (by omega) (by omega) (fun h61 => ?_) (fun h61 => ?_)
        · refine g_iconst C dX7_isWinning_68 ?_
          refine g_zret C hR (by omega) dX7_isWinning_69 ?_
          refine ⟨fin _ ?_, rfl⟩
          unfold rk
          first | rw [if_pos (by omega)] | rw [if_neg (by omega)]
        · refine g_iconst C dX7_isWinning_64 ?_
          refine g_goto (tgt := 69) C dX7_isWinning_65 rfl ?_
          show G X _ 69 _ _
          refine g_zret C hR (by omega) dX7_isWinning_69 ?_
          refine ⟨fin _ ?_, rfl⟩
          unfold rk
          first | rw [if_pos (by omega)] | rw [if_neg (by omega)]
      · refine g_aload_n C dX7_isWinning_40 rfl ?_
        refine g_iload_n C dX7_isWinning_41 rfl ?_
        refine gc_keyOf C (by decide) tw_680 (Nat.le_of_ble_eq_true rfl) rfl dX7_isWinning_42 a ha h (?_)
        refine g_aload_n C dX7_isWinning_45 rfl ?_
        refine g_iload_n C dX7_isWinning_46 rfl ?_
        refine gc_keyOf C (by decide) tw_680 (Nat.le_of_ble_eq_true rfl) rfl dX7_isWinning_47 b hb h (?_)
        show G X _ 50 _ _
        refine g_icmp_ge (tgt := 57) C dX7_isWinning_50 rfl (by omega) (by omega) (fun h50 => ?_) (fun h50 => ?_)
        · refine g_iconst C dX7_isWinning_57 ?_
          refine g_zret C hR (by omega) dX7_isWinning_58 ?_
          refine ⟨fin _ ?_, rfl⟩
          unfold rk
          first | rw [if_pos (by omega)] | rw [if_neg (by omega)]
        · refine g_iconst C dX7_isWinning_53 ?_
          refine g_goto (tgt := 58) C dX7_isWinning_54 rfl ?_
          show G X _ 58 _ _
          refine g_zret C hR (by omega) dX7_isWinning_58 ?_
          refine ⟨fin _ ?_, rfl⟩
          unfold rk
          first | rw [if_pos (by omega)] | rw [if_neg (by omega)]
  · refine g_aload_n C dX7_isWinning_13 rfl ?_
    refine g_iload_n C dX7_isWinning_14 rfl ?_
    refine gc_isOver C (by decide) tw_675 (Nat.le_of_ble_eq_true rfl) rfl dX7_isWinning_15 b hb h (?_)
    rw [← hub]
    refine g_zret C hR (by omega) dX7_isWinning_18 ?_
    refine ⟨fin _ ?_, rfl⟩
    unfold rk
    by_cases q : tk F P a * 8 + (a : Int) < tk F P b * 8 + (b : Int)
    · rw [if_pos q]; omega
    · rw [if_neg q]; omega
theorem gc_isWinning {X : z_X} {cc : ByteArray} {own : String} {ret : Option FieldType} {dC nC : Nat} {M : zM} {pc : Nat} {lv : List (Option Value)} {st : List Value} (C : Cx cc own ret dC nC X) (hdep : 5 ≤ dC) {idx : Nat} (hl0 : Cond.methodLink own idx yX7_isWinning ∈ tT) (hcat : (st.map fun v => v.category).sum ≤ 8) (hlen : lv.length = nC) (hdec : decode cc pc = .ok (.invokevirtual idx, 3)) {F : Nat → List (Int × Int)} {P : Nat → Nat} (a b : Nat) (ha : a < 8) (hb : b < 8) (hab : a ≠ b) (h : zTo M F P) (kk : G X M (pc + 3) lv (.int (jI (if rk F P a < rk F P b then 1 else 0)) :: st)) : G X M pc lv (.int (jI ((b : Int))) :: .int (jI ((a : Int))) :: .ref (zA X (84)) :: st) := by
  refine g_callV (k := 2) (o := 84) C (c_isWinning (zL X) a b ha hb hab M h) mfX7_isWinning hl0 ⟨rfl, by decide +kernel, by decide +kernel, by decide +kernel⟩ ⟨hdep, by decide⟩ (by omega) (fun _ _ _ _ => ze_tour) rfl rfl rfl rfl hcat hlen hdec (fun v M' h => ?_)
  obtain ⟨rfl, rfl⟩ := h
  exact kk
set_option maxHeartbeats 4000000 in
set_option maxRecDepth 10000 in
theorem c_hasNode (l : Launch) (n : Nat) (hn : 1 ≤ n ∧ n ≤ 7) (M : zM) (h : M 84 1 = 8) : Mt l 1 yX7_hasNode cX7_hasNode 2 (some .boolean) (fun ad => [.ref (ad (84)), .int (jI ((n : Int)))]) M (fun _ vv M' => vv = some (.int (jI (1))) ∧ M' = M) := by
  refine Mt.of (fun ad => [some (.ref (ad (84))), some (.int (jI ((n : Int))))]) (by decide +kernel) (fun _ => rfl) (fun _ => rfl) (fun _ => Nat.le_of_ble_eq_true rfl) fun X hX C hR => ?_
  subst hX
  show G X M 0 [some (.ref ((zA X) (84))), some (.int (jI ((n : Int))))] []
  refine g_iload_n C dX7_hasNode_0 rfl ?_
  refine g_iconst C dX7_hasNode_1 ?_
  refine g_icmp_lt (tgt := 17) C dX7_hasNode_2 rfl (by omega) (by omega) (fun h2 => ?_) (fun h2 => ?_)
  · omega
  · refine g_iload_n C dX7_hasNode_5 rfl ?_
    refine g_aload_n C dX7_hasNode_6 rfl ?_
    refine gf_Tour_leafCount C tw_101 dX7_hasNode_7 ?_
    rw [h]
    refine g_icmp_ge (tgt := 17) C dX7_hasNode_10 rfl (by omega) (by omega) (fun h10 => ?_) (fun h10 => ?_)
    · omega
    · refine g_iconst C dX7_hasNode_13 ?_
      refine g_goto (tgt := 18) C dX7_hasNode_14 rfl ?_
      show G X _ 18 _ _
      refine g_zret C hR (by omega) dX7_hasNode_18 ?_
      exact ⟨rfl, rfl⟩
theorem gc_hasNode {X : z_X} {cc : ByteArray} {own : String} {ret : Option FieldType} {dC nC : Nat} {M : zM} {pc : Nat} {lv : List (Option Value)} {st : List Value} (C : Cx cc own ret dC nC X) (hdep : 2 ≤ dC) {idx : Nat} (hl0 : Cond.methodLink own idx yX7_hasNode ∈ tT) (hcat : (st.map fun v => v.category).sum ≤ 8) (hlen : lv.length = nC) (hdec : decode cc pc = .ok (.invokevirtual idx, 3)) (n : Nat) (hn : 1 ≤ n ∧ n ≤ 7) (h : M 84 1 = 8) (kk : G X M (pc + 3) lv (.int (jI (1)) :: st)) : G X M pc lv (.int (jI ((n : Int))) :: .ref (zA X (84)) :: st) := by
  refine g_callV (k := 1) (o := 84) C (c_hasNode (zL X) n hn M h) mfX7_hasNode hl0 ⟨rfl, by decide +kernel, by decide +kernel, by decide +kernel⟩ ⟨hdep, by decide⟩ (by omega) (fun _ _ _ _ => ze_tour) rfl rfl rfl rfl hcat hlen hdec (fun v M' h => ?_)
  obtain ⟨rfl, rfl⟩ := h
  exact kk
set_option maxHeartbeats 4000000 in
set_option maxRecDepth 10000 in
theorem c_loserAt (l : Launch) (n : Nat) (hn : 1 ≤ n ∧ n ≤ 7) (M : zM) (h : M 84 1 = 8) : Mt l 2 yX7_loserAt cX7_loserAt 2 (some .int) (fun ad => [.ref (ad (84)), .int (jI ((n : Int)))]) M (fun _ vv M' => vv = some (.int (jI (M 87 n))) ∧ M' = M) := by
  refine Mt.of (fun ad => [some (.ref (ad (84))), some (.int (jI ((n : Int))))]) (by decide +kernel) (fun _ => rfl) (fun _ => rfl) (fun _ => Nat.le_of_ble_eq_true rfl) fun X hX C hR => ?_
  subst hX
  show G X M 0 [some (.ref ((zA X) (84))), some (.int (jI ((n : Int))))] []
  refine g_aload_n C dX7_loserAt_0 rfl ?_
  refine g_iload_n C dX7_loserAt_1 rfl ?_
  refine gc_hasNode C (by decide) tw_685 (Nat.le_of_ble_eq_true rfl) rfl dX7_loserAt_2 n hn h (?_)
  refine g_if_eq (tgt := 17) C dX7_loserAt_5 rfl (by omega) (fun h5 => ?_) (fun h5 => ?_)
  · omega
  · refine g_aload_n C dX7_loserAt_8 rfl ?_
    refine gf_Tour_losers C tw_110 dX7_loserAt_9 ?_
    refine g_iload_n C dX7_loserAt_12 rfl ?_
    refine ga_losers C _ (by omega) rfl dX7_loserAt_13 ?_
    refine g_goto (tgt := 18) C dX7_loserAt_14 rfl ?_
    show G X _ 18 _ _
    refine g_iret C hR dX7_loserAt_18 ?_
    exact ⟨rfl, rfl⟩
theorem gc_loserAt {X : z_X} {cc : ByteArray} {own : String} {ret : Option FieldType} {dC nC : Nat} {M : zM} {pc : Nat} {lv : List (Option Value)} {st : List Value} (C : Cx cc own ret dC nC X) (hdep : 3 ≤ dC) {idx : Nat} (hl0 : Cond.methodLink own idx yX7_loserAt ∈ tT) (hcat : (st.map fun v => v.category).sum ≤ 8) (hlen : lv.length = nC) (hdec : decode cc pc = .ok (.invokevirtual idx, 3)) (n : Nat) (hn : 1 ≤ n ∧ n ≤ 7) (h : M 84 1 = 8) (kk : G X M (pc + 3) lv (.int (jI (M 87 n)) :: st)) : G X M pc lv (.int (jI ((n : Int))) :: .ref (zA X (84)) :: st) := by
  refine g_callV (k := 1) (o := 84) C (c_loserAt (zL X) n hn M h) mfX7_loserAt hl0 ⟨rfl, by decide +kernel, by decide +kernel, by decide +kernel⟩ ⟨hdep, by decide⟩ (by omega) (fun _ _ _ _ => ze_tour) rfl rfl rfl rfl hcat hlen hdec (fun v M' h => ?_)
  obtain ⟨rfl, rfl⟩ := h
  exact kk
set_option maxHeartbeats 4000000 in
set_option maxRecDepth 10000 in
theorem c_playAt (l : Launch) {F : Nat → List (Int × Int)} {P : Nat → Nat} (n a b : Nat) (hn : 1 ≤ n ∧ n ≤ 7) (ha : a < 8) (hb : b < 8) (hab : a ≠ b) (M : zM) (h : zTo M F P) : Mt l 5 yX7_playAt cX7_playAt 5 (some .int) (fun ad => [.ref (ad (84)), .int (jI ((n : Int))), .int (jI ((a : Int))), .int (jI ((b : Int)))]) M (fun _ vv M' => ∃ x : Int, vv = some (.int (jI x)) ∧ (x = (mn (rk F P) a b : Int) ∧ M' 87 n = (mx (rk F P) a b : Int) ∧ (∀ k, k ≠ n → M' 87 k = M 87 k) ∧ M' 84 3 = M 84 3 + 1 ∧ (∀ k, k ≠ 3 → M' 84 k = M 84 k) ∧ ∀ o, o ≠ 84 → o ≠ 87 → M' o = M o)) := by
  refine Mt.of (fun ad => [some (.ref (ad (84))), some (.int (jI ((n : Int)))), some (.int (jI ((a : Int)))), some (.int (jI ((b : Int)))), none]) (by decide +kernel) (fun _ => rfl) (fun _ => rfl) (fun _ => Nat.le_of_ble_eq_true rfl) fun X hX C hR => ?_
  subst hX
  show G X M 0 [some (.ref ((zA X) (84))), some (.int (jI ((n : Int)))), some (.int (jI ((a : Int)))), some (.int (jI ((b : Int)))), none] []
  refine g_aload_n C dX7_playAt_0 rfl ?_
  refine g_iload_n C dX7_playAt_1 rfl ?_
  refine g_iload_n C dX7_playAt_2 rfl ?_
  refine gc_isWinning C (by decide) tw_671 (Nat.le_of_ble_eq_true rfl) rfl dX7_playAt_3 a b ha hb hab h (?_)
  refine g_istore C dX7_playAt_6 (Nat.le_of_ble_eq_true rfl) ?_
  show G X _ 8 [_, _, _, _, _] _
  refine g_aload_n C dX7_playAt_8 rfl ?_
  refine g_iload_n C dX7_playAt_9 rfl ?_
  refine gc_hasNode C (by decide) tw_685 (Nat.le_of_ble_eq_true rfl) rfl dX7_playAt_10 n hn h.1 (?_)
  refine g_if_eq (tgt := 32) C dX7_playAt_13 rfl (by omega) (fun h13 => ?_) (fun h13 => ?_)
  · omega
  · refine g_aload_n C dX7_playAt_16 rfl ?_
    refine gf_Tour_losers C tw_110 dX7_playAt_17 ?_
    refine g_iload_n C dX7_playAt_20 rfl ?_
    refine g_iload C dX7_playAt_21 rfl ?_
    refine g_if_eq (tgt := 30) C dX7_playAt_23 rfl (by by_cases q : rk F P a < rk F P b <;> simp [q]) (fun h23 => ?_) (fun h23 => ?_)
    · refine g_iload_n C dX7_playAt_30 rfl ?_
      refine gs_losers C _ (by omega) rfl dX7_playAt_31 ?_
      refine g_aload_n C dX7_playAt_32 rfl ?_
      refine g_dup C dX7_playAt_33 rfl ?_
      refine gf_Tour_matchCount C tw_104 dX7_playAt_34 ?_
      rw [zu_o _ _ _ _ (by omega)]
      refine g_iconst C dX7_playAt_37 ?_
      show G X _ 38 _ _
      refine g_iadd C dX7_playAt_38 ?_
      refine gp_Tour_matchCount C tw_104 dX7_playAt_39 ?_
      refine g_iload C dX7_playAt_42 rfl ?_
      refine g_if_eq (tgt := 51) C dX7_playAt_44 rfl (by by_cases q : rk F P a < rk F P b <;> simp [q]) (fun h44 => ?_) (fun h44 => ?_)
      · refine g_iload_n C dX7_playAt_51 rfl ?_
        refine g_iret C hR dX7_playAt_52 ?_
        have q : ¬ rk F P a < rk F P b := by
          intro q
          rw [if_pos q] at h23; omega
        exact ⟨_, rfl, by unfold mn; rw [if_neg q], by unfold mx; rw [if_neg q, zu_o _ _ _ _ (by omega), zu_s], fun k hk => by rw [zu_o _ _ _ _ (by omega), zu_k _ _ _ _ hk], zu_s _ _ _ _, fun k hk => by rw [zu_k _ _ _ _ hk, zu_o _ _ _ _ (by omega)], fun o c d => by rw [zu_o _ _ _ _ c, zu_o _ _ _ _ d]⟩
      · omega
    · refine g_iload_n C dX7_playAt_26 rfl ?_
      refine g_goto (tgt := 31) C dX7_playAt_27 rfl ?_
      show G X _ 31 _ _
      refine gs_losers C _ (by omega) rfl dX7_playAt_31 ?_
      refine g_aload_n C dX7_playAt_32 rfl ?_
      refine g_dup C dX7_playAt_33 rfl ?_
      refine gf_Tour_matchCount C tw_104 dX7_playAt_34 ?_
      rw [zu_o _ _ _ _ (by omega)]
      refine g_iconst C dX7_playAt_37 ?_
      refine g_iadd C dX7_playAt_38 ?_
      show G X _ 39 _ _
      refine gp_Tour_matchCount C tw_104 dX7_playAt_39 ?_
      refine g_iload C dX7_playAt_42 rfl ?_
      refine g_if_eq (tgt := 51) C dX7_playAt_44 rfl (by by_cases q : rk F P a < rk F P b <;> simp [q]) (fun h44 => ?_) (fun h44 => ?_)
      · omega
      · refine g_iload_n C dX7_playAt_47 rfl ?_
        refine g_goto (tgt := 52) C dX7_playAt_48 rfl ?_
        show G X _ 52 _ _
        refine g_iret C hR dX7_playAt_52 ?_
        have q : rk F P a < rk F P b := by
          by_cases q : rk F P a < rk F P b
          · exact q
          · rw [if_neg q] at h23; omega
        exact ⟨_, rfl, by unfold mn; rw [if_pos q], by unfold mx; rw [if_pos q, zu_o _ _ _ _ (by omega), zu_s], fun k hk => by rw [zu_o _ _ _ _ (by omega), zu_k _ _ _ _ hk], zu_s _ _ _ _, fun k hk => by rw [zu_k _ _ _ _ hk, zu_o _ _ _ _ (by omega)], fun o c d => by rw [zu_o _ _ _ _ c, zu_o _ _ _ _ d]⟩
theorem gc_playAt {X : z_X} {cc : ByteArray} {own : String} {ret : Option FieldType} {dC nC : Nat} {M : zM} {pc : Nat} {lv : List (Option Value)} {st : List Value} (C : Cx cc own ret dC nC X) (hdep : 6 ≤ dC) {idx : Nat} (hl0 : Cond.methodLink own idx yX7_playAt ∈ tT) (hcat : (st.map fun v => v.category).sum ≤ 8) (hlen : lv.length = nC) (hdec : decode cc pc = .ok (.invokevirtual idx, 3)) {F : Nat → List (Int × Int)} {P : Nat → Nat} (n a b : Nat) (hn : 1 ≤ n ∧ n ≤ 7) (ha : a < 8) (hb : b < 8) (hab : a ≠ b) (h : zTo M F P) (kk : ∀ (x : Int) (M' : zM), (x = (mn (rk F P) a b : Int) ∧ M' 87 n = (mx (rk F P) a b : Int) ∧ (∀ k, k ≠ n → M' 87 k = M 87 k) ∧ M' 84 3 = M 84 3 + 1 ∧ (∀ k, k ≠ 3 → M' 84 k = M 84 k) ∧ ∀ o, o ≠ 84 → o ≠ 87 → M' o = M o) → G X M' (pc + 3) lv (.int (jI x) :: st)) : G X M pc lv (.int (jI ((b : Int))) :: .int (jI ((a : Int))) :: .int (jI ((n : Int))) :: .ref (zA X (84)) :: st) := by
  refine g_callV (k := 3) (o := 84) C (c_playAt (zL X) n a b hn ha hb hab M h) mfX7_playAt hl0 ⟨rfl, by decide +kernel, by decide +kernel, by decide +kernel⟩ ⟨hdep, by decide⟩ (by omega) (fun _ _ _ _ => ze_tour) rfl rfl rfl rfl hcat hlen hdec (fun v M' h => ?_)
  obtain ⟨x, rfl, h⟩ := h
  exact kk x M' h
set_option maxHeartbeats 4000000 in
set_option maxRecDepth 10000 in
theorem c_prepare (l : Launch)  (M : zM)  : Mt l 1 yX7_prepare cX7_prepare 3 none (fun ad => [.ref (ad (84)), .int (jI (2)), .int (jI (5))]) M (fun _ vv M' => vv = none ∧ (M' 84 1 = 8 ∧ M' 84 4 = 2 ∧ M' 84 5 = 5 ∧ (∀ k, k ≠ 1 → k ≠ 4 → k ≠ 5 → M' 84 k = M 84 k) ∧ ∀ o, o ≠ 84 → M' o = M o)) := by
  refine Mt.of (fun ad => [some (.ref (ad (84))), some (.int (jI (2))), some (.int (jI (5)))]) (by decide +kernel) (fun _ => rfl) (fun _ => rfl) (fun _ => Nat.le_of_ble_eq_true rfl) fun X hX C hR => ?_
  subst hX
  show G X M 0 [some (.ref ((zA X) (84))), some (.int (jI (2))), some (.int (jI (5)))] []
  refine g_aload_n C dX7_prepare_0 rfl ?_
  refine g_iload_n C dX7_prepare_1 rfl ?_
  refine gp_Tour_firstFile C tw_106 dX7_prepare_2 ?_
  refine g_aload_n C dX7_prepare_5 rfl ?_
  refine g_iload_n C dX7_prepare_6 rfl ?_
  refine gp_Tour_rowCount C tw_107 dX7_prepare_7 ?_
  show G X _ 10 _ _
  refine g_aload_n C dX7_prepare_10 rfl ?_
  refine g_iconst C dX7_prepare_11 ?_
  refine gp_Tour_leafCount C tw_101 dX7_prepare_12 ?_
  refine g_aload_n C dX7_prepare_15 rfl ?_
  refine gf_Tour_leafCount C tw_101 dX7_prepare_16 ?_
  rw [zu_s]
  refine g_iload_n C dX7_prepare_19 rfl ?_
  show G X _ 20 _ _
  refine g_icmp_ge (tgt := 45) C dX7_prepare_20 rfl (by omega) (by omega) (fun h20 => ?_) (fun h20 => ?_)
  · omega
  · refine g_aload_n C dX7_prepare_23 rfl ?_
    refine gf_Tour_leafCount C tw_101 dX7_prepare_24 ?_
    rw [zu_s]
    refine g_bipush C dX7_prepare_27 rfl ?_
    refine g_icmp_ge (tgt := 45) C dX7_prepare_29 rfl (by omega) (by omega) (fun h29 => ?_) (fun h29 => ?_)
    · omega
    · refine g_aload_n C dX7_prepare_32 rfl ?_
      refine g_dup C dX7_prepare_33 rfl ?_
      refine gf_Tour_leafCount C tw_101 dX7_prepare_34 ?_
      rw [zu_s]
      refine g_iconst C dX7_prepare_37 ?_
      refine g_imul C dX7_prepare_38 ?_
      refine gp_Tour_leafCount C tw_101 dX7_prepare_39 ?_
      show G X _ 42 _ _
      refine g_goto (tgt := 15) C dX7_prepare_42 rfl ?_
      show G X _ 15 _ _
      refine g_aload_n C dX7_prepare_15 rfl ?_
      refine gf_Tour_leafCount C tw_101 dX7_prepare_16 ?_
      rw [zu_s]
      refine g_iload_n C dX7_prepare_19 rfl ?_
      refine g_icmp_ge (tgt := 45) C dX7_prepare_20 rfl (by omega) (by omega) (fun h20 => ?_) (fun h20 => ?_)
      · omega
      · refine g_aload_n C dX7_prepare_23 rfl ?_
        refine gf_Tour_leafCount C tw_101 dX7_prepare_24 ?_
        rw [zu_s]
        refine g_bipush C dX7_prepare_27 rfl ?_
        refine g_icmp_ge (tgt := 45) C dX7_prepare_29 rfl (by omega) (by omega) (fun h29 => ?_) (fun h29 => ?_)
        · omega
        · refine g_aload_n C dX7_prepare_32 rfl ?_
          refine g_dup C dX7_prepare_33 rfl ?_
          refine gf_Tour_leafCount C tw_101 dX7_prepare_34 ?_
          rw [zu_s]
          refine g_iconst C dX7_prepare_37 ?_
          refine g_imul C dX7_prepare_38 ?_
          refine gp_Tour_leafCount C tw_101 dX7_prepare_39 ?_
          show G X _ 42 _ _
          refine g_goto (tgt := 15) C dX7_prepare_42 rfl ?_
          show G X _ 15 _ _
          refine g_aload_n C dX7_prepare_15 rfl ?_
          refine gf_Tour_leafCount C tw_101 dX7_prepare_16 ?_
          rw [zu_s]
          refine g_iload_n C dX7_prepare_19 rfl ?_
          refine g_icmp_ge (tgt := 45) C dX7_prepare_20 rfl (by omega) (by omega) (fun h20 => ?_) (fun h20 => ?_)
          · refine g_vret C hR dX7_prepare_45 ?_
            refine ⟨rfl, ?_, ?_, ?_, fun k a b c => ?_, fun o a => ?_⟩
            · simp [zu_at]
            · simp [zu_at]
            · simp [zu_at]
            · simp [zu_at, a, b, c]
            · simp [zu_o, a]
          · omega
theorem gc_prepare {X : z_X} {cc : ByteArray} {own : String} {ret : Option FieldType} {dC nC : Nat} {M : zM} {pc : Nat} {lv : List (Option Value)} {st : List Value} (C : Cx cc own ret dC nC X) (hdep : 2 ≤ dC) {idx : Nat} (hl0 : Cond.methodLink own idx yX7_prepare ∈ tT) (hcat : (st.map fun v => v.category).sum ≤ 8) (hlen : lv.length = nC) (hdec : decode cc pc = .ok (.invokevirtual idx, 3))   (kk : ∀ M' : zM, (M' 84 1 = 8 ∧ M' 84 4 = 2 ∧ M' 84 5 = 5 ∧ (∀ k, k ≠ 1 → k ≠ 4 → k ≠ 5 → M' 84 k = M 84 k) ∧ ∀ o, o ≠ 84 → M' o = M o) → G X M' (pc + 3) lv st) : G X M pc lv (.int (jI (5)) :: .int (jI (2)) :: .ref (zA X (84)) :: st) := by
  refine g_callV (k := 2) (o := 84) C (c_prepare (zL X)  M ) mfX7_prepare hl0 ⟨rfl, by decide +kernel, by decide +kernel, by decide +kernel⟩ ⟨hdep, by decide⟩ (by omega) (fun _ _ _ _ => ze_tour) rfl rfl rfl rfl hcat hlen hdec (fun v M' h => ?_)
  obtain ⟨rfl, h⟩ := h
  exact kk M' h
set_option maxHeartbeats 4000000 in
set_option maxRecDepth 10000 in
theorem c_seat (l : Launch) (i r : Nat) (hi : i < 8) (hr : r < 20) (M : zM)  : Mt l 1 yX7_seat cX7_seat 3 none (fun ad => [.ref (ad (84)), .int (jI ((i : Int))), .ref (ad (3 * r))]) M (fun _ vv M' => vv = none ∧ (M' = zu (zu M 85 i (r : Int)) 86 i 0)) := by
  refine Mt.of (fun ad => [some (.ref (ad (84))), some (.int (jI ((i : Int)))), some (.ref (ad (3 * r)))]) (by decide +kernel) (fun _ => rfl) (fun _ => rfl) (fun _ => Nat.le_of_ble_eq_true rfl) fun X hX C hR => ?_
  subst hX
  show G X M 0 [some (.ref ((zA X) (84))), some (.int (jI ((i : Int)))), some (.ref ((zA X) (3 * r)))] []
  refine g_iload_n C dX7_seat_0 rfl ?_
  refine g_if_lt (tgt := 24) C dX7_seat_1 rfl (by omega) (fun h1 => ?_) (fun h1 => ?_)
  · omega
  · refine g_iload_n C dX7_seat_4 rfl ?_
    refine g_bipush C dX7_seat_5 rfl ?_
    refine g_icmp_ge (tgt := 24) C dX7_seat_7 rfl (by omega) (by omega) (fun h7 => ?_) (fun h7 => ?_)
    · omega
    · refine g_aload_n C dX7_seat_10 rfl ?_
      refine gf_Tour_rows C tw_108 dX7_seat_11 ?_
      refine g_iload_n C dX7_seat_14 rfl ?_
      refine g_aload_n C dX7_seat_15 rfl ?_
      refine g_trows C (by omega) (by omega) rfl dX7_seat_16 ?_
      refine g_aload_n C dX7_seat_17 rfl ?_
      show G X _ 18 _ _
      refine gf_Tour_places C tw_109 dX7_seat_18 ?_
      refine g_iload_n C dX7_seat_21 rfl ?_
      refine g_iconst C dX7_seat_22 ?_
      refine gs_places C _ (by omega) rfl dX7_seat_23 ?_
      refine g_vret C hR dX7_seat_24 ?_
      exact ⟨rfl, rfl⟩
theorem gc_seat {X : z_X} {cc : ByteArray} {own : String} {ret : Option FieldType} {dC nC : Nat} {M : zM} {pc : Nat} {lv : List (Option Value)} {st : List Value} (C : Cx cc own ret dC nC X) (hdep : 2 ≤ dC) {idx : Nat} (hl0 : Cond.methodLink own idx yX7_seat ∈ tT) (hcat : (st.map fun v => v.category).sum ≤ 8) (hlen : lv.length = nC) (hdec : decode cc pc = .ok (.invokevirtual idx, 3)) (i r : Nat) (hi : i < 8) (hr : r < 20)  (kk : ∀ M' : zM, (M' = zu (zu M 85 i (r : Int)) 86 i 0) → G X M' (pc + 3) lv st) : G X M pc lv (.ref (zA X (3 * r)) :: .int (jI ((i : Int))) :: .ref (zA X (84)) :: st) := by
  refine g_callV (k := 2) (o := 84) C (c_seat (zL X) i r hi hr M ) mfX7_seat hl0 ⟨rfl, by decide +kernel, by decide +kernel, by decide +kernel⟩ ⟨hdep, by decide⟩ (by omega) (fun _ _ _ _ => ze_tour) rfl rfl rfl rfl hcat hlen hdec (fun v M' h => ?_)
  obtain ⟨rfl, h⟩ := h
  exact kk M' h
set_option maxHeartbeats 4000000 in
set_option maxRecDepth 10000 in
theorem c_open (l : Launch) {F : Nat → List (Int × Int)} {P : Nat → Nat} (M : zM) (h : zTo M F P) : Mt l 6 yX7_open cX7_open 2 none (fun ad => [.ref (ad (84))]) M (fun _ vv M' => vv = none ∧ (zTo M' F P ∧ M' 84 0 = 1 ∧ M' 84 2 = (wN (rk F P) 1 : Int) ∧ M' 84 3 = 7 ∧ M' 84 4 = M 84 4 ∧ (∀ n, 1 ≤ n → n ≤ 7 → M' 87 n = (lS (rk F P) n : Int)) ∧ ∀ o, o ≠ 84 → o ≠ 87 → o ≠ 88 → M' o = M o)) := by
  refine Mt.of (fun ad => [some (.ref (ad (84))), none]) (by decide +kernel) (fun _ => rfl) (fun _ => rfl) (fun _ => Nat.le_of_ble_eq_true rfl) fun X hX C hR => ?_
  subst hX
  show G X M 0 [some (.ref ((zA X) (84))), none] []
  have hbl : ∀ M1 : zM, M1 84 0 = 1 → M1 84 1 = 8 → M1 84 3 = 0 → M1 84 4 = M 84 4 → zTo M1 F P → (∀ o, o ≠ 84 → M1 o = M o) → G X M1 12 [some (.ref (zA X 84)), some (.int (jI 0))] [] := by
    intro M1 m0 m1 m3 m4 hTo m9
    have lp2 : ∀ (fk : Nat) (n : Nat) (N : zM), n < fk → n ≤ 7 → (∀ k, n < k → k ≤ 15 → N 88 k = (wN (rk F P) k : Int)) → N 84 3 = 7 - (n : Int) → (∀ k, n < k → k ≤ 7 → N 87 k = (lS (rk F P) k : Int)) → zTo N F P → (∀ k, k ≠ 3 → N 84 k = M1 84 k) → (∀ o, o ≠ 84 → o ≠ 87 → o ≠ 88 → N o = M1 o) → G X N 45 [some (.ref (zA X 84)), some (.int (jI (n : Int)))] [] := by
      intro fk
      induction fk with
      | zero => intro n N hk; exact absurd hk (Nat.not_lt_zero _)
      | succ fk ih =>
        intro n N hk n1 hN n3 nl nT n4 hF
        refine g_iload_n C dX7_open_45 rfl ?_
        refine g_iconst C dX7_open_46 ?_
        refine g_icmp_lt (tgt := 85) C dX7_open_47 rfl (by omega) (by omega) (fun h47 => ?_) (fun h47 => ?_)
        · refine g_aload_n C dX7_open_85 rfl ?_
          refine g_aload_n C dX7_open_86 rfl ?_
          refine gf_Tour_winners C tw_111 dX7_open_87 ?_
          refine g_iconst C dX7_open_90 ?_
          refine ga_winners C 1 (by omega) rfl dX7_open_91 ?_
          rw [hN 1 (by omega) (by omega)]
          refine gp_Tour_winningLeaf C tw_103 dX7_open_92 ?_
          show G X _ 95 _ _
          refine g_vret C hR dX7_open_95 ?_
          obtain rfl : n = 0 := by omega
          have e : ∀ k, k ≠ 2 → zu N 84 2 (wN (rk F P) 1 : Int) 84 k = N 84 k := fun k g => zu_k _ _ _ _ g
          refine ⟨rfl, nT.same3 (e 1 (by omega)) (e 5 (by omega)) (fun o a _ _ => zu_o _ _ _ _ a), by rw [e 0 (by omega), n4 0 (by omega)]; exact m0, zu_s _ _ _ _, by rw [e 3 (by omega), n3]; rfl, by rw [e 4 (by omega), n4 4 (by omega)]; exact m4, fun k g1 g2 => by rw [zu_o _ _ _ _ (by omega)]; exact nl k (by omega) g2, fun o a b c => by rw [zu_o _ _ _ _ a, hF o a b c]; exact m9 o a⟩
        · refine g_aload_n C dX7_open_50 rfl ?_
          refine gf_Tour_winners C tw_111 dX7_open_51 ?_
          refine g_iload_n C dX7_open_54 rfl ?_
          refine g_aload_n C dX7_open_55 rfl ?_
          refine g_iload_n C dX7_open_56 rfl ?_
          refine g_aload_n C dX7_open_57 rfl ?_
          show G X _ 58 _ _
          refine gf_Tour_winners C tw_111 dX7_open_58 ?_
          refine g_iconst C dX7_open_61 ?_
          refine g_iload_n C dX7_open_62 rfl ?_
          refine g_imul C dX7_open_63 ?_
          refine ga_winners C (2 * n) (by omega) (by omega) dX7_open_64 ?_
          rw [hN (2 * n) (by omega) (by omega)]
          refine g_aload_n C dX7_open_65 rfl ?_
          show G X _ 66 _ _
          refine gf_Tour_winners C tw_111 dX7_open_66 ?_
          refine g_iconst C dX7_open_69 ?_
          refine g_iload_n C dX7_open_70 rfl ?_
          refine g_imul C dX7_open_71 ?_
          refine g_iconst C dX7_open_72 ?_
          refine g_iadd C dX7_open_73 ?_
          show G X _ 74 _ _
          refine ga_winners C (2 * n + 1) (by omega) (by omega) dX7_open_74 ?_
          rw [hN (2 * n + 1) (by omega) (by omega)]
          have u1 := wN_in (rk F P) (n := 2 * n) (by omega) (by omega)
          have u2 := wN_in (rk F P) (n := 2 * n + 1) (by omega) (by omega)
          unfold below_ at u1 u2
          refine gc_playAt C (by decide) tw_667 (Nat.le_of_ble_eq_true rfl) rfl dX7_open_75 n _ _ (by omega) (by omega) (by omega) (by omega) nT (fun x N2 ⟨p0, p1, p2, p3, p4, p5⟩ => ?_)
          rw [p0]
          refine gs_winners C _ (by omega) rfl dX7_open_78 ?_
          refine g_iinc C dX7_open_79 rfl ?_
          show G X _ 82 [_, _] _
          refine g_goto (tgt := 45) C dX7_open_82 rfl ?_
          show G X _ 45 _ _
          rw [show (n : Int) + -1 = ((n - 1 : Nat) : Int) by omega]
          have e87 : ∀ k, zu N2 88 n (mn (rk F P) (wN (rk F P) (2 * n)) (wN (rk F P) (2 * n + 1)) : Int) 87 k = N2 87 k := fun k => by rw [zu_o _ _ _ _ (by omega)]
          have e84 : ∀ k, zu N2 88 n (mn (rk F P) (wN (rk F P) (2 * n)) (wN (rk F P) (2 * n + 1)) : Int) 84 k = N2 84 k := fun k => by rw [zu_o _ _ _ _ (by omega)]
          refine ih (n - 1) _ (by omega) (by omega) (fun k g1 g2 => ?_) (by rw [e84, p3, n3]; omega) (fun k g1 g2 => ?_) ?_ (fun k g => by rw [e84, p4 k g]; exact n4 k g) (fun o a b c => by rw [zu_o _ _ _ _ c, p5 o a b]; exact hF o a b c)
          · by_cases e : k = n
            · subst e; rw [zu_s]; exact congrArg (fun z : Nat => (z : Int)) (wN_step (n := k) (by omega) (by omega)).symm
            · rw [zu_k _ _ _ _ e, p5 88 (by omega) (by omega)]; exact hN k (by omega) g2
          · rw [e87]
            by_cases e : k = n
            · subst e; exact p1
            · rw [p2 k e]; exact nl k (by omega) g2
          · exact nT.same3 (by rw [e84, p4 1 (by omega)]) (by rw [e84, p4 5 (by omega)]) (fun o a b c => by rw [zu_o _ _ _ _ c]; exact p5 o a b)
    have lp1 : ∀ (fk : Nat) (i : Nat) (N : zM), 20 - i < fk → i ≤ 8 → (∀ j, j < i → N 88 (8 + j) = (j : Int)) → (∀ o, o ≠ 88 → N o = M1 o) → G X N 12 [some (.ref (zA X 84)), some (.int (jI (i : Int)))] [] := by
      intro fk
      induction fk with
      | zero => intro i N hk; exact absurd hk (Nat.not_lt_zero _)
      | succ fk ih =>
        intro i N hk i1 hN hF
        refine g_iload_n C dX7_open_12 rfl ?_
        refine g_aload_n C dX7_open_13 rfl ?_
        refine gf_Tour_leafCount C tw_101 dX7_open_14 ?_
        rw [hF 84 (by omega), m1]
        refine g_icmp_ge (tgt := 38) C dX7_open_17 rfl (by omega) (by omega) (fun h17 => ?_) (fun h17 => ?_)
        · refine g_aload_n C dX7_open_38 rfl ?_
          refine gf_Tour_leafCount C tw_101 dX7_open_39 ?_
          rw [hF 84 (by omega), m1]
          refine g_iconst C dX7_open_42 ?_
          refine g_isub C dX7_open_43 ?_
          refine g_istore_n C dX7_open_44 (Nat.le_of_ble_eq_true rfl) ?_
          show G X _ 45 [_, _] _
          obtain rfl : i = 8 := by omega
          exact lp2 20 7 N (by omega) (by omega) (fun k g1 g2 => by
            have e := hN (k - 8) (by omega)
            rw [show 8 + (k - 8) = k by omega] at e
            have w : wN (rk F P) k = k - 8 := by unfold wN; rw [if_pos (by omega)]
            rw [e, w]) (by rw [hF 84 (by omega)]; exact m3) (fun n g1 g2 => by omega) (hTo.same2 (by rw [hF 84 (by omega)]) (fun o a b => hF o b)) (fun k a => by rw [hF 84 (by omega)]) (fun o a b c => hF o c)
        · refine g_aload_n C dX7_open_20 rfl ?_
          refine gf_Tour_winners C tw_111 dX7_open_21 ?_
          refine g_aload_n C dX7_open_24 rfl ?_
          refine gf_Tour_leafCount C tw_101 dX7_open_25 ?_
          rw [hF 84 (by omega), m1]
          refine g_iload_n C dX7_open_28 rfl ?_
          refine g_iadd C dX7_open_29 ?_
          show G X _ 30 _ _
          refine g_iload_n C dX7_open_30 rfl ?_
          refine gs_winners C (8 + i) (by omega) (by omega) dX7_open_31 ?_
          refine g_iinc C dX7_open_32 rfl ?_
          show G X _ 35 [_, _] _
          refine g_goto (tgt := 12) C dX7_open_35 rfl ?_
          show G X _ 12 _ _
          exact ih (i + 1) _ (by omega) (by omega) (fun j hj => by
            by_cases e : j = i
            · subst e; exact zu_s _ _ _ _
            · rw [zu_k _ _ _ _ (by omega)]; exact hN j (by omega)) (fun o g => (zu_o _ _ _ _ g).trans (hF o g))
    exact lp1 30 0 M1 (by omega) (by omega) (fun j hj => absurd hj (Nat.not_lt_zero _)) (fun _ _ => rfl)
  refine g_aload_n C dX7_open_0 rfl ?_
  refine g_iconst C dX7_open_1 ?_
  refine gp_Tour_isOn C (by omega) tw_99 dX7_open_2 ?_
  refine g_aload_n C dX7_open_5 rfl ?_
  refine g_iconst C dX7_open_6 ?_
  refine gp_Tour_matchCount C tw_104 dX7_open_7 ?_
  show G X _ 10 _ _
  refine g_iconst C dX7_open_10 ?_
  refine g_istore_n C dX7_open_11 (Nat.le_of_ble_eq_true rfl) ?_
  show G X _ 12 [_, _] _
  exact hbl _ (by rw [zu_k _ _ _ _ (by omega), zu_s]) (by rw [zu_k _ _ _ _ (by omega), zu_k _ _ _ _ (by omega)]; exact h.1) (zu_s _ _ _ _) (by rw [zu_k _ _ _ _ (by omega), zu_k _ _ _ _ (by omega)]) (h.same3 (by rw [zu_k _ _ _ _ (by omega), zu_k _ _ _ _ (by omega)]) (by rw [zu_k _ _ _ _ (by omega), zu_k _ _ _ _ (by omega)]) (fun o a _ _ => by rw [zu_o _ _ _ _ a, zu_o _ _ _ _ a])) (fun o a => by rw [zu_o _ _ _ _ a, zu_o _ _ _ _ a])
theorem gc_open {X : z_X} {cc : ByteArray} {own : String} {ret : Option FieldType} {dC nC : Nat} {M : zM} {pc : Nat} {lv : List (Option Value)} {st : List Value} (C : Cx cc own ret dC nC X) (hdep : 7 ≤ dC) {idx : Nat} (hl0 : Cond.methodLink own idx yX7_open ∈ tT) (hcat : (st.map fun v => v.category).sum ≤ 8) (hlen : lv.length = nC) (hdec : decode cc pc = .ok (.invokevirtual idx, 3)) {F : Nat → List (Int × Int)} {P : Nat → Nat} (h : zTo M F P) (kk : ∀ M' : zM, (zTo M' F P ∧ M' 84 0 = 1 ∧ M' 84 2 = (wN (rk F P) 1 : Int) ∧ M' 84 3 = 7 ∧ M' 84 4 = M 84 4 ∧ (∀ n, 1 ≤ n → n ≤ 7 → M' 87 n = (lS (rk F P) n : Int)) ∧ ∀ o, o ≠ 84 → o ≠ 87 → o ≠ 88 → M' o = M o) → G X M' (pc + 3) lv st) : G X M pc lv (.ref (zA X (84)) :: st) := by
  refine g_callV (k := 0) (o := 84) C (c_open (zL X)  M h) mfX7_open hl0 ⟨rfl, by decide +kernel, by decide +kernel, by decide +kernel⟩ ⟨hdep, by decide⟩ (by omega) (fun _ _ _ _ => ze_tour) rfl rfl rfl rfl hcat hlen hdec (fun v M' h => ?_)
  obtain ⟨rfl, h⟩ := h
  exact kk M' h
theorem up_3 {r r' : Nat → Int} {f : Nat} (hf : f < 8) (hw : wN r 1 = f) (hne : ∀ i j, i < 8 → j < 8 → i ≠ j → r i ≠ r j) (hne' : ∀ i j, i < 8 → j < 8 → i ≠ j → r' i ≠ r' j) (h : ∀ j, j ≠ f → r' j = r j) :
    (f ≠ lS r ((8 + f) / 2) ∧ lS r ((8 + f) / 2) < 8 ∧ mn r' f (lS r ((8 + f) / 2)) = wN r' ((8 + f) / 2) ∧ mx r' f (lS r ((8 + f) / 2)) = lS r' ((8 + f) / 2)) ∧
    (wN r' ((8 + f) / 2) ≠ lS r ((8 + f) / 4) ∧ lS r ((8 + f) / 4) < 8 ∧ mn r' (wN r' ((8 + f) / 2)) (lS r ((8 + f) / 4)) = wN r' ((8 + f) / 4) ∧ mx r' (wN r' ((8 + f) / 2)) (lS r ((8 + f) / 4)) = lS r' ((8 + f) / 4)) ∧
    (wN r' ((8 + f) / 4) ≠ lS r 1 ∧ lS r 1 < 8 ∧ mn r' (wN r' ((8 + f) / 4)) (lS r 1) = wN r' 1 ∧ mx r' (wN r' ((8 + f) / 4)) (lS r 1) = lS r' 1) ∧
    (∀ n, 1 ≤ n → n ≤ 7 → n ≠ (8 + f) / 2 → n ≠ (8 + f) / 4 → n ≠ 1 → lS r' n = lS r n) ∧ wN r' ((8 + f) / 2) < 8 ∧ wN r' ((8 + f) / 4) < 8 := by
  obtain ⟨c1, e1⟩ : ∃ c, c = (8 + f) / 2 := ⟨_, rfl⟩
  obtain ⟨c2, e2⟩ : ∃ c, c = (8 + f) / 4 := ⟨_, rfl⟩
  rw [← e1, ← e2]
  have sib : ∀ c n, n = c / 2 → ((c = 2 * n ∧ (2 * n + 1 - (c - 2 * n)) = 2 * n + 1) ∨ (c = 2 * n + 1 ∧ (2 * n + 1 - (c - 2 * n)) = 2 * n)) := fun c n h => by omega
  have w2 : wN r c2 = f := by rw [← hw]; exact wN_way (s := 2 * 1 + 1 - (c2 - 2 * 1)) (by omega) (by omega) (sib c2 1 (by omega)) (by rw [hw]; unfold below_; omega)
  have w1 : wN r c1 = f := by rw [← w2]; exact wN_way (s := 2 * c2 + 1 - (c1 - 2 * c2)) (by omega) (by omega) (sib c1 c2 (by omega)) (by rw [w2]; unfold below_; omega)
  have w0 : wN r (8 + f) = f := wN_leaf
  have mi : ∀ j, j < 8 → j ≠ f → r f < r j := fun j hj hne2 => by
    have a := wN_min r j hj
    rw [hw] at a
    have b := hne f j hf hj (Ne.symm hne2)
    omega
  have one : ∀ n c s, 1 ≤ n → n ≤ 7 → ((c = 2 * n ∧ s = 2 * n + 1) ∨ (c = 2 * n + 1 ∧ s = 2 * n)) → wN r c = f → below_ c f → wN r' c ≠ lS r n ∧ lS r n < 8 ∧ mn r' (wN r' c) (lS r n) = wN r' n ∧ mx r' (wN r' c) (lS r n) = lS r' n := fun n c s g1 g2 g3 g4 g5 => by
    have is1 := wN_in r (n := s) (by omega) (by omega)
    have is2 := wN_in r' (n := s) (by omega) (by omega)
    have ic2 := wN_in r' (n := c) (by omega) (by omega)
    have hsame := wN_same h (n := s) (by omega) (by omega) (by unfold below_ at g5 ⊢; omega)
    have hd : r' (wN r' c) ≠ r' (wN r' s) := hne' _ _ (by unfold below_ at ic2; omega) (by unfold below_ at is2; omega) (by unfold below_ at ic2 is2; omega)
    obtain ⟨k1, k2, k3⟩ := up_one g1 g2 g3 g4 (mi _ (by unfold below_ at is1; omega) (by unfold below_ at is1 g5; omega)) hsame hd
    rw [k1]
    exact ⟨by unfold below_ at ic2 is2; omega, by unfold below_ at is2; omega, k2, k3⟩
  have p := one c1 (8 + f) (2 * c1 + 1 - (8 + f - 2 * c1)) (by omega) (by omega) (sib _ _ (by omega)) w0 (by unfold below_; omega)
  have q := one c2 c1 (2 * c2 + 1 - (c1 - 2 * c2)) (by omega) (by omega) (sib _ _ (by omega)) w1 (by unfold below_; omega)
  have t := one 1 c2 (2 * 1 + 1 - (c2 - 2 * 1)) (by omega) (by omega) (sib _ _ (by omega)) w2 (by unfold below_; omega)
  have l0 : wN r' (8 + f) = f := wN_leaf
  rw [l0] at p
  have j1 := wN_in r' (n := c1) (by omega) (by omega)
  have j2 := wN_in r' (n := c2) (by omega) (by omega)
  refine ⟨p, q, t, fun n g1 g2 a3 a2 a1 => ?_, by unfold below_ at j1; omega, by unfold below_ at j2; omega⟩
  unfold lS
  have nb : ∀ m, (m = 2 * n ∨ m = 2 * n + 1) → ¬ below_ m f := fun m hm => by unfold below_; omega
  rw [wN_same h (by omega) (by omega) (nb _ (Or.inl rfl)), wN_same h (by omega) (by omega) (nb _ (Or.inr rfl))]
  have i1 := wN_in r (n := 2 * n) (by omega) (by omega)
  have i2 := wN_in r (n := 2 * n + 1) (by omega) (by omega)
  have n1 := nb _ (Or.inl rfl)
  have n2 := nb _ (Or.inr rfl)
  unfold below_ at i1 i2 n1 n2
  unfold mx
  rw [h _ (by omega), h _ (by omega)]
set_option maxHeartbeats 4000000 in
set_option maxRecDepth 10000 in
theorem c_give (l : Launch) {F : Nat → List (Int × Int)} {P : Nat → Nat} (f : Nat) (hf : f < 8) (M : zM) (h : zTo M F P) (hw : M 84 2 = (f : Int)) (hfw : wN (rk F P) 1 = f) (hl : ∀ n, 1 ≤ n → n ≤ 7 → M 87 n = (lS (rk F P) n : Int)) : Mt l 6 yX7_give cX7_give 4 (some .int) (fun ad => [.ref (ad (84))]) M (fun _ vv M' => ∃ x : Int, vv = some (.int (jI x)) ∧ (x = tk F P f ∧ ((tk F P f = 1000 ∧ M' = M) ∨ (f < 5 ∧ P f < (F f).length ∧ zTo M' F (va_up P f (P f + 1)) ∧ M' 84 0 = M 84 0 ∧ M' 84 2 = (wN (rk F (va_up P f (P f + 1))) 1 : Int) ∧ M' 84 3 = M 84 3 + 3 ∧ (∀ n, 1 ≤ n → n ≤ 7 → M' 87 n = (lS (rk F (va_up P f (P f + 1))) n : Int)) ∧ ∀ o, o ≠ 84 → o ≠ 86 → o ≠ 87 → M' o = M o)))) := by
  refine Mt.of (fun ad => [some (.ref (ad (84))), none, none, none]) (by decide +kernel) (fun _ => rfl) (fun _ => rfl) (fun _ => Nat.le_of_ble_eq_true rfl) fun X hX C hR => ?_
  subst hX
  show G X M 0 [some (.ref ((zA X) (84))), none, none, none] []
  refine g_aload_n C dX7_give_0 rfl ?_
  refine gf_Tour_winningLeaf C tw_103 dX7_give_1 ?_
  rw [hw]
  refine g_istore_n C dX7_give_4 (Nat.le_of_ble_eq_true rfl) ?_
  show G X _ 5 [_, _, _, _] _
  refine g_aload_n C dX7_give_5 rfl ?_
  refine g_iload_n C dX7_give_6 rfl ?_
  refine gc_isOver C (by decide) tw_675 (Nat.le_of_ble_eq_true rfl) rfl dX7_give_7 f hf h (?_)
  refine g_if_eq (tgt := 17) C dX7_give_10 rfl (by by_cases q : f < 5 ∧ P f < (F f).length <;> simp [q]) (fun h10 => ?_) (fun h10 => ?_)
  · have hq : f < 5 ∧ P f < (F f).length := by
      by_cases q : f < 5 ∧ P f < (F f).length
      · exact q
      · rw [if_neg q] at h10; omega
    obtain ⟨a1, a2, a3, a4, a5⟩ := h.2.2 f hq.1
    refine g_aload_n C dX7_give_17 rfl ?_
    refine g_iload_n C dX7_give_18 rfl ?_
    refine gc_keyOf C (by decide) tw_680 (Nat.le_of_ble_eq_true rfl) rfl dX7_give_19 f hf h (?_)
    refine g_istore_n C dX7_give_22 (Nat.le_of_ble_eq_true rfl) ?_
    show G X _ 23 [_, _, _, _] _
    refine g_aload_n C dX7_give_23 rfl ?_
    refine gf_Tour_places C tw_109 dX7_give_24 ?_
    refine g_iload_n C dX7_give_27 rfl ?_
    refine g_dup2 C dX7_give_28 rfl rfl ?_
    refine ga_places C _ (by omega) rfl dX7_give_29 ?_
    rw [a2]
    refine g_iconst C dX7_give_30 ?_
    show G X _ 31 _ _
    refine g_iadd C dX7_give_31 ?_
    refine gs_places C _ (by omega) rfl dX7_give_32 ?_
    refine g_aload_n C dX7_give_33 rfl ?_
    refine gf_Tour_leafCount C tw_101 dX7_give_34 ?_
    rw [zu_o _ _ _ _ (by omega), h.1]
    refine g_iload_n C dX7_give_37 rfl ?_
    refine g_iadd C dX7_give_38 ?_
    show G X _ 39 _ _
    refine g_iconst C dX7_give_39 ?_
    refine g_idiv C dX7_give_40 (by omega) (by omega) ?_
    refine g_istore_n C dX7_give_41 (Nat.le_of_ble_eq_true rfl) ?_
    show G X _ 42 [_, _, _, _] _
    rw [show ((8 : Int) + (f : Int)) / 2 = (((8 + f) / 2 : Nat) : Int) by omega]
    generalize hP2 : va_up P f (P f + 1) = P2
    have q1 : P2 f = P f + 1 := by rw [← hP2]; simp [va_up]
    have q2 : ∀ j, j ≠ f → P2 j = P j := fun j hj => by rw [← hP2]; simp [va_up, hj]
    have fin : ∀ (cur : Nat) (N : zM), cur = wN (rk F P2) 1 → zTo N F P2 → N 84 0 = M 84 0 → N 84 3 = M 84 3 + 3 → (∀ n, 1 ≤ n → n ≤ 7 → N 87 n = (lS (rk F P2) n : Int)) → (∀ o, o ≠ 84 → o ≠ 86 → o ≠ 87 → N o = M o) → G X N 42 [some (.ref (zA X 84)), some (.int (jI (cur : Int))), some (.int (jI (tk F P f))), some (.int (jI ((0 : Nat) : Int)))] [] := by
      intro cur N hcur nT n0 n3 nl n9
      refine g_iload_n C dX7_give_42 rfl ?_
      refine g_iconst C dX7_give_43 ?_
      refine g_icmp_lt (tgt := 66) C dX7_give_44 rfl (by omega) (by omega) (fun h44 => ?_) (fun h44 => ?_)
      · refine g_aload_n C dX7_give_66 rfl ?_
        refine g_iload_n C dX7_give_67 rfl ?_
        refine gp_Tour_winningLeaf C tw_103 dX7_give_68 ?_
        refine g_iload_n C dX7_give_71 rfl ?_
        refine g_iret C hR dX7_give_72 ?_
        subst hP2
        refine ⟨_, rfl, rfl, Or.inr ⟨hq.1, hq.2, nT.same3 (zu_k _ _ _ _ (by omega)) (zu_k _ _ _ _ (by omega)) (fun o a _ _ => zu_o _ _ _ _ a), by rw [zu_k _ _ _ _ (by omega)]; exact n0, by rw [zu_s, hcur], by rw [zu_k _ _ _ _ (by omega)]; exact n3, fun k g1 g2 => by rw [zu_o _ _ _ _ (by omega)]; exact nl k g1 g2, fun o a b c => by rw [zu_o _ _ _ _ a]; exact n9 o a b c⟩⟩
      · omega
    have one : ∀ (n cur : Nat) (L : Nat → Nat) (N : zM), 1 ≤ n → n ≤ 7 → cur < 8 → L n < 8 → cur ≠ L n → (∀ j, 1 ≤ j → j ≤ 7 → N 87 j = (L j : Int)) → zTo N F P2 → (∀ N2 : zM, N2 84 3 = N 84 3 + 1 → (∀ k, k ≠ 3 → N2 84 k = N 84 k) → N2 87 n = (mx (rk F P2) cur (L n) : Int) → (∀ k, k ≠ n → N2 87 k = N 87 k) → (∀ o, o ≠ 84 → o ≠ 87 → N2 o = N o) → G X N2 42 [some (.ref (zA X 84)), some (.int (jI (mn (rk F P2) cur (L n) : Int))), some (.int (jI (tk F P f))), some (.int (jI ((n / 2 : Nat) : Int)))] []) → G X N 42 [some (.ref (zA X 84)), some (.int (jI (cur : Int))), some (.int (jI (tk F P f))), some (.int (jI (n : Int)))] [] := by
      intro n cur L N hn1 hn2 hc hLn hne nl nT kk
      refine g_iload_n C dX7_give_42 rfl ?_
      refine g_iconst C dX7_give_43 ?_
      refine g_icmp_lt (tgt := 66) C dX7_give_44 rfl (by omega) (by omega) (fun h44 => ?_) (fun h44 => ?_)
      · omega
      · refine g_aload_n C dX7_give_47 rfl ?_
        refine g_iload_n C dX7_give_48 rfl ?_
        refine g_iload_n C dX7_give_49 rfl ?_
        refine g_aload_n C dX7_give_50 rfl ?_
        refine g_iload_n C dX7_give_51 rfl ?_
        refine gc_loserAt C (by decide) tw_702 (Nat.le_of_ble_eq_true rfl) rfl dX7_give_52 n (by omega) nT.1 (?_)
        rw [nl n (by omega) (by omega)]
        show G X _ 55 _ _
        refine gc_playAt C (by decide) tw_667 (Nat.le_of_ble_eq_true rfl) rfl dX7_give_55 n cur (L n) (by omega) hc hLn hne nT (fun x N2 ⟨p0, p1, p2, p3, p4, p5⟩ => ?_)
        rw [p0]
        refine g_istore_n C dX7_give_58 (Nat.le_of_ble_eq_true rfl) ?_
        show G X _ 59 [_, _, _, _] _
        refine g_iload_n C dX7_give_59 rfl ?_
        refine g_iconst C dX7_give_60 ?_
        refine g_idiv C dX7_give_61 (by omega) (by omega) ?_
        refine g_istore_n C dX7_give_62 (Nat.le_of_ble_eq_true rfl) ?_
        show G X _ 63 [_, _, _, _] _
        refine g_goto (tgt := 42) C dX7_give_63 rfl ?_
        show G X _ 42 _ _
        rw [show (n : Int) / 2 = ((n / 2 : Nat) : Int) by omega]
        exact kk N2 p3 p4 p1 p2 p5
    have hr : ∀ j, j ≠ f → rk F P2 j = rk F P j := fun j hj => by unfold rk tk; rw [q2 j hj]
    obtain ⟨⟨u1, u2, u3, u4⟩, ⟨v1, v2, v3, v4⟩, ⟨x1, x2, x3, x4⟩, y1, y2, y3⟩ := up_3 (r := rk F P) (r' := rk F P2) (f := f) hf hfw (rk_ne F P) (rk_ne F P2) hr
    obtain ⟨N0, hN0⟩ : ∃ N0 : zM, N0 = zu M 86 f ((P f : Int) + 1) := ⟨_, rfl⟩
    rw [← hN0]
    have t0 : zTo N0 F P2 := by
      refine ⟨by rw [hN0, zu_o _ _ _ _ (by omega)]; exact h.1, by rw [hN0, zu_o _ _ _ _ (by omega)]; exact h.2.1, fun i hi => ?_⟩
      obtain ⟨c1, c2, c3, c4, c5⟩ := h.2.2 i hi
      refine ⟨by rw [hN0, zu_o _ _ _ _ (by omega)]; exact c1, ?_, ?_, c4.same (fun o _ _ => by rw [hN0]; exact zu_o _ _ _ _ (by omega)), c5⟩
      · by_cases e : i = f
        · subst e; rw [hN0, zu_s, q1]; rfl
        · rw [hN0, zu_k _ _ _ _ e, q2 i e]; exact c2
      · by_cases e : i = f
        · subst e; rw [q1]; omega
        · rw [q2 i e]; exact c3
    have d0 : ∀ o, o ≠ 86 → N0 o = M o := fun o a => by rw [hN0]; exact zu_o _ _ _ _ a
    have nl0 : ∀ n, 1 ≤ n → n ≤ 7 → N0 87 n = (lS (rk F P) n : Int) := fun n g1 g2 => by rw [d0 87 (by omega)]; exact hl n g1 g2
    obtain ⟨c1, e1⟩ : ∃ c, c = (8 + f) / 2 := ⟨_, rfl⟩
    obtain ⟨c2, e2⟩ : ∃ c, c = (8 + f) / 4 := ⟨_, rfl⟩
    rw [← e1] at u1 u2 u3 u4 v1 v3 v4 y1 y2 ⊢
    rw [← e2] at v1 v2 v3 v4 x1 x3 x4 y1 y3
    refine one c1 f (lS (rk F P)) N0 (by omega) (by omega) hf u2 u1 nl0 t0 (fun N2 b3 b84 bn b87 bo => ?_)
    rw [u3, show c1 / 2 = c2 by omega]
    rw [u4] at bn
    have t2 : zTo N2 F P2 := t0.same3 (b84 1 (by omega)) (b84 5 (by omega)) (fun o a b _ => bo o a b)
    obtain ⟨L2, hL2⟩ : ∃ L2 : Nat → Nat, L2 = va_up (lS (rk F P)) c1 (lS (rk F P2) c1) := ⟨_, rfl⟩
    have hL2c : L2 c2 = lS (rk F P) c2 := by rw [hL2]; simp [va_up]; omega
    have nl2 : ∀ n, 1 ≤ n → n ≤ 7 → N2 87 n = (L2 n : Int) := fun n g1 g2 => by
      rw [hL2]
      by_cases e : n = c1
      · subst e; rw [bn]; simp [va_up]
      · rw [b87 n e, nl0 n g1 g2]; simp [va_up, e]
    refine one c2 (wN (rk F P2) c1) L2 N2 (by omega) (by omega) y2 (by rw [hL2c]; exact v2) (by rw [hL2c]; exact v1) nl2 t2 (fun N3 d3 d84 dn d87 do_ => ?_)
    rw [hL2c] at dn ⊢
    rw [v3, show c2 / 2 = 1 by omega]
    rw [v4] at dn
    have t3 : zTo N3 F P2 := t2.same3 (d84 1 (by omega)) (d84 5 (by omega)) (fun o a b _ => do_ o a b)
    obtain ⟨L3, hL3⟩ : ∃ L3 : Nat → Nat, L3 = va_up L2 c2 (lS (rk F P2) c2) := ⟨_, rfl⟩
    have hL3c : L3 1 = lS (rk F P) 1 := by
      rw [hL3, hL2]
      have k1 : ¬ 1 = c2 := by omega
      have k2 : ¬ 1 = c1 := by omega
      simp [va_up, k1, k2]
    have nl3 : ∀ n, 1 ≤ n → n ≤ 7 → N3 87 n = (L3 n : Int) := fun n g1 g2 => by
      rw [hL3]
      by_cases e : n = c2
      · subst e; rw [dn]; simp [va_up]
      · rw [d87 n e, nl2 n g1 g2]; simp [va_up, e]
    refine one 1 (wN (rk F P2) c2) L3 N3 (by omega) (by omega) y3 (by rw [hL3c]; exact x2) (by rw [hL3c]; exact x1) nl3 t3 (fun N4 e3 e84 en e87 eo => ?_)
    rw [hL3c] at en ⊢
    rw [x3]
    rw [x4] at en
    have t4 : zTo N4 F P2 := t3.same3 (e84 1 (by omega)) (e84 5 (by omega)) (fun o a b _ => eo o a b)
    refine fin _ N4 rfl t4 ?_ ?_ (fun n g1 g2 => ?_) (fun o a b c => ?_)
    · rw [e84 0 (by omega), d84 0 (by omega), b84 0 (by omega), d0 84 (by omega)]
    · rw [e3, d3, b3, d0 84 (by omega)]; omega
    · by_cases k1 : n = 1
      · subst k1; exact en
      · rw [e87 n k1]
        by_cases k2 : n = c2
        · subst k2; exact dn
        · rw [d87 n k2]
          by_cases k3 : n = c1
          · subst k3; exact bn
          · rw [b87 n k3, nl0 n g1 g2, y1 n g1 g2 k3 k2 k1]
    · rw [eo o a c, do_ o a c, bo o a c, d0 o b]
  · refine g_sipush C dX7_give_13 rfl ?_
    refine g_iret C hR dX7_give_16 ?_
    have hq : ¬ (f < 5 ∧ P f < (F f).length) := by
      intro q
      rw [if_pos q] at h10; omega
    have e : tk F P f = 1000 := by unfold tk; rw [if_neg hq]
    exact ⟨_, rfl, e.symm, Or.inl ⟨e, rfl⟩⟩
theorem gc_give {X : z_X} {cc : ByteArray} {own : String} {ret : Option FieldType} {dC nC : Nat} {M : zM} {pc : Nat} {lv : List (Option Value)} {st : List Value} (C : Cx cc own ret dC nC X) (hdep : 7 ≤ dC) {idx : Nat} (hl0 : Cond.methodLink own idx yX7_give ∈ tT) (hcat : (st.map fun v => v.category).sum ≤ 8) (hlen : lv.length = nC) (hdec : decode cc pc = .ok (.invokevirtual idx, 3)) {F : Nat → List (Int × Int)} {P : Nat → Nat} (f : Nat) (hf : f < 8) (h : zTo M F P) (hw : M 84 2 = (f : Int)) (hfw : wN (rk F P) 1 = f) (hl : ∀ n, 1 ≤ n → n ≤ 7 → M 87 n = (lS (rk F P) n : Int)) (kk : ∀ (x : Int) (M' : zM), (x = tk F P f ∧ ((tk F P f = 1000 ∧ M' = M) ∨ (f < 5 ∧ P f < (F f).length ∧ zTo M' F (va_up P f (P f + 1)) ∧ M' 84 0 = M 84 0 ∧ M' 84 2 = (wN (rk F (va_up P f (P f + 1))) 1 : Int) ∧ M' 84 3 = M 84 3 + 3 ∧ (∀ n, 1 ≤ n → n ≤ 7 → M' 87 n = (lS (rk F (va_up P f (P f + 1))) n : Int)) ∧ ∀ o, o ≠ 84 → o ≠ 86 → o ≠ 87 → M' o = M o))) → G X M' (pc + 3) lv (.int (jI x) :: st)) : G X M pc lv (.ref (zA X (84)) :: st) := by
  refine g_callV (k := 0) (o := 84) C (c_give (zL X) f hf M h hw hfw hl) mfX7_give hl0 ⟨rfl, by decide +kernel, by decide +kernel, by decide +kernel⟩ ⟨hdep, by decide⟩ (by omega) (fun _ _ _ _ => ze_tour) rfl rfl rfl rfl hcat hlen hdec (fun v M' h => ?_)
  obtain ⟨x, rfl, h⟩ := h
  exact kk x M' h
