/-! the tournament's methods -/
theorem zTo.same {M M' : zM} {F : Nat → List (Int × Int)} {P : Nat → Nat} (h : zTo M F P) (h1 : M' 84 1 = M 84 1) (h5 : M' 84 5 = M 84 5) (hf : ∀ o, o ≠ 84 → o ≠ 87 → M' o = M o) : zTo M' F P :=
  ⟨h1.trans h.1, h5.trans h.2.1, fun i hi => by
    obtain ⟨a, b, c, d, e⟩ := h.2.2 i hi
    exact ⟨by rw [hf 85 (by omega) (by omega)]; exact a, by rw [hf 86 (by omega) (by omega)]; exact b, c, d.same (fun o _ _ => hf o (by omega) (by omega)), e⟩⟩
theorem zTo.same2 {M M' : zM} {F : Nat → List (Int × Int)} {P : Nat → Nat} (h : zTo M F P) (h1 : M' 84 = M 84) (hf : ∀ o, o ≠ 84 → o ≠ 88 → M' o = M o) : zTo M' F P :=
  ⟨by rw [h1]; exact h.1, by rw [h1]; exact h.2.1, fun i hi => by
    obtain ⟨a, b, c, d, e⟩ := h.2.2 i hi
    exact ⟨by rw [hf 85 (by omega) (by omega)]; exact a, by rw [hf 86 (by omega) (by omega)]; exact b, c, d.same (fun o _ _ => hf o (by omega) (by omega)), e⟩⟩
theorem zTo.same3 {M M' : zM} {F : Nat → List (Int × Int)} {P : Nat → Nat} (h : zTo M F P) (h1 : M' 84 1 = M 84 1) (h5 : M' 84 5 = M 84 5) (hf : ∀ o, o ≠ 84 → o ≠ 87 → o ≠ 88 → M' o = M o) : zTo M' F P :=
  ⟨h1.trans h.1, h5.trans h.2.1, fun i hi => by
    obtain ⟨a, b, c, d, e⟩ := h.2.2 i hi
    exact ⟨by rw [hf 85 (by omega) (by omega) (by omega)]; exact a, by rw [hf 86 (by omega) (by omega) (by omega)]; exact b, c, d.same (fun o _ _ => hf o (by omega) (by omega) (by omega)), e⟩⟩
set_option maxHeartbeats 4000000 in
set_option maxRecDepth 10000 in
theorem c_isOver (l : Launch) {F : Nat → List (Int × Int)} {P : Nat → Nat} (i : Nat) (hi : i < 8) (M : zM) (h : zTo M F P) : Mt l 2 yX7_isOver cX7_isOver 2 (some .boolean) (fun ad => [.ref (ad (84)), .int (jI ((i : Int)))]) M (fun _ vv M' => vv = some (.int (jI ((if i < 5 ∧ P i < (F i).length then 0 else 1)))) ∧ M' = M) := by
  refine Mt.of (fun ad => [some (.ref (ad (84))), some (.int (jI ((i : Int))))]) (by decide +kernel) (fun _ => rfl) (fun _ => rfl) (fun _ => Nat.le_of_ble_eq_true rfl) fun X hX C hR => ?_
  subst hX
  show G X M 0 [some (.ref ((zA X) (84))), some (.int (jI ((i : Int))))] []
  refine g_iload_n C dX7_isOver_0 rfl ?_
  refine g_if_lt (tgt := 39) C dX7_isOver_1 rfl (by omega) (fun h1 => ?_) (fun h1 => ?_)
  · omega
  · refine g_iload_n C dX7_isOver_4 rfl ?_
    refine g_aload_n C dX7_isOver_5 rfl ?_
    refine gf_Tour_rowCount C tw_107 dX7_isOver_6 ?_
    rw [h.2.1]
    refine g_icmp_ge (tgt := 39) C dX7_isOver_9 rfl (by omega) (by omega) (fun h9 => ?_) (fun h9 => ?_)
    · refine g_iconst C dX7_isOver_39 ?_
      refine g_goto (tgt := 44) C dX7_isOver_40 rfl ?_
      show G X _ 44 _ _
      refine g_zret C hR (by omega) dX7_isOver_44 ?_
      exact ⟨by rw [if_neg (by omega)], rfl⟩
    · have hi5 : i < 5 := by omega
      obtain ⟨a1, a2, a3, a4, a5⟩ := h.2.2 i hi5
      have a6 := a4.2.1
      refine g_aload_n C dX7_isOver_12 rfl ?_
      refine gf_Tour_rows C tw_108 dX7_isOver_13 ?_
      refine g_iload_n C dX7_isOver_16 rfl ?_
      refine ga_trows C _ (2 + i) a1 (by omega) rfl dX7_isOver_17 ?_
      refine g_ifnull C dX7_isOver_18 ?_
      refine g_aload_n C dX7_isOver_21 rfl ?_
      show G X _ 22 _ _
      refine gf_Tour_places C tw_109 dX7_isOver_22 ?_
      refine g_iload_n C dX7_isOver_25 rfl ?_
      refine ga_places C _ (by omega) rfl dX7_isOver_26 ?_
      rw [a2]
      refine g_aload_n C dX7_isOver_27 rfl ?_
      refine gf_Tour_rows C tw_108 dX7_isOver_28 ?_
      refine g_iload_n C dX7_isOver_31 rfl ?_
      show G X _ 32 _ _
      refine ga_trows C _ (2 + i) a1 (by omega) rfl dX7_isOver_32 ?_
      refine gc_Row_count C (by decide) tw_679 (Nat.le_of_ble_eq_true rfl) rfl dX7_isOver_33 (by omega) a4 (?_)
      refine g_icmp_lt (tgt := 43) C dX7_isOver_36 rfl (by omega) (by omega) (fun h36 => ?_) (fun h36 => ?_)
      · refine g_iconst C dX7_isOver_43 ?_
        refine g_zret C hR (by omega) dX7_isOver_44 ?_
        exact ⟨by rw [if_pos (by omega)], rfl⟩
      · refine g_iconst C dX7_isOver_39 ?_
        refine g_goto (tgt := 44) C dX7_isOver_40 rfl ?_
        show G X _ 44 _ _
        refine g_zret C hR (by omega) dX7_isOver_44 ?_
        exact ⟨by rw [if_neg (by omega)], rfl⟩
theorem gc_isOver {X : z_X} {cc : ByteArray} {own : String} {ret : Option FieldType} {dC nC : Nat} {M : zM} {pc : Nat} {lv : List (Option Value)} {st : List Value} (C : Cx cc own ret dC nC X) (hdep : 3 ≤ dC) {idx : Nat} (hl0 : Cond.methodLink own idx yX7_isOver ∈ tT) (hcat : (st.map fun v => v.category).sum ≤ 8) (hlen : lv.length = nC) (hdec : decode cc pc = .ok (.invokevirtual idx, 3)) {F : Nat → List (Int × Int)} {P : Nat → Nat} (i : Nat) (hi : i < 8) (h : zTo M F P) (kk : G X M (pc + 3) lv (.int (jI ((if i < 5 ∧ P i < (F i).length then 0 else 1))) :: st)) : G X M pc lv (.int (jI ((i : Int))) :: .ref (zA X (84)) :: st) := by
  refine g_callV (k := 1) (o := 84) C (c_isOver (zL X) i hi M h) mfX7_isOver hl0 ⟨rfl, by decide +kernel, by decide +kernel, by decide +kernel⟩ ⟨hdep, by decide⟩ (by omega) (fun _ _ _ _ => ze_tour) rfl rfl rfl rfl hcat hlen hdec (fun v M' h => ?_)
  obtain ⟨rfl, rfl⟩ := h
  exact kk
set_option maxHeartbeats 4000000 in
set_option maxRecDepth 10000 in
theorem c_keyOf (l : Launch) {F : Nat → List (Int × Int)} {P : Nat → Nat} (i : Nat) (hi : i < 8) (M : zM) (h : zTo M F P) : Mt l 3 yX7_keyOf cX7_keyOf 2 (some .int) (fun ad => [.ref (ad (84)), .int (jI ((i : Int)))]) M (fun _ vv M' => vv = some (.int (jI (tk F P i))) ∧ M' = M) := by
  refine Mt.of (fun ad => [some (.ref (ad (84))), some (.int (jI ((i : Int))))]) (by decide +kernel) (fun _ => rfl) (fun _ => rfl) (fun _ => Nat.le_of_ble_eq_true rfl) fun X hX C hR => ?_
  subst hX
  show G X M 0 [some (.ref ((zA X) (84))), some (.int (jI ((i : Int))))] []
  refine g_aload_n C dX7_keyOf_0 rfl ?_
  refine g_iload_n C dX7_keyOf_1 rfl ?_
  refine gc_isOver C (by decide) tw_675 (Nat.le_of_ble_eq_true rfl) rfl dX7_keyOf_2 i hi h (?_)
  refine g_if_eq (tgt := 14) C dX7_keyOf_5 rfl (by by_cases q : i < 5 ∧ P i < (F i).length <;> simp [q]) (fun h5 => ?_) (fun h5 => ?_)
  · have hq : i < 5 ∧ P i < (F i).length := by
      by_cases q : i < 5 ∧ P i < (F i).length
      · exact q
      · rw [if_neg q] at h5; omega
    obtain ⟨a1, a2, a3, a4, a5⟩ := h.2.2 i hq.1
    have a6 := a4.2.1
    refine g_aload_n C dX7_keyOf_14 rfl ?_
    refine gf_Tour_rows C tw_108 dX7_keyOf_15 ?_
    refine g_iload_n C dX7_keyOf_18 rfl ?_
    refine ga_trows C _ (2 + i) a1 (by omega) rfl dX7_keyOf_19 ?_
    refine g_aload_n C dX7_keyOf_20 rfl ?_
    refine gf_Tour_places C tw_109 dX7_keyOf_21 ?_
    show G X _ 24 _ _
    refine g_iload_n C dX7_keyOf_24 rfl ?_
    refine ga_places C _ (by omega) rfl dX7_keyOf_25 ?_
    rw [a2]
    refine gc_Row_keyAt C (by decide) tw_684 (Nat.le_of_ble_eq_true rfl) rfl dX7_keyOf_26 (by omega) (P i) hq.2 a4 (?_)
    refine g_iret C hR dX7_keyOf_29 ?_
    exact ⟨by unfold tk; rw [if_pos hq], rfl⟩
  · refine g_sipush C dX7_keyOf_8 rfl ?_
    refine g_goto (tgt := 29) C dX7_keyOf_11 rfl ?_
    show G X _ 29 _ _
    refine g_iret C hR dX7_keyOf_29 ?_
    have hq : ¬ (i < 5 ∧ P i < (F i).length) := by
      intro q
      rw [if_pos q] at h5; omega
    exact ⟨by unfold tk; rw [if_neg hq], rfl⟩
theorem gc_keyOf {X : z_X} {cc : ByteArray} {own : String} {ret : Option FieldType} {dC nC : Nat} {M : zM} {pc : Nat} {lv : List (Option Value)} {st : List Value} (C : Cx cc own ret dC nC X) (hdep : 4 ≤ dC) {idx : Nat} (hl0 : Cond.methodLink own idx yX7_keyOf ∈ tT) (hcat : (st.map fun v => v.category).sum ≤ 8) (hlen : lv.length = nC) (hdec : decode cc pc = .ok (.invokevirtual idx, 3)) {F : Nat → List (Int × Int)} {P : Nat → Nat} (i : Nat) (hi : i < 8) (h : zTo M F P) (kk : G X M (pc + 3) lv (.int (jI (tk F P i)) :: st)) : G X M pc lv (.int (jI ((i : Int))) :: .ref (zA X (84)) :: st) := by
  refine g_callV (k := 1) (o := 84) C (c_keyOf (zL X) i hi M h) mfX7_keyOf hl0 ⟨rfl, by decide +kernel, by decide +kernel, by decide +kernel⟩ ⟨hdep, by decide⟩ (by omega) (fun _ _ _ _ => ze_tour) rfl rfl rfl rfl hcat hlen hdec (fun v M' h => ?_)
  obtain ⟨rfl, rfl⟩ := h
  exact kk
set_option maxHeartbeats 4000000 in
set_option maxRecDepth 10000 in
theorem c_isWinning (l : Launch) {F : Nat → List (Int × Int)} {P : Nat → Nat} (a b : Nat) (ha : a < 8) (hb : b < 8) (hab : a ≠ b) (M : zM) (h : zTo M F P) : Mt l 4 yX7_isWinning cX7_isWinning 3 (some .boolean) (fun ad => [.ref (ad (84)), .int (jI ((a : Int))), .int (jI ((b : Int)))]) M (fun _ vv M' => vv = some (.int (jI (if rk F P a < rk F P b then 1 else 0))) ∧ M' = M) := by
  refine Mt.of (fun ad => [some (.ref (ad (84))), some (.int (jI ((a : Int)))), some (.int (jI ((b : Int))))]) (by decide +kernel) (fun _ => rfl) (fun _ => rfl) (fun _ => Nat.le_of_ble_eq_true rfl) fun X hX C hR => ?_
  subst hX
  show G X M 0 [some (.ref ((zA X) (84))), some (.int (jI ((a : Int)))), some (.int (jI ((b : Int))))] []
  have ka := tk_in (F := F) (P := P) (fun i hi => (h.2.2 i hi).2.2.2.2) a
  have kb := tk_in (F := F) (P := P) (fun i hi => (h.2.2 i hi).2.2.2.2) b
  obtain ⟨ua, hua⟩ : ∃ u : Int, u = (if a < 5 ∧ P a < (F a).length then (0 : Int) else 1) := ⟨_, rfl⟩
  obtain ⟨ub, hub⟩ : ∃ u : Int, u = (if b < 5 ∧ P b < (F b).length then (0 : Int) else 1) := ⟨_, rfl⟩
  have va : (ua = 0 ∧ tk F P a < 1000) ∨ (ua = 1 ∧ tk F P a = 1000) := by
    rw [hua]
    by_cases q : a < 5 ∧ P a < (F a).length
    · rw [if_pos q]; exact Or.inl ⟨rfl, by have := ka.2.2; omega⟩
    · rw [if_neg q]; exact Or.inr ⟨rfl, ka.2.2.mpr q⟩
  have vb : (ub = 0 ∧ tk F P b < 1000) ∨ (ub = 1 ∧ tk F P b = 1000) := by
    rw [hub]
    by_cases q : b < 5 ∧ P b < (F b).length
    · rw [if_pos q]; exact Or.inl ⟨rfl, by have := kb.2.2; omega⟩
    · rw [if_neg q]; exact Or.inr ⟨rfl, kb.2.2.mpr q⟩
  have fin : ∀ x : Int, (x = if rk F P a < rk F P b then 1 else 0) → some (Value.int (jI x)) = some (Value.int (jI (if rk F P a < rk F P b then 1 else 0))) := fun x e => by rw [e]
  refine g_aload_n C dX7_isWinning_0 rfl ?_
  refine g_iload_n C dX7_isWinning_1 rfl ?_
  refine gc_isOver C (by decide) tw_675 (Nat.le_of_ble_eq_true rfl) rfl dX7_isWinning_2 a ha h (?_)
  rw [← hua]
  refine g_aload_n C dX7_isWinning_5 rfl ?_
  refine g_iload_n C dX7_isWinning_6 rfl ?_
  refine gc_isOver C (by decide) tw_675 (Nat.le_of_ble_eq_true rfl) rfl dX7_isWinning_7 b hb h (?_)
  rw [← hub]
  show G X _ 10 _ _
  refine g_icmp_eq (tgt := 19) C dX7_isWinning_10 rfl (by omega) (by omega) (fun h10 => ?_) (fun h10 => ?_)
  · refine g_aload_n C dX7_isWinning_19 rfl ?_
    refine g_iload_n C dX7_isWinning_20 rfl ?_
    refine gc_isOver C (by decide) tw_675 (Nat.le_of_ble_eq_true rfl) rfl dX7_isWinning_21 a ha h (?_)
    rw [← hua]
    refine g_if_ne (tgt := 59) C dX7_isWinning_24 rfl (by omega) (fun h24 => ?_) (fun h24 => ?_)
    · refine g_iload_n C dX7_isWinning_59 rfl ?_
      refine g_iload_n C dX7_isWinning_60 rfl ?_
      refine g_icmp_ge (tgt := 68) C dX7_isWinning_61 rfl (by omega) (by omega) (fun h61 => ?_) (fun h61 => ?_)
      · refine g_iconst C dX7_isWinning_68 ?_
        refine g_zret C hR (by omega) dX7_isWinning_69 ?_
        refine ⟨fin _ ?_, rfl⟩
        unfold rk
        first | rw [if_pos (by omega)] | rw [if_neg (by omega)]
      · refine g_iconst C dX7_isWinning_64 ?_
        refine g_goto (tgt := 69) C dX7_isWinning_65 rfl ?_
        show G X _ 69 _ _
        refine g_zret C hR (by omega) dX7_isWinning_69 ?_
        refine ⟨fin _ ?_, rfl⟩
        unfold rk
        first | rw [if_pos (by omega)] | rw [if_neg (by omega)]
    · refine g_aload_n C dX7_isWinning_27 rfl ?_
      refine g_iload_n C dX7_isWinning_28 rfl ?_
      refine gc_keyOf C (by decide) tw_680 (Nat.le_of_ble_eq_true rfl) rfl dX7_isWinning_29 a ha h (?_)
      refine g_aload_n C dX7_isWinning_32 rfl ?_
      refine g_iload_n C dX7_isWinning_33 rfl ?_
      refine gc_keyOf C (by decide) tw_680 (Nat.le_of_ble_eq_true rfl) rfl dX7_isWinning_34 b hb h (?_)
      show G X _ 37 _ _
      refine g_icmp_eq (tgt := 59) C dX7_isWinning_37 rfl (by omega) (by omega) (fun h37 => ?_) (fun h37 => ?_)
      · refine g_iload_n C dX7_isWinning_59 rfl ?_
        refine g_iload_n C dX7_isWinning_60 rfl ?_
        refine g_icmp_ge (tgt := 68) C dX7_isWinning_61 rfl (by omega) (by omega) (fun h61 => ?_) (fun h61 => ?_)
        · refine g_iconst C dX7_isWinning_68 ?_
          refine g_zret C hR (by omega) dX7_isWinning_69 ?_
          refine ⟨fin _ ?_, rfl⟩
          unfold rk
          first | rw [if_pos (by omega)] | rw [if_neg (by omega)]
        · refine g_iconst C dX7_isWinning_64 ?_
          refine g_goto (tgt := 69) C dX7_isWinning_65 rfl ?_
          show G X _ 69 _ _
          refine g_zret C hR (by omega) dX7_isWinning_69 ?_
          refine ⟨fin _ ?_, rfl⟩
          unfold rk
          first | rw [if_pos (by omega)] | rw [if_neg (by omega)]
      · refine g_aload_n C dX7_isWinning_40 rfl ?_
        refine g_iload_n C dX7_isWinning_41 rfl ?_
        refine gc_keyOf C (by decide) tw_680 (Nat.le_of_ble_eq_true rfl) rfl dX7_isWinning_42 a ha h (?_)
        refine g_aload_n C dX7_isWinning_45 rfl ?_
        refine g_iload_n C dX7_isWinning_46 rfl ?_
        refine gc_keyOf C (by decide) tw_680 (Nat.le_of_ble_eq_true rfl) rfl dX7_isWinning_47 b hb h (?_)
        show G X _ 50 _ _
        refine g_icmp_ge (tgt := 57) C dX7_isWinning_50 rfl (by omega) (by omega) (fun h50 => ?_) (fun h50 => ?_)
        · refine g_iconst C dX7_isWinning_57 ?_
          refine g_zret C hR (by omega) dX7_isWinning_58 ?_
          refine ⟨fin _ ?_, rfl⟩
          unfold rk
          first | rw [if_pos (by omega)] | rw [if_neg (by omega)]
        · refine g_iconst C dX7_isWinning_53 ?_
          refine g_goto (tgt := 58) C dX7_isWinning_54 rfl ?_
          show G X _ 58 _ _
          refine g_zret C hR (by omega) dX7_isWinning_58 ?_
          refine ⟨fin _ ?_, rfl⟩
          unfold rk
          first | rw [if_pos (by omega)] | rw [if_neg (by omega)]
  · refine g_aload_n C dX7_isWinning_13 rfl ?_
    refine g_iload_n C dX7_isWinning_14 rfl ?_
    refine gc_isOver C (by decide) tw_675 (Nat.le_of_ble_eq_true rfl) rfl dX7_isWinning_15 b hb h (?_)
    rw [← hub]
    refine g_zret C hR (by omega) dX7_isWinning_18 ?_
    refine ⟨fin _ ?_, rfl⟩
    unfold rk
    by_cases q : tk F P a * 8 + (a : Int) < tk F P b * 8 + (b : Int)
    · rw [if_pos q]; omega
    · rw [if_neg q]; omega
theorem gc_isWinning {X : z_X} {cc : ByteArray} {own : String} {ret : Option FieldType} {dC nC : Nat} {M : zM} {pc : Nat} {lv : List (Option Value)} {st : List Value} (C : Cx cc own ret dC nC X) (hdep : 5 ≤ dC) {idx : Nat} (hl0 : Cond.methodLink own idx yX7_isWinning ∈ tT) (hcat : (st.map fun v => v.category).sum ≤ 8) (hlen : lv.length = nC) (hdec : decode cc pc = .ok (.invokevirtual idx, 3)) {F : Nat → List (Int × Int)} {P : Nat → Nat} (a b : Nat) (ha : a < 8) (hb : b < 8) (hab : a ≠ b) (h : zTo M F P) (kk : G X M (pc + 3) lv (.int (jI (if rk F P a < rk F P b then 1 else 0)) :: st)) : G X M pc lv (.int (jI ((b : Int))) :: .int (jI ((a : Int))) :: .ref (zA X (84)) :: st) := by
  refine g_callV (k := 2) (o := 84) C (c_isWinning (zL X) a b ha hb hab M h) mfX7_isWinning hl0 ⟨rfl, by decide +kernel, by decide +kernel, by decide +kernel⟩ ⟨hdep, by decide⟩ (by omega) (fun _ _ _ _ => ze_tour) rfl rfl rfl rfl hcat hlen hdec (fun v M' h => ?_)
  obtain ⟨rfl, rfl⟩ := h
  exact kk
set_option maxHeartbeats 4000000 in
set_option maxRecDepth 10000 in
theorem c_hasNode (l : Launch) (n : Nat) (hn : 1 ≤ n ∧ n ≤ 7) (M : zM) (h : M 84 1 = 8) : Mt l 1 yX7_hasNode cX7_hasNode 2 (some .boolean) (fun ad => [.ref (ad (84)), .int (jI ((n : Int)))]) M (fun _ vv M' => vv = some (.int (jI (1))) ∧ M' = M) := by
  refine Mt.of (fun ad => [some (.ref (ad (84))), some (.int (jI ((n : Int))))]) (by decide +kernel) (fun _ => rfl) (fun _ => rfl) (fun _ => Nat.le_of_ble_eq_true rfl) fun X hX C hR => ?_
  subst hX
  show G X M 0 [some (.ref ((zA X) (84))), some (.int (jI ((n : Int))))] []
  refine g_iload_n C dX7_hasNode_0 rfl ?_
  refine g_iconst C dX7_hasNode_1 ?_
  refine g_icmp_lt (tgt := 17) C dX7_hasNode_2 rfl (by omega) (by omega) (fun h2 => ?_) (fun h2 => ?_)
  · omega
  · refine g_iload_n C dX7_hasNode_5 rfl ?_
    refine g_aload_n C dX7_hasNode_6 rfl ?_
    refine gf_Tour_leafCount C tw_101 dX7_hasNode_7 ?_
    rw [h]
    refine g_icmp_ge (tgt := 17) C dX7_hasNode_10 rfl (by omega) (by omega) (fun h10 => ?_) (fun h10 => ?_)
    · omega
    · refine g_iconst C dX7_hasNode_13 ?_
      refine g_goto (tgt := 18) C dX7_hasNode_14 rfl ?_
      show G X _ 18 _ _
      refine g_zret C hR (by omega) dX7_hasNode_18 ?_
      exact ⟨rfl, rfl⟩
theorem gc_hasNode {X : z_X} {cc : ByteArray} {own : String} {ret : Option FieldType} {dC nC : Nat} {M : zM} {pc : Nat} {lv : List (Option Value)} {st : List Value} (C : Cx cc own ret dC nC X) (hdep : 2 ≤ dC) {idx : Nat} (hl0 : Cond.methodLink own idx yX7_hasNode ∈ tT) (hcat : (st.map fun v => v.category).sum ≤ 8) (hlen : lv.length = nC) (hdec : decode cc pc = .ok (.invokevirtual idx, 3)) (n : Nat) (hn : 1 ≤ n ∧ n ≤ 7) (h : M 84 1 = 8) (kk : G X M (pc + 3) lv (.int (jI (1)) :: st)) : G X M pc lv (.int (jI ((n : Int))) :: .ref (zA X (84)) :: st) := by
  refine g_callV (k := 1) (o := 84) C (c_hasNode (zL X) n hn M h) mfX7_hasNode hl0 ⟨rfl, by decide +kernel, by decide +kernel, by decide +kernel⟩ ⟨hdep, by decide⟩ (by omega) (fun _ _ _ _ => ze_tour) rfl rfl rfl rfl hcat hlen hdec (fun v M' h => ?_)
  obtain ⟨rfl, rfl⟩ := h
  exact kk
set_option maxHeartbeats 4000000 in
set_option maxRecDepth 10000 in
theorem c_loserAt (l : Launch) (n : Nat) (hn : 1 ≤ n ∧ n ≤ 7) (M : zM) (h : M 84 1 = 8) : Mt l 2 yX7_loserAt cX7_loserAt 2 (some .int) (fun ad => [.ref (ad (84)), .int (jI ((n : Int)))]) M (fun _ vv M' => vv = some (.int (jI (M 87 n))) ∧ M' = M) := by
  refine Mt.of (fun ad => [some (.ref (ad (84))), some (.int (jI ((n : Int))))]) (by decide +kernel) (fun _ => rfl) (fun _ => rfl) (fun _ => Nat.le_of_ble_eq_true rfl) fun X hX C hR => ?_
  subst hX
  show G X M 0 [some (.ref ((zA X) (84))), some (.int (jI ((n : Int))))] []
  refine g_aload_n C dX7_loserAt_0 rfl ?_
  refine g_iload_n C dX7_loserAt_1 rfl ?_
  refine gc_hasNode C (by decide) tw_685 (Nat.le_of_ble_eq_true rfl) rfl dX7_loserAt_2 n hn h (?_)
  refine g_if_eq (tgt := 17) C dX7_loserAt_5 rfl (by omega) (fun h5 => ?_) (fun h5 => ?_)
  · omega
  · refine g_aload_n C dX7_loserAt_8 rfl ?_
    refine gf_Tour_losers C tw_110 dX7_loserAt_9 ?_
    refine g_iload_n C dX7_loserAt_12 rfl ?_
    refine ga_losers C _ (by omega) rfl dX7_loserAt_13 ?_
    refine g_goto (tgt := 18) C dX7_loserAt_14 rfl ?_
    show G X _ 18 _ _
    refine g_iret C hR dX7_loserAt_18 ?_
    exact ⟨rfl, rfl⟩
theorem gc_loserAt {X : z_X} {cc : ByteArray} {own : String} {ret : Option FieldType} {dC nC : Nat} {M : zM} {pc : Nat} {lv : List (Option Value)} {st : List Value} (C : Cx cc own ret dC nC X) (hdep : 3 ≤ dC) {idx : Nat} (hl0 : Cond.methodLink own idx yX7_loserAt ∈ tT) (hcat : (st.map fun v => v.category).sum ≤ 8) (hlen : lv.length = nC) (hdec : decode cc pc = .ok (.invokevirtual idx, 3)) (n : Nat) (hn : 1 ≤ n ∧ n ≤ 7) (h : M 84 1 = 8) (kk : G X M (pc + 3) lv (.int (jI (M 87 n)) :: st)) : G X M pc lv (.int (jI ((n : Int))) :: .ref (zA X (84)) :: st) := by
  refine g_callV (k := 1) (o := 84) C (c_loserAt (zL X) n hn M h) mfX7_loserAt hl0 ⟨rfl, by decide +kernel, by decide +kernel, by decide +kernel⟩ ⟨hdep, by decide⟩ (by omega) (fun _ _ _ _ => ze_tour) rfl rfl rfl rfl hcat hlen hdec (fun v M' h => ?_)
  obtain ⟨rfl, rfl⟩ := h
  exact kk
set_option maxHeartbeats 4000000 in
set_option maxRecDepth 10000 in
theorem c_playAt (l : Launch) {F : Nat → List (Int × Int)} {P : Nat → Nat} (n a b : Nat) (hn : 1 ≤ n ∧ n ≤ 7) (ha : a < 8) (hb : b < 8) (hab : a ≠ b) (M : zM) (h : zTo M F P) : Mt l 5 yX7_playAt cX7_playAt 5 (some .int) (fun ad => [.ref (ad (84)), .int (jI ((n : Int))), .int (jI ((a : Int))), .int (jI ((b : Int)))]) M (fun _ vv M' => ∃ x : Int, vv = some (.int (jI x)) ∧ (x = (mn (rk F P) a b : Int) ∧ M' 87 n = (mx (rk F P) a b : Int) ∧ (∀ k, k ≠ n → M' 87 k = M 87 k) ∧ M' 84 3 = M 84 3 + 1 ∧ (∀ k, k ≠ 3 → M' 84 k = M 84 k) ∧ ∀ o, o ≠ 84 → o ≠ 87 → M' o = M o)) := by
  refine Mt.of (fun ad => [some (.ref (ad (84))), some (.int (jI ((n : Int)))), some (.int (jI ((a : Int)))), some (.int (jI ((b : Int)))), none]) (by decide +kernel) (fun _ => rfl) (fun _ => rfl) (fun _ => Nat.le_of_ble_eq_true rfl) fun X hX C hR => ?_
  subst hX
  show G X M 0 [some (.ref ((zA X) (84))), some (.int (jI ((n : Int)))), some (.int (jI ((a : Int)))), some (.int (jI ((b : Int)))), none] []
  refine g_aload_n C dX7_playAt_0 rfl ?_
  refine g_iload_n C dX7_playAt_1 rfl ?_
  refine g_iload_n C dX7_playAt_2 rfl ?_
  refine gc_isWinning C (by decide) tw_671 (Nat.le_of_ble_eq_true rfl) rfl dX7_playAt_3 a b ha hb hab h (?_)
  refine g_istore C dX7_playAt_6 (Nat.le_of_ble_eq_true rfl) ?_
  show G X _ 8 [_, _, _, _, _] _
  refine g_aload_n C dX7_playAt_8 rfl ?_
  refine g_iload_n C dX7_playAt_9 rfl ?_
  refine gc_hasNode C (by decide) tw_685 (Nat.le_of_ble_eq_true rfl) rfl dX7_playAt_10 n hn h.1 (?_)
  refine g_if_eq (tgt := 32) C dX7_playAt_13 rfl (by omega) (fun h13 => ?_) (fun h13 => ?_)
  · omega
  · refine g_aload_n C dX7_playAt_16 rfl ?_
    refine gf_Tour_losers C tw_110 dX7_playAt_17 ?_
    refine g_iload_n C dX7_playAt_20 rfl ?_
    refine g_iload C dX7_playAt_21 rfl ?_
    refine g_if_eq (tgt := 30) C dX7_playAt_23 rfl (by by_cases q : rk F P a < rk F P b <;> simp [q]) (fun h23 => ?_) (fun h23 => ?_)
    · refine g_iload_n C dX7_playAt_30 rfl ?_
      refine gs_losers C _ (by omega) rfl dX7_playAt_31 ?_
      refine g_aload_n C dX7_playAt_32 rfl ?_
      refine g_dup C dX7_playAt_33 rfl ?_
      refine gf_Tour_matchCount C tw_104 dX7_playAt_34 ?_
      rw [zu_o _ _ _ _ (by omega)]
      refine g_iconst C dX7_playAt_37 ?_
      show G X _ 38 _ _
      refine g_iadd C dX7_playAt_38 ?_
      refine gp_Tour_matchCount C tw_104 dX7_playAt_39 ?_
      refine g_iload C dX7_playAt_42 rfl ?_
      refine g_if_eq (tgt := 51) C dX7_playAt_44 rfl (by by_cases q : rk F P a < rk F P b <;> simp [q]) (fun h44 => ?_) (fun h44 => ?_)
      · refine g_iload_n C dX7_playAt_51 rfl ?_
        refine g_iret C hR dX7_playAt_52 ?_
        have q : ¬ rk F P a < rk F P b := by
          intro q
          rw [if_pos q] at h23; omega
        exact ⟨_, rfl, by unfold mn; rw [if_neg q], by unfold mx; rw [if_neg q, zu_o _ _ _ _ (by omega), zu_s], fun k hk => by rw [zu_o _ _ _ _ (by omega), zu_k _ _ _ _ hk], zu_s _ _ _ _, fun k hk => by rw [zu_k _ _ _ _ hk, zu_o _ _ _ _ (by omega)], fun o c d => by rw [zu_o _ _ _ _ c, zu_o _ _ _ _ d]⟩
      · omega
    · refine g_iload_n C dX7_playAt_26 rfl ?_
      refine g_goto (tgt := 31) C dX7_playAt_27 rfl ?_
      show G X _ 31 _ _
      refine gs_losers C _ (by omega) rfl dX7_playAt_31 ?_
      refine g_aload_n C dX7_playAt_32 rfl ?_
      refine g_dup C dX7_playAt_33 rfl ?_
      refine gf_Tour_matchCount C tw_104 dX7_playAt_34 ?_
      rw [zu_o _ _ _ _ (by omega)]
      refine g_iconst C dX7_playAt_37 ?_
      refine g_iadd C dX7_playAt_38 ?_
      show G X _ 39 _ _
      refine gp_Tour_matchCount C tw_104 dX7_playAt_39 ?_
      refine g_iload C dX7_playAt_42 rfl ?_
      refine g_if_eq (tgt := 51) C dX7_playAt_44 rfl (by by_cases q : rk F P a < rk F P b <;> simp [q]) (fun h44 => ?_) (fun h44 => ?_)
      · omega
      · refine g_iload_n C dX7_playAt_47 rfl ?_
        refine g_goto (tgt := 52) C dX7_playAt_48 rfl ?_
        show G X _ 52 _ _
        refine g_iret C hR dX7_playAt_52 ?_
        have q : rk F P a < rk F P b := by
          by_cases q : rk F P a < rk F P b
          · exact q
          · rw [if_neg q] at h23; omega
        exact ⟨_, rfl, by unfold mn; rw [if_pos q], by unfold mx; rw [if_pos q, zu_o _ _ _ _ (by omega), zu_s], fun k hk => by rw [zu_o _ _ _ _ (by omega), zu_k _ _ _ _ hk], zu_s _ _ _ _, fun k hk => by rw [zu_k _ _ _ _ hk, zu_o _ _ _ _ (by omega)], fun o c d => by rw [zu_o _ _ _ _ c, zu_o _ _ _ _ d]⟩
theorem gc_playAt {X : z_X} {cc : ByteArray} {own : String} {ret : Option FieldType} {dC nC : Nat} {M : zM} {pc : Nat} {lv : List (Option Value)} {st : List Value} (C : Cx cc own ret dC nC X) (hdep : 6 ≤ dC) {idx : Nat} (hl0 : Cond.methodLink own idx yX7_playAt ∈ tT) (hcat : (st.map fun v => v.category).sum ≤ 8) (hlen : lv.length = nC) (hdec : decode cc pc = .ok (.invokevirtual idx, 3)) {F : Nat → List (Int × Int)} {P : Nat → Nat} (n a b : Nat) (hn : 1 ≤ n ∧ n ≤ 7) (ha : a < 8) (hb : b < 8) (hab : a ≠ b) (h : zTo M F P) (kk : ∀ (x : Int) (M' : zM), (x = (mn (rk F P) a b : Int) ∧ M' 87 n = (mx (rk F P) a b : Int) ∧ (∀ k, k ≠ n → M' 87 k = M 87 k) ∧ M' 84 3 = M 84 3 + 1 ∧ (∀ k, k ≠ 3 → M' 84 k = M 84 k) ∧ ∀ o, o ≠ 84 → o ≠ 87 → M' o = M o) → G X M' (pc + 3) lv (.int (jI x) :: st)) : G X M pc lv (.int (jI ((b : Int))) :: .int (jI ((a : Int))) :: .int (jI ((n : Int))) :: .ref (zA X (84)) :: st) := by
  refine g_callV (k := 3) (o := 84) C (c_playAt (zL X) n a b hn ha hb hab M h) mfX7_playAt hl0 ⟨rfl, by decide +kernel, by decide +kernel, by decide +kernel⟩ ⟨hdep, by decide⟩ (by omega) (fun _ _ _ _ => ze_tour) rfl rfl rfl rfl hcat hlen hdec (fun v M' h => ?_)
  obtain ⟨x, rfl, h⟩ := h
  exact kk x M' h
set_option maxHeartbeats 4000000 in
set_option maxRecDepth 10000 in
theorem c_prepare (l : Launch)  (M : zM)  : Mt l 1 yX7_prepare cX7_prepare 3 none (fun ad => [.ref (ad (84)), .int (jI (2)), .int (jI (5))]) M (fun _ vv M' => vv = none ∧ (M' 84 1 = 8 ∧ M' 84 4 = 2 ∧ M' 84 5 = 5 ∧ (∀ k, k ≠ 1 → k ≠ 4 → k ≠ 5 → M' 84 k = M 84 k) ∧ ∀ o, o ≠ 84 → M' o = M o)) := by
  refine Mt.of (fun ad => [some (.ref (ad (84))), some (.int (jI (2))), some (.int (jI (5)))]) (by decide +kernel) (fun _ => rfl) (fun _ => rfl) (fun _ => Nat.le_of_ble_eq_true rfl) fun X hX C hR => ?_
  subst hX
  show G X M 0 [some (.ref ((zA X) (84))), some (.int (jI (2))), some (.int (jI (5)))] []
  refine g_aload_n C dX7_prepare_0 rfl ?_
  refine g_iload_n C dX7_prepare_1 rfl ?_
  refine gp_Tour_firstFile C tw_106 dX7_prepare_2 ?_
  refine g_aload_n C dX7_prepare_5 rfl ?_
  refine g_iload_n C dX7_prepare_6 rfl ?_
  refine gp_Tour_rowCount C tw_107 dX7_prepare_7 ?_
  show G X _ 10 _ _
  refine g_aload_n C dX7_prepare_10 rfl ?_
  refine g_iconst C dX7_prepare_11 ?_
  refine gp_Tour_leafCount C tw_101 dX7_prepare_12 ?_
  refine g_aload_n C dX7_prepare_15 rfl ?_
  refine gf_Tour_leafCount C tw_101 dX7_prepare_16 ?_
  rw [zu_s]
  refine g_iload_n C dX7_prepare_19 rfl ?_
  show G X _ 20 _ _
  refine g_icmp_ge (tgt := 45) C dX7_prepare_20 rfl (by omega) (by omega) (fun h20 => ?_) (fun h20 => ?_)
  · omega
  · refine g_aload_n C dX7_prepare_23 rfl ?_
    refine gf_Tour_leafCount C tw_101 dX7_prepare_24 ?_
    rw [zu_s]
    refine g_bipush C dX7_prepare_27 rfl ?_
    refine g_icmp_ge (tgt := 45) C dX7_prepare_29 rfl (by omega) (by omega) (fun h29 => ?_) (fun h29 => ?_)
    · omega
    · refine g_aload_n C dX7_prepare_32 rfl ?_
      refine g_dup C dX7_prepare_33 rfl ?_
      refine gf_Tour_leafCount C tw_101 dX7_prepare_34 ?_
      rw [zu_s]
      refine g_iconst C dX7_prepare_37 ?_
      refine g_imul C dX7_prepare_38 ?_
      refine gp_Tour_leafCount C tw_101 dX7_prepare_39 ?_
      show G X _ 42 _ _
      refine g_goto (tgt := 15) C dX7_prepare_42 rfl ?_
      show G X _ 15 _ _
      refine g_aload_n C dX7_prepare_15 rfl ?_
      refine gf_Tour_leafCount C tw_101 dX7_prepare_16 ?_
      rw [zu_s]
      refine g_iload_n C dX7_prepare_19 rfl ?_
      refine g_icmp_ge (tgt := 45) C dX7_prepare_20 rfl (by omega) (by omega) (fun h20 => ?_) (fun h20 => ?_)
      · omega
      · refine g_aload_n C dX7_prepare_23 rfl ?_
        refine gf_Tour_leafCount C tw_101 dX7_prepare_24 ?_
        rw [zu_s]
        refine g_bipush C dX7_prepare_27 rfl ?_
        refine g_icmp_ge (tgt := 45) C dX7_prepare_29 rfl (by omega) (by omega) (fun h29 => ?_) (fun h29 => ?_)
        · omega
        · refine g_aload_n C dX7_prepare_32 rfl ?_
          refine g_dup C dX7_prepare_33 rfl ?_
          refine gf_Tour_leafCount C tw_101 dX7_prepare_34 ?_
          rw [zu_s]
          refine g_iconst C dX7_prepare_37 ?_
          refine g_imul C dX7_prepare_38 ?_
          refine gp_Tour_leafCount C tw_101 dX7_prepare_39 ?_
          show G X _ 42 _ _
          refine g_goto (tgt := 15) C dX7_prepare_42 rfl ?_
          show G X _ 15 _ _
          refine g_aload_n C dX7_prepare_15 rfl ?_
          refine gf_Tour_leafCount C tw_101 dX7_prepare_16 ?_
          rw [zu_s]
          refine g_iload_n C dX7_prepare_19 rfl ?_
          refine g_icmp_ge (tgt := 45) C dX7_prepare_20 rfl (by omega) (by omega) (fun h20 => ?_) (fun h20 => ?_)
          · refine g_vret C hR dX7_prepare_45 ?_
            refine ⟨rfl, ?_, ?_, ?_, fun k a b c => ?_, fun o a => ?_⟩
            · simp [zu_at]
            · simp [zu_at]
            · simp [zu_at]
            · simp [zu_at, a, b, c]
            · simp [zu_o, a]
          · omega
theorem gc_prepare {X : z_X} {cc : ByteArray} {own : String} {ret : Option FieldType} {dC nC : Nat} {M : zM} {pc : Nat} {lv : List (Option Value)} {st : List Value} (C : Cx cc own ret dC nC X) (hdep : 2 ≤ dC) {idx : Nat} (hl0 : Cond.methodLink own idx yX7_prepare ∈ tT) (hcat : (st.map fun v => v.category).sum ≤ 8) (hlen : lv.length = nC) (hdec : decode cc pc = .ok (.invokevirtual idx, 3))   (kk : ∀ M' : zM, (M' 84 1 = 8 ∧ M' 84 4 = 2 ∧ M' 84 5 = 5 ∧ (∀ k, k ≠ 1 → k ≠ 4 → k ≠ 5 → M' 84 k = M 84 k) ∧ ∀ o, o ≠ 84 → M' o = M o) → G X M' (pc + 3) lv st) : G X M pc lv (.int (jI (5)) :: .int (jI (2)) :: .ref (zA X (84)) :: st) := by
  refine g_callV (k := 2) (o := 84) C (c_prepare (zL X)  M ) mfX7_prepare hl0 ⟨rfl, by decide +kernel, by decide +kernel, by decide +kernel⟩ ⟨hdep, by decide⟩ (by omega) (fun _ _ _ _ => ze_tour) rfl rfl rfl rfl hcat hlen hdec (fun v M' h => ?_)
  obtain ⟨rfl, h⟩ := h
  exact kk M' h
set_option maxHeartbeats 4000000 in
set_option maxRecDepth 10000 in
theorem c_seat (l : Launch) (i r : Nat) (hi : i < 8) (hr : r < 20) (M : zM)  : Mt l 1 yX7_seat cX7_seat 3 none (fun ad => [.ref (ad (84)), .int (jI ((i : Int))), .ref (ad (3 * r))]) M (fun _ vv M' => vv = none ∧ (M' = zu (zu M 85 i (r : Int)) 86 i 0)) := by
  refine Mt.of (fun ad => [some (.ref (ad (84))), some (.int (jI ((i : Int)))), some (.ref (ad (3 * r)))]) (by decide +kernel) (fun _ => rfl) (fun _ => rfl) (fun _ => Nat.le_of_ble_eq_true rfl) fun X hX C hR => ?_
  subst hX
  show G X M 0 [some (.ref ((zA X) (84))), some (.int (jI ((i : Int)))), some (.ref ((zA X) (3 * r)))] []
  refine g_iload_n C dX7_seat_0 rfl ?_
  refine g_if_lt (tgt := 24) C dX7_seat_1 rfl (by omega) (fun h1 => ?_) (fun h1 => ?_)
  · omega
  · refine g_iload_n C dX7_seat_4 rfl ?_
    refine g_bipush C dX7_seat_5 rfl ?_
    refine g_icmp_ge (tgt := 24) C dX7_seat_7 rfl (by omega) (by omega) (fun h7 => ?_) (fun h7 => ?_)
    · omega
    · refine g_aload_n C dX7_seat_10 rfl ?_
      refine gf_Tour_rows C tw_108 dX7_seat_11 ?_
      refine g_iload_n C dX7_seat_14 rfl ?_
      refine g_aload_n C dX7_seat_15 rfl ?_
      refine g_trows C (by omega) (by omega) rfl dX7_seat_16 ?_
      refine g_aload_n C dX7_seat_17 rfl ?_
      show G X _ 18 _ _
      refine gf_Tour_places C tw_109 dX7_seat_18 ?_
      refine g_iload_n C dX7_seat_21 rfl ?_
      refine g_iconst C dX7_seat_22 ?_
      refine gs_places C _ (by omega) rfl dX7_seat_23 ?_
      refine g_vret C hR dX7_seat_24 ?_
      exact ⟨rfl, rfl⟩
theorem gc_seat {X : z_X} {cc : ByteArray} {own : String} {ret : Option FieldType} {dC nC : Nat} {M : zM} {pc : Nat} {lv : List (Option Value)} {st : List Value} (C : Cx cc own ret dC nC X) (hdep : 2 ≤ dC) {idx : Nat} (hl0 : Cond.methodLink own idx yX7_seat ∈ tT) (hcat : (st.map fun v => v.category).sum ≤ 8) (hlen : lv.length = nC) (hdec : decode cc pc = .ok (.invokevirtual idx, 3)) (i r : Nat) (hi : i < 8) (hr : r < 20)  (kk : ∀ M' : zM, (M' = zu (zu M 85 i (r : Int)) 86 i 0) → G X M' (pc + 3) lv st) : G X M pc lv (.ref (zA X (3 * r)) :: .int (jI ((i : Int))) :: .ref (zA X (84)) :: st) := by
  refine g_callV (k := 2) (o := 84) C (c_seat (zL X) i r hi hr M ) mfX7_seat hl0 ⟨rfl, by decide +kernel, by decide +kernel, by decide +kernel⟩ ⟨hdep, by decide⟩ (by omega) (fun _ _ _ _ => ze_tour) rfl rfl rfl rfl hcat hlen hdec (fun v M' h => ?_)
  obtain ⟨rfl, h⟩ := h
  exact kk M' h
