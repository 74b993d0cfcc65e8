/-! the sorter's tournament -/
def zTs (M : zM) (F : Nat → List (Int × Int)) (P : Nat → Nat) : Prop := zTo M F P ∧ M 84 0 = 1 ∧ M 84 2 = (wN (rk F P) 1 : Int) ∧ ∀ n, 1 ≤ n → n ≤ 7 → M 87 n = (lS (rk F P) n : Int)
set_option maxHeartbeats 4000000 in
set_option maxRecDepth 10000 in
theorem c_next (l : Launch) {F : Nat → List (Int × Int)} {P : Nat → Nat} (f : Nat) (hf : f < 8) (hfw : wN (rk F P) 1 = f) (M : zM) (h : zTs M F P) : Mt l 7 yX8_next cX8_next 1 (some .int) (fun ad => [.ref (ad (95))]) M (fun _ vv M' => ∃ x : Int, vv = some (.int (jI x)) ∧ (x = tk F P f ∧ ((tk F P f = 1000 ∧ M' = M) ∨ (f < 5 ∧ P f < (F f).length ∧ zTs M' F (va_up P f (P f + 1)) ∧ M' 84 3 = M 84 3 + 3 ∧ ∀ o, o ≠ 84 → o ≠ 86 → o ≠ 87 → M' o = M o)))) := by
  refine Mt.of (fun ad => [some (.ref (ad (95)))]) (by decide +kernel) (fun _ => rfl) (fun _ => rfl) (fun _ => Nat.le_of_ble_eq_true rfl) fun X hX C hR => ?_
  subst hX
  show G X M 0 [some (.ref ((zA X) (95)))] []
  refine g_aload_n C dX8_next_0 rfl ?_
  
  refine gc_needTournament C (by decide) tw_693 (Nat.le_of_ble_eq_true rfl) rfl dX8_next_1 h.2.1 (?_)
  refine g_aload_n C dX8_next_4 rfl ?_
  refine gf_Ms_tournament C tw_224 dX8_next_5 ?_
  refine gc_give C (by decide) tw_698 (Nat.le_of_ble_eq_true rfl) rfl dX8_next_8 f hf h.1 (by rw [h.2.2.1, hfw]) hfw h.2.2.2 (fun x N ⟨n1, n2⟩ => ?_)
  refine g_iret C hR dX8_next_11 ?_
  refine ⟨_, rfl, n1, ?_⟩
  rcases n2 with n2 | ⟨a1, a2, a3, a4, a5, a6, a7, a8⟩
  · exact Or.inl n2
  · exact Or.inr ⟨a1, a2, ⟨a3, a4.trans h.2.1, a5, a7⟩, a6, a8⟩
theorem gc_next {X : z_X} {cc : ByteArray} {own : String} {ret : Option FieldType} {dC nC : Nat} {M : zM} {pc : Nat} {lv : List (Option Value)} {st : List Value} (C : Cx cc own ret dC nC X) (hdep : 8 ≤ dC) {idx : Nat} (hl0 : Cond.methodLink own idx yX8_next ∈ tT) (hcat : (st.map fun v => v.category).sum ≤ 8) (hlen : lv.length = nC) (hdec : decode cc pc = .ok (.invokevirtual idx, 3)) {F : Nat → List (Int × Int)} {P : Nat → Nat} (f : Nat) (hf : f < 8) (hfw : wN (rk F P) 1 = f) (h : zTs M F P) (kk : ∀ (x : Int) (M' : zM), (x = tk F P f ∧ ((tk F P f = 1000 ∧ M' = M) ∨ (f < 5 ∧ P f < (F f).length ∧ zTs M' F (va_up P f (P f + 1)) ∧ M' 84 3 = M 84 3 + 3 ∧ ∀ o, o ≠ 84 → o ≠ 86 → o ≠ 87 → M' o = M o))) → G X M' (pc + 3) lv (.int (jI x) :: st)) : G X M pc lv (.ref (zA X (95)) :: st) := by
  refine g_callV (k := 0) (o := 95) C (c_next (zL X) f hf hfw M h) mfX8_next hl0 ⟨rfl, by decide +kernel, by decide +kernel, by decide +kernel⟩ ⟨hdep, by decide⟩ (by omega) (fun _ _ _ _ => ze_ms) rfl rfl rfl rfl hcat hlen hdec (fun v M' h => ?_)
  obtain ⟨x, rfl, h⟩ := h
  exact kk x M' h
set_option maxHeartbeats 4000000 in
set_option maxRecDepth 10000 in
theorem c_begin (l : Launch) {c : Nat} (hc7 : 7 ≤ c) (hc : c ≤ 12) {F : Nat → List (Int × Int)} (M : zM) (hM : M 95 1 = (c : Int)) (hF : ∀ i, i < 5 → zRow M (2 + i) (F i) ∧ zIn (F i) ∧ upB (F i) = true) : Mt l 7 yX8_begin cX8_begin 4 (some .int) (fun ad => [.ref (ad (95)), .int (jI (2)), .int (jI (5))]) M (fun _ vv M' => ∃ x : Int, vv = some (.int (jI x)) ∧ (x = 8 ∧ zTs M' F (fun _ => 0) ∧ M' 84 3 = 7 ∧ M' 84 4 = 2 ∧ ∀ o, o ≠ 84 → o ≠ 85 → o ≠ 86 → o ≠ 87 → o ≠ 88 → M' o = M o)) := by
  refine Mt.of (fun ad => [some (.ref (ad (95))), some (.int (jI (2))), some (.int (jI (5))), none]) (by decide +kernel) (fun _ => rfl) (fun _ => rfl) (fun _ => Nat.le_of_ble_eq_true rfl) fun X hX C hR => ?_
  subst hX
  show G X M 0 [some (.ref ((zA X) (95))), some (.int (jI (2))), some (.int (jI (5))), none] []
  have lp2 : ∀ (fk : Nat) (i : Nat) (N : zM), 10 - i < fk → i ≤ 5 → (N 84 1 = 8 ∧ N 84 4 = 2 ∧ N 84 5 = 5) → (∀ j, j < i → N 85 j = ((2 + j : Nat) : Int) ∧ N 86 j = 0) → (∀ o, o ≠ 84 → o ≠ 85 → o ≠ 86 → N o = M o) → G X N 88 [some (.ref (zA X 95)), some (.int (jI 2)), some (.int (jI 5)), some (.int (jI (i : Int)))] [] := by
    intro fk
    induction fk with
    | zero => intro i N hk; exact absurd hk (Nat.not_lt_zero _)
    | succ fk ih =>
      intro i N hk i1 hA hR2 hN
      refine g_iload_n C dX8_begin_88 rfl ?_
      refine g_iload_n C dX8_begin_89 rfl ?_
      refine g_icmp_ge (tgt := 115) C dX8_begin_90 rfl (by omega) (by omega) (fun h90 => ?_) (fun h90 => ?_)
      · have hT : zTo N F (fun _ => 0) := ⟨hA.1, hA.2.2, fun j hj => ⟨(hR2 j (by omega)).1, by rw [(hR2 j (by omega)).2]; rfl, Nat.zero_le _, (hF j hj).1.same (fun o _ _ => hN o (by omega) (by omega) (by omega)), (hF j hj).2.1⟩⟩
        refine g_aload_n C dX8_begin_115 rfl ?_
        refine gf_Ms_tournament C tw_224 dX8_begin_116 ?_
        refine gc_open C (by decide) tw_663 (Nat.le_of_ble_eq_true rfl) rfl dX8_begin_119 hT (fun N3 ⟨a1, a2, a3, a4, a5, a6, a7⟩ => ?_)
        refine g_aload_n C dX8_begin_122 rfl ?_
        refine gf_Ms_tournament C tw_224 dX8_begin_123 ?_
        refine gf_Tour_leafCount C tw_102 dX8_begin_126 ?_
        rw [a1.1]
        show G X _ 129 _ _
        refine g_iret C hR dX8_begin_129 ?_
        exact ⟨_, rfl, rfl, ⟨a1, a2, a3, a6⟩, a4, a5.trans hA.2.1, fun o b1 b2 b3 b4 b5 => (a7 o b1 b4 b5).trans (hN o b1 b2 b3)⟩
      · refine g_aload_n C dX8_begin_93 rfl ?_
        refine gf_Ms_tournament C tw_224 dX8_begin_94 ?_
        refine g_iload_n C dX8_begin_97 rfl ?_
        refine g_aload_n C dX8_begin_98 rfl ?_
        refine gf_Ms_files C tw_214 dX8_begin_99 ?_
        refine g_iload_n C dX8_begin_102 rfl ?_
        show G X _ 103 _ _
        refine g_iload_n C dX8_begin_103 rfl ?_
        refine g_iadd C dX8_begin_104 ?_
        refine ga_files C (2 + i) (by omega) (by omega) dX8_begin_105 ?_
        refine gc_seat C (by decide) tw_659 (Nat.le_of_ble_eq_true rfl) rfl dX8_begin_106 i (2 + i) (by omega) (by omega) (fun N2 hN2 => ?_)
        refine g_iinc C dX8_begin_109 rfl ?_
        show G X _ 112 [_, _, _, _] _
        refine g_goto (tgt := 88) C dX8_begin_112 rfl ?_
        show G X _ 88 _ _
        subst hN2
        refine ih (i + 1) _ (by omega) (by omega) ⟨?_, ?_, ?_⟩ (fun j hj => ?_) (fun o a b c => ?_)
        · rw [zu_o _ _ _ _ (by omega), zu_o _ _ _ _ (by omega)]; exact hA.1
        · rw [zu_o _ _ _ _ (by omega), zu_o _ _ _ _ (by omega)]; exact hA.2.1
        · rw [zu_o _ _ _ _ (by omega), zu_o _ _ _ _ (by omega)]; exact hA.2.2
        · by_cases e : j = i
          · subst e
            exact ⟨by rw [zu_o _ _ _ _ (by omega), zu_s], by rw [zu_s]⟩
          · have := hR2 j (by omega)
            exact ⟨by rw [zu_o _ _ _ _ (by omega), zu_k _ _ _ _ e]; exact this.1, by rw [zu_k _ _ _ _ e, zu_o _ _ _ _ (by omega)]; exact this.2⟩
        · rw [zu_o _ _ _ _ c, zu_o _ _ _ _ b]; exact hN o a b c
  have rest : ∀ w : Option Value, G X M 77 [some (.ref (zA X 95)), some (.int (jI 2)), some (.int (jI 5)), w] [] := by
    intro w
    refine g_aload_n C dX8_begin_77 rfl ?_
    refine gf_Ms_tournament C tw_224 dX8_begin_78 ?_
    refine g_iload_n C dX8_begin_81 rfl ?_
    refine g_iload_n C dX8_begin_82 rfl ?_
    refine gc_prepare C (by decide) tw_655 (Nat.le_of_ble_eq_true rfl) rfl dX8_begin_83  (fun N ⟨b1, b2, b3, b4, b5⟩ => ?_)
    refine g_iconst C dX8_begin_86 ?_
    show G X _ 87 _ _
    refine g_istore_n C dX8_begin_87 (Nat.le_of_ble_eq_true rfl) ?_
    show G X _ 88 [_, _, _, _] _
    exact lp2 20 0 N (by omega) (by omega) ⟨b1, b2, b3⟩ (fun j hj => absurd hj (Nat.not_lt_zero _)) (fun o a _ _ => b5 o a)
  have lp1 : ∀ (fk : Nat) (i : Nat), 10 - i < fk → 2 ≤ i → i ≤ 7 → G X M 55 [some (.ref (zA X 95)), some (.int (jI 2)), some (.int (jI 5)), some (.int (jI (i : Int)))] [] := by
    intro fk
    induction fk with
    | zero => intro i hk; exact absurd hk (Nat.not_lt_zero _)
    | succ fk ih =>
      intro i hk i1 i2
      refine g_iload_n C dX8_begin_55 rfl ?_
      refine g_iload_n C dX8_begin_56 rfl ?_
      refine g_iload_n C dX8_begin_57 rfl ?_
      refine g_iadd C dX8_begin_58 ?_
      refine g_icmp_ge (tgt := 77) C dX8_begin_59 rfl (by omega) (by omega) (fun h59 => ?_) (fun h59 => ?_)
      · exact rest _
      · refine g_aload_n C dX8_begin_62 rfl ?_
        refine gf_Ms_files C tw_214 dX8_begin_63 ?_
        refine g_iload_n C dX8_begin_66 rfl ?_
        refine ga_files C i (by omega) rfl dX8_begin_67 ?_
        obtain ⟨q1, q2, q3⟩ := hF (i - 2) (by omega)
        rw [show 2 + (i - 2) = i by omega] at q1
        refine gc_needUp C (by decide) tw_651 (Nat.le_of_ble_eq_true rfl) rfl dX8_begin_68 (by omega) q1 q2 q3 (?_)
        refine g_iinc C dX8_begin_71 rfl ?_
        show G X _ 74 [_, _, _, _] _
        refine g_goto (tgt := 55) C dX8_begin_74 rfl ?_
        show G X _ 55 _ _
        exact ih (i + 1) (by omega) (by omega) (by omega)
  refine g_iload_n C dX8_begin_0 rfl ?_
  refine g_if_lt (tgt := 22) C dX8_begin_1 rfl (by omega) (fun h1 => ?_) (fun h1 => ?_)
  · omega
  · refine g_iload_n C dX8_begin_4 rfl ?_
    refine g_aload_n C dX8_begin_5 rfl ?_
    refine gf_Ms_fileCount C tw_215 dX8_begin_6 ?_
    rw [hM]
    refine g_icmp_ge (tgt := 22) C dX8_begin_9 rfl (by omega) (by omega) (fun h9 => ?_) (fun h9 => ?_)
    · omega
    · refine g_iload_n C dX8_begin_12 rfl ?_
      refine g_aload_n C dX8_begin_13 rfl ?_
      refine gf_Ms_fileCount C tw_215 dX8_begin_14 ?_
      rw [hM]
      refine g_iload_n C dX8_begin_17 rfl ?_
      refine g_isub C dX8_begin_18 ?_
      refine g_icmp_le (tgt := 32) C dX8_begin_19 rfl (by omega) (by omega) (fun h19 => ?_) (fun h19 => ?_)
      · refine g_iload_n C dX8_begin_32 rfl ?_
        refine g_iconst C dX8_begin_33 ?_
        refine g_icmp_lt (tgt := 43) C dX8_begin_34 rfl (by omega) (by omega) (fun h34 => ?_) (fun h34 => ?_)
        · omega
        · refine g_iload_n C dX8_begin_37 rfl ?_
          refine g_bipush C dX8_begin_38 rfl ?_
          refine g_icmp_le (tgt := 53) C dX8_begin_40 rfl (by omega) (by omega) (fun h40 => ?_) (fun h40 => ?_)
          · refine g_iload_n C dX8_begin_53 rfl ?_
            refine g_istore_n C dX8_begin_54 (Nat.le_of_ble_eq_true rfl) ?_
            show G X _ 55 [_, _, _, _] _
            exact lp1 20 2 (by omega) (by omega) (by omega)
          · omega
      · omega
theorem gc_begin {X : z_X} {cc : ByteArray} {own : String} {ret : Option FieldType} {dC nC : Nat} {M : zM} {pc : Nat} {lv : List (Option Value)} {st : List Value} (C : Cx cc own ret dC nC X) (hdep : 8 ≤ dC) {idx : Nat} (hl0 : Cond.methodLink own idx yX8_begin ∈ tT) (hcat : (st.map fun v => v.category).sum ≤ 8) (hlen : lv.length = nC) (hdec : decode cc pc = .ok (.invokevirtual idx, 3)) {c : Nat} (hc7 : 7 ≤ c) (hc : c ≤ 12) {F : Nat → List (Int × Int)} (hM : M 95 1 = (c : Int)) (hF : ∀ i, i < 5 → zRow M (2 + i) (F i) ∧ zIn (F i) ∧ upB (F i) = true) (kk : ∀ (x : Int) (M' : zM), (x = 8 ∧ zTs M' F (fun _ => 0) ∧ M' 84 3 = 7 ∧ M' 84 4 = 2 ∧ ∀ o, o ≠ 84 → o ≠ 85 → o ≠ 86 → o ≠ 87 → o ≠ 88 → M' o = M o) → G X M' (pc + 3) lv (.int (jI x) :: st)) : G X M pc lv (.int (jI (5)) :: .int (jI (2)) :: .ref (zA X (95)) :: st) := by
  refine g_callV (k := 2) (o := 95) C (c_begin (zL X) hc7 hc M hM hF) mfX8_begin hl0 ⟨rfl, by decide +kernel, by decide +kernel, by decide +kernel⟩ ⟨hdep, by decide⟩ (by omega) (fun _ _ _ _ => ze_ms) rfl rfl rfl rfl hcat hlen hdec (fun v M' h => ?_)
  obtain ⟨x, rfl, h⟩ := h
  exact kk x M' h
