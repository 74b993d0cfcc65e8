/-! groups, shares, joins: the methods -/
set_option maxHeartbeats 4000000 in
set_option maxRecDepth 10000 in
theorem c_startMark (l : Launch) (x : Int) (M : zM)  : Mt l 1 yX8_startMark cX8_startMark 2 (some .int) (fun ad => [.int (jI (0)), .int (jI (x))]) M (fun _ vv M' => vv = some (.int (jI (1))) ∧ M' = M) := by
  refine Mt.of (fun ad => [some (.int (jI (0))), some (.int (jI (x)))]) (by decide +kernel) (fun _ => rfl) (fun _ => rfl) (fun _ => Nat.le_of_ble_eq_true rfl) fun X hX C hR => ?_
  subst hX
  show G X M 0 [some (.int (jI (0))), some (.int (jI (x)))] []
  refine g_iload_n C dX8_startMark_0 rfl ?_
  refine g_if_ne (tgt := 8) C dX8_startMark_1 rfl (by omega) (fun h1 => ?_) (fun h1 => ?_)
  · omega
  · refine g_iconst C dX8_startMark_4 ?_
    refine g_goto (tgt := 9) C dX8_startMark_5 rfl ?_
    show G X _ 9 _ _
    refine g_iret C hR dX8_startMark_9 ?_
    exact ⟨rfl, rfl⟩
theorem gc_startMark {X : z_X} {cc : ByteArray} {own : String} {ret : Option FieldType} {dC nC : Nat} {M : zM} {pc : Nat} {lv : List (Option Value)} {st : List Value} (C : Cx cc own ret dC nC X) (hdep : 2 ≤ dC) {idx : Nat} (hl0 : Cond.methodLink own idx yX8_startMark ∈ tT) (hcat : (st.map fun v => v.category).sum ≤ 8) (hlen : lv.length = nC) (hdec : decode cc pc = .ok (.invokestatic idx, 3)) (x : Int)  (kk : G X M (pc + 3) lv (.int (jI (1)) :: st)) : G X M pc lv (.int (jI (x)) :: .int (jI (0)) :: st) := by
  refine g_callS (k := 2) C (c_startMark (zL X) x M ) mfX8_startMark hl0 ⟨rfl, by decide +kernel, by decide +kernel, by decide +kernel⟩ ⟨hdep, by decide⟩ rfl rfl rfl hcat hlen hdec (fun v M' h => ?_)
  obtain ⟨rfl, rfl⟩ := h
  exact kk
set_option maxHeartbeats 4000000 in
set_option maxRecDepth 10000 in
theorem c_moreMark (l : Launch) (x y : Int) (M : zM)  : Mt l 1 yX8_moreMark cX8_moreMark 3 (some .int) (fun ad => [.int (jI (0)), .int (jI (x)), .int (jI (y))]) M (fun _ vv M' => vv = some (.int (jI (x + 1))) ∧ M' = M) := by
  refine Mt.of (fun ad => [some (.int (jI (0))), some (.int (jI (x))), some (.int (jI (y)))]) (by decide +kernel) (fun _ => rfl) (fun _ => rfl) (fun _ => Nat.le_of_ble_eq_true rfl) fun X hX C hR => ?_
  subst hX
  show G X M 0 [some (.int (jI (0))), some (.int (jI (x))), some (.int (jI (y)))] []
  refine g_iload_n C dX8_moreMark_0 rfl ?_
  refine g_tableIn (tgt := 28) (off := 27) C dX8_moreMark_1 (by decide) (by decide) (by decide) rfl ?_
  refine g_iload_n C dX8_moreMark_28 rfl ?_
  refine g_iconst C dX8_moreMark_29 ?_
  refine g_iadd C dX8_moreMark_30 ?_
  refine g_iret C hR dX8_moreMark_31 ?_
  exact ⟨rfl, rfl⟩
theorem gc_moreMark {X : z_X} {cc : ByteArray} {own : String} {ret : Option FieldType} {dC nC : Nat} {M : zM} {pc : Nat} {lv : List (Option Value)} {st : List Value} (C : Cx cc own ret dC nC X) (hdep : 2 ≤ dC) {idx : Nat} (hl0 : Cond.methodLink own idx yX8_moreMark ∈ tT) (hcat : (st.map fun v => v.category).sum ≤ 8) (hlen : lv.length = nC) (hdec : decode cc pc = .ok (.invokestatic idx, 3)) (x y : Int)  (kk : G X M (pc + 3) lv (.int (jI (x + 1)) :: st)) : G X M pc lv (.int (jI (y)) :: .int (jI (x)) :: .int (jI (0)) :: st) := by
  refine g_callS (k := 3) C (c_moreMark (zL X) x y M ) mfX8_moreMark hl0 ⟨rfl, by decide +kernel, by decide +kernel, by decide +kernel⟩ ⟨hdep, by decide⟩ rfl rfl rfl hcat hlen hdec (fun v M' h => ?_)
  obtain ⟨rfl, rfl⟩ := h
  exact kk
set_option maxHeartbeats 4000000 in
set_option maxRecDepth 10000 in
theorem c_giveGroups (l : Launch) {r : Nat} (hr : r < 20) (hr12 : r ≠ 12) {A : List (Int × Int)} (hbA : zIn A) (M : zM) (hA : zRow M r A) (hL : zOut M []) : Mt l 4 yX8_giveGroups cX8_giveGroups 7 none (fun ad => [.ref (ad (95)), .ref (ad (3 * r)), .int (jI (0))]) M (fun _ vv M' => vv = none ∧ (zOut M' (ggL A A.length) ∧ zFo M M')) := by
  refine Mt.of (fun ad => [some (.ref (ad (95))), some (.ref (ad (3 * r))), some (.int (jI (0))), none, none, none, none]) (by decide +kernel) (fun _ => rfl) (fun _ => rfl) (fun _ => Nat.le_of_ble_eq_true rfl) fun X hX C hR => ?_
  subst hX
  show G X M 0 [some (.ref ((zA X) (95))), some (.ref ((zA X) (3 * r))), some (.int (jI (0))), none, none, none, none] []
  have lp : ∀ (fk : Nat) (i : Nat) (N : zM), 200 - i < fk → i ≤ A.length → zOut N (ggL A i) → zFo M N → G X N 5 [some (.ref (zA X 95)), some (.ref (zA X (3 * r))), some (.int (jI 0)), some (.int (jI (gmL A i))), some (.int (jI ((i : Int)))), none, none] [] := by
    intro fk
    induction fk with
    | zero => intro i N hk; exact absurd hk (Nat.not_lt_zero _)
    | succ fk ih =>
      intro i N hk i1 hO hF
      have hA2 : zRow N r A := hA.apo hF.1 hr12 hr
      have hA120 := hA.2.1
      have bi := hbA.at i
      have bi1 := hbA.at (i - 1)
      have hg := gmL_in A i
      have hg1 := gmL_in A (i + 1)
      have hgl := ggL_len A i
      refine g_iload C dX8_giveGroups_5 rfl ?_
      refine g_aload_n C dX8_giveGroups_7 rfl ?_
      refine gc_Row_count C (by decide) tw_390 (Nat.le_of_ble_eq_true rfl) rfl dX8_giveGroups_8 hr hA2 (?_)
      refine g_icmp_ge (tgt := 117) C dX8_giveGroups_11 rfl (by omega) (by omega) (fun h11 => ?_) (fun h11 => ?_)
      · refine g_vret C hR dX8_giveGroups_117 ?_
        rw [show i = A.length by omega] at hO
        exact ⟨rfl, hO, hF⟩
      · have hi : i < A.length := by omega
        have d76 : ∀ (v9 v : Int), v9 = gmL A (i + 1) → G X N 76 [some (.ref (zA X 95)), some (.ref (zA X (3 * r))), some (.int (jI 0)), some (.int (jI (gmL A i))), some (.int (jI ((i : Int)))), some (.int (jI (kA A i))), some (.int (jI v))] [.int (jI v9)] := by
          rintro v9 v rfl
          refine g_istore_n C dX8_giveGroups_76 (Nat.le_of_ble_eq_true rfl) ?_
          show G X _ 77 [_, _, _, _, _, _, _] _
          refine g_aload_n C dX8_giveGroups_77 rfl ?_
          refine g_iload C dX8_giveGroups_78 rfl ?_
          refine g_iconst C dX8_giveGroups_80 ?_
          refine g_iadd C dX8_giveGroups_81 ?_
          refine gc_Row_has C (by decide) tw_422 (Nat.le_of_ble_eq_true rfl) rfl dX8_giveGroups_82 hr _ (by omega) hA2 (?_)
          refine g_if_eq (tgt := 101) C dX8_giveGroups_85 rfl (by by_cases z : 0 ≤ (i : Int) + 1 ∧ (i : Int) + 1 < (A.length : Int) <;> simp [z]) (fun h85 => ?_) (fun h85 => ?_)
          · refine g_aload_n C dX8_giveGroups_101 rfl ?_
            refine gf_Ms_outcome C tw_225 dX8_giveGroups_102 ?_
            refine g_iload C dX8_giveGroups_105 rfl ?_
            refine g_iload_n C dX8_giveGroups_107 rfl ?_
            refine gc_Out_give C (by decide) tw_605 (Nat.le_of_ble_eq_true rfl) rfl dX8_giveGroups_108 _ _ (by omega) hO (fun N2 ⟨n1, n2⟩ => ?_)
            refine g_iinc C dX8_giveGroups_111 rfl ?_
            show G X _ 114 [_, _, _, _, _, _, _] _
            refine g_goto (tgt := 5) C dX8_giveGroups_114 rfl ?_
            show G X _ 5 _ _
            refine g_mask [true, true, true, true, true, false, false] rfl ?_
            show G X _ 5 [_, _, _, _, _, _, _] _
            refine ih (i + 1) N2 (by omega) (by omega) ?_ (hF.trans n2)
            rw [ggL, if_neg (by
              intro q
              rw [if_pos (by omega)] at h85; omega)]; exact n1
          · refine g_aload_n C dX8_giveGroups_88 rfl ?_
            refine g_iload C dX8_giveGroups_89 rfl ?_
            refine g_iconst C dX8_giveGroups_91 ?_
            refine g_iadd C dX8_giveGroups_92 ?_
            have z : 0 ≤ (i : Int) + 1 ∧ (i : Int) + 1 < (A.length : Int) := by
              by_cases z : 0 ≤ (i : Int) + 1 ∧ (i : Int) + 1 < (A.length : Int)
              · exact z
              · rw [if_neg z] at h85; omega
            have bz := hbA.at (i + 1)
            rw [show (i : Int) + 1 = ((i + 1 : Nat) : Int) by omega]
            refine gc_Row_keyAt C (by decide) tw_431 (Nat.le_of_ble_eq_true rfl) rfl dX8_giveGroups_93 hr (i + 1) (by omega) hA2 (?_)
            refine g_iload C dX8_giveGroups_96 rfl ?_
            show G X _ 98 _ _
            refine g_icmp_eq (tgt := 111) C dX8_giveGroups_98 rfl (by omega) (by omega) (fun h98 => ?_) (fun h98 => ?_)
            · refine g_iinc C dX8_giveGroups_111 rfl ?_
              show G X _ 114 [_, _, _, _, _, _, _] _
              refine g_goto (tgt := 5) C dX8_giveGroups_114 rfl ?_
              show G X _ 5 _ _
              refine g_mask [true, true, true, true, true, false, false] rfl ?_
              show G X _ 5 [_, _, _, _, _, _, _] _
              refine ih (i + 1) N (by omega) (by omega) ?_ hF
              rw [ggL, if_pos ⟨by omega, h98⟩, List.append_nil]; exact hO
            · refine g_aload_n C dX8_giveGroups_101 rfl ?_
              refine gf_Ms_outcome C tw_225 dX8_giveGroups_102 ?_
              refine g_iload C dX8_giveGroups_105 rfl ?_
              refine g_iload_n C dX8_giveGroups_107 rfl ?_
              refine gc_Out_give C (by decide) tw_605 (Nat.le_of_ble_eq_true rfl) rfl dX8_giveGroups_108 _ _ (by omega) hO (fun N2 ⟨n1, n2⟩ => ?_)
              refine g_iinc C dX8_giveGroups_111 rfl ?_
              show G X _ 114 [_, _, _, _, _, _, _] _
              refine g_goto (tgt := 5) C dX8_giveGroups_114 rfl ?_
              show G X _ 5 _ _
              refine g_mask [true, true, true, true, true, false, false] rfl ?_
              show G X _ 5 [_, _, _, _, _, _, _] _
              refine ih (i + 1) N2 (by omega) (by omega) ?_ (hF.trans n2)
              rw [ggL, if_neg (fun q => h98 q.2)]; exact n1
        refine g_aload_n C dX8_giveGroups_14 rfl ?_
        refine g_iload C dX8_giveGroups_15 rfl ?_
        refine gc_Row_keyAt C (by decide) tw_431 (Nat.le_of_ble_eq_true rfl) rfl dX8_giveGroups_17 hr i (by omega) hA2 (?_)
        refine g_istore C dX8_giveGroups_20 (Nat.le_of_ble_eq_true rfl) ?_
        show G X _ 22 [_, _, _, _, _, _, _] _
        refine g_iload C dX8_giveGroups_22 rfl ?_
        refine g_if_eq (tgt := 40) C dX8_giveGroups_24 rfl (by omega) (fun h24 => ?_) (fun h24 => ?_)
        · refine g_iconst C dX8_giveGroups_40 ?_
          refine g_goto (tgt := 45) C dX8_giveGroups_41 rfl ?_
          show G X _ 45 _ _
          refine g_istore C dX8_giveGroups_45 (Nat.le_of_ble_eq_true rfl) ?_
          show G X _ 47 [_, _, _, _, _, _, _] _
          refine g_iload C dX8_giveGroups_47 rfl ?_
          refine g_if_eq (tgt := 65) C dX8_giveGroups_49 rfl (by omega) (fun h49 => ?_) (fun h49 => ?_)
          · omega
          · refine g_iload_n C dX8_giveGroups_52 rfl ?_
            refine g_aload_n C dX8_giveGroups_53 rfl ?_
            refine g_iload C dX8_giveGroups_54 rfl ?_
            refine gc_Row_markAt C (by decide) tw_427 (Nat.le_of_ble_eq_true rfl) rfl dX8_giveGroups_56 hr i (by omega) hA2 (?_)
            refine gc_startMark C (by decide) tw_794 (Nat.le_of_ble_eq_true rfl) rfl dX8_giveGroups_59 _ (?_)
            refine g_goto (tgt := 76) C dX8_giveGroups_62 rfl ?_
            show G X _ 76 _ _
            exact d76 1 _ (by rw [gmL, if_pos (by omega)])
        · refine g_aload_n C dX8_giveGroups_27 rfl ?_
          refine g_iload C dX8_giveGroups_28 rfl ?_
          refine g_iconst C dX8_giveGroups_30 ?_
          refine g_isub C dX8_giveGroups_31 ?_
          rw [show (i : Int) - 1 = ((i - 1 : Nat) : Int) by omega]
          refine gc_Row_keyAt C (by decide) tw_431 (Nat.le_of_ble_eq_true rfl) rfl dX8_giveGroups_32 hr (i - 1) (by omega) hA2 (?_)
          refine g_iload C dX8_giveGroups_35 rfl ?_
          show G X _ 37 _ _
          refine g_icmp_eq (tgt := 44) C dX8_giveGroups_37 rfl (by omega) (by omega) (fun h37 => ?_) (fun h37 => ?_)
          · refine g_iconst C dX8_giveGroups_44 ?_
            refine g_istore C dX8_giveGroups_45 (Nat.le_of_ble_eq_true rfl) ?_
            show G X _ 47 [_, _, _, _, _, _, _] _
            refine g_iload C dX8_giveGroups_47 rfl ?_
            refine g_if_eq (tgt := 65) C dX8_giveGroups_49 rfl (by omega) (fun h49 => ?_) (fun h49 => ?_)
            · refine g_iload_n C dX8_giveGroups_65 rfl ?_
              refine g_iload_n C dX8_giveGroups_66 rfl ?_
              refine g_aload_n C dX8_giveGroups_67 rfl ?_
              refine g_iload C dX8_giveGroups_68 rfl ?_
              refine gc_Row_markAt C (by decide) tw_427 (Nat.le_of_ble_eq_true rfl) rfl dX8_giveGroups_70 hr i (by omega) hA2 (?_)
              refine gc_moreMark C (by decide) tw_797 (Nat.le_of_ble_eq_true rfl) rfl dX8_giveGroups_73 _ _ (?_)
              show G X _ 76 _ _
              exact d76 _ _ (by rw [gmL, if_neg (by omega)])
            · omega
          · refine g_iconst C dX8_giveGroups_40 ?_
            refine g_goto (tgt := 45) C dX8_giveGroups_41 rfl ?_
            show G X _ 45 _ _
            refine g_istore C dX8_giveGroups_45 (Nat.le_of_ble_eq_true rfl) ?_
            show G X _ 47 [_, _, _, _, _, _, _] _
            refine g_iload C dX8_giveGroups_47 rfl ?_
            refine g_if_eq (tgt := 65) C dX8_giveGroups_49 rfl (by omega) (fun h49 => ?_) (fun h49 => ?_)
            · omega
            · refine g_iload_n C dX8_giveGroups_52 rfl ?_
              refine g_aload_n C dX8_giveGroups_53 rfl ?_
              refine g_iload C dX8_giveGroups_54 rfl ?_
              refine gc_Row_markAt C (by decide) tw_427 (Nat.le_of_ble_eq_true rfl) rfl dX8_giveGroups_56 hr i (by omega) hA2 (?_)
              refine gc_startMark C (by decide) tw_794 (Nat.le_of_ble_eq_true rfl) rfl dX8_giveGroups_59 _ (?_)
              refine g_goto (tgt := 76) C dX8_giveGroups_62 rfl ?_
              show G X _ 76 _ _
              exact d76 1 _ (by rw [gmL, if_pos (by omega)])
  refine g_iconst C dX8_giveGroups_0 ?_
  refine g_istore_n C dX8_giveGroups_1 (Nat.le_of_ble_eq_true rfl) ?_
  show G X _ 2 [_, _, _, _, _, _, _] _
  refine g_iconst C dX8_giveGroups_2 ?_
  refine g_istore C dX8_giveGroups_3 (Nat.le_of_ble_eq_true rfl) ?_
  show G X _ 5 [_, _, _, _, _, _, _] _
  exact lp 300 0 M (by omega) (Nat.zero_le _) hL zFo.refl
theorem gc_giveGroups {X : z_X} {cc : ByteArray} {own : String} {ret : Option FieldType} {dC nC : Nat} {M : zM} {pc : Nat} {lv : List (Option Value)} {st : List Value} (C : Cx cc own ret dC nC X) (hdep : 5 ≤ dC) {idx : Nat} (hl0 : Cond.methodLink own idx yX8_giveGroups ∈ tT) (hcat : (st.map fun v => v.category).sum ≤ 8) (hlen : lv.length = nC) (hdec : decode cc pc = .ok (.invokevirtual idx, 3)) {r : Nat} (hr : r < 20) (hr12 : r ≠ 12) {A : List (Int × Int)} (hbA : zIn A) (hA : zRow M r A) (hL : zOut M []) (kk : ∀ M' : zM, (zOut M' (ggL A A.length) ∧ zFo M M') → G X M' (pc + 3) lv st) : G X M pc lv (.int (jI (0)) :: .ref (zA X (3 * r)) :: .ref (zA X (95)) :: st) := by
  refine g_callV (k := 2) (o := 95) C (c_giveGroups (zL X) hr hr12 hbA M hA hL) mfX8_giveGroups hl0 ⟨rfl, by decide +kernel, by decide +kernel, by decide +kernel⟩ ⟨hdep, by decide⟩ (by omega) (fun _ _ _ _ => ze_ms) rfl rfl rfl rfl hcat hlen hdec (fun v M' h => ?_)
  obtain ⟨rfl, h⟩ := h
  exact kk M' h
set_option maxHeartbeats 4000000 in
set_option maxRecDepth 10000 in
theorem c_group (l : Launch) {c : Nat} (f : Nat) (hf : f < c) (hc : c < 12) {A : List (Int × Int)} (hbA : zIn A) (hu : upB A = true) (pg : Nat) (hpg : 1 ≤ pg ∧ pg ≤ 100) (M : zM) (hM : M 95 1 = (c : Int)) (hp : M 95 2 = (pg : Int)) (hA : zRow M f A) : Mt l 5 yX8_group cX8_group 4 (some .int) (fun ad => [.ref (ad (95)), .int (jI ((f : Int))), .int (jI (0))]) M (fun _ vv M' => ∃ x : Int, vv = some (.int (jI x)) ∧ (x = (c : Int) ∧ zRow M' c (ggL A A.length) ∧ M' 95 1 = (c : Int) + 1 ∧ M' 95 2 = M 95 2 ∧ M' 95 3 = M 95 3 ∧ ∀ o, o ≠ 3 * c → o ≠ 3 * c + 1 → o ≠ 3 * c + 2 → o ≠ 36 → o ≠ 37 → o ≠ 38 → o ≠ 89 → o ≠ 95 → M' o = M o)) := by
  refine Mt.of (fun ad => [some (.ref (ad (95))), some (.int (jI ((f : Int)))), some (.int (jI (0))), none]) (by decide +kernel) (fun _ => rfl) (fun _ => rfl) (fun _ => Nat.le_of_ble_eq_true rfl) fun X hX C hR => ?_
  subst hX
  show G X M 0 [some (.ref ((zA X) (95))), some (.int (jI ((f : Int)))), some (.int (jI (0))), none] []
  have hA120 := hA.2.1
  refine g_aload_n C dX8_group_0 rfl ?_
  refine g_iload_n C dX8_group_1 rfl ?_
  refine gc_rowOf C (by decide) tw_365 (Nat.le_of_ble_eq_true rfl) rfl dX8_group_2 f hf (by omega) hM (?_)
  refine g_astore_n C dX8_group_5 (Nat.le_of_ble_eq_true rfl) ?_
  show G X _ 6 [_, _, _, _] _
  refine g_iload_n C dX8_group_6 rfl ?_
  refine gc_needHow C (by decide) tw_714 (Nat.le_of_ble_eq_true rfl) rfl dX8_group_7 _ (by omega) (?_)
  refine g_aload_n C dX8_group_10 rfl ?_
  refine gc_Row_isUp C (by decide) tw_442 (Nat.le_of_ble_eq_true rfl) rfl dX8_group_11 (by omega) hA hbA (?_)
  rw [if_pos hu]
  refine g_if_ne (tgt := 35) C dX8_group_14 rfl (by omega) (fun h14 => ?_) (fun h14 => ?_)
  · refine g_aload_n C dX8_group_35 rfl ?_
    refine gc_needRoom C (by decide) tw_337 (Nat.le_of_ble_eq_true rfl) rfl dX8_group_36 c hc hM (?_)
    refine g_aload_n C dX8_group_39 rfl ?_
    refine gf_Ms_outcome C tw_225 dX8_group_40 ?_
    refine gc_Out_clear C (by decide) tw_592 (Nat.le_of_ble_eq_true rfl) rfl dX8_group_43  (fun N1 ⟨b1, b2, b3, b4, b5⟩ => ?_)
    have hA1 : zRow N1 f A := hA.same (fun o a b => b5 o (by omega) (by omega) (by omega) (by omega))
    have hp1 : N1 95 2 = (pg : Int) := by rw [b5 95 (by omega) (by omega) (by omega) (by omega)]; exact hp
    refine g_aload_n C dX8_group_46 rfl ?_
    show G X _ 47 _ _
    refine gf_Ms_outcome C tw_225 dX8_group_47 ?_
    refine g_aload_n C dX8_group_50 rfl ?_
    refine gc_Row_count C (by decide) tw_390 (Nat.le_of_ble_eq_true rfl) rfl dX8_group_51 (by omega) hA1 (?_)
    refine g_aload_n C dX8_group_54 rfl ?_
    refine gf_Ms_page C tw_216 dX8_group_55 ?_
    rw [hp1]
    refine gc_pagesFor C (by decide) tw_722 (Nat.le_of_ble_eq_true rfl) rfl dX8_group_58 _ _ (by omega) (by omega) (?_)
    show G X _ 61 _ _
    refine gp_Out_readPages C tw_160 dX8_group_61 ?_
    refine g_aload_n C dX8_group_64 rfl ?_
    refine g_aload_n C dX8_group_65 rfl ?_
    refine g_iload_n C dX8_group_66 rfl ?_
    generalize hN2 : zu N1 89 2 _ = N2
    have c1 : ∀ o, o ≠ 89 → N2 o = N1 o := fun o a => by rw [← hN2, zu_o _ _ _ _ a]
    have hA2 : zRow N2 f A := hA1.same (fun o a b => c1 o (by omega))
    have hO2 : zOut N2 [] := b1.pages c1 (by rw [← hN2, zu_k _ _ _ _ (by omega)])
    refine gc_giveGroups C (by decide) tw_790 (Nat.le_of_ble_eq_true rfl) rfl dX8_group_67 (by omega) (by omega) hbA hA2 hO2 (fun N3 ⟨d1, d2⟩ => ?_)
    refine g_aload_n C dX8_group_70 rfl ?_
    show G X _ 71 _ _
    refine gf_Ms_outcome C tw_225 dX8_group_71 ?_
    refine g_aload_n C dX8_group_74 rfl ?_
    refine gf_Ms_outcome C tw_225 dX8_group_75 ?_
    refine gf_Out_made C tw_158 dX8_group_78 ?_
    rw [d1.2]
    refine g_aload_n C dX8_group_81 rfl ?_
    refine gf_Ms_page C tw_216 dX8_group_82 ?_
    rw [d2.1 95 (by omega) (by omega) (by omega) (by omega), c1 95 (by omega), hp1]
    show G X _ 85 _ _
    refine gc_pagesFor C (by decide) tw_722 (Nat.le_of_ble_eq_true rfl) rfl dX8_group_85 _ _ (by have := ggL_len A A.length; omega) (by omega) (?_)
    refine gp_Out_writtenPages C tw_162 dX8_group_88 ?_
    refine g_aload_n C dX8_group_91 rfl ?_
    generalize hN4 : zu N3 89 3 _ = N4
    have c4 : ∀ o, o ≠ 89 → N4 o = N3 o := fun o a => by rw [← hN4, zu_o _ _ _ _ a]
    have hO4 : zOut N4 (ggL A A.length) := d1.pages c4 (by rw [← hN4, zu_k _ _ _ _ (by omega)])
    have hK : ∀ o, o ≠ 36 → o ≠ 37 → o ≠ 38 → o ≠ 89 → N4 o = M o := fun o g4 g5 g6 g7 => (c4 o g7).trans ((d2.1 o g4 g5 g6 g7).trans ((c1 o g7).trans (b5 o g4 g5 g6 g7)))
    refine gc_land C (by decide) tw_610 (Nat.le_of_ble_eq_true rfl) rfl dX8_group_92 c hc (by rw [hK 95 (by omega) (by omega) (by omega) (by omega)]; exact hM) hO4 (fun x N5 ⟨e0, e1, e2, e3, e4, e5, e6, e7, e8⟩ => ?_)
    refine g_iret C hR dX8_group_95 ?_
    refine ⟨_, rfl, e0, e1, e2, ?_, ?_, fun o g1 g2 g3 g4 g5 g6 g7 g8 => (e8 o g1 g2 g3 g8).trans (hK o g4 g5 g6 g7)⟩
    · rw [e3, hK 95 (by omega) (by omega) (by omega) (by omega)]
    · rw [e4, hK 95 (by omega) (by omega) (by omega) (by omega)]
  · omega
theorem gc_group {X : z_X} {cc : ByteArray} {own : String} {ret : Option FieldType} {dC nC : Nat} {M : zM} {pc : Nat} {lv : List (Option Value)} {st : List Value} (C : Cx cc own ret dC nC X) (hdep : 6 ≤ dC) {idx : Nat} (hl0 : Cond.methodLink own idx yX8_group ∈ tT) (hcat : (st.map fun v => v.category).sum ≤ 8) (hlen : lv.length = nC) (hdec : decode cc pc = .ok (.invokevirtual idx, 3)) {c : Nat} (f : Nat) (hf : f < c) (hc : c < 12) {A : List (Int × Int)} (hbA : zIn A) (hu : upB A = true) (pg : Nat) (hpg : 1 ≤ pg ∧ pg ≤ 100) (hM : M 95 1 = (c : Int)) (hp : M 95 2 = (pg : Int)) (hA : zRow M f A) (kk : ∀ (x : Int) (M' : zM), (x = (c : Int) ∧ zRow M' c (ggL A A.length) ∧ M' 95 1 = (c : Int) + 1 ∧ M' 95 2 = M 95 2 ∧ M' 95 3 = M 95 3 ∧ ∀ o, o ≠ 3 * c → o ≠ 3 * c + 1 → o ≠ 3 * c + 2 → o ≠ 36 → o ≠ 37 → o ≠ 38 → o ≠ 89 → o ≠ 95 → M' o = M o) → G X M' (pc + 3) lv (.int (jI x) :: st)) : G X M pc lv (.int (jI (0)) :: .int (jI ((f : Int))) :: .ref (zA X (95)) :: st) := by
  refine g_callV (k := 2) (o := 95) C (c_group (zL X) f hf hc hbA hu pg hpg M hM hp hA) mfX8_group hl0 ⟨rfl, by decide +kernel, by decide +kernel, by decide +kernel⟩ ⟨hdep, by decide⟩ (by omega) (fun _ _ _ _ => ze_ms) rfl rfl rfl rfl hcat hlen hdec (fun v M' h => ?_)
  obtain ⟨x, rfl, h⟩ := h
  exact kk x M' h
set_option maxHeartbeats 4000000 in
set_option maxRecDepth 10000 in
theorem c_join0 (l : Launch) {c : Nat} (f g : Nat) (hf : f < c) (hg : g < c) (hc : c < 12) {A B : List (Int × Int)} (hbA : zIn A) (hbB : zIn B) (huA : upB A = true) (huB : upB B = true) (pg mem : Nat) (hpg : 1 ≤ pg ∧ pg ≤ 100) (hm : 3 ≤ mem ∧ mem ≤ 12) (hs : (jn0 A B A.length).length ≤ 120) (M : zM) (hM : M 95 1 = (c : Int)) (hp : M 95 2 = (pg : Int)) (hmem : M 95 3 = (mem : Int)) (hA : zRow M f A) (hB : zRow M g B) : Mt l 6 yX8_join cX8_join 6 (some .int) (fun ad => [.ref (ad (95)), .int (jI ((f : Int))), .int (jI ((g : Int))), .int (jI (0))]) M (fun _ vv M' => ∃ x : Int, vv = some (.int (jI x)) ∧ (x = (c : Int) ∧ zRow M' c (jn0 A B A.length) ∧ M' 95 1 = (c : Int) + 1 ∧ M' 95 2 = M 95 2 ∧ M' 95 3 = M 95 3 ∧ ∀ o, o ≠ 3 * c → o ≠ 3 * c + 1 → o ≠ 3 * c + 2 → o ≠ 36 → o ≠ 37 → o ≠ 38 → o ≠ 89 → o ≠ 95 → M' o = M o)) := by
  refine Mt.of (fun ad => [some (.ref (ad (95))), some (.int (jI ((f : Int)))), some (.int (jI ((g : Int)))), some (.int (jI (0))), none, none]) (by decide +kernel) (fun _ => rfl) (fun _ => rfl) (fun _ => Nat.le_of_ble_eq_true rfl) fun X hX C hR => ?_
  subst hX
  show G X M 0 [some (.ref ((zA X) (95))), some (.int (jI ((f : Int)))), some (.int (jI ((g : Int)))), some (.int (jI (0))), none, none] []
  have hA120 := hA.2.1
  refine g_aload_n C dX8_join_0 rfl ?_
  refine g_iload_n C dX8_join_1 rfl ?_
  refine gc_rowOf C (by decide) tw_365 (Nat.le_of_ble_eq_true rfl) rfl dX8_join_2 f hf (by omega) hM (?_)
  refine g_astore C dX8_join_5 (Nat.le_of_ble_eq_true rfl) ?_
  show G X _ 7 [_, _, _, _, _, _] _
  refine g_aload_n C dX8_join_7 rfl ?_
  refine g_iload_n C dX8_join_8 rfl ?_
  refine gc_rowOf C (by decide) tw_365 (Nat.le_of_ble_eq_true rfl) rfl dX8_join_9 g hg (by omega) hM (?_)
  refine g_astore C dX8_join_12 (Nat.le_of_ble_eq_true rfl) ?_
  show G X _ 14 [_, _, _, _, _, _] _
  refine g_iload_n C dX8_join_14 rfl ?_
  refine gc_needHow C (by decide) tw_714 (Nat.le_of_ble_eq_true rfl) rfl dX8_join_15 _ (by omega) (?_)
  refine g_aload C dX8_join_18 rfl ?_
  refine gc_needUp C (by decide) tw_651 (Nat.le_of_ble_eq_true rfl) rfl dX8_join_20 (by omega) hA hbA huA (?_)
  refine g_aload C dX8_join_23 rfl ?_
  refine gc_needUp C (by decide) tw_651 (Nat.le_of_ble_eq_true rfl) rfl dX8_join_25 (by omega) hB hbB huB (?_)
  show G X _ 28 _ _
  refine g_aload_n C dX8_join_28 rfl ?_
  refine gc_needRoom C (by decide) tw_337 (Nat.le_of_ble_eq_true rfl) rfl dX8_join_29 c hc hM (?_)
  refine g_aload_n C dX8_join_32 rfl ?_
  refine gf_Ms_outcome C tw_225 dX8_join_33 ?_
  refine gc_Out_clear C (by decide) tw_592 (Nat.le_of_ble_eq_true rfl) rfl dX8_join_36  (fun N1 ⟨b1, b2, b3, b4, b5⟩ => ?_)
  have hA1 : zRow N1 f A := hA.same (fun o a b => b5 o (by omega) (by omega) (by omega) (by omega))
  have hB1 : zRow N1 g B := hB.same (fun o a b => b5 o (by omega) (by omega) (by omega) (by omega))
  have e95 := b5 95 (by omega) (by omega) (by omega) (by omega)
  refine g_aload_n C dX8_join_39 rfl ?_
  show G X _ 40 _ _
  refine g_aload C dX8_join_40 rfl ?_
  refine g_aload C dX8_join_42 rfl ?_
  refine g_iload_n C dX8_join_44 rfl ?_
  refine gc_merge0 C (by decide) tw_718 (Nat.le_of_ble_eq_true rfl) rfl dX8_join_45 (r := f) (q := g) (by omega) (by omega) (by omega) (by omega) hbA hbB huA huB pg mem hpg hm hs (by rw [e95]; exact hp) (by rw [e95]; exact hmem) hA1 hB1 b1 (fun N2 ⟨d1, d2⟩ => ?_)
  have hK : ∀ o, o ≠ 36 → o ≠ 37 → o ≠ 38 → o ≠ 89 → N2 o = M o := fun o g4 g5 g6 g7 => (d2 o g4 g5 g6 g7).trans (b5 o g4 g5 g6 g7)
  refine g_aload_n C dX8_join_48 rfl ?_
  refine gc_needFit C (by decide) tw_743 (Nat.le_of_ble_eq_true rfl) rfl dX8_join_49 _ (hs) d1.2 (?_)
  show G X _ 52 _ _
  refine g_aload_n C dX8_join_52 rfl ?_
  refine gc_land C (by decide) tw_610 (Nat.le_of_ble_eq_true rfl) rfl dX8_join_53 c hc (by rw [hK 95 (by omega) (by omega) (by omega) (by omega)]; exact hM) d1 (fun x N5 ⟨e0, e1, e2, e3, e4, e5, e6, e7, e8⟩ => ?_)
  refine g_iret C hR dX8_join_56 ?_
  refine ⟨_, rfl, e0, e1, e2, ?_, ?_, fun o g1 g2 g3 g4 g5 g6 g7 g8 => (e8 o g1 g2 g3 g8).trans (hK o g4 g5 g6 g7)⟩
  · rw [e3, hK 95 (by omega) (by omega) (by omega) (by omega)]
  · rw [e4, hK 95 (by omega) (by omega) (by omega) (by omega)]
theorem gc_join0 {X : z_X} {cc : ByteArray} {own : String} {ret : Option FieldType} {dC nC : Nat} {M : zM} {pc : Nat} {lv : List (Option Value)} {st : List Value} (C : Cx cc own ret dC nC X) (hdep : 7 ≤ dC) {idx : Nat} (hl0 : Cond.methodLink own idx yX8_join ∈ tT) (hcat : (st.map fun v => v.category).sum ≤ 8) (hlen : lv.length = nC) (hdec : decode cc pc = .ok (.invokevirtual idx, 3)) {c : Nat} (f g : Nat) (hf : f < c) (hg : g < c) (hc : c < 12) {A B : List (Int × Int)} (hbA : zIn A) (hbB : zIn B) (huA : upB A = true) (huB : upB B = true) (pg mem : Nat) (hpg : 1 ≤ pg ∧ pg ≤ 100) (hm : 3 ≤ mem ∧ mem ≤ 12) (hs : (jn0 A B A.length).length ≤ 120) (hM : M 95 1 = (c : Int)) (hp : M 95 2 = (pg : Int)) (hmem : M 95 3 = (mem : Int)) (hA : zRow M f A) (hB : zRow M g B) (kk : ∀ (x : Int) (M' : zM), (x = (c : Int) ∧ zRow M' c (jn0 A B A.length) ∧ M' 95 1 = (c : Int) + 1 ∧ M' 95 2 = M 95 2 ∧ M' 95 3 = M 95 3 ∧ ∀ o, o ≠ 3 * c → o ≠ 3 * c + 1 → o ≠ 3 * c + 2 → o ≠ 36 → o ≠ 37 → o ≠ 38 → o ≠ 89 → o ≠ 95 → M' o = M o) → G X M' (pc + 3) lv (.int (jI x) :: st)) : G X M pc lv (.int (jI (0)) :: .int (jI ((g : Int))) :: .int (jI ((f : Int))) :: .ref (zA X (95)) :: st) := by
  refine g_callV (k := 3) (o := 95) C (c_join0 (zL X) f g hf hg hc hbA hbB huA huB pg mem hpg hm hs M hM hp hmem hA hB) mfX8_join hl0 ⟨rfl, by decide +kernel, by decide +kernel, by decide +kernel⟩ ⟨hdep, by decide⟩ (by omega) (fun _ _ _ _ => ze_ms) rfl rfl rfl rfl hcat hlen hdec (fun v M' h => ?_)
  obtain ⟨x, rfl, h⟩ := h
  exact kk x M' h
set_option maxHeartbeats 4000000 in
set_option maxRecDepth 10000 in
theorem c_joinX (l : Launch) {c : Nat} (f g : Nat) (hf : f < c) (hg : g < c) (hc : c < 12) {A B : List (Int × Int)} (hbA : zIn A) (hbB : zIn B) (huA : upB A = true) (huB : upB B = true) (pg mem : Nat) (hpg : 1 ≤ pg ∧ pg ≤ 100) (hm : 3 ≤ mem ∧ mem ≤ 12) (w : Int) (hw : w = 2 ∨ w = 3) (M : zM) (hM : M 95 1 = (c : Int)) (hp : M 95 2 = (pg : Int)) (hmem : M 95 3 = (mem : Int)) (hA : zRow M f A) (hB : zRow M g B) : Mt l 6 yX8_join cX8_join 6 (some .int) (fun ad => [.ref (ad (95)), .int (jI ((f : Int))), .int (jI ((g : Int))), .int (jI (w))]) M (fun _ vv M' => ∃ x : Int, vv = some (.int (jI x)) ∧ (x = (c : Int) ∧ zRow M' c (jnX A B w A.length) ∧ M' 95 1 = (c : Int) + 1 ∧ M' 95 2 = M 95 2 ∧ M' 95 3 = M 95 3 ∧ ∀ o, o ≠ 3 * c → o ≠ 3 * c + 1 → o ≠ 3 * c + 2 → o ≠ 36 → o ≠ 37 → o ≠ 38 → o ≠ 89 → o ≠ 95 → M' o = M o)) := by
  refine Mt.of (fun ad => [some (.ref (ad (95))), some (.int (jI ((f : Int)))), some (.int (jI ((g : Int)))), some (.int (jI (w))), none, none]) (by decide +kernel) (fun _ => rfl) (fun _ => rfl) (fun _ => Nat.le_of_ble_eq_true rfl) fun X hX C hR => ?_
  subst hX
  show G X M 0 [some (.ref ((zA X) (95))), some (.int (jI ((f : Int)))), some (.int (jI ((g : Int)))), some (.int (jI (w))), none, none] []
  have hA120 := hA.2.1
  refine g_aload_n C dX8_join_0 rfl ?_
  refine g_iload_n C dX8_join_1 rfl ?_
  refine gc_rowOf C (by decide) tw_365 (Nat.le_of_ble_eq_true rfl) rfl dX8_join_2 f hf (by omega) hM (?_)
  refine g_astore C dX8_join_5 (Nat.le_of_ble_eq_true rfl) ?_
  show G X _ 7 [_, _, _, _, _, _] _
  refine g_aload_n C dX8_join_7 rfl ?_
  refine g_iload_n C dX8_join_8 rfl ?_
  refine gc_rowOf C (by decide) tw_365 (Nat.le_of_ble_eq_true rfl) rfl dX8_join_9 g hg (by omega) hM (?_)
  refine g_astore C dX8_join_12 (Nat.le_of_ble_eq_true rfl) ?_
  show G X _ 14 [_, _, _, _, _, _] _
  refine g_iload_n C dX8_join_14 rfl ?_
  refine gc_needHow C (by decide) tw_714 (Nat.le_of_ble_eq_true rfl) rfl dX8_join_15 w (by omega) (?_)
  refine g_aload C dX8_join_18 rfl ?_
  refine gc_needUp C (by decide) tw_651 (Nat.le_of_ble_eq_true rfl) rfl dX8_join_20 (by omega) hA hbA huA (?_)
  refine g_aload C dX8_join_23 rfl ?_
  refine gc_needUp C (by decide) tw_651 (Nat.le_of_ble_eq_true rfl) rfl dX8_join_25 (by omega) hB hbB huB (?_)
  show G X _ 28 _ _
  refine g_aload_n C dX8_join_28 rfl ?_
  refine gc_needRoom C (by decide) tw_337 (Nat.le_of_ble_eq_true rfl) rfl dX8_join_29 c hc hM (?_)
  refine g_aload_n C dX8_join_32 rfl ?_
  refine gf_Ms_outcome C tw_225 dX8_join_33 ?_
  refine gc_Out_clear C (by decide) tw_592 (Nat.le_of_ble_eq_true rfl) rfl dX8_join_36  (fun N1 ⟨b1, b2, b3, b4, b5⟩ => ?_)
  have hA1 : zRow N1 f A := hA.same (fun o a b => b5 o (by omega) (by omega) (by omega) (by omega))
  have hB1 : zRow N1 g B := hB.same (fun o a b => b5 o (by omega) (by omega) (by omega) (by omega))
  have e95 := b5 95 (by omega) (by omega) (by omega) (by omega)
  refine g_aload_n C dX8_join_39 rfl ?_
  show G X _ 40 _ _
  refine g_aload C dX8_join_40 rfl ?_
  refine g_aload C dX8_join_42 rfl ?_
  refine g_iload_n C dX8_join_44 rfl ?_
  refine gc_mergeX C (by decide) tw_718 (Nat.le_of_ble_eq_true rfl) rfl dX8_join_45 (r := f) (q := g) (by omega) (by omega) (by omega) (by omega) hbA hbB huA huB pg mem hpg hm w hw (by rw [e95]; exact hp) (by rw [e95]; exact hmem) hA1 hB1 b1 (fun N2 ⟨d1, d2⟩ => ?_)
  have hK : ∀ o, o ≠ 36 → o ≠ 37 → o ≠ 38 → o ≠ 89 → N2 o = M o := fun o g4 g5 g6 g7 => (d2 o g4 g5 g6 g7).trans (b5 o g4 g5 g6 g7)
  refine g_aload_n C dX8_join_48 rfl ?_
  refine gc_needFit C (by decide) tw_743 (Nat.le_of_ble_eq_true rfl) rfl dX8_join_49 _ (Nat.le_trans (jnX_len _) hA120) d1.2 (?_)
  show G X _ 52 _ _
  refine g_aload_n C dX8_join_52 rfl ?_
  refine gc_land C (by decide) tw_610 (Nat.le_of_ble_eq_true rfl) rfl dX8_join_53 c hc (by rw [hK 95 (by omega) (by omega) (by omega) (by omega)]; exact hM) d1 (fun x N5 ⟨e0, e1, e2, e3, e4, e5, e6, e7, e8⟩ => ?_)
  refine g_iret C hR dX8_join_56 ?_
  refine ⟨_, rfl, e0, e1, e2, ?_, ?_, fun o g1 g2 g3 g4 g5 g6 g7 g8 => (e8 o g1 g2 g3 g8).trans (hK o g4 g5 g6 g7)⟩
  · rw [e3, hK 95 (by omega) (by omega) (by omega) (by omega)]
  · rw [e4, hK 95 (by omega) (by omega) (by omega) (by omega)]
theorem gc_joinX {X : z_X} {cc : ByteArray} {own : String} {ret : Option FieldType} {dC nC : Nat} {M : zM} {pc : Nat} {lv : List (Option Value)} {st : List Value} (C : Cx cc own ret dC nC X) (hdep : 7 ≤ dC) {idx : Nat} (hl0 : Cond.methodLink own idx yX8_join ∈ tT) (hcat : (st.map fun v => v.category).sum ≤ 8) (hlen : lv.length = nC) (hdec : decode cc pc = .ok (.invokevirtual idx, 3)) {c : Nat} (f g : Nat) (hf : f < c) (hg : g < c) (hc : c < 12) {A B : List (Int × Int)} (hbA : zIn A) (hbB : zIn B) (huA : upB A = true) (huB : upB B = true) (pg mem : Nat) (hpg : 1 ≤ pg ∧ pg ≤ 100) (hm : 3 ≤ mem ∧ mem ≤ 12) (w : Int) (hw : w = 2 ∨ w = 3) (hM : M 95 1 = (c : Int)) (hp : M 95 2 = (pg : Int)) (hmem : M 95 3 = (mem : Int)) (hA : zRow M f A) (hB : zRow M g B) (kk : ∀ (x : Int) (M' : zM), (x = (c : Int) ∧ zRow M' c (jnX A B w A.length) ∧ M' 95 1 = (c : Int) + 1 ∧ M' 95 2 = M 95 2 ∧ M' 95 3 = M 95 3 ∧ ∀ o, o ≠ 3 * c → o ≠ 3 * c + 1 → o ≠ 3 * c + 2 → o ≠ 36 → o ≠ 37 → o ≠ 38 → o ≠ 89 → o ≠ 95 → M' o = M o) → G X M' (pc + 3) lv (.int (jI x) :: st)) : G X M pc lv (.int (jI (w)) :: .int (jI ((g : Int))) :: .int (jI ((f : Int))) :: .ref (zA X (95)) :: st) := by
  refine g_callV (k := 3) (o := 95) C (c_joinX (zL X) f g hf hg hc hbA hbB huA huB pg mem hpg hm w hw M hM hp hmem hA hB) mfX8_join hl0 ⟨rfl, by decide +kernel, by decide +kernel, by decide +kernel⟩ ⟨hdep, by decide⟩ (by omega) (fun _ _ _ _ => ze_ms) rfl rfl rfl rfl hcat hlen hdec (fun v M' h => ?_)
  obtain ⟨x, rfl, h⟩ := h
  exact kk x M' h
set_option maxHeartbeats 4000000 in
set_option maxRecDepth 10000 in
theorem c_share (l : Launch) {c : Nat} (f g : Nat) (hf : f < c) (hg : g < c) (hc : c ≤ 12) {A B : List (Int × Int)} (hbA : zIn A) (hbB : zIn B) (hA40 : A.length ≤ 40) (M : zM) (hM : M 95 1 = (c : Int)) (hA : zRow M f A) (hB : zRow M g B) : Mt l 4 yX8_share cX8_share 7 (some .double) (fun ad => [.ref (ad (95)), .int (jI ((f : Int))), .int (jI ((g : Int)))]) M (fun _ vv M' => ∃ x : UInt64, vv = some (.double x) ∧ (x = shV A B ∧ ∀ o, o ≠ 94 → M' o = M o)) := by
  refine Mt.of (fun ad => [some (.ref (ad (95))), some (.int (jI ((f : Int)))), some (.int (jI ((g : Int)))), none, none, none, none]) (by decide +kernel) (fun _ => rfl) (fun _ => rfl) (fun _ => Nat.le_of_ble_eq_true rfl) fun X hX C hR => ?_
  subst hX
  show G X M 0 [some (.ref ((zA X) (95))), some (.int (jI ((f : Int)))), some (.int (jI ((g : Int)))), none, none, none, none] []
  have lp2 : ∀ (fk : Nat) (i : Nat) (N : zM), 200 - i < fk → i ≤ A.length → 1 ≤ A.length → zKs N (ksL B B.length) → (∀ o, o ≠ 94 → N o = M o) → G X N 70 [some (.ref (zA X 95)), some (.int (jI (f : Int))), some (.int (jI (g : Int))), some (.ref (zA X (3 * f))), some (.ref (zA X (3 * g))), some (.int (jI (shL A B i : Int))), some (.int (jI (i : Int)))] [] := by
    intro fk
    induction fk with
    | zero => intro i N hk; exact absurd hk (Nat.not_lt_zero _)
    | succ fk ih =>
      intro i N hk i1 h1A hS hF
      have hA2 : zRow N f A := hA.same (fun o a b => hF o (by omega))
      have hB2 : zRow N g B := hB.same (fun o a b => hF o (by omega))
      have hs := shL_le A B i
      have hA120 := hA.2.1
      refine g_iload C dX8_share_70 rfl ?_
      refine g_aload_n C dX8_share_72 rfl ?_
      refine gc_Row_count C (by decide) tw_390 (Nat.le_of_ble_eq_true rfl) rfl dX8_share_73 (by omega) hA2 (?_)
      refine g_icmp_ge (tgt := 104) C dX8_share_76 rfl (by omega) (by omega) (fun h76 => ?_) (fun h76 => ?_)
      · refine g_iload C dX8_share_104 rfl ?_
        refine g_i2d C dX8_share_106 ?_
        refine g_aload_n C dX8_share_107 rfl ?_
        refine gc_Row_count C (by decide) tw_390 (Nat.le_of_ble_eq_true rfl) rfl dX8_share_108 (by omega) hA2 (?_)
        refine g_i2d C dX8_share_111 ?_
        refine g_ddiv C dX8_share_112 (sh_n64 _ (by omega) _ (by omega) (by omega)) ?_
        show G X _ 113 _ _
        refine g_dret C hR dX8_share_113 ?_
        obtain rfl : i = A.length := by omega
        exact ⟨_, rfl, by unfold shV; rw [if_neg (by omega)], hF⟩
      · refine g_aload_n C dX8_share_79 rfl ?_
        refine gf_Ms_keySet C tw_227 dX8_share_80 ?_
        refine g_aload_n C dX8_share_83 rfl ?_
        refine g_iload C dX8_share_84 rfl ?_
        refine gc_Row_keyAt C (by decide) tw_431 (Nat.le_of_ble_eq_true rfl) rfl dX8_share_86 (by omega) i (by omega) hA2 (?_)
        have b1 := hbA.at i
        obtain ⟨nk, hnk, ek⟩ : ∃ nk : Nat, nk < 1999 ∧ kA A i = (nk : Int) - 999 := ⟨(kA A i + 999).toNat, by omega, by omega⟩
        rw [ek]
        refine gc_Ks_has C (by decide) tw_821 (Nat.le_of_ble_eq_true rfl) rfl dX8_share_89 nk hnk hS (?_)
        rw [← ek]
        show G X _ 92 _ _
        refine g_if_eq (tgt := 98) C dX8_share_92 rfl (by by_cases z : kA A i ∈ ksL B B.length <;> simp [z]) (fun h92 => ?_) (fun h92 => ?_)
        · refine g_iinc C dX8_share_98 rfl ?_
          show G X _ 101 [_, _, _, _, _, _, _] _
          refine g_goto (tgt := 70) C dX8_share_101 rfl ?_
          show G X _ 70 _ _
          have z : ¬ 0 < kc B (kA A i) := by
            rw [← ksL_kc]
            intro z
            rw [if_pos z] at h92; omega
          rw [show (shL A B i : Int) = (shL A B (i + 1) : Int) by rw [shL, if_neg z]]
          exact ih (i + 1) N (by omega) (by omega) h1A hS hF
        · refine g_iinc C dX8_share_95 rfl ?_
          show G X _ 98 [_, _, _, _, _, _, _] _
          refine g_iinc C dX8_share_98 rfl ?_
          show G X _ 101 [_, _, _, _, _, _, _] _
          refine g_goto (tgt := 70) C dX8_share_101 rfl ?_
          show G X _ 70 _ _
          have z : 0 < kc B (kA A i) := by
            rw [← ksL_kc]
            by_cases z : kA A i ∈ ksL B B.length
            · exact z
            · rw [if_neg z] at h92; omega
          rw [show (shL A B i : Int) + 1 = (shL A B (i + 1) : Int) by rw [shL, if_pos z]; rfl]
          exact ih (i + 1) N (by omega) (by omega) h1A hS hF
  have d64 : ∀ (v : Option Value) (N : zM), 1 ≤ A.length → zKs N (ksL B B.length) → (∀ o, o ≠ 94 → N o = M o) → G X N 64 [some (.ref (zA X 95)), some (.int (jI (f : Int))), some (.int (jI (g : Int))), some (.ref (zA X (3 * f))), some (.ref (zA X (3 * g))), v, none] [] := by
    intro v N h1A hS hF
    refine g_iconst C dX8_share_64 ?_
    refine g_istore C dX8_share_65 (Nat.le_of_ble_eq_true rfl) ?_
    show G X _ 67 [_, _, _, _, _, _, _] _
    refine g_iconst C dX8_share_67 ?_
    refine g_istore C dX8_share_68 (Nat.le_of_ble_eq_true rfl) ?_
    show G X _ 70 [_, _, _, _, _, _, _] _
    exact lp2 300 0 N (by omega) (Nat.zero_le _) h1A hS hF
  have lp1 : ∀ (fk : Nat) (i : Nat) (N : zM), 200 - i < fk → i ≤ B.length → 1 ≤ A.length → zKs N (ksL B i) → (∀ o, o ≠ 94 → N o = M o) → G X N 33 [some (.ref (zA X 95)), some (.int (jI (f : Int))), some (.int (jI (g : Int))), some (.ref (zA X (3 * f))), some (.ref (zA X (3 * g))), some (.int (jI (i : Int))), none] [] := by
    intro fk
    induction fk with
    | zero => intro i N hk; exact absurd hk (Nat.not_lt_zero _)
    | succ fk ih =>
      intro i N hk i1 h1A hS hF
      have hB2 : zRow N g B := hB.same (fun o a b => hF o (by omega))
      have hB120 := hB.2.1
      refine g_iload C dX8_share_33 rfl ?_
      refine g_aload C dX8_share_35 rfl ?_
      refine gc_Row_count C (by decide) tw_390 (Nat.le_of_ble_eq_true rfl) rfl dX8_share_37 (by omega) hB2 (?_)
      refine g_icmp_ge (tgt := 64) C dX8_share_40 rfl (by omega) (by omega) (fun h40 => ?_) (fun h40 => ?_)
      · obtain rfl : i = B.length := by omega
        exact d64 _ N h1A hS hF
      · refine g_aload_n C dX8_share_43 rfl ?_
        refine gf_Ms_keySet C tw_227 dX8_share_44 ?_
        refine g_aload C dX8_share_47 rfl ?_
        refine g_iload C dX8_share_49 rfl ?_
        refine gc_Row_keyAt C (by decide) tw_431 (Nat.le_of_ble_eq_true rfl) rfl dX8_share_51 (by omega) i (by omega) hB2 (?_)
        have b1 := hbB.at i
        obtain ⟨nk, hnk, ek⟩ : ∃ nk : Nat, nk < 1999 ∧ kA B i = (nk : Int) - 999 := ⟨(kA B i + 999).toNat, by omega, by omega⟩
        rw [ek]
        refine gc_Ks_add C (by decide) tw_462 (Nat.le_of_ble_eq_true rfl) rfl dX8_share_54 nk hnk hS (fun x N2 ⟨n1, n2, n3⟩ => ?_)
        rw [← ek] at n2
        show G X _ 57 _ _
        refine g_pop C dX8_share_57 rfl ?_
        refine g_iinc C dX8_share_58 rfl ?_
        show G X _ 61 [_, _, _, _, _, _, _] _
        refine g_goto (tgt := 33) C dX8_share_61 rfl ?_
        show G X _ 33 _ _
        exact ih (i + 1) N2 (by omega) (by omega) h1A n2 (fun o h => (n3 o h).trans (hF o h))
  refine g_aload_n C dX8_share_0 rfl ?_
  refine g_iload_n C dX8_share_1 rfl ?_
  refine gc_rowOf C (by decide) tw_365 (Nat.le_of_ble_eq_true rfl) rfl dX8_share_2 f hf hc hM (?_)
  refine g_astore_n C dX8_share_5 (Nat.le_of_ble_eq_true rfl) ?_
  show G X _ 6 [_, _, _, _, _, _, _] _
  refine g_aload_n C dX8_share_6 rfl ?_
  refine g_iload_n C dX8_share_7 rfl ?_
  refine gc_rowOf C (by decide) tw_365 (Nat.le_of_ble_eq_true rfl) rfl dX8_share_8 g hg hc hM (?_)
  refine g_astore C dX8_share_11 (Nat.le_of_ble_eq_true rfl) ?_
  show G X _ 13 [_, _, _, _, _, _, _] _
  refine g_aload_n C dX8_share_13 rfl ?_
  refine gc_Row_count C (by decide) tw_390 (Nat.le_of_ble_eq_true rfl) rfl dX8_share_14 (by omega) hA (?_)
  refine g_iconst C dX8_share_17 ?_
  refine g_icmp_ge (tgt := 23) C dX8_share_18 rfl (by omega) (by omega) (fun h18 => ?_) (fun h18 => ?_)
  · refine g_aload_n C dX8_share_23 rfl ?_
    refine gf_Ms_keySet C tw_227 dX8_share_24 ?_
    refine gc_Ks_clear C (by decide) tw_458 (Nat.le_of_ble_eq_true rfl) rfl dX8_share_27  (fun N ⟨n1, n2⟩ => ?_)
    refine g_iconst C dX8_share_30 ?_
    refine g_istore C dX8_share_31 (Nat.le_of_ble_eq_true rfl) ?_
    show G X _ 33 [_, _, _, _, _, _, _] _
    exact lp1 300 0 N (by omega) (Nat.zero_le _) (by omega) n1 n2
  · refine g_dconst0 C dX8_share_21 ?_
    refine g_dret C hR dX8_share_22 ?_
    exact ⟨_, rfl, by unfold shV; rw [if_pos (by omega)], fun _ _ => rfl⟩
theorem gc_share {X : z_X} {cc : ByteArray} {own : String} {ret : Option FieldType} {dC nC : Nat} {M : zM} {pc : Nat} {lv : List (Option Value)} {st : List Value} (C : Cx cc own ret dC nC X) (hdep : 5 ≤ dC) {idx : Nat} (hl0 : Cond.methodLink own idx yX8_share ∈ tT) (hcat : (st.map fun v => v.category).sum ≤ 8) (hlen : lv.length = nC) (hdec : decode cc pc = .ok (.invokevirtual idx, 3)) {c : Nat} (f g : Nat) (hf : f < c) (hg : g < c) (hc : c ≤ 12) {A B : List (Int × Int)} (hbA : zIn A) (hbB : zIn B) (hA40 : A.length ≤ 40) (hM : M 95 1 = (c : Int)) (hA : zRow M f A) (hB : zRow M g B) (kk : ∀ (x : UInt64) (M' : zM), (x = shV A B ∧ ∀ o, o ≠ 94 → M' o = M o) → G X M' (pc + 3) lv (.double x :: st)) : G X M pc lv (.int (jI ((g : Int))) :: .int (jI ((f : Int))) :: .ref (zA X (95)) :: st) := by
  refine g_callV (k := 2) (o := 95) C (c_share (zL X) f g hf hg hc hbA hbB hA40 M hM hA hB) mfX8_share hl0 ⟨rfl, by decide +kernel, by decide +kernel, by decide +kernel⟩ ⟨hdep, by decide⟩ (by omega) (fun _ _ _ _ => ze_ms) rfl rfl rfl rfl hcat hlen hdec (fun v M' h => ?_)
  obtain ⟨x, rfl, h⟩ := h
  exact kk x M' h
