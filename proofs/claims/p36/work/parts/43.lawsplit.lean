/-! the law: pairs, splitting -/
theorem g_icmp_ne_eq {X : z_X} {cc : ByteArray} {own : String} {ret : Option FieldType} {d n : Nat} {M : zM} {pc : Nat} {lv : List (Option Value)} {st : List Value} (C : Cx cc own ret d n X) {x y off : Int} {tgt : Nat} (hd : decode cc pc = .ok (.if_icmp .ne off, 3)) (ht : (pc : Int) + off = (tgt : Int)) (h : x = y) (k2 : G X M (pc + 3) lv st) : G X M pc lv (.int (jI y) :: .int (jI x) :: st) := by
  obtain ⟨p, l, e, R, s, m, args, below, meth, c, Q, D, ad, ⟨cI, cJ, cO⟩, lo, cs, sl⟩ := X
  obtain ⟨hx, hb, -⟩ := C
  subst h
  exact fun H locs ls hP hS hl => lv_icmp_ne hx hb hd ht (fun q => absurd rfl q) (fun _ => k2 H locs ls hP hS hl)
set_option maxHeartbeats 4000000 in
set_option maxRecDepth 10000 in
theorem lw_split {X : z_X} (C : Cx cL_law RL (some .boolean) 100 18 X) (hend : zHend X) {n pg mem : Nat} {L0 L1 : List (Int × Int)} (H : lwH n L0 L1 pg mem) {M : zM} (hS : zSt M 7 pg mem (lwF L0 L1 pg mem)) : G X M 732 [none, some (.ref (zA X 95)), none, none, some (.int (jI (n : Int))), none, none, none, none, none, some (.int (jI ((jn0 (srL L0) (srL L1) (srL L0).length).length : Int))), none, none, none, none, none, none, none] [] := by
  have H0 := H
  obtain ⟨hb0, hb1, hl0, hn, hl1, hl2, hpg, hm⟩ := H
  have hA := srL_len L0
  have hB := srL_len L1
  have bA := srL_in (L := L0) (by omega) hb0
  have bB := srL_in (L := L1) (by omega) hb1
  have uA := srL_up (L := L0) (by omega)
  have uB := srL_up (L := L1) (by omega)
  obtain ⟨J, hJ⟩ : ∃ J, J = (jn0 (srL L0) (srL L1) (srL L0).length) := ⟨_, rfl⟩
  obtain ⟨S, hS7⟩ : ∃ S, S = (sqS pg mem 3 L0 L1 (0, 0, [])).2.2 := ⟨_, rfl⟩
  have hkc : ∀ k, kc S k = kc J k := fun k => by
    rw [hS7, hJ, sqS_kc (by omega) (by omega) k 3 L0 L1 (0, 0, []) (by omega), jn0_kc k _ (Nat.le_refl _), List.take_length, kc_perm (srL_perm (L := L0) (by omega)), kc_perm (srL_perm (L := L1) (by omega))]
    show 0 + _ = _
    rw [Nat.zero_add]
  have hlen := kc_len hkc
  have bJ : zIn J := by rw [hJ]; exact jn0_in bA bB
  have bS : zIn S := by rw [hS7]; exact sqS_in 3 L0 L1 (0, 0, []) hb0 hb1 zIn.nil
  have uJ : upB J = true := by rw [hJ]; exact jn0_up uA _ (Nat.le_refl _)
  have hnd : nd S = nd J := nd_congr fun k => by rw [hkc k]
  have hJb : J.length ≤ 120 * 120 := by
    rw [hJ]
    refine Nat.le_trans (jn0_bound _) (Nat.mul_le_mul (by omega) (by omega))
  have r0 : zRow M 0 L0 := hS.row (by omega) rfl
  have r1 : zRow M 1 L1 := hS.row (by omega) rfl
  rw [← hJ]
  have k761 : J.length ≤ 120 → 1 ≤ n → ∀ N1 : zM, zSt N1 7 pg mem (lwF L0 L1 pg mem) → G X N1 761 [none, some (.ref (zA X 95)), none, none, some (.int (jI (n : Int))), none, none, none, none, none, some (.int (jI (J.length : Int))), none, none, none, none, none, none, none] [] := by
    intro hJ120 hn1 N1 s1
    refine g_aload_n C dL_law_761 rfl ?_
    refine g_iconst C dL_law_762 ?_
    refine g_iconst C dL_law_763 ?_
    refine gc_splitCost C (by decide) tw_813 (Nat.le_of_ble_eq_true rfl) rfl dL_law_764 0 1 (by omega) (by omega) (by omega) hb0 hb1 pg mem (by omega) (by omega) (by rw [← hS7]; omega) s1.1 s1.2.1 s1.2.2.1 (s1.row (by omega) rfl) (s1.row (by omega) rfl) (fun x N2 ⟨x2, f2⟩ => ?_)
    have s2 : zSt N2 7 pg mem (lwF L0 L1 pg mem) := s1.same (f2 95 (by omega) (by omega) (by omega) (by omega) (by omega) (by omega)) (fun o h => f2 o (by omega) (by omega) (by omega) (by omega) (by omega) (by omega))
    refine g_istore C dL_law_767 (Nat.le_of_ble_eq_true rfl) ?_
    show G X _ 769 [_, _, _, _, _, _, _, _, _, _, _, _, _, _, _, _, _, _] _
    refine g_aload_n C dL_law_769 rfl ?_
    refine gc_read C (by decide) tw_476 (Nat.le_of_ble_eq_true rfl) rfl dL_law_770  (?_)
    refine g_aload_n C dL_law_773 rfl ?_
    refine gc_written C (by decide) tw_480 (Nat.le_of_ble_eq_true rfl) rfl dL_law_774  (?_)
    refine g_iadd C dL_law_777 ?_
    refine g_istore C dL_law_778 (Nat.le_of_ble_eq_true rfl) ?_
    show G X _ 780 [_, _, _, _, _, _, _, _, _, _, _, _, _, _, _, _, _, _] _
    refine g_aload_n C dL_law_780 rfl ?_
    refine g_iconst C dL_law_781 ?_
    refine g_iconst C dL_law_782 ?_
    refine gc_split C (by decide) tw_748 (Nat.le_of_ble_eq_true rfl) rfl dL_law_783 0 1 (by omega) (by omega) (by omega) hb0 hb1 pg mem (by omega) (by omega) (by rw [← hS7]; omega) s2.1 s2.2.1 s2.2.2.1 (s2.row (by omega) rfl) (s2.row (by omega) rfl) (fun x3 N3 ⟨a0, a1, a2, a3, a4, a5, a6, a7⟩ => ?_)
    subst a0
    have s3 : zSt N3 8 pg mem (lwF L0 L1 pg mem) := s2.next (by omega) a1 rfl a2 a3 a4 (fun o h1 h2 h3 h4 => a7 o h2 h3 h4 (by omega) (by omega) (by omega) (by omega) (by omega) (by omega) (by omega))
    refine g_bipush C dL_law_786 rfl ?_
    refine g_icmp_ne (tgt := 870) C dL_law_788 rfl (by omega) (by omega) (fun h788 => ?_) (fun h788 => ?_)
    · omega
    · refine g_aload_n C dL_law_791 rfl ?_
      refine gc_read C (by decide) tw_476 (Nat.le_of_ble_eq_true rfl) rfl dL_law_792  (?_)
      refine g_aload_n C dL_law_795 rfl ?_
      refine gc_written C (by decide) tw_480 (Nat.le_of_ble_eq_true rfl) rfl dL_law_796  (?_)
      refine g_iadd C dL_law_799 ?_
      refine g_iload C dL_law_800 rfl ?_
      show G X _ 802 _ _
      refine g_iload C dL_law_802 rfl ?_
      refine g_iadd C dL_law_804 ?_
      refine g_icmp_ne_eq (tgt := 870) C dL_law_805 rfl (by rw [a5, a6, x2]; omega) ?_
      show G X _ 808 _ _
      refine g_aload_n C dL_law_808 rfl ?_
      refine g_iconst C dL_law_809 ?_
      refine g_bipush C dL_law_810 rfl ?_
      refine g_iconst C dL_law_812 ?_
      refine gc_join0 C (by decide) tw_710 (Nat.le_of_ble_eq_true rfl) rfl dL_law_813 2 6 (by omega) (by omega) (by omega) bA bB uA uB pg mem (by omega) (by omega) (by rw [← hJ]; exact hJ120) s3.1 s3.2.1 s3.2.2.1 (s3.row (by omega) rfl) (s3.row (by omega) rfl) (fun x4 N4 ⟨b0, b1, b2, b3, b4, b5⟩ => ?_)
      subst b0
      have s4 : zSt N4 9 pg mem (lwF L0 L1 pg mem) := s3.next (by omega) b1 rfl b2 b3 b4 (fun o h1 h2 h3 h4 => b5 o h2 h3 h4 (by omega) (by omega) (by omega) (by omega) (by omega))
      have r7 : zRow N4 7 S := s4.row (by omega) hS7.symm
      have r8 : zRow N4 8 J := s4.row (by omega) hJ.symm
      refine g_bipush C dL_law_816 rfl ?_
      show G X _ 818 _ _
      refine g_icmp_ne (tgt := 870) C dL_law_818 rfl (by omega) (by omega) (fun h818 => ?_) (fun h818 => ?_)
      · omega
      · refine g_aload_n C dL_law_821 rfl ?_
        refine g_bipush C dL_law_822 rfl ?_
        refine gc_size C (by decide) tw_414 (Nat.le_of_ble_eq_true rfl) rfl dL_law_824 7 (by omega) (by omega) s4.1 r7 (?_)
        refine g_iload C dL_law_827 rfl ?_
        refine g_icmp_ne (tgt := 870) C dL_law_829 rfl (by omega) (by omega) (fun h829 => ?_) (fun h829 => ?_)
        · omega
        · refine g_aload_n C dL_law_832 rfl ?_
          refine g_bipush C dL_law_833 rfl ?_
          refine gc_size C (by decide) tw_414 (Nat.le_of_ble_eq_true rfl) rfl dL_law_835 8 (by omega) (by omega) s4.1 r8 (?_)
          refine g_iload C dL_law_838 rfl ?_
          refine g_icmp_ne (tgt := 870) C dL_law_840 rfl (by omega) (by omega) (fun h840 => ?_) (fun h840 => ?_)
          · omega
          · refine g_aload_n C dL_law_843 rfl ?_
            refine g_bipush C dL_law_844 rfl ?_
            refine gc_order C (by decide) tw_435 (Nat.le_of_ble_eq_true rfl) rfl dL_law_846 8 (by omega) (by omega) s4.1 r8 bJ (?_)
            rw [if_pos uJ]
            obtain ⟨y, hy, hy2⟩ := dy_ok (dnB J)
            rw [hy]
            refine g_iconst C dL_law_849 ?_
            refine g_irem C dL_law_850 (by omega) (by omega) ?_
            refine g_iconst C dL_law_851 ?_
            show G X _ 852 _ _
            refine g_icmp_ne (tgt := 870) C dL_law_852 rfl (by omega) (by omega) (fun h852 => ?_) (fun h852 => ?_)
            · omega
            · refine g_aload_n C dL_law_855 rfl ?_
              refine g_bipush C dL_law_856 rfl ?_
              refine gc_distinct C (by decide) tw_450 (Nat.le_of_ble_eq_true rfl) rfl dL_law_858 7 (by omega) (by omega) s4.1 r7 bS (fun x5 N5 ⟨x5e, f5⟩ => ?_)
              rw [dcL_all bS] at x5e
              have s5 := s4.same (M' := N5) (f5 95 (by omega)) (fun o _ => f5 o (by omega))
              have r85 : zRow N5 8 J := s5.row (by omega) hJ.symm
              refine g_aload_n C dL_law_861 rfl ?_
              refine g_bipush C dL_law_862 rfl ?_
              refine gc_distinct C (by decide) tw_450 (Nat.le_of_ble_eq_true rfl) rfl dL_law_864 8 (by omega) (by omega) s5.1 r85 bJ (fun x6 N6 ⟨x6e, f6⟩ => ?_)
              rw [dcL_all bJ] at x6e
              have s6 := s5.same (M' := N6) (f6 95 (by omega)) (fun o _ => f6 o (by omega))
              have q6 := dcL_le J J.length
              rw [dcL_all bJ] at q6
              show G X _ 867 _ _
              refine g_icmp_eq (tgt := 872) C dL_law_867 rfl (by omega) (by omega) (fun h867 => ?_) (fun h867 => ?_)
              · refine g_mask [false, true, false, false, true, false, false, false, false, false, false, false, false, false, false, false, false, false] rfl ?_
                show G X _ 872 [_, _, _, _, _, _, _, _, _, _, _, _, _, _, _, _, _, _] _
                exact lw_join C hend H0 hn1 s6
              · omega
  refine g_iload C dL_law_732 rfl ?_
  refine g_bipush C dL_law_734 rfl ?_
  refine g_icmp_gt (tgt := 744) C dL_law_736 rfl (by omega) (by omega) (fun h736 => ?_) (fun h736 => ?_)
  · refine g_aload_n C dL_law_744 rfl ?_
    refine g_iconst C dL_law_745 ?_
    refine g_iconst C dL_law_746 ?_
    refine gc_share C (by decide) tw_817 (Nat.le_of_ble_eq_true rfl) rfl dL_law_747 0 1 (by omega) (by omega) (by omega) hb0 hb1 (by omega) hS.1 r0 r1 (fun x N ⟨xe, fe⟩ => ?_)
    obtain ⟨y, hy, hy1, hy2⟩ := shV_ge (A := L0) (B := L1) (by omega)
    rw [← xe] at hy
    refine g_dconst0 C dL_law_750 ?_
    refine g_dcmp C dL_law_751 ?_
    show G X _ 752 _ _
    rw [hy]
    refine g_if_lt (tgt := 759) C dL_law_752 rfl (by omega) (fun h752 => ?_) (fun h752 => ?_)
    · omega
    · refine g_iconst C dL_law_755 ?_
      refine g_goto (tgt := 760) C dL_law_756 rfl ?_
      show G X _ 760 _ _
      exact hend _ _ _ dL_law_760
  · refine g_iload C dL_law_739 rfl ?_
    refine g_if_ne (tgt := 761) C dL_law_741 rfl (by omega) (fun h741 => ?_) (fun h741 => ?_)
    · exact k761 (by omega) (by omega) M hS
    · refine g_aload_n C dL_law_744 rfl ?_
      refine g_iconst C dL_law_745 ?_
      refine g_iconst C dL_law_746 ?_
      refine gc_share C (by decide) tw_817 (Nat.le_of_ble_eq_true rfl) rfl dL_law_747 0 1 (by omega) (by omega) (by omega) hb0 hb1 (by omega) hS.1 r0 r1 (fun x N ⟨xe, fe⟩ => ?_)
      obtain ⟨y, hy, hy1, hy2⟩ := shV_ge (A := L0) (B := L1) (by omega)
      rw [← xe] at hy
      refine g_dconst0 C dL_law_750 ?_
      refine g_dcmp C dL_law_751 ?_
      show G X _ 752 _ _
      rw [hy]
      refine g_if_lt (tgt := 759) C dL_law_752 rfl (by omega) (fun h752 => ?_) (fun h752 => ?_)
      · omega
      · refine g_iconst C dL_law_755 ?_
        refine g_goto (tgt := 760) C dL_law_756 rfl ?_
        show G X _ 760 _ _
        exact hend _ _ _ dL_law_760
set_option maxHeartbeats 4000000 in
set_option maxRecDepth 10000 in
theorem lw_pairs {X : z_X} (C : Cx cL_law RL (some .boolean) 100 18 X) (hend : zHend X) {n pg mem : Nat} {L0 L1 : List (Int × Int)} (H : lwH n L0 L1 pg mem) {M : zM} (hS : zSt M 7 pg mem (lwF L0 L1 pg mem)) : G X M 660 [none, some (.ref (zA X 95)), none, none, some (.int (jI (n : Int))), none, none, none, none, none, none, none, none, none, none, none, none, none] [] := by
  have H0 := H
  obtain ⟨hb0, hb1, hl0, hn, hl1, hl2, hpg, hm⟩ := H
  have hA := srL_len L0
  have hB := srL_len L1
  have bA := srL_in (L := L0) (by omega) hb0
  have bB := srL_in (L := L1) (by omega) hb1
  have uA := srL_up (L := L0) (by omega)
  have uB := srL_up (L := L1) (by omega)
  have r2 : zRow M 2 (srL L0) := hS.row (by omega) rfl
  have r6 : zRow M 6 (srL L1) := hS.row (by omega) rfl
  have inn : ∀ (fk : Nat) (i : Nat) (j : Nat), 200 - j < fk → i < (srL L0).length → j ≤ (srL L1).length → (∀ v : Option Value, G X M 726 [none, some (.ref (zA X 95)), none, none, some (.int (jI (n : Int))), none, none, none, none, none, some (.int (jI ((jn0 (srL L0) (srL L1) (i + 1)).length : Int))), some (.int (jI (i : Int))), v, none, none, none, none, none] []) → G X M 679 [none, some (.ref (zA X 95)), none, none, some (.int (jI (n : Int))), none, none, none, none, none, some (.int (jI ((jn0 (srL L0) (srL L1) i).length + kc (List.take j (srL L1)) (kA (srL L0) i) : Nat))), some (.int (jI (i : Int))), some (.int (jI (j : Int))), none, none, none, none, none] [] := by
    intro fk
    induction fk with
    | zero => intro i j hk; exact absurd hk (Nat.not_lt_zero _)
    | succ fk ih =>
      intro i j hk hi j1 kk
      refine g_iload C dL_law_679 rfl ?_
      refine g_aload_n C dL_law_681 rfl ?_
      refine g_bipush C dL_law_682 rfl ?_
      refine gc_size C (by decide) tw_414 (Nat.le_of_ble_eq_true rfl) rfl dL_law_684 6 (by omega) (by omega) hS.1 r6 (?_)
      refine g_icmp_ge (tgt := 726) C dL_law_687 rfl (by omega) (by omega) (fun h687 => ?_) (fun h687 => ?_)
      · obtain rfl : j = (srL L1).length := by omega
        rw [List.take_length, ← jn0_len]
        exact kk _
      · refine g_iload C dL_law_690 rfl ?_
        refine g_aload_n C dL_law_692 rfl ?_
        refine g_iconst C dL_law_693 ?_
        refine g_iload C dL_law_694 rfl ?_
        refine g_iconst C dL_law_696 ?_
        refine gc_at C (by decide) tw_418 (Nat.le_of_ble_eq_true rfl) rfl dL_law_697 2 (by omega) (by omega) i false hi hS.1 r2 (?_)
        rw [if_neg (by decide)]
        show G X _ 700 _ _
        refine g_aload_n C dL_law_700 rfl ?_
        refine g_bipush C dL_law_701 rfl ?_
        refine g_iload C dL_law_703 rfl ?_
        refine g_iconst C dL_law_705 ?_
        refine gc_at C (by decide) tw_418 (Nat.le_of_ble_eq_true rfl) rfl dL_law_706 6 (by omega) (by omega) j false (by omega) hS.1 r6 (?_)
        rw [if_neg (by decide)]
        have hkt := kc_take (srL L1) (show j < (srL L1).length by omega) (kA (srL L0) i)
        have bi := bA.at i
        have bj := bB.at j
        refine g_icmp_ne (tgt := 716) C dL_law_709 rfl (by omega) (by omega) (fun h709 => ?_) (fun h709 => ?_)
        · refine g_iconst C dL_law_716 ?_
          refine g_iadd C dL_law_717 ?_
          refine g_istore C dL_law_718 (Nat.le_of_ble_eq_true rfl) ?_
          show G X _ 720 [_, _, _, _, _, _, _, _, _, _, _, _, _, _, _, _, _, _] _
          refine g_iinc C dL_law_720 rfl ?_
          show G X _ 723 [_, _, _, _, _, _, _, _, _, _, _, _, _, _, _, _, _, _] _
          refine g_goto (tgt := 679) C dL_law_723 rfl ?_
          show G X _ 679 _ _
          rw [if_neg (fun q => h709 q.symm)] at hkt
          rw [show (((jn0 (srL L0) (srL L1) i).length + kc (List.take j (srL L1)) (kA (srL L0) i) : Nat) : Int) + 0 = (((jn0 (srL L0) (srL L1) i).length + kc (List.take (j + 1) (srL L1)) (kA (srL L0) i) : Nat) : Int) by rw [hkt]; omega]
          exact ih i (j + 1) (by omega) hi (by omega) kk
        · refine g_iconst C dL_law_712 ?_
          refine g_goto (tgt := 717) C dL_law_713 rfl ?_
          show G X _ 717 _ _
          refine g_iadd C dL_law_717 ?_
          refine g_istore C dL_law_718 (Nat.le_of_ble_eq_true rfl) ?_
          show G X _ 720 [_, _, _, _, _, _, _, _, _, _, _, _, _, _, _, _, _, _] _
          refine g_iinc C dL_law_720 rfl ?_
          show G X _ 723 [_, _, _, _, _, _, _, _, _, _, _, _, _, _, _, _, _, _] _
          refine g_goto (tgt := 679) C dL_law_723 rfl ?_
          show G X _ 679 _ _
          rw [if_pos h709.symm] at hkt
          rw [show (((jn0 (srL L0) (srL L1) i).length + kc (List.take j (srL L1)) (kA (srL L0) i) : Nat) : Int) + 1 = (((jn0 (srL L0) (srL L1) i).length + kc (List.take (j + 1) (srL L1)) (kA (srL L0) i) : Nat) : Int) by rw [hkt]; omega]
          exact ih i (j + 1) (by omega) hi (by omega) kk
  have out : ∀ (fk : Nat) (i : Nat), 200 - i < fk → i ≤ (srL L0).length → G X M 666 [none, some (.ref (zA X 95)), none, none, some (.int (jI (n : Int))), none, none, none, none, none, some (.int (jI ((jn0 (srL L0) (srL L1) i).length : Int))), some (.int (jI (i : Int))), none, none, none, none, none, none] [] := by
    intro fk
    induction fk with
    | zero => intro i hk; exact absurd hk (Nat.not_lt_zero _)
    | succ fk ih =>
      intro i hk i1
      refine g_iload C dL_law_666 rfl ?_
      refine g_aload_n C dL_law_668 rfl ?_
      refine g_iconst C dL_law_669 ?_
      refine gc_size C (by decide) tw_414 (Nat.le_of_ble_eq_true rfl) rfl dL_law_670 2 (by omega) (by omega) hS.1 r2 (?_)
      refine g_icmp_ge (tgt := 732) C dL_law_673 rfl (by omega) (by omega) (fun h673 => ?_) (fun h673 => ?_)
      · obtain rfl : i = (srL L0).length := by omega
        refine g_mask [false, true, false, false, true, false, false, false, false, false, true, false, false, false, false, false, false, false] rfl ?_
        show G X _ 732 [_, _, _, _, _, _, _, _, _, _, _, _, _, _, _, _, _, _] _
        exact lw_split C hend H0 hS
      · refine g_iconst C dL_law_676 ?_
        refine g_istore C dL_law_677 (Nat.le_of_ble_eq_true rfl) ?_
        show G X _ 679 [_, _, _, _, _, _, _, _, _, _, _, _, _, _, _, _, _, _] _
        refine inn 300 i 0 (by omega) (by omega) (by omega) (fun v => ?_)
        refine g_iinc C dL_law_726 rfl ?_
        show G X _ 729 [_, _, _, _, _, _, _, _, _, _, _, _, _, _, _, _, _, _] _
        refine g_goto (tgt := 666) C dL_law_729 rfl ?_
        show G X _ 666 _ _
        refine g_mask [false, true, false, false, true, false, false, false, false, false, true, true, false, false, false, false, false, false] rfl ?_
        show G X _ 666 [_, _, _, _, _, _, _, _, _, _, _, _, _, _, _, _, _, _] _
        exact ih (i + 1) (by omega) (by omega)
  refine g_iconst C dL_law_660 ?_
  refine g_istore C dL_law_661 (Nat.le_of_ble_eq_true rfl) ?_
  show G X _ 663 [_, _, _, _, _, _, _, _, _, _, _, _, _, _, _, _, _, _] _
  refine g_iconst C dL_law_663 ?_
  refine g_istore C dL_law_664 (Nat.le_of_ble_eq_true rfl) ?_
  show G X _ 666 [_, _, _, _, _, _, _, _, _, _, _, _, _, _, _, _, _, _] _
  exact out 300 0 (by omega) (by omega)
